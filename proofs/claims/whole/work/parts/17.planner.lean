section ZRAW
variable {G : zGt} {X : zXt} {c : Bool} {nL T ce sl pc fr lo mc ms T1 : Nat} {lv : List (Nat × Value)} {st : List Value} {σ : zMem} {cc : ByteArray} {own : String} {ret : Option FieldType} {post : Option Value → zMem → Prop} {isI : Bool} {l : Launch}
theorem z_xand (C : zC G X cc nL own ret c fr lo mc ms T1 post isI l) {x y : Int32} (hd : decode cc pc = .ok (.iand, 1)) (kk : zg G X c nL T ce sl (pc + 1) lv (.int (x &&& y) :: st) σ) : zg G X c nL T ce sl pc lv (.int y :: .int x :: st) σ := fun H locs ls hz hP hS hl hb => lv_iand C.1 C.2.1 hd (kk H locs ls hz hP hS hl hb)
theorem z_xadd (C : zC G X cc nL own ret c fr lo mc ms T1 post isI l) {x y : Int32} (hd : decode cc pc = .ok (.iadd, 1)) (kk : zg G X c nL T ce sl (pc + 1) lv (.int (x + y) :: st) σ) : zg G X c nL T ce sl pc lv (.int y :: .int x :: st) σ := fun H locs ls hz hP hS hl hb => lv_iadd C.1 C.2.1 hd (kk H locs ls hz hP hS hl hb)
theorem z_xsub (C : zC G X cc nL own ret c fr lo mc ms T1 post isI l) {x y : Int32} (hd : decode cc pc = .ok (.isub, 1)) (kk : zg G X c nL T ce sl (pc + 1) lv (.int (x - y) :: st) σ) : zg G X c nL T ce sl pc lv (.int y :: .int x :: st) σ := fun H locs ls hz hP hS hl hb => lv_isub C.1 C.2.1 hd (kk H locs ls hz hP hS hl hb)
theorem z_ldcw (C : zC G X cc nL own ret c fr lo mc ms T1 post isI l) {v : Int32} {index : Nat} (hd : decode cc pc = .ok (.ldc_w index, 3)) (hw : zin (.constant own index v)) (kk : zg G X c nL T ce sl (pc + 3) lv (.int v :: st) σ) : zg G X c nL T ce sl pc lv st σ := fun H locs ls hz hP hS hl hb => lv_ldcw C.1 C.2.1 C.2.2.2.1 (C.2.2.2.2.1.2.2.1.use hw _) hd (kk H locs ls hz hP hS hl hb)
theorem z_xret (C : zC G X cc nL own (some .int) c fr lo ce sl T post isI l) {x : Int32} {a : Int} (hd : decode cc pc = .ok (.ireturn, 1)) (hx : x = zI a) (hp : post (some (.int (zI a))) σ) : zg G X c nL T ce sl pc lv [.int x] σ := by rw [hx]; exact z_iret C hd hp
end ZRAW
def zus (x y : Int32) : Int32 := (x.toUInt32 >>> (y.toUInt32 &&& Int32.toUInt32 31)).toInt32
def zbc1 (x : Int32) : Int32 := x - (zus x (zI 1) &&& 1431655765)
def zbc2 (x : Int32) : Int32 := (x &&& 858993459) + (zus x (zI 2) &&& 858993459)
def zbc3 (x : Int32) : Int32 := (x + zus x (zI 4)) &&& 252645135
def zbc4 (x : Int32) : Int32 := x + zus x (zI 8)
def zbc5 (x : Int32) : Int32 := x + zus x (zI 16)
def zbc (x : Int32) : Int32 := zbc5 (zbc4 (zbc3 (zbc2 (zbc1 x)))) &&& zI 63
set_option maxRecDepth 100000 in
theorem zbc_n : ∀ b : Nat, b < 64 → zbc (zI (b : Int)) = zI (zsum (fun k => (b : Int) / 2 ^ k % 2) 6) := by decide +kernel
theorem zbc_i {p : Int} (h : 0 ≤ p ∧ p < 64) : zbc (zI p) = zI (zsum (fun k => p / 2 ^ k % 2) 6) := by
  obtain ⟨m, rfl⟩ := Int.eq_ofNat_of_zero_le h.1
  exact zbc_n m (by omega)
set_option maxHeartbeats 4000000 in
set_option maxRecDepth 100000 in
theorem c_J6_bitCount_0f7a4 (l : Launch) (G : zGt) (σ : zMem) (p : Int) (hp : 0 ≤ p ∧ p < 64) : zN l G yJ6_bitCount_0f7a4 cJ6_bitCount_0f7a4 1 (some .int) 0 [.int (zI p)] σ (zPi (fun x τ => x = zsum (fun k => p / 2 ^ k % 2) 6 ∧ σ = τ)) := by
  refine zM.of (lv0 := [(0, _)]) (by decide) (Nat.le_of_ble_eq_true rfl) rfl (fun X C => ?_)
  refine z_iload_n (pc := 0) C dJ6_bitCount_0f7a4_0 rfl 0 rfl ?_
  refine z_iload_n (pc := 1) C dJ6_bitCount_0f7a4_1 rfl 0 rfl ?_
  refine z_iconst (pc := 2) C dJ6_bitCount_0f7a4_2 ?_
  refine z_iushr (pc := 3) C dJ6_bitCount_0f7a4_3 rfl ?_
  refine z_ldcw (pc := 4) (v := 1431655765) C dJ6_bitCount_0f7a4_4 (by decide +kernel) ?_
  refine z_xand (pc := 7) C dJ6_bitCount_0f7a4_7 ?_
  refine z_xsub (pc := 8) C dJ6_bitCount_0f7a4_8 ?_
  refine z_istore_n (pc := 9) (lv' := [(0, _)]) C dJ6_bitCount_0f7a4_9 rfl (by decide) rfl ?_
  refine z_iload_n (pc := 10) C dJ6_bitCount_0f7a4_10 rfl 0 rfl ?_
  refine z_ldcw (pc := 11) (v := 858993459) C dJ6_bitCount_0f7a4_11 (by decide +kernel) ?_
  refine z_xand (pc := 14) C dJ6_bitCount_0f7a4_14 ?_
  refine z_iload_n (pc := 15) C dJ6_bitCount_0f7a4_15 rfl 0 rfl ?_
  refine z_iconst (pc := 16) C dJ6_bitCount_0f7a4_16 ?_
  refine z_iushr (pc := 17) C dJ6_bitCount_0f7a4_17 rfl ?_
  refine z_ldcw (pc := 18) (v := 858993459) C dJ6_bitCount_0f7a4_18 (by decide +kernel) ?_
  refine z_xand (pc := 21) C dJ6_bitCount_0f7a4_21 ?_
  refine z_xadd (pc := 22) C dJ6_bitCount_0f7a4_22 ?_
  refine z_istore_n (pc := 23) (lv' := [(0, _)]) C dJ6_bitCount_0f7a4_23 rfl (by decide) rfl ?_
  refine z_iload_n (pc := 24) C dJ6_bitCount_0f7a4_24 rfl 0 rfl ?_
  refine z_iload_n (pc := 25) C dJ6_bitCount_0f7a4_25 rfl 0 rfl ?_
  refine z_iconst (pc := 26) C dJ6_bitCount_0f7a4_26 ?_
  refine z_iushr (pc := 27) C dJ6_bitCount_0f7a4_27 rfl ?_
  refine z_xadd (pc := 28) C dJ6_bitCount_0f7a4_28 ?_
  refine z_ldcw (pc := 29) (v := 252645135) C dJ6_bitCount_0f7a4_29 (by decide +kernel) ?_
  refine z_xand (pc := 32) C dJ6_bitCount_0f7a4_32 ?_
  refine z_istore_n (pc := 33) (lv' := [(0, _)]) C dJ6_bitCount_0f7a4_33 rfl (by decide) rfl ?_
  refine z_iload_n (pc := 34) C dJ6_bitCount_0f7a4_34 rfl 0 rfl ?_
  refine z_iload_n (pc := 35) C dJ6_bitCount_0f7a4_35 rfl 0 rfl ?_
  refine z_bipush (pc := 36) C dJ6_bitCount_0f7a4_36 (by decide +kernel) ?_
  refine z_iushr (pc := 38) C dJ6_bitCount_0f7a4_38 rfl ?_
  refine z_xadd (pc := 39) C dJ6_bitCount_0f7a4_39 ?_
  refine z_istore_n (pc := 40) (lv' := [(0, _)]) C dJ6_bitCount_0f7a4_40 rfl (by decide) rfl ?_
  refine z_iload_n (pc := 41) C dJ6_bitCount_0f7a4_41 rfl 0 rfl ?_
  refine z_iload_n (pc := 42) C dJ6_bitCount_0f7a4_42 rfl 0 rfl ?_
  refine z_bipush (pc := 43) C dJ6_bitCount_0f7a4_43 (by decide +kernel) ?_
  refine z_iushr (pc := 45) C dJ6_bitCount_0f7a4_45 rfl ?_
  refine z_xadd (pc := 46) C dJ6_bitCount_0f7a4_46 ?_
  refine z_istore_n (pc := 47) (lv' := [(0, _)]) C dJ6_bitCount_0f7a4_47 rfl (by decide) rfl ?_
  refine z_iload_n (pc := 48) C dJ6_bitCount_0f7a4_48 rfl 0 rfl ?_
  refine z_bipush (pc := 49) C dJ6_bitCount_0f7a4_49 (by decide +kernel) ?_
  refine z_xand (pc := 51) C dJ6_bitCount_0f7a4_51 ?_
  refine z_xret (pc := 52) C dJ6_bitCount_0f7a4_52 (zbc_i hp) ?_
  have hb := zsum_bd (f := fun k => p / 2 ^ k % 2) (c := 1) (n := 6) (fun k _ => by have := Int.emod_nonneg (p / 2 ^ k) (show (2 : Int) ≠ 0 by decide); have := Int.emod_lt_of_pos (p / 2 ^ k) (show (0 : Int) < 2 by decide); omega)
  exact ⟨_, rfl, by omega, rfl, rfl⟩
theorem zPb_no {σ : zMem} {n m : Nat} {W Q : Nat → Int} {c : Nat} (h : zPb σ n m W Q c) (hW : ∀ c, 0 ≤ W c ∧ W c ≤ 6) (hc : ¬ (W c < σ 50 5 ∨ (W c = σ 50 5 ∧ σ 50 6 < Q c))) : zPb σ n m W Q (c + 1) := by
  have h1 := h.1
  have h2 := h.2.1
  unfold zPb
  rw [zpb_0 (by rw [← h1, ← h2]; exact hc)]
  refine ⟨h1, h2, fun _ k hk => ?_⟩
  rcases Nat.eq_zero_or_pos c with q | q
  · subst q
    have := hW 0
    rw [show (zpb W Q 0).1 = 7 from rfl] at h1
    omega
  · exact h.2.2 q k hk
theorem zPb_yes {σ τ : zMem} {n m : Nat} {W Q : Nat → Int} {c : Nat} (h : zPb σ n m W Q c) (hc : W c < σ 50 5 ∨ (W c = σ 50 5 ∧ σ 50 6 < Q c)) (e5 : τ 50 5 = W c) (e6 : τ 50 6 = Q c) (e7 : ∀ k, k < m → τ 100 k = (zdg n m c k : Int)) : zPb τ n m W Q (c + 1) := by
  have h1 := h.1
  have h2 := h.2.1
  unfold zPb
  rw [zpb_1 (by rw [← h1, ← h2]; exact hc)]
  exact ⟨e5, e6, fun _ => e7⟩
set_option maxHeartbeats 4000000 in
set_option maxRecDepth 100000 in
theorem c_X5_stepAt (l : Launch) (G : zGt) (σ : zMem) (d : Nat) (p : Int) (hp : p = d) (hd : d < 5) : zN l G yX5_stepAt cX5_stepAt 2 (some (.object "ThatchLane$Lane")) 0 [.ref (zB G + 50), .int (zI p)] σ (zPr G (fun r τ => r = 52 + 9 * d ∧ σ = τ)) := by
  refine zM.of (lv0 := [(0, _), (1, _)]) (by decide) (Nat.le_of_ble_eq_true rfl) rfl (fun X C => ?_)
  refine z_iload_n (pc := 0) C dX5_stepAt_0 rfl 1 rfl ?_
  refine z_if_lt (pc := 1) (tgt := 22) C dX5_stepAt_1 (by decide) (by omega) (fun c1 => by exfalso; omega) (fun c1 => ?_)
  refine z_iload_n (pc := 4) C dX5_stepAt_4 rfl 1 rfl ?_
  refine z_aload_n (pc := 5) C dX5_stepAt_5 rfl 0 rfl ?_
  refine z_getR (pc := 6) C (51) fl_X5_11 dX5_stepAt_6 (by first | rfl | assumption) (by omega) rfl (Or.inl rfl) ?_
  refine z_alen (pc := 9) (n := 5) C dX5_stepAt_9 (by first | exact Or.inl rfl | exact Or.inl (by assumption) | exact Or.inr rfl) (by omega) (by decide) ?_
  refine z_icmp_ge (pc := 10) (tgt := 22) C dX5_stepAt_10 (by decide) ⟨by omega, by omega⟩ (fun c10 => by exfalso; omega) (fun c10 => ?_)
  refine z_aload_n (pc := 13) C dX5_stepAt_13 rfl 0 rfl ?_
  refine z_getR (pc := 14) C (51) fl_X5_11 dX5_stepAt_14 (by first | rfl | assumption) (by omega) rfl (Or.inl rfl) ?_
  refine z_iload_n (pc := 17) C dX5_stepAt_17 rfl 1 rfl ?_
  refine z_aaload (pc := 18) C (d) (52 + 9 * d) dX5_stepAt_18 (by first | rfl | assumption) (by omega) hp (by rw [show zl 51 = 5 by decide]; omega) (by omega) (Or.inl rfl) ?_
  refine z_goto (pc := 19) (tgt := 23) C dX5_stepAt_19 (by decide) ?_
  refine z_aret (pc := 23) C dX5_stepAt_23 ?_
  exact ⟨_, rfl, rfl, rfl⟩
set_option maxHeartbeats 4000000 in
set_option maxRecDepth 100000 in
theorem c_X5_weigh (l : Launch) (G : zGt) (σ : zMem) (o n : Nat) (y w : Int) (K R V E : Nat → Int) (hL : zLane o) (h : zLa σ o n y w K R V E) (hr : zLr K R V E) (hn : n ≤ 6) (m c : Nat) (rain : Int) (W Q : Nat → Int) (hm : m ≤ 4) (hx : 0 ≤ rain ∧ rain ≤ 1000) (h4 : σ 50 4 = rain) (hb : zPb σ n m W Q c) (hc : zCh σ n m c) (hW : W c = zsum (zwp R rain) n) (hQ : Q c = zsum R n) (hWb : ∀ c, 0 ≤ W c ∧ W c ≤ 6) (hQb : ∀ c, 0 ≤ Q c ∧ Q c ≤ 120) : zN l G yX5_weigh cX5_weigh 4 (none) 2 [.ref (zB G + 50), .ref (zB G + o)] σ (zPv (fun τ => zPb τ n m W Q (c + 1) ∧ ∀ o k, o ≠ 100 → (o ≠ 50 ∨ (k ≠ 5 ∧ k ≠ 6)) → τ o k = σ o k)) := by
  obtain ⟨k0, u1, u3, u5, u7, k8⟩ := id hL
  obtain ⟨b5, b6, b7⟩ := id hb
  have hbd := zpb_bd hWb hQb c
  have hwc := hWb c
  have hqc := hQb c
  have hbb := zbs_bd (p := zwp R rain) (zwp_bd R rain) n
  have hpp := zpow6 n (by omega)
  have b97 : zRow 97 4 := by decide
  have b99 : zRow 99 4 := by decide
  refine zM.of (lv0 := [(0, _), (1, _)]) (by decide) (Nat.le_of_ble_eq_true rfl) rfl (fun X C => ?_)
  refine z_aload_n (pc := 0) C dX5_weigh_0 rfl 1 rfl ?_
  refine z_aload_n (pc := 1) C dX5_weigh_1 rfl 0 rfl ?_
  refine z_getI (pc := 2) C fl_X5_34 dX5_weigh_2 (by first | rfl | assumption) (by omega) (fun g2 => ?_)
  rw [h4]
  refine z_Vi (pc := 5) C (c_X1_wetBits l G _ _ _ _ _ _ _ _ _ (by first | assumption | omega | decide) (by first | assumption | omega | decide) (by first | assumption | omega | decide) (by first | assumption | omega | decide) _ (by first | assumption | omega | decide)) ml_X5_75 yw_X1_wetBits dX5_weigh_5 (by first | rfl | assumption) (by omega) rfl rfl rfl (Nat.le_of_ble_eq_true rfl) ⟨by decide, by decide⟩ (fun r5 t5 h5 q5 => ?_)
  obtain ⟨rfl, rfl⟩ := q5
  refine z_Si (pc := 8) C (c_J6_bitCount_0f7a4 l G _ _ (by first | assumption | omega | decide)) ml_X5_79 ys_J6_bitCount_0f7a4 dX5_weigh_8 rfl rfl (Nat.le_of_ble_eq_true rfl) ⟨by decide, by decide⟩ (fun r8 t8 h8 q8 => ?_)
  obtain ⟨rfl, rfl⟩ := q8
  rw [zsum_bits (zwp_bd R rain), if_neg (by omega), ← hW]
  refine z_istore_n (pc := 11) (lv' := [(2, _), (0, _), (1, _)]) C dX5_weigh_11 rfl (by decide) rfl ?_
  refine z_aload_n (pc := 12) C dX5_weigh_12 rfl 2 rfl ?_
  refine z_Vi (pc := 13) C (c_X1_reedOfAll l G _ _ _ _ _ _ _ _ _ (by first | assumption | omega | decide) (by first | assumption | omega | decide) (by first | assumption | omega | decide) (by first | assumption | omega | decide)) ml_X5_84 yw_X1_reedOfAll dX5_weigh_13 (by first | rfl | assumption) (by omega) rfl rfl rfl (Nat.le_of_ble_eq_true rfl) ⟨by decide, by decide⟩ (fun r13 t13 h13 q13 => ?_)
  obtain ⟨rfl, rfl⟩ := q13
  rw [← hQ]
  refine z_istore_n (pc := 16) (lv' := [(3, _), (2, _), (0, _), (1, _)]) C dX5_weigh_16 rfl (by decide) rfl ?_
  refine z_iload_n (pc := 17) C dX5_weigh_17 rfl 1 rfl ?_
  refine z_aload_n (pc := 18) C dX5_weigh_18 rfl 2 rfl ?_
  refine z_getI (pc := 19) C fl_X5_37 dX5_weigh_19 (by first | rfl | assumption) (by omega) (fun g19 => ?_)
  refine z_icmp_lt (pc := 22) (tgt := 41) C dX5_weigh_22 (by decide) ⟨by omega, by omega⟩ (fun c22 => ?_) (fun c22 => ?_)
  · refine z_aload_n (pc := 41) C dX5_weigh_41 rfl 2 rfl ?_
    refine z_iload_n (pc := 42) C dX5_weigh_42 rfl 1 rfl ?_
    refine z_putIe (pc := 43) C fl_X5_37 dX5_weigh_43 (by first | rfl | assumption) (by omega) (by omega) (fun m43 em43 => ?_)
    refine z_aload_n (pc := 46) C dX5_weigh_46 rfl 2 rfl ?_
    refine z_iload_n (pc := 47) C dX5_weigh_47 rfl 0 rfl ?_
    refine z_putIe (pc := 48) C fl_X5_40 dX5_weigh_48 (by first | rfl | assumption) (by omega) (by omega) (fun m48 em48 => ?_)
    refine z_aload_n (pc := 51) C dX5_weigh_51 rfl 2 rfl ?_
    refine z_getR (pc := 52) C (99) fl_X5_27 dX5_weigh_52 (by first | rfl | assumption) (by omega) rfl (Or.inl rfl) ?_
    refine z_aload_n (pc := 55) C dX5_weigh_55 rfl 2 rfl ?_
    refine z_getR (pc := 56) C (97) fl_X5_23 dX5_weigh_56 (by first | rfl | assumption) (by omega) rfl (Or.inl rfl) ?_
    refine z_Vv (pc := 59) C (c_X6_take l G _ _ _ _ (by first | assumption | omega | decide) (by first | assumption | omega | decide) (by first | assumption | omega | decide)) ml_X5_88 yw_X6_take dX5_weigh_59 (by first | rfl | assumption) (by omega) rfl rfl rfl (Nat.le_of_ble_eq_true rfl) ⟨by decide, by decide⟩ (fun t59 q59 => ?_)
    refine z_vret (pc := 62) C dX5_weigh_62 ?_
    first
      | exact ⟨rfl, zPb_no hb hWb (by omega), fun _ _ _ _ => rfl⟩
      | exact ⟨rfl, zPb_yes hb (by omega) (by rw [q59, if_neg (by omega), em48, zU_k (by omega), em43]; exact zU_at) (by rw [q59, if_neg (by omega), em48]; exact zU_at) (fun k hk => by rw [q59, if_pos ⟨rfl, by omega⟩, em48, zU_o (by omega), em43, zU_o (by omega)]; exact hc k hk), fun a k h1 h2 => by rw [q59, if_neg (by omega), em48, em43]; unfold zU; rw [if_neg (by omega), if_neg (by omega)]⟩
  · refine z_iload_n (pc := 25) C dX5_weigh_25 rfl 1 rfl ?_
    refine z_aload_n (pc := 26) C dX5_weigh_26 rfl 2 rfl ?_
    refine z_getI (pc := 27) C fl_X5_37 dX5_weigh_27 (by first | rfl | assumption) (by omega) (fun g27 => ?_)
    refine z_icmp_ne (pc := 30) (tgt := 62) C dX5_weigh_30 (by decide) ⟨by omega, by omega⟩ (fun c30 => ?_) (fun c30 => ?_)
    · refine z_vret (pc := 62) C dX5_weigh_62 ?_
      first
        | exact ⟨rfl, zPb_no hb hWb (by omega), fun _ _ _ _ => rfl⟩
        | exact ⟨rfl, zPb_yes hb (by omega) (by rw [q59, if_neg (by omega), em48, zU_k (by omega), em43]; exact zU_at) (by rw [q59, if_neg (by omega), em48]; exact zU_at) (fun k hk => by rw [q59, if_pos ⟨rfl, by omega⟩, em48, zU_o (by omega), em43, zU_o (by omega)]; exact hc k hk), fun a k h1 h2 => by rw [q59, if_neg (by omega), em48, em43]; unfold zU; rw [if_neg (by omega), if_neg (by omega)]⟩
    · refine z_iload_n (pc := 33) C dX5_weigh_33 rfl 0 rfl ?_
      refine z_aload_n (pc := 34) C dX5_weigh_34 rfl 2 rfl ?_
      refine z_getI (pc := 35) C fl_X5_40 dX5_weigh_35 (by first | rfl | assumption) (by omega) (fun g35 => ?_)
      refine z_icmp_le (pc := 38) (tgt := 62) C dX5_weigh_38 (by decide) ⟨by omega, by omega⟩ (fun c38 => ?_) (fun c38 => ?_)
      · refine z_vret (pc := 62) C dX5_weigh_62 ?_
        first
          | exact ⟨rfl, zPb_no hb hWb (by omega), fun _ _ _ _ => rfl⟩
          | exact ⟨rfl, zPb_yes hb (by omega) (by rw [q59, if_neg (by omega), em48, zU_k (by omega), em43]; exact zU_at) (by rw [q59, if_neg (by omega), em48]; exact zU_at) (fun k hk => by rw [q59, if_pos ⟨rfl, by omega⟩, em48, zU_o (by omega), em43, zU_o (by omega)]; exact hc k hk), fun a k h1 h2 => by rw [q59, if_neg (by omega), em48, em43]; unfold zU; rw [if_neg (by omega), if_neg (by omega)]⟩
      · refine z_aload_n (pc := 41) C dX5_weigh_41 rfl 2 rfl ?_
        refine z_iload_n (pc := 42) C dX5_weigh_42 rfl 1 rfl ?_
        refine z_putIe (pc := 43) C fl_X5_37 dX5_weigh_43 (by first | rfl | assumption) (by omega) (by omega) (fun m43 em43 => ?_)
        refine z_aload_n (pc := 46) C dX5_weigh_46 rfl 2 rfl ?_
        refine z_iload_n (pc := 47) C dX5_weigh_47 rfl 0 rfl ?_
        refine z_putIe (pc := 48) C fl_X5_40 dX5_weigh_48 (by first | rfl | assumption) (by omega) (by omega) (fun m48 em48 => ?_)
        refine z_aload_n (pc := 51) C dX5_weigh_51 rfl 2 rfl ?_
        refine z_getR (pc := 52) C (99) fl_X5_27 dX5_weigh_52 (by first | rfl | assumption) (by omega) rfl (Or.inl rfl) ?_
        refine z_aload_n (pc := 55) C dX5_weigh_55 rfl 2 rfl ?_
        refine z_getR (pc := 56) C (97) fl_X5_23 dX5_weigh_56 (by first | rfl | assumption) (by omega) rfl (Or.inl rfl) ?_
        refine z_Vv (pc := 59) C (c_X6_take l G _ _ _ _ (by first | assumption | omega | decide) (by first | assumption | omega | decide) (by first | assumption | omega | decide)) ml_X5_88 yw_X6_take dX5_weigh_59 (by first | rfl | assumption) (by omega) rfl rfl rfl (Nat.le_of_ble_eq_true rfl) ⟨by decide, by decide⟩ (fun t59 q59 => ?_)
        refine z_vret (pc := 62) C dX5_weigh_62 ?_
        first
          | exact ⟨rfl, zPb_no hb hWb (by omega), fun _ _ _ _ => rfl⟩
          | exact ⟨rfl, zPb_yes hb (by omega) (by rw [q59, if_neg (by omega), em48, zU_k (by omega), em43]; exact zU_at) (by rw [q59, if_neg (by omega), em48]; exact zU_at) (fun k hk => by rw [q59, if_pos ⟨rfl, by omega⟩, em48, zU_o (by omega), em43, zU_o (by omega)]; exact hc k hk), fun a k h1 h2 => by rw [q59, if_neg (by omega), em48, em43]; unfold zU; rw [if_neg (by omega), if_neg (by omega)]⟩
set_option maxHeartbeats 4000000 in
set_option maxRecDepth 100000 in
theorem c_goOn_0 (l : Launch) (G : zGt) : zGo l G 0 := by
  intro σ n m y w K s rain d c hd hm hn1 hn hs hy hx hp hb
  obtain rfl : d = m := by omega
  obtain ⟨s3, s4, hch, hla⟩ := id hp
  have hps := zps_r (n := n) (y := y) hs d c
  have hLd := zPlane d (by omega)
  have kd := hLd.1
  refine zM.of (lv0 := [(0, _), (1, _), (2, _)]) (by decide) (Nat.le_of_ble_eq_true rfl) rfl (fun X C => ?_)
  refine z_iload_n (pc := 0) C dX5_goOn_0 rfl 2 rfl ?_
  refine z_aload_n (pc := 1) C dX5_goOn_1 rfl 0 rfl ?_
  refine z_getI (pc := 2) C fl_X5_30 dX5_goOn_2 (by first | rfl | assumption) (by omega) (fun g2 => ?_)
  refine z_icmp_lt (pc := 5) (tgt := 14) C dX5_goOn_5 (by decide) ⟨by omega, by omega⟩ (fun c5 => by exfalso; omega) (fun c5 => ?_)
  refine z_aload_n (pc := 8) C dX5_goOn_8 rfl 0 rfl ?_
  refine z_aload_n (pc := 9) C dX5_goOn_9 rfl 1 rfl ?_
  refine z_Vv (pc := 10) C (c_X5_weigh l G _ _ _ _ _ _ _ _ _ hLd hla hps hn d c rain (zpW n K y s d rain) (zpQ n K y s d) (by omega) hx s4 (by simpa using hb) hch rfl rfl (zpW_bd hn K y s d rain) (zpQ_bd hn hs d)) ml_X5_55 yw_X5_weigh dX5_goOn_10 (by first | rfl | assumption) (by omega) rfl rfl rfl (Nat.le_of_ble_eq_true rfl) ⟨by omega, by decide⟩ (fun t10 q10 => ?_)
  obtain ⟨u10, f10⟩ := q10
  refine z_vret (pc := 13) C dX5_goOn_13 ?_
  refine ⟨rfl, ⟨fun a k ha => f10 a k (by omega) (by omega), fun a k h1 h2 => f10 a k (by omega) (by omega), f10 _ _ (by omega) (by omega), f10 _ _ (by omega) (by omega), fun k hk => f10 _ _ (by omega) (by omega)⟩, by simpa using u10⟩
set_option maxHeartbeats 4000000 in
set_option maxRecDepth 100000 in
theorem c_cheer_open (l : Launch) (G : zGt) (j : Nat) (ih : zGo l G j) (σ : zMem) (n m : Nat) (y w : Int) (K : Nat → Int) (s : zSt) (rain : Int) (d c h : Nat) (hd : d + 1 + j = m) (hm : m ≤ 4) (hh : h < n) (hn : n ≤ 6) (hs : zStr K s) (hy : 0 ≤ y ∧ y ≤ 99000) (hx : 0 ≤ rain ∧ rain ≤ 1000) (hp : zPp σ n m y w K s rain d c) (hb : zPb σ n m (zpW n K y s m rain) (zpQ n K y s m) ((c * n + h) * n ^ j)) :
    zN l G yX5_cheerAndGoOn cX5_cheerAndGoOn 5 none (10 + 2 * j) [.ref (zB G + 50), .ref (zB G + (52 + 9 * d)), .int (zI (d : Int)), .int (zI (h : Int))] σ (zPv (fun τ => zPk σ τ d ∧ zPb τ n m (zpW n K y s m rain) (zpQ n K y s m) ((c * n + h + 1) * n ^ j))) := by
  obtain ⟨s3, s4, hch, hla⟩ := id hp
  have hps := zps_r (n := n) (y := y) hs d c
  have hLd := zPlane d (by omega)
  have kd := hLd.1
  have hLe := zPlane (d + 1) (by omega)
  have ke := hLe.1
  have hps2 := zps_r (n := n) (y := y) hs (d + 1) (c * n + h)
  have b97 : zRow 97 4 := by decide
  have b99 : zRow 99 4 := by decide
  refine zM.of (lv0 := [(0, _), (1, _), (2, _), (3, _)]) (by decide) (Nat.le_of_ble_eq_true rfl) rfl (fun X C => ?_)
  refine z_aload_n (pc := 0) C dX5_cheerAndGoOn_0 rfl 0 rfl ?_
  refine z_iload_n (pc := 1) C dX5_cheerAndGoOn_1 rfl 2 rfl ?_
  refine z_iconst (pc := 2) C dX5_cheerAndGoOn_2 ?_
  refine z_iadd (pc := 3) C dX5_cheerAndGoOn_3 ?_
  refine z_Vr (pc := 4) C (c_X5_stepAt l G _ (d + 1) _ (by omega) (by first | assumption | omega | decide)) ml_X5_43 yw_X5_stepAt dX5_cheerAndGoOn_4 (by first | rfl | assumption) (by omega) rfl rfl rfl (Nat.le_of_ble_eq_true rfl) ⟨by omega, by decide⟩ (fun r4 t4 q4 => ?_)
  obtain ⟨rfl, rfl⟩ := q4
  refine z_astore (pc := 7) (lv' := [(4, _), (0, _), (1, _), (2, _), (3, _)]) C dX5_cheerAndGoOn_7 (by decide) rfl ?_
  refine z_aload (pc := 9) C dX5_cheerAndGoOn_9 0 rfl ?_
  refine z_ifnonnull (pc := 11) (tgt := 15) C dX5_cheerAndGoOn_11 (by decide) ?_
  refine z_aload (pc := 15) C dX5_cheerAndGoOn_15 0 rfl ?_
  refine z_aload_n (pc := 17) C dX5_cheerAndGoOn_17 rfl 2 rfl ?_
  refine z_Vv (pc := 18) C (c_X1_take l G _ _ _ (by first | assumption | omega | decide) (by first | assumption | omega | decide) (by first | assumption | omega | decide)) ml_X5_47 yw_X1_take dX5_cheerAndGoOn_18 (by first | rfl | assumption) (by omega) rfl rfl rfl (Nat.le_of_ble_eq_true rfl) ⟨by omega, by decide⟩ (fun t18 q18 => ?_)
  obtain ⟨f18, e4, e5, e6, eA⟩ := q18
  have hl18 : zLa t18 (52 + 9 * (d + 1)) n (y + (d : Int)) w K (zps n K y s d c).1 (zps n K y s d c).2.1 (zps n K y s d c).2.2 := ⟨e4.trans hla.1, e5.trans hla.2.1, e6.trans hla.2.2.1, fun i hi => by
    obtain ⟨a1, a2, a3, a4⟩ := eA i (by omega)
    obtain ⟨g1, g2, g3, g4⟩ := hla.2.2.2 i hi
    exact ⟨a1.trans g1, a2.trans g2, a3.trans g3, a4.trans g4⟩⟩
  refine z_aload (pc := 21) C dX5_cheerAndGoOn_21 0 rfl ?_
  refine z_iload_n (pc := 23) C dX5_cheerAndGoOn_23 rfl 4 rfl ?_
  refine z_Vv (pc := 24) C (c_X1_cheerUp l G _ _ n _ _ _ _ _ _ hLe hl18 hps hn h _ rfl hh) ml_X5_65 yw_X1_cheerUp dX5_cheerAndGoOn_24 (by first | rfl | assumption) (by omega) rfl rfl rfl (Nat.le_of_ble_eq_true rfl) ⟨by omega, by decide⟩ (fun t24 q24 => ?_)
  obtain ⟨u24, f24⟩ := q24
  refine z_aload (pc := 27) C dX5_cheerAndGoOn_27 0 rfl ?_
  refine z_Vv (pc := 29) C (c_X1_passYear l G _ _ n _ _ _ _ _ _ hLe u24 (fun j => ⟨(hps j).1, (hps j).2.1, zcv1_bd (fun j => (hps j).2.2.1) h j, (hps j).2.2.2⟩) hn (by omega)) ml_X5_68 yw_X1_passYear dX5_cheerAndGoOn_29 (by first | rfl | assumption) (by omega) rfl rfl rfl (Nat.le_of_ble_eq_true rfl) ⟨by omega, by decide⟩ (fun t29 q29 => ?_)
  obtain ⟨u29, f29⟩ := q29
  refine z_aload_n (pc := 32) C dX5_cheerAndGoOn_32 rfl 1 rfl ?_
  refine z_getR (pc := 33) C (97) fl_X5_23 dX5_cheerAndGoOn_33 (by first | rfl | assumption) (by omega) rfl (Or.inl rfl) ?_
  refine z_iload_n (pc := 36) C dX5_cheerAndGoOn_36 rfl 3 rfl ?_
  refine z_iload_n (pc := 37) C dX5_cheerAndGoOn_37 rfl 4 rfl ?_
  refine z_Vv (pc := 38) C (c_X6_put l G _ _ _ (d) _ _ (by first | assumption | omega | decide) (rfl) (by first | assumption | omega | decide) (by first | assumption | omega | decide)) ml_X5_71 yw_X6_put dX5_cheerAndGoOn_38 (by first | rfl | assumption) (by omega) rfl rfl rfl (Nat.le_of_ble_eq_true rfl) ⟨by omega, by decide⟩ (fun t38 q38 => ?_)
  obtain rfl := q38
  have hfr : ∀ a k, a < 52 + 9 * (d + 1) ∨ 52 + 9 * (d + 1) + 9 ≤ a → (a ≠ 98 ∨ k ≠ d) → zU t29 (97 + 1) d (h : Int) a k = σ a k := fun a k h1 h2 => by
    unfold zU
    rw [if_neg (by omega), f29 a k h1, f24 a k h1, f18 a k h1]
  have hp2 : zPp (zU t29 (97 + 1) d (h : Int)) n m y w K s rain (d + 1) (c * n + h) := by
    refine ⟨(hfr _ _ (by omega) (by omega)).trans s3, (hfr _ _ (by omega) (by omega)).trans s4, fun k hk => ?_, ?_⟩
    · rcases (show k < d ∨ k = d by omega) with q | q
      · rw [hfr _ _ (by omega) (by omega), zdg_child q, zc_div hh]
        exact hch k q
      · rw [q, zdg_last, zc_mod hh]
        exact zU_at
    · rw [show zps n K y s (d + 1) (c * n + h) = zstep K (y + (d : Int) + 1) (zps n K y s d c) h by rw [zps, zc_div hh, zc_mod hh]]
      have u2 : zLa (zU t29 (97 + 1) d (h : Int)) (52 + 9 * (d + 1)) n _ _ _ _ _ _ := u29.fr (zFr.put zFr.rf (Nat.le_refl 98) (show 98 < 99 by omega)) (by omega)
      exact u2.ext (by omega) rfl (fun j hj => ⟨rfl, rfl, rfl, rfl⟩)
  have hb2 : zPb (zU t29 (97 + 1) d (h : Int)) n m (zpW n K y s m rain) (zpQ n K y s m) ((c * n + h) * n ^ j) := ⟨(hfr _ _ (by omega) (by omega)).trans hb.1, (hfr _ _ (by omega) (by omega)).trans hb.2.1, fun q k hk => (hfr _ _ (by omega) (by omega)).trans (hb.2.2 q k hk)⟩
  refine z_aload_n (pc := 41) C dX5_cheerAndGoOn_41 rfl 1 rfl ?_
  refine z_aload (pc := 42) C dX5_cheerAndGoOn_42 0 rfl ?_
  refine z_iload_n (pc := 44) C dX5_cheerAndGoOn_44 rfl 3 rfl ?_
  refine z_iconst (pc := 45) C dX5_cheerAndGoOn_45 ?_
  refine z_iadd (pc := 46) C dX5_cheerAndGoOn_46 ?_
  refine z_Vv (pc := 47) C (ih _ n m y w K s rain (d + 1) (c * n + h) (by omega) hm (by omega) hn hs hy hx hp2 hb2) ml_X5_51 yw_X5_goOn dX5_cheerAndGoOn_47 (by first | rfl | assumption) (by omega) rfl rfl rfl (Nat.le_of_ble_eq_true rfl) ⟨by omega, by decide⟩ (fun t47 q47 => ?_)
  obtain ⟨k47, b47⟩ := q47
  refine z_vret (pc := 50) C dX5_cheerAndGoOn_50 ?_
  refine ⟨rfl, ⟨fun a k ha => (k47.1 a k ha).trans (hfr a k (by omega) (by omega)), fun a k h1 h2 => (k47.2.1 a k h1 (by omega)).trans (hfr a k (by omega) (by omega)), k47.2.2.1.trans (hfr _ _ (by omega) (by omega)), k47.2.2.2.1.trans (hfr _ _ (by omega) (by omega)), fun k hk => (k47.2.2.2.2 k (by omega)).trans (hfr _ _ (by omega) (by omega))⟩, b47⟩
set_option maxHeartbeats 4000000 in
set_option maxRecDepth 100000 in
theorem c_goOn_s (l : Launch) (G : zGt) (j : Nat) (ihj : zGo l G j) : zGo l G (j + 1) := by
  intro σ n m y w K s rain d c hd hm hn1 hn hs hy hx hp hb
  obtain ⟨s3, s4, hch, hla⟩ := id hp
  have hps := zps_r (n := n) (y := y) hs d c
  have hLd := zPlane d (by omega)
  have kd := hLd.1
  refine zM.of (lv0 := [(0, _), (1, _), (2, _)]) (by decide) (Nat.le_of_ble_eq_true rfl) rfl (fun X C => ?_)
  have L16 : ∀ (fuel : Nat) (h : Nat) (τ : zMem), n - h < fuel → (h ≤ n ∧ zPk σ τ d ∧ zPb τ n m (zpW n K y s m rain) (zpQ n K y s m) ((c * n + h) * n ^ j)) → zg G X true 4 129 0 0 16 [(0, .ref (zB G + 50)), (1, .ref (zB G + (52 + 9 * d))), (2, .int (zI (d : Int))), (3, .int (zI (h : Int)))] [] τ := by
    intro fuel
    induction fuel with
    | zero => intro h τ hm; exact absurd hm (Nat.not_lt_zero _)
    | succ fuel ih =>
      intro h τ hms hinv
      obtain ⟨h1, h2, h3⟩ := hinv
      have hp2 := hp.keep h2
      obtain ⟨r3, r4, rch, rla⟩ := id hp2
      obtain ⟨g4, g5, g6, gA⟩ := id rla
      refine z_iload_n (pc := 16) C dX5_goOn_16 rfl 3 rfl ?_
      refine z_aload_n (pc := 17) C dX5_goOn_17 rfl 1 rfl ?_
      refine z_getI (pc := 18) C fl_X5_58 dX5_goOn_18 (by first | rfl | assumption) (by omega) (fun g18 => ?_)
      refine z_icmp_ge (pc := 21) (tgt := 37) C dX5_goOn_21 (by decide) ⟨by omega, by omega⟩ (fun c21 => ?_) (fun c21 => ?_)
      · refine z_vret (pc := 37) C dX5_goOn_37 ?_
        obtain rfl : h = n := by omega
        exact ⟨rfl, h2, by rw [Nat.pow_succ, ← Nat.mul_assoc, Nat.mul_right_comm, Nat.add_mul, Nat.one_mul]; exact h3⟩
      · refine z_aload_n (pc := 24) C dX5_goOn_24 rfl 0 rfl ?_
        refine z_aload_n (pc := 25) C dX5_goOn_25 rfl 1 rfl ?_
        refine z_iload_n (pc := 26) C dX5_goOn_26 rfl 2 rfl ?_
        refine z_iload_n (pc := 27) C dX5_goOn_27 rfl 3 rfl ?_
        refine z_Vv (pc := 28) C (c_cheer_open l G j ihj _ n m y w K s rain d c h (by omega) hm (by omega) hn hs hy hx hp2 h3) ml_X5_61 yw_X5_cheerAndGoOn dX5_goOn_28 (by first | rfl | assumption) (by omega) rfl rfl rfl (Nat.le_of_ble_eq_true rfl) ⟨by omega, by decide⟩ (fun t28 q28 => ?_)
        obtain ⟨k28, b28⟩ := q28
        refine z_iinc (pc := 31) (lv' := [(3, _), (0, _), (1, _), (2, _)]) C dX5_goOn_31 3 rfl (by decide) rfl ?_
        refine z_goto (pc := 34) (tgt := 16) C dX5_goOn_34 (by decide) ?_
        refine z_sub C [1, 2, 3, 0] rfl ?_
        exact ih (h + 1) _ (by omega) ⟨by omega, h2.tr k28, b28⟩
  refine z_iload_n (pc := 0) C dX5_goOn_0 rfl 2 rfl ?_
  refine z_aload_n (pc := 1) C dX5_goOn_1 rfl 0 rfl ?_
  refine z_getI (pc := 2) C fl_X5_30 dX5_goOn_2 (by first | rfl | assumption) (by omega) (fun g2 => ?_)
  refine z_icmp_lt (pc := 5) (tgt := 14) C dX5_goOn_5 (by decide) ⟨by omega, by omega⟩ (fun c5 => ?_) (fun c5 => by exfalso; omega)
  refine z_iconst (pc := 14) C dX5_goOn_14 ?_
  refine z_istore_n (pc := 15) (lv' := [(3, _), (0, _), (1, _), (2, _)]) C dX5_goOn_15 rfl (by decide) rfl ?_
  refine z_sub C [1, 2, 3, 0] rfl ?_
  exact L16 _ 0 σ (Nat.lt_succ_self _) ⟨by omega, zPk.rf, by rw [Nat.add_zero, Nat.mul_assoc, Nat.mul_comm n, ← Nat.pow_succ]; exact hb⟩
theorem c_goOn (l : Launch) (G : zGt) : ∀ j, zGo l G j
  | 0 => c_goOn_0 l G
  | j + 1 => c_goOn_s l G j (c_goOn l G j)
set_option maxHeartbeats 4000000 in
set_option maxRecDepth 100000 in
theorem c_X5_search (l : Launch) (G : zGt) (σ : zMem) (o n : Nat) (y w : Int) (K R V E : Nat → Int) (hL : zLane o) (h : zLa σ o n y w K R V E) (hr : zLr K R V E) (hn : n ≤ 6) (m : Nat) (p rain : Int) (hp : p = m) (hm : 1 ≤ m ∧ m ≤ 4) (hx : 0 ≤ rain ∧ rain ≤ 1000) (hn1 : 1 ≤ n) (hy : 0 ≤ y ∧ y ≤ 99000) (ho : o + 9 ≤ 50) : zN l G yX5_search cX5_search 5 (none) 18 [.ref (zB G + 50), .ref (zB G + o), .int (zI p), .int (zI rain)] σ (zPv (fun τ => zPb τ n m (zpW n K y (R, V, E) m rain) (zpQ n K y (R, V, E) m) (n ^ m) ∧ zFr 50 101 σ τ)) := by
  have hLe := zPlane 0 (by omega)
  have ke := hLe.1
  have hs : zStr K (R, V, E) := hr
  refine zM.of (lv0 := [(0, _), (1, _), (2, _), (3, _)]) (by decide) (Nat.le_of_ble_eq_true rfl) rfl (fun X C => ?_)
  refine z_aload_n (pc := 0) C dX5_search_0 rfl 0 rfl ?_
  refine z_iload_n (pc := 1) C dX5_search_1 rfl 2 rfl ?_
  refine z_putIe (pc := 2) C fl_X5_30 dX5_search_2 (by first | rfl | assumption) (by omega) (by omega) (fun m2 em2 => ?_)
  refine z_aload_n (pc := 5) C dX5_search_5 rfl 0 rfl ?_
  refine z_iload_n (pc := 6) C dX5_search_6 rfl 3 rfl ?_
  refine z_putIe (pc := 7) C fl_X5_34 dX5_search_7 (by first | rfl | assumption) (by omega) (by omega) (fun m7 em7 => ?_)
  refine z_aload_n (pc := 10) C dX5_search_10 rfl 0 rfl ?_
  refine z_bipush (pc := 11) C dX5_search_11 (by decide +kernel) ?_
  refine z_putIe (pc := 13) C fl_X5_37 dX5_search_13 (by first | rfl | assumption) (by omega) (by omega) (fun m13 em13 => ?_)
  refine z_aload_n (pc := 16) C dX5_search_16 rfl 0 rfl ?_
  refine z_iconst (pc := 17) C dX5_search_17 ?_
  refine z_putIe (pc := 18) C fl_X5_40 dX5_search_18 (by first | rfl | assumption) (by omega) (by omega) (fun m18 em18 => ?_)
  refine z_aload_n (pc := 21) C dX5_search_21 rfl 0 rfl ?_
  refine z_iconst (pc := 22) C dX5_search_22 ?_
  refine z_Vr (pc := 23) C (c_X5_stepAt l G _ (0) _ (rfl) (by first | assumption | omega | decide)) ml_X5_43 yw_X5_stepAt dX5_search_23 (by first | rfl | assumption) (by omega) rfl rfl rfl (Nat.le_of_ble_eq_true rfl) ⟨by omega, by decide⟩ (fun r23 t23 q23 => ?_)
  obtain ⟨rfl, rfl⟩ := q23
  refine z_astore (pc := 26) (lv' := [(4, _), (0, _), (1, _), (2, _), (3, _)]) C dX5_search_26 (by decide) rfl ?_
  refine z_aload (pc := 28) C dX5_search_28 0 rfl ?_
  refine z_ifnull (pc := 30) C dX5_search_30 ?_
  refine z_aload (pc := 33) C dX5_search_33 0 rfl ?_
  refine z_aload_n (pc := 35) C dX5_search_35 rfl 2 rfl ?_
  refine z_Vv (pc := 36) C (c_X1_take l G _ 52 o hLe hL (by omega)) ml_X5_47 yw_X1_take dX5_search_36 (by first | rfl | assumption) (by omega) rfl rfl rfl (Nat.le_of_ble_eq_true rfl) ⟨by omega, by decide⟩ (fun t36 q36 => ?_)
  obtain ⟨f36, e4, e5, e6, eA⟩ := q36
  have hl := h.fr (τ := m18) (a := 50) (b := 51) (by rw [em18, em13, em7, em2]; exact (((zFr.rf.put (by omega) (by omega)).put (by omega) (by omega)).put (by omega) (by omega)).put (by omega) (by omega)) (by omega)
  have hp2 : zPp t36 n m y w K (R, V, E) rain 0 0 := ⟨by rw [f36 _ _ (by omega), em18, zU_k (by omega), em13, zU_k (by omega), em7, zU_k (by omega), em2, zU_at]; exact hp, by rw [f36 _ _ (by omega), em18, zU_k (by omega), em13, zU_k (by omega), em7, zU_at], fun k hk => by omega, ⟨e4.trans hl.1, e5.trans (hl.2.1.trans (by simp)), e6.trans hl.2.2.1, fun i hi => by
    obtain ⟨a1, a2, a3, a4⟩ := eA i (by omega)
    obtain ⟨g1, g2, g3, g4⟩ := hl.2.2.2 i hi
    exact ⟨a1.trans g1, a2.trans g2, a3.trans g3, a4.trans g4⟩⟩⟩
  have hb2 : zPb t36 n m (zpW n K y (R, V, E) m rain) (zpQ n K y (R, V, E) m) (0 * n ^ m) := by
    rw [Nat.zero_mul]
    exact ⟨by rw [f36 _ _ (by omega), em18, zU_k (by omega), em13, zU_at]; rfl, by rw [f36 _ _ (by omega), em18, zU_at]; rfl, fun q => by omega⟩
  refine z_aload_n (pc := 39) C dX5_search_39 rfl 1 rfl ?_
  refine z_aload (pc := 40) C dX5_search_40 0 rfl ?_
  refine z_iconst (pc := 42) C dX5_search_42 ?_
  refine z_Vv (pc := 43) C (c_goOn l G m _ n m y w K (R, V, E) rain 0 0 (by omega) hm.2 hn1 hn hs hy hx hp2 hb2) ml_X5_51 yw_X5_goOn dX5_search_43 (by first | rfl | assumption) (by omega) rfl rfl rfl (Nat.le_of_ble_eq_true rfl) ⟨by omega, by decide⟩ (fun t43 q43 => ?_)
  obtain ⟨k43, b43⟩ := q43
  refine z_vret (pc := 46) C dX5_search_46 ?_
  refine ⟨rfl, by simpa using b43, fun a k ha => ?_⟩
  rw [k43.1 a k ha, f36 a k (by omega), em18, em13, em7, em2, zU_o (by omega), zU_o (by omega), zU_o (by omega), zU_o (by omega)]
