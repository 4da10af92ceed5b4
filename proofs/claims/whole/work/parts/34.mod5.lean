/-! PLAN, by the model -/
theorem zSv.put {σ : zMem} {n o k : Nat} {y x : Int} {R V E : Nat → Int} (h : zSv σ n y R V E) (hk : ¬ (o = 116 ∨ o = 117 ∨ (o = 108 ∧ (k = 18 ∨ k = 19)))) : zSv (zU σ o k x) n y R V E := by
  have hz : ∀ a b, (a = 116 ∨ a = 117 ∨ (a = 108 ∧ (b = 18 ∨ b = 19))) → zU σ o k x a b = σ a b := fun a b hab => by
    unfold zU; rw [if_neg (by omega)]
  exact ⟨(hz _ _ (by omega)).trans h.1, (hz _ _ (by omega)).trans h.2.1, fun i hi => by rw [hz 116 i (by omega), hz 117 i (by omega)]; exact h.2.2 i hi⟩
def zPn (σ : zMem) (W Q : Nat → Int) (c : Nat) : Prop := (c = 0 ∧ σ 108 20 = 268435456 ∧ σ 108 21 = 0) ∨ (1 ≤ c ∧ σ 108 20 = (zpb W Q c).1 ∧ σ 108 21 = (zpb W Q c).2.1 ∧ σ 108 22 = ((zpb W Q c).2.2 : Int))
theorem zPn.fr {σ τ : zMem} {W Q : Nat → Int} {c : Nat} (h : zPn σ W Q c) (hf : ∀ k, 20 ≤ k → k ≤ 22 → τ 108 k = σ 108 k) : zPn τ W Q c := by
  unfold zPn
  rw [hf 20 (by omega) (by omega), hf 21 (by omega) (by omega), hf 22 (by omega) (by omega)]
  exact h
theorem zPn.s1 {σ τ : zMem} {W Q : Nat → Int} {c : Nat} (h : zPn σ W Q c) (hw : 0 ≤ W c ∧ W c ≤ 6) (hc : W c < σ 108 20 ∨ (W c = σ 108 20 ∧ σ 108 21 < Q c)) (e1 : τ 108 20 = W c) (e2 : τ 108 21 = Q c) (e3 : τ 108 22 = c) : zPn τ W Q (c + 1) := by
  have hz : zpb W Q (c + 1) = (W c, Q c, c) := by
    refine zpb_1 ?_
    rcases h with ⟨h0, -, -⟩ | ⟨-, h1, h2, -⟩
    · subst h0; left; show W 0 < 7; omega
    · rw [← h1, ← h2]; exact hc
  refine Or.inr ⟨by omega, ?_, ?_, ?_⟩ <;> rw [hz]
  · exact e1
  · exact e2
  · exact e3
theorem zPn.s0 {σ τ : zMem} {W Q : Nat → Int} {c : Nat} (h : zPn σ W Q c) (hw : 0 ≤ W c ∧ W c ≤ 6) (hc : ¬ (W c < σ 108 20 ∨ (W c = σ 108 20 ∧ σ 108 21 < Q c))) (hf : ∀ k, 20 ≤ k → k ≤ 22 → τ 108 k = σ 108 k) : zPn τ W Q (c + 1) := by
  rcases h with ⟨h0, h1, h2⟩ | ⟨h0, h1, h2, h3⟩
  · exfalso; omega
  · have hz : zpb W Q (c + 1) = zpb W Q c := zpb_0 (by rw [← h1, ← h2]; exact hc)
    refine Or.inr ⟨by omega, ?_, ?_, ?_⟩ <;> rw [hz, hf _ (by omega) (by omega)] <;> assumption
theorem zpb_c {W Q : Nat → Int} : ∀ c, (zpb W Q c).2.2 ≤ c := by
  intro c
  induction c with
  | zero => simp [zpb]
  | succ c ih =>
    unfold zpb
    split
    · dsimp only; omega
    · omega
theorem znm {n m : Nat} (hn : n ≤ 6) (hm : m ≤ 4) : n ^ m ≤ 1296 := Nat.le_trans (Nat.pow_le_pow_left hn m) (Nat.le_trans (Nat.pow_le_pow_right (by decide) hm) (by decide))
set_option maxHeartbeats 4000000 in
set_option maxRecDepth 100000 in
theorem c_X10_layPlan (l : Launch) (G : zGt) (σ : zMem) (n : Nat) (y : Int) (K R V E : Nat → Int) (h : zMl σ n y K R V E) (hr : zLr K R V E) (hn : n ≤ 6) (m : Nat) (p rain : Int) (hp : p = m) (hm : 1 ≤ m ∧ m ≤ 4) (hx : 0 ≤ rain ∧ rain ≤ 1000) (hn1 : 1 ≤ n) (hy : 0 ≤ y ∧ y ≤ 90000) : zN l G yX10_layPlan cX10_layPlan 8 (none) 4 [.ref (zB G + 108), .int (zI p), .int (zI rain)] σ (zPv (fun τ => zPn τ (zpW n K y (R, V, E) m rain) (zpQ n K y (R, V, E) m) (n ^ m) ∧ zMl τ n y K R V E ∧ zKp σ τ)) := by
  obtain ⟨s1, s6, s5, sA⟩ := id h
  have l109 : zl 109 = 6 := by decide
  have l110 : zl 110 = 6 := by decide
  have l111 : zl 111 = 6 := by decide
  have hE : ∀ j, 0 ≤ E j ∧ E j ≤ 1 := fun j => (hr j).2.2.2
  have hb5 := zbs_bd hE n
  have hq6 := zpow6 n hn
  subst hp
  have hnm := znm hn hm.2
  refine zM.of (lv0 := [(0, _), (1, _), (2, _)]) (by decide) (Nat.le_of_ble_eq_true rfl) rfl (fun X C => ?_)
  have L54 : ∀ (fuel : Nat) (c : Nat) (τ2 : zMem) (_ : c < n ^ m) (_ : ∀ (τ : zMem), (zMl τ n (y + (m : Int)) K (zps n K y (R, V, E) m c).1 (zps n K y (R, V, E) m c).2.1 (zps n K y (R, V, E) m c).2.2 ∧ zKg τ2 τ) → zg G X true 8 129 0 0 93 [(0, .ref (zB G + 108)), (1, .int (zI (m : Int))), (2, .int (zI rain)), (3, .int (zI ((n ^ m : Nat) : Int))), (4, .int (zI (c : Int)))] [] τ) (k : Nat) (pt : Int) (τ : zMem), m - k < fuel → (k ≤ m ∧ pt = (n ^ (m - k) : Nat) ∧ zMl τ n (y + (k : Int)) K (zps n K y (R, V, E) k (c / n ^ (m - k))).1 (zps n K y (R, V, E) k (c / n ^ (m - k))).2.1 (zps n K y (R, V, E) k (c / n ^ (m - k))).2.2 ∧ zKg τ2 τ) → zg G X true 8 129 0 0 54 [(0, .ref (zB G + 108)), (1, .int (zI (m : Int))), (2, .int (zI rain)), (3, .int (zI ((n ^ m : Nat) : Int))), (4, .int (zI (c : Int))), (5, .int (zI pt)), (6, .int (zI (k : Int)))] [] τ := by
    intro fuel
    induction fuel with
    | zero => intro c τ2 hc kk54 k pt τ hm; exact absurd hm (Nat.not_lt_zero _)
    | succ fuel ih =>
      intro c τ2 hc kk54 k pt τ hms hinv
      obtain ⟨h1, hpt, h2, h3⟩ := hinv
      obtain ⟨t1, t6, t5, tA⟩ := id h2
      have hkr := zps_r (n := n) (K := K) (y := y) (s := (R, V, E)) hr k (c / n ^ (m - k))
      refine z_iload (pc := 54) C dX10_layPlan_54 6 rfl ?_
      refine z_iload_n (pc := 56) C dX10_layPlan_56 rfl 1 rfl ?_
      refine z_icmp_ge (pc := 57) (tgt := 93) C dX10_layPlan_57 (by decide) ⟨by omega, by omega⟩ (fun c57 => ?_) (fun c57 => ?_)
      · refine z_sub C [0, 1, 2, 3, 4] rfl ?_
        have hend : zMl τ n (y + (m : Int)) K (zps n K y (R, V, E) m c).1 (zps n K y (R, V, E) m c).2.1 (zps n K y (R, V, E) m c).2.2 := by
          have hkm : k = m := by omega
          rw [hkm, Nat.sub_self, Nat.pow_zero, Nat.div_one] at h2
          exact h2
        exact kk54 τ ⟨hend, h3⟩
      · have hpw : n ^ (m - k) = n ^ (m - (k + 1)) * n := by rw [show m - k = (m - (k + 1)) + 1 by omega, Nat.pow_succ]
        have hp1 : 1 ≤ n ^ (m - (k + 1)) := Nat.one_le_pow _ _ hn1
        have hnm2 := znm hn (show m - k ≤ 4 by omega)
        have hnm3 := znm hn (show m - (k + 1) ≤ 4 by omega)
        have hpt1 : pt / (n : Int) = (n ^ (m - (k + 1)) : Nat) := by rw [hpt, hpw, Int.natCast_mul, Int.mul_ediv_cancel _ (by omega)]
        have hdv : c / n ^ (m - (k + 1)) / n = c / n ^ (m - k) := by rw [Nat.div_div_eq_div_mul, ← hpw]
        obtain ⟨dg, hdg⟩ : ∃ dg, c / n ^ (m - (k + 1)) % n = dg := ⟨_, rfl⟩
        have hdl : dg < n := by rw [← hdg]; exact Nat.mod_lt _ hn1
        have hdg2 : c / n ^ (m - (k + 1)) % n = dg := hdg
        have hdgI : (c : Int) / ((n ^ (m - (k + 1)) : Nat) : Int) % (n : Int) = dg := by rw [← hdg]; rfl
        have hcq : 0 ≤ (c : Int) / ((n ^ (m - (k + 1)) : Nat) : Int) ∧ (c : Int) / ((n ^ (m - (k + 1)) : Nat) : Int) ≤ c := ⟨Int.ediv_nonneg (by omega) (by omega), Int.ediv_le_self _ (by omega)⟩
        refine z_iload (pc := 60) C dX10_layPlan_60 5 rfl ?_
        refine z_aload_n (pc := 62) C dX10_layPlan_62 rfl 0 rfl ?_
        refine z_getI (pc := 63) C fl_X10_101 dX10_layPlan_63 (by first | rfl | assumption) (by omega) (fun g63 => ?_)
        rw [t1]
        refine z_idiv (pc := 66) C dX10_layPlan_66 ⟨⟨by omega, by omega⟩, by omega, by omega⟩ ?_
        refine z_istore (pc := 67) (lv' := [(5, _), (0, _), (1, _), (2, _), (3, _), (4, _), (6, _)]) C dX10_layPlan_67 (by decide) rfl ?_
        rw [hpt1]
        refine z_aload_n (pc := 69) C dX10_layPlan_69 rfl 1 rfl ?_
        refine z_iload (pc := 70) C dX10_layPlan_70 5 rfl ?_
        refine z_iload (pc := 72) C dX10_layPlan_72 0 rfl ?_
        refine z_idiv (pc := 74) C dX10_layPlan_74 ⟨⟨by omega, by omega⟩, by omega, by omega⟩ ?_
        refine z_aload_n (pc := 75) C dX10_layPlan_75 rfl 1 rfl ?_
        refine z_getI (pc := 76) C fl_X10_101 dX10_layPlan_76 (by first | rfl | assumption) (by omega) (fun g76 => ?_)
        rw [t1]
        refine z_irem (pc := 79) C dX10_layPlan_79 ⟨⟨by omega, by omega⟩, by omega, by omega⟩ ?_
        rw [hdgI]
        refine z_Vv (pc := 80) C (c_X10_goCheer l G _ n _ K _ _ _ h2 hkr hn dg _ rfl hdl) ml_X10_164 yw_X10_goCheer dX10_layPlan_80 (by first | rfl | assumption) (by omega) rfl rfl rfl (Nat.le_of_ble_eq_true rfl) ⟨by decide, by decide⟩ (fun t80 q80 => ?_)
        obtain ⟨u80, f80⟩ := q80
        refine z_aload_n (pc := 83) C dX10_layPlan_83 rfl 1 rfl ?_
        have hkr2 : zLr K (zps n K y (R, V, E) k (c / n ^ (m - k))).1 (zcv1 (zps n K y (R, V, E) k (c / n ^ (m - k))).2.1 dg) (zps n K y (R, V, E) k (c / n ^ (m - k))).2.2 := fun j => ⟨(hr j).1, (hkr j).2.1, zcv1_bd (fun j => (hkr j).2.2.1) dg j, (hkr j).2.2.2⟩
        refine z_Vv (pc := 84) C (c_X10_goYear l G _ n _ K _ _ _ u80 hkr2 hn (by omega)) ml_X10_158 yw_X10_goYear dX10_layPlan_84 (by first | rfl | assumption) (by omega) rfl rfl rfl (Nat.le_of_ble_eq_true rfl) ⟨by decide, by decide⟩ (fun t84 q84 => ?_)
        obtain ⟨u84, f84⟩ := q84
        refine z_iinc (pc := 87) (lv' := [(6, _), (5, _), (0, _), (1, _), (2, _), (3, _), (4, _)]) C dX10_layPlan_87 6 rfl (by decide) rfl ?_
        refine z_goto (pc := 90) (tgt := 54) C dX10_layPlan_90 (by decide) ?_
        refine z_sub C [2, 3, 4, 5, 6, 1, 0] rfl ?_
        have hln : zMl t84 n (y + ((k + 1 : Nat) : Int)) K (zps n K y (R, V, E) (k + 1) (c / n ^ (m - (k + 1)))).1 (zps n K y (R, V, E) (k + 1) (c / n ^ (m - (k + 1)))).2.1 (zps n K y (R, V, E) (k + 1) (c / n ^ (m - (k + 1)))).2.2 := by
          refine u84.ext (by omega) (fun j hj => ?_)
          rw [zps, hdv]
          exact ⟨rfl, by rw [hdg2]; rfl, by rw [hdg2]; rfl, rfl⟩
        exact ih c τ2 hc kk54 (k + 1) _ _ (by omega) ⟨by omega, rfl, hln, (h3.tr f80).tr f84⟩
  have L42 : ∀ (fuel : Nat) (c : Nat) (τ : zMem), n ^ m - c < fuel → (c ≤ n ^ m ∧ zMl τ n y K R V E ∧ zSv τ n y R V E ∧ zKp σ τ ∧ zPn τ (zpW n K y (R, V, E) m rain) (zpQ n K y (R, V, E) m) c) → zg G X true 8 129 0 0 42 [(0, .ref (zB G + 108)), (1, .int (zI (m : Int))), (2, .int (zI rain)), (3, .int (zI ((n ^ m : Nat) : Int))), (4, .int (zI (c : Int)))] [] τ := by
    intro fuel
    induction fuel with
    | zero => intro c τ hm; exact absurd hm (Nat.not_lt_zero _)
    | succ fuel ih =>
      intro c τ hms hinv
      obtain ⟨h1, h2, h3, h5, h6⟩ := hinv
      refine z_iload (pc := 42) C dX10_layPlan_42 4 rfl ?_
      refine z_iload_n (pc := 44) C dX10_layPlan_44 rfl 3 rfl ?_
      refine z_icmp_ge (pc := 45) (tgt := 164) C dX10_layPlan_45 (by decide) ⟨by omega, by omega⟩ (fun c45 => ?_) (fun c45 => ?_)
      · refine z_vret (pc := 164) C dX10_layPlan_164 ?_
        obtain rfl : c = n ^ m := by omega
        exact ⟨rfl, h6, h2, h5⟩
      · refine z_iload_n (pc := 48) C dX10_layPlan_48 rfl 3 rfl ?_
        refine z_istore (pc := 49) (lv' := [(5, _), (0, _), (1, _), (2, _), (3, _), (4, _)]) C dX10_layPlan_49 (by decide) rfl ?_
        refine z_iconst (pc := 51) C dX10_layPlan_51 ?_
        refine z_istore (pc := 52) (lv' := [(6, _), (5, _), (0, _), (1, _), (2, _), (3, _), (4, _)]) C dX10_layPlan_52 (by decide) rfl ?_
        refine z_sub C [2, 3, 4, 5, 6, 1, 0] rfl ?_
        refine L54 _ c τ (by omega) ?_ 0 _ _ (Nat.lt_succ_self _) ⟨by omega, rfl, h2.ext (by simp) (fun j hj => ⟨rfl, rfl, rfl, rfl⟩), zKg.rf⟩
        intro τ3 hexit
        obtain ⟨x1, x2⟩ := hexit
        refine z_aload_n (pc := 93) C dX10_layPlan_93 rfl 0 rfl ?_
        refine z_iload_n (pc := 94) C dX10_layPlan_94 rfl 2 rfl ?_
        have hmr := zps_r (n := n) (K := K) (y := y) (s := (R, V, E)) hr m c
        refine z_Vi (pc := 95) C (c_X10_wetBy l G _ n _ K _ _ _ x1 hmr hn rain hx) ml_X10_137 yw_X10_wetBy dX10_layPlan_95 (by first | rfl | assumption) (by omega) rfl rfl rfl (Nat.le_of_ble_eq_true rfl) ⟨by decide, by decide⟩ (fun r95 t95 h95 q95 => ?_)
        obtain ⟨rfl, rfl⟩ := q95
        have hbb := zbs_bd (zwp_bd (zps n K y (R, V, E) m c).1 rain) n
        refine z_Si (pc := 98) C (c_sizeV l G _ _ (zpW n K y (R, V, E) m rain c) (by omega) (zsum_b10 (zwp_bd _ rain) (by omega))) ml_X10_140 ys_X10_size dX10_layPlan_98 rfl rfl (Nat.le_of_ble_eq_true rfl) ⟨by decide, by decide⟩ (fun r98 t98 h98 q98 => ?_)
        obtain ⟨rfl, rfl⟩ := q98
        refine z_istore (pc := 101) (lv' := [(6, _), (0, _), (1, _), (2, _), (3, _), (4, _)]) C dX10_layPlan_101 (by decide) rfl ?_
        refine z_aload_n (pc := 103) C dX10_layPlan_103 rfl 1 rfl ?_
        refine z_Vi (pc := 104) C (c_X10_reedAll l G _ n _ K _ _ _ x1 hmr hn) ml_X10_196 yw_X10_reedAll dX10_layPlan_104 (by first | rfl | assumption) (by omega) rfl rfl rfl (Nat.le_of_ble_eq_true rfl) ⟨by decide, by decide⟩ (fun r104 t104 h104 q104 => ?_)
        obtain ⟨e104, rfl⟩ := q104
        obtain rfl : r104 = zpQ n K y (R, V, E) m c := e104
        have hwb := zpW_bd hn K y (R, V, E) m rain c
        have hqb := zpQ_bd (K := K) (y := y) (s := (R, V, E)) hn hr m c
        have p20 : τ3 108 20 = τ 108 20 := x2 _ _ (by omega)
        have p21 : τ3 108 21 = τ 108 21 := x2 _ _ (by omega)
        refine z_istore (pc := 107) (lv' := [(7, _), (6, _), (0, _), (1, _), (2, _), (3, _), (4, _)]) C dX10_layPlan_107 (by decide) rfl ?_
        refine z_iload (pc := 109) C dX10_layPlan_109 1 rfl ?_
        refine z_aload_n (pc := 111) C dX10_layPlan_111 rfl 2 rfl ?_
        refine z_getI (pc := 112) C fl_X10_190 dX10_layPlan_112 (by first | rfl | assumption) (by omega) (fun g112 => ?_)
        refine z_icmp_lt (pc := 115) (tgt := 136) C dX10_layPlan_115 (by decide) ⟨by omega, by omega⟩ (fun c115 => ?_) (fun c115 => ?_)
        · refine z_aload_n (pc := 136) C dX10_layPlan_136 rfl 2 rfl ?_
          refine z_iload (pc := 137) C dX10_layPlan_137 1 rfl ?_
          refine z_putIe (pc := 139) C fl_X10_190 dX10_layPlan_139 (by first | rfl | assumption) (by omega) (by omega) (fun m139 em139 => ?_)
          refine z_aload_n (pc := 142) C dX10_layPlan_142 rfl 2 rfl ?_
          refine z_iload (pc := 143) C dX10_layPlan_143 0 rfl ?_
          refine z_putIe (pc := 145) C fl_X10_193 dX10_layPlan_145 (by first | rfl | assumption) (by omega) (by omega) (fun m145 em145 => ?_)
          refine z_aload_n (pc := 148) C dX10_layPlan_148 rfl 2 rfl ?_
          refine z_iload (pc := 149) C dX10_layPlan_149 6 rfl ?_
          refine z_putIe (pc := 151) C fl_X10_199 dX10_layPlan_151 (by first | rfl | assumption) (by omega) (by omega) (fun m151 em151 => ?_)
          refine z_aload_n (pc := 154) C dX10_layPlan_154 rfl 2 rfl ?_
          refine z_Vv (pc := 155) C (c_X10_load l G _ n y _ K R V E _ _ _ (by first | exact x1 | (rw [em151, em145, em139]; exact ((x1.put (by omega)).put (by omega)).put (by omega))) (by first | exact h3.kg x2 | (rw [em151, em145, em139]; exact (((h3.kg x2).put (by omega)).put (by omega)).put (by omega))) hr hn (by omega)) ml_X10_183 yw_X10_load dX10_layPlan_155 (by first | rfl | assumption) (by omega) rfl rfl rfl (Nat.le_of_ble_eq_true rfl) ⟨by decide, by decide⟩ (fun t155 q155 => ?_)
          obtain ⟨u155, v155, f155⟩ := q155
          refine z_iinc (pc := 158) (lv' := [(4, _), (7, _), (6, _), (0, _), (1, _), (2, _), (3, _)]) C dX10_layPlan_158 6 rfl (by decide) rfl ?_
          refine z_goto (pc := 161) (tgt := 42) C dX10_layPlan_161 (by decide) ?_
          refine z_sub C [3, 4, 5, 6, 0] rfl ?_
          have hkp : zKp σ t155 := h5.tr ((x2.kp.tr (fun o k ho => by first | rfl | (rw [em151, em145, em139]; unfold zU; rw [if_neg (by omega), if_neg (by omega), if_neg (by omega)]))).tr f155.kp)
          have hpn : zPn t155 (zpW n K y (R, V, E) m rain) (zpQ n K y (R, V, E) m) (c + 1) := by
            first
              | exact (h6.s0 hwb (by rw [← p20, ← p21]; omega) (fun k a b => (f155 108 k (by omega)).trans (x2 108 k (by omega))))
              | exact (h6.s1 hwb (by rw [← p20, ← p21]; omega) (by rw [f155 _ _ (by omega), em151, zU_k (by omega), em145, zU_k (by omega), em139, zU_at]) (by rw [f155 _ _ (by omega), em151, zU_k (by omega), em145, zU_at]) (by rw [f155 _ _ (by omega), em151, zU_at]))
          exact ih (c + 1) _ (by omega) ⟨by omega, u155, v155, hkp, hpn⟩
        · refine z_iload (pc := 118) C dX10_layPlan_118 1 rfl ?_
          refine z_aload_n (pc := 120) C dX10_layPlan_120 rfl 2 rfl ?_
          refine z_getI (pc := 121) C fl_X10_190 dX10_layPlan_121 (by first | rfl | assumption) (by omega) (fun g121 => ?_)
          refine z_icmp_ne (pc := 124) (tgt := 154) C dX10_layPlan_124 (by decide) ⟨by omega, by omega⟩ (fun c124 => ?_) (fun c124 => ?_)
          · refine z_aload_n (pc := 154) C dX10_layPlan_154 rfl 2 rfl ?_
            refine z_Vv (pc := 155) C (c_X10_load l G _ n y _ K R V E _ _ _ (by first | exact x1 | (rw [em151, em145, em139]; exact ((x1.put (by omega)).put (by omega)).put (by omega))) (by first | exact h3.kg x2 | (rw [em151, em145, em139]; exact (((h3.kg x2).put (by omega)).put (by omega)).put (by omega))) hr hn (by omega)) ml_X10_183 yw_X10_load dX10_layPlan_155 (by first | rfl | assumption) (by omega) rfl rfl rfl (Nat.le_of_ble_eq_true rfl) ⟨by decide, by decide⟩ (fun t155 q155 => ?_)
            obtain ⟨u155, v155, f155⟩ := q155
            refine z_iinc (pc := 158) (lv' := [(4, _), (7, _), (6, _), (0, _), (1, _), (2, _), (3, _)]) C dX10_layPlan_158 6 rfl (by decide) rfl ?_
            refine z_goto (pc := 161) (tgt := 42) C dX10_layPlan_161 (by decide) ?_
            refine z_sub C [3, 4, 5, 6, 0] rfl ?_
            have hkp : zKp σ t155 := h5.tr ((x2.kp.tr (fun o k ho => by first | rfl | (rw [em151, em145, em139]; unfold zU; rw [if_neg (by omega), if_neg (by omega), if_neg (by omega)]))).tr f155.kp)
            have hpn : zPn t155 (zpW n K y (R, V, E) m rain) (zpQ n K y (R, V, E) m) (c + 1) := by
              first
                | exact (h6.s0 hwb (by rw [← p20, ← p21]; omega) (fun k a b => (f155 108 k (by omega)).trans (x2 108 k (by omega))))
                | exact (h6.s1 hwb (by rw [← p20, ← p21]; omega) (by rw [f155 _ _ (by omega), em151, zU_k (by omega), em145, zU_k (by omega), em139, zU_at]) (by rw [f155 _ _ (by omega), em151, zU_k (by omega), em145, zU_at]) (by rw [f155 _ _ (by omega), em151, zU_at]))
            exact ih (c + 1) _ (by omega) ⟨by omega, u155, v155, hkp, hpn⟩
          · refine z_iload (pc := 127) C dX10_layPlan_127 0 rfl ?_
            refine z_aload_n (pc := 129) C dX10_layPlan_129 rfl 2 rfl ?_
            refine z_getI (pc := 130) C fl_X10_193 dX10_layPlan_130 (by first | rfl | assumption) (by omega) (fun g130 => ?_)
            refine z_icmp_le (pc := 133) (tgt := 154) C dX10_layPlan_133 (by decide) ⟨by omega, by omega⟩ (fun c133 => ?_) (fun c133 => ?_)
            · refine z_aload_n (pc := 154) C dX10_layPlan_154 rfl 2 rfl ?_
              refine z_Vv (pc := 155) C (c_X10_load l G _ n y _ K R V E _ _ _ (by first | exact x1 | (rw [em151, em145, em139]; exact ((x1.put (by omega)).put (by omega)).put (by omega))) (by first | exact h3.kg x2 | (rw [em151, em145, em139]; exact (((h3.kg x2).put (by omega)).put (by omega)).put (by omega))) hr hn (by omega)) ml_X10_183 yw_X10_load dX10_layPlan_155 (by first | rfl | assumption) (by omega) rfl rfl rfl (Nat.le_of_ble_eq_true rfl) ⟨by decide, by decide⟩ (fun t155 q155 => ?_)
              obtain ⟨u155, v155, f155⟩ := q155
              refine z_iinc (pc := 158) (lv' := [(4, _), (7, _), (6, _), (0, _), (1, _), (2, _), (3, _)]) C dX10_layPlan_158 6 rfl (by decide) rfl ?_
              refine z_goto (pc := 161) (tgt := 42) C dX10_layPlan_161 (by decide) ?_
              refine z_sub C [3, 4, 5, 6, 0] rfl ?_
              have hkp : zKp σ t155 := h5.tr ((x2.kp.tr (fun o k ho => by first | rfl | (rw [em151, em145, em139]; unfold zU; rw [if_neg (by omega), if_neg (by omega), if_neg (by omega)]))).tr f155.kp)
              have hpn : zPn t155 (zpW n K y (R, V, E) m rain) (zpQ n K y (R, V, E) m) (c + 1) := by
                first
                  | exact (h6.s0 hwb (by rw [← p20, ← p21]; omega) (fun k a b => (f155 108 k (by omega)).trans (x2 108 k (by omega))))
                  | exact (h6.s1 hwb (by rw [← p20, ← p21]; omega) (by rw [f155 _ _ (by omega), em151, zU_k (by omega), em145, zU_k (by omega), em139, zU_at]) (by rw [f155 _ _ (by omega), em151, zU_k (by omega), em145, zU_at]) (by rw [f155 _ _ (by omega), em151, zU_at]))
              exact ih (c + 1) _ (by omega) ⟨by omega, u155, v155, hkp, hpn⟩
            · refine z_aload_n (pc := 136) C dX10_layPlan_136 rfl 2 rfl ?_
              refine z_iload (pc := 137) C dX10_layPlan_137 1 rfl ?_
              refine z_putIe (pc := 139) C fl_X10_190 dX10_layPlan_139 (by first | rfl | assumption) (by omega) (by omega) (fun m139 em139 => ?_)
              refine z_aload_n (pc := 142) C dX10_layPlan_142 rfl 2 rfl ?_
              refine z_iload (pc := 143) C dX10_layPlan_143 0 rfl ?_
              refine z_putIe (pc := 145) C fl_X10_193 dX10_layPlan_145 (by first | rfl | assumption) (by omega) (by omega) (fun m145 em145 => ?_)
              refine z_aload_n (pc := 148) C dX10_layPlan_148 rfl 2 rfl ?_
              refine z_iload (pc := 149) C dX10_layPlan_149 6 rfl ?_
              refine z_putIe (pc := 151) C fl_X10_199 dX10_layPlan_151 (by first | rfl | assumption) (by omega) (by omega) (fun m151 em151 => ?_)
              refine z_aload_n (pc := 154) C dX10_layPlan_154 rfl 2 rfl ?_
              refine z_Vv (pc := 155) C (c_X10_load l G _ n y _ K R V E _ _ _ (by first | exact x1 | (rw [em151, em145, em139]; exact ((x1.put (by omega)).put (by omega)).put (by omega))) (by first | exact h3.kg x2 | (rw [em151, em145, em139]; exact (((h3.kg x2).put (by omega)).put (by omega)).put (by omega))) hr hn (by omega)) ml_X10_183 yw_X10_load dX10_layPlan_155 (by first | rfl | assumption) (by omega) rfl rfl rfl (Nat.le_of_ble_eq_true rfl) ⟨by decide, by decide⟩ (fun t155 q155 => ?_)
              obtain ⟨u155, v155, f155⟩ := q155
              refine z_iinc (pc := 158) (lv' := [(4, _), (7, _), (6, _), (0, _), (1, _), (2, _), (3, _)]) C dX10_layPlan_158 6 rfl (by decide) rfl ?_
              refine z_goto (pc := 161) (tgt := 42) C dX10_layPlan_161 (by decide) ?_
              refine z_sub C [3, 4, 5, 6, 0] rfl ?_
              have hkp : zKp σ t155 := h5.tr ((x2.kp.tr (fun o k ho => by first | rfl | (rw [em151, em145, em139]; unfold zU; rw [if_neg (by omega), if_neg (by omega), if_neg (by omega)]))).tr f155.kp)
              have hpn : zPn t155 (zpW n K y (R, V, E) m rain) (zpQ n K y (R, V, E) m) (c + 1) := by
                first
                  | exact (h6.s0 hwb (by rw [← p20, ← p21]; omega) (fun k a b => (f155 108 k (by omega)).trans (x2 108 k (by omega))))
                  | exact (h6.s1 hwb (by rw [← p20, ← p21]; omega) (by rw [f155 _ _ (by omega), em151, zU_k (by omega), em145, zU_k (by omega), em139, zU_at]) (by rw [f155 _ _ (by omega), em151, zU_k (by omega), em145, zU_at]) (by rw [f155 _ _ (by omega), em151, zU_at]))
              exact ih (c + 1) _ (by omega) ⟨by omega, u155, v155, hkp, hpn⟩
  have L5 : ∀ (fuel : Nat) (k : Nat) (cd : Int), m - k < fuel → (k ≤ m ∧ cd = (n ^ k : Nat)) → zg G X true 8 129 0 0 5 [(0, .ref (zB G + 108)), (1, .int (zI (m : Int))), (2, .int (zI rain)), (3, .int (zI cd)), (4, .int (zI (k : Int)))] [] σ := by
    intro fuel
    induction fuel with
    | zero => intro k cd hm; exact absurd hm (Nat.not_lt_zero _)
    | succ fuel ih =>
      intro k cd hms hinv
      obtain ⟨h1, hcd⟩ := hinv
      refine z_iload (pc := 5) C dX10_layPlan_5 4 rfl ?_
      refine z_iload_n (pc := 7) C dX10_layPlan_7 rfl 1 rfl ?_
      refine z_icmp_ge (pc := 8) (tgt := 24) C dX10_layPlan_8 (by decide) ⟨by omega, by omega⟩ (fun c8 => ?_) (fun c8 => ?_)
      · obtain rfl : m = k := by omega
        subst hcd
        refine z_aload_n (pc := 24) C dX10_layPlan_24 rfl 0 rfl ?_
        refine z_ldc (pc := 25) (n := 268435456) C dX10_layPlan_25 cw_X10_189 rfl ?_
        refine z_putIe (pc := 27) C fl_X10_190 dX10_layPlan_27 (by first | rfl | assumption) (by omega) (by omega) (fun m27 em27 => ?_)
        refine z_aload_n (pc := 30) C dX10_layPlan_30 rfl 0 rfl ?_
        refine z_iconst (pc := 31) C dX10_layPlan_31 ?_
        refine z_putIe (pc := 32) C fl_X10_193 dX10_layPlan_32 (by first | rfl | assumption) (by omega) (by omega) (fun m32 em32 => ?_)
        refine z_aload_n (pc := 35) C dX10_layPlan_35 rfl 0 rfl ?_
        refine z_Vv (pc := 36) C (c_X10_save l G _ n y K R V E (by rw [em32, em27]; exact (h.put (by omega)).put (by omega)) hr hn) ml_X10_180 yw_X10_save dX10_layPlan_36 (by first | rfl | assumption) (by omega) rfl rfl rfl (Nat.le_of_ble_eq_true rfl) ⟨by decide, by decide⟩ (fun t36 q36 => ?_)
        obtain ⟨u36, v36, f36⟩ := q36
        refine z_iconst (pc := 39) C dX10_layPlan_39 ?_
        refine z_istore (pc := 40) (lv' := [(4, _), (0, _), (1, _), (2, _), (3, _)]) C dX10_layPlan_40 (by decide) rfl ?_
        refine z_sub C [1, 2, 3, 4, 0] rfl ?_
        have hkp : zKp σ t36 := fun o k ho => by
          rw [f36 o k (by omega) (by omega) (by omega), em32, em27]; unfold zU; rw [if_neg (by omega), if_neg (by omega)]
        exact L42 _ 0 _ (Nat.lt_succ_self _) ⟨by omega, u36, v36, hkp, Or.inl ⟨rfl, by rw [f36 _ _ (by omega) (by omega) (by omega), em32, zU_k (by omega), em27, zU_at], by rw [f36 _ _ (by omega) (by omega) (by omega), em32, zU_at]⟩⟩
      · refine z_iload_n (pc := 11) C dX10_layPlan_11 rfl 3 rfl ?_
        refine z_aload_n (pc := 12) C dX10_layPlan_12 rfl 0 rfl ?_
        refine z_getI (pc := 13) C fl_X10_101 dX10_layPlan_13 (by first | rfl | assumption) (by omega) (fun g13 => ?_)
        refine z_imul (pc := 16) C dX10_layPlan_16 ?_
        refine z_istore_n (pc := 17) (lv' := [(3, _), (0, _), (1, _), (2, _), (4, _)]) C dX10_layPlan_17 rfl (by decide) rfl ?_
        refine z_iinc (pc := 18) (lv' := [(4, _), (3, _), (0, _), (1, _), (2, _)]) C dX10_layPlan_18 4 rfl (by decide) rfl ?_
        refine z_goto (pc := 21) (tgt := 5) C dX10_layPlan_21 (by decide) ?_
        refine z_sub C [2, 3, 4, 1, 0] rfl ?_
        exact ih (k + 1) _ (by omega) ⟨by omega, by rw [hcd, s1, Nat.pow_succ, Int.natCast_mul]⟩
  refine z_iconst (pc := 0) C dX10_layPlan_0 ?_
  refine z_istore_n (pc := 1) (lv' := [(3, _), (0, _), (1, _), (2, _)]) C dX10_layPlan_1 rfl (by decide) rfl ?_
  refine z_iconst (pc := 2) C dX10_layPlan_2 ?_
  refine z_istore (pc := 3) (lv' := [(4, _), (3, _), (0, _), (1, _), (2, _)]) C dX10_layPlan_3 (by decide) rfl ?_
  refine z_sub C [2, 3, 4, 1, 0] rfl ?_
  exact L5 _ 0 1 (Nat.lt_succ_self _) ⟨by omega, rfl⟩
set_option maxHeartbeats 4000000 in
set_option maxRecDepth 100000 in
theorem c_X10_planNow (l : Launch) (G : zGt) (σ : zMem) (n m Cd : Nat) (x0 x1 p what : Int) (hp : p = m) (h1 : σ 108 1 = n) (h20 : σ 108 20 = x0) (h21 : σ 108 21 = x1) (h22 : σ 108 22 = Cd) (hC : Cd ≤ 2000) (hn : 1 ≤ n ∧ n ≤ 6) (hm : 1 ≤ m ∧ m ≤ 4) (hw : (0 ≤ what ∧ what ≤ 1) ∨ (10 ≤ what ∧ what ≤ 13)) : zN l G yX10_planNow cX10_planNow 5 (some .int) 0 [.ref (zB G + 108), .int (zI p), .int (zI what)] σ (zPi (fun x τ => x = (if what = 0 then x0 else if what = 1 then x1 else if what - 10 < m then (zdg n m Cd (what - 10).toNat : Int) else -1) ∧ σ = τ)) := by
  subst hp
  refine zM.of (lv0 := [(0, _), (1, _), (2, _)]) (by decide) (Nat.le_of_ble_eq_true rfl) rfl (fun X C => ?_)
  have L41 : ∀ (fuel : Nat) (t wd : Nat) (z cd : Int), m - t < fuel → ((what - 10 = wd ∧ wd < m ∧ t + 1 + wd ≤ m) ∧ z = (m : Int) - 1 - t ∧ cd = (Cd / n ^ t : Nat)) → zg G X true 5 129 0 0 41 [(0, .ref (zB G + 108)), (1, .int (zI (m : Int))), (2, .int (zI what)), (3, .int (zI cd)), (4, .int (zI z))] [] σ := by
    intro fuel
    induction fuel with
    | zero => intro t wd z cd hm; exact absurd hm (Nat.not_lt_zero _)
    | succ fuel ih =>
      intro t wd z cd hms hinv
      obtain ⟨hwd, hz, hcd⟩ := hinv
      have hcb := Nat.div_le_self Cd (n ^ t)
      obtain ⟨D, hD⟩ : ∃ D, Cd / n ^ t = D := ⟨_, rfl⟩
      have hcd2 : cd = (D : Int) := by rw [hcd, hD]
      rw [hD] at hcb
      refine z_iload (pc := 41) C dX10_planNow_41 4 rfl ?_
      refine z_iload_n (pc := 43) C dX10_planNow_43 rfl 2 rfl ?_
      refine z_bipush (pc := 44) C dX10_planNow_44 (by decide +kernel) ?_
      refine z_isub (pc := 46) C dX10_planNow_46 ?_
      refine z_icmp_le (pc := 47) (tgt := 63) C dX10_planNow_47 (by decide) ⟨by omega, by omega⟩ (fun c47 => ?_) (fun c47 => ?_)
      · refine z_iload_n (pc := 63) C dX10_planNow_63 rfl 3 rfl ?_
        refine z_aload_n (pc := 64) C dX10_planNow_64 rfl 0 rfl ?_
        refine z_getI (pc := 65) C fl_X10_101 dX10_planNow_65 (by first | rfl | assumption) (by omega) (fun g65 => ?_)
        rw [h1]
        refine z_irem (pc := 68) C dX10_planNow_68 ⟨⟨by omega, by omega⟩, by omega, by omega⟩ ?_
        refine z_iret (pc := 69) C dX10_planNow_69 ?_
        have e1 : zdg n m Cd (what - 10).toNat = Cd / n ^ t % n := by rw [hwd.1]; unfold zdg; rw [show m - 1 - (wd : Int).toNat = t by omega]
        have hml := Nat.mod_lt D (show 0 < n by omega)
        have e2 : cd % (n : Int) = ((D % n : Nat) : Int) := by rw [hcd2]; rfl
        rw [hD] at e1
        exact ⟨_, rfl, by omega, by rw [if_neg (by omega), if_neg (by omega), if_pos (by omega), e1]; exact e2, rfl⟩
      · refine z_iload_n (pc := 50) C dX10_planNow_50 rfl 3 rfl ?_
        refine z_aload_n (pc := 51) C dX10_planNow_51 rfl 0 rfl ?_
        refine z_getI (pc := 52) C fl_X10_101 dX10_planNow_52 (by first | rfl | assumption) (by omega) (fun g52 => ?_)
        rw [h1]
        refine z_idiv (pc := 55) C dX10_planNow_55 ⟨⟨by omega, by omega⟩, by omega, by omega⟩ ?_
        refine z_istore_n (pc := 56) (lv' := [(3, _), (0, _), (1, _), (2, _), (4, _)]) C dX10_planNow_56 rfl (by decide) rfl ?_
        refine z_iinc (pc := 57) (lv' := [(4, _), (3, _), (0, _), (1, _), (2, _)]) C dX10_planNow_57 4 rfl (by decide) rfl ?_
        refine z_goto (pc := 60) (tgt := 41) C dX10_planNow_60 (by decide) ?_
        refine z_sub C [2, 3, 4, 1, 0] rfl ?_
        exact ih (t + 1) wd _ _ (by omega) ⟨by omega, by omega, by rw [hcd, Nat.pow_succ, ← Nat.div_div_eq_div_mul]; rfl⟩
  refine z_iload_n (pc := 0) C dX10_planNow_0 rfl 2 rfl ?_
  refine z_iconst (pc := 1) C dX10_planNow_1 ?_
  refine z_icmp_ge (pc := 2) (tgt := 21) C dX10_planNow_2 (by decide) ⟨by omega, by omega⟩ (fun c2 => ?_) (fun c2 => ?_)
  · refine z_iload_n (pc := 21) C dX10_planNow_21 rfl 2 rfl ?_
    refine z_bipush (pc := 22) C dX10_planNow_22 (by decide +kernel) ?_
    refine z_isub (pc := 24) C dX10_planNow_24 ?_
    refine z_iload_n (pc := 25) C dX10_planNow_25 rfl 1 rfl ?_
    refine z_icmp_lt (pc := 26) (tgt := 31) C dX10_planNow_26 (by decide) ⟨by omega, by omega⟩ (fun c26 => ?_) (fun c26 => ?_)
    · refine z_aload_n (pc := 31) C dX10_planNow_31 rfl 0 rfl ?_
      refine z_getI (pc := 32) C fl_X10_199 dX10_planNow_32 (by first | rfl | assumption) (by omega) (fun g32 => ?_)
      refine z_istore_n (pc := 35) (lv' := [(3, _), (0, _), (1, _), (2, _)]) C dX10_planNow_35 rfl (by decide) rfl ?_
      refine z_iload_n (pc := 36) C dX10_planNow_36 rfl 2 rfl ?_
      refine z_iconst (pc := 37) C dX10_planNow_37 ?_
      refine z_isub (pc := 38) C dX10_planNow_38 ?_
      refine z_istore (pc := 39) (lv' := [(4, _), (3, _), (0, _), (1, _), (2, _)]) C dX10_planNow_39 (by decide) rfl ?_
      refine z_sub C [2, 3, 4, 1, 0] rfl ?_
      exact L41 _ 0 (what - 10).toNat _ _ (Nat.lt_succ_self _) ⟨by omega, by omega, by rw [h22, Nat.pow_zero, Nat.div_one]⟩
    · refine z_iconst (pc := 29) C dX10_planNow_29 ?_
      refine z_iret (pc := 30) C dX10_planNow_30 ?_
      exact ⟨_, rfl, by omega, by rw [if_neg (by omega), if_neg (by omega), if_neg (by omega)], rfl⟩
  · refine z_iload_n (pc := 5) C dX10_planNow_5 rfl 2 rfl ?_
    refine z_if_ne (pc := 6) (tgt := 16) C dX10_planNow_6 (by decide) (by omega) (fun c6 => ?_) (fun c6 => ?_)
    · refine z_aload_n (pc := 16) C dX10_planNow_16 rfl 0 rfl ?_
      refine z_getI (pc := 17) C fl_X10_193 dX10_planNow_17 (by first | rfl | assumption) (by omega) (fun g17 => ?_)
      refine z_iret (pc := 20) C dX10_planNow_20 ?_
      first
        | (exfalso; omega)
        | exact ⟨_, rfl, by assumption, by rw [if_pos (by omega)]; exact h20, rfl⟩
        | exact ⟨_, rfl, by assumption, by rw [if_neg (by omega), if_pos (by omega)]; exact h21, rfl⟩
    · refine z_aload_n (pc := 9) C dX10_planNow_9 rfl 0 rfl ?_
      refine z_getI (pc := 10) C fl_X10_190 dX10_planNow_10 (by first | rfl | assumption) (by omega) (fun g10 => ?_)
      refine z_goto (pc := 13) (tgt := 20) C dX10_planNow_13 (by decide) ?_
      refine z_iret (pc := 20) C dX10_planNow_20 ?_
      first
        | (exfalso; omega)
        | exact ⟨_, rfl, by assumption, by rw [if_pos (by omega)]; exact h20, rfl⟩
        | exact ⟨_, rfl, by assumption, by rw [if_neg (by omega), if_pos (by omega)]; exact h21, rfl⟩
set_option maxHeartbeats 4000000 in
set_option maxRecDepth 100000 in
theorem c_X10_plan (l : Launch) (G : zGt) (σ : zMem) (n : Nat) (y : Int) (K R V E : Nat → Int) (h : zMl σ n y K R V E) (hr : zLr K R V E) (hn : n ≤ 6) (p rain what : Int) (hp : zR p) (hx : zR rain) (hw : zR what) (hy : 0 ≤ y ∧ y ≤ 90000) : zN l G yX10_plan cX10_plan 4 (some .int) 5 [.ref (zB G + 108), .int (zI p), .int (zI rain), .int (zI what)] σ (zPi (fun x τ => x = zaPlan n y K R V E p rain what ∧ zMl τ n y K R V E ∧ zKp σ τ)) := by
  obtain ⟨s1, s6, s5, sA⟩ := id h
  have l109 : zl 109 = 6 := by decide
  have l110 : zl 110 = 6 := by decide
  have l111 : zl 111 = 6 := by decide
  have hE : ∀ j, 0 ≤ E j ∧ E j ≤ 1 := fun j => (hr j).2.2.2
  have hb5 := zbs_bd hE n
  have hq6 := zpow6 n hn
  refine zM.of (lv0 := [(0, _), (1, _), (2, _), (3, _)]) (by decide) (Nat.le_of_ble_eq_true rfl) rfl (fun X C => ?_)
  refine z_iload_n (pc := 0) C dX10_plan_0 rfl 1 rfl ?_
  refine z_iconst (pc := 1) C dX10_plan_1 ?_
  refine z_iconst (pc := 2) C dX10_plan_2 ?_
  refine z_Si (pc := 3) C (c_X10_within l G _ _ _ _ (by first | assumption | omega | decide) (by first | assumption | omega | decide) (by first | assumption | omega | decide)) ml_X10_71 ys_X10_within dX10_plan_3 rfl rfl (Nat.le_of_ble_eq_true rfl) ⟨by decide, by decide⟩ (fun r3 t3 h3 q3 => ?_)
  obtain ⟨w3, rfl⟩ := q3
  refine z_if_eq (pc := 6) (tgt := 36) C dX10_plan_6 (by decide) (by omega) (fun c6 => ?_) (fun c6 => ?_)
  · refine z_bipush (pc := 36) C dX10_plan_36 (by decide +kernel) ?_
    refine z_iret (pc := 38) C dX10_plan_38 ?_
    exact ⟨_, rfl, by omega, by rw [zaPlan, if_neg (by omega)], h, zKp.rf⟩
  · refine z_iload_n (pc := 9) C dX10_plan_9 rfl 2 rfl ?_
    refine z_Si (pc := 10) C (c_X10_isRain l G _ _ (by first | assumption | omega | decide)) ml_X10_155 ys_X10_isRain dX10_plan_10 rfl rfl (Nat.le_of_ble_eq_true rfl) ⟨by decide, by decide⟩ (fun r10 t10 h10 q10 => ?_)
    obtain ⟨w10, rfl⟩ := q10
    refine z_if_eq (pc := 13) (tgt := 36) C dX10_plan_13 (by decide) (by omega) (fun c13 => ?_) (fun c13 => ?_)
    · refine z_bipush (pc := 36) C dX10_plan_36 (by decide +kernel) ?_
      refine z_iret (pc := 38) C dX10_plan_38 ?_
      exact ⟨_, rfl, by omega, by rw [zaPlan, if_neg (by omega)], h, zKp.rf⟩
    · refine z_iload_n (pc := 16) C dX10_plan_16 rfl 3 rfl ?_
      refine z_iconst (pc := 17) C dX10_plan_17 ?_
      refine z_iconst (pc := 18) C dX10_plan_18 ?_
      refine z_Si (pc := 19) C (c_X10_within l G _ _ _ _ (by first | assumption | omega | decide) (by first | assumption | omega | decide) (by first | assumption | omega | decide)) ml_X10_71 ys_X10_within dX10_plan_19 rfl rfl (Nat.le_of_ble_eq_true rfl) ⟨by decide, by decide⟩ (fun r19 t19 h19 q19 => ?_)
      obtain ⟨w19, rfl⟩ := q19
      refine z_if_ne (pc := 22) (tgt := 39) C dX10_plan_22 (by decide) (by omega) (fun c22 => ?_) (fun c22 => ?_)
      · refine z_aload_n (pc := 39) C dX10_plan_39 rfl 0 rfl ?_
        refine z_getI (pc := 40) C fl_X10_101 dX10_plan_40 (by first | rfl | assumption) (by omega) (fun g40 => ?_)
        refine z_if_ne (pc := 43) (tgt := 49) C dX10_plan_43 (by decide) (by omega) (fun c43 => ?_) (fun c43 => ?_)
        · obtain ⟨m, rfl⟩ : ∃ m : Nat, p = m := ⟨p.toNat, by omega⟩
          refine z_aload_n (pc := 49) C dX10_plan_49 rfl 0 rfl ?_
          refine z_iload_n (pc := 50) C dX10_plan_50 rfl 1 rfl ?_
          refine z_iload_n (pc := 51) C dX10_plan_51 rfl 2 rfl ?_
          refine z_Vv (pc := 52) C (c_X10_layPlan l G _ n y K R V E h hr hn m _ rain rfl (by omega) (by omega) (by omega) hy) ml_X10_202 yw_X10_layPlan dX10_plan_52 (by first | rfl | assumption) (by omega) rfl rfl rfl (Nat.le_of_ble_eq_true rfl) ⟨by decide, by decide⟩ (fun t52 q52 => ?_)
          obtain ⟨b52, u52, f52⟩ := q52
          have hpw : 1 ≤ n ^ m := Nat.one_le_pow _ _ (by omega)
          obtain ⟨b20, b21, b22⟩ : t52 108 20 = (zpb (zpW n K y (R, V, E) m rain) (zpQ n K y (R, V, E) m) (n ^ m)).1 ∧ t52 108 21 = (zpb (zpW n K y (R, V, E) m rain) (zpQ n K y (R, V, E) m) (n ^ m)).2.1 ∧ t52 108 22 = ((zpb (zpW n K y (R, V, E) m rain) (zpQ n K y (R, V, E) m) (n ^ m)).2.2 : Int) := by rcases b52 with q | q; (exfalso; omega); exact q.2
          have hcc := zpb_c (W := zpW n K y (R, V, E) m rain) (Q := zpQ n K y (R, V, E) m) (n ^ m)
          have hnm := znm hn (show m ≤ 4 by omega)
          refine z_aload_n (pc := 55) C dX10_plan_55 rfl 0 rfl ?_
          refine z_iload_n (pc := 56) C dX10_plan_56 rfl 1 rfl ?_
          refine z_iload_n (pc := 57) C dX10_plan_57 rfl 3 rfl ?_
          refine z_Vi (pc := 58) C (c_X10_planNow l G _ n m _ _ _ _ what rfl u52.1 b20 b21 b22 (by omega) (by omega) (by omega) (by omega)) ml_X10_206 yw_X10_planNow dX10_plan_58 (by first | rfl | assumption) (by omega) rfl rfl rfl (Nat.le_of_ble_eq_true rfl) ⟨by decide, by decide⟩ (fun r58 t58 h58 q58 => ?_)
          obtain ⟨e58, rfl⟩ := q58
          refine z_iret (pc := 61) C dX10_plan_61 ?_
          exact ⟨_, rfl, by assumption, by rw [zaPlan, if_pos (by omega), if_neg (by omega)]; exact e58, u52, f52⟩
        · refine z_bipush (pc := 46) C dX10_plan_46 (by decide +kernel) ?_
          refine z_iret (pc := 48) C dX10_plan_48 ?_
          exact ⟨_, rfl, by omega, by rw [zaPlan, if_pos (by omega), if_pos (by omega)], h, zKp.rf⟩
      · refine z_iload_n (pc := 25) C dX10_plan_25 rfl 3 rfl ?_
        refine z_bipush (pc := 26) C dX10_plan_26 (by decide +kernel) ?_
        refine z_bipush (pc := 28) C dX10_plan_28 (by decide +kernel) ?_
        refine z_Si (pc := 30) C (c_X10_within l G _ _ _ _ (by first | assumption | omega | decide) (by first | assumption | omega | decide) (by first | assumption | omega | decide)) ml_X10_71 ys_X10_within dX10_plan_30 rfl rfl (Nat.le_of_ble_eq_true rfl) ⟨by decide, by decide⟩ (fun r30 t30 h30 q30 => ?_)
        obtain ⟨w30, rfl⟩ := q30
        refine z_if_ne (pc := 33) (tgt := 39) C dX10_plan_33 (by decide) (by omega) (fun c33 => ?_) (fun c33 => ?_)
        · refine z_aload_n (pc := 39) C dX10_plan_39 rfl 0 rfl ?_
          refine z_getI (pc := 40) C fl_X10_101 dX10_plan_40 (by first | rfl | assumption) (by omega) (fun g40 => ?_)
          refine z_if_ne (pc := 43) (tgt := 49) C dX10_plan_43 (by decide) (by omega) (fun c43 => ?_) (fun c43 => ?_)
          · obtain ⟨m, rfl⟩ : ∃ m : Nat, p = m := ⟨p.toNat, by omega⟩
            refine z_aload_n (pc := 49) C dX10_plan_49 rfl 0 rfl ?_
            refine z_iload_n (pc := 50) C dX10_plan_50 rfl 1 rfl ?_
            refine z_iload_n (pc := 51) C dX10_plan_51 rfl 2 rfl ?_
            refine z_Vv (pc := 52) C (c_X10_layPlan l G _ n y K R V E h hr hn m _ rain rfl (by omega) (by omega) (by omega) hy) ml_X10_202 yw_X10_layPlan dX10_plan_52 (by first | rfl | assumption) (by omega) rfl rfl rfl (Nat.le_of_ble_eq_true rfl) ⟨by decide, by decide⟩ (fun t52 q52 => ?_)
            obtain ⟨b52, u52, f52⟩ := q52
            have hpw : 1 ≤ n ^ m := Nat.one_le_pow _ _ (by omega)
            obtain ⟨b20, b21, b22⟩ : t52 108 20 = (zpb (zpW n K y (R, V, E) m rain) (zpQ n K y (R, V, E) m) (n ^ m)).1 ∧ t52 108 21 = (zpb (zpW n K y (R, V, E) m rain) (zpQ n K y (R, V, E) m) (n ^ m)).2.1 ∧ t52 108 22 = ((zpb (zpW n K y (R, V, E) m rain) (zpQ n K y (R, V, E) m) (n ^ m)).2.2 : Int) := by rcases b52 with q | q; (exfalso; omega); exact q.2
            have hcc := zpb_c (W := zpW n K y (R, V, E) m rain) (Q := zpQ n K y (R, V, E) m) (n ^ m)
            have hnm := znm hn (show m ≤ 4 by omega)
            refine z_aload_n (pc := 55) C dX10_plan_55 rfl 0 rfl ?_
            refine z_iload_n (pc := 56) C dX10_plan_56 rfl 1 rfl ?_
            refine z_iload_n (pc := 57) C dX10_plan_57 rfl 3 rfl ?_
            refine z_Vi (pc := 58) C (c_X10_planNow l G _ n m _ _ _ _ what rfl u52.1 b20 b21 b22 (by omega) (by omega) (by omega) (by omega)) ml_X10_206 yw_X10_planNow dX10_plan_58 (by first | rfl | assumption) (by omega) rfl rfl rfl (Nat.le_of_ble_eq_true rfl) ⟨by decide, by decide⟩ (fun r58 t58 h58 q58 => ?_)
            obtain ⟨e58, rfl⟩ := q58
            refine z_iret (pc := 61) C dX10_plan_61 ?_
            exact ⟨_, rfl, by assumption, by rw [zaPlan, if_pos (by omega), if_neg (by omega)]; exact e58, u52, f52⟩
          · refine z_bipush (pc := 46) C dX10_plan_46 (by decide +kernel) ?_
            refine z_iret (pc := 48) C dX10_plan_48 ?_
            exact ⟨_, rfl, by omega, by rw [zaPlan, if_pos (by omega), if_pos (by omega)], h, zKp.rf⟩
        · refine z_bipush (pc := 36) C dX10_plan_36 (by decide +kernel) ?_
          refine z_iret (pc := 38) C dX10_plan_38 ?_
          exact ⟨_, rfl, by omega, by rw [zaPlan, if_neg (by omega)], h, zKp.rf⟩
