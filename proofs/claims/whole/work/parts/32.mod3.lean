set_option maxHeartbeats 4000000 in
set_option maxRecDepth 100000 in
theorem c_X10_read (l : Launch) (G : zGt) (σ : zMem) (m : Nat) (P : Nat → Int) (hg : zMg σ m P) (hpr : zPr0 P) (hm : m ≤ 26) : zN l G yX10_read cX10_read 2 (some .int) 2 [.ref (zB G + 108)] σ (zPi (fun x τ => x = zff P m ∧ ((zIsL P m ∧ τ 108 14 = 1 ∧ τ 108 15 = ((m + 1) / 4 : Nat)) ∨ (¬ zIsL P m ∧ τ 108 14 = 0)) ∧ ∀ o k, (o ≠ 108 ∨ (k ≠ 14 ∧ k ≠ 15)) → τ o k = σ o k)) := by
  obtain ⟨hg1, hgP⟩ := id hg
  have l115 : zl 115 = 26 := by decide
  refine zM.of (lv0 := [(0, _)]) (by decide) (Nat.le_of_ble_eq_true rfl) rfl (fun X C => ?_)
  have L12 : ∀ (fuel : Nat) (j : Nat) (τ : zMem), 6 - j < fuel → (j ≤ 5 ∧ 4 * j ≤ m ∧ zfx P (m - 4 * j) (4 * j) = zff P m ∧ τ 108 15 = j ∧ τ 108 14 = 0 ∧ ∀ o k, (o ≠ 108 ∨ (k ≠ 14 ∧ k ≠ 15)) → τ o k = σ o k) → zg G X true 2 129 0 0 12 [(0, .ref (zB G + 108)), (1, .int (zI ((4 * j : Nat) : Int)))] [] τ := by
    intro fuel
    induction fuel with
    | zero => intro j τ hm; exact absurd hm (Nat.not_lt_zero _)
    | succ fuel ih =>
      intro j τ hms hinv
      obtain ⟨h1, h2, h3, h15, h14, h5⟩ := hinv
      refine z_aload_n (pc := 12) C dX10_read_12 rfl 0 rfl ?_
      refine z_getI (pc := 13) C fl_X10_87 dX10_read_13 (by first | rfl | assumption) (by omega) (fun g13 => ?_)
      refine z_bipush (pc := 16) C dX10_read_16 (by decide +kernel) ?_
      refine z_icmp_ge (pc := 18) (tgt := 120) C dX10_read_18 (by decide) ⟨by omega, by omega⟩ (fun c18 => by exfalso; omega) (fun c18 => ?_)
      have hg2 : zMg τ m P := ⟨(h5 _ _ (by omega)).trans hg1, fun i hi => (h5 _ _ (by omega)).trans (hgP i hi)⟩
      have hz := zat_bd hpr m (4 * j)
      refine z_aload_n (pc := 21) C dX10_read_21 rfl 0 rfl ?_
      refine z_iload_n (pc := 22) C dX10_read_22 rfl 1 rfl ?_
      refine z_Vi (pc := 23) C (c_X10_at l G _ m P hg2 hpr hm (4 * j) _ rfl (by omega)) ml_X10_79 yw_X10_at dX10_read_23 (by first | rfl | assumption) (by omega) rfl rfl rfl (Nat.le_of_ble_eq_true rfl) ⟨by decide, by decide⟩ (fun r23 t23 h23 q23 => ?_)
      obtain ⟨rfl, rfl⟩ := q23
      refine z_Si (pc := 26) C (c_X10_kindBy l G _ _ (by first | assumption | omega | decide)) ml_X10_90 ys_X10_kindBy dX10_read_26 rfl rfl (Nat.le_of_ble_eq_true rfl) ⟨by decide, by decide⟩ (fun r26 t26 h26 q26 => ?_)
      obtain ⟨rfl, rfl⟩ := q26
      refine z_iconst (pc := 29) C dX10_read_29 ?_
      refine z_icmp_ne (pc := 30) (tgt := 35) C dX10_read_30 (by decide) ⟨by omega, by omega⟩ (fun c30 => ?_) (fun c30 => ?_)
      · have x35 := zst1 (by rw [zms_0p (by omega) (by omega)]; exact c30) h3
        refine z_aload_n (pc := 35) C dX10_read_35 rfl 0 rfl ?_
        refine z_iload_n (pc := 36) C dX10_read_36 rfl 1 rfl ?_
        refine z_iconst (pc := 37) C dX10_read_37 ?_
        refine z_iadd (pc := 38) C dX10_read_38 ?_
        refine z_Vi (pc := 39) C (c_X10_isFigure l G _ m P hg2 hpr hm (4 * j + 1) _ (by omega) (by omega)) ml_X10_93 yw_X10_isFigure dX10_read_39 (by first | rfl | assumption) (by omega) rfl rfl rfl (Nat.le_of_ble_eq_true rfl) ⟨by decide, by decide⟩ (fun r39 t39 h39 q39 => ?_)
        obtain ⟨w39, rfl⟩ := q39
        refine z_if_ne (pc := 42) (tgt := 49) C dX10_read_42 (by decide) (by omega) (fun c42 => ?_) (fun c42 => ?_)
        · have x49 : 4 * j + 1 < m ∧ zfx P (m - (4 * j + 2)) (4 * j + 2) = zff P m := zst1 (by rw [zms_12p (by omega) (by omega)]; omega) x35.2
          refine z_aload_n (pc := 49) C dX10_read_49 rfl 0 rfl ?_
          refine z_iload_n (pc := 50) C dX10_read_50 rfl 1 rfl ?_
          refine z_iconst (pc := 51) C dX10_read_51 ?_
          refine z_iadd (pc := 52) C dX10_read_52 ?_
          refine z_Vi (pc := 53) C (c_X10_isFigure l G _ m P hg2 hpr hm (4 * j + 2) _ (by omega) (by omega)) ml_X10_93 yw_X10_isFigure dX10_read_53 (by first | rfl | assumption) (by omega) rfl rfl rfl (Nat.le_of_ble_eq_true rfl) ⟨by decide, by decide⟩ (fun r53 t53 h53 q53 => ?_)
          obtain ⟨w53, rfl⟩ := q53
          refine z_if_ne (pc := 56) (tgt := 63) C dX10_read_56 (by decide) (by omega) (fun c56 => ?_) (fun c56 => ?_)
          · have x63 : 4 * j + 2 < m ∧ zfx P (m - (4 * j + 3)) (4 * j + 3) = zff P m := zst1 (by rw [zms_12p (by omega) (by omega)]; omega) x49.2
            refine z_aload_n (pc := 63) C dX10_read_63 rfl 0 rfl ?_
            refine z_dup (pc := 64) C dX10_read_64 rfl ?_
            refine z_getI (pc := 65) C fl_X10_87 dX10_read_65 (by first | rfl | assumption) (by omega) (fun g65 => ?_)
            rw [h15]
            refine z_iconst (pc := 68) C dX10_read_68 ?_
            refine z_iadd (pc := 69) C dX10_read_69 ?_
            refine z_putIe (pc := 70) C fl_X10_87 dX10_read_70 (by first | rfl | assumption) (by omega) (by omega) (fun m70 em70 => ?_)
            refine z_iinc (pc := 73) (lv' := [(1, _), (0, _)]) C dX10_read_73 1 rfl (by decide) rfl ?_
            refine z_aload_n (pc := 76) C dX10_read_76 rfl 1 rfl ?_
            refine z_iload_n (pc := 77) C dX10_read_77 rfl 0 rfl ?_
            refine z_aload_n (pc := 78) C dX10_read_78 rfl 1 rfl ?_
            rw [show ((4 * j : Nat) : Int) + 3 = ((4 * j + 3 : Nat) : Int) by omega]
            refine z_getI (pc := 79) C fl_X10_75 dX10_read_79 (by first | rfl | assumption) (by omega) (fun g79 => ?_)
            rw [show m70 108 12 = (m : Int) by rw [em70, zU_k (by omega)]; exact hg2.1]
            refine z_icmp_ne (pc := 82) (tgt := 89) C dX10_read_82 (by decide) ⟨by omega, by omega⟩ (fun c82 => ?_) (fun c82 => ?_)
            · refine z_iconst (pc := 89) C dX10_read_89 ?_
              refine z_putZe (pc := 90) C fl_X10_83 dX10_read_90 (by first | rfl | assumption) (by omega) (by omega) (fun m90 em90 => ?_)
              have hg3 : zMg m90 m P := ⟨by rw [em90, zU_k (by omega), em70, zU_k (by omega)]; exact hg2.1, fun i hi => by rw [em90, zU_o (by omega), em70, zU_o (by omega)]; exact hg2.2 i hi⟩
              have n15 : m90 108 15 = (j : Int) + 1 := by rw [em90, zU_k (by omega), em70, zU_at]
              have hfr : ∀ o k, (o ≠ 108 ∨ (k ≠ 14 ∧ k ≠ 15)) → m90 o k = σ o k := fun o k ho => by
                rw [em90, em70]; unfold zU; rw [if_neg (by omega), if_neg (by omega)]; exact h5 o k ho
              refine z_aload_n (pc := 93) C dX10_read_93 rfl 1 rfl ?_
              refine z_getI (pc := 94) C fl_X10_87 dX10_read_94 (by first | rfl | assumption) (by omega) (fun g94 => ?_)
              refine z_bipush (pc := 97) C dX10_read_97 (by decide +kernel) ?_
              refine z_icmp_eq (pc := 99) (tgt := 112) C dX10_read_99 (by decide) ⟨by omega, by omega⟩ (fun c99 => ?_) (fun c99 => ?_)
              · refine z_iload_n (pc := 112) C dX10_read_112 rfl 0 rfl ?_
                refine z_iret (pc := 113) C dX10_read_113 ?_
                have e0 : zff P m = 4 * j + 3 := by
                  refine zst0 (i := 4 * j + 3) (by omega) ?_ x63.2
                  by_cases hj : j = 5
                  · exact zms_hi (by omega)
                  · rw [zms_3p (by omega) (by omega)]; omega
                first
                  | (exfalso; omega)
                  | exact ⟨_, rfl, by omega, by rw [e0], Or.inl ⟨by unfold zIsL; omega, by rw [em90, zU_at], by rw [n15]; omega⟩, hfr⟩
                  | exact ⟨_, rfl, by omega, by rw [e0], Or.inr ⟨by unfold zIsL; omega, by rw [em90, zU_at]⟩, hfr⟩
              · refine z_aload_n (pc := 102) C dX10_read_102 rfl 1 rfl ?_
                refine z_iload_n (pc := 103) C dX10_read_103 rfl 0 rfl ?_
                refine z_Vi (pc := 104) C (c_X10_at l G _ m P hg3 hpr hm (4 * j + 3) _ rfl (by omega)) ml_X10_79 yw_X10_at dX10_read_104 (by first | rfl | assumption) (by omega) rfl rfl rfl (Nat.le_of_ble_eq_true rfl) ⟨by decide, by decide⟩ (fun r104 t104 h104 q104 => ?_)
                obtain ⟨rfl, rfl⟩ := q104
                refine z_bipush (pc := 107) C dX10_read_107 (by decide +kernel) ?_
                refine z_icmp_eq (pc := 109) (tgt := 114) C dX10_read_109 (by decide) ⟨by omega, by omega⟩ (fun c109 => ?_) (fun c109 => ?_)
                · have x114 : 4 * j + 3 < m ∧ zfx P (m - (4 * (j + 1))) (4 * (j + 1)) = zff P m := zst1 (by rw [zms_3p (by omega) (by omega)]; omega) x63.2
                  refine z_iinc (pc := 114) (lv' := [(1, _), (0, _)]) C dX10_read_114 0 rfl (by decide) rfl ?_
                  refine z_goto (pc := 117) (tgt := 12) C dX10_read_117 (by decide) ?_
                  refine z_sub C [1, 0] rfl ?_
                  first
                    | (exfalso; omega)
                    | exact ih (j + 1) _ (by omega) ⟨by omega, by omega, x114.2, by rw [em90, zU_k (by omega), em70, zU_at]; rfl, by rw [em90, zU_at], fun o k ho => by rw [em90, em70]; unfold zU; rw [if_neg (by omega), if_neg (by omega)]; exact h5 o k ho⟩
                · refine z_iload_n (pc := 112) C dX10_read_112 rfl 0 rfl ?_
                  refine z_iret (pc := 113) C dX10_read_113 ?_
                  have e0 : zff P m = 4 * j + 3 := by
                    refine zst0 (i := 4 * j + 3) (by omega) ?_ x63.2
                    by_cases hj : j = 5
                    · exact zms_hi (by omega)
                    · rw [zms_3p (by omega) (by omega)]; omega
                  first
                    | (exfalso; omega)
                    | exact ⟨_, rfl, by omega, by rw [e0], Or.inl ⟨by unfold zIsL; omega, by rw [em90, zU_at], by rw [n15]; omega⟩, hfr⟩
                    | exact ⟨_, rfl, by omega, by rw [e0], Or.inr ⟨by unfold zIsL; omega, by rw [em90, zU_at]⟩, hfr⟩
            · refine z_iconst (pc := 85) C dX10_read_85 ?_
              refine z_goto (pc := 86) (tgt := 90) C dX10_read_86 (by decide) ?_
              refine z_putZe (pc := 90) C fl_X10_83 dX10_read_90 (by first | rfl | assumption) (by omega) (by omega) (fun m90 em90 => ?_)
              have hg3 : zMg m90 m P := ⟨by rw [em90, zU_k (by omega), em70, zU_k (by omega)]; exact hg2.1, fun i hi => by rw [em90, zU_o (by omega), em70, zU_o (by omega)]; exact hg2.2 i hi⟩
              have n15 : m90 108 15 = (j : Int) + 1 := by rw [em90, zU_k (by omega), em70, zU_at]
              have hfr : ∀ o k, (o ≠ 108 ∨ (k ≠ 14 ∧ k ≠ 15)) → m90 o k = σ o k := fun o k ho => by
                rw [em90, em70]; unfold zU; rw [if_neg (by omega), if_neg (by omega)]; exact h5 o k ho
              refine z_aload_n (pc := 93) C dX10_read_93 rfl 1 rfl ?_
              refine z_getI (pc := 94) C fl_X10_87 dX10_read_94 (by first | rfl | assumption) (by omega) (fun g94 => ?_)
              refine z_bipush (pc := 97) C dX10_read_97 (by decide +kernel) ?_
              refine z_icmp_eq (pc := 99) (tgt := 112) C dX10_read_99 (by decide) ⟨by omega, by omega⟩ (fun c99 => ?_) (fun c99 => ?_)
              · refine z_iload_n (pc := 112) C dX10_read_112 rfl 0 rfl ?_
                refine z_iret (pc := 113) C dX10_read_113 ?_
                have e0 : zff P m = 4 * j + 3 := by
                  refine zst0 (i := 4 * j + 3) (by omega) ?_ x63.2
                  by_cases hj : j = 5
                  · exact zms_hi (by omega)
                  · rw [zms_3p (by omega) (by omega)]; omega
                first
                  | (exfalso; omega)
                  | exact ⟨_, rfl, by omega, by rw [e0], Or.inl ⟨by unfold zIsL; omega, by rw [em90, zU_at], by rw [n15]; omega⟩, hfr⟩
                  | exact ⟨_, rfl, by omega, by rw [e0], Or.inr ⟨by unfold zIsL; omega, by rw [em90, zU_at]⟩, hfr⟩
              · refine z_aload_n (pc := 102) C dX10_read_102 rfl 1 rfl ?_
                refine z_iload_n (pc := 103) C dX10_read_103 rfl 0 rfl ?_
                refine z_Vi (pc := 104) C (c_X10_at l G _ m P hg3 hpr hm (4 * j + 3) _ rfl (by omega)) ml_X10_79 yw_X10_at dX10_read_104 (by first | rfl | assumption) (by omega) rfl rfl rfl (Nat.le_of_ble_eq_true rfl) ⟨by decide, by decide⟩ (fun r104 t104 h104 q104 => ?_)
                obtain ⟨rfl, rfl⟩ := q104
                refine z_bipush (pc := 107) C dX10_read_107 (by decide +kernel) ?_
                refine z_icmp_eq (pc := 109) (tgt := 114) C dX10_read_109 (by decide) ⟨by omega, by omega⟩ (fun c109 => ?_) (fun c109 => ?_)
                · have x114 : 4 * j + 3 < m ∧ zfx P (m - (4 * (j + 1))) (4 * (j + 1)) = zff P m := zst1 (by rw [zms_3p (by omega) (by omega)]; omega) x63.2
                  refine z_iinc (pc := 114) (lv' := [(1, _), (0, _)]) C dX10_read_114 0 rfl (by decide) rfl ?_
                  refine z_goto (pc := 117) (tgt := 12) C dX10_read_117 (by decide) ?_
                  refine z_sub C [1, 0] rfl ?_
                  first
                    | (exfalso; omega)
                    | exact ih (j + 1) _ (by omega) ⟨by omega, by omega, x114.2, by rw [em90, zU_k (by omega), em70, zU_at]; rfl, by rw [em90, zU_at], fun o k ho => by rw [em90, em70]; unfold zU; rw [if_neg (by omega), if_neg (by omega)]; exact h5 o k ho⟩
                · refine z_iload_n (pc := 112) C dX10_read_112 rfl 0 rfl ?_
                  refine z_iret (pc := 113) C dX10_read_113 ?_
                  have e0 : zff P m = 4 * j + 3 := by
                    refine zst0 (i := 4 * j + 3) (by omega) ?_ x63.2
                    by_cases hj : j = 5
                    · exact zms_hi (by omega)
                    · rw [zms_3p (by omega) (by omega)]; omega
                  first
                    | (exfalso; omega)
                    | exact ⟨_, rfl, by omega, by rw [e0], Or.inl ⟨by unfold zIsL; omega, by rw [em90, zU_at], by rw [n15]; omega⟩, hfr⟩
                    | exact ⟨_, rfl, by omega, by rw [e0], Or.inr ⟨by unfold zIsL; omega, by rw [em90, zU_at]⟩, hfr⟩
          · refine z_iload_n (pc := 59) C dX10_read_59 rfl 1 rfl ?_
            refine z_iconst (pc := 60) C dX10_read_60 ?_
            refine z_iadd (pc := 61) C dX10_read_61 ?_
            refine z_iret (pc := 62) C dX10_read_62 ?_
            have e0 := zst0 (i := 4 * j + 2) (by omega) (by rw [zms_12p (by omega) (by omega)]; omega) x49.2
            exact ⟨_, rfl, by omega, by rw [e0]; rfl, Or.inr ⟨by unfold zIsL; omega, h14⟩, h5⟩
        · refine z_iload_n (pc := 45) C dX10_read_45 rfl 1 rfl ?_
          refine z_iconst (pc := 46) C dX10_read_46 ?_
          refine z_iadd (pc := 47) C dX10_read_47 ?_
          refine z_iret (pc := 48) C dX10_read_48 ?_
          have e0 := zst0 (i := 4 * j + 1) (by omega) (by rw [zms_12p (by omega) (by omega)]; omega) x35.2
          exact ⟨_, rfl, by omega, by rw [e0]; rfl, Or.inr ⟨by unfold zIsL; omega, h14⟩, h5⟩
      · refine z_iload_n (pc := 33) C dX10_read_33 rfl 1 rfl ?_
        refine z_iret (pc := 34) C dX10_read_34 ?_
        have e0 := zst0 h2 (by rw [zms_0p (by omega) (by omega)]; omega) h3
        exact ⟨_, rfl, by omega, by rw [e0], Or.inr ⟨by unfold zIsL; omega, h14⟩, h5⟩
  refine z_aload_n (pc := 0) C dX10_read_0 rfl 0 rfl ?_
  refine z_iconst (pc := 1) C dX10_read_1 ?_
  refine z_putZe (pc := 2) C fl_X10_83 dX10_read_2 (by first | rfl | assumption) (by omega) (by omega) (fun m2 em2 => ?_)
  refine z_aload_n (pc := 5) C dX10_read_5 rfl 0 rfl ?_
  refine z_iconst (pc := 6) C dX10_read_6 ?_
  refine z_putIe (pc := 7) C fl_X10_87 dX10_read_7 (by first | rfl | assumption) (by omega) (by omega) (fun m7 em7 => ?_)
  refine z_iconst (pc := 10) C dX10_read_10 ?_
  refine z_istore_n (pc := 11) (lv' := [(1, _), (0, _)]) C dX10_read_11 rfl (by decide) rfl ?_
  refine z_sub C [1, 0] rfl ?_
  exact L12 _ 0 _ (Nat.lt_succ_self _) ⟨by omega, by omega, rfl, by rw [em7, zU_at]; rfl, by rw [em7, zU_k (by omega), em2, zU_at], fun o k ho => by rw [em7, em2]; unfold zU; rw [if_neg (by omega), if_neg (by omega)]⟩
set_option maxHeartbeats 4000000 in
set_option maxRecDepth 100000 in
theorem c_X10_fault (l : Launch) (G : zGt) (σ : zMem) (m : Nat) (P : Nat → Int) (hg : zMg σ m P) (hpr : zPr0 P) (hm : m ≤ 26) : zN l G yX10_fault cX10_fault 1 (some .int) 3 [.ref (zB G + 108)] σ (zPi (fun x τ => x = zff P m ∧ ∀ o k, (o ≠ 108 ∨ (k ≠ 14 ∧ k ≠ 15)) → τ o k = σ o k)) := by
  refine zM.of (lv0 := [(0, _)]) (by decide) (Nat.le_of_ble_eq_true rfl) rfl (fun X C => ?_)
  refine z_aload_n (pc := 0) C dX10_fault_0 rfl 0 rfl ?_
  refine z_Vi (pc := 1) C (c_X10_read l G _ _ _ (by first | assumption | omega | decide) (by first | assumption | omega | decide) (by first | assumption | omega | decide)) ml_X10_97 yw_X10_read dX10_fault_1 (by first | rfl | assumption) (by omega) rfl rfl rfl (Nat.le_of_ble_eq_true rfl) ⟨by decide, by decide⟩ (fun r1 t1 h1 q1 => ?_)
  obtain ⟨e1, d1, f1⟩ := q1
  refine z_iret (pc := 4) C dX10_fault_4 ?_
  exact ⟨_, rfl, by assumption, e1, f1⟩
set_option maxHeartbeats 4000000 in
set_option maxRecDepth 100000 in
theorem c_X10_lane (l : Launch) (G : zGt) (σ : zMem) (m : Nat) (P : Nat → Int) (hg : zMg σ m P) (hpr : zPr0 P) (hm : m ≤ 26) (lr : Int) (hlr : σ 108 0 = lr) (hlb : 0 ≤ lr ∧ lr ≤ 100000) : zN l G yX10_lane cX10_lane 2 (some .int) 3 [.ref (zB G + 108)] σ (zPi (fun x τ => (zIsL P m ∧ x = ((m + 1) / 4 : Nat) ∧ zMl τ ((m + 1) / 4) 0 (zKl P ((m + 1) / 4)) (zRl P ((m + 1) / 4)) (zVl P ((m + 1) / 4)) (fun _ => 0) ∧ (τ 108 7 = 0 ∧ τ 108 0 = lr + 1 ∧ τ 108 8 = 0 ∧ τ 108 12 = 0) ∧ ∀ o k, (o < 108 ∨ 112 ≤ o ∨ (o = 108 ∧ 16 ≤ k)) → τ o k = σ o k) ∨ (¬ zIsL P m ∧ x = -103 ∧ ∀ o k, (o ≠ 108 ∨ (k ≠ 14 ∧ k ≠ 15)) → τ o k = σ o k))) := by
  obtain ⟨hg1, hgP⟩ := id hg
  have l115 : zl 115 = 26 := by decide
  have l109 : zl 109 = 6 := by decide
  have l110 : zl 110 = 6 := by decide
  have l111 : zl 111 = 6 := by decide
  refine zM.of (lv0 := [(0, _)]) (by decide) (Nat.le_of_ble_eq_true rfl) rfl (fun X C => ?_)
  have L25 : ∀ (fuel : Nat) (N i : Nat) (τ : zMem), N - i < fuel → (((m + 1) / 4 = N ∧ zIsL P m) ∧ i ≤ N ∧ τ 108 1 = N ∧ (∀ j, j < i → τ 109 j = zkd (P (4 * j)) ∧ τ 110 j = P (4 * j + 1) - 48 ∧ τ 111 j = P (4 * j + 2) - 48) ∧ ∀ o k, (o < 108 ∨ 112 ≤ o ∨ (o = 108 ∧ (k = 0 ∨ 16 ≤ k))) → τ o k = σ o k) → zg G X true 2 129 0 0 25 [(0, .ref (zB G + 108)), (1, .int (zI (i : Int)))] [] τ := by
    intro fuel
    induction fuel with
    | zero => intro N i τ hm; exact absurd hm (Nat.not_lt_zero _)
    | succ fuel ih =>
      intro N i τ hms hinv
      obtain ⟨⟨hN, hil⟩, h1, h15, h3, h5⟩ := hinv
      obtain ⟨n1, n2, n3, n4⟩ := hil.ok
      rw [hN] at n1 n2 n3 n4
      refine z_iload_n (pc := 25) C dX10_lane_25 rfl 1 rfl ?_
      refine z_aload_n (pc := 26) C dX10_lane_26 rfl 0 rfl ?_
      refine z_getI (pc := 27) C fl_X10_101 dX10_lane_27 (by first | rfl | assumption) (by omega) (fun g27 => ?_)
      rw [h15]
      refine z_icmp_ge (pc := 30) (tgt := 94) C dX10_lane_30 (by decide) ⟨by omega, by omega⟩ (fun c30 => ?_) (fun c30 => ?_)
      · refine z_aload_n (pc := 94) C dX10_lane_94 rfl 0 rfl ?_
        refine z_iconst (pc := 95) C dX10_lane_95 ?_
        refine z_putIe (pc := 96) C fl_X10_104 dX10_lane_96 (by first | rfl | assumption) (by omega) (by omega) (fun m96 em96 => ?_)
        refine z_aload_n (pc := 99) C dX10_lane_99 rfl 0 rfl ?_
        refine z_iconst (pc := 100) C dX10_lane_100 ?_
        refine z_putIe (pc := 101) C fl_X10_107 dX10_lane_101 (by first | rfl | assumption) (by omega) (by omega) (fun m101 em101 => ?_)
        refine z_aload_n (pc := 104) C dX10_lane_104 rfl 0 rfl ?_
        refine z_iconst (pc := 105) C dX10_lane_105 ?_
        refine z_putIe (pc := 106) C fl_X10_110 dX10_lane_106 (by first | rfl | assumption) (by omega) (by omega) (fun m106 em106 => ?_)
        refine z_aload_n (pc := 109) C dX10_lane_109 rfl 0 rfl ?_
        refine z_dup (pc := 110) C dX10_lane_110 rfl ?_
        refine z_getI (pc := 111) C fl_X10_113 dX10_lane_111 (by first | rfl | assumption) (by omega) (fun g111 => ?_)
        rw [show m106 108 0 = lr by rw [em106, zU_k (by omega), em101, zU_k (by omega), em96, zU_k (by omega), h5 108 0 (by omega), hlr]]
        refine z_iconst (pc := 114) C dX10_lane_114 ?_
        refine z_iadd (pc := 115) C dX10_lane_115 ?_
        refine z_putIe (pc := 116) C fl_X10_113 dX10_lane_116 (by first | rfl | assumption) (by omega) (by omega) (fun m116 em116 => ?_)
        refine z_aload_n (pc := 119) C dX10_lane_119 rfl 0 rfl ?_
        refine z_iconst (pc := 120) C dX10_lane_120 ?_
        refine z_putIe (pc := 121) C fl_X10_116 dX10_lane_121 (by first | rfl | assumption) (by omega) (by omega) (fun m121 em121 => ?_)
        refine z_aload_n (pc := 124) C dX10_lane_124 rfl 0 rfl ?_
        refine z_iconst (pc := 125) C dX10_lane_125 ?_
        refine z_putIe (pc := 126) C fl_X10_75 dX10_lane_126 (by first | rfl | assumption) (by omega) (by omega) (fun m126 em126 => ?_)
        refine z_aload_n (pc := 129) C dX10_lane_129 rfl 0 rfl ?_
        refine z_getI (pc := 130) C fl_X10_101 dX10_lane_130 (by first | rfl | assumption) (by omega) (fun g130 => ?_)
        refine z_iret (pc := 133) C dX10_lane_133 ?_
        have hiN : i = N := by omega
        have v1 : ∀ a k, ¬ (a = 108 ∧ (k = 5 ∨ k = 6 ∨ k = 7 ∨ k = 0 ∨ k = 8 ∨ k = 12)) → m126 a k = τ a k := fun a k b1 => by
          rw [em126, em121, em116, em106, em101, em96]; unfold zU; rw [if_neg (by omega), if_neg (by omega), if_neg (by omega), if_neg (by omega), if_neg (by omega), if_neg (by omega)]
        have w1 : m126 108 1 = N := (v1 _ _ (by omega)).trans h15
        have hl : zMl m126 N 0 (zKl P N) (zRl P N) (zVl P N) (fun _ => 0) := ⟨w1, by rw [em126, zU_k (by omega), em121, zU_k (by omega), em116, zU_k (by omega), em106, zU_k (by omega), em101, zU_at], by rw [em126, zU_k (by omega), em121, zU_k (by omega), em116, zU_k (by omega), em106, zU_k (by omega), em101, zU_k (by omega), em96, zU_at]; exact (zbs_0 N (fun _ _ => rfl)).symm, fun j hj => by
          obtain ⟨a1, a2, a3⟩ := h3 j (by omega)
          unfold zKl zRl zVl
          rw [if_pos hj, if_pos hj, if_pos hj]
          exact ⟨(v1 _ _ (by omega)).trans a1, (v1 _ _ (by omega)).trans a2, (v1 _ _ (by omega)).trans a3⟩⟩
        refine ⟨_, rfl, by omega, Or.inl ⟨hil, by rw [hN]; exact w1, by rw [hN]; exact hl, ⟨?_, ?_, ?_, ?_⟩, fun o k ho => ?_⟩⟩
        · rw [em126, zU_k (by omega), em121, zU_k (by omega), em116, zU_k (by omega), em106, zU_at]
        · rw [em126, zU_k (by omega), em121, zU_k (by omega), em116, zU_at]
        · rw [em126, zU_k (by omega), em121, zU_at]
        · rw [em126, zU_at]
        · exact (v1 o k (by omega)).trans (h5 o k (by omega))
      · have n4i := n4 i
        unfold zKl zRl zVl at n4i
        rw [if_pos (by omega), if_pos (by omega), if_pos (by omega)] at n4i
        have gp : ∀ k, k < m → τ 115 k = P k := fun k hk => (h5 115 k (by omega)).trans (hgP k hk)
        have p0 := gp (4 * i) (by omega)
        have p1 := gp (4 * i + 1) (by omega)
        have p2 := gp (4 * i + 2) (by omega)
        have b0 := hpr (4 * i)
        have b1 := hpr (4 * i + 1)
        have b2 := hpr (4 * i + 2)
        refine z_aload_n (pc := 33) C dX10_lane_33 rfl 0 rfl ?_
        refine z_getR (pc := 34) C (109) fl_X10_7 dX10_lane_34 (by first | rfl | assumption) (by omega) rfl (Or.inl rfl) ?_
        refine z_iload_n (pc := 37) C dX10_lane_37 rfl 1 rfl ?_
        refine z_aload_n (pc := 38) C dX10_lane_38 rfl 0 rfl ?_
        refine z_getR (pc := 39) C (115) fl_X10_28 dX10_lane_39 (by first | rfl | assumption) (by omega) rfl (Or.inl rfl) ?_
        refine z_iconst (pc := 42) C dX10_lane_42 ?_
        refine z_iload_n (pc := 43) C dX10_lane_43 rfl 1 rfl ?_
        refine z_imul (pc := 44) C dX10_lane_44 ?_
        refine z_baload (pc := 45) C (4 * i) dX10_lane_45 (by first | rfl | assumption) (by omega) (by omega) (by omega) (fun g45 => ?_)
        rw [p0]
        refine z_Si (pc := 46) C (c_X10_kindBy l G _ _ (by first | assumption | omega | decide)) ml_X10_90 ys_X10_kindBy dX10_lane_46 rfl rfl (Nat.le_of_ble_eq_true rfl) ⟨by decide, by decide⟩ (fun r46 t46 h46 q46 => ?_)
        obtain ⟨rfl, rfl⟩ := q46
        refine z_iastoree (pc := 49) C (i) dX10_lane_49 (by first | rfl | assumption) (by omega) rfl (by omega) (by omega) (fun m49 em49 => ?_)
        refine z_aload_n (pc := 50) C dX10_lane_50 rfl 0 rfl ?_
        refine z_getR (pc := 51) C (110) fl_X10_13 dX10_lane_51 (by first | rfl | assumption) (by omega) rfl (Or.inl rfl) ?_
        refine z_iload_n (pc := 54) C dX10_lane_54 rfl 1 rfl ?_
        refine z_aload_n (pc := 55) C dX10_lane_55 rfl 0 rfl ?_
        refine z_getR (pc := 56) C (115) fl_X10_28 dX10_lane_56 (by first | rfl | assumption) (by omega) rfl (Or.inl rfl) ?_
        refine z_iconst (pc := 59) C dX10_lane_59 ?_
        refine z_iload_n (pc := 60) C dX10_lane_60 rfl 1 rfl ?_
        refine z_imul (pc := 61) C dX10_lane_61 ?_
        refine z_iconst (pc := 62) C dX10_lane_62 ?_
        refine z_iadd (pc := 63) C dX10_lane_63 ?_
        refine z_baload (pc := 64) C (4 * i + 1) dX10_lane_64 (by first | rfl | assumption) (by omega) (by omega) (by omega) (fun g64 => ?_)
        rw [show m49 115 (4 * i + 1) = P (4 * i + 1) by rw [em49, zU_o (by omega)]; exact p1]
        refine z_bipush (pc := 65) C dX10_lane_65 (by decide +kernel) ?_
        refine z_isub (pc := 67) C dX10_lane_67 ?_
        refine z_iastoree (pc := 68) C (i) dX10_lane_68 (by first | rfl | assumption) (by omega) rfl (by omega) (by omega) (fun m68 em68 => ?_)
        refine z_aload_n (pc := 69) C dX10_lane_69 rfl 0 rfl ?_
        refine z_getR (pc := 70) C (111) fl_X10_16 dX10_lane_70 (by first | rfl | assumption) (by omega) rfl (Or.inl rfl) ?_
        refine z_iload_n (pc := 73) C dX10_lane_73 rfl 1 rfl ?_
        refine z_aload_n (pc := 74) C dX10_lane_74 rfl 0 rfl ?_
        refine z_getR (pc := 75) C (115) fl_X10_28 dX10_lane_75 (by first | rfl | assumption) (by omega) rfl (Or.inl rfl) ?_
        refine z_iconst (pc := 78) C dX10_lane_78 ?_
        refine z_iload_n (pc := 79) C dX10_lane_79 rfl 1 rfl ?_
        refine z_imul (pc := 80) C dX10_lane_80 ?_
        refine z_iconst (pc := 81) C dX10_lane_81 ?_
        refine z_iadd (pc := 82) C dX10_lane_82 ?_
        refine z_baload (pc := 83) C (4 * i + 2) dX10_lane_83 (by first | rfl | assumption) (by omega) (by omega) (by omega) (fun g83 => ?_)
        rw [show m68 115 (4 * i + 2) = P (4 * i + 2) by rw [em68, zU_o (by omega), em49, zU_o (by omega)]; exact p2]
        refine z_bipush (pc := 84) C dX10_lane_84 (by decide +kernel) ?_
        refine z_isub (pc := 86) C dX10_lane_86 ?_
        refine z_iastoree (pc := 87) C (i) dX10_lane_87 (by first | rfl | assumption) (by omega) rfl (by omega) (by omega) (fun m87 em87 => ?_)
        refine z_iinc (pc := 88) (lv' := [(1, _), (0, _)]) C dX10_lane_88 1 rfl (by decide) rfl ?_
        refine z_goto (pc := 91) (tgt := 25) C dX10_lane_91 (by decide) ?_
        refine z_sub C [1, 0] rfl ?_
        have hst : ∀ j, j < i + 1 → m87 109 j = zkd (P (4 * j)) ∧ m87 110 j = P (4 * j + 1) - 48 ∧ m87 111 j = P (4 * j + 2) - 48 := by
          intro j hj
          rw [em87, em68, em49]
          by_cases e : j = i
          · rw [e]
            exact ⟨by rw [zU_o (by omega), zU_o (by omega), zU_at], by rw [zU_o (by omega), zU_at], by rw [zU_at]⟩
          · obtain ⟨a1, a2, a3⟩ := h3 j (by omega)
            exact ⟨by rw [zU_o (by omega), zU_o (by omega), zU_k e]; exact a1, by rw [zU_o (by omega), zU_k e, zU_o (by omega)]; exact a2, by rw [zU_k e, zU_o (by omega), zU_o (by omega)]; exact a3⟩
        exact ih N (i + 1) _ (by omega) ⟨⟨hN, hil⟩, by omega, by rw [em87, zU_o (by omega), em68, zU_o (by omega), em49, zU_o (by omega)]; exact h15, hst, fun o k ho => by rw [em87, em68, em49]; unfold zU; rw [if_neg (by omega), if_neg (by omega), if_neg (by omega)]; exact h5 o k ho⟩
  refine z_aload_n (pc := 0) C dX10_lane_0 rfl 0 rfl ?_
  refine z_Vi (pc := 1) C (c_X10_read l G _ _ _ (by first | assumption | omega | decide) (by first | assumption | omega | decide) (by first | assumption | omega | decide)) ml_X10_97 yw_X10_read dX10_lane_1 (by first | rfl | assumption) (by omega) rfl rfl rfl (Nat.le_of_ble_eq_true rfl) ⟨by decide, by decide⟩ (fun r1 t1 h1 q1 => ?_)
  obtain ⟨e1, d1, f1⟩ := q1
  refine z_pop (pc := 4) C dX10_lane_4 rfl ?_
  refine z_aload_n (pc := 5) C dX10_lane_5 rfl 0 rfl ?_
  refine z_getZ (pc := 6) C fl_X10_83 dX10_lane_6 (by first | rfl | assumption) (by omega) (fun g6 => ?_)
  refine z_if_ne (pc := 9) (tgt := 15) C dX10_lane_9 (by decide) (by omega) (fun c9 => ?_) (fun c9 => ?_)
  · obtain ⟨hil, d14, d15⟩ : zIsL P m ∧ t1 108 14 = 1 ∧ t1 108 15 = ((m + 1) / 4 : Nat) := by rcases d1 with d | d; exact d; (exfalso; omega)
    obtain ⟨n1, n2, n3, n4⟩ := hil.ok
    obtain ⟨N, hN⟩ : ∃ N, (m + 1) / 4 = N := ⟨_, rfl⟩
    have d15 : t1 108 15 = (N : Int) := by rw [d15, hN]
    refine z_aload_n (pc := 15) C dX10_lane_15 rfl 0 rfl ?_
    refine z_aload_n (pc := 16) C dX10_lane_16 rfl 0 rfl ?_
    refine z_getI (pc := 17) C fl_X10_87 dX10_lane_17 (by first | rfl | assumption) (by omega) (fun g17 => ?_)
    rw [d15]
    refine z_putIe (pc := 20) C fl_X10_101 dX10_lane_20 (by first | rfl | assumption) (by omega) (by omega) (fun m20 em20 => ?_)
    refine z_iconst (pc := 23) C dX10_lane_23 ?_
    refine z_istore_n (pc := 24) (lv' := [(1, _), (0, _)]) C dX10_lane_24 rfl (by decide) rfl ?_
    refine z_sub C [1, 0] rfl ?_
    exact L25 _ N 0 _ (Nat.lt_succ_self _) ⟨⟨hN, hil⟩, by omega, by rw [em20, zU_at], fun j hj => by omega, fun o k ho => by rw [em20]; unfold zU; rw [if_neg (by omega)]; exact f1 o k (by omega)⟩
  · refine z_bipush (pc := 12) C dX10_lane_12 (by decide +kernel) ?_
    refine z_iret (pc := 14) C dX10_lane_14 ?_
    have hnl : ¬ zIsL P m := by
      rcases d1 with d | d
      · exfalso; omega
      · exact d.1
    exact ⟨_, rfl, by omega, Or.inr ⟨hnl, rfl, f1⟩⟩
