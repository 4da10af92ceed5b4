set_option maxHeartbeats 4000000 in
set_option maxRecDepth 100000 in
theorem c_X4_weigh (l : Launch) (G : zGt) (σ : zMem) (wt u : Int) (b : zPp2) (hw : zR wt) (hu : zR u) (hb : zPt σ b) : zN l G yX4_weigh cX4_weigh 3 (none) 0 [.ref (zB G + 106), .int (zI wt), .int (zI u)] σ (zPv (fun τ => zPt τ (zpg wt u b) ∧ ∀ a c, (a ≠ 106 ∨ (c ≠ 2 ∧ c ≠ 3)) → τ a c = σ a c)) := by
  obtain ⟨b1, b2⟩ := id hb
  refine zM.of (lv0 := [(0, _), (1, _), (2, _)]) (by decide) (Nat.le_of_ble_eq_true rfl) rfl (fun X C => ?_)
  refine z_iload_n (pc := 0) C dX4_weigh_0 rfl 1 rfl ?_
  refine z_aload_n (pc := 1) C dX4_weigh_1 rfl 0 rfl ?_
  refine z_getI (pc := 2) C fl_X4_9 dX4_weigh_2 (by first | rfl | assumption) (by omega) (fun g2 => ?_)
  refine z_icmp_lt (pc := 5) (tgt := 24) C dX4_weigh_5 (by decide) ⟨by omega, by omega⟩ (fun c5 => ?_) (fun c5 => ?_)
  · refine z_aload_n (pc := 24) C dX4_weigh_24 rfl 0 rfl ?_
    refine z_iload_n (pc := 25) C dX4_weigh_25 rfl 1 rfl ?_
    refine z_putIe (pc := 26) C fl_X4_9 dX4_weigh_26 (by first | rfl | assumption) (by omega) (by omega) (fun m26 em26 => ?_)
    refine z_aload_n (pc := 29) C dX4_weigh_29 rfl 0 rfl ?_
    refine z_iload_n (pc := 30) C dX4_weigh_30 rfl 2 rfl ?_
    refine z_putIe (pc := 31) C fl_X4_15 dX4_weigh_31 (by first | rfl | assumption) (by omega) (by omega) (fun m31 em31 => ?_)
    refine z_vret (pc := 34) C dX4_weigh_34 ?_
    first
      | exact ⟨rfl, by rw [zpg, if_neg (by omega)]; exact hb, fun _ _ _ => rfl⟩
      | exact ⟨rfl, by rw [zpg, if_pos (by omega)]; exact ⟨by rw [em31, zU_k (by omega), em26]; exact zU_at, by rw [em31]; exact zU_at⟩, fun a c h => by rw [em31, em26]; unfold zU; rw [if_neg (by omega), if_neg (by omega)]⟩
  · refine z_iload_n (pc := 8) C dX4_weigh_8 rfl 1 rfl ?_
    refine z_aload_n (pc := 9) C dX4_weigh_9 rfl 0 rfl ?_
    refine z_getI (pc := 10) C fl_X4_9 dX4_weigh_10 (by first | rfl | assumption) (by omega) (fun g10 => ?_)
    refine z_icmp_ne (pc := 13) (tgt := 34) C dX4_weigh_13 (by decide) ⟨by omega, by omega⟩ (fun c13 => ?_) (fun c13 => ?_)
    · refine z_vret (pc := 34) C dX4_weigh_34 ?_
      first
        | exact ⟨rfl, by rw [zpg, if_neg (by omega)]; exact hb, fun _ _ _ => rfl⟩
        | exact ⟨rfl, by rw [zpg, if_pos (by omega)]; exact ⟨by rw [em31, zU_k (by omega), em26]; exact zU_at, by rw [em31]; exact zU_at⟩, fun a c h => by rw [em31, em26]; unfold zU; rw [if_neg (by omega), if_neg (by omega)]⟩
    · refine z_iload_n (pc := 16) C dX4_weigh_16 rfl 2 rfl ?_
      refine z_aload_n (pc := 17) C dX4_weigh_17 rfl 0 rfl ?_
      refine z_getI (pc := 18) C fl_X4_15 dX4_weigh_18 (by first | rfl | assumption) (by omega) (fun g18 => ?_)
      refine z_icmp_ge (pc := 21) (tgt := 34) C dX4_weigh_21 (by decide) ⟨by omega, by omega⟩ (fun c21 => ?_) (fun c21 => ?_)
      · refine z_vret (pc := 34) C dX4_weigh_34 ?_
        first
          | exact ⟨rfl, by rw [zpg, if_neg (by omega)]; exact hb, fun _ _ _ => rfl⟩
          | exact ⟨rfl, by rw [zpg, if_pos (by omega)]; exact ⟨by rw [em31, zU_k (by omega), em26]; exact zU_at, by rw [em31]; exact zU_at⟩, fun a c h => by rw [em31, em26]; unfold zU; rw [if_neg (by omega), if_neg (by omega)]⟩
      · refine z_aload_n (pc := 24) C dX4_weigh_24 rfl 0 rfl ?_
        refine z_iload_n (pc := 25) C dX4_weigh_25 rfl 1 rfl ?_
        refine z_putIe (pc := 26) C fl_X4_9 dX4_weigh_26 (by first | rfl | assumption) (by omega) (by omega) (fun m26 em26 => ?_)
        refine z_aload_n (pc := 29) C dX4_weigh_29 rfl 0 rfl ?_
        refine z_iload_n (pc := 30) C dX4_weigh_30 rfl 2 rfl ?_
        refine z_putIe (pc := 31) C fl_X4_15 dX4_weigh_31 (by first | rfl | assumption) (by omega) (by omega) (fun m31 em31 => ?_)
        refine z_vret (pc := 34) C dX4_weigh_34 ?_
        first
          | exact ⟨rfl, by rw [zpg, if_neg (by omega)]; exact hb, fun _ _ _ => rfl⟩
          | exact ⟨rfl, by rw [zpg, if_pos (by omega)]; exact ⟨by rw [em31, zU_k (by omega), em26]; exact zU_at, by rw [em31]; exact zU_at⟩, fun a c h => by rw [em31, em26]; unfold zU; rw [if_neg (by omega), if_neg (by omega)]⟩
theorem zLa.to2 {σ τ : zMem} {o n : Nat} {y w : Int} {K R V E : Nat → Int} (h : zLa σ o n y w K R V E) (hf : ∀ a c, (a ≠ 106 ∨ (c ≠ 2 ∧ c ≠ 3)) → τ a c = σ a c) (ho : o + 9 ≤ 106) : zLa τ o n y w K R V E := h.fr (a := 106) (b := 107) (fun a c q => hf a c (by omega)) (by omega)
set_option maxHeartbeats 4000000 in
set_option maxRecDepth 100000 in
theorem c_put_0 (l : Launch) (G : zGt) : zPut l G 0 := by
  intro σ o n y w K R V E h rain bun s u wt b hL hla hr hn ho hk h0 h1 hra hbu hs hu hw hb
  obtain ⟨k0, b1, b3, b5, b7, k8⟩ := id hL
  have kk3 := b3.1
  have s4 := hla.1
  refine zM.of (lv0 := [(0, _), (1, _), (2, _), (3, _), (4, _), (5, _)]) (by decide) (Nat.le_of_ble_eq_true rfl) rfl (fun X C => ?_)
  refine z_iload_n (pc := 0) C dX4_putOnFrom_0 rfl 2 rfl ?_
  refine z_aload_n (pc := 1) C dX4_putOnFrom_1 rfl 1 rfl ?_
  refine z_getI (pc := 2) C fl_X4_28 dX4_putOnFrom_2 (by first | rfl | assumption) (by omega) (fun g2 => ?_)
  refine z_icmp_lt (pc := 5) (tgt := 17) C dX4_putOnFrom_5 (by decide) ⟨by omega, by omega⟩ (fun c5 => by exfalso; omega) (fun c5 => ?_)
  refine z_aload_n (pc := 8) C dX4_putOnFrom_8 rfl 0 rfl ?_
  refine z_iload (pc := 9) C dX4_putOnFrom_9 5 rfl ?_
  refine z_iload (pc := 11) C dX4_putOnFrom_11 4 rfl ?_
  refine z_Vv (pc := 13) C (c_X4_weigh l G _ (wt) (u) (b) (by first | assumption | omega | decide) (by first | assumption | omega | decide) (by first | assumption | omega | decide)) ml_X4_33 yw_X4_weigh dX4_putOnFrom_13 (by first | rfl | assumption) (by omega) rfl rfl rfl (Nat.le_of_ble_eq_true rfl) ⟨by omega, by decide⟩ (fun t13 q13 => ?_)
  obtain ⟨u13, f13⟩ := q13
  refine z_vret (pc := 16) C dX4_putOnFrom_16 ?_
  exact ⟨rfl, u13, f13⟩
set_option maxHeartbeats 4000000 in
set_option maxRecDepth 100000 in
theorem c_raise_open (l : Launch) (G : zGt) (k : Nat) (ih : zPut l G k) (σ : zMem) (o n : Nat) (y w : Int) (K R V E : Nat → Int) (h : Nat) (rain bun s u wt x : Int) (b : zPp2) (hL : zLane o) (hla : zLa σ o n y w K R V E) (hr : zLr K R V E) (hn : n ≤ 6) (ho : o + 9 ≤ 106) (hk : h + (k + 1) = n) (h0 : σ 106 0 = rain) (h1 : σ 106 1 = bun) (hra : 0 ≤ rain ∧ rain ≤ 20) (hbu : 0 ≤ bun ∧ bun ≤ 30) (hs : 0 ≤ s ∧ s ≤ h) (hu : 0 ≤ u ∧ u ≤ bun) (hw : 0 ≤ wt ∧ wt ≤ h) (hx : R h ≤ x ∧ x ≤ 20) (hb : zPt σ b) :
    zN l G yX4_raise cX4_raise 10 none (3 + 2 * k) [.ref (zB G + 106), .ref (zB G + o), .int (zI (h : Int)), .int (zI s), .int (zI u), .int (zI wt), .int (zI x)] σ (zPv (fun τ => zPt τ (zra (zpo R rain bun n k) bun (R h) (zrb rain s) s u wt x b) ∧ ∀ a c, (a ≠ 106 ∨ (c ≠ 2 ∧ c ≠ 3)) → τ a c = σ a c)) := by
  obtain ⟨k0, b1, b3, b5, b7, k8⟩ := id hL
  have kk3 := b3.1
  have s4 := hla.1
  have hrh := hr h
  have gh := (hla.2.2.2 h (by omega)).2.1
  have hrb := zrb_bd (rain := rain) (s := s) (by omega) (by omega)
  refine zM.of (lv0 := [(0, _), (1, _), (2, _), (3, _), (4, _), (5, _), (6, _)]) (by decide) (Nat.le_of_ble_eq_true rfl) rfl (fun X C => ?_)
  refine z_iload (pc := 0) C dX4_raise_0 4 rfl ?_
  refine z_iload (pc := 2) C dX4_raise_2 6 rfl ?_
  refine z_iadd (pc := 4) C dX4_raise_4 ?_
  refine z_aload_n (pc := 5) C dX4_raise_5 rfl 1 rfl ?_
  refine z_getR (pc := 6) C (o + 3) fl_X4_37 dX4_raise_6 (by first | rfl | assumption) (by omega) rfl (Or.inl rfl) ?_
  refine z_iload_n (pc := 9) C dX4_raise_9 rfl 2 rfl ?_
  refine z_Vi (pc := 10) C (c_X6_atv l G _ _ _ (h) _ (R h) (by first | assumption | omega | decide) rfl (by first | assumption | omega | decide) (gh)) ml_X4_41 yw_X6_at dX4_raise_10 (by first | rfl | assumption) (by omega) rfl rfl rfl (Nat.le_of_ble_eq_true rfl) ⟨by omega, by decide⟩ (fun r10 t10 h10 q10 => ?_)
  obtain ⟨rfl, rfl⟩ := q10
  refine z_isub (pc := 13) C dX4_raise_13 ?_
  refine z_istore (pc := 14) (lv' := [(7, _), (0, _), (1, _), (2, _), (3, _), (4, _), (5, _), (6, _)]) C dX4_raise_14 (by decide) rfl ?_
  refine z_iload (pc := 16) C dX4_raise_16 0 rfl ?_
  refine z_aload_n (pc := 18) C dX4_raise_18 rfl 1 rfl ?_
  refine z_getI (pc := 19) C fl_X4_21 dX4_raise_19 (by first | rfl | assumption) (by omega) (fun g19 => ?_)
  refine z_icmp_le (pc := 22) (tgt := 26) C dX4_raise_22 (by decide) ⟨by omega, by omega⟩ (fun c22 => ?_) (fun c22 => ?_)
  · refine z_iload (pc := 26) C dX4_raise_26 7 rfl ?_
    refine z_aload_n (pc := 28) C dX4_raise_28 rfl 1 rfl ?_
    refine z_getI (pc := 29) C fl_X4_18 dX4_raise_29 (by first | rfl | assumption) (by omega) (fun g29 => ?_)
    refine z_iload_n (pc := 32) C dX4_raise_32 rfl 4 rfl ?_
    rw [h0]
    refine z_Si (pc := 33) C (c_X9_rainBehind l G _ _ _ (by first | assumption | omega | decide) (by first | assumption | omega | decide)) ml_X4_47 ys_X9_rainBehind dX4_raise_33 rfl rfl (Nat.le_of_ble_eq_true rfl) ⟨by omega, by decide⟩ (fun r33 t33 h33 q33 => ?_)
    obtain ⟨rfl, rfl⟩ := q33
    refine z_icmp_ge (pc := 36) (tgt := 46) C dX4_raise_36 (by decide) ⟨by omega, by omega⟩ (fun c36 => ?_) (fun c36 => ?_)
    · refine z_iload (pc := 46) C dX4_raise_46 6 rfl ?_
      refine z_istore (pc := 48) (lv' := [(8, _), (7, _), (0, _), (1, _), (2, _), (3, _), (4, _), (5, _), (6, _)]) C dX4_raise_48 (by decide) rfl ?_
      refine z_iload (pc := 50) C dX4_raise_50 8 rfl ?_
      refine z_bipush (pc := 52) C dX4_raise_52 (by decide +kernel) ?_
      refine z_icmp_lt (pc := 54) (tgt := 63) C dX4_raise_54 (by decide) ⟨by omega, by omega⟩ (fun c54 => ?_) (fun c54 => ?_)
      · refine z_iload_n (pc := 63) C dX4_raise_63 rfl 5 rfl ?_
        refine z_istore (pc := 64) (lv' := [(9, _), (8, _), (7, _), (0, _), (1, _), (2, _), (3, _), (4, _), (5, _), (6, _)]) C dX4_raise_64 (by decide) rfl ?_
        refine z_aload_n (pc := 66) C dX4_raise_66 rfl 3 rfl ?_
        refine z_aload_n (pc := 67) C dX4_raise_67 rfl 4 rfl ?_
        refine z_iload_n (pc := 68) C dX4_raise_68 rfl 5 rfl ?_
        refine z_iconst (pc := 69) C dX4_raise_69 ?_
        refine z_iadd (pc := 70) C dX4_raise_70 ?_
        refine z_iload (pc := 71) C dX4_raise_71 0 rfl ?_
        refine z_iload (pc := 73) C dX4_raise_73 2 rfl ?_
        refine z_iload (pc := 75) C dX4_raise_75 1 rfl ?_
        refine z_Vv (pc := 77) C (ih σ o n y w K R V E (h + 1) rain bun _ _ _ b hL hla hr hn ho (by omega) h0 h1 hra hbu (by omega) (by omega) (by omega) hb) ml_X4_24 yw_X4_putOnFrom dX4_raise_77 (by first | rfl | assumption) (by omega) rfl rfl rfl (Nat.le_of_ble_eq_true rfl) ⟨by omega, by decide⟩ (fun t77 q77 => ?_)
        obtain ⟨u77, f77⟩ := q77
        refine z_vret (pc := 80) C dX4_raise_80 ?_
        exact ⟨rfl, by rw [zra, if_neg (by omega)]; (first | rw [if_pos (by omega), if_pos (by omega)] | rw [if_pos (by omega), if_neg (by omega)] | rw [if_neg (by omega), if_pos (by omega)] | rw [if_neg (by omega), if_neg (by omega)]); exact u77, f77⟩
      · refine z_iload_n (pc := 57) C dX4_raise_57 rfl 5 rfl ?_
        refine z_iconst (pc := 58) C dX4_raise_58 ?_
        refine z_iadd (pc := 59) C dX4_raise_59 ?_
        refine z_goto (pc := 60) (tgt := 64) C dX4_raise_60 (by decide) ?_
        refine z_istore (pc := 64) (lv' := [(9, _), (8, _), (7, _), (0, _), (1, _), (2, _), (3, _), (4, _), (5, _), (6, _)]) C dX4_raise_64 (by decide) rfl ?_
        refine z_aload_n (pc := 66) C dX4_raise_66 rfl 3 rfl ?_
        refine z_aload_n (pc := 67) C dX4_raise_67 rfl 4 rfl ?_
        refine z_iload_n (pc := 68) C dX4_raise_68 rfl 5 rfl ?_
        refine z_iconst (pc := 69) C dX4_raise_69 ?_
        refine z_iadd (pc := 70) C dX4_raise_70 ?_
        refine z_iload (pc := 71) C dX4_raise_71 0 rfl ?_
        refine z_iload (pc := 73) C dX4_raise_73 2 rfl ?_
        refine z_iload (pc := 75) C dX4_raise_75 1 rfl ?_
        refine z_Vv (pc := 77) C (ih σ o n y w K R V E (h + 1) rain bun _ _ _ b hL hla hr hn ho (by omega) h0 h1 hra hbu (by omega) (by omega) (by omega) hb) ml_X4_24 yw_X4_putOnFrom dX4_raise_77 (by first | rfl | assumption) (by omega) rfl rfl rfl (Nat.le_of_ble_eq_true rfl) ⟨by omega, by decide⟩ (fun t77 q77 => ?_)
        obtain ⟨u77, f77⟩ := q77
        refine z_vret (pc := 80) C dX4_raise_80 ?_
        exact ⟨rfl, by rw [zra, if_neg (by omega)]; (first | rw [if_pos (by omega), if_pos (by omega)] | rw [if_pos (by omega), if_neg (by omega)] | rw [if_neg (by omega), if_pos (by omega)] | rw [if_neg (by omega), if_neg (by omega)]); exact u77, f77⟩
    · refine z_iload (pc := 39) C dX4_raise_39 6 rfl ?_
      refine z_iconst (pc := 41) C dX4_raise_41 ?_
      refine z_iadd (pc := 42) C dX4_raise_42 ?_
      refine z_goto (pc := 43) (tgt := 48) C dX4_raise_43 (by decide) ?_
      refine z_istore (pc := 48) (lv' := [(8, _), (7, _), (0, _), (1, _), (2, _), (3, _), (4, _), (5, _), (6, _)]) C dX4_raise_48 (by decide) rfl ?_
      refine z_iload (pc := 50) C dX4_raise_50 8 rfl ?_
      refine z_bipush (pc := 52) C dX4_raise_52 (by decide +kernel) ?_
      refine z_icmp_lt (pc := 54) (tgt := 63) C dX4_raise_54 (by decide) ⟨by omega, by omega⟩ (fun c54 => ?_) (fun c54 => ?_)
      · refine z_iload_n (pc := 63) C dX4_raise_63 rfl 5 rfl ?_
        refine z_istore (pc := 64) (lv' := [(9, _), (8, _), (7, _), (0, _), (1, _), (2, _), (3, _), (4, _), (5, _), (6, _)]) C dX4_raise_64 (by decide) rfl ?_
        refine z_aload_n (pc := 66) C dX4_raise_66 rfl 3 rfl ?_
        refine z_aload_n (pc := 67) C dX4_raise_67 rfl 4 rfl ?_
        refine z_iload_n (pc := 68) C dX4_raise_68 rfl 5 rfl ?_
        refine z_iconst (pc := 69) C dX4_raise_69 ?_
        refine z_iadd (pc := 70) C dX4_raise_70 ?_
        refine z_iload (pc := 71) C dX4_raise_71 0 rfl ?_
        refine z_iload (pc := 73) C dX4_raise_73 2 rfl ?_
        refine z_iload (pc := 75) C dX4_raise_75 1 rfl ?_
        refine z_Vv (pc := 77) C (ih σ o n y w K R V E (h + 1) rain bun _ _ _ b hL hla hr hn ho (by omega) h0 h1 hra hbu (by omega) (by omega) (by omega) hb) ml_X4_24 yw_X4_putOnFrom dX4_raise_77 (by first | rfl | assumption) (by omega) rfl rfl rfl (Nat.le_of_ble_eq_true rfl) ⟨by omega, by decide⟩ (fun t77 q77 => ?_)
        obtain ⟨u77, f77⟩ := q77
        refine z_vret (pc := 80) C dX4_raise_80 ?_
        exact ⟨rfl, by rw [zra, if_neg (by omega)]; (first | rw [if_pos (by omega), if_pos (by omega)] | rw [if_pos (by omega), if_neg (by omega)] | rw [if_neg (by omega), if_pos (by omega)] | rw [if_neg (by omega), if_neg (by omega)]); exact u77, f77⟩
      · refine z_iload_n (pc := 57) C dX4_raise_57 rfl 5 rfl ?_
        refine z_iconst (pc := 58) C dX4_raise_58 ?_
        refine z_iadd (pc := 59) C dX4_raise_59 ?_
        refine z_goto (pc := 60) (tgt := 64) C dX4_raise_60 (by decide) ?_
        refine z_istore (pc := 64) (lv' := [(9, _), (8, _), (7, _), (0, _), (1, _), (2, _), (3, _), (4, _), (5, _), (6, _)]) C dX4_raise_64 (by decide) rfl ?_
        refine z_aload_n (pc := 66) C dX4_raise_66 rfl 3 rfl ?_
        refine z_aload_n (pc := 67) C dX4_raise_67 rfl 4 rfl ?_
        refine z_iload_n (pc := 68) C dX4_raise_68 rfl 5 rfl ?_
        refine z_iconst (pc := 69) C dX4_raise_69 ?_
        refine z_iadd (pc := 70) C dX4_raise_70 ?_
        refine z_iload (pc := 71) C dX4_raise_71 0 rfl ?_
        refine z_iload (pc := 73) C dX4_raise_73 2 rfl ?_
        refine z_iload (pc := 75) C dX4_raise_75 1 rfl ?_
        refine z_Vv (pc := 77) C (ih σ o n y w K R V E (h + 1) rain bun _ _ _ b hL hla hr hn ho (by omega) h0 h1 hra hbu (by omega) (by omega) (by omega) hb) ml_X4_24 yw_X4_putOnFrom dX4_raise_77 (by first | rfl | assumption) (by omega) rfl rfl rfl (Nat.le_of_ble_eq_true rfl) ⟨by omega, by decide⟩ (fun t77 q77 => ?_)
        obtain ⟨u77, f77⟩ := q77
        refine z_vret (pc := 80) C dX4_raise_80 ?_
        exact ⟨rfl, by rw [zra, if_neg (by omega)]; (first | rw [if_pos (by omega), if_pos (by omega)] | rw [if_pos (by omega), if_neg (by omega)] | rw [if_neg (by omega), if_pos (by omega)] | rw [if_neg (by omega), if_neg (by omega)]); exact u77, f77⟩
  · refine z_vret (pc := 25) C dX4_raise_25 ?_
    exact ⟨rfl, by rw [zra, if_pos (by omega)]; exact hb, fun _ _ _ => rfl⟩
set_option maxHeartbeats 4000000 in
set_option maxRecDepth 100000 in
theorem c_put_s (l : Launch) (G : zGt) (k : Nat) (ihk : zPut l G k) : zPut l G (k + 1) := by
  intro σ o n y w K R V E h rain bun s u wt b hL hla hr hn ho hk h0 h1 hra hbu hs hu hw hb
  obtain ⟨k0, b1, b3, b5, b7, k8⟩ := id hL
  have kk3 := b3.1
  have s4 := hla.1
  have hrh := hr h
  have gh := (hla.2.2.2 h (by omega)).2.1
  have hrb := zrb_bd (rain := rain) (s := s) (by omega) (by omega)
  have hk2 : h + (k + 1) = n := hk
  have ehn : n - (k + 1) = h := by omega
  refine zM.of (lv0 := [(0, _), (1, _), (2, _), (3, _), (4, _), (5, _)]) (by decide) (Nat.le_of_ble_eq_true rfl) rfl (fun X C => ?_)
  have J70 : ∀ (τ : zMem), (zPt τ (if R h < zrb rain s then zra (zpo R rain bun n k) bun (R h) (zrb rain s) s u wt (zrb rain s) (zra (zpo R rain bun n k) bun (R h) (zrb rain s) s u wt (R h) b) else (zra (zpo R rain bun n k) bun (R h) (zrb rain s) s u wt (R h) b)) ∧ ∀ a c, (a ≠ 106 ∨ (c ≠ 2 ∧ c ≠ 3)) → τ a c = σ a c) → zg G X true 8 129 0 0 70 [(0, .ref (zB G + 106)), (1, .ref (zB G + o)), (2, .int (zI (h : Int))), (3, .int (zI s)), (4, .int (zI u)), (5, .int (zI wt)), (6, .int (zI (R h)))] [] τ := by
    intro τ hinv
    obtain ⟨hb1, f1⟩ := hinv
    have hl1 := zLa.to2 hla f1 (by omega)
    have h01 := (f1 106 0 (by omega)).trans h0
    have h11 := (f1 106 1 (by omega)).trans h1
    refine z_bipush (pc := 70) C dX4_putOnFrom_70 (by decide +kernel) ?_
    refine z_iload (pc := 72) C dX4_putOnFrom_72 6 rfl ?_
    refine z_icmp_le (pc := 74) (tgt := 90) C dX4_putOnFrom_74 (by decide) ⟨by omega, by omega⟩ (fun c74 => ?_) (fun c74 => ?_)
    · refine z_vret (pc := 90) C dX4_putOnFrom_90 ?_
      first
        | exact ⟨rfl, by rw [zpo]; simp only [ehn]; rw [if_pos (by omega)]; exact u87, fun a c q => (f87 a c q).trans (f1 a c q)⟩
        | exact ⟨rfl, by rw [zpo]; simp only [ehn]; rw [if_neg (by omega)]; exact hb1, f1⟩
    · refine z_aload_n (pc := 77) C dX4_putOnFrom_77 rfl 0 rfl ?_
      refine z_aload_n (pc := 78) C dX4_putOnFrom_78 rfl 1 rfl ?_
      refine z_iload_n (pc := 79) C dX4_putOnFrom_79 rfl 2 rfl ?_
      refine z_iload_n (pc := 80) C dX4_putOnFrom_80 rfl 3 rfl ?_
      refine z_iload (pc := 81) C dX4_putOnFrom_81 4 rfl ?_
      refine z_iload (pc := 83) C dX4_putOnFrom_83 5 rfl ?_
      refine z_bipush (pc := 85) C dX4_putOnFrom_85 (by decide +kernel) ?_
      refine z_Vv (pc := 87) C (c_raise_open l G k ihk _ o n y w K R V E h rain bun s u wt 10 (if R h < zrb rain s then zra (zpo R rain bun n k) bun (R h) (zrb rain s) s u wt (zrb rain s) (zra (zpo R rain bun n k) bun (R h) (zrb rain s) s u wt (R h) b) else (zra (zpo R rain bun n k) bun (R h) (zrb rain s) s u wt (R h) b)) hL (hl1) hr hn ho hk2 (h01) (h11) hra hbu hs hu hw (by omega) hb1) ml_X4_51 yw_X4_raise dX4_putOnFrom_87 (by first | rfl | assumption) (by omega) rfl rfl rfl (Nat.le_of_ble_eq_true rfl) ⟨by omega, by decide⟩ (fun t87 q87 => ?_)
      obtain ⟨u87, f87⟩ := q87
      refine z_vret (pc := 90) C dX4_putOnFrom_90 ?_
      first
        | exact ⟨rfl, by rw [zpo]; simp only [ehn]; rw [if_pos (by omega)]; exact u87, fun a c q => (f87 a c q).trans (f1 a c q)⟩
        | exact ⟨rfl, by rw [zpo]; simp only [ehn]; rw [if_neg (by omega)]; exact hb1, f1⟩
  refine z_iload_n (pc := 0) C dX4_putOnFrom_0 rfl 2 rfl ?_
  refine z_aload_n (pc := 1) C dX4_putOnFrom_1 rfl 1 rfl ?_
  refine z_getI (pc := 2) C fl_X4_28 dX4_putOnFrom_2 (by first | rfl | assumption) (by omega) (fun g2 => ?_)
  refine z_icmp_lt (pc := 5) (tgt := 17) C dX4_putOnFrom_5 (by decide) ⟨by omega, by omega⟩ (fun c5 => ?_) (fun c5 => by exfalso; omega)
  refine z_aload_n (pc := 17) C dX4_putOnFrom_17 rfl 1 rfl ?_
  refine z_getR (pc := 18) C (o + 3) fl_X4_37 dX4_putOnFrom_18 (by first | rfl | assumption) (by omega) rfl (Or.inl rfl) ?_
  refine z_iload_n (pc := 21) C dX4_putOnFrom_21 rfl 2 rfl ?_
  refine z_Vi (pc := 22) C (c_X6_atv l G _ _ _ (h) _ (R h) (by first | assumption | omega | decide) rfl (by first | assumption | omega | decide) (gh)) ml_X4_41 yw_X6_at dX4_putOnFrom_22 (by first | rfl | assumption) (by omega) rfl rfl rfl (Nat.le_of_ble_eq_true rfl) ⟨by omega, by decide⟩ (fun r22 t22 h22 q22 => ?_)
  obtain ⟨rfl, rfl⟩ := q22
  refine z_istore (pc := 25) (lv' := [(6, _), (0, _), (1, _), (2, _), (3, _), (4, _), (5, _)]) C dX4_putOnFrom_25 (by decide) rfl ?_
  refine z_aload_n (pc := 27) C dX4_putOnFrom_27 rfl 1 rfl ?_
  refine z_getI (pc := 28) C fl_X4_18 dX4_putOnFrom_28 (by first | rfl | assumption) (by omega) (fun g28 => ?_)
  refine z_iload_n (pc := 31) C dX4_putOnFrom_31 rfl 4 rfl ?_
  rw [h0]
  refine z_Si (pc := 32) C (c_X9_rainBehind l G _ _ _ (by first | assumption | omega | decide) (by first | assumption | omega | decide)) ml_X4_47 ys_X9_rainBehind dX4_putOnFrom_32 rfl rfl (Nat.le_of_ble_eq_true rfl) ⟨by omega, by decide⟩ (fun r32 t32 h32 q32 => ?_)
  obtain ⟨rfl, rfl⟩ := q32
  refine z_istore (pc := 35) (lv' := [(7, _), (6, _), (0, _), (1, _), (2, _), (3, _), (4, _), (5, _)]) C dX4_putOnFrom_35 (by decide) rfl ?_
  refine z_aload_n (pc := 37) C dX4_putOnFrom_37 rfl 2 rfl ?_
  refine z_aload_n (pc := 38) C dX4_putOnFrom_38 rfl 3 rfl ?_
  refine z_iload_n (pc := 39) C dX4_putOnFrom_39 rfl 4 rfl ?_
  refine z_iload_n (pc := 40) C dX4_putOnFrom_40 rfl 5 rfl ?_
  refine z_iload (pc := 41) C dX4_putOnFrom_41 6 rfl ?_
  refine z_iload (pc := 43) C dX4_putOnFrom_43 7 rfl ?_
  refine z_iload (pc := 45) C dX4_putOnFrom_45 1 rfl ?_
  refine z_Vv (pc := 47) C (c_raise_open l G k ihk _ o n y w K R V E h rain bun s u wt (R h) b hL (hla) hr hn ho hk2 (h0) (h1) hra hbu hs hu hw (by omega) hb) ml_X4_51 yw_X4_raise dX4_putOnFrom_47 (by first | rfl | assumption) (by omega) rfl rfl rfl (Nat.le_of_ble_eq_true rfl) ⟨by omega, by decide⟩ (fun t47 q47 => ?_)
  obtain ⟨u47, f47⟩ := q47
  refine z_iload (pc := 50) C dX4_putOnFrom_50 0 rfl ?_
  refine z_iload (pc := 52) C dX4_putOnFrom_52 1 rfl ?_
  refine z_icmp_le (pc := 54) (tgt := 70) C dX4_putOnFrom_54 (by decide) ⟨by omega, by omega⟩ (fun c54 => ?_) (fun c54 => ?_)
  · refine z_sub C [2, 3, 4, 5, 6, 7, 1] rfl ?_
    exact J70 _ (by first | exact ⟨by rw [if_pos (by omega)]; exact u67, fun a c q => (f67 a c q).trans (f47 a c q)⟩ | exact ⟨by rw [if_neg (by omega)]; exact u47, f47⟩)
  · have hl1 := zLa.to2 hla f47 (by omega)
    have h01 := (f47 106 0 (by omega)).trans h0
    have h11 := (f47 106 1 (by omega)).trans h1
    have hb1 := u47
    refine z_aload_n (pc := 57) C dX4_putOnFrom_57 rfl 2 rfl ?_
    refine z_aload_n (pc := 58) C dX4_putOnFrom_58 rfl 3 rfl ?_
    refine z_iload_n (pc := 59) C dX4_putOnFrom_59 rfl 4 rfl ?_
    refine z_iload_n (pc := 60) C dX4_putOnFrom_60 rfl 5 rfl ?_
    refine z_iload (pc := 61) C dX4_putOnFrom_61 6 rfl ?_
    refine z_iload (pc := 63) C dX4_putOnFrom_63 7 rfl ?_
    refine z_iload (pc := 65) C dX4_putOnFrom_65 0 rfl ?_
    refine z_Vv (pc := 67) C (c_raise_open l G k ihk _ o n y w K R V E h rain bun s u wt (zrb rain s) (zra (zpo R rain bun n k) bun (R h) (zrb rain s) s u wt (R h) b) hL (hl1) hr hn ho hk2 (h01) (h11) hra hbu hs hu hw (by omega) hb1) ml_X4_51 yw_X4_raise dX4_putOnFrom_67 (by first | rfl | assumption) (by omega) rfl rfl rfl (Nat.le_of_ble_eq_true rfl) ⟨by omega, by decide⟩ (fun t67 q67 => ?_)
    obtain ⟨u67, f67⟩ := q67
    refine z_sub C [2, 3, 4, 5, 6, 7, 1] rfl ?_
    exact J70 _ (by first | exact ⟨by rw [if_pos (by omega)]; exact u67, fun a c q => (f67 a c q).trans (f47 a c q)⟩ | exact ⟨by rw [if_neg (by omega)]; exact u47, f47⟩)
theorem c_put (l : Launch) (G : zGt) : ∀ k, zPut l G k
  | 0 => c_put_0 l G
  | k + 1 => c_put_s l G k (c_put l G k)
set_option maxHeartbeats 4000000 in
set_option maxRecDepth 100000 in
theorem c_X4_search (l : Launch) (G : zGt) (σ : zMem) (o n : Nat) (y w : Int) (K R V E : Nat → Int) (hL : zLane o) (h : zLa σ o n y w K R V E) (hr : zLr K R V E) (hn : n ≤ 6) (rain bun : Int) (ho : o + 9 ≤ 106) (hra : 0 ≤ rain ∧ rain ≤ 20) (hbu : 0 ≤ bun ∧ bun ≤ 30) : zN l G yX4_search cX4_search 4 (none) 15 [.ref (zB G + 106), .ref (zB G + o), .int (zI rain), .int (zI bun)] σ (zPv (fun τ => zPt τ (zpo R rain bun n n 0 0 0 (7, 0)) ∧ zFr 106 107 σ τ)) := by
  obtain ⟨k0, b1, b3, b5, b7, k8⟩ := id hL
  have kk3 := b3.1
  have s4 := h.1
  refine zM.of (lv0 := [(0, _), (1, _), (2, _), (3, _)]) (by decide) (Nat.le_of_ble_eq_true rfl) rfl (fun X C => ?_)
  refine z_aload_n (pc := 0) C dX4_search_0 rfl 0 rfl ?_
  refine z_iload_n (pc := 1) C dX4_search_1 rfl 2 rfl ?_
  refine z_putIe (pc := 2) C fl_X4_18 dX4_search_2 (by first | rfl | assumption) (by omega) (by omega) (fun m2 em2 => ?_)
  refine z_aload_n (pc := 5) C dX4_search_5 rfl 0 rfl ?_
  refine z_iload_n (pc := 6) C dX4_search_6 rfl 3 rfl ?_
  refine z_putIe (pc := 7) C fl_X4_21 dX4_search_7 (by first | rfl | assumption) (by omega) (by omega) (fun m7 em7 => ?_)
  refine z_aload_n (pc := 10) C dX4_search_10 rfl 0 rfl ?_
  refine z_bipush (pc := 11) C dX4_search_11 (by decide +kernel) ?_
  refine z_putIe (pc := 13) C fl_X4_9 dX4_search_13 (by first | rfl | assumption) (by omega) (by omega) (fun m13 em13 => ?_)
  refine z_aload_n (pc := 16) C dX4_search_16 rfl 0 rfl ?_
  refine z_iconst (pc := 17) C dX4_search_17 ?_
  refine z_putIe (pc := 18) C fl_X4_15 dX4_search_18 (by first | rfl | assumption) (by omega) (by omega) (fun m18 em18 => ?_)
  have hfr : zFr 106 107 σ m18 := by rw [em18, em13, em7, em2]; exact (((zFr.rf.put (by omega) (by omega)).put (by omega) (by omega)).put (by omega) (by omega)).put (by omega) (by omega)
  have hl := h.fr hfr (by omega)
  refine z_aload_n (pc := 21) C dX4_search_21 rfl 0 rfl ?_
  refine z_aload_n (pc := 22) C dX4_search_22 rfl 1 rfl ?_
  refine z_iconst (pc := 23) C dX4_search_23 ?_
  refine z_iconst (pc := 24) C dX4_search_24 ?_
  refine z_iconst (pc := 25) C dX4_search_25 ?_
  refine z_iconst (pc := 26) C dX4_search_26 ?_
  refine z_Vv (pc := 27) C (c_put l G n m18 o n y w K R V E 0 rain bun 0 0 0 (7, 0) hL hl hr hn ho (by omega) (by rw [em18, zU_k (by omega), em13, zU_k (by omega), em7, zU_k (by omega), em2]; exact zU_at) (by rw [em18, zU_k (by omega), em13, zU_k (by omega), em7]; exact zU_at) hra hbu (by omega) (by omega) (by omega) ⟨by rw [em18, zU_k (by omega), em13]; exact zU_at, by rw [em18]; exact zU_at⟩) ml_X4_24 yw_X4_putOnFrom dX4_search_27 (by first | rfl | assumption) (by omega) rfl rfl rfl (Nat.le_of_ble_eq_true rfl) ⟨by omega, by decide⟩ (fun t27 q27 => ?_)
  obtain ⟨u27, f27⟩ := q27
  refine z_vret (pc := 30) C dX4_search_30 ?_
  exact ⟨rfl, u27, hfr.tr (fun a c q => f27 a c (by omega))⟩
