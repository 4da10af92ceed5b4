set_option maxHeartbeats 4000000 in
set_option maxRecDepth 100000 in
theorem c_X9_inLowestTerms (l : Launch) (G : zGt) (σ : zMem) (A B N : Nat) (a b q : Int) (ha : a = A) (hb : b = B) (hq : q = N) (hN : N ≤ 7) (hA : A ≤ 10000000) (hB : B ≤ 10000000) (hg : Nat.gcd A B ∣ 10 ^ N) : zN l G yX9_inLowestTerms cX9_inLowestTerms 6 (some .int) 0 [.int (zI a), .int (zI b), .int (zI q)] σ (zPi (fun x τ => x = zlt (A : Int) (B : Int) ∧ σ = τ)) := by
  subst ha
  subst hb
  subst hq
  refine zM.of (lv0 := [(0, _), (1, _), (2, _)]) (by decide) (Nat.le_of_ble_eq_true rfl) rfl (fun X C => ?_)
  have L8 : ∀ (fuel : Nat) (j one oth : Nat), N - j < fuel → (j ≤ N ∧ zLw A B one oth (10 ^ (N - j))) → zg G X true 6 129 0 0 8 [(2, .int (zI (N : Int))), (3, .int (zI (one : Int))), (4, .int (zI (oth : Int))), (5, .int (zI (j : Int)))] [] σ := by
    intro fuel
    induction fuel with
    | zero => intro j one oth hm; exact absurd hm (Nat.not_lt_zero _)
    | succ fuel ih =>
      intro j one oth hms hinv
      obtain ⟨h1, h2⟩ := hinv
      refine z_iload (pc := 8) C dX9_inLowestTerms_8 3 rfl ?_
      refine z_iload_n (pc := 10) C dX9_inLowestTerms_10 rfl 0 rfl ?_
      refine z_icmp_ge (pc := 11) (tgt := 66) C dX9_inLowestTerms_11 (by decide) ⟨by omega, by omega⟩ (fun c11 => ?_) (fun c11 => ?_)
      · refine z_iload_n (pc := 66) C dX9_inLowestTerms_66 rfl 1 rfl ?_
        refine z_iret (pc := 67) C dX9_inLowestTerms_67 ?_
        have hle := h2.le
        have h4 : zLw A B one oth 1 := by rw [show N - j = 0 by omega] at h2; exact h2
        exact ⟨_, rfl, by omega, by rw [zlt_nat, h4.end], rfl⟩
      · have h3 : zLw A B one oth (2 * (5 * 10 ^ (N - (j + 1)))) := by rw [← z10, show N - (j + 1) + 1 = N - j by omega]; exact h2
        have hle := h2.le
        refine z_iload_n (pc := 14) C dX9_inLowestTerms_14 rfl 1 rfl ?_
        refine z_iconst (pc := 15) C dX9_inLowestTerms_15 ?_
        refine z_irem (pc := 16) C dX9_inLowestTerms_16 ⟨⟨by omega, by omega⟩, by omega, by omega⟩ ?_
        refine z_if_ne (pc := 17) (tgt := 37) C dX9_inLowestTerms_17 (by decide) (by omega) (fun c17 => ?_) (fun c17 => ?_)
        · first
            | have k3 := h3.two (by omega) (by omega)
            | have k3 := h3.no2 (by omega)
          refine z_iload_n (pc := 37) C dX9_inLowestTerms_37 rfl 1 rfl ?_
          refine z_iconst (pc := 38) C dX9_inLowestTerms_38 ?_
          refine z_irem (pc := 39) C dX9_inLowestTerms_39 ⟨⟨by omega, by omega⟩, by omega, by omega⟩ ?_
          refine z_if_ne (pc := 40) (tgt := 60) C dX9_inLowestTerms_40 (by decide) (by omega) (fun c40 => ?_) (fun c40 => ?_)
          · refine z_iinc (pc := 60) (lv' := [(5, _), (2, _), (3, _), (4, _)]) C dX9_inLowestTerms_60 3 rfl (by decide) rfl ?_
            refine z_goto (pc := 63) (tgt := 8) C dX9_inLowestTerms_63 (by decide) ?_
            refine z_sub C [1, 2, 3, 0] rfl ?_
            first
              | exact ih (j + 1) (one / 2 / 5) (oth / 2 / 5) (by omega) ⟨by omega, k3.five (by omega) (by omega)⟩
              | exact ih (j + 1) (one / 5) (oth / 5) (by omega) ⟨by omega, k3.five (by omega) (by omega)⟩
              | exact ih (j + 1) (one / 2) (oth / 2) (by omega) ⟨by omega, k3.no5 (by omega)⟩
              | exact ih (j + 1) one oth (by omega) ⟨by omega, k3.no5 (by omega)⟩
          · refine z_iload (pc := 43) C dX9_inLowestTerms_43 2 rfl ?_
            refine z_iconst (pc := 45) C dX9_inLowestTerms_45 ?_
            refine z_irem (pc := 46) C dX9_inLowestTerms_46 ⟨⟨by omega, by omega⟩, by omega, by omega⟩ ?_
            refine z_if_ne (pc := 47) (tgt := 60) C dX9_inLowestTerms_47 (by decide) (by omega) (fun c47 => ?_) (fun c47 => ?_)
            · refine z_iinc (pc := 60) (lv' := [(5, _), (2, _), (3, _), (4, _)]) C dX9_inLowestTerms_60 3 rfl (by decide) rfl ?_
              refine z_goto (pc := 63) (tgt := 8) C dX9_inLowestTerms_63 (by decide) ?_
              refine z_sub C [1, 2, 3, 0] rfl ?_
              first
                | exact ih (j + 1) (one / 2 / 5) (oth / 2 / 5) (by omega) ⟨by omega, k3.five (by omega) (by omega)⟩
                | exact ih (j + 1) (one / 5) (oth / 5) (by omega) ⟨by omega, k3.five (by omega) (by omega)⟩
                | exact ih (j + 1) (one / 2) (oth / 2) (by omega) ⟨by omega, k3.no5 (by omega)⟩
                | exact ih (j + 1) one oth (by omega) ⟨by omega, k3.no5 (by omega)⟩
            · refine z_iload_n (pc := 50) C dX9_inLowestTerms_50 rfl 1 rfl ?_
              refine z_iconst (pc := 51) C dX9_inLowestTerms_51 ?_
              refine z_idiv (pc := 52) C dX9_inLowestTerms_52 ⟨⟨by omega, by omega⟩, by omega, by omega⟩ ?_
              refine z_istore_n (pc := 53) (lv' := [(3, _), (2, _), (4, _), (5, _)]) C dX9_inLowestTerms_53 rfl (by decide) rfl ?_
              refine z_iload (pc := 54) C dX9_inLowestTerms_54 2 rfl ?_
              refine z_iconst (pc := 56) C dX9_inLowestTerms_56 ?_
              refine z_idiv (pc := 57) C dX9_inLowestTerms_57 ⟨⟨by omega, by omega⟩, by omega, by omega⟩ ?_
              refine z_istore (pc := 58) (lv' := [(4, _), (3, _), (2, _), (5, _)]) C dX9_inLowestTerms_58 (by decide) rfl ?_
              refine z_iinc (pc := 60) (lv' := [(5, _), (4, _), (3, _), (2, _)]) C dX9_inLowestTerms_60 3 rfl (by decide) rfl ?_
              refine z_goto (pc := 63) (tgt := 8) C dX9_inLowestTerms_63 (by decide) ?_
              refine z_sub C [3, 2, 1, 0] rfl ?_
              first
                | exact ih (j + 1) (one / 2 / 5) (oth / 2 / 5) (by omega) ⟨by omega, k3.five (by omega) (by omega)⟩
                | exact ih (j + 1) (one / 5) (oth / 5) (by omega) ⟨by omega, k3.five (by omega) (by omega)⟩
                | exact ih (j + 1) (one / 2) (oth / 2) (by omega) ⟨by omega, k3.no5 (by omega)⟩
                | exact ih (j + 1) one oth (by omega) ⟨by omega, k3.no5 (by omega)⟩
        · refine z_iload (pc := 20) C dX9_inLowestTerms_20 2 rfl ?_
          refine z_iconst (pc := 22) C dX9_inLowestTerms_22 ?_
          refine z_irem (pc := 23) C dX9_inLowestTerms_23 ⟨⟨by omega, by omega⟩, by omega, by omega⟩ ?_
          refine z_if_ne (pc := 24) (tgt := 37) C dX9_inLowestTerms_24 (by decide) (by omega) (fun c24 => ?_) (fun c24 => ?_)
          · first
              | have k3 := h3.two (by omega) (by omega)
              | have k3 := h3.no2 (by omega)
            refine z_iload_n (pc := 37) C dX9_inLowestTerms_37 rfl 1 rfl ?_
            refine z_iconst (pc := 38) C dX9_inLowestTerms_38 ?_
            refine z_irem (pc := 39) C dX9_inLowestTerms_39 ⟨⟨by omega, by omega⟩, by omega, by omega⟩ ?_
            refine z_if_ne (pc := 40) (tgt := 60) C dX9_inLowestTerms_40 (by decide) (by omega) (fun c40 => ?_) (fun c40 => ?_)
            · refine z_iinc (pc := 60) (lv' := [(5, _), (2, _), (3, _), (4, _)]) C dX9_inLowestTerms_60 3 rfl (by decide) rfl ?_
              refine z_goto (pc := 63) (tgt := 8) C dX9_inLowestTerms_63 (by decide) ?_
              refine z_sub C [1, 2, 3, 0] rfl ?_
              first
                | exact ih (j + 1) (one / 2 / 5) (oth / 2 / 5) (by omega) ⟨by omega, k3.five (by omega) (by omega)⟩
                | exact ih (j + 1) (one / 5) (oth / 5) (by omega) ⟨by omega, k3.five (by omega) (by omega)⟩
                | exact ih (j + 1) (one / 2) (oth / 2) (by omega) ⟨by omega, k3.no5 (by omega)⟩
                | exact ih (j + 1) one oth (by omega) ⟨by omega, k3.no5 (by omega)⟩
            · refine z_iload (pc := 43) C dX9_inLowestTerms_43 2 rfl ?_
              refine z_iconst (pc := 45) C dX9_inLowestTerms_45 ?_
              refine z_irem (pc := 46) C dX9_inLowestTerms_46 ⟨⟨by omega, by omega⟩, by omega, by omega⟩ ?_
              refine z_if_ne (pc := 47) (tgt := 60) C dX9_inLowestTerms_47 (by decide) (by omega) (fun c47 => ?_) (fun c47 => ?_)
              · refine z_iinc (pc := 60) (lv' := [(5, _), (2, _), (3, _), (4, _)]) C dX9_inLowestTerms_60 3 rfl (by decide) rfl ?_
                refine z_goto (pc := 63) (tgt := 8) C dX9_inLowestTerms_63 (by decide) ?_
                refine z_sub C [1, 2, 3, 0] rfl ?_
                first
                  | exact ih (j + 1) (one / 2 / 5) (oth / 2 / 5) (by omega) ⟨by omega, k3.five (by omega) (by omega)⟩
                  | exact ih (j + 1) (one / 5) (oth / 5) (by omega) ⟨by omega, k3.five (by omega) (by omega)⟩
                  | exact ih (j + 1) (one / 2) (oth / 2) (by omega) ⟨by omega, k3.no5 (by omega)⟩
                  | exact ih (j + 1) one oth (by omega) ⟨by omega, k3.no5 (by omega)⟩
              · refine z_iload_n (pc := 50) C dX9_inLowestTerms_50 rfl 1 rfl ?_
                refine z_iconst (pc := 51) C dX9_inLowestTerms_51 ?_
                refine z_idiv (pc := 52) C dX9_inLowestTerms_52 ⟨⟨by omega, by omega⟩, by omega, by omega⟩ ?_
                refine z_istore_n (pc := 53) (lv' := [(3, _), (2, _), (4, _), (5, _)]) C dX9_inLowestTerms_53 rfl (by decide) rfl ?_
                refine z_iload (pc := 54) C dX9_inLowestTerms_54 2 rfl ?_
                refine z_iconst (pc := 56) C dX9_inLowestTerms_56 ?_
                refine z_idiv (pc := 57) C dX9_inLowestTerms_57 ⟨⟨by omega, by omega⟩, by omega, by omega⟩ ?_
                refine z_istore (pc := 58) (lv' := [(4, _), (3, _), (2, _), (5, _)]) C dX9_inLowestTerms_58 (by decide) rfl ?_
                refine z_iinc (pc := 60) (lv' := [(5, _), (4, _), (3, _), (2, _)]) C dX9_inLowestTerms_60 3 rfl (by decide) rfl ?_
                refine z_goto (pc := 63) (tgt := 8) C dX9_inLowestTerms_63 (by decide) ?_
                refine z_sub C [3, 2, 1, 0] rfl ?_
                first
                  | exact ih (j + 1) (one / 2 / 5) (oth / 2 / 5) (by omega) ⟨by omega, k3.five (by omega) (by omega)⟩
                  | exact ih (j + 1) (one / 5) (oth / 5) (by omega) ⟨by omega, k3.five (by omega) (by omega)⟩
                  | exact ih (j + 1) (one / 2) (oth / 2) (by omega) ⟨by omega, k3.no5 (by omega)⟩
                  | exact ih (j + 1) one oth (by omega) ⟨by omega, k3.no5 (by omega)⟩
          · refine z_iload_n (pc := 27) C dX9_inLowestTerms_27 rfl 1 rfl ?_
            refine z_iconst (pc := 28) C dX9_inLowestTerms_28 ?_
            refine z_idiv (pc := 29) C dX9_inLowestTerms_29 ⟨⟨by omega, by omega⟩, by omega, by omega⟩ ?_
            refine z_istore_n (pc := 30) (lv' := [(3, _), (2, _), (4, _), (5, _)]) C dX9_inLowestTerms_30 rfl (by decide) rfl ?_
            refine z_iload (pc := 31) C dX9_inLowestTerms_31 2 rfl ?_
            refine z_iconst (pc := 33) C dX9_inLowestTerms_33 ?_
            refine z_idiv (pc := 34) C dX9_inLowestTerms_34 ⟨⟨by omega, by omega⟩, by omega, by omega⟩ ?_
            refine z_istore (pc := 35) (lv' := [(4, _), (3, _), (2, _), (5, _)]) C dX9_inLowestTerms_35 (by decide) rfl ?_
            first
              | have k3 := h3.two (by omega) (by omega)
              | have k3 := h3.no2 (by omega)
            refine z_iload_n (pc := 37) C dX9_inLowestTerms_37 rfl 1 rfl ?_
            refine z_iconst (pc := 38) C dX9_inLowestTerms_38 ?_
            refine z_irem (pc := 39) C dX9_inLowestTerms_39 ⟨⟨by omega, by omega⟩, by omega, by omega⟩ ?_
            refine z_if_ne (pc := 40) (tgt := 60) C dX9_inLowestTerms_40 (by decide) (by omega) (fun c40 => ?_) (fun c40 => ?_)
            · refine z_iinc (pc := 60) (lv' := [(5, _), (4, _), (3, _), (2, _)]) C dX9_inLowestTerms_60 3 rfl (by decide) rfl ?_
              refine z_goto (pc := 63) (tgt := 8) C dX9_inLowestTerms_63 (by decide) ?_
              refine z_sub C [3, 2, 1, 0] rfl ?_
              first
                | exact ih (j + 1) (one / 2 / 5) (oth / 2 / 5) (by omega) ⟨by omega, k3.five (by omega) (by omega)⟩
                | exact ih (j + 1) (one / 5) (oth / 5) (by omega) ⟨by omega, k3.five (by omega) (by omega)⟩
                | exact ih (j + 1) (one / 2) (oth / 2) (by omega) ⟨by omega, k3.no5 (by omega)⟩
                | exact ih (j + 1) one oth (by omega) ⟨by omega, k3.no5 (by omega)⟩
            · refine z_iload (pc := 43) C dX9_inLowestTerms_43 0 rfl ?_
              refine z_iconst (pc := 45) C dX9_inLowestTerms_45 ?_
              refine z_irem (pc := 46) C dX9_inLowestTerms_46 ⟨⟨by omega, by omega⟩, by omega, by omega⟩ ?_
              refine z_if_ne (pc := 47) (tgt := 60) C dX9_inLowestTerms_47 (by decide) (by omega) (fun c47 => ?_) (fun c47 => ?_)
              · refine z_iinc (pc := 60) (lv' := [(5, _), (4, _), (3, _), (2, _)]) C dX9_inLowestTerms_60 3 rfl (by decide) rfl ?_
                refine z_goto (pc := 63) (tgt := 8) C dX9_inLowestTerms_63 (by decide) ?_
                refine z_sub C [3, 2, 1, 0] rfl ?_
                first
                  | exact ih (j + 1) (one / 2 / 5) (oth / 2 / 5) (by omega) ⟨by omega, k3.five (by omega) (by omega)⟩
                  | exact ih (j + 1) (one / 5) (oth / 5) (by omega) ⟨by omega, k3.five (by omega) (by omega)⟩
                  | exact ih (j + 1) (one / 2) (oth / 2) (by omega) ⟨by omega, k3.no5 (by omega)⟩
                  | exact ih (j + 1) one oth (by omega) ⟨by omega, k3.no5 (by omega)⟩
              · refine z_iload_n (pc := 50) C dX9_inLowestTerms_50 rfl 1 rfl ?_
                refine z_iconst (pc := 51) C dX9_inLowestTerms_51 ?_
                refine z_idiv (pc := 52) C dX9_inLowestTerms_52 ⟨⟨by omega, by omega⟩, by omega, by omega⟩ ?_
                refine z_istore_n (pc := 53) (lv' := [(3, _), (4, _), (2, _), (5, _)]) C dX9_inLowestTerms_53 rfl (by decide) rfl ?_
                refine z_iload (pc := 54) C dX9_inLowestTerms_54 1 rfl ?_
                refine z_iconst (pc := 56) C dX9_inLowestTerms_56 ?_
                refine z_idiv (pc := 57) C dX9_inLowestTerms_57 ⟨⟨by omega, by omega⟩, by omega, by omega⟩ ?_
                refine z_istore (pc := 58) (lv' := [(4, _), (3, _), (2, _), (5, _)]) C dX9_inLowestTerms_58 (by decide) rfl ?_
                refine z_iinc (pc := 60) (lv' := [(5, _), (4, _), (3, _), (2, _)]) C dX9_inLowestTerms_60 3 rfl (by decide) rfl ?_
                refine z_goto (pc := 63) (tgt := 8) C dX9_inLowestTerms_63 (by decide) ?_
                refine z_sub C [3, 2, 1, 0] rfl ?_
                first
                  | exact ih (j + 1) (one / 2 / 5) (oth / 2 / 5) (by omega) ⟨by omega, k3.five (by omega) (by omega)⟩
                  | exact ih (j + 1) (one / 5) (oth / 5) (by omega) ⟨by omega, k3.five (by omega) (by omega)⟩
                  | exact ih (j + 1) (one / 2) (oth / 2) (by omega) ⟨by omega, k3.no5 (by omega)⟩
                  | exact ih (j + 1) one oth (by omega) ⟨by omega, k3.no5 (by omega)⟩
  refine z_iload_n (pc := 0) C dX9_inLowestTerms_0 rfl 0 rfl ?_
  refine z_istore_n (pc := 1) (lv' := [(3, _), (0, _), (1, _), (2, _)]) C dX9_inLowestTerms_1 rfl (by decide) rfl ?_
  refine z_iload_n (pc := 2) C dX9_inLowestTerms_2 rfl 2 rfl ?_
  refine z_istore (pc := 3) (lv' := [(4, _), (3, _), (0, _), (1, _), (2, _)]) C dX9_inLowestTerms_3 (by decide) rfl ?_
  refine z_iconst (pc := 5) C dX9_inLowestTerms_5 ?_
  refine z_istore (pc := 6) (lv' := [(5, _), (4, _), (3, _), (0, _), (1, _), (2, _)]) C dX9_inLowestTerms_6 (by decide) rfl ?_
  refine z_sub C [5, 2, 1, 0] rfl ?_
  exact L8 _ 0 A B (Nat.lt_succ_self _) ⟨by omega, ⟨1, by decide, Nat.mul_one _, Nat.mul_one _⟩, hg⟩
/-! one of AGES in its steps -/
def zmid (s : zSt) (i : Nat) (c : Int) : zSt := if c = 0 then (s.1, zcv1 s.2.1 i, s.2.2) else if s.2.2 i = 0 ∧ 2 ≤ s.1 i then (zup s.1 i (s.1 i - 2), s.2.1, zup s.2.2 i 1) else s
def zgs (K : Nat → Int) (y : Int) (s : zSt) : Nat → Int := fun j => zgr (K j) (s.1 j) (s.2.1 j) (s.2.2 j) (y + 1)
theorem za1_eq {n : Nat} {K : Nat → Int} {y t sd c : Int} {s : zSt} {i : Nat} (hi : zds sd / 65536 % n = i) (hc : c = zds (zds sd) / 65536 % 2) : za1 n K y (t, sd, s) = (t + zsum (zwp (zgs K y (zmid s i c)) (zds (zds (zds sd)) / 65536 % 16)) n, zds (zds (zds sd)), (zgs K y (zmid s i c), zrV (zgs K y (zmid s i c)) (zmid s i c).2.1 (zds (zds (zds sd)) / 65536 % 16), fun _ => 0)) := by
  have h1 : (zds sd / 65536 % n).toNat = i := by rw [hi]; rfl
  subst hc
  unfold za1
  dsimp only
  rw [h1]
  rfl
theorem zmid_r {K : Nat → Int} {s : zSt} (h : zStr K s) (i : Nat) (c : Int) : zStr K (zmid s i c) := fun j => by
  have hj := h j
  have hv := zcv1_bd (fun j => (h j).2.2.1) i j
  unfold zmid
  split
  · exact ⟨hj.1, hj.2.1, hv, hj.2.2.2⟩
  · split
    · rename_i q
      have hi := h i
      dsimp only
      unfold zup
      refine ⟨hj.1, ?_, hj.2.2.1, ?_⟩
      · split <;> omega
      · split <;> omega
    · exact hj
theorem zrV_bd {R V : Nat → Int} {rain : Int} {j : Nat} (h : 0 ≤ V j ∧ V j ≤ 9) : 0 ≤ zrV R V rain j ∧ zrV R V rain j ≤ 9 := by
  unfold zrV
  (repeat' split) <;> omega
theorem za1_r {n : Nat} {K : Nat → Int} {y t sd : Int} {s : zSt} (hn : 1 ≤ n) (h : zStr K s) : zStr K (za1 n K y (t, sd, s)).2.2 := by
  have hb := zds_bd sd
  have := Int.emod_nonneg (zds sd / 65536) (show (n : Int) ≠ 0 by omega)
  obtain ⟨i, hi⟩ : ∃ i : Nat, zds sd / 65536 % n = i := ⟨(zds sd / 65536 % n).toNat, by omega⟩
  rw [za1_eq hi rfl]
  intro j
  have hm := zmid_r h i (zds (zds sd) / 65536 % 2) j
  exact ⟨hm.1, zgr_bd _ _ _ _ _, zrV_bd hm.2.2.1, by simp⟩
theorem zag_r {n : Nat} {K : Nat → Int} {y : Int} (hn : 1 ≤ n) {a : zAg} (h : zStr K a.2.2) : ∀ t, zStr K (zag n K y a t).2.2 := by
  intro t
  induction t with
  | zero => exact h
  | succ t ih => exact za1_r (sd := (zag n K y a t).2.1) (t := (zag n K y a t).1) hn ih
theorem za1_s {n : Nat} {K : Nat → Int} {y : Int} (a : zAg) : (za1 n K y a).2.1 = zds (zds (zds a.2.1)) := rfl
theorem zag_s {n : Nat} {K : Nat → Int} {y : Int} {a : zAg} (h : 0 ≤ a.2.1 ∧ a.2.1 < 2147483648) : ∀ t, 0 ≤ (zag n K y a t).2.1 ∧ (zag n K y a t).2.1 < 2147483648 := by
  intro t
  cases t with
  | zero => exact h
  | succ t => rw [zag, za1_s]; exact zds_bd _
set_option maxHeartbeats 4000000 in
set_option maxRecDepth 100000 in
theorem c_X9_oneAge (l : Launch) (G : zGt) (σ : zMem) (n : Nat) (y w t sd : Int) (K R V E : Nat → Int) (h : zLa σ 36 n y w K R V E) (hr : zLr K R V E) (hn : 1 ≤ n ∧ n ≤ 6) (hsd : σ 107 0 = sd) (hb : 0 ≤ sd ∧ sd < 2147483648) (hy : 0 ≤ y ∧ y ≤ 95000) (hw : 0 ≤ w ∧ w ≤ 900000) : zN l G yX9_oneAge cX9_oneAge 2 (some .int) 3 [.ref (zB G + 0)] σ (zPi (fun x τ => t + x = (za1 n K y (t, sd, (R, V, E))).1 ∧ (0 ≤ x ∧ x ≤ 6) ∧ (∃ w1, (w ≤ w1 ∧ w1 ≤ w + 6) ∧ zLa τ 36 n (y + 1) w1 K (za1 n K y (t, sd, (R, V, E))).2.2.1 (za1 n K y (t, sd, (R, V, E))).2.2.2.1 (za1 n K y (t, sd, (R, V, E))).2.2.2.2) ∧ τ 107 0 = (za1 n K y (t, sd, (R, V, E))).2.1 ∧ zFr 36 108 σ τ)) := by
  have hL36 : zLane 36 := by decide
  obtain ⟨s4, s5, s6, sA⟩ := id h
  refine zM.of (lv0 := [(0, _)]) (by decide) (Nat.le_of_ble_eq_true rfl) rfl (fun X C => ?_)
  have J56 : ∀ (s2 : zSt) (τ : zMem) (i : Nat) (c : Int), (s2 = zmid (R, V, E) i c ∧ zds sd / 65536 % n = i ∧ c = zds (zds sd) / 65536 % 2 ∧ zLa τ 36 n y w K s2.1 s2.2.1 s2.2.2 ∧ τ 107 0 = zds (zds sd) ∧ zFr 36 108 σ τ) → zg G X true 2 129 0 0 56 [(0, .ref (zB G + 0))] [] τ := by
    intro s2 τ i c hinv
    obtain ⟨hc, hi, hc2, hq1, hq2, hq3⟩ := hinv
    refine z_aload_n (pc := 56) C dX9_oneAge_56 rfl 0 rfl ?_
    have zz := zds_bd (zds sd)
    have hr2 : zLr K s2.1 s2.2.1 s2.2.2 := by rw [hc]; exact zmid_r (s := (R, V, E)) hr i c
    refine z_getR (pc := 57) C (36) fl_X9_36 dX9_oneAge_57 (by first | rfl | assumption) (by omega) rfl (Or.inl rfl) ?_
    refine z_Vv (pc := 60) C (c_X1_passYear l G _ 36 n y w K s2.1 s2.2.1 s2.2.2 hL36 hq1 hr2 (by omega) (by omega)) ml_X9_169 yw_X1_passYear dX9_oneAge_60 (by first | rfl | assumption) (by omega) rfl rfl rfl (Nat.le_of_ble_eq_true rfl) ⟨by decide, by decide⟩ (fun t60 q60 => ?_)
    obtain ⟨u60, f60⟩ := q60
    have y60 : t60 107 0 = zds (zds sd) := (f60 107 0 (by omega)).trans hq2
    refine z_aload_n (pc := 63) C dX9_oneAge_63 rfl 0 rfl ?_
    refine z_getR (pc := 64) C (36) fl_X9_36 dX9_oneAge_64 (by first | rfl | assumption) (by omega) rfl (Or.inl rfl) ?_
    refine z_aload_n (pc := 67) C dX9_oneAge_67 rfl 0 rfl ?_
    refine z_getR (pc := 68) C (107) fl_X9_70 dX9_oneAge_68 (by first | rfl | assumption) (by omega) rfl (Or.inl rfl) ?_
    refine z_bipush (pc := 71) C dX9_oneAge_71 (by decide +kernel) ?_
    refine z_Vi (pc := 73) C (c_X0_next l G _ 16 (by rw [y60]; omega) (by omega)) ml_X9_296 yw_X0_next dX9_oneAge_73 (by first | rfl | assumption) (by omega) rfl rfl rfl (Nat.le_of_ble_eq_true rfl) ⟨by decide, by decide⟩ (fun r73 t73 h73 q73 => ?_)
    obtain ⟨e73, m73⟩ := q73
    rw [y60] at e73 m73
    have x73 : t73 107 0 = zds (zds (zds sd)) := by rw [m73, zU_at]
    have z73 := zds_bd (zds (zds sd))
    have u73 : zLa t73 36 n (y + 1) w K (zgs K y s2) s2.2.1 (fun _ => 0) := by rw [m73]; exact u60.fr (zFr.rf.put (a := 107) (b := 108) (by omega) (by omega)) (by omega)
    have hr3 : zLr K (zgs K y s2) s2.2.1 (fun _ => 0) := fun j => ⟨(hr2 j).1, zgr_bd _ _ _ _ _, (hr2 j).2.2.1, by simp⟩
    refine z_Vi (pc := 76) C (c_X1_rainOn l G _ 36 n (y + 1) w K _ _ _ hL36 u73 hr3 (by omega) r73 (by omega) (by omega)) ml_X9_175 yw_X1_rainOn dX9_oneAge_76 (by first | rfl | assumption) (by omega) rfl rfl rfl (Nat.le_of_ble_eq_true rfl) ⟨by decide, by decide⟩ (fun r76 t76 h76 q76 => ?_)
    obtain ⟨e76, u76, f76⟩ := q76
    refine z_iret (pc := 79) C dX9_oneAge_79 ?_
    have hzz := za1_eq (K := K) (y := y) (t := t) (s := (R, V, E)) hi hc2
    rw [← hc] at hzz
    have hs1 := zsum_bd (f := zwp (zgs K y s2) r73) (c := 1) (n := n) (fun j _ => zwp_bd _ _ _)
    rw [hzz]
    have e76b : r76 = zsum (zwp (zgs K y s2) r73) n := e76
    refine ⟨_, rfl, by assumption, by rw [e76b, e73], by omega, ⟨w + r76, by omega, by rw [e76b, ← e73]; exact u76⟩, (f76 107 0 (by omega)).trans x73, ?_⟩
    exact hq3.tr ((f60.mono (by omega) (by omega)).tr (zFr.tr (by rw [m73]; exact zFr.rf.put (by omega) (by omega)) (f76.mono (by omega) (by omega))))
  refine z_aload_n (pc := 0) C dX9_oneAge_0 rfl 0 rfl ?_
  refine z_getR (pc := 1) C (107) fl_X9_70 dX9_oneAge_1 (by first | rfl | assumption) (by omega) rfl (Or.inl rfl) ?_
  refine z_aload_n (pc := 4) C dX9_oneAge_4 rfl 0 rfl ?_
  refine z_getR (pc := 5) C (36) fl_X9_36 dX9_oneAge_5 (by first | rfl | assumption) (by omega) rfl (Or.inl rfl) ?_
  refine z_getI (pc := 8) C fl_X9_107 dX9_oneAge_8 (by first | rfl | assumption) (by omega) (fun g8 => ?_)
  rw [s4]
  refine z_Vi (pc := 11) C (c_X0_next l G _ (n : Int) (by rw [hsd]; omega) (by omega)) ml_X9_296 yw_X0_next dX9_oneAge_11 (by first | rfl | assumption) (by omega) rfl rfl rfl (Nat.le_of_ble_eq_true rfl) ⟨by decide, by decide⟩ (fun r11 t11 h11 q11 => ?_)
  obtain ⟨e11, m11⟩ := q11
  rw [hsd] at e11 m11
  have x11 : t11 107 0 = zds sd := by rw [m11, zU_at]
  have z11 := zds_bd sd
  have hm := Int.emod_nonneg (zds sd / 65536) (show (n : Int) ≠ 0 by omega)
  have hm2 := Int.emod_lt_of_pos (zds sd / 65536) (show 0 < (n : Int) by omega)
  obtain ⟨i, hi⟩ : ∃ i : Nat, zds sd / 65536 % n = i := ⟨(zds sd / 65536 % n).toNat, by omega⟩
  have hri : r11 = i := by rw [e11, hi]
  have h1 : zLa t11 36 n y w K R V E := by rw [m11]; exact h.fr (zFr.rf.put (a := 107) (b := 108) (by omega) (by omega)) (by omega)
  refine z_istore_n (pc := 14) (lv' := [(1, _), (0, _)]) C dX9_oneAge_14 rfl (by decide) rfl ?_
  refine z_aload_n (pc := 15) C dX9_oneAge_15 rfl 1 rfl ?_
  refine z_getR (pc := 16) C (107) fl_X9_70 dX9_oneAge_16 (by first | rfl | assumption) (by omega) rfl (Or.inl rfl) ?_
  refine z_iconst (pc := 19) C dX9_oneAge_19 ?_
  refine z_Vi (pc := 20) C (c_X0_next l G _ 2 (by rw [x11]; omega) (by omega)) ml_X9_296 yw_X0_next dX9_oneAge_20 (by first | rfl | assumption) (by omega) rfl rfl rfl (Nat.le_of_ble_eq_true rfl) ⟨by decide, by decide⟩ (fun r20 t20 h20 q20 => ?_)
  obtain ⟨e20, m20⟩ := q20
  rw [x11] at e20 m20
  have x20 : t20 107 0 = zds (zds sd) := by rw [m20, zU_at]
  have z20 := zds_bd (zds sd)
  have h2 : zLa t20 36 n y w K R V E := by rw [m20]; exact h1.fr (zFr.rf.put (a := 107) (b := 108) (by omega) (by omega)) (by omega)
  have hz := zds_bd (zds sd)
  have hf : zFr 36 108 σ t20 := by rw [m20, m11]; exact (zFr.rf.put (by omega) (by omega)).put (by omega) (by omega)
  refine z_if_ne (pc := 23) (tgt := 37) C dX9_oneAge_23 (by decide) (by omega) (fun c23 => ?_) (fun c23 => ?_)
  · refine z_aload_n (pc := 37) C dX9_oneAge_37 rfl 1 rfl ?_
    refine z_getR (pc := 38) C (36) fl_X9_36 dX9_oneAge_38 (by first | rfl | assumption) (by omega) rfl (Or.inl rfl) ?_
    refine z_iload_n (pc := 41) C dX9_oneAge_41 rfl 0 rfl ?_
    refine z_Vi (pc := 42) C (c_X1_canBeCombed l G _ 36 n y w K R V E hL36 h2 hr (by omega) i _ hri (by omega)) ml_X9_181 yw_X1_canBeCombed dX9_oneAge_42 (by first | rfl | assumption) (by omega) rfl rfl rfl (Nat.le_of_ble_eq_true rfl) ⟨by decide, by decide⟩ (fun r42 t42 h42 q42 => ?_)
    obtain ⟨e42, rfl⟩ := q42
    have hcc : (r42 = 1 ∧ E i = 0 ∧ 2 ≤ R i) ∨ (r42 = 0 ∧ ¬ (E i = 0 ∧ 2 ≤ R i)) := by rw [e42]; split <;> omega
    refine z_if_eq (pc := 45) (tgt := 56) C dX9_oneAge_45 (by decide) (by omega) (fun c45 => ?_) (fun c45 => ?_)
    · refine z_sub C [1] rfl ?_
      first
        | exact J56 (R, zcv1 V i, E) _ i r20 ⟨by unfold zmid; rw [if_pos (by omega)], hi, e20, u31, (f31 107 0 (by omega)).trans x20, hf.tr (f31.mono (by omega) (by omega))⟩
        | exact J56 (zup R i (R i - 2), V, zup E i 1) _ i r20 ⟨by unfold zmid; rw [if_neg (by omega), if_pos (by dsimp only; omega)], hi, e20, u53, (f53 107 0 (by omega)).trans x20, hf.tr (f53.mono (by omega) (by omega))⟩
        | exact J56 (R, V, E) _ i r20 ⟨by unfold zmid; rw [if_neg (by omega), if_neg (by dsimp only; omega)], hi, e20, h2, x20, hf⟩
    · refine z_aload_n (pc := 48) C dX9_oneAge_48 rfl 1 rfl ?_
      refine z_getR (pc := 49) C (36) fl_X9_36 dX9_oneAge_49 (by first | rfl | assumption) (by omega) rfl (Or.inl rfl) ?_
      refine z_iload_n (pc := 52) C dX9_oneAge_52 rfl 0 rfl ?_
      refine z_Vv (pc := 53) C (c_X1_combOut l G _ 36 n y w K R V E hL36 h2 hr (by omega) i _ hri (by omega)) ml_X9_184 yw_X1_combOut dX9_oneAge_53 (by first | rfl | assumption) (by omega) rfl rfl rfl (Nat.le_of_ble_eq_true rfl) ⟨by decide, by decide⟩ (fun t53 q53 => ?_)
      obtain ⟨u53, f53⟩ := q53
      refine z_sub C [1] rfl ?_
      first
        | exact J56 (R, zcv1 V i, E) _ i r20 ⟨by unfold zmid; rw [if_pos (by omega)], hi, e20, u31, (f31 107 0 (by omega)).trans x20, hf.tr (f31.mono (by omega) (by omega))⟩
        | exact J56 (zup R i (R i - 2), V, zup E i 1) _ i r20 ⟨by unfold zmid; rw [if_neg (by omega), if_pos (by dsimp only; omega)], hi, e20, u53, (f53 107 0 (by omega)).trans x20, hf.tr (f53.mono (by omega) (by omega))⟩
        | exact J56 (R, V, E) _ i r20 ⟨by unfold zmid; rw [if_neg (by omega), if_neg (by dsimp only; omega)], hi, e20, h2, x20, hf⟩
  · refine z_aload_n (pc := 26) C dX9_oneAge_26 rfl 1 rfl ?_
    refine z_getR (pc := 27) C (36) fl_X9_36 dX9_oneAge_27 (by first | rfl | assumption) (by omega) rfl (Or.inl rfl) ?_
    refine z_iload_n (pc := 30) C dX9_oneAge_30 rfl 0 rfl ?_
    refine z_Vv (pc := 31) C (c_X1_cheerUp l G _ 36 n y w K R V E hL36 h2 hr (by omega) i _ hri (by omega)) ml_X9_178 yw_X1_cheerUp dX9_oneAge_31 (by first | rfl | assumption) (by omega) rfl rfl rfl (Nat.le_of_ble_eq_true rfl) ⟨by decide, by decide⟩ (fun t31 q31 => ?_)
    obtain ⟨u31, f31⟩ := q31
    refine z_goto (pc := 34) (tgt := 56) C dX9_oneAge_34 (by decide) ?_
    refine z_sub C [1] rfl ?_
    first
      | exact J56 (R, zcv1 V i, E) _ i r20 ⟨by unfold zmid; rw [if_pos (by omega)], hi, e20, u31, (f31 107 0 (by omega)).trans x20, hf.tr (f31.mono (by omega) (by omega))⟩
      | exact J56 (zup R i (R i - 2), V, zup E i 1) _ i r20 ⟨by unfold zmid; rw [if_neg (by omega), if_pos (by dsimp only; omega)], hi, e20, u53, (f53 107 0 (by omega)).trans x20, hf.tr (f53.mono (by omega) (by omega))⟩
      | exact J56 (R, V, E) _ i r20 ⟨by unfold zmid; rw [if_neg (by omega), if_neg (by dsimp only; omega)], hi, e20, h2, x20, hf⟩
set_option maxHeartbeats 4000000 in
set_option maxRecDepth 100000 in
theorem c_X9_odds (l : Launch) (G : zGt) (σ : zMem) (n : Nat) (y w : Int) (K R V E : Nat → Int) (h : zLa σ 4 n y w K R V E) (hr : zLr K R V E) (hn : n ≤ 6) (p q what : Int) (hp : zR p) (hq : zR q) (hw : zR what) (hy : 0 ≤ y ∧ y ≤ 90000) : zN l G yX9_odds cX9_odds 7 (some .int) 4 [.ref (zB G + 0), .int (zI p), .int (zI q), .int (zI what)] σ (zPi (fun x τ => x = zaOdds n y K R V E p q what ∧ zFr 36 108 σ τ)) := by
  have hL4 : zLane 4 := by decide
  obtain ⟨s4, s5, s6, sA⟩ := id h
  have hL36 : zLane 36 := by decide
  refine zM.of (lv0 := [(0, _), (1, _), (2, _), (3, _)]) (by decide) (Nat.le_of_ble_eq_true rfl) rfl (fun X C => ?_)
  have L56 : ∀ (fuel : Nat) (i N k : Nat) (u v : Int) (τ : zMem), N - k < fuel → ((i < n ∧ p = i ∧ q = N ∧ (1 ≤ N ∧ N ≤ 7) ∧ 0 ≤ what ∧ what ≤ 1) ∧ k ≤ N ∧ zLa τ 36 n (y + (k : Int)) w K (zRy K R V E y k) V (zEy E k) ∧ zFr 36 108 σ τ ∧ u = zab1 K R V E y i k ∧ v = 10 ^ k) → zg G X true 7 129 0 0 56 [(0, .ref (zB G + 0)), (1, .int (zI p)), (2, .int (zI q)), (3, .int (zI what)), (4, .int (zI u)), (5, .int (zI v)), (6, .int (zI ((k + 1 : Nat) : Int)))] [] τ := by
    intro fuel
    induction fuel with
    | zero => intro i N k u v τ hm; exact absurd hm (Nat.not_lt_zero _)
    | succ fuel ih =>
      intro i N k u v τ hms hinv
      obtain ⟨⟨hi, rfl, rfl, hNr, hwt⟩, h1, h2, h3, rfl, rfl⟩ := hinv
      refine z_iload (pc := 56) C dX9_odds_56 6 rfl ?_
      refine z_iload_n (pc := 58) C dX9_odds_58 rfl 2 rfl ?_
      refine z_icmp_gt (pc := 59) (tgt := 95) C dX9_odds_59 (by decide) ⟨by omega, by omega⟩ (fun c59 => ?_) (fun c59 => ?_)
      · obtain rfl : N = k := by omega
        have hub := zab1_bd K R V E y i N
        have h10 := zp10 N (by omega)
        obtain ⟨B, hB⟩ : ∃ B : Nat, zab1 K R V E y i N = B := ⟨(zab1 K R V E y i N).toNat, by omega⟩
        have hcast : (10 : Int) ^ N = ((10 ^ N : Nat) : Int) := by rw [Int.natCast_pow]; rfl
        rw [hcast] at hub h10 ⊢
        have hy0 : zaOdds n y K R V E (i : Int) (N : Int) what = if what = 0 then zlt (B : Int) ((10 ^ N : Nat) : Int) else zlt ((10 ^ N : Nat) : Int) (B : Int) := by rw [zaOdds, if_pos (by omega), if_pos (by omega), ← hB, ← hcast]; rfl
        refine z_iload_n (pc := 95) C dX9_odds_95 rfl 3 rfl ?_
        refine z_if_ne (pc := 96) (tgt := 110) C dX9_odds_96 (by decide) (by omega) (fun c96 => ?_) (fun c96 => ?_)
        · refine z_iload (pc := 110) C dX9_odds_110 5 rfl ?_
          refine z_iload (pc := 112) C dX9_odds_112 4 rfl ?_
          refine z_iload_n (pc := 114) C dX9_odds_114 rfl 2 rfl ?_
          refine z_Si (pc := 115) C (c_X9_inLowestTerms l G _ (10 ^ N) B N _ _ _ rfl hB rfl (by omega) (by omega) (by omega) (Nat.gcd_dvd_left _ _)) ml_X9_225 ys_X9_inLowestTerms dX9_odds_115 rfl rfl (Nat.le_of_ble_eq_true rfl) ⟨by decide, by decide⟩ (fun r115 t115 h115 q115 => ?_)
          obtain ⟨e104, rfl⟩ := q115
          refine z_iret (pc := 118) C dX9_odds_118 ?_
          first
            | exact ⟨_, rfl, by assumption, by rw [hy0, if_pos (by omega)]; exact e104, h3⟩
            | exact ⟨_, rfl, by assumption, by rw [hy0, if_neg (by omega)]; exact e104, h3⟩
        · refine z_iload (pc := 99) C dX9_odds_99 4 rfl ?_
          refine z_iload (pc := 101) C dX9_odds_101 5 rfl ?_
          refine z_iload_n (pc := 103) C dX9_odds_103 rfl 2 rfl ?_
          refine z_Si (pc := 104) C (c_X9_inLowestTerms l G _ B (10 ^ N) N _ _ _ hB rfl rfl (by omega) (by omega) (by omega) (Nat.gcd_dvd_right _ _)) ml_X9_225 ys_X9_inLowestTerms dX9_odds_104 rfl rfl (Nat.le_of_ble_eq_true rfl) ⟨by decide, by decide⟩ (fun r104 t104 h104 q104 => ?_)
          obtain ⟨e104, rfl⟩ := q104
          refine z_goto (pc := 107) (tgt := 118) C dX9_odds_107 (by decide) ?_
          refine z_iret (pc := 118) C dX9_odds_118 ?_
          first
            | exact ⟨_, rfl, by assumption, by rw [hy0, if_pos (by omega)]; exact e104, h3⟩
            | exact ⟨_, rfl, by assumption, by rw [hy0, if_neg (by omega)]; exact e104, h3⟩
      · refine z_aload_n (pc := 62) C dX9_odds_62 rfl 0 rfl ?_
        refine z_getR (pc := 63) C (36) fl_X9_36 dX9_odds_63 (by first | rfl | assumption) (by omega) rfl (Or.inl rfl) ?_
        refine z_Vv (pc := 66) C (c_X1_passYear l G _ 36 n _ _ K _ _ _ hL36 h2 (zRy_r hr k) hn (by omega)) ml_X9_169 yw_X1_passYear dX9_odds_66 (by first | rfl | assumption) (by omega) rfl rfl rfl (Nat.le_of_ble_eq_true rfl) ⟨by decide, by decide⟩ (fun t66 q66 => ?_)
        obtain ⟨u66, f66⟩ := q66
        have v66 : zLa t66 36 n (y + ((k + 1 : Nat) : Int)) w K (zRy K R V E y (k + 1)) V (zEy E (k + 1)) := u66.ext (by omega) rfl (fun j hj => ⟨rfl, by rw [zRy_s], rfl, by unfold zEy; rw [if_neg (by omega)]⟩)
        refine z_iload (pc := 69) C dX9_odds_69 4 rfl ?_
        refine z_aload_n (pc := 71) C dX9_odds_71 rfl 0 rfl ?_
        refine z_getR (pc := 72) C (36) fl_X9_36 dX9_odds_72 (by first | rfl | assumption) (by omega) rfl (Or.inl rfl) ?_
        refine z_iload_n (pc := 75) C dX9_odds_75 rfl 1 rfl ?_
        refine z_Vi (pc := 76) C (c_X1_rainsBorne l G _ 36 n _ _ K _ _ _ hL36 v66 (zRy_r hr (k + 1)) hn i _ rfl (by omega)) ml_X9_222 yw_X1_rainsBorne dX9_odds_76 (by first | rfl | assumption) (by omega) rfl rfl rfl (Nat.le_of_ble_eq_true rfl) ⟨by decide, by decide⟩ (fun r76 t76 h76 q76 => ?_)
        obtain ⟨rfl, rfl⟩ := q76
        refine z_imul (pc := 79) C dX9_odds_79 ?_
        refine z_istore (pc := 80) (lv' := [(4, _), (0, _), (1, _), (2, _), (3, _), (5, _), (6, _)]) C dX9_odds_80 (by decide) rfl ?_
        refine z_iload (pc := 82) C dX9_odds_82 5 rfl ?_
        refine z_bipush (pc := 84) C dX9_odds_84 (by decide +kernel) ?_
        refine z_imul (pc := 86) C dX9_odds_86 ?_
        refine z_istore (pc := 87) (lv' := [(5, _), (4, _), (0, _), (1, _), (2, _), (3, _), (6, _)]) C dX9_odds_87 (by decide) rfl ?_
        refine z_iinc (pc := 89) (lv' := [(6, _), (5, _), (4, _), (0, _), (1, _), (2, _), (3, _)]) C dX9_odds_89 6 rfl (by decide) rfl ?_
        refine z_goto (pc := 92) (tgt := 56) C dX9_odds_92 (by decide) ?_
        refine z_sub C [3, 4, 5, 6, 2, 1, 0] rfl ?_
        exact ih i N (k + 1) _ _ _ (by omega) ⟨⟨hi, rfl, rfl, hNr, hwt⟩, by omega, v66, h3.tr (f66.mono (by omega) (by omega)), rfl, (Int.pow_succ _ _).symm⟩
  refine z_aload_n (pc := 0) C dX9_odds_0 rfl 0 rfl ?_
  refine z_getR (pc := 1) C (4) fl_X9_19 dX9_odds_1 (by first | rfl | assumption) (by omega) rfl (Or.inl rfl) ?_
  refine z_iload_n (pc := 4) C dX9_odds_4 rfl 1 rfl ?_
  refine z_Vi (pc := 5) C (c_hasD l G _ _ _ _ (hL4) (s4) (by first | assumption | omega | decide) (by first | assumption | omega | decide)) ml_X9_123 yw_X1_has dX9_odds_5 (by first | rfl | assumption) (by omega) rfl rfl rfl (Nat.le_of_ble_eq_true rfl) ⟨by decide, by decide⟩ (fun r5 t5 h5 q5 => ?_)
  obtain ⟨w5, rfl⟩ := q5
  refine z_if_ne (pc := 8) (tgt := 14) C dX9_odds_8 (by decide) (by omega) (fun c8 => ?_) (fun c8 => ?_)
  · refine z_iload_n (pc := 14) C dX9_odds_14 rfl 2 rfl ?_
    refine z_iconst (pc := 15) C dX9_odds_15 ?_
    refine z_bipush (pc := 16) C dX9_odds_16 (by decide +kernel) ?_
    refine z_Si (pc := 18) C (c_withinD l G _ _ _ _ (by first | assumption | omega | decide) (by first | assumption | omega | decide) (by first | assumption | omega | decide)) ml_X9_82 ys_X9_within dX9_odds_18 rfl rfl (Nat.le_of_ble_eq_true rfl) ⟨by decide, by decide⟩ (fun r18 t18 h18 q18 => ?_)
    obtain ⟨w18, rfl⟩ := q18
    refine z_if_eq (pc := 21) (tgt := 33) C dX9_odds_21 (by decide) (by omega) (fun c21 => ?_) (fun c21 => ?_)
    · refine z_bipush (pc := 33) C dX9_odds_33 (by decide +kernel) ?_
      refine z_iret (pc := 35) C dX9_odds_35 ?_
      exact ⟨_, rfl, by omega, by rw [zaOdds, if_pos (by omega), if_neg (by omega)], zFr.rf⟩
    · refine z_iload_n (pc := 24) C dX9_odds_24 rfl 3 rfl ?_
      refine z_iconst (pc := 25) C dX9_odds_25 ?_
      refine z_iconst (pc := 26) C dX9_odds_26 ?_
      refine z_Si (pc := 27) C (c_withinD l G _ _ _ _ (by first | assumption | omega | decide) (by first | assumption | omega | decide) (by first | assumption | omega | decide)) ml_X9_82 ys_X9_within dX9_odds_27 rfl rfl (Nat.le_of_ble_eq_true rfl) ⟨by decide, by decide⟩ (fun r27 t27 h27 q27 => ?_)
      obtain ⟨w27, rfl⟩ := q27
      refine z_if_ne (pc := 30) (tgt := 36) C dX9_odds_30 (by decide) (by omega) (fun c30 => ?_) (fun c30 => ?_)
      · obtain ⟨i, rfl⟩ : ∃ i : Nat, p = i := ⟨p.toNat, by omega⟩
        have hi : i < n := by omega
        have hri := hr i
        have hA := sA i hi
        obtain ⟨N, rfl⟩ : ∃ N : Nat, q = N := ⟨q.toNat, by omega⟩
        have hNr : 1 ≤ N ∧ N ≤ 7 := by omega
        have hwt : 0 ≤ what ∧ what ≤ 1 := by omega
        refine z_aload_n (pc := 36) C dX9_odds_36 rfl 0 rfl ?_
        refine z_getR (pc := 37) C (36) fl_X9_36 dX9_odds_37 (by first | rfl | assumption) (by omega) rfl (Or.inl rfl) ?_
        refine z_aload_n (pc := 40) C dX9_odds_40 rfl 0 rfl ?_
        refine z_getR (pc := 41) C (4) fl_X9_19 dX9_odds_41 (by first | rfl | assumption) (by omega) rfl (Or.inl rfl) ?_
        refine z_Vv (pc := 44) C (c_X1_take l G _ 36 4 hL36 hL4 (by omega)) ml_X9_191 yw_X1_take dX9_odds_44 (by first | rfl | assumption) (by omega) rfl rfl rfl (Nat.le_of_ble_eq_true rfl) ⟨by decide, by decide⟩ (fun t44 q44 => ?_)
        obtain ⟨f44, e4, e5, e6, eA⟩ := q44
        have hl0 : zLa t44 36 n y w K R V E := ⟨e4.trans s4, e5.trans s5, e6.trans s6, fun j hj => by
          obtain ⟨a1, a2, a3, a4⟩ := eA j (by omega)
          obtain ⟨g1, g2, g3, g4⟩ := sA j hj
          exact ⟨a1.trans g1, a2.trans g2, a3.trans g3, a4.trans g4⟩⟩
        refine z_iconst (pc := 47) C dX9_odds_47 ?_
        refine z_istore (pc := 48) (lv' := [(4, _), (0, _), (1, _), (2, _), (3, _)]) C dX9_odds_48 (by decide) rfl ?_
        refine z_iconst (pc := 50) C dX9_odds_50 ?_
        refine z_istore (pc := 51) (lv' := [(5, _), (4, _), (0, _), (1, _), (2, _), (3, _)]) C dX9_odds_51 (by decide) rfl ?_
        refine z_iconst (pc := 53) C dX9_odds_53 ?_
        refine z_istore (pc := 54) (lv' := [(6, _), (5, _), (4, _), (0, _), (1, _), (2, _), (3, _)]) C dX9_odds_54 (by decide) rfl ?_
        refine z_sub C [3, 4, 5, 6, 2, 1, 0] rfl ?_
        exact L56 _ i N 0 1 1 _ (Nat.lt_succ_self _) ⟨⟨hi, rfl, rfl, hNr, hwt⟩, by omega, hl0.ext (by simp) rfl (fun j hj => ⟨rfl, rfl, rfl, rfl⟩), f44.mono (by omega) (by omega), rfl, rfl⟩
      · refine z_bipush (pc := 33) C dX9_odds_33 (by decide +kernel) ?_
        refine z_iret (pc := 35) C dX9_odds_35 ?_
        exact ⟨_, rfl, by omega, by rw [zaOdds, if_pos (by omega), if_neg (by omega)], zFr.rf⟩
  · refine z_bipush (pc := 11) C dX9_odds_11 (by decide +kernel) ?_
    refine z_iret (pc := 13) C dX9_odds_13 ?_
    exact ⟨_, rfl, by omega, by rw [zaOdds, if_neg (by omega)], zFr.rf⟩
set_option maxHeartbeats 4000000 in
set_option maxRecDepth 100000 in
theorem c_X9_twos (l : Launch) (G : zGt) (σ : zMem) (n : Nat) (y w : Int) (K R V E : Nat → Int) (h : zLa σ 4 n y w K R V E) (hr : zLr K R V E) (hn : n ≤ 6) (what : Int) (hw : zR what) : zN l G yX9_twos cX9_twos 2 (some .int) 17 [.ref (zB G + 0), .int (zI what)] σ (zPi (fun x τ => x = zaTwos n R what ∧ zFr 36 108 σ τ)) := by
  have hL4 : zLane 4 := by decide
  obtain ⟨s4, s5, s6, sA⟩ := id h
  refine zM.of (lv0 := [(0, _), (1, _)]) (by decide) (Nat.le_of_ble_eq_true rfl) rfl (fun X C => ?_)
  refine z_iload_n (pc := 0) C dX9_twos_0 rfl 1 rfl ?_
  refine z_if_eq (pc := 1) (tgt := 18) C dX9_twos_1 (by decide) (by omega) (fun c1 => ?_) (fun c1 => ?_)
  · refine z_aload_n (pc := 18) C dX9_twos_18 rfl 0 rfl ?_
    refine z_getR (pc := 19) C (4) fl_X9_19 dX9_twos_19 (by first | rfl | assumption) (by omega) rfl (Or.inl rfl) ?_
    refine z_getI (pc := 22) C fl_X9_107 dX9_twos_22 (by first | rfl | assumption) (by omega) (fun g22 => ?_)
    refine z_if_ne (pc := 25) (tgt := 31) C dX9_twos_25 (by decide) (by omega) (fun c25 => ?_) (fun c25 => ?_)
    · refine z_aload_n (pc := 31) C dX9_twos_31 rfl 0 rfl ?_
      refine z_getR (pc := 32) C (101) fl_X9_56 dX9_twos_32 (by first | rfl | assumption) (by omega) rfl (Or.inl rfl) ?_
      refine z_aload_n (pc := 35) C dX9_twos_35 rfl 0 rfl ?_
      refine z_getR (pc := 36) C (4) fl_X9_19 dX9_twos_36 (by first | rfl | assumption) (by omega) rfl (Or.inl rfl) ?_
      refine z_Vv (pc := 39) C (c_X3_search l G _ 4 n y w K R V E hL4 h hr hn (by omega)) ml_X9_211 yw_X3_search dX9_twos_39 (by first | rfl | assumption) (by omega) rfl rfl rfl (Nat.le_of_ble_eq_true rfl) ⟨by decide, by decide⟩ (fun t39 q39 => ?_)
      obtain ⟨⟨b1, b2⟩, f39⟩ := q39
      rw [zpp_full hn (fun i => (hr i).2.1) _] at b1 b2
      dsimp only at b1 b2
      refine z_iload_n (pc := 42) C dX9_twos_42 rfl 1 rfl ?_
      refine z_if_ne (pc := 43) (tgt := 56) C dX9_twos_43 (by decide) (by omega) (fun c43 => ?_) (fun c43 => ?_)
      · refine z_aload_n (pc := 56) C dX9_twos_56 rfl 0 rfl ?_
        refine z_getR (pc := 57) C (101) fl_X9_56 dX9_twos_57 (by first | rfl | assumption) (by omega) rfl (Or.inl rfl) ?_
        refine z_getR (pc := 60) C (104) fl_X9_216 dX9_twos_60 (by first | rfl | assumption) (by omega) rfl (Or.inl rfl) ?_
        refine z_iload_n (pc := 63) C dX9_twos_63 rfl 1 rfl ?_
        refine z_bipush (pc := 64) C dX9_twos_64 (by decide +kernel) ?_
        refine z_isub (pc := 66) C dX9_twos_66 ?_
        refine z_Vi (pc := 67) C (c_X6_atv l G _ _ (6) ((what - 10).toNat) _ (zAf R n 6 (2 ^ n - 1) (fun _ => -1) (what - 10).toNat) (by first | assumption | omega | decide) (by omega) (by first | assumption | omega | decide) (b2 _ (by omega))) ml_X9_131 yw_X6_at dX9_twos_67 (by first | rfl | assumption) (by omega) rfl rfl rfl (Nat.le_of_ble_eq_true rfl) ⟨by decide, by decide⟩ (fun r67 t67 h67 q67 => ?_)
        obtain ⟨rfl, rfl⟩ := q67
        refine z_iret (pc := 70) C dX9_twos_70 ?_
        first
          | exact ⟨_, rfl, by assumption, by rw [zaTwos, if_pos (by omega), if_neg (by omega), if_pos (by omega)]; exact b1, f39.mono (by omega) (by omega)⟩
          | exact ⟨_, rfl, by assumption, by rw [zaTwos, if_pos (by omega), if_neg (by omega), if_neg (by omega)], f39.mono (by omega) (by omega)⟩
      · refine z_aload_n (pc := 46) C dX9_twos_46 rfl 0 rfl ?_
        refine z_getR (pc := 47) C (101) fl_X9_56 dX9_twos_47 (by first | rfl | assumption) (by omega) rfl (Or.inl rfl) ?_
        refine z_getI (pc := 50) C fl_X9_213 dX9_twos_50 (by first | rfl | assumption) (by omega) (fun g50 => ?_)
        refine z_goto (pc := 53) (tgt := 70) C dX9_twos_53 (by decide) ?_
        refine z_iret (pc := 70) C dX9_twos_70 ?_
        first
          | exact ⟨_, rfl, by assumption, by rw [zaTwos, if_pos (by omega), if_neg (by omega), if_pos (by omega)]; exact b1, f39.mono (by omega) (by omega)⟩
          | exact ⟨_, rfl, by assumption, by rw [zaTwos, if_pos (by omega), if_neg (by omega), if_neg (by omega)], f39.mono (by omega) (by omega)⟩
    · refine z_bipush (pc := 28) C dX9_twos_28 (by decide +kernel) ?_
      refine z_iret (pc := 30) C dX9_twos_30 ?_
      exact ⟨_, rfl, by omega, by rw [zaTwos, if_pos (by omega), if_pos (by omega)], zFr.rf⟩
  · refine z_iload_n (pc := 4) C dX9_twos_4 rfl 1 rfl ?_
    refine z_bipush (pc := 5) C dX9_twos_5 (by decide +kernel) ?_
    refine z_bipush (pc := 7) C dX9_twos_7 (by decide +kernel) ?_
    refine z_Si (pc := 9) C (c_withinD l G _ _ _ _ (by first | assumption | omega | decide) (by first | assumption | omega | decide) (by first | assumption | omega | decide)) ml_X9_82 ys_X9_within dX9_twos_9 rfl rfl (Nat.le_of_ble_eq_true rfl) ⟨by decide, by decide⟩ (fun r9 t9 h9 q9 => ?_)
    obtain ⟨w9, rfl⟩ := q9
    refine z_if_ne (pc := 12) (tgt := 18) C dX9_twos_12 (by decide) (by omega) (fun c12 => ?_) (fun c12 => ?_)
    · refine z_aload_n (pc := 18) C dX9_twos_18 rfl 0 rfl ?_
      refine z_getR (pc := 19) C (4) fl_X9_19 dX9_twos_19 (by first | rfl | assumption) (by omega) rfl (Or.inl rfl) ?_
      refine z_getI (pc := 22) C fl_X9_107 dX9_twos_22 (by first | rfl | assumption) (by omega) (fun g22 => ?_)
      refine z_if_ne (pc := 25) (tgt := 31) C dX9_twos_25 (by decide) (by omega) (fun c25 => ?_) (fun c25 => ?_)
      · refine z_aload_n (pc := 31) C dX9_twos_31 rfl 0 rfl ?_
        refine z_getR (pc := 32) C (101) fl_X9_56 dX9_twos_32 (by first | rfl | assumption) (by omega) rfl (Or.inl rfl) ?_
        refine z_aload_n (pc := 35) C dX9_twos_35 rfl 0 rfl ?_
        refine z_getR (pc := 36) C (4) fl_X9_19 dX9_twos_36 (by first | rfl | assumption) (by omega) rfl (Or.inl rfl) ?_
        refine z_Vv (pc := 39) C (c_X3_search l G _ 4 n y w K R V E hL4 h hr hn (by omega)) ml_X9_211 yw_X3_search dX9_twos_39 (by first | rfl | assumption) (by omega) rfl rfl rfl (Nat.le_of_ble_eq_true rfl) ⟨by decide, by decide⟩ (fun t39 q39 => ?_)
        obtain ⟨⟨b1, b2⟩, f39⟩ := q39
        rw [zpp_full hn (fun i => (hr i).2.1) _] at b1 b2
        dsimp only at b1 b2
        refine z_iload_n (pc := 42) C dX9_twos_42 rfl 1 rfl ?_
        refine z_if_ne (pc := 43) (tgt := 56) C dX9_twos_43 (by decide) (by omega) (fun c43 => ?_) (fun c43 => ?_)
        · refine z_aload_n (pc := 56) C dX9_twos_56 rfl 0 rfl ?_
          refine z_getR (pc := 57) C (101) fl_X9_56 dX9_twos_57 (by first | rfl | assumption) (by omega) rfl (Or.inl rfl) ?_
          refine z_getR (pc := 60) C (104) fl_X9_216 dX9_twos_60 (by first | rfl | assumption) (by omega) rfl (Or.inl rfl) ?_
          refine z_iload_n (pc := 63) C dX9_twos_63 rfl 1 rfl ?_
          refine z_bipush (pc := 64) C dX9_twos_64 (by decide +kernel) ?_
          refine z_isub (pc := 66) C dX9_twos_66 ?_
          refine z_Vi (pc := 67) C (c_X6_atv l G _ _ (6) ((what - 10).toNat) _ (zAf R n 6 (2 ^ n - 1) (fun _ => -1) (what - 10).toNat) (by first | assumption | omega | decide) (by omega) (by first | assumption | omega | decide) (b2 _ (by omega))) ml_X9_131 yw_X6_at dX9_twos_67 (by first | rfl | assumption) (by omega) rfl rfl rfl (Nat.le_of_ble_eq_true rfl) ⟨by decide, by decide⟩ (fun r67 t67 h67 q67 => ?_)
          obtain ⟨rfl, rfl⟩ := q67
          refine z_iret (pc := 70) C dX9_twos_70 ?_
          first
            | exact ⟨_, rfl, by assumption, by rw [zaTwos, if_pos (by omega), if_neg (by omega), if_pos (by omega)]; exact b1, f39.mono (by omega) (by omega)⟩
            | exact ⟨_, rfl, by assumption, by rw [zaTwos, if_pos (by omega), if_neg (by omega), if_neg (by omega)], f39.mono (by omega) (by omega)⟩
        · refine z_aload_n (pc := 46) C dX9_twos_46 rfl 0 rfl ?_
          refine z_getR (pc := 47) C (101) fl_X9_56 dX9_twos_47 (by first | rfl | assumption) (by omega) rfl (Or.inl rfl) ?_
          refine z_getI (pc := 50) C fl_X9_213 dX9_twos_50 (by first | rfl | assumption) (by omega) (fun g50 => ?_)
          refine z_goto (pc := 53) (tgt := 70) C dX9_twos_53 (by decide) ?_
          refine z_iret (pc := 70) C dX9_twos_70 ?_
          first
            | exact ⟨_, rfl, by assumption, by rw [zaTwos, if_pos (by omega), if_neg (by omega), if_pos (by omega)]; exact b1, f39.mono (by omega) (by omega)⟩
            | exact ⟨_, rfl, by assumption, by rw [zaTwos, if_pos (by omega), if_neg (by omega), if_neg (by omega)], f39.mono (by omega) (by omega)⟩
      · refine z_bipush (pc := 28) C dX9_twos_28 (by decide +kernel) ?_
        refine z_iret (pc := 30) C dX9_twos_30 ?_
        exact ⟨_, rfl, by omega, by rw [zaTwos, if_pos (by omega), if_pos (by omega)], zFr.rf⟩
    · refine z_bipush (pc := 15) C dX9_twos_15 (by decide +kernel) ?_
      refine z_iret (pc := 17) C dX9_twos_17 ?_
      exact ⟨_, rfl, by omega, by rw [zaTwos, if_neg (by omega)], zFr.rf⟩
set_option maxHeartbeats 4000000 in
set_option maxRecDepth 100000 in
theorem c_X9_patch (l : Launch) (G : zGt) (σ : zMem) (n : Nat) (y w : Int) (K R V E : Nat → Int) (h : zLa σ 4 n y w K R V E) (hr : zLr K R V E) (hn : n ≤ 6) (rain bun what : Int) (hx : zR rain) (hq : zR bun) (hw : zR what) : zN l G yX9_patch cX9_patch 4 (some .int) 16 [.ref (zB G + 0), .int (zI rain), .int (zI bun), .int (zI what)] σ (zPi (fun x τ => x = zaPatch n R rain bun what ∧ zFr 36 108 σ τ)) := by
  have hL4 : zLane 4 := by decide
  obtain ⟨s4, s5, s6, sA⟩ := id h
  refine zM.of (lv0 := [(0, _), (1, _), (2, _), (3, _)]) (by decide) (Nat.le_of_ble_eq_true rfl) rfl (fun X C => ?_)
  refine z_iload_n (pc := 0) C dX9_patch_0 rfl 1 rfl ?_
  refine z_iconst (pc := 1) C dX9_patch_1 ?_
  refine z_bipush (pc := 2) C dX9_patch_2 (by decide +kernel) ?_
  refine z_Si (pc := 4) C (c_withinD l G _ _ _ _ (by first | assumption | omega | decide) (by first | assumption | omega | decide) (by first | assumption | omega | decide)) ml_X9_82 ys_X9_within dX9_patch_4 rfl rfl (Nat.le_of_ble_eq_true rfl) ⟨by decide, by decide⟩ (fun r4 t4 h4 q4 => ?_)
  obtain ⟨w4, rfl⟩ := q4
  refine z_if_eq (pc := 7) (tgt := 29) C dX9_patch_7 (by decide) (by omega) (fun c7 => ?_) (fun c7 => ?_)
  · refine z_bipush (pc := 29) C dX9_patch_29 (by decide +kernel) ?_
    refine z_iret (pc := 31) C dX9_patch_31 ?_
    exact ⟨_, rfl, by omega, by rw [zaPatch, if_neg (by omega)], zFr.rf⟩
  · refine z_iload_n (pc := 10) C dX9_patch_10 rfl 2 rfl ?_
    refine z_iconst (pc := 11) C dX9_patch_11 ?_
    refine z_bipush (pc := 12) C dX9_patch_12 (by decide +kernel) ?_
    refine z_Si (pc := 14) C (c_withinD l G _ _ _ _ (by first | assumption | omega | decide) (by first | assumption | omega | decide) (by first | assumption | omega | decide)) ml_X9_82 ys_X9_within dX9_patch_14 rfl rfl (Nat.le_of_ble_eq_true rfl) ⟨by decide, by decide⟩ (fun r14 t14 h14 q14 => ?_)
    obtain ⟨w14, rfl⟩ := q14
    refine z_if_eq (pc := 17) (tgt := 29) C dX9_patch_17 (by decide) (by omega) (fun c17 => ?_) (fun c17 => ?_)
    · refine z_bipush (pc := 29) C dX9_patch_29 (by decide +kernel) ?_
      refine z_iret (pc := 31) C dX9_patch_31 ?_
      exact ⟨_, rfl, by omega, by rw [zaPatch, if_neg (by omega)], zFr.rf⟩
    · refine z_iload_n (pc := 20) C dX9_patch_20 rfl 3 rfl ?_
      refine z_iconst (pc := 21) C dX9_patch_21 ?_
      refine z_iconst (pc := 22) C dX9_patch_22 ?_
      refine z_Si (pc := 23) C (c_withinD l G _ _ _ _ (by first | assumption | omega | decide) (by first | assumption | omega | decide) (by first | assumption | omega | decide)) ml_X9_82 ys_X9_within dX9_patch_23 rfl rfl (Nat.le_of_ble_eq_true rfl) ⟨by decide, by decide⟩ (fun r23 t23 h23 q23 => ?_)
      obtain ⟨w23, rfl⟩ := q23
      refine z_if_ne (pc := 26) (tgt := 32) C dX9_patch_26 (by decide) (by omega) (fun c26 => ?_) (fun c26 => ?_)
      · refine z_aload_n (pc := 32) C dX9_patch_32 rfl 0 rfl ?_
        refine z_getR (pc := 33) C (4) fl_X9_19 dX9_patch_33 (by first | rfl | assumption) (by omega) rfl (Or.inl rfl) ?_
        refine z_getI (pc := 36) C fl_X9_107 dX9_patch_36 (by first | rfl | assumption) (by omega) (fun g36 => ?_)
        refine z_if_ne (pc := 39) (tgt := 45) C dX9_patch_39 (by decide) (by omega) (fun c39 => ?_) (fun c39 => ?_)
        · refine z_aload_n (pc := 45) C dX9_patch_45 rfl 0 rfl ?_
          refine z_getR (pc := 46) C (106) fl_X9_63 dX9_patch_46 (by first | rfl | assumption) (by omega) rfl (Or.inl rfl) ?_
          refine z_aload_n (pc := 49) C dX9_patch_49 rfl 0 rfl ?_
          refine z_getR (pc := 50) C (4) fl_X9_19 dX9_patch_50 (by first | rfl | assumption) (by omega) rfl (Or.inl rfl) ?_
          refine z_iload_n (pc := 53) C dX9_patch_53 rfl 1 rfl ?_
          refine z_iload_n (pc := 54) C dX9_patch_54 rfl 2 rfl ?_
          refine z_Vv (pc := 55) C (c_X4_search l G _ 4 n y w K R V E hL4 h hr hn rain bun (by omega) (by omega) (by omega)) ml_X9_217 yw_X4_search dX9_patch_55 (by first | rfl | assumption) (by omega) rfl rfl rfl (Nat.le_of_ble_eq_true rfl) ⟨by decide, by decide⟩ (fun t55 q55 => ?_)
          obtain ⟨⟨b1, b2⟩, f55⟩ := q55
          refine z_iload_n (pc := 58) C dX9_patch_58 rfl 3 rfl ?_
          refine z_if_ne (pc := 59) (tgt := 72) C dX9_patch_59 (by decide) (by omega) (fun c59 => ?_) (fun c59 => ?_)
          · refine z_aload_n (pc := 72) C dX9_patch_72 rfl 0 rfl ?_
            refine z_getR (pc := 73) C (106) fl_X9_63 dX9_patch_73 (by first | rfl | assumption) (by omega) rfl (Or.inl rfl) ?_
            refine z_getI (pc := 76) C fl_X9_219 dX9_patch_76 (by first | rfl | assumption) (by omega) (fun g76 => ?_)
            refine z_iret (pc := 79) C dX9_patch_79 ?_
            first
              | exact ⟨_, rfl, by assumption, by rw [zaPatch, if_pos (by omega), if_neg (by omega), if_pos (by omega)]; exact b1, f55.mono (by omega) (by omega)⟩
              | exact ⟨_, rfl, by assumption, by rw [zaPatch, if_pos (by omega), if_neg (by omega), if_neg (by omega)]; exact b2, f55.mono (by omega) (by omega)⟩
          · refine z_aload_n (pc := 62) C dX9_patch_62 rfl 0 rfl ?_
            refine z_getR (pc := 63) C (106) fl_X9_63 dX9_patch_63 (by first | rfl | assumption) (by omega) rfl (Or.inl rfl) ?_
            refine z_getI (pc := 66) C fl_X9_218 dX9_patch_66 (by first | rfl | assumption) (by omega) (fun g66 => ?_)
            refine z_goto (pc := 69) (tgt := 79) C dX9_patch_69 (by decide) ?_
            refine z_iret (pc := 79) C dX9_patch_79 ?_
            first
              | exact ⟨_, rfl, by assumption, by rw [zaPatch, if_pos (by omega), if_neg (by omega), if_pos (by omega)]; exact b1, f55.mono (by omega) (by omega)⟩
              | exact ⟨_, rfl, by assumption, by rw [zaPatch, if_pos (by omega), if_neg (by omega), if_neg (by omega)]; exact b2, f55.mono (by omega) (by omega)⟩
        · refine z_bipush (pc := 42) C dX9_patch_42 (by decide +kernel) ?_
          refine z_iret (pc := 44) C dX9_patch_44 ?_
          exact ⟨_, rfl, by omega, by rw [zaPatch, if_pos (by omega), if_pos (by omega)], zFr.rf⟩
      · refine z_bipush (pc := 29) C dX9_patch_29 (by decide +kernel) ?_
        refine z_iret (pc := 31) C dX9_patch_31 ?_
        exact ⟨_, rfl, by omega, by rw [zaPatch, if_neg (by omega)], zFr.rf⟩
set_option maxHeartbeats 4000000 in
set_option maxRecDepth 100000 in
theorem c_X9_image (l : Launch) (G : zGt) (σ : zMem) (n : Nat) (y w : Int) (K R V E : Nat → Int) (h : zLa σ 4 n y w K R V E) (hr : zLr K R V E) (hn : n ≤ 6) (c : Nat) (A Y Q : Nat → Int) (hs : zSgt σ 13 c A Y Q) (hsr : zSr A Y Q) (hc : c ≤ 6) : zN l G yX9_image cX9_image 1 (some .int) 2 [.ref (zB G + 0)] σ (zPi (fun x τ => x = (if n = 0 then -103 else y) ∧ ((n ≠ 0 ∧ zLa τ 20 n y w K R V E ∧ zSgt τ 29 c A Y Q ∧ τ 0 11 = 1 ∧ ∀ a k, (a < 20 ∨ 36 ≤ a) → (a ≠ 0 ∨ k ≠ 11) → τ a k = σ a k) ∨ (n = 0 ∧ σ = τ)))) := by
  have hL4 : zLane 4 := by decide
  obtain ⟨s4, s5, s6, sA⟩ := id h
  have hL20 : zLane 20 := by decide
  have hS29 : zSits 29 := by decide
  have hS13 : zSits 13 := by decide
  obtain ⟨s3, sS⟩ := id hs
  refine zM.of (lv0 := [(0, _)]) (by decide) (Nat.le_of_ble_eq_true rfl) rfl (fun X C => ?_)
  refine z_aload_n (pc := 0) C dX9_image_0 rfl 0 rfl ?_
  refine z_getR (pc := 1) C (4) fl_X9_19 dX9_image_1 (by first | rfl | assumption) (by omega) rfl (Or.inl rfl) ?_
  refine z_getI (pc := 4) C fl_X9_107 dX9_image_4 (by first | rfl | assumption) (by omega) (fun g4 => ?_)
  refine z_if_ne (pc := 7) (tgt := 13) C dX9_image_7 (by decide) (by omega) (fun c7 => ?_) (fun c7 => ?_)
  · refine z_aload_n (pc := 13) C dX9_image_13 rfl 0 rfl ?_
    refine z_getR (pc := 14) C (20) fl_X9_30 dX9_image_14 (by first | rfl | assumption) (by omega) rfl (Or.inl rfl) ?_
    refine z_aload_n (pc := 17) C dX9_image_17 rfl 0 rfl ?_
    refine z_getR (pc := 18) C (4) fl_X9_19 dX9_image_18 (by first | rfl | assumption) (by omega) rfl (Or.inl rfl) ?_
    refine z_Vv (pc := 21) C (c_X1_take l G _ 20 4 hL20 hL4 (by omega)) ml_X9_191 yw_X1_take dX9_image_21 (by first | rfl | assumption) (by omega) rfl rfl rfl (Nat.le_of_ble_eq_true rfl) ⟨by decide, by decide⟩ (fun t21 q21 => ?_)
    obtain ⟨f21, e4, e5, e6, eA⟩ := q21
    refine z_aload_n (pc := 24) C dX9_image_24 rfl 0 rfl ?_
    refine z_getR (pc := 25) C (29) fl_X9_33 dX9_image_25 (by first | rfl | assumption) (by omega) rfl (Or.inl rfl) ?_
    refine z_aload_n (pc := 28) C dX9_image_28 rfl 0 rfl ?_
    refine z_getR (pc := 29) C (13) fl_X9_26 dX9_image_29 (by first | rfl | assumption) (by omega) rfl (Or.inl rfl) ?_
    refine z_Vv (pc := 32) C (c_X8_take l G _ 29 13 hS29 hS13 (by omega)) ml_X9_242 yw_X8_take dX9_image_32 (by first | rfl | assumption) (by omega) rfl rfl rfl (Nat.le_of_ble_eq_true rfl) ⟨by decide, by decide⟩ (fun t32 q32 => ?_)
    obtain ⟨f32, d3, dA⟩ := q32
    refine z_aload_n (pc := 35) C dX9_image_35 rfl 0 rfl ?_
    refine z_iconst (pc := 36) C dX9_image_36 ?_
    refine z_putZe (pc := 37) C fl_X9_74 dX9_image_37 (by first | rfl | assumption) (by omega) (by omega) (fun m37 em37 => ?_)
    refine z_aload_n (pc := 40) C dX9_image_40 rfl 0 rfl ?_
    refine z_getR (pc := 41) C (4) fl_X9_19 dX9_image_41 (by first | rfl | assumption) (by omega) rfl (Or.inl rfl) ?_
    refine z_getI (pc := 44) C fl_X9_166 dX9_image_44 (by first | rfl | assumption) (by omega) (fun g44 => ?_)
    refine z_iret (pc := 47) C dX9_image_47 ?_
    have v5 : m37 4 5 = y := by rw [em37, zU_o (by omega), f32 4 5 (by omega), f21 4 5 (by omega)]; exact s5
    have hl : zLa m37 20 n y w K R V E := ⟨by rw [em37, zU_o (by omega), f32 20 4 (by omega), e4]; exact s4, by rw [em37, zU_o (by omega), f32 20 5 (by omega), e5]; exact s5, by rw [em37, zU_o (by omega), f32 20 6 (by omega), e6]; exact s6, fun j hj => by
      obtain ⟨a1, a2, a3, a4⟩ := eA j (by omega)
      obtain ⟨g1, g2, g3, g4⟩ := sA j hj
      rw [em37, zU_o (by omega), zU_o (by omega), zU_o (by omega), zU_o (by omega), f32 _ _ (by omega), f32 _ _ (by omega), f32 _ _ (by omega), f32 _ _ (by omega)]
      exact ⟨a1.trans g1, a2.trans g2, a3.trans g3, a4.trans g4⟩⟩
    have hk : zSgt m37 29 c A Y Q := ⟨by rw [em37, zU_o (by omega), d3, f21 13 3 (by omega)]; exact s3, fun j hj => by
      obtain ⟨a1, a2, a3⟩ := dA j (by omega)
      obtain ⟨g1, g2, g3⟩ := sS j hj
      rw [f21 _ _ (by omega)] at a1 a2 a3
      rw [em37, zU_o (by omega), zU_o (by omega), zU_o (by omega)]
      exact ⟨a1.trans g1, a2.trans g2, a3.trans g3⟩⟩
    exact ⟨_, rfl, by assumption, by rw [if_neg (by omega)]; exact v5, Or.inl ⟨by omega, hl, hk, by rw [em37]; exact zU_at, fun a k h1 h2 => by
      rw [em37]; unfold zU; rw [if_neg (by omega), f32 _ _ (by omega), f21 _ _ (by omega)]⟩⟩
  · refine z_bipush (pc := 10) C dX9_image_10 (by decide +kernel) ?_
    refine z_iret (pc := 12) C dX9_image_12 ?_
    exact ⟨_, rfl, by omega, by rw [if_pos (by omega)], Or.inr ⟨by omega, rfl⟩⟩
set_option maxHeartbeats 4000000 in
set_option maxRecDepth 100000 in
theorem c_X9_restore (l : Launch) (G : zGt) (σ : zMem) (b : Int) (n : Nat) (y w : Int) (K R V E : Nat → Int) (c : Nat) (A Y Q : Nat → Int) (hb : σ 0 11 = b) (h : b ≠ 0 → zLa σ 20 n y w K R V E) (hn : n ≤ 6) (hs : b ≠ 0 → zSgt σ 29 c A Y Q) (hc : c ≤ 6) : zN l G yX9_restore cX9_restore 1 (some .int) 2 [.ref (zB G + 0)] σ (zPi (fun x τ => x = (if b = 0 then -103 else y) ∧ ((b ≠ 0 ∧ zLa τ 4 n y w K R V E ∧ zSgt τ 13 c A Y Q ∧ zFr 4 20 σ τ) ∨ (b = 0 ∧ σ = τ)))) := by
  have hL4 : zLane 4 := by decide
  have hL20 : zLane 20 := by decide
  have hS29 : zSits 29 := by decide
  have hS13 : zSits 13 := by decide
  refine zM.of (lv0 := [(0, _)]) (by decide) (Nat.le_of_ble_eq_true rfl) rfl (fun X C => ?_)
  refine z_aload_n (pc := 0) C dX9_restore_0 rfl 0 rfl ?_
  refine z_getZ (pc := 1) C fl_X9_74 dX9_restore_1 (by first | rfl | assumption) (by omega) (fun g1 => ?_)
  refine z_if_ne (pc := 4) (tgt := 10) C dX9_restore_4 (by decide) (by omega) (fun c4 => ?_) (fun c4 => ?_)
  · refine z_aload_n (pc := 10) C dX9_restore_10 rfl 0 rfl ?_
    refine z_getR (pc := 11) C (4) fl_X9_19 dX9_restore_11 (by first | rfl | assumption) (by omega) rfl (Or.inl rfl) ?_
    refine z_aload_n (pc := 14) C dX9_restore_14 rfl 0 rfl ?_
    refine z_getR (pc := 15) C (20) fl_X9_30 dX9_restore_15 (by first | rfl | assumption) (by omega) rfl (Or.inl rfl) ?_
    refine z_Vv (pc := 18) C (c_X1_take l G _ 4 20 hL4 hL20 (by omega)) ml_X9_191 yw_X1_take dX9_restore_18 (by first | rfl | assumption) (by omega) rfl rfl rfl (Nat.le_of_ble_eq_true rfl) ⟨by decide, by decide⟩ (fun t18 q18 => ?_)
    obtain ⟨f21, e4, e5, e6, eA⟩ := q18
    obtain ⟨s4, s5, s6, sA⟩ := h (by omega)
    obtain ⟨s3, sS⟩ := hs (by omega)
    refine z_aload_n (pc := 21) C dX9_restore_21 rfl 0 rfl ?_
    refine z_getR (pc := 22) C (13) fl_X9_26 dX9_restore_22 (by first | rfl | assumption) (by omega) rfl (Or.inl rfl) ?_
    refine z_aload_n (pc := 25) C dX9_restore_25 rfl 0 rfl ?_
    refine z_getR (pc := 26) C (29) fl_X9_33 dX9_restore_26 (by first | rfl | assumption) (by omega) rfl (Or.inl rfl) ?_
    refine z_Vv (pc := 29) C (c_X8_take l G _ 13 29 hS13 hS29 (by omega)) ml_X9_242 yw_X8_take dX9_restore_29 (by first | rfl | assumption) (by omega) rfl rfl rfl (Nat.le_of_ble_eq_true rfl) ⟨by decide, by decide⟩ (fun t29 q29 => ?_)
    obtain ⟨f32, d3, dA⟩ := q29
    refine z_aload_n (pc := 32) C dX9_restore_32 rfl 0 rfl ?_
    refine z_getR (pc := 33) C (4) fl_X9_19 dX9_restore_33 (by first | rfl | assumption) (by omega) rfl (Or.inl rfl) ?_
    refine z_getI (pc := 36) C fl_X9_166 dX9_restore_36 (by first | rfl | assumption) (by omega) (fun g36 => ?_)
    refine z_iret (pc := 39) C dX9_restore_39 ?_
    have v5 : t29 4 5 = y := by rw [f32 4 5 (by omega), e5]; exact s5
    have hl : zLa t29 4 n y w K R V E := ⟨by rw [f32 4 4 (by omega), e4]; exact s4, v5, by rw [f32 4 6 (by omega), e6]; exact s6, fun j hj => by
      obtain ⟨a1, a2, a3, a4⟩ := eA j (by omega)
      obtain ⟨g1, g2, g3, g4⟩ := sA j hj
      rw [f32 _ _ (by omega), f32 _ _ (by omega), f32 _ _ (by omega), f32 _ _ (by omega)]
      exact ⟨a1.trans g1, a2.trans g2, a3.trans g3, a4.trans g4⟩⟩
    have hk : zSgt t29 13 c A Y Q := ⟨by rw [d3, f21 29 3 (by omega)]; exact s3, fun j hj => by
      obtain ⟨a1, a2, a3⟩ := dA j (by omega)
      obtain ⟨g1, g2, g3⟩ := sS j hj
      rw [f21 _ _ (by omega)] at a1 a2 a3
      exact ⟨a1.trans g1, a2.trans g2, a3.trans g3⟩⟩
    exact ⟨_, rfl, by assumption, by rw [if_neg (by omega)]; exact v5, Or.inl ⟨by omega, hl, hk, (f21.mono (by omega) (by omega)).tr (f32.mono (by omega) (by omega))⟩⟩
  · refine z_bipush (pc := 7) C dX9_restore_7 (by decide +kernel) ?_
    refine z_iret (pc := 9) C dX9_restore_9 ?_
    exact ⟨_, rfl, by omega, by rw [if_pos (by omega)], Or.inr ⟨by omega, rfl⟩⟩
