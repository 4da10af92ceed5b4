/-! PATCH, by the model: the least bundles by shelters and wet -/
def zto (R : Nat → Int) (rain : Int) (h k m : Nat) : Nat := k + (if 10 ≤ R h + (m : Int) then 7 else 0) + (if R h + (m : Int) < rain - 2 * ((k : Int) / 7) then 1 else 0)
def zPS (R : Nat → Int) (rain : Int) (h : Nat) (D D' : Nat → Int) (i j : Nat) : Prop :=
  (∀ k, k < 49 → 0 ≤ D' k ∧ D' k ≤ 268435456) ∧ (∀ k m : Nat, (k < i ∨ (k = i ∧ m < j)) → k < 49 → D k < 268435456 → R h + (m : Int) ≤ 20 → D' (zto R rain h k m) ≤ D k + (m : Int)) ∧
  (∀ k, k < 49 → D' k < 268435456 → ∃ k0 m : Nat, k0 < 49 ∧ D k0 < 268435456 ∧ R h + (m : Int) ≤ 20 ∧ zto R rain h k0 m = k ∧ D' k = D k0 + (m : Int))
theorem zto_lt {R : Nat → Int} {rain : Int} {h k m : Nat} (h5 : h ≤ 5) (h1 : k / 7 ≤ h) (h2 : k % 7 ≤ h) : zto R rain h k m < 49 := by
  unfold zto
  split <;> split <;> omega
theorem zPS.skip {R : Nat → Int} {rain : Int} {h i j : Nat} {D D' : Nat → Int} (hz : zPS R rain h D D' i j) (hs : (∀ m : Nat, j ≤ m → ¬ R h + (m : Int) ≤ 20) ∨ ¬ D i < 268435456) : zPS R rain h D D' (i + 1) 0 := by
  refine ⟨hz.1, fun k m hk hk2 hD hm => ?_, hz.2.2⟩
  refine hz.2.1 k m ?_ hk2 hD hm
  by_cases e : k = i
  · right
    refine ⟨e, ?_⟩
    by_cases hmj : m < j
    · exact hmj
    · exfalso
      rcases hs with hs | hs
      · exact hs m (by omega) hm
      · exact hs (e ▸ hD)
  · left; omega
theorem zPS.b {R : Nat → Int} {rain : Int} {h : Nat} {D D' : Nat → Int} (hz : ∀ k, k < 49 → D' k = 268435456) : zPS R rain h D D' 0 0 :=
  ⟨fun k hk => by rw [hz k hk]; omega, fun k m hk => by omega, fun k hk hl => by rw [hz k hk] at hl; omega⟩
theorem zPS.stp {R : Nat → Int} {rain : Int} {h i j : Nat} {D D' D2 : Nat → Int} (hz : zPS R rain h D D' i j) (hi : i < 49) (hDi : 0 ≤ D i ∧ D i < 268435456) (hR : R h + (j : Int) ≤ 20) (htl : zto R rain h i j < 49)
    (h1 : D2 (zto R rain h i j) = if D i + (j : Int) < D' (zto R rain h i j) then D i + (j : Int) else D' (zto R rain h i j)) (h2 : ∀ k, k ≠ zto R rain h i j → D2 k = D' k) : zPS R rain h D D2 i (j + 1) := by
  have hle : ∀ k, D2 k ≤ D' k := fun k => by
    by_cases e : k = zto R rain h i j
    · rw [e, h1]; split <;> omega
    · rw [h2 k e]; omega
  refine ⟨fun k hk => ?_, fun k m hk hk2 hD hm => ?_, fun k hk hl => ?_⟩
  · have := hz.1 k hk
    by_cases e : k = zto R rain h i j
    · rw [e] at this ⊢; rw [h1]; split <;> omega
    · rw [h2 k e]; exact this
  · by_cases e : k = i ∧ m = j
    · rw [e.1, e.2, h1]; split <;> omega
    · exact Int.le_trans (hle _) (hz.2.1 k m (by omega) hk2 hD hm)
  · by_cases e : k = zto R rain h i j
    · by_cases hc : D i + (j : Int) < D' (zto R rain h i j)
      · rw [if_pos hc] at h1
        exact ⟨i, j, hi, hDi.2, hR, e.symm, by rw [e, h1]⟩
      · rw [if_neg hc] at h1
        rw [e, h1] at hl
        rw [e, h1]
        exact hz.2.2 _ htl hl
    · rw [h2 k e] at hl ⊢
      exact hz.2.2 k hk hl
def zxS (x : Nat → Int) : Nat → Nat
  | 0 => 0
  | h + 1 => zxS x h + (if 10 ≤ x h then 1 else 0)
def zxW (x : Nat → Int) (rain : Int) : Nat → Nat
  | 0 => 0
  | h + 1 => zxW x rain h + (if x h < rain - 2 * (zxS x h : Int) then 1 else 0)
def zxU (x R : Nat → Int) : Nat → Int
  | 0 => 0
  | h + 1 => zxU x R h + (x h - R h)
def zxV (x R : Nat → Int) : Prop := ∀ j, R j ≤ x j ∧ x j ≤ 20
theorem zxS_le (x : Nat → Int) : ∀ h, zxS x h ≤ h := by
  intro h
  induction h with
  | zero => exact Nat.le_refl 0
  | succ h ih => rw [zxS]; split <;> omega
theorem zxW_le (x : Nat → Int) (rain : Int) : ∀ h, zxW x rain h ≤ h := by
  intro h
  induction h with
  | zero => exact Nat.le_refl 0
  | succ h ih => rw [zxW]; split <;> omega
theorem zxU_bd {x R : Nat → Int} (hR : ∀ i, 0 ≤ R i ∧ R i ≤ 20) (hv : zxV x R) : ∀ h, 0 ≤ zxU x R h ∧ zxU x R h ≤ 20 * (h : Int) := by
  intro h
  induction h with
  | zero => exact ⟨Int.le_refl 0, by rw [zxU]; omega⟩
  | succ h ih => rw [zxU]; have := hR h; have := hv h; omega
theorem zxU_mo {x R : Nat → Int} (hv : zxV x R) : ∀ h d, zxU x R h ≤ zxU x R (h + d) := by
  intro h d
  induction d with
  | zero => exact Int.le_refl _
  | succ d ih => rw [← Nat.add_assoc, zxU]; have := hv (h + d); omega
theorem zx_congr {x x' R : Nat → Int} {rain : Int} : ∀ h, (∀ j, j < h → x j = x' j) → zxS x h = zxS x' h ∧ zxW x rain h = zxW x' rain h ∧ zxU x R h = zxU x' R h := by
  intro h
  induction h with
  | zero => intro _; exact ⟨rfl, rfl, rfl⟩
  | succ h ih =>
    intro hx
    obtain ⟨i1, i2, i3⟩ := ih (fun j hj => hx j (by omega))
    have e := hx h (by omega)
    rw [zxS, zxS, zxW, zxW, zxU, zxU, i1, i2, i3, e]
    exact ⟨rfl, rfl, rfl⟩
theorem zx_up {x R : Nat → Int} {rain c : Int} (h : Nat) : zxS (zup x h c) (h + 1) = zxS x h + (if 10 ≤ c then 1 else 0) ∧ zxW (zup x h c) rain (h + 1) = zxW x rain h + (if c < rain - 2 * (zxS x h : Int) then 1 else 0) ∧ zxU (zup x h c) R (h + 1) = zxU x R h + (c - R h) := by
  obtain ⟨i1, i2, i3⟩ := zx_congr (x := zup x h c) (x' := x) (R := R) (rain := rain) h (fun j hj => by unfold zup; rw [if_neg (by omega)])
  have e : zup x h c h = c := by unfold zup; rw [if_pos rfl]
  rw [zxS, zxW, zxU, i1, i2, i3, e]
  exact ⟨rfl, rfl, rfl⟩
theorem zxV.up {x R : Nat → Int} (hv : zxV x R) {h : Nat} {c : Int} (h1 : R h ≤ c) (h2 : c ≤ 20) : zxV (zup x h c) R := fun j => by
  unfold zup
  by_cases e : j = h
  · rw [if_pos e, e]; exact ⟨h1, h2⟩
  · rw [if_neg e]; exact hv j
def zDx (R : Nat → Int) (rain : Int) (h : Nat) (D : Nat → Int) : Prop :=
  (∀ x, zxV x R → D (7 * zxS x h + zxW x rain h) ≤ zxU x R h) ∧ (∀ k, k < 49 → D k < 268435456 → ∃ x, zxV x R ∧ 7 * zxS x h + zxW x rain h = k ∧ zxU x R h = D k) ∧ ∀ k, k < 49 → 0 ≤ D k ∧ D k ≤ 268435456
theorem zDx.b {R D : Nat → Int} {rain : Int} (hR : ∀ i, 0 ≤ R i ∧ R i ≤ 20) (h : ∀ k, k < 49 → D k = if k = 0 then 0 else 268435456) : zDx R rain 0 D := by
  refine ⟨fun x _ => ?_, fun k hk hl => ?_, fun k hk => ?_⟩
  · show D (7 * 0 + 0) ≤ 0
    rw [h _ (by omega)]; decide
  · rw [h k hk] at hl ⊢
    by_cases e : k = 0
    · rw [if_pos e]
      exact ⟨R, fun j => ⟨Int.le_refl _, (hR j).2⟩, e.symm, rfl⟩
    · rw [if_neg e] at hl; omega
  · rw [h k hk]; split <;> omega
theorem zDx.co {R D D2 : Nat → Int} {rain : Int} {h : Nat} (h6 : h ≤ 6) (hd : zDx R rain h D) (he : ∀ k, k < 49 → D2 k = D k) : zDx R rain h D2 := by
  refine ⟨fun x hx => ?_, fun k hk hl => ?_, fun k hk => ?_⟩
  · have := zxS_le x h
    have := zxW_le x rain h
    rw [he _ (by omega)]; exact hd.1 x hx
  · rw [he k hk] at hl ⊢; exact hd.2.1 k hk hl
  · rw [he k hk]; exact hd.2.2 k hk
theorem zDx.bd {R D : Nat → Int} {rain : Int} {h : Nat} (h6 : h ≤ 6) (hd : zDx R rain h D) : ∀ k, k < 49 → D k < 268435456 → k / 7 ≤ h ∧ k % 7 ≤ h := by
  intro k hk hl
  obtain ⟨x, -, e, -⟩ := hd.2.1 k hk hl
  have := zxS_le x h
  have := zxW_le x rain h
  omega
theorem zDx.s {R D D2 : Nat → Int} {rain : Int} {h : Nat} (hR : ∀ i, 0 ≤ R i ∧ R i ≤ 20) (h5 : h ≤ 5) (hd : zDx R rain h D) (hp : zPS R rain h D D2 49 0) : zDx R rain (h + 1) D2 := by
  have hto : ∀ (x : Nat → Int) (m : Nat), zto R rain h (7 * zxS x h + zxW x rain h) m = 7 * (zxS x h + (if 10 ≤ R h + (m : Int) then 1 else 0)) + (zxW x rain h + (if R h + (m : Int) < rain - 2 * (zxS x h : Int) then 1 else 0)) := fun x m => by
    have := zxW_le x rain h
    have e : ((7 * zxS x h + zxW x rain h : Nat) : Int) / 7 = (zxS x h : Int) := by omega
    unfold zto
    rw [e]
    split <;> split <;> omega
  refine ⟨fun x hx => ?_, fun k hk hl => ?_, hp.1⟩
  · have a1 := zxS_le x h
    have a2 := zxW_le x rain h
    have a3 := zxU_bd hR hx h
    have a4 := hd.1 x hx
    have a5 := hx h
    obtain ⟨m, hm⟩ : ∃ m : Nat, x h = R h + (m : Int) := ⟨(x h - R h).toNat, by omega⟩
    have := hp.2.1 (7 * zxS x h + zxW x rain h) m (by omega) (by omega) (by omega) (by omega)
    rw [hto x m] at this
    rw [zxS, zxW, zxU, hm]
    omega
  · obtain ⟨k0, m, b1, b2, b3, b4, b5⟩ := hp.2.2 k hk hl
    obtain ⟨x, c1, c2, c3⟩ := hd.2.1 k0 b1 b2
    obtain ⟨d1, d2, d3⟩ := zx_up (x := x) (R := R) (rain := rain) (c := R h + (m : Int)) h
    refine ⟨zup x h (R h + (m : Int)), c1.up (by omega) b3, ?_, ?_⟩
    · rw [d1, d2, ← b4, ← c2, hto]
    · rw [d3, b5, c3]; omega
def zle2 (a b : zPp2) : Prop := a.1 < b.1 ∨ (a.1 = b.1 ∧ a.2 ≤ b.2)
theorem zle2.rf (a : zPp2) : zle2 a a := Or.inr ⟨rfl, Int.le_refl _⟩
theorem zle2.tr {a b c : zPp2} (h1 : zle2 a b) (h2 : zle2 b c) : zle2 a c := by unfold zle2 at *; omega
theorem zra_le {g : Int → Int → Int → zPp2 → zPp2} (hg : ∀ s u w b, zle2 (g s u w b) b) (bun r reach s u w x : Int) (b : zPp2) : zle2 (zra g bun r reach s u w x b) b := by
  unfold zra
  split
  · exact zle2.rf b
  · exact hg _ _ _ _
theorem zpo_le (R : Nat → Int) (rain bun : Int) (n : Nat) : ∀ k s u w b, zle2 (zpo R rain bun n k s u w b) b := by
  intro k
  induction k with
  | zero =>
    intro s u w b
    rw [zpo, zpg]
    split
    · unfold zle2; dsimp only; omega
    · exact zle2.rf b
  | succ k ih =>
    intro s u w b
    have H : ∀ (p : Prop) [Decidable p] (c : Int) (b0 : zPp2), zle2 (if p then zra (zpo R rain bun n k) bun (R (n - (k + 1))) (zrb rain s) s u w c b0 else b0) b0 := fun p _ c b0 => by
      by_cases e : p
      · rw [if_pos e]; exact zra_le ih _ _ _ _ _ _ _ _
      · rw [if_neg e]; exact zle2.rf _
    rw [zpo]
    exact (H _ 10 _).tr ((H _ (zrb rain s) _).tr (zra_le ih bun (R (n - (k + 1))) (zrb rain s) s u w (R (n - (k + 1))) b))
def zAt (R : Nat → Int) (rain bun : Int) (n : Nat) (b : zPp2) : Prop := ∃ x, zxV x R ∧ b.1 = (zxW x rain n : Int) ∧ b.2 = zxU x R n ∧ b.2 ≤ bun
theorem zpo_snd {R : Nat → Int} {rain bun : Int} {n : Nat} (hR : ∀ i, 0 ≤ R i ∧ R i ≤ 20) (hra : 0 ≤ rain ∧ rain ≤ 20) : ∀ k s u w b x, k ≤ n → zxV x R → s = (zxS x (n - k) : Int) → w = (zxW x rain (n - k) : Int) → u = zxU x R (n - k) → u ≤ bun → (zpo R rain bun n k s u w b = b ∨ zAt R rain bun n (zpo R rain bun n k s u w b)) := by
  intro k
  induction k with
  | zero =>
    intro s u w b x hk hv hs hw hu hb
    rw [zpo, zpg]
    split
    · exact Or.inr ⟨x, hv, hw, hu, hb⟩
    · exact Or.inl rfl
  | succ k ih =>
    intro s u w b x hk hv hs hw hu hb
    obtain ⟨h, hh⟩ : ∃ h, n - (k + 1) = h := ⟨_, rfl⟩
    have hk1 : n - k = h + 1 := by omega
    rw [hh] at hs hw hu
    have hc : ∀ c, R h ≤ c → c ≤ 20 → ∀ b, (zra (zpo R rain bun n k) bun (R h) (zrb rain s) s u w c b = b ∨ zAt R rain bun n (zra (zpo R rain bun n k) bun (R h) (zrb rain s) s u w c b)) := fun c h1 h2 b => by
      have := hR h
      obtain ⟨d1, d2, d3⟩ := zx_up (x := x) (R := R) (rain := rain) (c := c) h
      unfold zra
      split
      · exact Or.inl rfl
      · refine ih _ _ _ b (zup x h c) (by omega) (hv.up h1 h2) ?_ ?_ ?_ (by omega)
        · rw [hk1, d1, hs]; split <;> omega
        · rw [hk1, d2, hw, hs]
          unfold zrb
          (repeat' split) <;> omega
        · rw [hk1, d3, hu]; omega
    have hrb : zrb rain s ≤ 20 := by unfold zrb; split <;> omega
    have hRh := hR h
    have H : ∀ (p : Prop) [Decidable p] (c : Int), (p → R h ≤ c ∧ c ≤ 20) → ∀ b0 : zPp2, (b0 = b ∨ zAt R rain bun n b0) → ((if p then zra (zpo R rain bun n k) bun (R h) (zrb rain s) s u w c b0 else b0) = b ∨ zAt R rain bun n (if p then zra (zpo R rain bun n k) bun (R h) (zrb rain s) s u w c b0 else b0)) := fun p _ c hp b0 h0 => by
      by_cases e : p
      · rw [if_pos e]
        rcases hc c (hp e).1 (hp e).2 b0 with q | q
        · rw [q]; exact h0
        · exact Or.inr q
      · rw [if_neg e]; exact h0
    rw [zpo, hh]
    exact H _ 10 (fun _ => by omega) _ (H _ (zrb rain s) (fun _ => by omega) _ (hc (R h) (by omega) (by omega) b))
theorem zpo_cmp {R : Nat → Int} {rain bun : Int} {n : Nat} (hR : ∀ i, 0 ≤ R i ∧ R i ≤ 20) (hra : 0 ≤ rain ∧ rain ≤ 20) : ∀ k s u w b x, k ≤ n → zxV x R → s = (zxS x (n - k) : Int) → w = (zxW x rain (n - k) : Int) → u ≤ zxU x R (n - k) → zxU x R n ≤ bun → zle2 (zpo R rain bun n k s u w b) ((zxW x rain n : Int), zxU x R n) := by
  intro k
  induction k with
  | zero =>
    intro s u w b x hk hv hs hw hu hb
    rw [Nat.sub_zero] at hw hu
    rw [zpo, zpg]
    unfold zle2
    split <;> dsimp only <;> omega
  | succ k ih =>
    intro s u w b x hk hv hs hw hu hb
    obtain ⟨h, hh⟩ : ∃ h, n - (k + 1) = h := ⟨_, rfl⟩
    have hk1 : n - k = h + 1 := by omega
    rw [hh] at hs hw hu
    have hRh := hR h
    have hvh := hv h
    have hmo := zxU_mo hv (h + 1) k
    rw [show h + 1 + k = n by omega, zxU] at hmo
    have hrb : 0 ≤ zrb rain s ∧ zrb rain s ≤ 20 := by unfold zrb; split <;> omega
    have hrb2 : x h < zrb rain s ↔ x h < rain - 2 * (zxS x h : Int) := by unfold zrb; rw [hs]; split <;> omega
    have hc : ∀ c, R h ≤ c → c ≤ x h → (10 ≤ c ↔ 10 ≤ x h) → (c < zrb rain s ↔ x h < zrb rain s) → ∀ b, zle2 (zra (zpo R rain bun n k) bun (R h) (zrb rain s) s u w c b) ((zxW x rain n : Int), zxU x R n) := fun c h1 h2 h3 h4 b => by
      unfold zra
      rw [if_neg (by omega)]
      refine ih _ _ _ b x (by omega) hv ?_ ?_ ?_ hb
      · rw [hk1, zxS, hs]; split <;> split <;> omega
      · rw [hk1, zxW, hw]; split <;> split <;> omega
      · rw [hk1, zxU]; omega
    have H : ∀ (p : Prop) [Decidable p] (c : Int) (b0 : zPp2), zle2 (if p then zra (zpo R rain bun n k) bun (R h) (zrb rain s) s u w c b0 else b0) b0 := fun p _ c b0 => by
      by_cases e : p
      · rw [if_pos e]; exact zra_le (zpo_le R rain bun n k) _ _ _ _ _ _ _ _
      · rw [if_neg e]; exact zle2.rf _
    rw [zpo, hh]
    by_cases q3 : R h < 10 ∧ 10 ≤ x h ∧ (10 < zrb rain s ↔ x h < zrb rain s)
    · dsimp only
      rw [if_pos q3.1]
      exact hc 10 (by omega) q3.2.1 (by omega) q3.2.2 _
    · refine zle2.tr (H _ 10 _) ?_
      by_cases q2 : R h < zrb rain s ∧ zrb rain s ≤ x h
      · dsimp only
        rw [if_pos q2.1]
        exact hc (zrb rain s) (by omega) q2.2 (by omega) (by omega) _
      · refine zle2.tr (H _ (zrb rain s) _) ?_
        exact hc (R h) (Int.le_refl _) hvh.1 (by omega) (by omega) b
def zFw (D : Nat → Int) (few : Int) (w t : Nat) : Prop := (0 ≤ few ∧ few ≤ 268435456) ∧ (∀ v s, s < 7 → (v < w ∨ (v = w ∧ s < t)) → few ≤ D (7 * s + v)) ∧ (few = 268435456 ∨ ∃ v s, s < 7 ∧ (v < w ∨ (v = w ∧ s < t)) ∧ D (7 * s + v) = few)
theorem zFw.n {D : Nat → Int} {few : Int} {w : Nat} (h : zFw D few w 7) : zFw D few (w + 1) 0 :=
  ⟨h.1, fun v s hs hv => h.2.1 v s hs (by omega), h.2.2.elim Or.inl (fun ⟨v, s, a, b, c⟩ => Or.inr ⟨v, s, a, by omega, c⟩)⟩
theorem zFw.b {D : Nat → Int} : zFw D 268435456 0 0 := ⟨by omega, fun v s _ hv => by omega, Or.inl rfl⟩
theorem zFw.s {D : Nat → Int} {few x : Int} {w t : Nat} (h : zFw D few w t) (ht : t < 7) (hD : 0 ≤ D (7 * t + w) ∧ D (7 * t + w) ≤ 268435456) (hx : x = if D (7 * t + w) < few then D (7 * t + w) else few) : zFw D x w (t + 1) := by
  have hb := h.1
  have hle : x ≤ few ∧ x ≤ D (7 * t + w) := by rw [hx]; split <;> omega
  refine ⟨by rw [hx]; split <;> omega, fun v s hs hv => ?_, ?_⟩
  · by_cases e : v = w ∧ s = t
    · rw [e.1, e.2]; exact hle.2
    · exact Int.le_trans hle.1 (h.2.1 v s hs (by omega))
  · by_cases e : D (7 * t + w) < few
    · rw [if_pos e] at hx
      exact Or.inr ⟨w, t, ht, by omega, hx.symm⟩
    · rw [if_neg e] at hx
      rw [hx]
      exact h.2.2.elim Or.inl (fun ⟨v, s, a, b, c⟩ => Or.inr ⟨v, s, a, by omega, c⟩)
theorem zxR {R : Nat → Int} (hR : ∀ i, 0 ≤ R i ∧ R i ≤ 20) : zxV R R ∧ ∀ h, zxU R R h = 0 := by
  refine ⟨fun j => ⟨Int.le_refl _, (hR j).2⟩, fun h => ?_⟩
  induction h with
  | zero => rfl
  | succ h ih => rw [zxU, ih]; omega
theorem zFw.lt {R D : Nat → Int} {rain few bun : Int} {n w : Nat} (hn : n ≤ 6) (hR : ∀ i, 0 ≤ R i ∧ R i ≤ 20) (hd : zDx R rain n D) (h : zFw D few w 0) (hb : 0 ≤ bun) (hf : bun < few) : w < 7 := by
  obtain ⟨v1, v2⟩ := zxR hR
  have h1 := hd.1 R v1
  have h2 := zxW_le R rain n
  have h3 := zxS_le R n
  rw [v2] at h1
  by_cases hw : w < 7
  · exact hw
  · exfalso
    have := h.2.1 (zxW R rain n) (zxS R n) (by omega) (by omega)
    omega
theorem zpo_fin {R D : Nat → Int} {rain few bun : Int} {n w : Nat} (hn : n ≤ 6) (hR : ∀ i, 0 ≤ R i ∧ R i ≤ 20) (hra : 0 ≤ rain ∧ rain ≤ 20) (hbu : 0 ≤ bun ∧ bun ≤ 30) (hd : zDx R rain n D) (hf : zFw D few w 0) (hp : ∀ v s, v + 1 < w → s < 7 → bun < D (7 * s + v)) (hl : few ≤ bun) (hw : w ≤ 7) :
    1 ≤ w ∧ zpo R rain bun n n 0 0 0 (7, 0) = ((w : Int) - 1, few) := by
  obtain ⟨v1, v2⟩ := zxR hR
  have hcR := zpo_cmp (bun := bun) (n := n) hR hra n 0 0 0 (7, 0) R (Nat.le_refl n) v1 (by rw [Nat.sub_self]; rfl) (by rw [Nat.sub_self]; rfl) (by rw [Nat.sub_self]; exact Int.le_refl _) (by rw [v2]; omega)
  have hWR := zxW_le R rain n
  have hsn := zpo_snd (bun := bun) (n := n) hR hra n 0 0 0 (7, 0) R (Nat.le_refl n) v1 (by rw [Nat.sub_self]; rfl) (by rw [Nat.sub_self]; rfl) (by rw [Nat.sub_self]; rfl) (by omega)
  obtain ⟨r, hr⟩ : ∃ r, zpo R rain bun n n 0 0 0 (7, 0) = r := ⟨_, rfl⟩
  rw [hr] at hcR hsn ⊢
  rcases hsn with q | ⟨x, x1, x2, x3, x4⟩
  · exfalso
    rw [q] at hcR
    unfold zle2 at hcR
    dsimp only at hcR
    omega
  · rcases hf.2.2 with q | ⟨v, s, s1, s2, s3⟩
    · exfalso; omega
    · have hvw : v + 1 = w := by
        by_cases e : v + 1 < w
        · have := hp v s e s1; omega
        · omega
      obtain ⟨z, z1, z2, z3⟩ := hd.2.1 (7 * s + v) (by omega) (by omega)
      have := zxW_le z rain n
      have hWz : zxW z rain n = v := by omega
      have hc := zpo_cmp (bun := bun) (n := n) hR hra n 0 0 0 (7, 0) z (Nat.le_refl n) z1 (by rw [Nat.sub_self]; rfl) (by rw [Nat.sub_self]; rfl) (by rw [Nat.sub_self]; exact Int.le_refl _) (by omega)
      rw [hr] at hc
      have hd1 := hd.1 x x1
      have := zxW_le x rain n
      have := zxS_le x n
      have hge : ¬ zxW x rain n + 1 < w := fun e => by
        have := hp (zxW x rain n) (zxS x n) e (by omega)
        omega
      unfold zle2 at hc
      dsimp only at hc
      rw [hWz, z3, s3] at hc
      have hx1 : zxW x rain n = v := by omega
      have hlow := hf.2.1 (zxW x rain n) (zxS x n) (by omega) (by omega)
      refine ⟨by omega, ?_⟩
      obtain ⟨ra, rb⟩ := r
      dsimp only at *
      rw [show ra = (w : Int) - 1 by omega, show rb = few by omega]
/-- where only the table of PATCH changes -/
def zKq (σ τ : zMem) : Prop := ∀ o k, o ≠ 120 → o ≠ 121 → τ o k = σ o k
theorem zKq.kp {σ τ : zMem} (h : zKq σ τ) : zKp σ τ := fun o k hk => h o k (by omega) (by omega)
theorem zKq.ml {σ τ : zMem} {n : Nat} {y : Int} {K R V E : Nat → Int} (h : zKq σ τ) (h2 : zMl σ n y K R V E) : zMl τ n y K R V E := h2.fr fun o k ho => h o k (by omega) (by omega)
theorem zKq.tr {σ τ υ : zMem} (h : zKq σ τ) (h2 : zKq τ υ) : zKq σ υ := fun o k a b => (h2 o k a b).trans (h o k a b)
set_option maxHeartbeats 4000000 in
set_option maxRecDepth 100000 in
theorem c_X10_twos (l : Launch) (G : zGt) (σ : zMem) (n : Nat) (y : Int) (K R V E : Nat → Int) (h : zMl σ n y K R V E) (hr : zLr K R V E) (hn : n ≤ 6) (what : Int) (hw : zR what) : zN l G yX10_twos cX10_twos 3 (some .int) 4 [.ref (zB G + 108), .int (zI what)] σ (zPi (fun x τ => x = zaTwos n R what ∧ zMl τ n y K R V E ∧ zKp σ τ)) := by
  obtain ⟨s1, s6, s5, sA⟩ := id h
  have l109 : zl 109 = 6 := by decide
  have l110 : zl 110 = 6 := by decide
  have l111 : zl 111 = 6 := by decide
  have hE : ∀ j, 0 ≤ E j ∧ E j ≤ 1 := fun j => (hr j).2.2.2
  have hb5 := zbs_bd hE n
  have hq6 := zpow6 n hn
  have l119 : zl 119 = 6 := by decide
  have hR : ∀ i, 0 ≤ R i ∧ R i ≤ 20 := fun i => (hr i).2.1
  refine zM.of (lv0 := [(0, _), (1, _)]) (by decide) (Nat.le_of_ble_eq_true rfl) rfl (fun X C => ?_)
  refine z_iload_n (pc := 0) C dX10_twos_0 rfl 1 rfl ?_
  refine z_if_eq (pc := 1) (tgt := 18) C dX10_twos_1 (by decide) (by omega) (fun c1 => ?_) (fun c1 => ?_)
  · refine z_aload_n (pc := 18) C dX10_twos_18 rfl 0 rfl ?_
    refine z_getI (pc := 19) C fl_X10_101 dX10_twos_19 (by first | rfl | assumption) (by omega) (fun g19 => ?_)
    refine z_if_ne (pc := 22) (tgt := 28) C dX10_twos_22 (by decide) (by omega) (fun c22 => ?_) (fun c22 => ?_)
    · refine z_aload_n (pc := 28) C dX10_twos_28 rfl 0 rfl ?_
      refine z_Vi (pc := 29) C (c_X10_layTwos l G _ n y K R V E h hr hn (by omega)) ml_X10_221 yw_X10_layTwos dX10_twos_29 (by first | rfl | assumption) (by omega) rfl rfl rfl (Nat.le_of_ble_eq_true rfl) ⟨by decide, by decide⟩ (fun r29 t29 h29 q29 => ?_)
      obtain ⟨e29, w29, f29⟩ := q29
      refine z_istore_n (pc := 32) (lv' := [(2, _), (0, _), (1, _)]) C dX10_twos_32 rfl (by decide) rfl ?_
      refine z_iload_n (pc := 33) C dX10_twos_33 rfl 2 rfl ?_
      refine z_if_ne (pc := 34) (tgt := 41) C dX10_twos_34 (by decide) (by omega) (fun c34 => ?_) (fun c34 => ?_)
      · refine z_aload_n (pc := 41) C dX10_twos_41 rfl 1 rfl ?_
        refine z_getR (pc := 42) C (119) fl_X10_41 dX10_twos_42 (by first | rfl | assumption) (by omega) rfl (Or.inl rfl) ?_
        refine z_iload_n (pc := 45) C dX10_twos_45 rfl 2 rfl ?_
        refine z_bipush (pc := 46) C dX10_twos_46 (by decide +kernel) ?_
        have hq := w29 (what - 10).toNat (by omega)
        refine z_isub (pc := 48) C dX10_twos_48 ?_
        refine z_iaload (pc := 49) C ((what - 10).toNat) dX10_twos_49 (by first | rfl | assumption) (by omega) (by omega) (by omega) (fun g49 => ?_)
        refine z_iret (pc := 50) C dX10_twos_50 ?_
        first
          | (exfalso; omega)
          | exact ⟨_, rfl, by assumption, by rw [zaTwos, if_pos (by omega), if_neg (by omega), if_pos (by omega)]; exact e29, f29.ml h, f29.kp⟩
          | exact ⟨_, rfl, by assumption, by rw [zaTwos, if_pos (by omega), if_neg (by omega), if_neg (by omega)]; exact hq, f29.ml h, f29.kp⟩
      · refine z_iload_n (pc := 37) C dX10_twos_37 rfl 0 rfl ?_
        refine z_goto (pc := 38) (tgt := 50) C dX10_twos_38 (by decide) ?_
        refine z_iret (pc := 50) C dX10_twos_50 ?_
        first
          | (exfalso; omega)
          | exact ⟨_, rfl, by assumption, by rw [zaTwos, if_pos (by omega), if_neg (by omega), if_pos (by omega)]; exact e29, f29.ml h, f29.kp⟩
          | exact ⟨_, rfl, by assumption, by rw [zaTwos, if_pos (by omega), if_neg (by omega), if_neg (by omega)]; exact hq, f29.ml h, f29.kp⟩
    · refine z_bipush (pc := 25) C dX10_twos_25 (by decide +kernel) ?_
      refine z_iret (pc := 27) C dX10_twos_27 ?_
      exact ⟨_, rfl, by omega, by rw [zaTwos, if_pos (by omega), if_pos (by omega)], h, zKp.rf⟩
  · refine z_iload_n (pc := 4) C dX10_twos_4 rfl 1 rfl ?_
    refine z_bipush (pc := 5) C dX10_twos_5 (by decide +kernel) ?_
    refine z_bipush (pc := 7) C dX10_twos_7 (by decide +kernel) ?_
    refine z_Si (pc := 9) C (c_X10_within l G _ _ _ _ (by first | assumption | omega | decide) (by first | assumption | omega | decide) (by first | assumption | omega | decide)) ml_X10_71 ys_X10_within dX10_twos_9 rfl rfl (Nat.le_of_ble_eq_true rfl) ⟨by decide, by decide⟩ (fun r9 t9 h9 q9 => ?_)
    obtain ⟨w9, rfl⟩ := q9
    refine z_if_ne (pc := 12) (tgt := 18) C dX10_twos_12 (by decide) (by omega) (fun c12 => ?_) (fun c12 => ?_)
    · refine z_aload_n (pc := 18) C dX10_twos_18 rfl 0 rfl ?_
      refine z_getI (pc := 19) C fl_X10_101 dX10_twos_19 (by first | rfl | assumption) (by omega) (fun g19 => ?_)
      refine z_if_ne (pc := 22) (tgt := 28) C dX10_twos_22 (by decide) (by omega) (fun c22 => ?_) (fun c22 => ?_)
      · refine z_aload_n (pc := 28) C dX10_twos_28 rfl 0 rfl ?_
        refine z_Vi (pc := 29) C (c_X10_layTwos l G _ n y K R V E h hr hn (by omega)) ml_X10_221 yw_X10_layTwos dX10_twos_29 (by first | rfl | assumption) (by omega) rfl rfl rfl (Nat.le_of_ble_eq_true rfl) ⟨by decide, by decide⟩ (fun r29 t29 h29 q29 => ?_)
        obtain ⟨e29, w29, f29⟩ := q29
        refine z_istore_n (pc := 32) (lv' := [(2, _), (0, _), (1, _)]) C dX10_twos_32 rfl (by decide) rfl ?_
        refine z_iload_n (pc := 33) C dX10_twos_33 rfl 2 rfl ?_
        refine z_if_ne (pc := 34) (tgt := 41) C dX10_twos_34 (by decide) (by omega) (fun c34 => ?_) (fun c34 => ?_)
        · refine z_aload_n (pc := 41) C dX10_twos_41 rfl 1 rfl ?_
          refine z_getR (pc := 42) C (119) fl_X10_41 dX10_twos_42 (by first | rfl | assumption) (by omega) rfl (Or.inl rfl) ?_
          refine z_iload_n (pc := 45) C dX10_twos_45 rfl 2 rfl ?_
          refine z_bipush (pc := 46) C dX10_twos_46 (by decide +kernel) ?_
          have hq := w29 (what - 10).toNat (by omega)
          refine z_isub (pc := 48) C dX10_twos_48 ?_
          refine z_iaload (pc := 49) C ((what - 10).toNat) dX10_twos_49 (by first | rfl | assumption) (by omega) (by omega) (by omega) (fun g49 => ?_)
          refine z_iret (pc := 50) C dX10_twos_50 ?_
          first
            | (exfalso; omega)
            | exact ⟨_, rfl, by assumption, by rw [zaTwos, if_pos (by omega), if_neg (by omega), if_pos (by omega)]; exact e29, f29.ml h, f29.kp⟩
            | exact ⟨_, rfl, by assumption, by rw [zaTwos, if_pos (by omega), if_neg (by omega), if_neg (by omega)]; exact hq, f29.ml h, f29.kp⟩
        · refine z_iload_n (pc := 37) C dX10_twos_37 rfl 0 rfl ?_
          refine z_goto (pc := 38) (tgt := 50) C dX10_twos_38 (by decide) ?_
          refine z_iret (pc := 50) C dX10_twos_50 ?_
          first
            | (exfalso; omega)
            | exact ⟨_, rfl, by assumption, by rw [zaTwos, if_pos (by omega), if_neg (by omega), if_pos (by omega)]; exact e29, f29.ml h, f29.kp⟩
            | exact ⟨_, rfl, by assumption, by rw [zaTwos, if_pos (by omega), if_neg (by omega), if_neg (by omega)]; exact hq, f29.ml h, f29.kp⟩
      · refine z_bipush (pc := 25) C dX10_twos_25 (by decide +kernel) ?_
        refine z_iret (pc := 27) C dX10_twos_27 ?_
        exact ⟨_, rfl, by omega, by rw [zaTwos, if_pos (by omega), if_pos (by omega)], h, zKp.rf⟩
    · refine z_bipush (pc := 15) C dX10_twos_15 (by decide +kernel) ?_
      refine z_iret (pc := 17) C dX10_twos_17 ?_
      exact ⟨_, rfl, by omega, by rw [zaTwos, if_neg (by omega)], h, zKp.rf⟩
set_option maxHeartbeats 4000000 in
set_option maxRecDepth 100000 in
theorem c_X10_patchHouse (l : Launch) (G : zGt) (σ : zMem) (n : Nat) (y : Int) (K R V E : Nat → Int) (hl : zMl σ n y K R V E) (hr : zLr K R V E) (hn : n ≤ 6) (h : Nat) (p rain : Int) (hp : p = h) (hh : h < n) (hra : 0 ≤ rain ∧ rain ≤ 20) (hD : zDx R rain h (σ 120)) : zN l G yX10_patchHouse cX10_patchHouse 9 (none) 0 [.ref (zB G + 108), .int (zI p), .int (zI rain)] σ (zPv (fun τ => (∃ D, zPS R rain h (σ 120) D 49 0 ∧ ∀ k, k < 49 → τ 120 k = D k) ∧ zKq σ τ)) := by
  obtain ⟨s1, s6, s5, sA⟩ := id hl
  have l109 : zl 109 = 6 := by decide
  have l110 : zl 110 = 6 := by decide
  have l111 : zl 111 = 6 := by decide
  have hE : ∀ j, 0 ≤ E j ∧ E j ≤ 1 := fun j => (hr j).2.2.2
  have hb5 := zbs_bd hE n
  have hq6 := zpow6 n hn
  subst hp
  have l120 : zl 120 = 49 := by decide
  have l121 : zl 121 = 49 := by decide
  have hbd := hD.bd (by omega)
  have hDr := hD.2.2
  have hAh := sA h hh
  have hRh := hr h
  refine zM.of (lv0 := [(0, _), (1, _), (2, _)]) (by decide) (Nat.le_of_ble_eq_true rfl) rfl (fun X C => ?_)
  have L165 : ∀ (fuel : Nat) (i : Nat) (D2 : Nat → Int) (τ : zMem), 49 - i < fuel → (i ≤ 49 ∧ zPS R rain h (σ 120) D2 49 0 ∧ (∀ k, k < 49 → τ 121 k = D2 k) ∧ (∀ k, k < i → τ 120 k = D2 k) ∧ zKq σ τ) → zg G X true 9 129 0 0 165 [(0, .ref (zB G + 108)), (1, .int (zI (h : Int))), (2, .int (zI rain)), (3, .int (zI (i : Int)))] [] τ := by
    intro fuel
    induction fuel with
    | zero => intro i D2 τ hm; exact absurd hm (Nat.not_lt_zero _)
    | succ fuel ih =>
      intro i D2 τ hms hinv
      obtain ⟨h1, h3, h6, h4, h5⟩ := hinv
      refine z_iload_n (pc := 165) C dX10_patchHouse_165 rfl 3 rfl ?_
      refine z_bipush (pc := 166) C dX10_patchHouse_166 (by decide +kernel) ?_
      refine z_icmp_ge (pc := 168) (tgt := 189) C dX10_patchHouse_168 (by decide) ⟨by omega, by omega⟩ (fun c168 => ?_) (fun c168 => ?_)
      · refine z_vret (pc := 189) C dX10_patchHouse_189 ?_
        exact ⟨rfl, ⟨D2, h3, fun k hk => h4 k (by omega)⟩, h5⟩
      · refine z_aload_n (pc := 171) C dX10_patchHouse_171 rfl 0 rfl ?_
        refine z_getR (pc := 172) C (120) fl_X10_44 dX10_patchHouse_172 (by first | rfl | assumption) (by omega) rfl (Or.inl rfl) ?_
        refine z_iload_n (pc := 175) C dX10_patchHouse_175 rfl 3 rfl ?_
        refine z_aload_n (pc := 176) C dX10_patchHouse_176 rfl 0 rfl ?_
        refine z_getR (pc := 177) C (121) fl_X10_47 dX10_patchHouse_177 (by first | rfl | assumption) (by omega) rfl (Or.inl rfl) ?_
        refine z_iload_n (pc := 180) C dX10_patchHouse_180 rfl 3 rfl ?_
        refine z_iaload (pc := 181) C (i) dX10_patchHouse_181 (by first | rfl | assumption) (by omega) rfl (by omega) (fun g181 => ?_)
        refine z_iastoree (pc := 182) C (i) dX10_patchHouse_182 (by first | rfl | assumption) (by omega) rfl (by omega) (by omega) (fun m182 em182 => ?_)
        refine z_iinc (pc := 183) (lv' := [(3, _), (0, _), (1, _), (2, _)]) C dX10_patchHouse_183 3 rfl (by decide) rfl ?_
        refine z_goto (pc := 186) (tgt := 165) C dX10_patchHouse_186 (by decide) ?_
        refine z_sub C [1, 2, 3, 0] rfl ?_
        exact ih (i + 1) D2 _ (by omega) ⟨by omega, h3, fun k hk => by rw [em182, zU_o (by omega)]; exact h6 k hk, fun k hk => (show k < i ∨ k = i by omega).elim (fun q => by rw [em182, zU_k (by omega)]; exact h4 k q) (fun q => by rw [em182, q, zU_at]; exact h6 i (by omega)), fun o k a b => by rw [em182, zU_o a]; exact h5 o k a b⟩
  have L54 : ∀ (fuel : Nat) (i : Nat) (_ : i < 49) (_ : σ 120 i < 268435456) (_ : ∀ (τ : zMem), (zPS R rain h (σ 120) (τ 121) (i + 1) 0 ∧ (∀ o k, o ≠ 121 → τ o k = σ o k)) → zg G X true 9 129 0 0 157 [(0, .ref (zB G + 108)), (1, .int (zI (h : Int))), (2, .int (zI rain)), (3, .int (zI (i : Int)))] [] τ) (j : Nat) (τ : zMem), 21 - j < fuel → ((j ≤ 21 ∧ R h + (j : Int) ≤ 21) ∧ zPS R rain h (σ 120) (τ 121) i j ∧ (∀ o k, o ≠ 121 → τ o k = σ o k)) → zg G X true 9 129 0 0 54 [(0, .ref (zB G + 108)), (1, .int (zI (h : Int))), (2, .int (zI rain)), (3, .int (zI (i : Int))), (4, .int (zI (rain - 2 * ((i : Int) / 7)))), (5, .int (zI (j : Int)))] [] τ := by
    intro fuel
    induction fuel with
    | zero => intro i hi hlt kk54 j τ hm; exact absurd hm (Nat.not_lt_zero _)
    | succ fuel ih =>
      intro i hi hlt kk54 j τ hms hinv
      obtain ⟨h1, h3, h5⟩ := hinv
      have e110 : τ 110 h = R h := (h5 110 h (by omega)).trans hAh.2.1
      have hDi := hDr i hi
      have hei : τ 120 i = σ 120 i := h5 120 i (by omega)
      have htl := zto_lt (R := R) (rain := rain) (m := j) (show h ≤ 5 by omega) (hbd i hi hlt).1 (hbd i hi hlt).2
      refine z_aload_n (pc := 54) C dX10_patchHouse_54 rfl 0 rfl ?_
      refine z_getR (pc := 55) C (110) fl_X10_13 dX10_patchHouse_55 (by first | rfl | assumption) (by omega) rfl (Or.inl rfl) ?_
      refine z_iload_n (pc := 58) C dX10_patchHouse_58 rfl 1 rfl ?_
      refine z_iaload (pc := 59) C (h) dX10_patchHouse_59 (by first | rfl | assumption) (by omega) rfl (by omega) (fun g59 => ?_)
      refine z_iload (pc := 60) C dX10_patchHouse_60 5 rfl ?_
      refine z_iadd (pc := 62) C dX10_patchHouse_62 ?_
      refine z_bipush (pc := 63) C dX10_patchHouse_63 (by decide +kernel) ?_
      refine z_icmp_gt (pc := 65) (tgt := 157) C dX10_patchHouse_65 (by decide) ⟨by omega, by omega⟩ (fun c65 => ?_) (fun c65 => ?_)
      · refine z_sub C [0, 1, 2, 3] rfl ?_
        exact kk54 τ ⟨h3.skip (Or.inl (fun m hm => by omega)), h5⟩
      · refine z_aload_n (pc := 68) C dX10_patchHouse_68 rfl 0 rfl ?_
        refine z_getR (pc := 69) C (110) fl_X10_13 dX10_patchHouse_69 (by first | rfl | assumption) (by omega) rfl (Or.inl rfl) ?_
        refine z_iload_n (pc := 72) C dX10_patchHouse_72 rfl 1 rfl ?_
        refine z_iaload (pc := 73) C (h) dX10_patchHouse_73 (by first | rfl | assumption) (by omega) rfl (by omega) (fun g73 => ?_)
        refine z_iload (pc := 74) C dX10_patchHouse_74 5 rfl ?_
        refine z_iadd (pc := 76) C dX10_patchHouse_76 ?_
        refine z_istore (pc := 77) (lv' := [(6, _), (0, _), (1, _), (2, _), (3, _), (4, _), (5, _)]) C dX10_patchHouse_77 (by decide) rfl ?_
        refine z_iload_n (pc := 79) C dX10_patchHouse_79 rfl 4 rfl ?_
        refine z_iload (pc := 80) C dX10_patchHouse_80 0 rfl ?_
        refine z_bipush (pc := 82) C dX10_patchHouse_82 (by decide +kernel) ?_
        refine z_icmp_lt (pc := 84) (tgt := 92) C dX10_patchHouse_84 (by decide) ⟨by omega, by omega⟩ (fun c84 => ?_) (fun c84 => ?_)
        · refine z_iconst (pc := 92) C dX10_patchHouse_92 ?_
          refine z_iadd (pc := 93) C dX10_patchHouse_93 ?_
          refine z_iload (pc := 94) C dX10_patchHouse_94 0 rfl ?_
          refine z_iload (pc := 96) C dX10_patchHouse_96 5 rfl ?_
          refine z_icmp_ge (pc := 98) (tgt := 105) C dX10_patchHouse_98 (by decide) ⟨by omega, by omega⟩ (fun c98 => ?_) (fun c98 => ?_)
          · refine z_iconst (pc := 105) C dX10_patchHouse_105 ?_
            refine z_iadd (pc := 106) C dX10_patchHouse_106 ?_
            refine z_istore (pc := 107) (lv' := [(7, _), (6, _), (0, _), (1, _), (2, _), (3, _), (4, _), (5, _)]) C dX10_patchHouse_107 (by decide) rfl ?_
            refine z_aload_n (pc := 109) C dX10_patchHouse_109 rfl 2 rfl ?_
            refine z_getR (pc := 110) C (120) fl_X10_44 dX10_patchHouse_110 (by first | rfl | assumption) (by omega) rfl (Or.inl rfl) ?_
            refine z_iload_n (pc := 113) C dX10_patchHouse_113 rfl 5 rfl ?_
            refine z_iaload (pc := 114) C (i) dX10_patchHouse_114 (by first | rfl | assumption) (by omega) rfl (by omega) (fun g114 => ?_)
            refine z_iload (pc := 115) C dX10_patchHouse_115 7 rfl ?_
            refine z_iadd (pc := 117) C dX10_patchHouse_117 ?_
            refine z_istore (pc := 118) (lv' := [(8, _), (7, _), (6, _), (0, _), (1, _), (2, _), (3, _), (4, _), (5, _)]) C dX10_patchHouse_118 (by decide) rfl ?_
            refine z_aload_n (pc := 120) C dX10_patchHouse_120 rfl 3 rfl ?_
            refine z_getR (pc := 121) C (121) fl_X10_47 dX10_patchHouse_121 (by first | rfl | assumption) (by omega) rfl (Or.inl rfl) ?_
            refine z_iload (pc := 124) C dX10_patchHouse_124 1 rfl ?_
            refine z_iload (pc := 126) C dX10_patchHouse_126 0 rfl ?_
            refine z_aload_n (pc := 128) C dX10_patchHouse_128 rfl 3 rfl ?_
            refine z_getR (pc := 129) C (121) fl_X10_47 dX10_patchHouse_129 (by first | rfl | assumption) (by omega) rfl (Or.inl rfl) ?_
            refine z_iload (pc := 132) C dX10_patchHouse_132 1 rfl ?_
            refine z_iaload (pc := 134) C (zto R rain h i j) dX10_patchHouse_134 (by first | rfl | assumption) (by omega) (by unfold zto; split <;> split <;> omega) (by omega) (fun g134 => ?_)
            refine z_icmp_ge (pc := 135) (tgt := 143) C dX10_patchHouse_135 (by decide) ⟨by omega, by omega⟩ (fun c135 => ?_) (fun c135 => ?_)
            · refine z_aload_n (pc := 143) C dX10_patchHouse_143 rfl 3 rfl ?_
              refine z_getR (pc := 144) C (121) fl_X10_47 dX10_patchHouse_144 (by first | rfl | assumption) (by omega) rfl (Or.inl rfl) ?_
              refine z_iload (pc := 147) C dX10_patchHouse_147 1 rfl ?_
              refine z_iaload (pc := 149) C (zto R rain h i j) dX10_patchHouse_149 (by first | rfl | assumption) (by omega) (by unfold zto; split <;> split <;> omega) (by omega) (fun g149 => ?_)
              refine z_iastoree (pc := 150) C (zto R rain h i j) dX10_patchHouse_150 (by first | rfl | assumption) (by omega) (by unfold zto; split <;> split <;> omega) (by omega) (by omega) (fun m150 em150 => ?_)
              refine z_iinc (pc := 151) (lv' := [(5, _), (8, _), (7, _), (6, _), (0, _), (1, _), (2, _), (3, _), (4, _)]) C dX10_patchHouse_151 8 rfl (by decide) rfl ?_
              refine z_goto (pc := 154) (tgt := 54) C dX10_patchHouse_154 (by decide) ?_
              refine z_sub C [4, 5, 6, 7, 8, 0] rfl ?_
              have hR20 : R h + (j : Int) ≤ 20 := by omega
              exact ih i hi hlt kk54 (j + 1) _ (by omega) ⟨by omega, h3.stp hi (by omega) hR20 htl (by first | (rw [em150, zU_at, if_pos (by omega)]; omega) | (rw [em150, zU_at, if_neg (by omega)])) (fun k hk => by rw [em150, zU_k hk]), fun o k a => by rw [em150, zU_o a]; exact h5 o k a⟩
            · refine z_iload (pc := 138) C dX10_patchHouse_138 0 rfl ?_
              refine z_goto (pc := 140) (tgt := 150) C dX10_patchHouse_140 (by decide) ?_
              refine z_iastoree (pc := 150) C (zto R rain h i j) dX10_patchHouse_150 (by first | rfl | assumption) (by omega) (by unfold zto; split <;> split <;> omega) (by omega) (by omega) (fun m150 em150 => ?_)
              refine z_iinc (pc := 151) (lv' := [(5, _), (8, _), (7, _), (6, _), (0, _), (1, _), (2, _), (3, _), (4, _)]) C dX10_patchHouse_151 8 rfl (by decide) rfl ?_
              refine z_goto (pc := 154) (tgt := 54) C dX10_patchHouse_154 (by decide) ?_
              refine z_sub C [4, 5, 6, 7, 8, 0] rfl ?_
              have hR20 : R h + (j : Int) ≤ 20 := by omega
              exact ih i hi hlt kk54 (j + 1) _ (by omega) ⟨by omega, h3.stp hi (by omega) hR20 htl (by first | (rw [em150, zU_at, if_pos (by omega)]; omega) | (rw [em150, zU_at, if_neg (by omega)])) (fun k hk => by rw [em150, zU_k hk]), fun o k a => by rw [em150, zU_o a]; exact h5 o k a⟩
          · refine z_iconst (pc := 101) C dX10_patchHouse_101 ?_
            refine z_goto (pc := 102) (tgt := 106) C dX10_patchHouse_102 (by decide) ?_
            refine z_iadd (pc := 106) C dX10_patchHouse_106 ?_
            refine z_istore (pc := 107) (lv' := [(7, _), (6, _), (0, _), (1, _), (2, _), (3, _), (4, _), (5, _)]) C dX10_patchHouse_107 (by decide) rfl ?_
            refine z_aload_n (pc := 109) C dX10_patchHouse_109 rfl 2 rfl ?_
            refine z_getR (pc := 110) C (120) fl_X10_44 dX10_patchHouse_110 (by first | rfl | assumption) (by omega) rfl (Or.inl rfl) ?_
            refine z_iload_n (pc := 113) C dX10_patchHouse_113 rfl 5 rfl ?_
            refine z_iaload (pc := 114) C (i) dX10_patchHouse_114 (by first | rfl | assumption) (by omega) rfl (by omega) (fun g114 => ?_)
            refine z_iload (pc := 115) C dX10_patchHouse_115 7 rfl ?_
            refine z_iadd (pc := 117) C dX10_patchHouse_117 ?_
            refine z_istore (pc := 118) (lv' := [(8, _), (7, _), (6, _), (0, _), (1, _), (2, _), (3, _), (4, _), (5, _)]) C dX10_patchHouse_118 (by decide) rfl ?_
            refine z_aload_n (pc := 120) C dX10_patchHouse_120 rfl 3 rfl ?_
            refine z_getR (pc := 121) C (121) fl_X10_47 dX10_patchHouse_121 (by first | rfl | assumption) (by omega) rfl (Or.inl rfl) ?_
            refine z_iload (pc := 124) C dX10_patchHouse_124 1 rfl ?_
            refine z_iload (pc := 126) C dX10_patchHouse_126 0 rfl ?_
            refine z_aload_n (pc := 128) C dX10_patchHouse_128 rfl 3 rfl ?_
            refine z_getR (pc := 129) C (121) fl_X10_47 dX10_patchHouse_129 (by first | rfl | assumption) (by omega) rfl (Or.inl rfl) ?_
            refine z_iload (pc := 132) C dX10_patchHouse_132 1 rfl ?_
            refine z_iaload (pc := 134) C (zto R rain h i j) dX10_patchHouse_134 (by first | rfl | assumption) (by omega) (by unfold zto; split <;> split <;> omega) (by omega) (fun g134 => ?_)
            refine z_icmp_ge (pc := 135) (tgt := 143) C dX10_patchHouse_135 (by decide) ⟨by omega, by omega⟩ (fun c135 => ?_) (fun c135 => ?_)
            · refine z_aload_n (pc := 143) C dX10_patchHouse_143 rfl 3 rfl ?_
              refine z_getR (pc := 144) C (121) fl_X10_47 dX10_patchHouse_144 (by first | rfl | assumption) (by omega) rfl (Or.inl rfl) ?_
              refine z_iload (pc := 147) C dX10_patchHouse_147 1 rfl ?_
              refine z_iaload (pc := 149) C (zto R rain h i j) dX10_patchHouse_149 (by first | rfl | assumption) (by omega) (by unfold zto; split <;> split <;> omega) (by omega) (fun g149 => ?_)
              refine z_iastoree (pc := 150) C (zto R rain h i j) dX10_patchHouse_150 (by first | rfl | assumption) (by omega) (by unfold zto; split <;> split <;> omega) (by omega) (by omega) (fun m150 em150 => ?_)
              refine z_iinc (pc := 151) (lv' := [(5, _), (8, _), (7, _), (6, _), (0, _), (1, _), (2, _), (3, _), (4, _)]) C dX10_patchHouse_151 8 rfl (by decide) rfl ?_
              refine z_goto (pc := 154) (tgt := 54) C dX10_patchHouse_154 (by decide) ?_
              refine z_sub C [4, 5, 6, 7, 8, 0] rfl ?_
              have hR20 : R h + (j : Int) ≤ 20 := by omega
              exact ih i hi hlt kk54 (j + 1) _ (by omega) ⟨by omega, h3.stp hi (by omega) hR20 htl (by first | (rw [em150, zU_at, if_pos (by omega)]; omega) | (rw [em150, zU_at, if_neg (by omega)])) (fun k hk => by rw [em150, zU_k hk]), fun o k a => by rw [em150, zU_o a]; exact h5 o k a⟩
            · refine z_iload (pc := 138) C dX10_patchHouse_138 0 rfl ?_
              refine z_goto (pc := 140) (tgt := 150) C dX10_patchHouse_140 (by decide) ?_
              refine z_iastoree (pc := 150) C (zto R rain h i j) dX10_patchHouse_150 (by first | rfl | assumption) (by omega) (by unfold zto; split <;> split <;> omega) (by omega) (by omega) (fun m150 em150 => ?_)
              refine z_iinc (pc := 151) (lv' := [(5, _), (8, _), (7, _), (6, _), (0, _), (1, _), (2, _), (3, _), (4, _)]) C dX10_patchHouse_151 8 rfl (by decide) rfl ?_
              refine z_goto (pc := 154) (tgt := 54) C dX10_patchHouse_154 (by decide) ?_
              refine z_sub C [4, 5, 6, 7, 8, 0] rfl ?_
              have hR20 : R h + (j : Int) ≤ 20 := by omega
              exact ih i hi hlt kk54 (j + 1) _ (by omega) ⟨by omega, h3.stp hi (by omega) hR20 htl (by first | (rw [em150, zU_at, if_pos (by omega)]; omega) | (rw [em150, zU_at, if_neg (by omega)])) (fun k hk => by rw [em150, zU_k hk]), fun o k a => by rw [em150, zU_o a]; exact h5 o k a⟩
        · refine z_bipush (pc := 87) C dX10_patchHouse_87 (by decide +kernel) ?_
          refine z_goto (pc := 89) (tgt := 93) C dX10_patchHouse_89 (by decide) ?_
          refine z_iadd (pc := 93) C dX10_patchHouse_93 ?_
          refine z_iload (pc := 94) C dX10_patchHouse_94 0 rfl ?_
          refine z_iload (pc := 96) C dX10_patchHouse_96 5 rfl ?_
          refine z_icmp_ge (pc := 98) (tgt := 105) C dX10_patchHouse_98 (by decide) ⟨by omega, by omega⟩ (fun c98 => ?_) (fun c98 => ?_)
          · refine z_iconst (pc := 105) C dX10_patchHouse_105 ?_
            refine z_iadd (pc := 106) C dX10_patchHouse_106 ?_
            refine z_istore (pc := 107) (lv' := [(7, _), (6, _), (0, _), (1, _), (2, _), (3, _), (4, _), (5, _)]) C dX10_patchHouse_107 (by decide) rfl ?_
            refine z_aload_n (pc := 109) C dX10_patchHouse_109 rfl 2 rfl ?_
            refine z_getR (pc := 110) C (120) fl_X10_44 dX10_patchHouse_110 (by first | rfl | assumption) (by omega) rfl (Or.inl rfl) ?_
            refine z_iload_n (pc := 113) C dX10_patchHouse_113 rfl 5 rfl ?_
            refine z_iaload (pc := 114) C (i) dX10_patchHouse_114 (by first | rfl | assumption) (by omega) rfl (by omega) (fun g114 => ?_)
            refine z_iload (pc := 115) C dX10_patchHouse_115 7 rfl ?_
            refine z_iadd (pc := 117) C dX10_patchHouse_117 ?_
            refine z_istore (pc := 118) (lv' := [(8, _), (7, _), (6, _), (0, _), (1, _), (2, _), (3, _), (4, _), (5, _)]) C dX10_patchHouse_118 (by decide) rfl ?_
            refine z_aload_n (pc := 120) C dX10_patchHouse_120 rfl 3 rfl ?_
            refine z_getR (pc := 121) C (121) fl_X10_47 dX10_patchHouse_121 (by first | rfl | assumption) (by omega) rfl (Or.inl rfl) ?_
            refine z_iload (pc := 124) C dX10_patchHouse_124 1 rfl ?_
            refine z_iload (pc := 126) C dX10_patchHouse_126 0 rfl ?_
            refine z_aload_n (pc := 128) C dX10_patchHouse_128 rfl 3 rfl ?_
            refine z_getR (pc := 129) C (121) fl_X10_47 dX10_patchHouse_129 (by first | rfl | assumption) (by omega) rfl (Or.inl rfl) ?_
            refine z_iload (pc := 132) C dX10_patchHouse_132 1 rfl ?_
            refine z_iaload (pc := 134) C (zto R rain h i j) dX10_patchHouse_134 (by first | rfl | assumption) (by omega) (by unfold zto; split <;> split <;> omega) (by omega) (fun g134 => ?_)
            refine z_icmp_ge (pc := 135) (tgt := 143) C dX10_patchHouse_135 (by decide) ⟨by omega, by omega⟩ (fun c135 => ?_) (fun c135 => ?_)
            · refine z_aload_n (pc := 143) C dX10_patchHouse_143 rfl 3 rfl ?_
              refine z_getR (pc := 144) C (121) fl_X10_47 dX10_patchHouse_144 (by first | rfl | assumption) (by omega) rfl (Or.inl rfl) ?_
              refine z_iload (pc := 147) C dX10_patchHouse_147 1 rfl ?_
              refine z_iaload (pc := 149) C (zto R rain h i j) dX10_patchHouse_149 (by first | rfl | assumption) (by omega) (by unfold zto; split <;> split <;> omega) (by omega) (fun g149 => ?_)
              refine z_iastoree (pc := 150) C (zto R rain h i j) dX10_patchHouse_150 (by first | rfl | assumption) (by omega) (by unfold zto; split <;> split <;> omega) (by omega) (by omega) (fun m150 em150 => ?_)
              refine z_iinc (pc := 151) (lv' := [(5, _), (8, _), (7, _), (6, _), (0, _), (1, _), (2, _), (3, _), (4, _)]) C dX10_patchHouse_151 8 rfl (by decide) rfl ?_
              refine z_goto (pc := 154) (tgt := 54) C dX10_patchHouse_154 (by decide) ?_
              refine z_sub C [4, 5, 6, 7, 8, 0] rfl ?_
              have hR20 : R h + (j : Int) ≤ 20 := by omega
              exact ih i hi hlt kk54 (j + 1) _ (by omega) ⟨by omega, h3.stp hi (by omega) hR20 htl (by first | (rw [em150, zU_at, if_pos (by omega)]; omega) | (rw [em150, zU_at, if_neg (by omega)])) (fun k hk => by rw [em150, zU_k hk]), fun o k a => by rw [em150, zU_o a]; exact h5 o k a⟩
            · refine z_iload (pc := 138) C dX10_patchHouse_138 0 rfl ?_
              refine z_goto (pc := 140) (tgt := 150) C dX10_patchHouse_140 (by decide) ?_
              refine z_iastoree (pc := 150) C (zto R rain h i j) dX10_patchHouse_150 (by first | rfl | assumption) (by omega) (by unfold zto; split <;> split <;> omega) (by omega) (by omega) (fun m150 em150 => ?_)
              refine z_iinc (pc := 151) (lv' := [(5, _), (8, _), (7, _), (6, _), (0, _), (1, _), (2, _), (3, _), (4, _)]) C dX10_patchHouse_151 8 rfl (by decide) rfl ?_
              refine z_goto (pc := 154) (tgt := 54) C dX10_patchHouse_154 (by decide) ?_
              refine z_sub C [4, 5, 6, 7, 8, 0] rfl ?_
              have hR20 : R h + (j : Int) ≤ 20 := by omega
              exact ih i hi hlt kk54 (j + 1) _ (by omega) ⟨by omega, h3.stp hi (by omega) hR20 htl (by first | (rw [em150, zU_at, if_pos (by omega)]; omega) | (rw [em150, zU_at, if_neg (by omega)])) (fun k hk => by rw [em150, zU_k hk]), fun o k a => by rw [em150, zU_o a]; exact h5 o k a⟩
          · refine z_iconst (pc := 101) C dX10_patchHouse_101 ?_
            refine z_goto (pc := 102) (tgt := 106) C dX10_patchHouse_102 (by decide) ?_
            refine z_iadd (pc := 106) C dX10_patchHouse_106 ?_
            refine z_istore (pc := 107) (lv' := [(7, _), (6, _), (0, _), (1, _), (2, _), (3, _), (4, _), (5, _)]) C dX10_patchHouse_107 (by decide) rfl ?_
            refine z_aload_n (pc := 109) C dX10_patchHouse_109 rfl 2 rfl ?_
            refine z_getR (pc := 110) C (120) fl_X10_44 dX10_patchHouse_110 (by first | rfl | assumption) (by omega) rfl (Or.inl rfl) ?_
            refine z_iload_n (pc := 113) C dX10_patchHouse_113 rfl 5 rfl ?_
            refine z_iaload (pc := 114) C (i) dX10_patchHouse_114 (by first | rfl | assumption) (by omega) rfl (by omega) (fun g114 => ?_)
            refine z_iload (pc := 115) C dX10_patchHouse_115 7 rfl ?_
            refine z_iadd (pc := 117) C dX10_patchHouse_117 ?_
            refine z_istore (pc := 118) (lv' := [(8, _), (7, _), (6, _), (0, _), (1, _), (2, _), (3, _), (4, _), (5, _)]) C dX10_patchHouse_118 (by decide) rfl ?_
            refine z_aload_n (pc := 120) C dX10_patchHouse_120 rfl 3 rfl ?_
            refine z_getR (pc := 121) C (121) fl_X10_47 dX10_patchHouse_121 (by first | rfl | assumption) (by omega) rfl (Or.inl rfl) ?_
            refine z_iload (pc := 124) C dX10_patchHouse_124 1 rfl ?_
            refine z_iload (pc := 126) C dX10_patchHouse_126 0 rfl ?_
            refine z_aload_n (pc := 128) C dX10_patchHouse_128 rfl 3 rfl ?_
            refine z_getR (pc := 129) C (121) fl_X10_47 dX10_patchHouse_129 (by first | rfl | assumption) (by omega) rfl (Or.inl rfl) ?_
            refine z_iload (pc := 132) C dX10_patchHouse_132 1 rfl ?_
            refine z_iaload (pc := 134) C (zto R rain h i j) dX10_patchHouse_134 (by first | rfl | assumption) (by omega) (by unfold zto; split <;> split <;> omega) (by omega) (fun g134 => ?_)
            refine z_icmp_ge (pc := 135) (tgt := 143) C dX10_patchHouse_135 (by decide) ⟨by omega, by omega⟩ (fun c135 => ?_) (fun c135 => ?_)
            · refine z_aload_n (pc := 143) C dX10_patchHouse_143 rfl 3 rfl ?_
              refine z_getR (pc := 144) C (121) fl_X10_47 dX10_patchHouse_144 (by first | rfl | assumption) (by omega) rfl (Or.inl rfl) ?_
              refine z_iload (pc := 147) C dX10_patchHouse_147 1 rfl ?_
              refine z_iaload (pc := 149) C (zto R rain h i j) dX10_patchHouse_149 (by first | rfl | assumption) (by omega) (by unfold zto; split <;> split <;> omega) (by omega) (fun g149 => ?_)
              refine z_iastoree (pc := 150) C (zto R rain h i j) dX10_patchHouse_150 (by first | rfl | assumption) (by omega) (by unfold zto; split <;> split <;> omega) (by omega) (by omega) (fun m150 em150 => ?_)
              refine z_iinc (pc := 151) (lv' := [(5, _), (8, _), (7, _), (6, _), (0, _), (1, _), (2, _), (3, _), (4, _)]) C dX10_patchHouse_151 8 rfl (by decide) rfl ?_
              refine z_goto (pc := 154) (tgt := 54) C dX10_patchHouse_154 (by decide) ?_
              refine z_sub C [4, 5, 6, 7, 8, 0] rfl ?_
              have hR20 : R h + (j : Int) ≤ 20 := by omega
              exact ih i hi hlt kk54 (j + 1) _ (by omega) ⟨by omega, h3.stp hi (by omega) hR20 htl (by first | (rw [em150, zU_at, if_pos (by omega)]; omega) | (rw [em150, zU_at, if_neg (by omega)])) (fun k hk => by rw [em150, zU_k hk]), fun o k a => by rw [em150, zU_o a]; exact h5 o k a⟩
            · refine z_iload (pc := 138) C dX10_patchHouse_138 0 rfl ?_
              refine z_goto (pc := 140) (tgt := 150) C dX10_patchHouse_140 (by decide) ?_
              refine z_iastoree (pc := 150) C (zto R rain h i j) dX10_patchHouse_150 (by first | rfl | assumption) (by omega) (by unfold zto; split <;> split <;> omega) (by omega) (by omega) (fun m150 em150 => ?_)
              refine z_iinc (pc := 151) (lv' := [(5, _), (8, _), (7, _), (6, _), (0, _), (1, _), (2, _), (3, _), (4, _)]) C dX10_patchHouse_151 8 rfl (by decide) rfl ?_
              refine z_goto (pc := 154) (tgt := 54) C dX10_patchHouse_154 (by decide) ?_
              refine z_sub C [4, 5, 6, 7, 8, 0] rfl ?_
              have hR20 : R h + (j : Int) ≤ 20 := by omega
              exact ih i hi hlt kk54 (j + 1) _ (by omega) ⟨by omega, h3.stp hi (by omega) hR20 htl (by first | (rw [em150, zU_at, if_pos (by omega)]; omega) | (rw [em150, zU_at, if_neg (by omega)])) (fun k hk => by rw [em150, zU_k hk]), fun o k a => by rw [em150, zU_o a]; exact h5 o k a⟩
  have L24 : ∀ (fuel : Nat) (i : Nat) (τ : zMem), 49 - i < fuel → (i ≤ 49 ∧ zPS R rain h (σ 120) (τ 121) i 0 ∧ (∀ o k, o ≠ 121 → τ o k = σ o k)) → zg G X true 9 129 0 0 24 [(0, .ref (zB G + 108)), (1, .int (zI (h : Int))), (2, .int (zI rain)), (3, .int (zI (i : Int)))] [] τ := by
    intro fuel
    induction fuel with
    | zero => intro i τ hm; exact absurd hm (Nat.not_lt_zero _)
    | succ fuel ih =>
      intro i τ hms hinv
      obtain ⟨h1, h3, h5⟩ := hinv
      refine z_iload_n (pc := 24) C dX10_patchHouse_24 rfl 3 rfl ?_
      refine z_bipush (pc := 25) C dX10_patchHouse_25 (by decide +kernel) ?_
      refine z_icmp_ge (pc := 27) (tgt := 163) C dX10_patchHouse_27 (by decide) ⟨by omega, by omega⟩ (fun c27 => ?_) (fun c27 => ?_)
      · refine z_iconst (pc := 163) C dX10_patchHouse_163 ?_
        refine z_istore_n (pc := 164) (lv' := [(3, _), (0, _), (1, _), (2, _)]) C dX10_patchHouse_164 rfl (by decide) rfl ?_
        refine z_sub C [1, 2, 3, 0] rfl ?_
        exact L165 _ 0 _ _ (Nat.lt_succ_self _) ⟨by omega, (show i = 49 by omega) ▸ h3, fun k _ => rfl, fun k hk => by omega, fun o k _ b => h5 o k b⟩
      · refine z_aload_n (pc := 30) C dX10_patchHouse_30 rfl 0 rfl ?_
        refine z_getR (pc := 31) C (120) fl_X10_44 dX10_patchHouse_31 (by first | rfl | assumption) (by omega) rfl (Or.inl rfl) ?_
        refine z_iload_n (pc := 34) C dX10_patchHouse_34 rfl 3 rfl ?_
        have e120 : ∀ k, τ 120 k = σ 120 k := fun k => h5 120 k (by omega)
        have hDi := hDr i (by omega)
        have hei := e120 i
        refine z_iaload (pc := 35) C (i) dX10_patchHouse_35 (by first | rfl | assumption) (by omega) rfl (by omega) (fun g35 => ?_)
        refine z_ldc (pc := 36) (n := 268435456) C dX10_patchHouse_36 cw_X10_189 rfl ?_
        refine z_icmp_ge (pc := 38) (tgt := 157) C dX10_patchHouse_38 (by decide) ⟨by omega, by omega⟩ (fun c38 => ?_) (fun c38 => ?_)
        · refine z_iinc (pc := 157) (lv' := [(3, _), (0, _), (1, _), (2, _)]) C dX10_patchHouse_157 3 rfl (by decide) rfl ?_
          refine z_goto (pc := 160) (tgt := 24) C dX10_patchHouse_160 (by decide) ?_
          refine z_sub C [1, 2, 3, 0] rfl ?_
          first
            | exact ih (i + 1) _ (by omega) ⟨by omega, x1, x2⟩
            | exact ih (i + 1) _ (by omega) ⟨by omega, h3.skip (Or.inr (by omega)), h5⟩
        · refine z_iload_n (pc := 41) C dX10_patchHouse_41 rfl 2 rfl ?_
          refine z_iconst (pc := 42) C dX10_patchHouse_42 ?_
          refine z_iload_n (pc := 43) C dX10_patchHouse_43 rfl 3 rfl ?_
          refine z_bipush (pc := 44) C dX10_patchHouse_44 (by decide +kernel) ?_
          refine z_idiv (pc := 46) C dX10_patchHouse_46 ⟨⟨by omega, by omega⟩, by omega, by omega⟩ ?_
          refine z_imul (pc := 47) C dX10_patchHouse_47 ?_
          refine z_isub (pc := 48) C dX10_patchHouse_48 ?_
          refine z_istore (pc := 49) (lv' := [(4, _), (0, _), (1, _), (2, _), (3, _)]) C dX10_patchHouse_49 (by decide) rfl ?_
          refine z_iconst (pc := 51) C dX10_patchHouse_51 ?_
          refine z_istore (pc := 52) (lv' := [(5, _), (4, _), (0, _), (1, _), (2, _), (3, _)]) C dX10_patchHouse_52 (by decide) rfl ?_
          refine z_sub C [2, 3, 4, 5, 1, 0] rfl ?_
          refine L54 _ i (by omega) (by omega) ?_ 0 _ (Nat.lt_succ_self _) ⟨by omega, h3, h5⟩
          intro τ3 hexit
          obtain ⟨x1, x2⟩ := hexit
          refine z_iinc (pc := 157) (lv' := [(3, _), (0, _), (1, _), (2, _)]) C dX10_patchHouse_157 3 rfl (by decide) rfl ?_
          refine z_goto (pc := 160) (tgt := 24) C dX10_patchHouse_160 (by decide) ?_
          refine z_sub C [1, 2, 3, 0] rfl ?_
          first
            | exact ih (i + 1) _ (by omega) ⟨by omega, x1, x2⟩
            | exact ih (i + 1) _ (by omega) ⟨by omega, h3.skip (Or.inr (by omega)), h5⟩
  have L2 : ∀ (fuel : Nat) (i : Nat) (τ : zMem), 49 - i < fuel → (i ≤ 49 ∧ (∀ k, k < i → τ 121 k = 268435456) ∧ (∀ o k, o ≠ 121 → τ o k = σ o k)) → zg G X true 9 129 0 0 2 [(0, .ref (zB G + 108)), (1, .int (zI (h : Int))), (2, .int (zI rain)), (3, .int (zI (i : Int)))] [] τ := by
    intro fuel
    induction fuel with
    | zero => intro i τ hm; exact absurd hm (Nat.not_lt_zero _)
    | succ fuel ih =>
      intro i τ hms hinv
      obtain ⟨h1, h3, h5⟩ := hinv
      refine z_iload_n (pc := 2) C dX10_patchHouse_2 rfl 3 rfl ?_
      refine z_bipush (pc := 3) C dX10_patchHouse_3 (by decide +kernel) ?_
      refine z_icmp_ge (pc := 5) (tgt := 22) C dX10_patchHouse_5 (by decide) ⟨by omega, by omega⟩ (fun c5 => ?_) (fun c5 => ?_)
      · refine z_iconst (pc := 22) C dX10_patchHouse_22 ?_
        refine z_istore_n (pc := 23) (lv' := [(3, _), (0, _), (1, _), (2, _)]) C dX10_patchHouse_23 rfl (by decide) rfl ?_
        refine z_sub C [1, 2, 3, 0] rfl ?_
        exact L24 _ 0 _ (Nat.lt_succ_self _) ⟨by omega, zPS.b (fun k hk => h3 k (by omega)), h5⟩
      · refine z_aload_n (pc := 8) C dX10_patchHouse_8 rfl 0 rfl ?_
        refine z_getR (pc := 9) C (121) fl_X10_47 dX10_patchHouse_9 (by first | rfl | assumption) (by omega) rfl (Or.inl rfl) ?_
        refine z_iload_n (pc := 12) C dX10_patchHouse_12 rfl 3 rfl ?_
        refine z_ldc (pc := 13) (n := 268435456) C dX10_patchHouse_13 cw_X10_189 rfl ?_
        refine z_iastoree (pc := 15) C (i) dX10_patchHouse_15 (by first | rfl | assumption) (by omega) rfl (by omega) (by omega) (fun m15 em15 => ?_)
        refine z_iinc (pc := 16) (lv' := [(3, _), (0, _), (1, _), (2, _)]) C dX10_patchHouse_16 3 rfl (by decide) rfl ?_
        refine z_goto (pc := 19) (tgt := 2) C dX10_patchHouse_19 (by decide) ?_
        refine z_sub C [1, 2, 3, 0] rfl ?_
        exact ih (i + 1) _ (by omega) ⟨by omega, fun k hk => (show k < i ∨ k = i by omega).elim (fun q => by rw [em15, zU_k (by omega)]; exact h3 k q) (fun q => by rw [em15, q, zU_at]), fun o k a => by rw [em15, zU_o a]; exact h5 o k a⟩
  refine z_iconst (pc := 0) C dX10_patchHouse_0 ?_
  refine z_istore_n (pc := 1) (lv' := [(3, _), (0, _), (1, _), (2, _)]) C dX10_patchHouse_1 rfl (by decide) rfl ?_
  refine z_sub C [1, 2, 3, 0] rfl ?_
  exact L2 _ 0 _ (Nat.lt_succ_self _) ⟨by omega, fun k hk => by omega, fun o k _ => rfl⟩
set_option maxHeartbeats 4000000 in
set_option maxRecDepth 100000 in
theorem c_X10_patchNow (l : Launch) (G : zGt) (σ : zMem) (n : Nat) (y : Int) (K R V E : Nat → Int) (h : zMl σ n y K R V E) (hr : zLr K R V E) (hn : n ≤ 6) (rain bun what : Int) (hra : 0 ≤ rain ∧ rain ≤ 20) (hbu : 0 ≤ bun ∧ bun ≤ 30) (hw : 0 ≤ what ∧ what ≤ 1) : zN l G yX10_patchNow cX10_patchNow 8 (some .int) 1 [.ref (zB G + 108), .int (zI rain), .int (zI bun), .int (zI what)] σ (zPi (fun x τ => x = (if what = 0 then (zpo R rain bun n n 0 0 0 (7, 0)).1 else (zpo R rain bun n n 0 0 0 (7, 0)).2) ∧ zKq σ τ)) := by
  obtain ⟨s1, s6, s5, sA⟩ := id h
  have l109 : zl 109 = 6 := by decide
  have l110 : zl 110 = 6 := by decide
  have l111 : zl 111 = 6 := by decide
  have hE : ∀ j, 0 ≤ E j ∧ E j ≤ 1 := fun j => (hr j).2.2.2
  have hb5 := zbs_bd hE n
  have hq6 := zpow6 n hn
  have l120 : zl 120 = 49 := by decide
  have hR : ∀ i, 0 ≤ R i ∧ R i ≤ 20 := fun i => (hr i).2.1
  refine zM.of (lv0 := [(0, _), (1, _), (2, _), (3, _)]) (by decide) (Nat.le_of_ble_eq_true rfl) rfl (fun X C => ?_)
  have L75 : ∀ (fuel : Nat) (w : Nat) (τ2 : zMem) (_ : w < 7) (_ : ∀ k, k < 49 → 0 ≤ τ2 120 k ∧ τ2 120 k ≤ 268435456) (_ : ∀ (few : Int), (zFw (τ2 120) few w 7) → zg G X true 8 129 0 0 119 [(0, .ref (zB G + 108)), (1, .int (zI rain)), (2, .int (zI bun)), (3, .int (zI what)), (4, .int (zI (w : Int))), (5, .int (zI few))] [] τ2) (t : Nat) (few : Int), 7 - t < fuel → (t ≤ 7 ∧ zFw (τ2 120) few w t) → zg G X true 8 129 0 0 75 [(0, .ref (zB G + 108)), (1, .int (zI rain)), (2, .int (zI bun)), (3, .int (zI what)), (4, .int (zI (w : Int))), (5, .int (zI few)), (6, .int (zI (t : Int)))] [] τ2 := by
    intro fuel
    induction fuel with
    | zero => intro w τ2 hw7 hDr kk75 t few hm; exact absurd hm (Nat.not_lt_zero _)
    | succ fuel ih =>
      intro w τ2 hw7 hDr kk75 t few hms hinv
      obtain ⟨h1, hfw⟩ := hinv
      have hfb := hfw.1
      refine z_iload (pc := 75) C dX10_patchNow_75 6 rfl ?_
      refine z_bipush (pc := 77) C dX10_patchNow_77 (by decide +kernel) ?_
      refine z_icmp_ge (pc := 79) (tgt := 119) C dX10_patchNow_79 (by decide) ⟨by omega, by omega⟩ (fun c79 => ?_) (fun c79 => ?_)
      · refine z_sub C [0, 1, 2, 3, 4, 5] rfl ?_
        exact kk75 few ((show t = 7 by omega) ▸ hfw)
      · refine z_aload_n (pc := 82) C dX10_patchNow_82 rfl 0 rfl ?_
        refine z_getR (pc := 83) C (120) fl_X10_44 dX10_patchNow_83 (by first | rfl | assumption) (by omega) rfl (Or.inl rfl) ?_
        refine z_bipush (pc := 86) C dX10_patchNow_86 (by decide +kernel) ?_
        refine z_iload (pc := 88) C dX10_patchNow_88 6 rfl ?_
        refine z_imul (pc := 90) C dX10_patchNow_90 ?_
        refine z_iload (pc := 91) C dX10_patchNow_91 4 rfl ?_
        refine z_iadd (pc := 93) C dX10_patchNow_93 ?_
        have hDw := hDr (7 * t + w) (by omega)
        refine z_iaload (pc := 94) C (7 * t + w) dX10_patchNow_94 (by first | rfl | assumption) (by omega) (by omega) (by omega) (fun g94 => ?_)
        refine z_istore (pc := 95) (lv' := [(7, _), (0, _), (1, _), (2, _), (3, _), (4, _), (5, _), (6, _)]) C dX10_patchNow_95 (by decide) rfl ?_
        refine z_iload (pc := 97) C dX10_patchNow_97 0 rfl ?_
        refine z_iload (pc := 99) C dX10_patchNow_99 6 rfl ?_
        refine z_icmp_ge (pc := 101) (tgt := 109) C dX10_patchNow_101 (by decide) ⟨by omega, by omega⟩ (fun c101 => ?_) (fun c101 => ?_)
        · refine z_iload (pc := 109) C dX10_patchNow_109 6 rfl ?_
          refine z_istore (pc := 111) (lv' := [(5, _), (7, _), (0, _), (1, _), (2, _), (3, _), (4, _), (6, _)]) C dX10_patchNow_111 (by decide) rfl ?_
          refine z_iinc (pc := 113) (lv' := [(6, _), (5, _), (7, _), (0, _), (1, _), (2, _), (3, _), (4, _)]) C dX10_patchNow_113 7 rfl (by decide) rfl ?_
          refine z_goto (pc := 116) (tgt := 75) C dX10_patchNow_116 (by decide) ?_
          refine z_sub C [3, 4, 5, 6, 7, 1, 0] rfl ?_
          exact ih w τ2 hw7 hDr kk75 (t + 1) _ (by omega) ⟨by omega, hfw.s (by omega) hDw (by first | (rw [if_pos (by omega)]) | (rw [if_neg (by omega)]))⟩
        · refine z_iload (pc := 104) C dX10_patchNow_104 0 rfl ?_
          refine z_goto (pc := 106) (tgt := 111) C dX10_patchNow_106 (by decide) ?_
          refine z_istore (pc := 111) (lv' := [(5, _), (7, _), (0, _), (1, _), (2, _), (3, _), (4, _), (6, _)]) C dX10_patchNow_111 (by decide) rfl ?_
          refine z_iinc (pc := 113) (lv' := [(6, _), (5, _), (7, _), (0, _), (1, _), (2, _), (3, _), (4, _)]) C dX10_patchNow_113 7 rfl (by decide) rfl ?_
          refine z_goto (pc := 116) (tgt := 75) C dX10_patchNow_116 (by decide) ?_
          refine z_sub C [3, 4, 5, 6, 7, 1, 0] rfl ?_
          exact ih w τ2 hw7 hDr kk75 (t + 1) _ (by omega) ⟨by omega, hfw.s (by omega) hDw (by first | (rw [if_pos (by omega)]) | (rw [if_neg (by omega)]))⟩
  have L66 : ∀ (fuel : Nat) (w : Nat) (few : Int) (τ : zMem), 7 - w < fuel → (w ≤ 7 ∧ zDx R rain n (τ 120) ∧ zFw (τ 120) few w 0 ∧ (∀ v s, v + 1 < w → s < 7 → bun < τ 120 (7 * s + v)) ∧ zKq σ τ) → zg G X true 8 129 0 0 66 [(0, .ref (zB G + 108)), (1, .int (zI rain)), (2, .int (zI bun)), (3, .int (zI what)), (4, .int (zI (w : Int))), (5, .int (zI few))] [] τ := by
    intro fuel
    induction fuel with
    | zero => intro w few τ hm; exact absurd hm (Nat.not_lt_zero _)
    | succ fuel ih =>
      intro w few τ hms hinv
      obtain ⟨h1, hd, hfw, hp, h5⟩ := hinv
      have hfb := hfw.1
      refine z_iload (pc := 66) C dX10_patchNow_66 5 rfl ?_
      refine z_iload_n (pc := 68) C dX10_patchNow_68 rfl 2 rfl ?_
      refine z_icmp_le (pc := 69) (tgt := 125) C dX10_patchNow_69 (by decide) ⟨by omega, by omega⟩ (fun c69 => ?_) (fun c69 => ?_)
      · have hwl : w ≤ 7 := h1
        obtain ⟨hw1, hfin⟩ := zpo_fin hn hR hra hbu hd hfw hp (by omega) h1
        refine z_iload_n (pc := 125) C dX10_patchNow_125 rfl 3 rfl ?_
        refine z_if_ne (pc := 126) (tgt := 136) C dX10_patchNow_126 (by decide) (by omega) (fun c126 => ?_) (fun c126 => ?_)
        · refine z_iload (pc := 136) C dX10_patchNow_136 5 rfl ?_
          refine z_iret (pc := 138) C dX10_patchNow_138 ?_
          rw [hfin]
          first
            | (exfalso; omega)
            | exact ⟨_, rfl, by omega, by rw [if_pos (by omega)], h5⟩
            | exact ⟨_, rfl, by omega, by rw [if_neg (by omega)], h5⟩
        · refine z_iload (pc := 129) C dX10_patchNow_129 4 rfl ?_
          refine z_iconst (pc := 131) C dX10_patchNow_131 ?_
          refine z_isub (pc := 132) C dX10_patchNow_132 ?_
          refine z_goto (pc := 133) (tgt := 138) C dX10_patchNow_133 (by decide) ?_
          refine z_iret (pc := 138) C dX10_patchNow_138 ?_
          rw [hfin]
          first
            | (exfalso; omega)
            | exact ⟨_, rfl, by omega, by rw [if_pos (by omega)], h5⟩
            | exact ⟨_, rfl, by omega, by rw [if_neg (by omega)], h5⟩
      · have hw7 := hfw.lt hn hR hd hbu.1 (by omega)
        refine z_iconst (pc := 72) C dX10_patchNow_72 ?_
        refine z_istore (pc := 73) (lv' := [(6, _), (0, _), (1, _), (2, _), (3, _), (4, _), (5, _)]) C dX10_patchNow_73 (by decide) rfl ?_
        refine z_sub C [1, 2, 3, 4, 5, 6, 0] rfl ?_
        refine L75 _ w _ hw7 hd.2.2 ?_ 0 _ (Nat.lt_succ_self _) ⟨by omega, hfw⟩
        intro few2 x1
        refine z_iinc (pc := 119) (lv' := [(4, _), (0, _), (1, _), (2, _), (3, _), (5, _)]) C dX10_patchNow_119 4 rfl (by decide) rfl ?_
        refine z_goto (pc := 122) (tgt := 66) C dX10_patchNow_122 (by decide) ?_
        refine z_sub C [1, 2, 3, 4, 0, 5] rfl ?_
        have hp2 : ∀ v s, v + 1 < w + 1 → s < 7 → bun < τ 120 (7 * s + v) := fun v s hv hs => by
          have := hfw.2.1 v s hs (by omega)
          omega
        exact ih (w + 1) _ _ (by omega) ⟨by omega, hd, x1.n, hp2, h5⟩
  have L37 : ∀ (fuel : Nat) (k : Nat) (τ : zMem), n - k < fuel → (k ≤ n ∧ zDx R rain k (τ 120) ∧ zKq σ τ) → zg G X true 8 129 0 0 37 [(0, .ref (zB G + 108)), (1, .int (zI rain)), (2, .int (zI bun)), (3, .int (zI what)), (4, .int (zI (k : Int)))] [] τ := by
    intro fuel
    induction fuel with
    | zero => intro k τ hm; exact absurd hm (Nat.not_lt_zero _)
    | succ fuel ih =>
      intro k τ hms hinv
      obtain ⟨h1, hd, h5⟩ := hinv
      have t1 : τ 108 1 = n := (h5 108 1 (by omega) (by omega)).trans s1
      refine z_iload (pc := 37) C dX10_patchNow_37 4 rfl ?_
      refine z_aload_n (pc := 39) C dX10_patchNow_39 rfl 0 rfl ?_
      refine z_getI (pc := 40) C fl_X10_101 dX10_patchNow_40 (by first | rfl | assumption) (by omega) (fun g40 => ?_)
      refine z_icmp_ge (pc := 43) (tgt := 59) C dX10_patchNow_43 (by decide) ⟨by omega, by omega⟩ (fun c43 => ?_) (fun c43 => ?_)
      · refine z_iconst (pc := 59) C dX10_patchNow_59 ?_
        refine z_istore (pc := 60) (lv' := [(4, _), (0, _), (1, _), (2, _), (3, _)]) C dX10_patchNow_60 (by decide) rfl ?_
        refine z_ldc (pc := 62) (n := 268435456) C dX10_patchNow_62 cw_X10_189 rfl ?_
        refine z_istore (pc := 64) (lv' := [(5, _), (4, _), (0, _), (1, _), (2, _), (3, _)]) C dX10_patchNow_64 (by decide) rfl ?_
        refine z_sub C [2, 3, 4, 5, 1, 0] rfl ?_
        have hkn : k = n := by omega
        exact L66 _ 0 _ _ (Nat.lt_succ_self _) ⟨by omega, hkn ▸ hd, zFw.b, fun v s hv => by omega, h5⟩
      · refine z_aload_n (pc := 46) C dX10_patchNow_46 rfl 0 rfl ?_
        refine z_iload (pc := 47) C dX10_patchNow_47 4 rfl ?_
        refine z_iload_n (pc := 49) C dX10_patchNow_49 rfl 1 rfl ?_
        refine z_Vv (pc := 50) C (c_X10_patchHouse l G _ n y K R V E (h5.ml h) hr hn k _ rain rfl (by omega) hra hd) ml_X10_224 yw_X10_patchHouse dX10_patchNow_50 (by first | rfl | assumption) (by omega) rfl rfl rfl (Nat.le_of_ble_eq_true rfl) ⟨by decide, by decide⟩ (fun t50 q50 => ?_)
        obtain ⟨⟨D50, d50, e50⟩, f50⟩ := q50
        refine z_iinc (pc := 53) (lv' := [(4, _), (0, _), (1, _), (2, _), (3, _)]) C dX10_patchNow_53 4 rfl (by decide) rfl ?_
        refine z_goto (pc := 56) (tgt := 37) C dX10_patchNow_56 (by decide) ?_
        refine z_sub C [1, 2, 3, 4, 0] rfl ?_
        exact ih (k + 1) _ (by omega) ⟨by omega, (hd.s hR (by omega) d50).co (by omega) e50, h5.tr f50⟩
  have L3 : ∀ (fuel : Nat) (i : Nat) (τ : zMem), 49 - i < fuel → (i ≤ 49 ∧ (∀ k, k < i → τ 120 k = if k = 0 then 0 else 268435456) ∧ zKq σ τ) → zg G X true 8 129 0 0 3 [(0, .ref (zB G + 108)), (1, .int (zI rain)), (2, .int (zI bun)), (3, .int (zI what)), (4, .int (zI (i : Int)))] [] τ := by
    intro fuel
    induction fuel with
    | zero => intro i τ hm; exact absurd hm (Nat.not_lt_zero _)
    | succ fuel ih =>
      intro i τ hms hinv
      obtain ⟨h1, h3, h5⟩ := hinv
      refine z_iload (pc := 3) C dX10_patchNow_3 4 rfl ?_
      refine z_bipush (pc := 5) C dX10_patchNow_5 (by decide +kernel) ?_
      refine z_icmp_ge (pc := 7) (tgt := 34) C dX10_patchNow_7 (by decide) ⟨by omega, by omega⟩ (fun c7 => ?_) (fun c7 => ?_)
      · refine z_iconst (pc := 34) C dX10_patchNow_34 ?_
        refine z_istore (pc := 35) (lv' := [(4, _), (0, _), (1, _), (2, _), (3, _)]) C dX10_patchNow_35 (by decide) rfl ?_
        refine z_sub C [1, 2, 3, 4, 0] rfl ?_
        exact L37 _ 0 _ (Nat.lt_succ_self _) ⟨by omega, zDx.b hR (fun k hk => h3 k (by omega)), h5⟩
      · refine z_aload_n (pc := 10) C dX10_patchNow_10 rfl 0 rfl ?_
        refine z_getR (pc := 11) C (120) fl_X10_44 dX10_patchNow_11 (by first | rfl | assumption) (by omega) rfl (Or.inl rfl) ?_
        refine z_iload (pc := 14) C dX10_patchNow_14 4 rfl ?_
        refine z_iload (pc := 16) C dX10_patchNow_16 4 rfl ?_
        refine z_if_ne (pc := 18) (tgt := 25) C dX10_patchNow_18 (by decide) (by omega) (fun c18 => ?_) (fun c18 => ?_)
        · refine z_ldc (pc := 25) (n := 268435456) C dX10_patchNow_25 cw_X10_189 rfl ?_
          refine z_iastoree (pc := 27) C (i) dX10_patchNow_27 (by first | rfl | assumption) (by omega) rfl (by omega) (by omega) (fun m27 em27 => ?_)
          refine z_iinc (pc := 28) (lv' := [(4, _), (0, _), (1, _), (2, _), (3, _)]) C dX10_patchNow_28 4 rfl (by decide) rfl ?_
          refine z_goto (pc := 31) (tgt := 3) C dX10_patchNow_31 (by decide) ?_
          refine z_sub C [1, 2, 3, 4, 0] rfl ?_
          exact ih (i + 1) _ (by omega) ⟨by omega, fun k hk => (show k < i ∨ k = i by omega).elim (fun q => by rw [em27, zU_k (by omega)]; exact h3 k q) (fun q => by rw [em27, q, zU_at]; first | rw [if_pos (by omega)] | rw [if_neg (by omega)]), fun o k a b => by rw [em27, zU_o a]; exact h5 o k a b⟩
        · refine z_iconst (pc := 21) C dX10_patchNow_21 ?_
          refine z_goto (pc := 22) (tgt := 27) C dX10_patchNow_22 (by decide) ?_
          refine z_iastoree (pc := 27) C (i) dX10_patchNow_27 (by first | rfl | assumption) (by omega) rfl (by omega) (by omega) (fun m27 em27 => ?_)
          refine z_iinc (pc := 28) (lv' := [(4, _), (0, _), (1, _), (2, _), (3, _)]) C dX10_patchNow_28 4 rfl (by decide) rfl ?_
          refine z_goto (pc := 31) (tgt := 3) C dX10_patchNow_31 (by decide) ?_
          refine z_sub C [1, 2, 3, 4, 0] rfl ?_
          exact ih (i + 1) _ (by omega) ⟨by omega, fun k hk => (show k < i ∨ k = i by omega).elim (fun q => by rw [em27, zU_k (by omega)]; exact h3 k q) (fun q => by rw [em27, q, zU_at]; first | rw [if_pos (by omega)] | rw [if_neg (by omega)]), fun o k a b => by rw [em27, zU_o a]; exact h5 o k a b⟩
  refine z_iconst (pc := 0) C dX10_patchNow_0 ?_
  refine z_istore (pc := 1) (lv' := [(4, _), (0, _), (1, _), (2, _), (3, _)]) C dX10_patchNow_1 (by decide) rfl ?_
  refine z_sub C [1, 2, 3, 4, 0] rfl ?_
  exact L3 _ 0 _ (Nat.lt_succ_self _) ⟨by omega, fun k hk => by omega, fun o k _ _ => rfl⟩
set_option maxHeartbeats 4000000 in
set_option maxRecDepth 100000 in
theorem c_X10_patch (l : Launch) (G : zGt) (σ : zMem) (n : Nat) (y : Int) (K R V E : Nat → Int) (h : zMl σ n y K R V E) (hr : zLr K R V E) (hn : n ≤ 6) (rain bun what : Int) (hx : zR rain) (hb : zR bun) (hw : zR what) : zN l G yX10_patch cX10_patch 4 (some .int) 2 [.ref (zB G + 108), .int (zI rain), .int (zI bun), .int (zI what)] σ (zPi (fun x τ => x = zaPatch n R rain bun what ∧ zMl τ n y K R V E ∧ zKp σ τ)) := by
  obtain ⟨s1, s6, s5, sA⟩ := id h
  have l109 : zl 109 = 6 := by decide
  have l110 : zl 110 = 6 := by decide
  have l111 : zl 111 = 6 := by decide
  have hE : ∀ j, 0 ≤ E j ∧ E j ≤ 1 := fun j => (hr j).2.2.2
  have hb5 := zbs_bd hE n
  have hq6 := zpow6 n hn
  refine zM.of (lv0 := [(0, _), (1, _), (2, _), (3, _)]) (by decide) (Nat.le_of_ble_eq_true rfl) rfl (fun X C => ?_)
  refine z_iload_n (pc := 0) C dX10_patch_0 rfl 1 rfl ?_
  refine z_Si (pc := 1) C (c_X10_isRain l G _ _ (by first | assumption | omega | decide)) ml_X10_155 ys_X10_isRain dX10_patch_1 rfl rfl (Nat.le_of_ble_eq_true rfl) ⟨by decide, by decide⟩ (fun r1 t1 h1 q1 => ?_)
  obtain ⟨w1, rfl⟩ := q1
  refine z_if_eq (pc := 4) (tgt := 26) C dX10_patch_4 (by decide) (by omega) (fun c4 => ?_) (fun c4 => ?_)
  · refine z_bipush (pc := 26) C dX10_patch_26 (by decide +kernel) ?_
    refine z_iret (pc := 28) C dX10_patch_28 ?_
    exact ⟨_, rfl, by omega, by rw [zaPatch, if_neg (by omega)], h, zKp.rf⟩
  · refine z_iload_n (pc := 7) C dX10_patch_7 rfl 2 rfl ?_
    refine z_iconst (pc := 8) C dX10_patch_8 ?_
    refine z_bipush (pc := 9) C dX10_patch_9 (by decide +kernel) ?_
    refine z_Si (pc := 11) C (c_X10_within l G _ _ _ _ (by first | assumption | omega | decide) (by first | assumption | omega | decide) (by first | assumption | omega | decide)) ml_X10_71 ys_X10_within dX10_patch_11 rfl rfl (Nat.le_of_ble_eq_true rfl) ⟨by decide, by decide⟩ (fun r11 t11 h11 q11 => ?_)
    obtain ⟨w11, rfl⟩ := q11
    refine z_if_eq (pc := 14) (tgt := 26) C dX10_patch_14 (by decide) (by omega) (fun c14 => ?_) (fun c14 => ?_)
    · refine z_bipush (pc := 26) C dX10_patch_26 (by decide +kernel) ?_
      refine z_iret (pc := 28) C dX10_patch_28 ?_
      exact ⟨_, rfl, by omega, by rw [zaPatch, if_neg (by omega)], h, zKp.rf⟩
    · refine z_iload_n (pc := 17) C dX10_patch_17 rfl 3 rfl ?_
      refine z_iconst (pc := 18) C dX10_patch_18 ?_
      refine z_iconst (pc := 19) C dX10_patch_19 ?_
      refine z_Si (pc := 20) C (c_X10_within l G _ _ _ _ (by first | assumption | omega | decide) (by first | assumption | omega | decide) (by first | assumption | omega | decide)) ml_X10_71 ys_X10_within dX10_patch_20 rfl rfl (Nat.le_of_ble_eq_true rfl) ⟨by decide, by decide⟩ (fun r20 t20 h20 q20 => ?_)
      obtain ⟨w20, rfl⟩ := q20
      refine z_if_ne (pc := 23) (tgt := 29) C dX10_patch_23 (by decide) (by omega) (fun c23 => ?_) (fun c23 => ?_)
      · refine z_aload_n (pc := 29) C dX10_patch_29 rfl 0 rfl ?_
        refine z_getI (pc := 30) C fl_X10_101 dX10_patch_30 (by first | rfl | assumption) (by omega) (fun g30 => ?_)
        refine z_if_ne (pc := 33) (tgt := 41) C dX10_patch_33 (by decide) (by omega) (fun c33 => ?_) (fun c33 => ?_)
        · refine z_aload_n (pc := 41) C dX10_patch_41 rfl 0 rfl ?_
          refine z_iload_n (pc := 42) C dX10_patch_42 rfl 1 rfl ?_
          refine z_iload_n (pc := 43) C dX10_patch_43 rfl 2 rfl ?_
          refine z_iload_n (pc := 44) C dX10_patch_44 rfl 3 rfl ?_
          refine z_Vi (pc := 45) C (c_X10_patchNow l G _ n y K R V E h hr hn rain bun what (by omega) (by omega) (by omega)) ml_X10_227 yw_X10_patchNow dX10_patch_45 (by first | rfl | assumption) (by omega) rfl rfl rfl (Nat.le_of_ble_eq_true rfl) ⟨by decide, by decide⟩ (fun r45 t45 h45 q45 => ?_)
          obtain ⟨e45, f45⟩ := q45
          refine z_iret (pc := 48) C dX10_patch_48 ?_
          first
            | exact ⟨_, rfl, by assumption, by rw [zaPatch, if_pos (by omega), if_neg (by omega)]; exact e45, f45.ml h, f45.kp⟩
            | exact ⟨_, rfl, by omega, by rw [zaPatch, if_pos (by omega), if_pos (by omega)], h, zKp.rf⟩
        · refine z_bipush (pc := 36) C dX10_patch_36 (by decide +kernel) ?_
          refine z_goto (pc := 38) (tgt := 48) C dX10_patch_38 (by decide) ?_
          refine z_iret (pc := 48) C dX10_patch_48 ?_
          first
            | exact ⟨_, rfl, by assumption, by rw [zaPatch, if_pos (by omega), if_neg (by omega)]; exact e45, f45.ml h, f45.kp⟩
            | exact ⟨_, rfl, by omega, by rw [zaPatch, if_pos (by omega), if_pos (by omega)], h, zKp.rf⟩
      · refine z_bipush (pc := 26) C dX10_patch_26 (by decide +kernel) ?_
        refine z_iret (pc := 28) C dX10_patch_28 ?_
        exact ⟨_, rfl, by omega, by rw [zaPatch, if_neg (by omega)], h, zKp.rf⟩
