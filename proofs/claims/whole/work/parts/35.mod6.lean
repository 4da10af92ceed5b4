/-! TWOS, by the model: the table of the least, and who goes with whom -/
theorem zLm_congr {g g' : Nat → Int} {R : Nat → Int} {S x : Nat} (h0 : zodd S = true → g (S - 2 ^ x) = g' (S - 2 ^ x)) : ∀ {m : Nat}, (∀ o, o < m → x < o → zbt S o = true → g (S - 2 ^ x - 2 ^ o) = g' (S - 2 ^ x - 2 ^ o)) → zLm g R S x m = zLm g' R S x m := by
  intro m
  induction m with
  | zero =>
    intro _
    unfold zLm
    cases ho : zodd S
    · rfl
    · simp only [if_true]; exact h0 ho
  | succ m ih =>
    intro h
    have e := ih (fun o ho => h o (by omega))
    unfold zLm
    by_cases hc : x < m ∧ zbt S m = true
    · rw [if_pos hc, if_pos hc, e, h m (by omega) hc.1 hc.2]
    · rw [if_neg hc, if_neg hc, e]
theorem zAm_congr {g g' : Nat → Int} {ga ga' : Nat → (Nat → Int) → Nat → Int} {R : Nat → Int} {S x : Nat} {A : Nat → Int} (h0 : zodd S = true → g (S - 2 ^ x) = g' (S - 2 ^ x)) (h1 : ga (S - 2 ^ x) (zup A x (-1)) = ga' (S - 2 ^ x) (zup A x (-1))) : ∀ {m : Nat}, (∀ o, o < m → x < o → zbt S o = true → g (S - 2 ^ x - 2 ^ o) = g' (S - 2 ^ x - 2 ^ o) ∧ ∀ B, ga (S - 2 ^ x - 2 ^ o) B = ga' (S - 2 ^ x - 2 ^ o) B) → zAm g ga R S x A m = zAm g' ga' R S x A m := by
  intro m
  induction m with
  | zero => intro _; exact h1
  | succ m ih =>
    intro h
    have e := ih (fun o ho => h o (by omega))
    have eL : zLm g R S x m = zLm g' R S x m := zLm_congr h0 (fun o ho a b => (h o (by omega) a b).1)
    unfold zAm
    by_cases hc : x < m ∧ zbt S m = true
    · have q := h m (by omega) hc.1 hc.2
      rw [eL, q.1, q.2, e]
    · rw [if_neg (fun q => hc ⟨q.1, q.2.1⟩), if_neg (fun q => hc ⟨q.1, q.2.1⟩), e]
theorem zLf_ind {R : Nat → Int} {n : Nat} (hn : n ≤ 6) : ∀ f S, S < 2 ^ n → (∀ j, j < 6 → zbt S j = true → n ≤ j + f) → zLf R n (f + 1) S = zLf R n f S ∧ ∀ A, zAf R n (f + 1) S A = zAf R n f S A := by
  intro f
  induction f with
  | zero =>
    intro S hS hj
    have h0 : S = 0 := zbt_0 n hn S hS (fun j hjn => by
      cases hb : zbt S j
      · rfl
      · have := hj j (by omega) hb; omega)
    subst h0
    exact ⟨rfl, fun A => rfl⟩
  | succ f ih =>
    intro S hS hj
    by_cases h0 : S = 0
    · subst h0; exact ⟨rfl, fun A => rfl⟩
    · have hS2 : S < 64 := by have : (2 : Nat) ^ n ≤ 2 ^ 6 := Nat.pow_le_pow_right (by omega) hn; omega
      obtain ⟨x1, x2, x3⟩ := zlow_bt S hS2 h0
      obtain ⟨r1, r2, r3⟩ := zrm_bt S hS2 _ x1 x2
      have hp := Nat.two_pow_pos (zlow S)
      have hx := hj _ x1 x2
      have hj1 : ∀ j, j < 6 → zbt (S - 2 ^ zlow S) j = true → n ≤ j + f := fun j h1 h2 => by
        rw [r2 j h1] at h2
        by_cases e : j = zlow S
        · rw [if_pos e] at h2; cases h2
        · rw [if_neg e] at h2
          have h3 : ¬ j < zlow S := fun q => by rw [x3 j q] at h2; cases h2
          omega
      have i1 := ih (S - 2 ^ zlow S) (by omega) hj1
      have i2 : ∀ o, o < n → zlow S < o → zbt S o = true → zLf R n (f + 1) (S - 2 ^ zlow S - 2 ^ o) = zLf R n f (S - 2 ^ zlow S - 2 ^ o) ∧ ∀ B, zAf R n (f + 1) (S - 2 ^ zlow S - 2 ^ o) B = zAf R n f (S - 2 ^ zlow S - 2 ^ o) B := fun o ho h1 h2 => by
        have hb2 : zbt (S - 2 ^ zlow S) o = true := by rw [r2 o (by omega), if_neg (by omega)]; exact h2
        obtain ⟨y1, y2, y3⟩ := zrm_bt (S - 2 ^ zlow S) (by omega) o (by omega) hb2
        refine ih _ (by have := Nat.two_pow_pos o; omega) (fun j h1 h2 => ?_)
        rw [y2 j h1] at h2
        by_cases e : j = o
        · rw [if_pos e] at h2; cases h2
        · rw [if_neg e] at h2; exact hj1 j h1 h2
      refine ⟨?_, fun A => ?_⟩
      · rw [zLf, if_neg h0]
        conv => rhs; rw [zLf, if_neg h0]
        exact zLm_congr (fun _ => i1.1) (fun o a b c => (i2 o a b c).1)
      · rw [zAf, if_neg h0]
        conv => rhs; rw [zAf, if_neg h0]
        exact zAm_congr (fun _ => i1.1) (i1.2 _) i2
/-- the least over a set, and who goes with whom -/
theorem zL_rec {R : Nat → Int} {n S : Nat} (hn : n ≤ 6) (hS : S < 2 ^ n) (h0 : S ≠ 0) : zLf R n 6 S = zLm (zLf R n 6) R S (zlow S) n := by
  rw [← (zLf_ind (R := R) hn 6 S hS (fun j _ _ => by omega)).1, zLf, if_neg h0]
theorem zA_rec {R : Nat → Int} {n S : Nat} {A : Nat → Int} (hn : n ≤ 6) (hS : S < 2 ^ n) (h0 : S ≠ 0) : zAf R n 6 S A = zAm (zLf R n 6) (zAf R n 6) R S (zlow S) A n := by
  rw [← (zLf_ind (R := R) hn 6 S hS (fun j _ _ => by omega)).2, zAf, if_neg h0]
theorem zLm_anti {g : Nat → Int} {R : Nat → Int} {S x : Nat} : ∀ {m o : Nat}, o ≤ m → zLm g R S x m ≤ zLm g R S x o := by
  intro m
  induction m with
  | zero => intro o h; rw [show o = 0 by omega]; exact Int.le_refl _
  | succ m ih =>
    intro o h
    rcases (show o ≤ m ∨ o = m + 1 by omega) with q | q
    · have := ih q
      have e : zLm g R S x (m + 1) ≤ zLm g R S x m := by conv => lhs; unfold zLm
                                                         split; split <;> omega; exact Int.le_refl _
      omega
    · rw [q]; exact Int.le_refl _
theorem zLm_att {g : Nat → Int} {R : Nat → Int} {S x : Nat} : ∀ {m : Nat}, zLm g R S x m = zLm g R S x 0 ∨ ∃ o, o < m ∧ x < o ∧ zbt S o = true ∧ g (S - 2 ^ x - 2 ^ o) + zab (R x) (R o) = zLm g R S x m := by
  intro m
  induction m with
  | zero => left; rfl
  | succ m ih =>
    have hn : zLm g R S x (m + 1) = zLm g R S x m → (zLm g R S x (m + 1) = zLm g R S x 0 ∨ ∃ o, o < m + 1 ∧ x < o ∧ zbt S o = true ∧ g (S - 2 ^ x - 2 ^ o) + zab (R x) (R o) = zLm g R S x (m + 1)) := fun e => by
      rw [e]
      rcases ih with q | ⟨o, a, b⟩
      · exact Or.inl q
      · exact Or.inr ⟨o, by omega, b⟩
    by_cases hc : x < m ∧ zbt S m = true
    · by_cases hl : g (S - 2 ^ x - 2 ^ m) + zab (R x) (R m) < zLm g R S x m
      · exact Or.inr ⟨m, by omega, hc.1, hc.2, by conv => rhs; unfold zLm
                                                  rw [if_pos hc, if_pos hl]⟩
      · exact hn (by conv => lhs; unfold zLm
                     rw [if_pos hc, if_neg hl])
    · exact hn (by conv => lhs; unfold zLm
                   rw [if_neg hc])
theorem zAm_none {g : Nat → Int} {ga : Nat → (Nat → Int) → Nat → Int} {R : Nat → Int} {S x n : Nat} {A : Nat → Int} (ho : zodd S = true) (h : g (S - 2 ^ x) = zLm g R S x n) : ∀ {m : Nat}, m ≤ n → zAm g ga R S x A m = ga (S - 2 ^ x) (zup A x (-1)) := by
  intro m
  induction m with
  | zero => intro _; rfl
  | succ m ih =>
    intro hm
    unfold zAm
    rw [if_neg, ih (by omega)]
    rintro ⟨h1, h2, h3⟩
    have e1 := zLm_le0 (g := g) (R := R) (x := x) ho (m := m)
    have e2 := zLm_le (g := g) (R := R) (S := S) (x := x) (m := n) (o := m) (by omega) h1 h2
    omega
theorem zAm_at {g : Nat → Int} {ga : Nat → (Nat → Int) → Nat → Int} {R : Nat → Int} {S x n h : Nat} {A : Nat → Int} (hF : zLm g R S x n < 268435456) (hh : h < n) (hx : x < h) (hb : zbt S h = true) (hv : g (S - 2 ^ x - 2 ^ h) + zab (R x) (R h) = zLm g R S x n)
    (hbef : ∀ j, j < h → x < j → zbt S j = true → g (S - 2 ^ x - 2 ^ j) + zab (R x) (R j) ≠ zLm g R S x n) (h0 : zodd S = true → g (S - 2 ^ x) ≠ zLm g R S x n) : ∀ {m : Nat}, h < m → m ≤ n → zAm g ga R S x A m = ga (S - 2 ^ x - 2 ^ h) (zup (zup A x (h : Int)) h (x : Int)) := by
  have hlt : ∀ o, o ≤ h → zLm g R S x n < zLm g R S x o := by
    intro o
    induction o with
    | zero =>
      intro _
      rw [show zLm g R S x 0 = (if zodd S = true then g (S - 2 ^ x) else 268435456) from rfl]
      by_cases ho : zodd S = true
      · rw [if_pos ho]
        have e2 := h0 ho
        have e3 : zLm g R S x n ≤ g (S - 2 ^ x) := zLm_le0 ho
        omega
      · rw [if_neg ho]; exact hF
    | succ o ih =>
      intro ho
      have e0 := ih (by omega)
      conv => rhs; unfold zLm
      split
      · rename_i hc
        have e1 := zLm_le (g := g) (R := R) (S := S) (x := x) (m := n) (o := o) (by omega) hc.1 hc.2
        have e2 := hbef o (by omega) hc.1 hc.2
        split <;> omega
      · exact e0
  intro m
  induction m with
  | zero => intro h1; omega
  | succ m ih =>
    intro h1 h2
    rcases (show h = m ∨ h < m by omega) with q | q
    · subst q
      unfold zAm
      rw [if_pos ⟨hx, hb, by rw [hv]; exact hlt h (Nat.le_refl h)⟩]
    · unfold zAm
      rw [if_neg, ih q (by omega)]
      rintro ⟨a1, a2, a3⟩
      have e1 := zLm_le (g := g) (R := R) (S := S) (x := x) (m := n) (o := m) (by omega) a1 a2
      have e2 := zLm_le (g := g) (R := R) (S := S) (x := x) (m := m) (o := h) q hx hb
      omega
set_option maxRecDepth 100000 in
theorem zbt_n : ∀ S : Nat, S < 64 → ∀ k : Nat, k < 6 → (S : Int) / 2 ^ k % 2 = (if zbt S k = true then 1 else 0) := by decide +kernel
set_option maxRecDepth 100000 in
theorem zodd_n : ∀ S : Nat, S < 64 → zsum (fun k => (S : Int) / 2 ^ k % 2) 10 % 2 = (if zodd S = true then 1 else 0) := by decide +kernel
set_option maxRecDepth 100000 in
theorem zxor_n : ∀ x : Nat, x < 6 → zI (2 ^ x) ^^^ zI (-1) = zI (-(2 ^ x) - 1) := by decide +kernel
set_option maxRecDepth 100000 in
theorem zclr_n : ∀ S : Nat, S < 64 → ∀ x : Nat, x < 6 → zbt S x = true → zI (S : Int) &&& zI (-(2 ^ x) - 1) = zI ((S - 2 ^ x : Nat) : Int) := by decide +kernel
