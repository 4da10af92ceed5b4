/-! lowest terms -/
theorem zd2 {g x : Nat} (h : g ∣ 2 * x) (h2 : ¬ 2 ∣ g) : g ∣ x := by
  obtain ⟨c, hc⟩ := h
  have hm : (g % 2) * (c % 2) % 2 = 0 := by rw [← Nat.mul_mod, ← hc]; omega
  have hg : g % 2 = 1 := by omega
  rw [hg, Nat.one_mul] at hm
  obtain ⟨e, he⟩ : ∃ e, c = 2 * e := ⟨c / 2, by omega⟩
  rw [he, Nat.mul_left_comm] at hc
  exact ⟨e, by omega⟩
theorem zd5 {g x : Nat} (h : g ∣ 5 * x) (h2 : ¬ 5 ∣ g) : g ∣ x := by
  obtain ⟨c, hc⟩ := h
  have hm : (g % 5) * (c % 5) % 5 = 0 := by rw [← Nat.mul_mod, ← hc]; omega
  have hc5 : c % 5 = 0 := by
    have k : ∀ a, a < 5 → ∀ b, b < 5 → a ≠ 0 → a * b % 5 = 0 → b = 0 := by decide
    exact k _ (by omega) _ (by omega) (by omega) hm
  obtain ⟨e, he⟩ : ∃ e, c = 5 * e := ⟨c / 5, by omega⟩
  rw [he, Nat.mul_left_comm] at hc
  exact ⟨e, by omega⟩
/-- one and other are A and B less a common d; what they still share divides m -/
def zLw (A B one other m : Nat) : Prop := (∃ d, 0 < d ∧ one * d = A ∧ other * d = B) ∧ Nat.gcd one other ∣ m
theorem zLw.two {A B one other m : Nat} (h : zLw A B one other (2 * m)) (h1 : one % 2 = 0) (h2 : other % 2 = 0) : zLw A B (one / 2) (other / 2) m := by
  obtain ⟨⟨d, d0, d1, d2⟩, hg⟩ := h
  obtain ⟨x, hx⟩ : ∃ x, one = 2 * x := ⟨one / 2, by omega⟩
  obtain ⟨y, hy⟩ : ∃ y, other = 2 * y := ⟨other / 2, by omega⟩
  rw [hx, hy, Nat.gcd_mul_left] at hg
  rw [show one / 2 = x by omega, show other / 2 = y by omega]
  exact ⟨⟨2 * d, by omega, by rw [← d1, hx, Nat.mul_left_comm, Nat.mul_assoc], by rw [← d2, hy, Nat.mul_left_comm, Nat.mul_assoc]⟩, Nat.dvd_of_mul_dvd_mul_left (by decide) hg⟩
theorem zLw.no2 {A B one other m : Nat} (h : zLw A B one other (2 * m)) (h1 : ¬ (one % 2 = 0 ∧ other % 2 = 0)) : zLw A B one other m :=
  ⟨h.1, zd2 h.2 (fun q => h1 ⟨Nat.mod_eq_zero_of_dvd (Nat.dvd_trans q (Nat.gcd_dvd_left _ _)), Nat.mod_eq_zero_of_dvd (Nat.dvd_trans q (Nat.gcd_dvd_right _ _))⟩)⟩
theorem zLw.five {A B one other m : Nat} (h : zLw A B one other (5 * m)) (h1 : one % 5 = 0) (h2 : other % 5 = 0) : zLw A B (one / 5) (other / 5) m := by
  obtain ⟨⟨d, d0, d1, d2⟩, hg⟩ := h
  obtain ⟨x, hx⟩ : ∃ x, one = 5 * x := ⟨one / 5, by omega⟩
  obtain ⟨y, hy⟩ : ∃ y, other = 5 * y := ⟨other / 5, by omega⟩
  rw [hx, hy, Nat.gcd_mul_left] at hg
  rw [show one / 5 = x by omega, show other / 5 = y by omega]
  exact ⟨⟨5 * d, by omega, by rw [← d1, hx, Nat.mul_left_comm, Nat.mul_assoc], by rw [← d2, hy, Nat.mul_left_comm, Nat.mul_assoc]⟩, Nat.dvd_of_mul_dvd_mul_left (by decide) hg⟩
theorem zLw.no5 {A B one other m : Nat} (h : zLw A B one other (5 * m)) (h1 : ¬ (one % 5 = 0 ∧ other % 5 = 0)) : zLw A B one other m :=
  ⟨h.1, zd5 h.2 (fun q => h1 ⟨Nat.mod_eq_zero_of_dvd (Nat.dvd_trans q (Nat.gcd_dvd_left _ _)), Nat.mod_eq_zero_of_dvd (Nat.dvd_trans q (Nat.gcd_dvd_right _ _))⟩)⟩
theorem zLw.le {A B one other m : Nat} (h : zLw A B one other m) : one ≤ A ∧ other ≤ B := by
  obtain ⟨⟨d, d0, d1, d2⟩, -⟩ := h
  exact ⟨by rw [← d1]; exact Nat.le_mul_of_pos_right _ d0, by rw [← d2]; exact Nat.le_mul_of_pos_right _ d0⟩
theorem zLw.end {A B one other : Nat} (h : zLw A B one other 1) : one = A / Nat.gcd A B := by
  obtain ⟨⟨d, d0, d1, d2⟩, hg⟩ := h
  have e : Nat.gcd A B = d := by rw [← d1, ← d2, Nat.gcd_mul_right, Nat.eq_one_of_dvd_one hg, Nat.one_mul]
  rw [e, ← d1, Nat.mul_div_cancel _ d0]
theorem z10 (r : Nat) : 10 ^ (r + 1) = 2 * (5 * 10 ^ r) := by rw [Nat.pow_succ]; omega
theorem zlt_nat (A B : Nat) : zlt (A : Int) (B : Int) = ((A / Nat.gcd A B : Nat) : Int) := rfl
