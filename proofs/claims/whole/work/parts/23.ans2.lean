/-! the page read as a lane; lowest terms; the digest's numbers -/
theorem zfx_all {P : Nat → Int} : ∀ f i, zfx P f i = i + f → ∀ j, i ≤ j → j < i + f → zms j (P j) = 1 := by
  intro f
  induction f with
  | zero => intro i _ j h1 h2; omega
  | succ f ih =>
    intro i h j h1 h2
    unfold zfx at h
    by_cases e : zms i (P i) = 1
    · rw [if_pos e] at h
      by_cases ej : j = i
      · rw [ej]; exact e
      · exact ih (i + 1) (by omega) j (by omega) (by omega)
    · rw [if_neg e] at h; omega
theorem zff_all {P : Nat → Int} {m : Nat} (h : zff P m = m) : ∀ j, j < m → zms j (P j) = 1 := fun j hj => zfx_all m 0 (by unfold zff at h; omega) j (by omega) (by omega)
def zKl (P : Nat → Int) (n i : Nat) : Int := if i < n then zkd (P (4 * i)) else 0
def zRl (P : Nat → Int) (n i : Nat) : Int := if i < n then P (4 * i + 1) - 48 else 0
def zVl (P : Nat → Int) (n i : Nat) : Int := if i < n then P (4 * i + 2) - 48 else 0
theorem zms_k {i : Nat} {c : Int} (h : zms (4 * i) c = 1) : 0 ≤ zkd c ∧ zkd c ≤ 4 := by
  have h2 := zkd_bd c
  unfold zms at h
  rw [if_neg (by intro q; rw [if_pos q] at h; omega), if_pos (by omega)] at h
  by_cases e : zkd c = -1
  · rw [if_pos e] at h; omega
  · omega
theorem zms_d {j : Nat} {c : Int} (h : zms j c = 1) (h1 : j % 4 ≠ 0) (h3 : j % 4 ≠ 3) : 48 ≤ c ∧ c ≤ 57 := by
  unfold zms at h
  rw [if_neg (by intro q; rw [if_pos q] at h; omega), if_neg h1, if_neg h3] at h
  by_cases e : 48 ≤ c ∧ c ≤ 57
  · exact e
  · rw [if_neg e] at h; omega
theorem zms_m {j : Nat} {c : Int} (h : zms j c = 1) : j < 23 := by
  unfold zms at h
  by_cases e : 23 ≤ j
  · rw [if_pos e] at h; omega
  · omega
/-- a page that is a lane -/
def zIsL (P : Nat → Int) (m : Nat) : Prop := m % 4 = 3 ∧ zff P m = m
theorem zIsL.ok {P : Nat → Int} {m : Nat} (h : zIsL P m) : 1 ≤ (m + 1) / 4 ∧ (m + 1) / 4 ≤ 6 ∧ m = 4 * ((m + 1) / 4) - 1 ∧ zLr (zKl P ((m + 1) / 4)) (zRl P ((m + 1) / 4)) (zVl P ((m + 1) / 4)) (fun _ => 0) := by
  obtain ⟨h1, h2⟩ := h
  have ha := zff_all h2
  have h3 := zms_m (ha (m - 1) (by omega))
  refine ⟨by omega, by omega, by omega, fun i => ?_⟩
  unfold zKl zRl zVl
  by_cases e : i < (m + 1) / 4
  · rw [if_pos e, if_pos e, if_pos e]
    have a1 := zms_k (ha (4 * i) (by omega))
    have a2 := zms_d (ha (4 * i + 1) (by omega)) (by omega) (by omega)
    have a3 := zms_d (ha (4 * i + 2) (by omega)) (by omega) (by omega)
    exact ⟨by omega, by omega, by omega, by simp⟩
  · rw [if_neg e, if_neg e, if_neg e]; exact ⟨by omega, by omega, by omega, by simp⟩
/-- numbers mixed into h, in order -/
def zfd (f : Nat → Int) : Nat → Int → Int
  | 0, h => h
  | k + 1, h => 31 * zfd f k h + f k
/-- the digest's numbers of a house -/
def zdH (n : Nat) (y : Int) (K R V E : Nat → Int) (c : Nat) (A Y Q : Nat → Int) (h : Int) (i : Nat) : Int :=
  31 * (31 * (31 * (31 * zfd (fun t => zaHouse n y K R V E c A Y Q (i : Int) (t : Int)) 7 h + zaReach n R (i : Int) 12) + zaDry n y K R V E (i : Int) 8) + zaOdds n y K R V E (i : Int) 4 0) + zaOdds n y K R V E (i : Int) 4 1
def zdHs (n : Nat) (y : Int) (K R V E : Nat → Int) (c : Nat) (A Y Q : Nat → Int) : Nat → Int → Int
  | 0, h => h
  | k + 1, h => zdH n y K R V E c A Y Q (zdHs n y K R V E c A Y Q k h) k
/-- .. of the lane -/
def zdL (n : Nat) (y : Int) (K R V E : Nat → Int) (tw : Nat → Int) (pa0 pa1 : Int) (h : Int) : Int :=
  31 * (31 * zfd tw 7 (31 * (31 * (31 * (31 * (31 * h + zaWet n R 9) + zaPlan n y K R V E 2 9 0) + zaPlan n y K R V E 2 9 1) + zaPlan n y K R V E 2 9 10) + zaPlan n y K R V E 2 9 11) + pa0) + pa1
