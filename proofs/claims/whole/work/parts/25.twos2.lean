/-! TWOS: the least of a set, and who goes with whom, as a running least -/
def zLm (g : Nat → Int) (R : Nat → Int) (S x : Nat) : Nat → Int
  | 0 => if zodd S then g (S - 2 ^ x) else 268435456
  | o + 1 => if x < o ∧ zbt S o = true then (if g (S - 2 ^ x - 2 ^ o) + zab (R x) (R o) < zLm g R S x o then g (S - 2 ^ x - 2 ^ o) + zab (R x) (R o) else zLm g R S x o) else zLm g R S x o
def zLf (R : Nat → Int) (n : Nat) : Nat → Nat → Int
  | 0, _ => 0
  | f + 1, S => if S = 0 then 0 else zLm (zLf R n f) R S (zlow S) n
def zAm (g : Nat → Int) (ga : Nat → (Nat → Int) → Nat → Int) (R : Nat → Int) (S x : Nat) (A : Nat → Int) : Nat → Nat → Int
  | 0 => ga (S - 2 ^ x) (zup A x (-1))
  | o + 1 => if x < o ∧ zbt S o = true ∧ g (S - 2 ^ x - 2 ^ o) + zab (R x) (R o) < zLm g R S x o then ga (S - 2 ^ x - 2 ^ o) (zup (zup A x (o : Int)) o (x : Int)) else zAm g ga R S x A o
def zAf (R : Nat → Int) (n : Nat) : Nat → Nat → (Nat → Int) → Nat → Int
  | 0, _, A => A
  | f + 1, S, A => if S = 0 then A else zAm (zLf R n f) (zAf R n f) R S (zlow S) A n
theorem zab_bd {a b : Int} (ha : 0 ≤ a ∧ a ≤ 20) (hb : 0 ≤ b ∧ b ≤ 20) : 0 ≤ zab a b ∧ zab a b ≤ 20 := by unfold zab; split <;> omega
set_option maxRecDepth 100000 in
theorem zev_2 : ∀ S, S < 64 → S ≠ 0 → zodd S = false → ∃ o, o < 6 ∧ zlow S < o ∧ zbt S o = true := by decide +kernel
theorem zLm_le {g : Nat → Int} {R : Nat → Int} {S x : Nat} : ∀ {m o : Nat}, o < m → x < o → zbt S o = true → zLm g R S x m ≤ g (S - 2 ^ x - 2 ^ o) + zab (R x) (R o) := by
  intro m
  induction m with
  | zero => intro o h; omega
  | succ m ih =>
    intro o h hx hb
    rcases (show o < m ∨ o = m by omega) with q | q
    · have := ih q hx hb
      unfold zLm
      split
      · split <;> omega
      · exact this
    · subst q
      unfold zLm
      rw [if_pos ⟨hx, hb⟩]
      split <;> omega
theorem zLm_le0 {g : Nat → Int} {R : Nat → Int} {S x : Nat} (h : zodd S = true) : ∀ {m : Nat}, zLm g R S x m ≤ g (S - 2 ^ x) := by
  intro m
  induction m with
  | zero => unfold zLm; rw [if_pos h]; exact Int.le_refl _
  | succ m ih => unfold zLm; split; split <;> omega; exact ih
theorem zLm_ge0 {g : Nat → Int} {R : Nat → Int} {S x : Nat} (hg : ∀ S, 0 ≤ g S) (hR : ∀ i, 0 ≤ R i ∧ R i ≤ 20) : ∀ {m : Nat}, 0 ≤ zLm g R S x m := by
  intro m
  induction m with
  | zero => unfold zLm; split; exact hg _; omega
  | succ m ih =>
    have h1 := hg (S - 2 ^ x - 2 ^ m)
    have h2 := zab_bd (hR x) (hR m)
    unfold zLm; split; split <;> omega; exact ih
theorem zLf_bd {R : Nat → Int} {n : Nat} (hn : n ≤ 6) (hR : ∀ i, 0 ≤ R i ∧ R i ≤ 20) : ∀ f S, (0 ≤ zLf R n f S) ∧ (S < 2 ^ n → zLf R n f S ≤ 20 * f) := by
  intro f
  induction f with
  | zero => intro S; simp [zLf]
  | succ f ih =>
    intro S
    unfold zLf
    split
    · omega
    · rename_i h0
      refine ⟨zLm_ge0 (fun S => (ih S).1) hR, fun hS => ?_⟩
      have hS2 : S < 64 := by have : (2 : Nat) ^ n ≤ 2 ^ 6 := Nat.pow_le_pow_right (by omega) hn; omega
      have hp := Nat.two_pow_pos (zlow S)
      cases ho : zodd S
      · obtain ⟨o, h1, h2, h3⟩ := zev_2 S hS2 h0 ho
        have h4 := zbt_lt n hn S hS o h1 h3
        have h5 := zLm_le (g := zLf R n f) (R := R) (S := S) (x := zlow S) h4 h2 h3
        have hpo := Nat.two_pow_pos o
        have h6 := (ih (S - 2 ^ zlow S - 2 ^ o)).2 (by omega)
        have h7 := zab_bd (hR (zlow S)) (hR o)
        omega
      · have h5 := zLm_le0 (g := zLf R n f) (R := R) (S := S) (x := zlow S) ho (m := n)
        have h6 := (ih (S - 2 ^ zlow S)).2 (by omega)
        omega
/-- the search of the class finds the least, and the first way to it -/
theorem zpp_eq {R : Nat → Int} {n : Nat} (hn : n ≤ 6) (hR : ∀ i, 0 ≤ R i ∧ R i ≤ 20) : ∀ f S A t b, S < 2 ^ n → (∀ j, j < 6 → zbt S j = true → n ≤ j + f) → 0 ≤ t → b.1 ≤ 268435456 → zpp R n f S A t b = if t + zLf R n f S < b.1 then (t + zLf R n f S, zAf R n f S A) else b := by
  intro f
  induction f with
  | zero =>
    intro S A t b hS hj ht hb
    simp [zpp, zLf, zAf, zwg]
  | succ f ih =>
    intro S A t b hS hj ht hb
    have hS2 : S < 64 := by have : (2 : Nat) ^ n ≤ 2 ^ 6 := Nat.pow_le_pow_right (by omega) hn; omega
    by_cases h0 : S = 0
    · simp [zpp, zLf, zAf, zwg, h0]
    · obtain ⟨x1, x2, x3⟩ := zlow_bt S hS2 h0
      obtain ⟨r1, r2, r3⟩ := zrm_bt S hS2 _ x1 x2
      have hp := Nat.two_pow_pos (zlow S)
      have hx := hj _ x1 x2
      have hj1 : ∀ j, j < 6 → zbt (S - 2 ^ zlow S) j = true → n ≤ j + f := fun j h1 h2 => by
        rw [r2 j h1] at h2
        by_cases e : j = zlow S
        · rw [if_pos e] at h2; cases h2
        · rw [if_neg e] at h2
          have h3 : ¬ j < zlow S := fun q => by rw [x3 j q] at h2; cases h2
          omega
      have key : ∀ o, o ≤ n → zpi (zpp R n f) R S (zlow S) A t o (if zodd S then zpp R n f (S - 2 ^ zlow S) (zup A (zlow S) (-1)) t b else b) = if t + zLm (zLf R n f) R S (zlow S) o < b.1 then (t + zLm (zLf R n f) R S (zlow S) o, zAm (zLf R n f) (zAf R n f) R S (zlow S) A o) else b := by
        intro o
        induction o with
        | zero =>
          intro _
          unfold zpi zLm zAm
          cases ho : zodd S
          · simp only [Bool.false_eq_true, if_false]
            rw [if_neg (by omega)]
          · simp only [if_true]
            rw [ih _ _ _ _ (by omega) hj1 ht hb]
        | succ o iho =>
          intro hon
          have hprev := iho (by omega)
          unfold zpi
          by_cases hc : zlow S < o ∧ zbt S o = true
          · rw [if_pos hc, hprev]
            have hp2 := Nat.two_pow_pos o
            have hb2 : zbt (S - 2 ^ zlow S) o = true := by rw [r2 o (by omega), if_neg (by omega)]; exact hc.2
            obtain ⟨y1, y2, y3⟩ := zrm_bt (S - 2 ^ zlow S) (by omega) o (by omega) hb2
            have hj2 : ∀ j, j < 6 → zbt (S - 2 ^ zlow S - 2 ^ o) j = true → n ≤ j + f := fun j h1 h2 => by
              rw [y2 j h1] at h2
              by_cases e : j = o
              · rw [if_pos e] at h2; cases h2
              · rw [if_neg e] at h2; exact hj1 j h1 h2
            have ha := zab_bd (hR (zlow S)) (hR o)
            rw [ih _ _ _ _ (by omega) hj2 (by omega) (by split <;> (try dsimp only) <;> omega)]
            have eL : zLm (zLf R n f) R S (zlow S) (o + 1) = if zLf R n f (S - 2 ^ zlow S - 2 ^ o) + zab (R (zlow S)) (R o) < zLm (zLf R n f) R S (zlow S) o then zLf R n f (S - 2 ^ zlow S - 2 ^ o) + zab (R (zlow S)) (R o) else zLm (zLf R n f) R S (zlow S) o := by rw [zLm, if_pos hc]
            by_cases hlt : zLf R n f (S - 2 ^ zlow S - 2 ^ o) + zab (R (zlow S)) (R o) < zLm (zLf R n f) R S (zlow S) o
            · rw [if_pos hlt] at eL
              have hcd : zlow S < o ∧ zbt S o = true ∧ zLf R n f (S - 2 ^ zlow S - 2 ^ o) + zab (R (zlow S)) (R o) < zLm (zLf R n f) R S (zlow S) o := ⟨hc.1, hc.2, hlt⟩
              rw [eL, zAm, if_pos hcd]
              have e3 : t + zab (R (zlow S)) (R o) + zLf R n f (S - 2 ^ zlow S - 2 ^ o) = t + (zLf R n f (S - 2 ^ zlow S - 2 ^ o) + zab (R (zlow S)) (R o)) := by omega
              rw [e3]
              by_cases h1 : t + zLm (zLf R n f) R S (zlow S) o < b.1
              · rw [if_pos h1, if_pos (by dsimp only; omega), if_pos (by omega)]
              · rw [if_neg h1]
            · rw [if_neg hlt] at eL
              have hcd : ¬ (zlow S < o ∧ zbt S o = true ∧ zLf R n f (S - 2 ^ zlow S - 2 ^ o) + zab (R (zlow S)) (R o) < zLm (zLf R n f) R S (zlow S) o) := fun q => hlt q.2.2
              rw [eL, zAm, if_neg hcd]
              by_cases h1 : t + zLm (zLf R n f) R S (zlow S) o < b.1
              · rw [if_pos h1, if_neg (by dsimp only; omega)]
              · rw [if_neg h1, if_neg (by omega)]
          · have hcd : ¬ (zlow S < o ∧ zbt S o = true ∧ zLf R n f (S - 2 ^ zlow S - 2 ^ o) + zab (R (zlow S)) (R o) < zLm (zLf R n f) R S (zlow S) o) := fun q => hc ⟨q.1, q.2.1⟩
            rw [if_neg hc, hprev, zLm, if_neg hc, zAm, if_neg hcd]
      rw [zpp, if_neg h0, key n (Nat.le_refl n), zLf, if_neg h0, zAf, if_neg h0]
def zaTwos (n : Nat) (R : Nat → Int) (what : Int) : Int :=
  if what = 0 ∨ (10 ≤ what ∧ what ≤ 15) then (if n = 0 then -103 else if what = 0 then zLf R n 6 (2 ^ n - 1) else zAf R n 6 (2 ^ n - 1) (fun _ => -1) (what - 10).toNat) else -102
def zaPatch (n : Nat) (R : Nat → Int) (rain bun what : Int) : Int :=
  if (0 ≤ rain ∧ rain ≤ 20) ∧ (0 ≤ bun ∧ bun ≤ 30) ∧ 0 ≤ what ∧ what ≤ 1 then (if n = 0 then -103 else if what = 0 then (zpo R rain bun n n 0 0 0 (7, 0)).1 else (zpo R rain bun n n 0 0 0 (7, 0)).2) else -102
theorem zpp_full {R : Nat → Int} {n : Nat} (hn : n ≤ 6) (hR : ∀ i, 0 ≤ R i ∧ R i ≤ 20) (B : Nat → Int) : zpp R n 6 (2 ^ n - 1) (fun _ => -1) 0 (121, B) = (zLf R n 6 (2 ^ n - 1), zAf R n 6 (2 ^ n - 1) (fun _ => -1)) := by
  have h1 := (zLf_bd hn hR 6 (2 ^ n - 1)).2 (zfull n hn).1
  rw [zpp_eq hn hR 6 _ _ _ _ (zfull n hn).1 (fun j _ _ => by omega) (by omega) (by dsimp only; omega), if_pos (by dsimp only; omega), Int.zero_add]
