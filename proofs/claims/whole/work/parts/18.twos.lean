/-! TWOS: sets of free houses as bits; PATCH -/
def zbt (S h : Nat) : Bool := S / 2 ^ h % 2 == 1
def zlow (S : Nat) : Nat := if zbt S 0 then 0 else if zbt S 1 then 1 else if zbt S 2 then 2 else if zbt S 3 then 3 else if zbt S 4 then 4 else if zbt S 5 then 5 else 6
def zodd (S : Nat) : Bool := (S % 2 + S / 2 % 2 + S / 4 % 2 + S / 8 % 2 + S / 16 % 2 + S / 32 % 2) % 2 == 1
set_option maxRecDepth 100000 in
theorem zbt_lt : ∀ n, n ≤ 6 → ∀ S, S < 2 ^ n → ∀ h, h < 6 → zbt S h = true → h < n := by decide +kernel
set_option maxRecDepth 100000 in
theorem zlow_of : ∀ S, S < 64 → ∀ h, h < 6 → zbt S h = true → (∀ j, j < h → zbt S j = false) → zlow S = h := by decide +kernel
set_option maxRecDepth 100000 in
theorem zbt_0 : ∀ n, n ≤ 6 → ∀ S, S < 2 ^ n → (∀ j, j < n → zbt S j = false) → S = 0 := by decide +kernel
set_option maxRecDepth 100000 in
theorem zlow_bt : ∀ S, S < 64 → S ≠ 0 → zlow S < 6 ∧ zbt S (zlow S) = true ∧ ∀ j, j < zlow S → zbt S j = false := by decide +kernel
set_option maxRecDepth 100000 in
theorem zrm_bt : ∀ S, S < 64 → ∀ x, x < 6 → zbt S x = true → 2 ^ x ≤ S ∧ (∀ h, h < 6 → zbt (S - 2 ^ x) h = (if h = x then false else zbt S h)) ∧ zodd (S - 2 ^ x) = !zodd S := by decide +kernel
theorem zbt_z (h : Nat) : zbt 0 h = false := by simp [zbt]
abbrev zBs : Type := Int × (Nat → Int)
def zwg (t : Int) (A : Nat → Int) (b : zBs) : zBs := if t < b.1 then (t, A) else b
def zab (a b : Int) : Int := if 0 ≤ a - b then a - b else 0 - (a - b)
/-- the ways with house x and a later one of S, those below o gone through -/
def zpi (g : Nat → (Nat → Int) → Int → zBs → zBs) (R : Nat → Int) (S x : Nat) (A : Nat → Int) (t : Int) : Nat → zBs → zBs
  | 0, b => b
  | o + 1, b => if x < o ∧ zbt S o = true then g (S - 2 ^ x - 2 ^ o) (zup (zup A x (o : Int)) o (x : Int)) (t + zab (R x) (R o)) (zpi g R S x A t o b) else zpi g R S x A t o b
/-- Pairer.pairFrom -/
def zpp (R : Nat → Int) (n : Nat) : Nat → Nat → (Nat → Int) → Int → zBs → zBs
  | 0, _, A, t, b => zwg t A b
  | f + 1, S, A, t, b => if S = 0 then zwg t A b else zpi (zpp R n f) R S (zlow S) A t n (if zodd S then zpp R n f (S - 2 ^ zlow S) (zup A (zlow S) (-1)) t b else b)
theorem zpi_le {g : Nat → (Nat → Int) → Int → zBs → zBs} {R : Nat → Int} {S x : Nat} {A : Nat → Int} {t : Int} {b : zBs} : ∀ {o : Nat}, o ≤ x + 1 → zpi g R S x A t o b = b := by
  intro o
  induction o with
  | zero => intro _; rfl
  | succ o ih => intro h; rw [zpi, if_neg (by omega), ih (by omega)]
/-- the row of who goes with whom, FREE where S has a bit -/
def zWi (σ : zMem) (S : Nat) (A : Nat → Int) : Prop := ∀ h, h < 6 → σ 103 h = if zbt S h = true then -2 else A h
def zBt (σ : zMem) (b : zBs) : Prop := σ 101 2 = b.1 ∧ ∀ h, h < 6 → σ 105 h = b.2 h
/-- Pairer.pairFrom, f houses to go at most -/
def zPair (l : Launch) (G : zGt) (f : Nat) : Prop := ∀ (σ : zMem) (o n : Nat) (y w : Int) (K R V E : Nat → Int) (S fr : Nat) (A : Nat → Int) (t mb : Int) (b : zBs), zLane o → zLa σ o n y w K R V E → zLr K R V E → n ≤ 6 → o + 9 ≤ 101 → S < 2 ^ n → fr ≤ n → n ≤ fr + f → (∀ j, j < fr → zbt S j = false) → (0 ≤ t ∧ t + 20 * f ≤ 200) → f ≤ 6 → (∀ h, h < 6 → -1 ≤ A h ∧ A h ≤ 5) → (mb = if zodd S then 1 else 0) → zWi σ S A → zBt σ b →
  zN l G yX3_pairFrom cX3_pairFrom 7 none (2 + 2 * f) [.ref (zB G + 101), .ref (zB G + o), .int (zI (fr : Int)), .int (zI t), .int (zI mb)] σ (zPv (fun τ => zBt τ (zpp R n f S A t b) ∧ (∀ h, h < 6 → τ 103 h = σ 103 h) ∧ zFr 101 106 σ τ))
theorem zWi.keep {σ τ : zMem} {S : Nat} {A : Nat → Int} (h : zWi σ S A) (hk : ∀ h, h < 6 → τ 103 h = σ 103 h) : zWi τ S A := fun i hi => (hk i hi).trans (h i hi)
/-! PATCH -/
abbrev zPp2 : Type := Int × Int
def zpg (wet used : Int) (b : zPp2) : zPp2 := if wet < b.1 ∨ (wet = b.1 ∧ used < b.2) then (wet, used) else b
/-- a house is raised up to x, by the road g behind it -/
def zra (g : Int → Int → Int → zPp2 → zPp2) (bun r reach s u w x : Int) (b : zPp2) : zPp2 :=
  if bun < u + x - r then b else g (if 10 ≤ x then s + 1 else s) (u + x - r) (if x < reach then w + 1 else w) b
/-- Patcher.putOnFrom with k houses to go of n: shelters s, used u, wet w -/
def zpo (R : Nat → Int) (rain bun : Int) (n : Nat) : Nat → Int → Int → Int → zPp2 → zPp2
  | 0, _, u, w, b => zpg w u b
  | k + 1, s, u, w, b =>
    (fun b2 => if R (n - (k + 1)) < 10 then zra (zpo R rain bun n k) bun (R (n - (k + 1))) (zrb rain s) s u w 10 b2 else b2)
    ((fun b1 => if R (n - (k + 1)) < zrb rain s then zra (zpo R rain bun n k) bun (R (n - (k + 1))) (zrb rain s) s u w (zrb rain s) b1 else b1)
     (zra (zpo R rain bun n k) bun (R (n - (k + 1))) (zrb rain s) s u w (R (n - (k + 1))) b))
def zPt (σ : zMem) (b : zPp2) : Prop := σ 106 2 = b.1 ∧ σ 106 3 = b.2
/-- Patcher.putOnFrom -/
def zPut (l : Launch) (G : zGt) (k : Nat) : Prop := ∀ (σ : zMem) (o n : Nat) (y w : Int) (K R V E : Nat → Int) (h : Nat) (rain bun s u wt : Int) (b : zPp2), zLane o → zLa σ o n y w K R V E → zLr K R V E → n ≤ 6 → o + 9 ≤ 106 → h + k = n → σ 106 0 = rain → σ 106 1 = bun → (0 ≤ rain ∧ rain ≤ 20) → (0 ≤ bun ∧ bun ≤ 30) → (0 ≤ s ∧ s ≤ h) → (0 ≤ u ∧ u ≤ bun) → (0 ≤ wt ∧ wt ≤ h) → zPt σ b →
  zN l G yX4_putOnFrom cX4_putOnFrom 8 none (2 + 2 * k) [.ref (zB G + 106), .ref (zB G + o), .int (zI (h : Int)), .int (zI s), .int (zI u), .int (zI wt)] σ (zPv (fun τ => zPt τ (zpo R rain bun n k s u wt b) ∧ ∀ a c, (a ≠ 106 ∨ (c ≠ 2 ∧ c ≠ 3)) → τ a c = σ a c))
