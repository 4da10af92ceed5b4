/-! the answers, as functions of the ghosts -/
theorem c_withinD (l : Launch) (G : zGt) (σ : zMem) (a lo hi : Int) (ha : zR a) (hl : zR lo) (hh : zR hi) : zN l G yX9_within cX9_within 3 (some .boolean) 0 [.int (zI a), .int (zI lo), .int (zI hi)] σ (zPi (fun x τ => ((x = 1 ∧ lo ≤ a ∧ a ≤ hi) ∨ (x = 0 ∧ (a < lo ∨ hi < a))) ∧ σ = τ)) := by
  have e : (zPi (fun x τ => ((x = 1 ∧ lo ≤ a ∧ a ≤ hi) ∨ (x = 0 ∧ (a < lo ∨ hi < a))) ∧ σ = τ)) = zPi (fun x τ => x = (if lo ≤ a ∧ a ≤ hi then 1 else 0) ∧ σ = τ) := by
    unfold zPi
    funext v τ
    have k : ∀ x : Int, ((x = 1 ∧ lo ≤ a ∧ a ≤ hi) ∨ (x = 0 ∧ (a < lo ∨ hi < a))) = (x = (if lo ≤ a ∧ a ≤ hi then 1 else 0)) := fun x => propext (by split <;> omega)
    simp only [k]
  rw [e]
  exact c_X9_within l G σ a lo hi ha hl hh
theorem c_hasD (l : Launch) (G : zGt) (σ : zMem) (o n : Nat) (p : Int) (hL : zLane o) (h : σ o 4 = n) (hp : zR p) (hn : n ≤ 6) : zN l G yX1_has cX1_has 2 (some .boolean) 0 [.ref (zB G + o), .int (zI p)] σ (zPi (fun x τ => ((x = 1 ∧ 0 ≤ p ∧ p < n) ∨ (x = 0 ∧ (p < 0 ∨ n ≤ p))) ∧ σ = τ)) := by
  have e : (zPi (fun x τ => ((x = 1 ∧ 0 ≤ p ∧ p < n) ∨ (x = 0 ∧ (p < 0 ∨ n ≤ p))) ∧ σ = τ)) = zPi (fun x τ => x = (if 0 ≤ p ∧ p < n then 1 else 0) ∧ σ = τ) := by
    unfold zPi
    funext v τ
    have k : ∀ x : Int, ((x = 1 ∧ 0 ≤ p ∧ p < n) ∨ (x = 0 ∧ (p < 0 ∨ (n : Int) ≤ p))) = (x = (if 0 ≤ p ∧ p < n then 1 else 0)) := fun x => propext (by split <;> omega)
    simp only [k]
  rw [e]
  exact c_X1_has l G σ o n p hL h hp hn
def zaHouse (n : Nat) (y : Int) (K R V E : Nat → Int) (c : Nat) (A Y Q : Nat → Int) (p what : Int) : Int :=
  if 0 ≤ p ∧ p < n then
    (if what = 0 then K p.toNat else if what = 1 then R p.toNat else if what = 2 then V p.toNat else if what = 3 then E p.toNat else if what = 4 then zgr (K p.toNat) (R p.toNat) (V p.toNat) (E p.toNat) (y + 1)
     else if what = 5 then zwr (K p.toNat) (R p.toNat) (E p.toNat) y A Y Q c (p.toNat : Int) else if what = 6 then zlo (K p.toNat) (R p.toNat) (E p.toNat) y A Y Q c (p.toNat : Int) else -102)
  else -101
def zaAs (n : Nat) (K : Nat → Int) (p k : Int) : Int := if 0 ≤ p ∧ p < n then (if 0 ≤ k ∧ k ≤ 4 then (if k = 0 ∨ K p.toNat = k ∨ (k = 1 ∧ K p.toNat = 4) then p else -1) else -102) else -101
def zaReach (n : Nat) (R : Nat → Int) (p rain : Int) : Int := if 0 ≤ p ∧ p < n then (if 0 ≤ rain ∧ rain ≤ 20 then zrb rain (zsh R p.toNat) else -102) else -101
def zaWet (n : Nat) (R : Nat → Int) (rain : Int) : Int := if 0 ≤ rain ∧ rain ≤ 20 then (if n = 0 then -103 else zbs (zwp R rain) n) else -102
/-- the first year of which W says 1, of f from k on; -1 -/
def zfs (W : Nat → Int) : Nat → Nat → Int
  | 0, _ => -1
  | f + 1, k => if W k = 1 then (k : Int) else zfs W f (k + 1)
/-- the reed behind so many years, if nothing is done -/
def zRy (K R V E : Nat → Int) (y : Int) (k : Nat) : Nat → Int := fun j => zbh (K j) (R j) (V j) (E j) y k
def zEy (E : Nat → Int) (k : Nat) : Nat → Int := fun j => if k = 0 then E j else 0
def zaDry (n : Nat) (y : Int) (K R V E : Nat → Int) (p rain : Int) : Int := if 0 ≤ p ∧ p < n then (if 0 ≤ rain ∧ rain ≤ 20 then zfs (fun k => zwp (zRy K R V E y k) rain p.toNat) 41 0 else -102) else -101
theorem zfs_bd (W : Nat → Int) : ∀ f k, -1 ≤ zfs W f k ∧ zfs W f k ≤ k + f := by
  intro f
  induction f with
  | zero => intro k; simp [zfs]
  | succ f ih => intro k; have := ih (k + 1); unfold zfs; split <;> omega
/-- how likely it stays dry: above and below, in tens -/
def zab1 (K R V E : Nat → Int) (y : Int) (i : Nat) : Nat → Int
  | 0 => 1
  | k + 1 => zab1 K R V E y i k * zdr (zRy K R V E y (k + 1)) i 10
theorem zab1_bd (K R V E : Nat → Int) (y : Int) (i : Nat) : ∀ k, 0 ≤ zab1 K R V E y i k ∧ zab1 K R V E y i k ≤ 10 ^ k := by
  intro k
  induction k with
  | zero => simp [zab1]
  | succ k ih =>
    have h1 := zdr_bd (zRy K R V E y (k + 1)) i 10
    unfold zab1
    refine ⟨Int.mul_nonneg ih.1 h1.1, ?_⟩
    rw [Int.pow_succ]
    exact Int.mul_le_mul ih.2 (by omega) h1.1 (by have : (0 : Int) ≤ 10 ^ k := by omega
                                                  exact this)
theorem zp10 : ∀ k : Nat, k ≤ 7 → (10 : Int) ^ k ≤ 10000000 := by decide
/-- lowest terms -/
def zlt (a b : Int) : Int := a / (Int.gcd a b : Int)
def zaOdds (n : Nat) (y : Int) (K R V E : Nat → Int) (p years what : Int) : Int :=
  if 0 ≤ p ∧ p < n then (if (1 ≤ years ∧ years ≤ 7) ∧ 0 ≤ what ∧ what ≤ 1 then
    (if what = 0 then zlt (zab1 K R V E y p.toNat years.toNat) (10 ^ years.toNat) else zlt (10 ^ years.toNat) (zab1 K R V E y p.toNat years.toNat)) else -102) else -101
def zaYear (n : Nat) (y : Int) : Int := if n = 0 then -103 else if 999 ≤ y then -104 else y + 1
def zaRain (n : Nat) (w : Int) (R : Nat → Int) (rain : Int) : Int := if 0 ≤ rain ∧ rain ≤ 20 then (if n = 0 then -103 else if 9000 ≤ w then -104 else zsum (zwp R rain) n) else -102
def zaCheer (n : Nat) (V : Nat → Int) (p : Int) : Int := if 0 ≤ p ∧ p < n then (if 0 < V p.toNat - 2 then V p.toNat - 2 else 0) else -101
def zaComb (n : Nat) (R E : Nat → Int) (p : Int) : Int := if 0 ≤ p ∧ p < n then (if E p.toNat = 0 ∧ 2 ≤ R p.toNat then R p.toNat - 2 else -103) else -101
def zaMove (n : Nat) (K : Nat → Int) (p k v : Int) : Int := if 0 ≤ p ∧ p < n then (if (0 ≤ k ∧ k ≤ 4) ∧ 0 ≤ v ∧ v ≤ 9 then K p.toNat else -102) else -101
def zaPlan (n : Nat) (y : Int) (K R V E : Nat → Int) (m rain what : Int) : Int :=
  if (1 ≤ m ∧ m ≤ 4) ∧ (0 ≤ rain ∧ rain ≤ 20) ∧ ((0 ≤ what ∧ what ≤ 1) ∨ (10 ≤ what ∧ what ≤ 13)) then
    (if n = 0 then -103 else if what = 0 then (zpb (zpW n K y (R, V, E) m.toNat rain) (zpQ n K y (R, V, E) m.toNat) (n ^ m.toNat)).1
     else if what = 1 then (zpb (zpW n K y (R, V, E) m.toNat rain) (zpQ n K y (R, V, E) m.toNat) (n ^ m.toNat)).2.1
     else if what - 10 < m then (zdg n m.toNat (zpb (zpW n K y (R, V, E) m.toNat rain) (zpQ n K y (R, V, E) m.toNat) (n ^ m.toNat)).2.2 (what - 10).toNat : Int) else -1)
  else -102
/-- one of AGES: wet till now, the seed, the lane -/
abbrev zAg : Type := Int × Int × zSt
def za1 (n : Nat) (K : Nat → Int) (y : Int) (a : zAg) : zAg :=
  (fun (h : Nat) (c d rain : Int) =>
    (fun (s2 : zSt) => (fun (s3 : zSt) => (a.1 + zsum (zwp s3.1 rain) n, zds (zds (zds a.2.1)), (s3.1, zrV s3.1 s3.2.1 rain, s3.2.2)))
        (fun j => zgr (K j) (s2.1 j) (s2.2.1 j) (s2.2.2 j) (y + 1), s2.2.1, fun _ => 0))
      (if c % 2 = 0 then (a.2.2.1, zcv1 a.2.2.2.1 h, a.2.2.2.2) else if a.2.2.2.2 h = 0 ∧ 2 ≤ a.2.2.1 h then (zup a.2.2.1 h (a.2.2.1 h - 2), a.2.2.2.1, zup a.2.2.2.2 h 1) else a.2.2))
  (zds a.2.1 / 65536 % n).toNat (zds (zds a.2.1) / 65536) 0 (zds (zds (zds a.2.1)) / 65536 % 16)
def zag (n : Nat) (K : Nat → Int) (y : Int) (a : zAg) : Nat → zAg
  | 0 => a
  | t + 1 => za1 n K (y + (t : Int)) (zag n K y a t)
def zaAges (n : Nat) (y : Int) (K R V E : Nat → Int) (times seed what : Int) : Int :=
  if (1 ≤ times ∧ times ≤ 60) ∧ 0 ≤ seed ∧ (0 ≤ what ∧ what ≤ 2) then
    (if n = 0 then -103 else if what = 0 then (zag n K y (0, seed, (R, V, E)) times.toNat).1 else if what = 1 then zsum (zag n K y (0, seed, (R, V, E)) times.toNat).2.2.1 n else (zag n K y (0, seed, (R, V, E)) times.toNat).2.1)
  else -102
def zaCount (n : Nat) (y w : Int) (R V E : Nat → Int) (c m : Nat) (lr : Int) (what : Int) : Int :=
  if what = 0 then (n : Int) else if what = 1 then zsum R n else if what = 2 then zsum V n else if what = 3 then zsum E n else if what = 4 then zsh R n else if what = 5 then y else if what = 6 then w else if what = 7 then (c : Int) else if what = 8 then (m : Int) else if what = 9 then lr else -102
theorem zRy_0 {K R V E : Nat → Int} {y : Int} : zRy K R V E y 0 = R := rfl
theorem zRy_s {K R V E : Nat → Int} {y : Int} {k : Nat} : zRy K R V E y (k + 1) = fun j => zgr (K j) (zRy K R V E y k j) (V j) (zEy E k j) (y + (k : Int) + 1) := by
  funext j
  unfold zRy zEy
  rw [zbh, Int.add_assoc]
theorem zRy_r {K R V E : Nat → Int} {y : Int} (h : zLr K R V E) (k : Nat) : zLr K (zRy K R V E y k) V (zEy E k) := fun j => ⟨(h j).1, zbh_bd (h j).2.1 k, (h j).2.2.1, by unfold zEy; split; exact (h j).2.2.2; omega⟩
