/-! pure words on the page, what is seen, draws -/
def zkd (c : Int) : Int := if c = 104 then 0 else if c = 119 then 1 else if c = 111 then 2 else if c = 121 then 3 else if c = 116 then 4 else -1
theorem zkd_bd (c : Int) : -1 ≤ zkd c ∧ zkd c ≤ 4 := by
  unfold zkd
  (repeat' split) <;> omega
/-- 1 where such a letter may stand at a place -/
def zms (i : Nat) (c : Int) : Int := if 23 ≤ i then 0 else if i % 4 = 0 then (if zkd c = -1 then 0 else 1) else if i % 4 = 3 then (if c = 44 then 1 else 0) else (if 48 ≤ c ∧ c ≤ 57 then 1 else 0)
theorem zms_bd (i : Nat) (c : Int) : zms i c = 0 ∨ zms i c = 1 := by
  unfold zms
  (repeat' split) <;> simp
/-- the first place from i on, of f more, at which the letter may not stand -/
def zfx (P : Nat → Int) : Nat → Nat → Nat
  | 0, i => i
  | f + 1, i => if zms i (P i) = 1 then zfx P f (i + 1) else i
theorem zfx_bd (P : Nat → Int) : ∀ f i, i ≤ zfx P f i ∧ zfx P f i ≤ i + f := by
  intro f
  induction f with
  | zero => intro i; simp [zfx]
  | succ f ih =>
    intro i
    unfold zfx
    split
    · have := ih (i + 1); omega
    · omega
def zff (P : Nat → Int) (m : Nat) : Nat := zfx P m 0
theorem zff_le (P : Nat → Int) (m : Nat) : zff P m ≤ m := by have := zfx_bd P m 0; unfold zff; omega
theorem zfx_1 {P : Nat → Int} {m i : Nat} (h : i < m) (h1 : zms i (P i) = 1) : zfx P (m - (i + 1)) (i + 1) = zfx P (m - i) i := by
  rw [show m - i = (m - (i + 1)) + 1 by omega, zfx, if_pos h1]
theorem zfx_0 {P : Nat → Int} {m i : Nat} (h : i < m) (h1 : ¬ zms i (P i) = 1) : zfx P (m - i) i = i := by
  rw [show m - i = (m - (i + 1)) + 1 by omega, zfx, if_neg h1]
def zPg (σ : zMem) (m : Nat) (P : Nat → Int) : Prop := σ 1 1 = m ∧ ∀ i, i < m → σ 3 i = P i
abbrev zPr0 (P : Nat → Int) : Prop := ∀ i, 32 ≤ P i ∧ P i ≤ 126
/-! seen -/
abbrev zSits (o : Nat) : Prop := zk o = 8 ∧ zRow (o + 1) 6 ∧ zRow (o + 3) 6 ∧ zRow (o + 5) 6 ∧ o + 6 < 129
def zSgt (σ : zMem) (o m : Nat) (A Y Q : Nat → Int) : Prop := σ o 3 = m ∧ ∀ i, i < m → σ (o + 2) i = A i ∧ σ (o + 4) i = Y i ∧ σ (o + 6) i = Q i
abbrev zSr (A Y Q : Nat → Int) : Prop := ∀ i, (0 ≤ A i ∧ A i ≤ 5) ∧ (1 ≤ Y i ∧ Y i ≤ 9) ∧ 0 ≤ Q i ∧ Q i ≤ 20
theorem zSgt.fr {σ τ : zMem} {o m a b : Nat} {A Y Q : Nat → Int} (h : zSgt σ o m A Y Q) (hf : zFr a b σ τ) (hd : o + 7 ≤ a ∨ b ≤ o) : zSgt τ o m A Y Q :=
  ⟨(hf _ _ (by omega)).trans h.1, fun j hj => by rw [hf (o + 2) j (by omega), hf (o + 4) j (by omega), hf (o + 6) j (by omega)]; exact h.2 j hj⟩
/-- reed behind so many years with such a worry -/
def zbh (k r v e y : Int) : Nat → Int
  | 0 => r
  | m + 1 => zgr k (zbh k r v e y m) v (if m = 0 then e else 0) (y + ((m : Int) + 1))
theorem zbh_bd {k r v e y : Int} (h : 0 ≤ r ∧ r ≤ 20) : ∀ m, 0 ≤ zbh k r v e y m ∧ zbh k r v e y m ≤ 20 := by
  intro m
  cases m with
  | zero => exact h
  | succ m => exact zgr_bd _ _ _ _ _
/-- 1 where all that is seen of house h is so -/
def zfi (A Y Q : Nat → Int) (h : Int) (f : Nat → Int) : Nat → Int
  | 0 => 1
  | s + 1 => if zfi A Y Q h f s = 1 ∧ (A s = h → Q s = f (Y s).toNat) then 1 else 0
theorem zfi_bd (A Y Q : Nat → Int) (h : Int) (f : Nat → Int) (s : Nat) : 0 ≤ zfi A Y Q h f s ∧ zfi A Y Q h f s ≤ 1 := by
  cases s with
  | zero => simp [zfi]
  | succ s => unfold zfi; split <;> omega
theorem zfi_0 {A Y Q : Nat → Int} {h : Int} {f : Nat → Int} : ∀ {m s : Nat}, s ≤ m → zfi A Y Q h f s = 0 → zfi A Y Q h f m = 0 := by
  intro m s hs h0
  obtain ⟨d, rfl⟩ : ∃ d, m = s + d := ⟨m - s, by omega⟩
  clear hs
  induction d with
  | zero => exact h0
  | succ d ih => rw [show s + (d + 1) = (s + d) + 1 by omega, zfi, if_neg (by rw [ih]; omega)]
theorem zfi_s0 {A Y Q : Nat → Int} {h : Int} {f : Nat → Int} {s : Nat} (h1 : A s = h) (h2 : ¬ Q s = f (Y s).toNat) : zfi A Y Q h f (s + 1) = 0 := by
  rw [zfi, if_neg (fun q => h2 (q.2 h1))]
theorem zfi_s1 {A Y Q : Nat → Int} {h : Int} {f : Nat → Int} {s : Nat} (h0 : zfi A Y Q h f s = 1) (h1 : A s = h → Q s = f (Y s).toNat) : zfi A Y Q h f (s + 1) = 1 := by
  rw [zfi, if_pos ⟨h0, h1⟩]
/-- how many of the first j that are in p have this value of f -/
def zal (p f : Nat → Int) : Nat → Int → Int
  | 0, _ => 0
  | j + 1, r => zal p f j r + (if p j = 1 ∧ f j = r then 1 else 0)
theorem zal_bd (p f : Nat → Int) : ∀ j r, 0 ≤ zal p f j r ∧ zal p f j r ≤ j := by
  intro j
  induction j with
  | zero => intro r; simp [zal]
  | succ j ih => intro r; have := ih r; unfold zal; split <;> omega
/-- .. the most of any -/
def zmx (p f : Nat → Int) : Nat → Int
  | 0 => 0
  | j + 1 => if p j = 1 then (if zmx p f j < zal p f (j + 1) (f j) then zal p f (j + 1) (f j) else zmx p f j) else zmx p f j
theorem zmx_bd (p f : Nat → Int) : ∀ j, 0 ≤ zmx p f j ∧ zmx p f j ≤ j := by
  intro j
  induction j with
  | zero => simp [zmx]
  | succ j ih =>
    have := zal_bd p f (j + 1) (f j)
    unfold zmx
    (repeat' split) <;> omega
/-- the least of w 1 .. w t, below 11, and where it was first -/
def zll (w : Nat → Int) : Nat → Int
  | 0 => 11
  | t + 1 => if w (t + 1) < zll w t then w (t + 1) else zll w t
def zlw (w : Nat → Int) : Nat → Int
  | 0 => -1
  | t + 1 => if w (t + 1) < zll w t then (t : Int) + 1 else zlw w t
theorem zlw_bd (w : Nat → Int) : ∀ t, -1 ≤ zlw w t ∧ zlw w t ≤ t := by
  intro t
  induction t with
  | zero => simp [zlw]
  | succ t ih => unfold zlw; split <;> omega
theorem zll_bd {w : Nat → Int} (hw : ∀ t, 0 ≤ w t ∧ w t ≤ 10) : ∀ t, 0 ≤ zll w t ∧ zll w t ≤ 11 := by
  intro t
  induction t with
  | zero => simp [zll]
  | succ t ih => have := hw (t + 1); unfold zll; split <;> omega
/-- worries that a house can have, as bits, and when to look -/
def zwf (k r e y : Int) (A Y Q : Nat → Int) (m : Nat) (h : Int) (v : Nat) : Int := zfi A Y Q h (zbh k r (v : Int) e y) m
def zwr (k r e y : Int) (A Y Q : Nat → Int) (m : Nat) (h : Int) : Int := zbs (zwf k r e y A Y Q m h) 10
def zwo (k r e y : Int) (A Y Q : Nat → Int) (m : Nat) (h : Int) (t : Nat) : Int := zmx (zwf k r e y A Y Q m h) (fun v => zbh k r (v : Int) e y t) 10
def zlo (k r e y : Int) (A Y Q : Nat → Int) (m : Nat) (h : Int) : Int := if zwr k r e y A Y Q m h = 0 then -1 else zlw (zwo k r e y A Y Q m h) 9
theorem zwo_bd (k r e y : Int) (A Y Q : Nat → Int) (m : Nat) (h : Int) (t : Nat) : 0 ≤ zwo k r e y A Y Q m h t ∧ zwo k r e y A Y Q m h t ≤ 10 := zmx_bd _ _ 10
/-! draws -/
def zds (s : Int) : Int := (1103515245 * s + 12345) % 2147483648
theorem zds_bd (s : Int) : 0 ≤ zds s ∧ zds s < 2147483648 := by unfold zds; omega
/-! bits of bit sums -/
theorem zbs_hi {p : Nat → Int} (hp : ∀ i, 0 ≤ p i ∧ p i ≤ 1) {n k : Nat} (h : n ≤ k) : zbs p n / 2 ^ k % 2 = 0 := by
  have h1 := zbs_bd hp n
  obtain ⟨d, rfl⟩ : ∃ d, k = n + d := ⟨k - n, by omega⟩
  have h2 : (2 : Int) ^ n ≤ 2 ^ (n + d) := by
    rw [Int.pow_add]
    have := zpow_pos n
    have := zpow_pos d
    have h5 : (2 : Int) ^ n * 1 ≤ 2 ^ n * 2 ^ d := Int.mul_le_mul_of_nonneg_left (by omega) (by omega)
    rw [Int.mul_one] at h5
    exact h5
  rw [Int.ediv_eq_zero_of_lt h1.1 (by omega)]
  rfl
theorem zsum_bits {p : Nat → Int} (hp : ∀ i, 0 ≤ p i ∧ p i ≤ 1) {n : Nat} : ∀ {m : Nat}, zsum (fun k => zbs p n / 2 ^ k % 2) m = zsum p (if m < n then m else n) := by
  intro m
  induction m with
  | zero => cases n <;> rfl
  | succ m ih =>
    rw [zsum, ih]
    by_cases h : m < n
    · rw [zbs_bit hp n m h, if_pos h]
      by_cases h2 : m + 1 < n
      · rw [if_pos h2]; rfl
      · rw [if_neg h2, show n = m + 1 by omega]; rfl
    · rw [zbs_hi hp (by omega), if_neg h, if_neg (by omega), Int.add_zero]
