theorem c_X6_atv (l : Launch) (G : zGt) (σ : zMem) (r n i : Nat) (p v : Int) (hr : zRow r n) (hp : p = i) (hi : i < n) (hv : σ (r + 1) i = v) : zN l G yX6_at cX6_at 2 (some .int) 0 [.ref (zB G + r), .int (zI p)] σ (zPi (fun x τ => x = v ∧ σ = τ)) := by
  subst hv; exact c_X6_at l G σ r n i p hr hp hi
theorem zpow6 : ∀ i : Nat, i ≤ 6 → (2 : Int) ^ i ≤ 64 := by decide
theorem zpow10 : ∀ i : Nat, i ≤ 10 → (2 : Int) ^ i ≤ 1024 := by decide
theorem zbs_s1 {p : Nat → Int} {i : Nat} (h : p i = 1) : zbs p (i + 1) = zbs p i + 2 ^ i := by simp [zbs, h]
theorem zbs_s0 {p : Nat → Int} {i : Nat} (h : p i = 0) : zbs p (i + 1) = zbs p i := by simp [zbs, h]
theorem zsh_s1 {R : Nat → Int} {i : Nat} (h : 10 ≤ R i) : zsh R (i + 1) = zsh R i + 1 := by simp [zsh, h]
theorem zsh_s0 {R : Nat → Int} {i : Nat} (h : ¬ 10 ≤ R i) : zsh R (i + 1) = zsh R i := by simp [zsh, h]
theorem zwp_1 {R : Nat → Int} {rain : Int} {h : Nat} (q : R h < zrb rain (zsh R h)) : zwp R rain h = 1 := by simp [zwp, q]
theorem zwp_0 {R : Nat → Int} {rain : Int} {h : Nat} (q : ¬ R h < zrb rain (zsh R h)) : zwp R rain h = 0 := by simp [zwp, q]
theorem zsum_s {f : Nat → Int} {i : Nat} {x : Int} (h : f i = x) : zsum f (i + 1) = zsum f i + x := by rw [zsum, h]
theorem zup_s {a b : Nat → Int} {i : Nat} (j : Nat) : zup (fun j => if j < i then a j else b j) i (a i) j = if j < i + 1 then a j else b j := by
  unfold zup
  rcases Nat.lt_trichotomy j i with e | e | e
  · simp [e, show j ≠ i by omega, show j < i + 1 by omega]
  · simp [e]
  · simp [show ¬ j < i by omega, show j ≠ i by omega, show ¬ j < i + 1 by omega]
theorem zif_n {a b : Nat → Int} {i : Nat} (h : a i = b i) (j : Nat) : (if j < i then a j else b j) = if j < i + 1 then a j else b j := by
  rcases Nat.lt_trichotomy j i with e | e | e
  · simp [e, show j < i + 1 by omega]
  · simp [e, h]
  · simp [show ¬ j < i by omega, show ¬ j < i + 1 by omega]
/-- worry behind rain -/
def zrV (R V : Nat → Int) (rain : Int) (j : Nat) : Int := if zwp R rain j = 1 then (if 9 < V j + 1 then 9 else V j + 1) else V j
/-- of so many rains, how many leave a house dry -/
def zdr (R : Nat → Int) (i : Nat) (j : Nat) : Int := zsum (fun r => 1 - zwp R (r : Int) i) j
theorem zdr_bd (R : Nat → Int) (i : Nat) (j : Nat) : 0 ≤ zdr R i j ∧ zdr R i j ≤ j := by
  have h := zsum_bd (f := fun r => 1 - zwp R (r : Int) i) (c := 1) (n := j) (fun r _ => by have := zwp_bd R (r : Int) i; omega)
  unfold zdr
  omega
