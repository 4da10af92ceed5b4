/-! PLAN: all rows of houses by their codes -/
abbrev zSt : Type := (Nat → Int) × (Nat → Int) × (Nat → Int)
/-- house h is cheered, a year goes by (the year behind it is y) -/
def zcv1 (V : Nat → Int) (h : Nat) : Nat → Int := zup V h (if 0 < V h - 2 then V h - 2 else 0)
def zstep (K : Nat → Int) (y : Int) (s : zSt) (h : Nat) : zSt := (fun j => zgr (K j) (s.1 j) (zcv1 s.2.1 h j) (s.2.2 j) y, zcv1 s.2.1 h, fun _ => 0)
/-- the lane behind the first d years of code c -/
def zps (n : Nat) (K : Nat → Int) (y : Int) (s : zSt) : Nat → Nat → zSt
  | 0, _ => s
  | d + 1, c => zstep K (y + (d : Int) + 1) (zps n K y s d (c / n)) (c % n)
def zStr (K : Nat → Int) (s : zSt) : Prop := zLr K s.1 s.2.1 s.2.2
theorem zcv1_bd {V : Nat → Int} (h : ∀ j, 0 ≤ V j ∧ V j ≤ 9) (i : Nat) : ∀ j, 0 ≤ zcv1 V i j ∧ zcv1 V i j ≤ 9 := by
  intro j
  have := h i
  have := h j
  unfold zcv1 zup
  (repeat' split) <;> omega
theorem zstep_r {K : Nat → Int} {y : Int} {s : zSt} (h : zStr K s) (i : Nat) : zStr K (zstep K y s i) := fun j => ⟨(h j).1, zgr_bd _ _ _ _ _, zcv1_bd (fun j => (h j).2.2.1) i j, by simp [zstep]⟩
theorem zps_r {n : Nat} {K : Nat → Int} {y : Int} {s : zSt} (h : zStr K s) : ∀ d c, zStr K (zps n K y s d c) := by
  intro d
  induction d with
  | zero => intro c; exact h
  | succ d ih => intro c; exact zstep_r (ih _) _
/-- the best of the codes below c: how many wet, how much reed, which code -/
def zpb (W Q : Nat → Int) : Nat → Int × Int × Nat
  | 0 => (7, 0, 0)
  | c + 1 => if W c < (zpb W Q c).1 ∨ (W c = (zpb W Q c).1 ∧ (zpb W Q c).2.1 < Q c) then (W c, Q c, c) else zpb W Q c
theorem zpb_bd {W Q : Nat → Int} (hw : ∀ c, 0 ≤ W c ∧ W c ≤ 6) (hq : ∀ c, 0 ≤ Q c ∧ Q c ≤ 120) : ∀ c, (0 ≤ (zpb W Q c).1 ∧ (zpb W Q c).1 ≤ 7) ∧ 0 ≤ (zpb W Q c).2.1 ∧ (zpb W Q c).2.1 ≤ 120 := by
  intro c
  induction c with
  | zero => simp [zpb]
  | succ c ih =>
    have := hw c
    have := hq c
    unfold zpb
    split
    · dsimp only; omega
    · exact ih
theorem zpb_1 {W Q : Nat → Int} {c : Nat} (h : W c < (zpb W Q c).1 ∨ (W c = (zpb W Q c).1 ∧ (zpb W Q c).2.1 < Q c)) : zpb W Q (c + 1) = (W c, Q c, c) := by rw [zpb, if_pos h]
theorem zpb_0 {W Q : Nat → Int} {c : Nat} (h : ¬ (W c < (zpb W Q c).1 ∨ (W c = (zpb W Q c).1 ∧ (zpb W Q c).2.1 < Q c))) : zpb W Q (c + 1) = zpb W Q c := by rw [zpb, if_neg h]
/-- how many wet, how much reed, at the end of code c -/
def zpW (n : Nat) (K : Nat → Int) (y : Int) (s : zSt) (m : Nat) (rain : Int) (c : Nat) : Int := zsum (zwp (zps n K y s m c).1 rain) n
def zpQ (n : Nat) (K : Nat → Int) (y : Int) (s : zSt) (m : Nat) (c : Nat) : Int := zsum (zps n K y s m c).1 n
theorem zpW_bd {n : Nat} (hn : n ≤ 6) (K : Nat → Int) (y : Int) (s : zSt) (m : Nat) (rain : Int) (c : Nat) : 0 ≤ zpW n K y s m rain c ∧ zpW n K y s m rain c ≤ 6 := by
  have := zsum_bd (f := zwp (zps n K y s m c).1 rain) (c := 1) (n := n) (fun i _ => zwp_bd _ _ _)
  unfold zpW; omega
theorem zpQ_bd {n : Nat} (hn : n ≤ 6) {K : Nat → Int} {y : Int} {s : zSt} (h : zStr K s) (m : Nat) (c : Nat) : 0 ≤ zpQ n K y s m c ∧ zpQ n K y s m c ≤ 120 := by
  have := zsum_bd (f := (zps n K y s m c).1) (c := 20) (n := n) (fun i _ => (zps_r h m c i).2.1)
  unfold zpQ; omega
/-- digit k of a code of m digits -/
def zdg (n m c k : Nat) : Nat := c / n ^ (m - 1 - k) % n
theorem zdg_lt {n m c k : Nat} (h : 0 < n) : zdg n m c k < n := Nat.mod_lt _ h
theorem zdg_child {n d c k : Nat} (hk : k < d) : zdg n (d + 1) c k = zdg n d (c / n) k := by
  unfold zdg
  rw [show d + 1 - 1 - k = (d - 1 - k) + 1 by omega, Nat.pow_succ, Nat.div_div_eq_div_mul, Nat.mul_comm]
theorem zdg_last {n d c : Nat} : zdg n (d + 1) c d = c % n := by
  unfold zdg
  rw [show d + 1 - 1 - d = 0 by omega, Nat.pow_zero, Nat.div_one]
theorem zc_div {n c h : Nat} (hh : h < n) : (c * n + h) / n = c := by
  rw [Nat.mul_comm, Nat.mul_add_div (by omega), Nat.div_eq_of_lt hh, Nat.add_zero]
theorem zc_mod {n c h : Nat} (hh : h < n) : (c * n + h) % n = h := by
  rw [Nat.mul_comm, Nat.mul_add_mod, Nat.mod_eq_of_lt hh]
def zPb (σ : zMem) (n m : Nat) (W Q : Nat → Int) (cnt : Nat) : Prop := σ 50 5 = (zpb W Q cnt).1 ∧ σ 50 6 = (zpb W Q cnt).2.1 ∧ (1 ≤ cnt → ∀ k, k < m → σ 100 k = (zdg n m (zpb W Q cnt).2.2 k : Int))
def zCh (σ : zMem) (n d c : Nat) : Prop := ∀ k, k < d → σ 98 k = (zdg n d c k : Int)
/-- what is there as depth d is entered with prefix c -/
def zPp (σ : zMem) (n m : Nat) (y w : Int) (K : Nat → Int) (s : zSt) (rain : Int) (d c : Nat) : Prop :=
  σ 50 3 = m ∧ σ 50 4 = rain ∧ zCh σ n d c ∧ zLa σ (52 + 9 * d) n (y + (d : Int)) w K (zps n K y s d c).1 (zps n K y s d c).2.1 (zps n K y s d c).2.2
/-- .. and what stays -/
def zPk (σ τ : zMem) (d : Nat) : Prop := zFr 50 101 σ τ ∧ (∀ o k, 52 ≤ o → o < 52 + 9 * (d + 1) → τ o k = σ o k) ∧ τ 50 3 = σ 50 3 ∧ τ 50 4 = σ 50 4 ∧ ∀ k, k < d → τ 98 k = σ 98 k
theorem zPk.rf {σ : zMem} {d : Nat} : zPk σ σ d := ⟨zFr.rf, fun _ _ _ _ => rfl, rfl, rfl, fun _ _ => rfl⟩
theorem zPk.tr {σ τ υ : zMem} {d : Nat} (h : zPk σ τ d) (h2 : zPk τ υ d) : zPk σ υ d :=
  ⟨h.1.tr h2.1, fun o k a b => (h2.2.1 o k a b).trans (h.2.1 o k a b), h2.2.2.1.trans h.2.2.1, h2.2.2.2.1.trans h.2.2.2.1, fun k hk => (h2.2.2.2.2 k hk).trans (h.2.2.2.2 k hk)⟩
theorem zPp.keep {σ τ : zMem} {n m : Nat} {y w : Int} {K : Nat → Int} {s : zSt} {rain : Int} {d c : Nat} (h : zPp σ n m y w K s rain d c) (hk : zPk σ τ d) : zPp τ n m y w K s rain d c := by
  obtain ⟨h1, h2, h3, h4⟩ := h
  refine ⟨hk.2.2.1.trans h1, hk.2.2.2.1.trans h2, fun k q => (hk.2.2.2.2 k q).trans (h3 k q), ?_⟩
  have e := hk.2.1
  refine ⟨(e _ _ (by omega) (by omega)).trans h4.1, (e _ _ (by omega) (by omega)).trans h4.2.1, (e _ _ (by omega) (by omega)).trans h4.2.2.1, fun j hj => ?_⟩
  obtain ⟨a, b, c, f⟩ := h4.2.2.2 j hj
  exact ⟨(e _ _ (by omega) (by omega)).trans a, (e _ _ (by omega) (by omega)).trans b, (e _ _ (by omega) (by omega)).trans c, (e _ _ (by omega) (by omega)).trans f⟩
/-- Planner.goOn, j years to go -/
def zGo (l : Launch) (G : zGt) (j : Nat) : Prop := ∀ (σ : zMem) (n m : Nat) (y w : Int) (K : Nat → Int) (s : zSt) (rain : Int) (d c : Nat), d + j = m → m ≤ 4 → 1 ≤ n → n ≤ 6 → zStr K s → (0 ≤ y ∧ y ≤ 99000) → (0 ≤ rain ∧ rain ≤ 1000) → zPp σ n m y w K s rain d c → zPb σ n m (zpW n K y s m rain) (zpQ n K y s m) (c * n ^ j) →
  zN l G yX5_goOn cX5_goOn 4 none (9 + 2 * j) [.ref (zB G + 50), .ref (zB G + (52 + 9 * d)), .int (zI (d : Int))] σ (zPv (fun τ => zPk σ τ d ∧ zPb τ n m (zpW n K y s m rain) (zpQ n K y s m) ((c + 1) * n ^ j)))
theorem zPlane : ∀ d : Nat, d < 5 → zLane (52 + 9 * d) := by decide
