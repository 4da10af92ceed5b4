/-! pure words on a lane: kinds K, reed R, worry V, combed E of the houses below n -/
def zcl (x : Int) : Int := if x < 0 then 0 else if 20 < x then 20 else x
theorem zcl_bd (x : Int) : 0 ≤ zcl x ∧ zcl x ≤ 20 := by unfold zcl; split <;> (try split) <;> omega
def zmo (k v y : Int) : Int := if k = 1 then 0 else if k = 4 then (if y % 2 = 0 then 0 else -1) else if k = 2 then 1 - v / 3 - 2 else if k = 3 then 1 - v / 3 + 1 else 1 - v / 3
theorem zmo_bd {k v y : Int} (hv : 0 ≤ v ∧ v ≤ 1000) : -400 ≤ zmo k v y ∧ zmo k v y ≤ 400 := by
  unfold zmo
  split
  · omega
  · split
    · split <;> omega
    · split
      · omega
      · split <;> omega
theorem zmo_1 {k v y : Int} (h : k = 1) : zmo k v y = 0 := by simp [zmo, h]
theorem zmo_40 {k v y : Int} (h : k = 4) (h2 : y % 2 = 0) : zmo k v y = 0 := by simp [zmo, h, h2]
theorem zmo_41 {k v y : Int} (h : k = 4) (h2 : ¬ y % 2 = 0) : zmo k v y = -1 := by simp [zmo, h, h2]
theorem zmo_2 {k v y : Int} (h : k = 2) : zmo k v y = 1 - v / 3 - 2 := by simp [zmo, h]
theorem zmo_3 {k v y : Int} (h : k = 3) : zmo k v y = 1 - v / 3 + 1 := by simp [zmo, h]
theorem zmo_0 {k v y : Int} (h : k < 1 ∨ 4 < k) : zmo k v y = 1 - v / 3 := by
  simp [zmo, show ¬ k = 1 by omega, show ¬ k = 4 by omega, show ¬ k = 2 by omega, show ¬ k = 3 by omega]
def zgr (k r v e y : Int) : Int := zcl (r + zmo k v y + 3 * e)
theorem zgr_bd (k r v e y : Int) : 0 ≤ zgr k r v e y ∧ zgr k r v e y ≤ 20 := zcl_bd _
/-- houses of ten reed or more -/
def zsh (R : Nat → Int) : Nat → Int
  | 0 => 0
  | h + 1 => zsh R h + (if 10 ≤ R h then 1 else 0)
theorem zsh_bd (R : Nat → Int) : ∀ n, 0 ≤ zsh R n ∧ zsh R n ≤ n := by
  intro n
  induction n with
  | zero => simp [zsh]
  | succ n ih => simp only [zsh]; split <;> omega
def zrb (rain s : Int) : Int := if rain - 2 * s < 0 then 0 else rain - 2 * s
theorem zrb_bd {rain s : Int} (h : 0 ≤ rain ∧ rain ≤ 1000) (h2 : 0 ≤ s ∧ s ≤ 1000) : 0 ≤ zrb rain s ∧ zrb rain s ≤ rain := by unfold zrb; split <;> omega
/-- 1 where a house is wet by so much rain -/
def zwp (R : Nat → Int) (rain : Int) (h : Nat) : Int := if R h < zrb rain (zsh R h) then 1 else 0
theorem zwp_bd (R : Nat → Int) (rain : Int) (h : Nat) : 0 ≤ zwp R rain h ∧ zwp R rain h ≤ 1 := by unfold zwp; split <;> omega
/-- numbers by their bits -/
def zbs (p : Nat → Int) : Nat → Int
  | 0 => 0
  | h + 1 => zbs p h + p h * 2 ^ h
theorem zpow_pos (n : Nat) : (0 : Int) < 2 ^ n := by
  induction n with
  | zero => decide
  | succ n ih => rw [Int.pow_succ]; omega
theorem zbs_bd {p : Nat → Int} (hp : ∀ i, 0 ≤ p i ∧ p i ≤ 1) : ∀ n, 0 ≤ zbs p n ∧ zbs p n < 2 ^ n := by
  intro n
  induction n with
  | zero => simp [zbs]
  | succ n ih =>
    simp only [zbs, Int.pow_succ]
    have h1 := hp n
    have h2 := zpow_pos n
    rcases (show p n = 0 ∨ p n = 1 by omega) with h | h <;> rw [h] <;> omega
theorem zbs_bit {p : Nat → Int} (hp : ∀ i, 0 ≤ p i ∧ p i ≤ 1) : ∀ n h, h < n → zbs p n / 2 ^ h % 2 = p h := by
  intro n
  induction n with
  | zero => intro h hh; omega
  | succ n ih =>
    intro h hh
    simp only [zbs]
    have h2 := zpow_pos h
    by_cases hn : h = n
    · subst hn
      rw [Int.add_mul_ediv_right _ _ (by omega), Int.ediv_eq_zero_of_lt (zbs_bd hp h).1 (zbs_bd hp h).2]
      have := hp h
      omega
    · have hlt : h < n := by omega
      obtain ⟨d, hd⟩ : ∃ d, n = h + 1 + d := ⟨n - h - 1, by omega⟩
      have e : p n * 2 ^ n = p n * 2 ^ d * 2 * 2 ^ h := by
        rw [hd, Int.pow_add, Int.pow_succ, Int.mul_comm (2 ^ h * 2) (2 ^ d), Int.mul_assoc, Int.mul_assoc, Int.mul_comm (2 ^ h) 2]
      rw [e, Int.add_mul_ediv_right _ _ (by omega)]
      have h3 := ih h hlt
      omega
theorem zbs_congr {p q : Nat → Int} : ∀ {n : Nat}, (∀ i, i < n → p i = q i) → zbs p n = zbs q n := by
  intro n
  induction n with
  | zero => intro _; rfl
  | succ n ih => intro h; simp only [zbs]; rw [ih (fun i hi => h i (by omega)), h n (by omega)]
set_option maxRecDepth 100000 in
theorem zshl_n : ∀ h : Nat, h < 12 → zI 1 <<< (zI (h : Int) &&& 31) = zI (2 ^ h) := by decide +kernel
set_option maxRecDepth 100000 in
theorem zor_n : ∀ h : Nat, h < 11 → ∀ b : Nat, b < 2 ^ h → zI (b : Int) ||| zI (2 ^ h) = zI ((b : Int) + 2 ^ h) := by decide +kernel
theorem zor_i {h : Nat} {b : Int} (hh : h < 11) (h0 : 0 ≤ b) (h1 : b < 2 ^ h) : zI b ||| zI (2 ^ h) = zI (b + 2 ^ h) := by
  obtain ⟨m, rfl⟩ := Int.eq_ofNat_of_zero_le h0
  exact zor_n h hh m (by have : ((m : Nat) : Int) < ((2 ^ h : Nat) : Int) := by rw [Int.natCast_pow]; exact h1
                         exact Int.ofNat_lt.mp this)
set_option maxRecDepth 100000 in
theorem zshr_n : ∀ h : Nat, h < 10 → ∀ b : Nat, b < 1024 → zI (b : Int) >>> (zI (h : Int) &&& 31) = zI ((b : Int) / 2 ^ h) := by decide +kernel
theorem zshr_i {h : Nat} {b : Int} (hh : h < 10) (h0 : 0 ≤ b) (h1 : b < 1024) : zI b >>> (zI (h : Int) &&& 31) = zI (b / 2 ^ h) := by
  obtain ⟨m, rfl⟩ := Int.eq_ofNat_of_zero_le h0
  exact zshr_n h hh m (by omega)
set_option maxRecDepth 100000 in
theorem zand1_n : ∀ b : Nat, b < 1024 → zI (b : Int) &&& zI 1 = zI ((b : Int) % 2) := by decide +kernel
theorem zand1_i {b : Int} (h0 : 0 ≤ b) (h1 : b < 1024) : zI b &&& zI 1 = zI (b % 2) := by
  obtain ⟨m, rfl⟩ := Int.eq_ofNat_of_zero_le h0
  exact zand1_n m (by omega)
theorem zdiv_bd {b : Int} (h : Nat) (h0 : 0 ≤ b) (h1 : b < 1024) : 0 ≤ b / 2 ^ h ∧ b / 2 ^ h < 1024 := by
  have h2 := zpow_pos h
  refine ⟨Int.ediv_nonneg h0 (by omega), ?_⟩
  have := Int.ediv_le_self (b := (2 : Int) ^ h) h0
  omega
def zup (f : Nat → Int) (i : Nat) (v : Int) : Nat → Int := fun j => if j = i then v else f j
/-! the cells of a lane -/
def zLa (σ : zMem) (o n : Nat) (y w : Int) (K R V E : Nat → Int) : Prop := σ o 4 = n ∧ σ o 5 = y ∧ σ o 6 = w ∧ ∀ i, i < n → σ (o + 2) i = K i ∧ σ (o + 4) i = R i ∧ σ (o + 6) i = V i ∧ σ (o + 8) i = E i
abbrev zLr (K R V E : Nat → Int) : Prop := ∀ i, (0 ≤ K i ∧ K i ≤ 4) ∧ (0 ≤ R i ∧ R i ≤ 20) ∧ (0 ≤ V i ∧ V i ≤ 9) ∧ 0 ≤ E i ∧ E i ≤ 1
theorem zLa.ext {σ : zMem} {o n : Nat} {y w y' w' : Int} {K R V E K' R' V' E' : Nat → Int} (h : zLa σ o n y w K R V E) (hy : y = y') (hw : w = w') (he : ∀ i, i < n → K i = K' i ∧ R i = R' i ∧ V i = V' i ∧ E i = E' i) : zLa σ o n y' w' K' R' V' E' := by
  subst hy; subst hw
  refine ⟨h.1, h.2.1, h.2.2.1, fun i hi => ?_⟩
  obtain ⟨a, b, c, d⟩ := h.2.2.2 i hi
  obtain ⟨a', b', c', d'⟩ := he i hi
  exact ⟨a.trans a', b.trans b', c.trans c', d.trans d'⟩
theorem zLa.putR {σ : zMem} {o n i : Nat} {y w x : Int} {K R V E : Nat → Int} (h : zLa σ o n y w K R V E) : zLa (zU σ (o + 4) i x) o n y w K (zup R i x) V E := by
  refine ⟨by rw [zU_o (by omega)]; exact h.1, by rw [zU_o (by omega)]; exact h.2.1, by rw [zU_o (by omega)]; exact h.2.2.1, fun j hj => ?_⟩
  obtain ⟨a, b, c, d⟩ := h.2.2.2 j hj
  refine ⟨by rw [zU_o (by omega)]; exact a, ?_, by rw [zU_o (by omega)]; exact c, by rw [zU_o (by omega)]; exact d⟩
  unfold zup
  by_cases e : j = i
  · rw [e, zU_at, if_pos rfl]
  · rw [zU_k e, if_neg e]; exact b
theorem zLa.putV {σ : zMem} {o n i : Nat} {y w x : Int} {K R V E : Nat → Int} (h : zLa σ o n y w K R V E) : zLa (zU σ (o + 6) i x) o n y w K R (zup V i x) E := by
  refine ⟨by rw [zU_o (by omega)]; exact h.1, by rw [zU_o (by omega)]; exact h.2.1, by rw [zU_o (by omega)]; exact h.2.2.1, fun j hj => ?_⟩
  obtain ⟨a, b, c, d⟩ := h.2.2.2 j hj
  refine ⟨by rw [zU_o (by omega)]; exact a, by rw [zU_o (by omega)]; exact b, ?_, by rw [zU_o (by omega)]; exact d⟩
  unfold zup
  by_cases e : j = i
  · rw [e, zU_at, if_pos rfl]
  · rw [zU_k e, if_neg e]; exact c
theorem zLa.putE {σ : zMem} {o n i : Nat} {y w x : Int} {K R V E : Nat → Int} (h : zLa σ o n y w K R V E) : zLa (zU σ (o + 8) i x) o n y w K R V (zup E i x) := by
  refine ⟨by rw [zU_o (by omega)]; exact h.1, by rw [zU_o (by omega)]; exact h.2.1, by rw [zU_o (by omega)]; exact h.2.2.1, fun j hj => ?_⟩
  obtain ⟨a, b, c, d⟩ := h.2.2.2 j hj
  refine ⟨by rw [zU_o (by omega)]; exact a, by rw [zU_o (by omega)]; exact b, by rw [zU_o (by omega)]; exact c, ?_⟩
  unfold zup
  by_cases e : j = i
  · rw [e, zU_at, if_pos rfl]
  · rw [zU_k e, if_neg e]; exact d
theorem zLa.putK {σ : zMem} {o n i : Nat} {y w x : Int} {K R V E : Nat → Int} (h : zLa σ o n y w K R V E) : zLa (zU σ (o + 2) i x) o n y w (zup K i x) R V E := by
  refine ⟨by rw [zU_o (by omega)]; exact h.1, by rw [zU_o (by omega)]; exact h.2.1, by rw [zU_o (by omega)]; exact h.2.2.1, fun j hj => ?_⟩
  obtain ⟨a, b, c, d⟩ := h.2.2.2 j hj
  refine ⟨?_, by rw [zU_o (by omega)]; exact b, by rw [zU_o (by omega)]; exact c, by rw [zU_o (by omega)]; exact d⟩
  unfold zup
  by_cases e : j = i
  · rw [e, zU_at, if_pos rfl]
  · rw [zU_k e, if_neg e]; exact a
theorem zLa.putY {σ : zMem} {o n : Nat} {y w x : Int} {K R V E : Nat → Int} (h : zLa σ o n y w K R V E) : zLa (zU σ o 5 x) o n x w K R V E :=
  ⟨by rw [zU_k (by omega)]; exact h.1, zU_at, by rw [zU_k (by omega)]; exact h.2.2.1, fun j hj => by rw [zU_o (by omega), zU_o (by omega), zU_o (by omega), zU_o (by omega)]; exact h.2.2.2 j hj⟩
theorem zLa.putW {σ : zMem} {o n : Nat} {y w x : Int} {K R V E : Nat → Int} (h : zLa σ o n y w K R V E) : zLa (zU σ o 6 x) o n y x K R V E :=
  ⟨by rw [zU_k (by omega)]; exact h.1, by rw [zU_k (by omega)]; exact h.2.1, zU_at, fun j hj => by rw [zU_o (by omega), zU_o (by omega), zU_o (by omega), zU_o (by omega)]; exact h.2.2.2 j hj⟩
theorem zLa.fr {σ τ : zMem} {o n a b : Nat} {y w : Int} {K R V E : Nat → Int} (h : zLa σ o n y w K R V E) (hf : zFr a b σ τ) (hd : o + 9 ≤ a ∨ b ≤ o) : zLa τ o n y w K R V E :=
  ⟨(hf _ _ (by omega)).trans h.1, (hf _ _ (by omega)).trans h.2.1, (hf _ _ (by omega)).trans h.2.2.1, fun j hj => by
    rw [hf (o + 2) j (by omega), hf (o + 4) j (by omega), hf (o + 6) j (by omega), hf (o + 8) j (by omega)]; exact h.2.2.2 j hj⟩
