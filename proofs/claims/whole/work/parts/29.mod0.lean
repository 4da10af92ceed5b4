/-! the model: its cells against the same ghosts; combed is a number by bits -/
def zMl (σ : zMem) (n : Nat) (y : Int) (K R V E : Nat → Int) : Prop := σ 108 1 = n ∧ σ 108 6 = y ∧ σ 108 5 = zbs E n ∧ ∀ i, i < n → σ 109 i = K i ∧ σ 110 i = R i ∧ σ 111 i = V i
/-- what stays where the model looks ahead or goes on -/
def zKp (σ τ : zMem) : Prop := ∀ o k, (o < 108 ∨ (o = 108 ∧ (k < 5 ∨ (7 ≤ k ∧ k ≤ 13) ∨ 29 ≤ k)) ∨ o = 109 ∨ (112 ≤ o ∧ o ≤ 115) ∨ 123 ≤ o) → τ o k = σ o k
theorem zKp.rf {σ : zMem} : zKp σ σ := fun _ _ _ => rfl
theorem zKp.tr {σ τ υ : zMem} (h : zKp σ τ) (h2 : zKp τ υ) : zKp σ υ := fun o k hk => (h2 o k hk).trans (h o k hk)
theorem zKp.put {σ τ : zMem} (h : zKp σ τ) {o k : Nat} {v : Int} (hk : ¬ (o < 108 ∨ (o = 108 ∧ (k < 5 ∨ (7 ≤ k ∧ k ≤ 13) ∨ 29 ≤ k)) ∨ o = 109 ∨ (112 ≤ o ∧ o ≤ 115) ∨ 123 ≤ o)) : zKp σ (zU τ o k v) := fun a b hab => by
  unfold zU
  rw [if_neg (by omega)]
  exact h a b hab
theorem zMl.ext {σ : zMem} {n : Nat} {y y' : Int} {K R V E K' R' V' E' : Nat → Int} (h : zMl σ n y K R V E) (hy : y = y') (he : ∀ i, i < n → K i = K' i ∧ R i = R' i ∧ V i = V' i ∧ E i = E' i) : zMl σ n y' K' R' V' E' := by
  subst hy
  refine ⟨h.1, h.2.1, h.2.2.1.trans (zbs_congr fun i hi => (he i hi).2.2.2), fun i hi => ?_⟩
  obtain ⟨a, b, c⟩ := h.2.2.2 i hi
  obtain ⟨a', b', c', d'⟩ := he i hi
  exact ⟨a.trans a', b.trans b', c.trans c'⟩
/-- the cells of the model's lane stay -/
theorem zMl.fr {σ τ : zMem} {n : Nat} {y : Int} {K R V E : Nat → Int} (h : zMl σ n y K R V E) (hf : ∀ o k, (o = 108 ∧ (k = 1 ∨ k = 5 ∨ k = 6)) ∨ o = 109 ∨ o = 110 ∨ o = 111 → τ o k = σ o k) : zMl τ n y K R V E :=
  ⟨(hf _ _ (by omega)).trans h.1, (hf _ _ (by omega)).trans h.2.1, (hf _ _ (by omega)).trans h.2.2.1, fun i hi => by
    rw [hf 109 i (by omega), hf 110 i (by omega), hf 111 i (by omega)]; exact h.2.2.2 i hi⟩
theorem zMl.putR {σ : zMem} {n i : Nat} {y x : Int} {K R V E : Nat → Int} (h : zMl σ n y K R V E) : zMl (zU σ 110 i x) n y K (zup R i x) V E := by
  refine ⟨by rw [zU_o (by omega)]; exact h.1, by rw [zU_o (by omega)]; exact h.2.1, by rw [zU_o (by omega)]; exact h.2.2.1, fun j hj => ?_⟩
  obtain ⟨a, b, c⟩ := h.2.2.2 j hj
  refine ⟨by rw [zU_o (by omega)]; exact a, ?_, by rw [zU_o (by omega)]; exact c⟩
  unfold zup
  by_cases e : j = i
  · rw [e, zU_at, if_pos rfl]
  · rw [zU_k e, if_neg e]; exact b
theorem zMl.putV {σ : zMem} {n i : Nat} {y x : Int} {K R V E : Nat → Int} (h : zMl σ n y K R V E) : zMl (zU σ 111 i x) n y K R (zup V i x) E := by
  refine ⟨by rw [zU_o (by omega)]; exact h.1, by rw [zU_o (by omega)]; exact h.2.1, by rw [zU_o (by omega)]; exact h.2.2.1, fun j hj => ?_⟩
  obtain ⟨a, b, c⟩ := h.2.2.2 j hj
  refine ⟨by rw [zU_o (by omega)]; exact a, by rw [zU_o (by omega)]; exact b, ?_⟩
  unfold zup
  by_cases e : j = i
  · rw [e, zU_at, if_pos rfl]
  · rw [zU_k e, if_neg e]; exact c
theorem zMl.putK {σ : zMem} {n i : Nat} {y x : Int} {K R V E : Nat → Int} (h : zMl σ n y K R V E) : zMl (zU σ 109 i x) n y (zup K i x) R V E := by
  refine ⟨by rw [zU_o (by omega)]; exact h.1, by rw [zU_o (by omega)]; exact h.2.1, by rw [zU_o (by omega)]; exact h.2.2.1, fun j hj => ?_⟩
  obtain ⟨a, b, c⟩ := h.2.2.2 j hj
  refine ⟨?_, by rw [zU_o (by omega)]; exact b, by rw [zU_o (by omega)]; exact c⟩
  unfold zup
  by_cases e : j = i
  · rw [e, zU_at, if_pos rfl]
  · rw [zU_k e, if_neg e]; exact a
theorem zMl.putC {σ : zMem} {n : Nat} {y x : Int} {K R V E E' : Nat → Int} (h : zMl σ n y K R V E) (hx : x = zbs E' n) : zMl (zU σ 108 5 x) n y K R V E' :=
  ⟨by rw [zU_k (by omega)]; exact h.1, by rw [zU_k (by omega)]; exact h.2.1, by rw [zU_at]; exact hx, fun j hj => by rw [zU_o (by omega), zU_o (by omega), zU_o (by omega)]; exact h.2.2.2 j hj⟩
theorem zMl.putY {σ : zMem} {n : Nat} {y x : Int} {K R V E : Nat → Int} (h : zMl σ n y K R V E) : zMl (zU σ 108 6 x) n x K R V E :=
  ⟨by rw [zU_k (by omega)]; exact h.1, zU_at, by rw [zU_k (by omega)]; exact h.2.2.1, fun j hj => by rw [zU_o (by omega), zU_o (by omega), zU_o (by omega)]; exact h.2.2.2 j hj⟩
theorem zMl.put {σ : zMem} {n o k : Nat} {y x : Int} {K R V E : Nat → Int} (h : zMl σ n y K R V E) (hk : ¬ ((o = 108 ∧ (k = 1 ∨ k = 5 ∨ k = 6)) ∨ o = 109 ∨ o = 110 ∨ o = 111)) : zMl (zU σ o k x) n y K R V E := h.fr fun a b hab => by
  unfold zU; rw [if_neg (by omega)]
theorem zbs_0 {p : Nat → Int} : ∀ n, (∀ i, i < n → p i = 0) → zbs p n = 0 := by
  intro n
  induction n with
  | zero => intro _; rfl
  | succ n ih => intro h; rw [zbs_s0 (h n (by omega)), ih (fun i hi => h i (by omega))]
theorem zmo_4 {k v y : Int} (h : k = 4) : zmo k v y = -(y % 2) := by
  by_cases q : y % 2 = 0
  · rw [zmo_40 h q]; omega
  · rw [zmo_41 h q]; omega
theorem zsum_b10 {p : Nat → Int} (hp : ∀ i, 0 ≤ p i ∧ p i ≤ 1) {n : Nat} (h : n ≤ 10) : zsum (fun k => zbs p n / 2 ^ k % 2) 10 = zsum p n := by
  rw [zsum_bits hp]
  congr 1
  split <;> omega
theorem zI_or0 {x : Int} : zI x ||| zI 0 = zI x := by rw [zI_0]; exact Int32.or_zero
set_option maxRecDepth 100000 in
theorem zor_dn : ∀ h : Nat, h < 6 → ∀ b : Nat, b < 64 → b / 2 ^ h % 2 = 0 → zI (b : Int) ||| zI (2 ^ h) = zI ((b : Int) + 2 ^ h) := by decide +kernel
theorem zor_d {h : Nat} {b : Int} (hh : h < 6) (h0 : 0 ≤ b) (h1 : b < 64) (hb : b / 2 ^ h % 2 = 0) : zI b ||| zI (2 ^ h) = zI (b + 2 ^ h) := by
  obtain ⟨m, rfl⟩ := Int.eq_ofNat_of_zero_le h0
  refine zor_dn h hh m (by omega) ?_
  have e : (m : Int) / 2 ^ h = ((m / 2 ^ h : Nat) : Int) := by rw [Int.natCast_ediv, Int.natCast_pow]; rfl
  rw [e] at hb
  omega
theorem zbs_up {p : Nat → Int} {h : Nat} : ∀ n, h < n → p h = 0 → zbs (zup p h 1) n = zbs p n + 2 ^ h := by
  intro n
  induction n with
  | zero => intro h; omega
  | succ n ih =>
    intro hn h0
    simp only [zbs]
    by_cases e : h = n
    · subst e
      have e1 : zbs (zup p h 1) h = zbs p h := zbs_congr fun i hi => by unfold zup; rw [if_neg (by omega)]
      rw [e1, h0, show zup p h 1 h = 1 by simp [zup]]
      omega
    · rw [ih (by omega) h0, show zup p h 1 n = p n by unfold zup; rw [if_neg (by omega)]]
      omega
/-! the page, read by the model -/
def zMg (σ : zMem) (m : Nat) (P : Nat → Int) : Prop := σ 108 12 = m ∧ ∀ i, i < m → σ 115 i = P i
def zat (P : Nat → Int) (m k : Nat) : Int := if k < m then P k else 0
theorem zat_bd {P : Nat → Int} (h : zPr0 P) (m k : Nat) : 0 ≤ zat P m k ∧ zat P m k ≤ 126 := by
  have := h k
  unfold zat
  split <;> omega
theorem zms_z (i : Nat) : zms i 0 = 0 := by
  unfold zms
  (repeat' split) <;> first | rfl | omega | (exfalso; revert ‹¬ zkd 0 = -1›; decide)
theorem zst1 {P : Nat → Int} {m i F : Nat} (h : zms i (zat P m i) = 1) (hf : zfx P (m - i) i = F) : i < m ∧ zfx P (m - (i + 1)) (i + 1) = F := by
  by_cases e : i < m
  · rw [zat, if_pos e] at h
    exact ⟨e, by rw [zfx_1 e h]; exact hf⟩
  · rw [zat, if_neg e, zms_z] at h; omega
theorem zst0 {P : Nat → Int} {m i F : Nat} (hi : i ≤ m) (h : ¬ zms i (zat P m i) = 1) (hf : zfx P (m - i) i = F) : F = i := by
  by_cases e : i < m
  · rw [zat, if_pos e] at h
    rw [← hf, zfx_0 e h]
  · rw [← hf, show m - i = 0 by omega]; rfl
theorem zms_0p {i : Nat} {c : Int} (h1 : i < 23) (h2 : i % 4 = 0) : (zms i c = 1) = (zkd c ≠ -1) := by
  unfold zms
  rw [if_neg (by omega), if_pos h2]
  by_cases e : zkd c = -1 <;> simp [e]
theorem zms_3p {i : Nat} {c : Int} (h1 : i < 23) (h2 : i % 4 = 3) : (zms i c = 1) = (c = 44) := by
  unfold zms
  rw [if_neg (by omega), if_neg (by omega), if_pos h2]
  by_cases e : c = 44 <;> simp [e]
theorem zms_12p {i : Nat} {c : Int} (h1 : i < 23) (h2 : i % 4 = 1 ∨ i % 4 = 2) : (zms i c = 1) = (48 ≤ c ∧ c ≤ 57) := by
  unfold zms
  rw [if_neg (by omega), if_neg (by omega), if_neg (by omega)]
  by_cases e : 48 ≤ c ∧ c ≤ 57 <;> simp [e]
theorem zms_hi {i : Nat} {c : Int} (h : 23 ≤ i) : ¬ zms i c = 1 := by unfold zms; rw [if_pos h]; omega
