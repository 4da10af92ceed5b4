/-! the class and the model hold the same -/
abbrev zGl : Type := Nat × Int × Int × (Nat → Int) × (Nat → Int) × (Nat → Int) × (Nat → Int)
abbrev zGe : Type := Nat × (Nat → Int) × (Nat → Int) × (Nat → Int)
abbrev zGs : Type := zGl × zGe × (Nat × (Nat → Int)) × Int × Int × zGl × zGe
def zOl (n : Nat) (y w : Int) (K R V E : Nat → Int) : Prop := n ≤ 6 ∧ (0 ≤ y ∧ y ≤ 999) ∧ (0 ≤ w ∧ w ≤ 9006) ∧ zLr K R V E
def zOk (N : Int) : zGs → Prop := fun ((n, y, w, K, R, V, E), (c, A, Y, Q), (m, P), lr, b, (n2, y2, w2, K2, R2, V2, E2), (c2, A2, Y2, Q2)) => zOl n y w K R V E ∧ (c ≤ 6 ∧ zSr A Y Q) ∧ (m ≤ 26 ∧ zPr0 P) ∧ (0 ≤ lr ∧ lr ≤ N) ∧ (b = 0 ∨ b = 1) ∧ zOl n2 y2 w2 K2 R2 V2 E2 ∧ (c2 ≤ 6 ∧ zSr A2 Y2 Q2) ∧ (b ≠ 0 → n2 = n)
def zRc (σ : zMem) : zGs → Prop := fun ((n, y, w, K, R, V, E), (c, A, Y, Q), (m, P), lr, b, (n2, y2, w2, K2, R2, V2, E2), (c2, A2, Y2, Q2)) => zLa σ 4 n y w K R V E ∧ zSgt σ 13 c A Y Q ∧ zPg σ m P ∧ σ 0 12 = lr ∧ σ 0 11 = b ∧ (b ≠ 0 → zLa σ 20 n2 y2 w2 K2 R2 V2 E2 ∧ zSgt σ 29 c2 A2 Y2 Q2)
def zRm (σ : zMem) : zGs → Prop := fun ((n, y, w, K, R, V, E), (c, A, Y, Q), (m, P), lr, b, (n2, y2, w2, K2, R2, V2, E2), (c2, A2, Y2, Q2)) => zMl σ n y K R V E ∧ σ 108 7 = w ∧ zMs σ c A Y Q ∧ zMg σ m P ∧ σ 108 0 = lr ∧ σ 108 30 ≤ lr ∧ ((b ≠ 0 ∧ (σ 108 29 ≠ 0 ∧ σ 108 30 = σ 108 0) ∧ zMk σ n2 y2 w2 K2 R2 V2 E2 c2 A2 Y2 Q2) ∨ (b = 0 ∧ ¬ (σ 108 29 ≠ 0 ∧ σ 108 30 = σ 108 0)))
def zHi (σ τ : zMem) : Prop := ∀ o k, 108 ≤ o → τ o k = σ o k
def zLo (σ τ : zMem) : Prop := ∀ o k, o < 108 → τ o k = σ o k
theorem zLa.cp {σ τ : zMem} {o n : Nat} {y w : Int} {K R V E : Nat → Int} (h : zLa σ o n y w K R V E) (hf : ∀ a k, o ≤ a → a < o + 9 → τ a k = σ a k) : zLa τ o n y w K R V E :=
  ⟨(hf _ _ (by omega) (by omega)).trans h.1, (hf _ _ (by omega) (by omega)).trans h.2.1, (hf _ _ (by omega) (by omega)).trans h.2.2.1, fun i hi => by rw [hf (o + 2) i (by omega) (by omega), hf (o + 4) i (by omega) (by omega), hf (o + 6) i (by omega) (by omega), hf (o + 8) i (by omega) (by omega)]; exact h.2.2.2 i hi⟩
theorem zSgt.cp {σ τ : zMem} {o m : Nat} {A Y Q : Nat → Int} (h : zSgt σ o m A Y Q) (hf : ∀ a k, o ≤ a → a < o + 7 → τ a k = σ a k) : zSgt τ o m A Y Q :=
  ⟨(hf _ _ (by omega) (by omega)).trans h.1, fun i hi => by rw [hf (o + 2) i (by omega) (by omega), hf (o + 4) i (by omega) (by omega), hf (o + 6) i (by omega) (by omega)]; exact h.2 i hi⟩
theorem zPg.cp {σ τ : zMem} {m : Nat} {P : Nat → Int} (h : zPg σ m P) (hf : ∀ a k, 1 ≤ a → a < 4 → τ a k = σ a k) : zPg τ m P :=
  ⟨(hf _ _ (by omega) (by omega)).trans h.1, fun i hi => by rw [hf 3 i (by omega) (by omega)]; exact h.2 i hi⟩
theorem zMg.cp {σ τ : zMem} {m : Nat} {P : Nat → Int} (h : zMg σ m P) (hf : ∀ a k, (a = 108 ∧ k = 12) ∨ a = 115 → τ a k = σ a k) : zMg τ m P :=
  ⟨(hf _ _ (by omega)).trans h.1, fun i hi => by rw [hf 115 i (by omega)]; exact h.2 i hi⟩
theorem zRc.fr {σ τ : zMem} {g : zGs} (h : zRc σ g) (hf : ∀ o k, o < 36 → τ o k = σ o k) : zRc τ g := by
  obtain ⟨⟨n, y, w, K, R, V, E⟩, ⟨c, A, Y, Q⟩, ⟨m, P⟩, lr, b, ⟨n2, y2, w2, K2, R2, V2, E2⟩, ⟨c2, A2, Y2, Q2⟩⟩ := g
  obtain ⟨a1, a2, a3, a4, a5, a6⟩ := h
  exact ⟨a1.cp fun a k _ _ => hf a k (by omega), a2.cp fun a k _ _ => hf a k (by omega), a3.cp fun a k _ _ => hf a k (by omega), (hf _ _ (by omega)).trans a4, (hf _ _ (by omega)).trans a5, fun hb => ⟨(a6 hb).1.cp fun a k _ _ => hf a k (by omega), (a6 hb).2.cp fun a k _ _ => hf a k (by omega)⟩⟩
theorem zRm.fr {σ τ : zMem} {g : zGs} (h : zRm σ g) (hf : ∀ o k, 108 ≤ o → τ o k = σ o k) : zRm τ g := by
  obtain ⟨⟨n, y, w, K, R, V, E⟩, ⟨c, A, Y, Q⟩, ⟨m, P⟩, lr, b, ⟨n2, y2, w2, K2, R2, V2, E2⟩, ⟨c2, A2, Y2, Q2⟩⟩ := g
  obtain ⟨a1, a2, a3, a4, a5, a6, a7⟩ := h
  refine ⟨a1.fr fun o k _ => hf o k (by omega), (hf _ _ (by omega)).trans a2, a3.fr fun o k _ => hf o k (by omega), a4.cp fun o k _ => hf o k (by omega), (hf _ _ (by omega)).trans a5, by rw [hf 108 30 (by omega)]; exact a6, ?_⟩
  rw [hf 108 29 (by omega), hf 108 30 (by omega), hf 108 0 (by omega)]
  exact a7.imp (fun z => ⟨z.1, z.2.1, z.2.2.fr fun o k _ => hf o k (by omega)⟩) id
/-- .. where the model only looked -/
theorem zRm.kh {σ τ : zMem} {n : Nat} {y w : Int} {K R V E : Nat → Int} {c : Nat} {A Y Q : Nat → Int} {m : Nat} {P : Nat → Int} {lr b : Int} {n2 : Nat} {y2 w2 : Int} {K2 R2 V2 E2 : Nat → Int} {c2 : Nat} {A2 Y2 Q2 : Nat → Int} (h : zRm σ ((n, y, w, K, R, V, E), (c, A, Y, Q), (m, P), lr, b, (n2, y2, w2, K2, R2, V2, E2), (c2, A2, Y2, Q2))) (n' : Nat) (y' : Int) (K' R' V' E' : Nat → Int) (h1 : zMl τ n' y' K' R' V' E') (hf : zKh σ τ) : zRm τ ((n', y', w, K', R', V', E'), (c, A, Y, Q), (m, P), lr, b, (n2, y2, w2, K2, R2, V2, E2), (c2, A2, Y2, Q2)) := by
  obtain ⟨a1, a2, a3, a4, a5, a6, a7⟩ := h
  refine ⟨h1, (hf _ _ (by omega)).trans a2, a3.fr fun o k _ => hf o k (by omega), a4.cp fun o k _ => hf o k (by omega), (hf _ _ (by omega)).trans a5, by rw [hf 108 30 (by omega)]; exact a6, ?_⟩
  rw [hf 108 29 (by omega), hf 108 30 (by omega), hf 108 0 (by omega)]
  exact a7.imp (fun z => ⟨z.1, z.2.1, z.2.2.fr fun o k _ => hf o k (by omega)⟩) id
theorem zOk.up {N M : Int} {g : zGs} (h : zOk N g) (hm : N ≤ M) : zOk M g := by
  obtain ⟨⟨n, y, w, K, R, V, E⟩, ⟨c, A, Y, Q⟩, ⟨m, P⟩, lr, b, ⟨n2, y2, w2, K2, R2, V2, E2⟩, ⟨c2, A2, Y2, Q2⟩⟩ := g
  obtain ⟨a1, a2, a3, a4, a5, a6, a7, a8⟩ := h
  exact ⟨a1, a2, a3, ⟨a4.1, by omega⟩, a5, a6, a7, a8⟩
/-- a call of both: the same answer, and the same held behind it -/
def zCs (l : Launch) (G : zGt) (N : Int) (g : zGs) (y9 : MethodName) (b9 : ByteArray) (n9 k9 : Nat) (y10 : MethodName) (b10 : ByteArray) (n10 k10 : Nat) (as : List Value) : Prop := ∃ (x : Int) (g2 : zGs), zOk (N + 1) g2 ∧
  (∀ σ, zRc σ g → ∃ q, zN l G y9 b9 n9 (some .int) k9 (.ref (zB G + 0) :: as) σ (zPi q) ∧ ∀ z τ, q z τ → z = x ∧ zRc τ g2 ∧ zHi σ τ) ∧
  (∀ σ, zRm σ g → ∃ q, zN l G y10 b10 n10 (some .int) k10 (.ref (zB G + 108) :: as) σ (zPi q) ∧ ∀ z τ, q z τ → z = x ∧ zRm τ g2 ∧ zLo σ τ)
theorem zup_r {a : Nat → Int} {i : Nat} {v lo hi : Int} (h : ∀ j, lo ≤ a j ∧ a j ≤ hi) (hv : lo ≤ v ∧ v ≤ hi) (j : Nat) : lo ≤ zup a i v j ∧ zup a i v j ≤ hi := by
  unfold zup
  split
  · exact hv
  · exact h j
set_option maxHeartbeats 1000000 in
theorem k_house (l : Launch) (G : zGt) (N : Int) (hN : 0 ≤ N ∧ N ≤ 1000) (g : zGs) (h : zOk N g) (p : Int) (hp : zR p) (q : Int) (hq : zR q) : zCs l G N g yX9_house cX9_house 3 4 yX10_house cX10_house 3 6 [.int (zI p), .int (zI q)] := by
  obtain ⟨⟨n, y, w, K, R, V, E⟩, ⟨c, A, Y, Q⟩, ⟨m, P⟩, lr, b, ⟨n2, y2, w2, K2, R2, V2, E2⟩, ⟨c2, A2, Y2, Q2⟩⟩ := g
  have hok := h
  obtain ⟨⟨hn, hy, hw, hr⟩, ⟨hc, hsr⟩, ⟨hm, hpr⟩, hlr, hb, ⟨hn2, hy2, hw2, hr2⟩, ⟨hc2, hsr2⟩, hbn⟩ := h
  refine ⟨zaHouse n y K R V E c A Y Q p q, ((n, y, w, K, R, V, E), (c, A, Y, Q), (m, P), lr, b, (n2, y2, w2, K2, R2, V2, E2), (c2, A2, Y2, Q2)), hok.up (by omega), ?_, ?_⟩
  · intro σ hR
    have a0 := hR
    obtain ⟨a1, a2, a3, a4, a5, a6⟩ := hR
    refine ⟨_, c_X9_house l G σ n y w K R V E a1 hr hn c A Y Q a2 hsr hc p q hp hq (by omega), fun z τ q => ?_⟩
    obtain ⟨e, f⟩ := q
    exact ⟨e, a0.fr (fun o k ho => f o k (by omega)), fun o k ho => f o k (by omega)⟩
  · intro σ hR
    have a0 := hR
    obtain ⟨a1, a2, a3, a4, a5, a6, a7⟩ := hR
    refine ⟨_, c_X10_house l G σ n y K R V E a1 hr hn c A Y Q a3 hsr hc p q hp hq (by omega), fun z τ q => ?_⟩
    obtain ⟨e, f⟩ := q
    exact ⟨e, a0.kh n y K R V E (f.ml a1) (zKh.kp f.kp), fun o k ho => f o k (by omega)⟩
set_option maxHeartbeats 1000000 in
theorem k_as (l : Launch) (G : zGt) (N : Int) (hN : 0 ≤ N ∧ N ≤ 1000) (g : zGs) (h : zOk N g) (p : Int) (hp : zR p) (q : Int) (hq : zR q) : zCs l G N g yX9_as cX9_as 3 1 yX10_as cX10_as 4 2 [.int (zI p), .int (zI q)] := by
  obtain ⟨⟨n, y, w, K, R, V, E⟩, ⟨c, A, Y, Q⟩, ⟨m, P⟩, lr, b, ⟨n2, y2, w2, K2, R2, V2, E2⟩, ⟨c2, A2, Y2, Q2⟩⟩ := g
  have hok := h
  obtain ⟨⟨hn, hy, hw, hr⟩, ⟨hc, hsr⟩, ⟨hm, hpr⟩, hlr, hb, ⟨hn2, hy2, hw2, hr2⟩, ⟨hc2, hsr2⟩, hbn⟩ := h
  refine ⟨zaAs n K p q, ((n, y, w, K, R, V, E), (c, A, Y, Q), (m, P), lr, b, (n2, y2, w2, K2, R2, V2, E2), (c2, A2, Y2, Q2)), hok.up (by omega), ?_, ?_⟩
  · intro σ hR
    have a0 := hR
    obtain ⟨a1, a2, a3, a4, a5, a6⟩ := hR
    refine ⟨_, c_X9_as l G σ n y w K R V E a1 hr hn p q hp hq, fun z τ q => ?_⟩
    obtain ⟨e, rfl⟩ := q
    exact ⟨e, a0, fun _ _ _ => rfl⟩
  · intro σ hR
    have a0 := hR
    obtain ⟨a1, a2, a3, a4, a5, a6, a7⟩ := hR
    refine ⟨_, c_X10_as l G σ n y K R V E a1 hr hn p q hp hq, fun z τ q => ?_⟩
    obtain ⟨e, rfl⟩ := q
    exact ⟨e, a0, fun _ _ _ => rfl⟩
set_option maxHeartbeats 1000000 in
theorem k_reaches (l : Launch) (G : zGt) (N : Int) (hN : 0 ≤ N ∧ N ≤ 1000) (g : zGs) (h : zOk N g) (p : Int) (hp : zR p) (q : Int) (hq : zR q) : zCs l G N g yX9_reaches cX9_reaches 3 2 yX10_reaches cX10_reaches 3 2 [.int (zI p), .int (zI q)] := by
  obtain ⟨⟨n, y, w, K, R, V, E⟩, ⟨c, A, Y, Q⟩, ⟨m, P⟩, lr, b, ⟨n2, y2, w2, K2, R2, V2, E2⟩, ⟨c2, A2, Y2, Q2⟩⟩ := g
  have hok := h
  obtain ⟨⟨hn, hy, hw, hr⟩, ⟨hc, hsr⟩, ⟨hm, hpr⟩, hlr, hb, ⟨hn2, hy2, hw2, hr2⟩, ⟨hc2, hsr2⟩, hbn⟩ := h
  refine ⟨zaReach n R p q, ((n, y, w, K, R, V, E), (c, A, Y, Q), (m, P), lr, b, (n2, y2, w2, K2, R2, V2, E2), (c2, A2, Y2, Q2)), hok.up (by omega), ?_, ?_⟩
  · intro σ hR
    have a0 := hR
    obtain ⟨a1, a2, a3, a4, a5, a6⟩ := hR
    refine ⟨_, c_X9_reaches l G σ n y w K R V E a1 hr hn p q hp hq, fun z τ q => ?_⟩
    obtain ⟨e, rfl⟩ := q
    exact ⟨e, a0, fun _ _ _ => rfl⟩
  · intro σ hR
    have a0 := hR
    obtain ⟨a1, a2, a3, a4, a5, a6, a7⟩ := hR
    refine ⟨_, c_X10_reaches l G σ n y K R V E a1 hr hn p q hp hq, fun z τ q => ?_⟩
    obtain ⟨e, rfl⟩ := q
    exact ⟨e, a0, fun _ _ _ => rfl⟩
set_option maxHeartbeats 1000000 in
theorem k_wet (l : Launch) (G : zGt) (N : Int) (hN : 0 ≤ N ∧ N ≤ 1000) (g : zGs) (h : zOk N g) (p : Int) (hp : zR p) : zCs l G N g yX9_wet cX9_wet 2 2 yX10_wet cX10_wet 2 2 [.int (zI p)] := by
  obtain ⟨⟨n, y, w, K, R, V, E⟩, ⟨c, A, Y, Q⟩, ⟨m, P⟩, lr, b, ⟨n2, y2, w2, K2, R2, V2, E2⟩, ⟨c2, A2, Y2, Q2⟩⟩ := g
  have hok := h
  obtain ⟨⟨hn, hy, hw, hr⟩, ⟨hc, hsr⟩, ⟨hm, hpr⟩, hlr, hb, ⟨hn2, hy2, hw2, hr2⟩, ⟨hc2, hsr2⟩, hbn⟩ := h
  refine ⟨zaWet n R p, ((n, y, w, K, R, V, E), (c, A, Y, Q), (m, P), lr, b, (n2, y2, w2, K2, R2, V2, E2), (c2, A2, Y2, Q2)), hok.up (by omega), ?_, ?_⟩
  · intro σ hR
    have a0 := hR
    obtain ⟨a1, a2, a3, a4, a5, a6⟩ := hR
    refine ⟨_, c_X9_wet l G σ n y w K R V E a1 hr hn p hp, fun z τ q => ?_⟩
    obtain ⟨e, rfl⟩ := q
    exact ⟨e, a0, fun _ _ _ => rfl⟩
  · intro σ hR
    have a0 := hR
    obtain ⟨a1, a2, a3, a4, a5, a6, a7⟩ := hR
    refine ⟨_, c_X10_wet l G σ n y K R V E a1 hr hn p hp, fun z τ q => ?_⟩
    obtain ⟨e, rfl⟩ := q
    exact ⟨e, a0, fun _ _ _ => rfl⟩
set_option maxHeartbeats 1000000 in
theorem k_dry (l : Launch) (G : zGt) (N : Int) (hN : 0 ≤ N ∧ N ≤ 1000) (g : zGs) (h : zOk N g) (p : Int) (hp : zR p) (q : Int) (hq : zR q) : zCs l G N g yX9_dry cX9_dry 4 3 yX10_dry cX10_dry 3 5 [.int (zI p), .int (zI q)] := by
  obtain ⟨⟨n, y, w, K, R, V, E⟩, ⟨c, A, Y, Q⟩, ⟨m, P⟩, lr, b, ⟨n2, y2, w2, K2, R2, V2, E2⟩, ⟨c2, A2, Y2, Q2⟩⟩ := g
  have hok := h
  obtain ⟨⟨hn, hy, hw, hr⟩, ⟨hc, hsr⟩, ⟨hm, hpr⟩, hlr, hb, ⟨hn2, hy2, hw2, hr2⟩, ⟨hc2, hsr2⟩, hbn⟩ := h
  refine ⟨zaDry n y K R V E p q, ((n, y, w, K, R, V, E), (c, A, Y, Q), (m, P), lr, b, (n2, y2, w2, K2, R2, V2, E2), (c2, A2, Y2, Q2)), hok.up (by omega), ?_, ?_⟩
  · intro σ hR
    have a0 := hR
    obtain ⟨a1, a2, a3, a4, a5, a6⟩ := hR
    refine ⟨_, c_X9_dry l G σ n y w K R V E a1 hr hn p q hp hq (by omega), fun z τ q => ?_⟩
    obtain ⟨e, f⟩ := q
    exact ⟨e, a0.fr (fun o k ho => f o k (by omega)), fun o k ho => f o k (by omega)⟩
  · intro σ hR
    have a0 := hR
    obtain ⟨a1, a2, a3, a4, a5, a6, a7⟩ := hR
    refine ⟨_, c_X10_dry l G σ n y K R V E a1 hr hn p q hp hq (by omega), fun z τ q => ?_⟩
    obtain ⟨e, u, f⟩ := q
    exact ⟨e, a0.kh n y K R V E u (zKh.kp f), fun o k ho => f o k (by omega)⟩
set_option maxHeartbeats 1000000 in
theorem k_plan (l : Launch) (G : zGt) (N : Int) (hN : 0 ≤ N ∧ N ≤ 1000) (g : zGs) (h : zOk N g) (p : Int) (hp : zR p) (q : Int) (hq : zR q) (r : Int) (hr_ : zR r) : zCs l G N g yX9_plan cX9_plan 5 19 yX10_plan cX10_plan 4 5 [.int (zI p), .int (zI q), .int (zI r)] := by
  obtain ⟨⟨n, y, w, K, R, V, E⟩, ⟨c, A, Y, Q⟩, ⟨m, P⟩, lr, b, ⟨n2, y2, w2, K2, R2, V2, E2⟩, ⟨c2, A2, Y2, Q2⟩⟩ := g
  have hok := h
  obtain ⟨⟨hn, hy, hw, hr⟩, ⟨hc, hsr⟩, ⟨hm, hpr⟩, hlr, hb, ⟨hn2, hy2, hw2, hr2⟩, ⟨hc2, hsr2⟩, hbn⟩ := h
  refine ⟨zaPlan n y K R V E p q r, ((n, y, w, K, R, V, E), (c, A, Y, Q), (m, P), lr, b, (n2, y2, w2, K2, R2, V2, E2), (c2, A2, Y2, Q2)), hok.up (by omega), ?_, ?_⟩
  · intro σ hR
    have a0 := hR
    obtain ⟨a1, a2, a3, a4, a5, a6⟩ := hR
    refine ⟨_, c_X9_plan l G σ n y w K R V E a1 hr hn p q r hp hq hr_ (by omega), fun z τ q => ?_⟩
    obtain ⟨e, f⟩ := q
    exact ⟨e, a0.fr (fun o k ho => f o k (by omega)), fun o k ho => f o k (by omega)⟩
  · intro σ hR
    have a0 := hR
    obtain ⟨a1, a2, a3, a4, a5, a6, a7⟩ := hR
    refine ⟨_, c_X10_plan l G σ n y K R V E a1 hr hn p q r hp hq hr_ (by omega), fun z τ q => ?_⟩
    obtain ⟨e, u, f⟩ := q
    exact ⟨e, a0.kh n y K R V E u (zKh.kp f), fun o k ho => f o k (by omega)⟩
set_option maxHeartbeats 1000000 in
theorem k_twos (l : Launch) (G : zGt) (N : Int) (hN : 0 ≤ N ∧ N ≤ 1000) (g : zGs) (h : zOk N g) (p : Int) (hp : zR p) : zCs l G N g yX9_twos cX9_twos 2 17 yX10_twos cX10_twos 3 4 [.int (zI p)] := by
  obtain ⟨⟨n, y, w, K, R, V, E⟩, ⟨c, A, Y, Q⟩, ⟨m, P⟩, lr, b, ⟨n2, y2, w2, K2, R2, V2, E2⟩, ⟨c2, A2, Y2, Q2⟩⟩ := g
  have hok := h
  obtain ⟨⟨hn, hy, hw, hr⟩, ⟨hc, hsr⟩, ⟨hm, hpr⟩, hlr, hb, ⟨hn2, hy2, hw2, hr2⟩, ⟨hc2, hsr2⟩, hbn⟩ := h
  refine ⟨zaTwos n R p, ((n, y, w, K, R, V, E), (c, A, Y, Q), (m, P), lr, b, (n2, y2, w2, K2, R2, V2, E2), (c2, A2, Y2, Q2)), hok.up (by omega), ?_, ?_⟩
  · intro σ hR
    have a0 := hR
    obtain ⟨a1, a2, a3, a4, a5, a6⟩ := hR
    refine ⟨_, c_X9_twos l G σ n y w K R V E a1 hr hn p hp, fun z τ q => ?_⟩
    obtain ⟨e, f⟩ := q
    exact ⟨e, a0.fr (fun o k ho => f o k (by omega)), fun o k ho => f o k (by omega)⟩
  · intro σ hR
    have a0 := hR
    obtain ⟨a1, a2, a3, a4, a5, a6, a7⟩ := hR
    refine ⟨_, c_X10_twos l G σ n y K R V E a1 hr hn p hp, fun z τ q => ?_⟩
    obtain ⟨e, u, f⟩ := q
    exact ⟨e, a0.kh n y K R V E u (zKh.kp f), fun o k ho => f o k (by omega)⟩
set_option maxHeartbeats 1000000 in
theorem k_patch (l : Launch) (G : zGt) (N : Int) (hN : 0 ≤ N ∧ N ≤ 1000) (g : zGs) (h : zOk N g) (p : Int) (hp : zR p) (q : Int) (hq : zR q) (r : Int) (hr_ : zR r) : zCs l G N g yX9_patch cX9_patch 4 16 yX10_patch cX10_patch 4 2 [.int (zI p), .int (zI q), .int (zI r)] := by
  obtain ⟨⟨n, y, w, K, R, V, E⟩, ⟨c, A, Y, Q⟩, ⟨m, P⟩, lr, b, ⟨n2, y2, w2, K2, R2, V2, E2⟩, ⟨c2, A2, Y2, Q2⟩⟩ := g
  have hok := h
  obtain ⟨⟨hn, hy, hw, hr⟩, ⟨hc, hsr⟩, ⟨hm, hpr⟩, hlr, hb, ⟨hn2, hy2, hw2, hr2⟩, ⟨hc2, hsr2⟩, hbn⟩ := h
  refine ⟨zaPatch n R p q r, ((n, y, w, K, R, V, E), (c, A, Y, Q), (m, P), lr, b, (n2, y2, w2, K2, R2, V2, E2), (c2, A2, Y2, Q2)), hok.up (by omega), ?_, ?_⟩
  · intro σ hR
    have a0 := hR
    obtain ⟨a1, a2, a3, a4, a5, a6⟩ := hR
    refine ⟨_, c_X9_patch l G σ n y w K R V E a1 hr hn p q r hp hq hr_, fun z τ q => ?_⟩
    obtain ⟨e, f⟩ := q
    exact ⟨e, a0.fr (fun o k ho => f o k (by omega)), fun o k ho => f o k (by omega)⟩
  · intro σ hR
    have a0 := hR
    obtain ⟨a1, a2, a3, a4, a5, a6, a7⟩ := hR
    refine ⟨_, c_X10_patch l G σ n y K R V E a1 hr hn p q r hp hq hr_, fun z τ q => ?_⟩
    obtain ⟨e, u, f⟩ := q
    exact ⟨e, a0.kh n y K R V E u (zKh.kp f), fun o k ho => f o k (by omega)⟩
set_option maxHeartbeats 1000000 in
theorem k_odds (l : Launch) (G : zGt) (N : Int) (hN : 0 ≤ N ∧ N ≤ 1000) (g : zGs) (h : zOk N g) (p : Int) (hp : zR p) (q : Int) (hq : zR q) (r : Int) (hr_ : zR r) : zCs l G N g yX9_odds cX9_odds 7 4 yX10_odds cX10_odds 4 5 [.int (zI p), .int (zI q), .int (zI r)] := by
  obtain ⟨⟨n, y, w, K, R, V, E⟩, ⟨c, A, Y, Q⟩, ⟨m, P⟩, lr, b, ⟨n2, y2, w2, K2, R2, V2, E2⟩, ⟨c2, A2, Y2, Q2⟩⟩ := g
  have hok := h
  obtain ⟨⟨hn, hy, hw, hr⟩, ⟨hc, hsr⟩, ⟨hm, hpr⟩, hlr, hb, ⟨hn2, hy2, hw2, hr2⟩, ⟨hc2, hsr2⟩, hbn⟩ := h
  refine ⟨zaOdds n y K R V E p q r, ((n, y, w, K, R, V, E), (c, A, Y, Q), (m, P), lr, b, (n2, y2, w2, K2, R2, V2, E2), (c2, A2, Y2, Q2)), hok.up (by omega), ?_, ?_⟩
  · intro σ hR
    have a0 := hR
    obtain ⟨a1, a2, a3, a4, a5, a6⟩ := hR
    refine ⟨_, c_X9_odds l G σ n y w K R V E a1 hr hn p q r hp hq hr_ (by omega), fun z τ q => ?_⟩
    obtain ⟨e, f⟩ := q
    exact ⟨e, a0.fr (fun o k ho => f o k (by omega)), fun o k ho => f o k (by omega)⟩
  · intro σ hR
    have a0 := hR
    obtain ⟨a1, a2, a3, a4, a5, a6, a7⟩ := hR
    refine ⟨_, c_X10_odds l G σ n y K R V E a1 hr hn p q r hp hq hr_ (by omega), fun z τ q => ?_⟩
    obtain ⟨e, u, f⟩ := q
    exact ⟨e, a0.kh n y K R V E u (zKh.kp f), fun o k ho => f o k (by omega)⟩
set_option maxHeartbeats 1000000 in
theorem k_ages (l : Launch) (G : zGt) (N : Int) (hN : 0 ≤ N ∧ N ≤ 1000) (g : zGs) (h : zOk N g) (p : Int) (hp : zR p) (q : Int) (hq : zR q) (r : Int) (hr_ : zR r) : zCs l G N g yX9_ages cX9_ages 6 4 yX10_ages cX10_ages 4 5 [.int (zI p), .int (zI q), .int (zI r)] := by
  obtain ⟨⟨n, y, w, K, R, V, E⟩, ⟨c, A, Y, Q⟩, ⟨m, P⟩, lr, b, ⟨n2, y2, w2, K2, R2, V2, E2⟩, ⟨c2, A2, Y2, Q2⟩⟩ := g
  have hok := h
  obtain ⟨⟨hn, hy, hw, hr⟩, ⟨hc, hsr⟩, ⟨hm, hpr⟩, hlr, hb, ⟨hn2, hy2, hw2, hr2⟩, ⟨hc2, hsr2⟩, hbn⟩ := h
  refine ⟨zaAges n y K R V E p q r, ((n, y, w, K, R, V, E), (c, A, Y, Q), (m, P), lr, b, (n2, y2, w2, K2, R2, V2, E2), (c2, A2, Y2, Q2)), hok.up (by omega), ?_, ?_⟩
  · intro σ hR
    have a0 := hR
    obtain ⟨a1, a2, a3, a4, a5, a6⟩ := hR
    refine ⟨_, c_X9_ages l G σ n y w K R V E a1 hr hn p q r hp hq hr_ (by omega) (by omega), fun z τ q => ?_⟩
    obtain ⟨e, f⟩ := q
    exact ⟨e, a0.fr (fun o k ho => f o k (by omega)), fun o k ho => f o k (by omega)⟩
  · intro σ hR
    have a0 := hR
    obtain ⟨a1, a2, a3, a4, a5, a6, a7⟩ := hR
    refine ⟨_, c_X10_ages l G σ n y K R V E a1 hr hn p q r hp hq hr_ (by omega), fun z τ q => ?_⟩
    obtain ⟨e, u, f⟩ := q
    exact ⟨e, a0.kh n y K R V E u (zKh.kp f), fun o k ho => f o k (by omega)⟩
set_option maxHeartbeats 1000000 in
theorem k_fault (l : Launch) (G : zGt) (N : Int) (hN : 0 ≤ N ∧ N ≤ 1000) (g : zGs) (h : zOk N g) : zCs l G N g yX9_fault cX9_fault 1 11 yX10_fault cX10_fault 1 3 [] := by
  obtain ⟨⟨n, y, w, K, R, V, E⟩, ⟨c, A, Y, Q⟩, ⟨m, P⟩, lr, b, ⟨n2, y2, w2, K2, R2, V2, E2⟩, ⟨c2, A2, Y2, Q2⟩⟩ := g
  have hok := h
  obtain ⟨⟨hn, hy, hw, hr⟩, ⟨hc, hsr⟩, ⟨hm, hpr⟩, hlr, hb, ⟨hn2, hy2, hw2, hr2⟩, ⟨hc2, hsr2⟩, hbn⟩ := h
  refine ⟨zff P m, ((n, y, w, K, R, V, E), (c, A, Y, Q), (m, P), lr, b, (n2, y2, w2, K2, R2, V2, E2), (c2, A2, Y2, Q2)), hok.up (by omega), ?_, ?_⟩
  · intro σ hR
    have a0 := hR
    obtain ⟨a1, a2, a3, a4, a5, a6⟩ := hR
    refine ⟨_, c_X9_fault l G σ m P a3 hpr hm, fun z τ q => ?_⟩
    obtain ⟨e, rfl⟩ := q
    exact ⟨e, a0, fun _ _ _ => rfl⟩
  · intro σ hR
    have a0 := hR
    obtain ⟨a1, a2, a3, a4, a5, a6, a7⟩ := hR
    refine ⟨_, c_X10_fault l G σ m P a4 hpr hm, fun z τ q => ?_⟩
    obtain ⟨e, f⟩ := q
    exact ⟨e, a0.kh n y K R V E (a1.fr fun o k ho => f o k (by omega)) (fun o k ho => f o k (by omega)), fun o k ho => f o k (by omega)⟩
set_option maxHeartbeats 1000000 in
theorem k_count (l : Launch) (G : zGt) (N : Int) (hN : 0 ≤ N ∧ N ≤ 1000) (g : zGs) (h : zOk N g) (p : Int) (hp : zR p) : zCs l G N g yX9_count cX9_count 2 2 yX10_count cX10_count 2 3 [.int (zI p)] := by
  obtain ⟨⟨n, y, w, K, R, V, E⟩, ⟨c, A, Y, Q⟩, ⟨m, P⟩, lr, b, ⟨n2, y2, w2, K2, R2, V2, E2⟩, ⟨c2, A2, Y2, Q2⟩⟩ := g
  have hok := h
  obtain ⟨⟨hn, hy, hw, hr⟩, ⟨hc, hsr⟩, ⟨hm, hpr⟩, hlr, hb, ⟨hn2, hy2, hw2, hr2⟩, ⟨hc2, hsr2⟩, hbn⟩ := h
  refine ⟨zaCount n y w R V E c m lr p, ((n, y, w, K, R, V, E), (c, A, Y, Q), (m, P), lr, b, (n2, y2, w2, K2, R2, V2, E2), (c2, A2, Y2, Q2)), hok.up (by omega), ?_, ?_⟩
  · intro σ hR
    have a0 := hR
    obtain ⟨a1, a2, a3, a4, a5, a6⟩ := hR
    refine ⟨_, c_X9_count l G σ n y w K R V E a1 hr hn c a2.1 hc m a3.1 hm lr a4 p hp (by omega) (by omega), fun z τ q => ?_⟩
    obtain ⟨e, rfl⟩ := q
    exact ⟨e, a0, fun _ _ _ => rfl⟩
  · intro σ hR
    have a0 := hR
    obtain ⟨a1, a2, a3, a4, a5, a6, a7⟩ := hR
    refine ⟨_, c_X10_count l G σ n y K R V E a1 hr hn c a3.1 hc m a4.1 hm w a2 lr a5 p hp (by omega), fun z τ q => ?_⟩
    obtain ⟨e, rfl⟩ := q
    exact ⟨e, a0, fun _ _ _ => rfl⟩
set_option maxHeartbeats 1000000 in
theorem k_letter (l : Launch) (G : zGt) (N : Int) (hN : 0 ≤ N ∧ N ≤ 1000) (g : zGs) (h : zOk N g) (p : Int) (hp : zR p) : zCs l G N g yX9_letter cX9_letter 2 2 yX10_letter cX10_letter 2 1 [.int (zI p)] := by
  obtain ⟨⟨n, y, w, K, R, V, E⟩, ⟨c, A, Y, Q⟩, ⟨m, P⟩, lr, b, ⟨n2, y2, w2, K2, R2, V2, E2⟩, ⟨c2, A2, Y2, Q2⟩⟩ := g
  have hok := h
  obtain ⟨⟨hn, hy, hw, hr⟩, ⟨hc, hsr⟩, ⟨hm, hpr⟩, hlr, hb, ⟨hn2, hy2, hw2, hr2⟩, ⟨hc2, hsr2⟩, hbn⟩ := h
  by_cases hcd : 32 ≤ p ∧ p ≤ 126 ∧ m < 26
  · refine ⟨(if 32 ≤ p ∧ p ≤ 126 then (if 26 ≤ m then -104 else (m : Int) + 1) else -102), ((n, y, w, K, R, V, E), (c, A, Y, Q), (m + 1, zup P m p), lr, b, (n2, y2, w2, K2, R2, V2, E2), (c2, A2, Y2, Q2)), ⟨⟨hn, hy, hw, hr⟩, ⟨hc, hsr⟩, ⟨by omega, zup_r hpr (by omega)⟩, (by omega), hb, ⟨hn2, hy2, hw2, hr2⟩, ⟨hc2, hsr2⟩, hbn⟩, ?_, ?_⟩
    · intro σ hR
      have a0 := hR
      obtain ⟨a1, a2, a3, a4, a5, a6⟩ := hR
      refine ⟨_, c_X9_letter l G σ m P a3 hpr hm p hp, fun z τ q => ?_⟩
      obtain ⟨e, q⟩ := q
      rcases q with q | q
      · obtain ⟨-, -, -, u, f⟩ := q
        exact ⟨e, ⟨a1.cp (fun a k _ _ => f a k (by omega)), a2.cp (fun a k _ _ => f a k (by omega)), u, (f _ _ (by omega)).trans a4, (f _ _ (by omega)).trans a5, fun hb => ⟨(a6 hb).1.cp (fun a k _ _ => f a k (by omega)), (a6 hb).2.cp (fun a k _ _ => f a k (by omega))⟩⟩, fun o k ho => f o k (by omega)⟩
      · exact absurd hcd (by have := q.1; omega)
    · intro σ hR
      have a0 := hR
      obtain ⟨a1, a2, a3, a4, a5, a6, a7⟩ := hR
      refine ⟨_, c_X10_letter l G σ m P a4 hpr hm p hp, fun z τ q => ?_⟩
      obtain ⟨e, q⟩ := q
      rcases q with q | q
      · obtain ⟨-, -, -, u, f⟩ := q
        refine ⟨e, ⟨a1.fr fun o k ho => f o k (by omega) (by omega), (f _ _ (by omega) (by omega)).trans a2, a3.fr fun o k ho => f o k (by omega) (by omega), u, (f _ _ (by omega) (by omega)).trans a5, by rw [f 108 30 (by omega) (by omega)]; exact a6, ?_⟩, fun o k ho => f o k (by omega) (by omega)⟩
        rw [f 108 29 (by omega) (by omega), f 108 30 (by omega) (by omega), f 108 0 (by omega) (by omega)]
        exact a7.imp (fun z => ⟨z.1, z.2.1, z.2.2.fr fun o k _ => f o k (by omega) (by omega)⟩) id
      · exact absurd hcd (by have := q.1; omega)
  · refine ⟨(if 32 ≤ p ∧ p ≤ 126 then (if 26 ≤ m then -104 else (m : Int) + 1) else -102), ((n, y, w, K, R, V, E), (c, A, Y, Q), (m, P), lr, b, (n2, y2, w2, K2, R2, V2, E2), (c2, A2, Y2, Q2)), hok.up (by omega), ?_, ?_⟩
    · intro σ hR
      have a0 := hR
      obtain ⟨a1, a2, a3, a4, a5, a6⟩ := hR
      refine ⟨_, c_X9_letter l G σ m P a3 hpr hm p hp, fun z τ q => ?_⟩
      obtain ⟨e, q⟩ := q
      rcases q with q | q
      · exact absurd (by omega) hcd
      · obtain ⟨-, rfl⟩ := q; exact ⟨e, a0, fun _ _ _ => rfl⟩
    · intro σ hR
      have a0 := hR
      obtain ⟨a1, a2, a3, a4, a5, a6, a7⟩ := hR
      refine ⟨_, c_X10_letter l G σ m P a4 hpr hm p hp, fun z τ q => ?_⟩
      obtain ⟨e, q⟩ := q
      rcases q with q | q
      · exact absurd (by omega) hcd
      · obtain ⟨-, rfl⟩ := q; exact ⟨e, a0, fun _ _ _ => rfl⟩
set_option maxHeartbeats 1000000 in
theorem k_year (l : Launch) (G : zGt) (N : Int) (hN : 0 ≤ N ∧ N ≤ 1000) (g : zGs) (h : zOk N g) : zCs l G N g yX9_year cX9_year 1 2 yX10_year cX10_year 1 4 [] := by
  obtain ⟨⟨n, y, w, K, R, V, E⟩, ⟨c, A, Y, Q⟩, ⟨m, P⟩, lr, b, ⟨n2, y2, w2, K2, R2, V2, E2⟩, ⟨c2, A2, Y2, Q2⟩⟩ := g
  have hok := h
  obtain ⟨⟨hn, hy, hw, hr⟩, ⟨hc, hsr⟩, ⟨hm, hpr⟩, hlr, hb, ⟨hn2, hy2, hw2, hr2⟩, ⟨hc2, hsr2⟩, hbn⟩ := h
  by_cases hcd : n ≠ 0 ∧ y < 999
  · refine ⟨zaYear n y, ((n, y + 1, w, K, fun j => zgr (K j) (R j) (V j) (E j) (y + 1), V, fun _ => 0), (c, A, Y, Q), (m, P), lr, b, (n2, y2, w2, K2, R2, V2, E2), (c2, A2, Y2, Q2)), ⟨⟨hn, by omega, hw, fun j => ⟨(hr j).1, zgr_bd _ _ _ _ _, (hr j).2.2.1, (show (0 : Int) ≤ 0 ∧ (0 : Int) ≤ 1 by omega)⟩⟩, ⟨hc, hsr⟩, ⟨hm, hpr⟩, (by omega), hb, ⟨hn2, hy2, hw2, hr2⟩, ⟨hc2, hsr2⟩, hbn⟩, ?_, ?_⟩
    · intro σ hR
      have a0 := hR
      obtain ⟨a1, a2, a3, a4, a5, a6⟩ := hR
      refine ⟨_, c_X9_year l G σ n y w K R V E a1 hr hn hy, fun z τ q => ?_⟩
      obtain ⟨e, q⟩ := q
      rcases q with q | q
      · obtain ⟨-, -, u, f⟩ := q
        exact ⟨e, ⟨u, a2.cp (fun a k _ _ => f a k (by omega)), a3.cp (fun a k _ _ => f a k (by omega)), (f _ _ (by omega)).trans a4, (f _ _ (by omega)).trans a5, fun hb => ⟨(a6 hb).1.cp (fun a k _ _ => f a k (by omega)), (a6 hb).2.cp (fun a k _ _ => f a k (by omega))⟩⟩, fun o k ho => f o k (by omega)⟩
      · exact absurd hcd (by have := q.1; omega)
    · intro σ hR
      have a0 := hR
      obtain ⟨a1, a2, a3, a4, a5, a6, a7⟩ := hR
      refine ⟨_, c_X10_year l G σ n y K R V E a1 hr hn hy, fun z τ q => ?_⟩
      obtain ⟨e, q⟩ := q
      rcases q with q | q
      · obtain ⟨-, -, u, f⟩ := q
        exact ⟨e, a0.kh _ _ _ _ _ _ u (zKh.kp f.kp), fun o k ho => f o k (by omega)⟩
      · exact absurd hcd (by have := q.1; omega)
  · refine ⟨zaYear n y, ((n, y, w, K, R, V, E), (c, A, Y, Q), (m, P), lr, b, (n2, y2, w2, K2, R2, V2, E2), (c2, A2, Y2, Q2)), hok.up (by omega), ?_, ?_⟩
    · intro σ hR
      have a0 := hR
      obtain ⟨a1, a2, a3, a4, a5, a6⟩ := hR
      refine ⟨_, c_X9_year l G σ n y w K R V E a1 hr hn hy, fun z τ q => ?_⟩
      obtain ⟨e, q⟩ := q
      rcases q with q | q
      · exact absurd (by omega) hcd
      · obtain ⟨-, rfl⟩ := q; exact ⟨e, a0, fun _ _ _ => rfl⟩
    · intro σ hR
      have a0 := hR
      obtain ⟨a1, a2, a3, a4, a5, a6, a7⟩ := hR
      refine ⟨_, c_X10_year l G σ n y K R V E a1 hr hn hy, fun z τ q => ?_⟩
      obtain ⟨e, q⟩ := q
      rcases q with q | q
      · exact absurd (by omega) hcd
      · obtain ⟨-, rfl⟩ := q; exact ⟨e, a0, fun _ _ _ => rfl⟩
set_option maxHeartbeats 1000000 in
theorem k_rain (l : Launch) (G : zGt) (N : Int) (hN : 0 ≤ N ∧ N ≤ 1000) (g : zGs) (h : zOk N g) (p : Int) (hp : zR p) : zCs l G N g yX9_rain cX9_rain 2 3 yX10_rain cX10_rain 3 3 [.int (zI p)] := by
  obtain ⟨⟨n, y, w, K, R, V, E⟩, ⟨c, A, Y, Q⟩, ⟨m, P⟩, lr, b, ⟨n2, y2, w2, K2, R2, V2, E2⟩, ⟨c2, A2, Y2, Q2⟩⟩ := g
  have hok := h
  obtain ⟨⟨hn, hy, hw, hr⟩, ⟨hc, hsr⟩, ⟨hm, hpr⟩, hlr, hb, ⟨hn2, hy2, hw2, hr2⟩, ⟨hc2, hsr2⟩, hbn⟩ := h
  by_cases hcd : (0 ≤ p ∧ p ≤ 20) ∧ n ≠ 0 ∧ w < 9000
  · have hsm := zsum_bd (f := zwp R p) (c := 1) (n := n) (fun j _ => zwp_bd R p j)
    refine ⟨zaRain n w R p, ((n, y, w + zsum (zwp R p) n, K, R, zrV R V p, E), (c, A, Y, Q), (m, P), lr, b, (n2, y2, w2, K2, R2, V2, E2), (c2, A2, Y2, Q2)), ⟨⟨hn, hy, by omega, fun j => ⟨(hr j).1, (hr j).2.1, zrV_bd (hr j).2.2.1, (hr j).2.2.2⟩⟩, ⟨hc, hsr⟩, ⟨hm, hpr⟩, (by omega), hb, ⟨hn2, hy2, hw2, hr2⟩, ⟨hc2, hsr2⟩, hbn⟩, ?_, ?_⟩
    · intro σ hR
      have a0 := hR
      obtain ⟨a1, a2, a3, a4, a5, a6⟩ := hR
      refine ⟨_, c_X9_rain l G σ n y w K R V E a1 hr hn p hp (by omega), fun z τ q => ?_⟩
      obtain ⟨e, q⟩ := q
      rcases q with q | q
      · obtain ⟨-, -, -, u, f⟩ := q
        exact ⟨e, ⟨u, a2.cp (fun a k _ _ => f a k (by omega)), a3.cp (fun a k _ _ => f a k (by omega)), (f _ _ (by omega)).trans a4, (f _ _ (by omega)).trans a5, fun hb => ⟨(a6 hb).1.cp (fun a k _ _ => f a k (by omega)), (a6 hb).2.cp (fun a k _ _ => f a k (by omega))⟩⟩, fun o k ho => f o k (by omega)⟩
      · exact absurd hcd (by have := q.1; omega)
    · intro σ hR
      have a0 := hR
      obtain ⟨a1, a2, a3, a4, a5, a6, a7⟩ := hR
      refine ⟨_, c_X10_rain l G σ n y K R V E a1 hr hn w p a2 hp (by omega), fun z τ q => ?_⟩
      obtain ⟨e, q⟩ := q
      rcases q with q | q
      · obtain ⟨-, -, -, u, e7, f⟩ := q
        refine ⟨e, ⟨u, e7, a3.fr fun o k ho => f o k (by omega) (by omega) (by omega), a4.cp fun o k ho => f o k (by omega) (by omega) (by omega), (f _ _ (by omega) (by omega) (by omega)).trans a5, by rw [f 108 30 (by omega) (by omega) (by omega)]; exact a6, ?_⟩, fun o k ho => f o k (by omega) (by omega) (by omega)⟩
        rw [f 108 29 (by omega) (by omega) (by omega), f 108 30 (by omega) (by omega) (by omega), f 108 0 (by omega) (by omega) (by omega)]
        exact a7.imp (fun z => ⟨z.1, z.2.1, z.2.2.fr fun o k _ => f o k (by omega) (by omega) (by omega)⟩) id
      · exact absurd hcd (by have := q.1; omega)
  · refine ⟨zaRain n w R p, ((n, y, w, K, R, V, E), (c, A, Y, Q), (m, P), lr, b, (n2, y2, w2, K2, R2, V2, E2), (c2, A2, Y2, Q2)), hok.up (by omega), ?_, ?_⟩
    · intro σ hR
      have a0 := hR
      obtain ⟨a1, a2, a3, a4, a5, a6⟩ := hR
      refine ⟨_, c_X9_rain l G σ n y w K R V E a1 hr hn p hp (by omega), fun z τ q => ?_⟩
      obtain ⟨e, q⟩ := q
      rcases q with q | q
      · exact absurd (by omega) hcd
      · obtain ⟨-, rfl⟩ := q; exact ⟨e, a0, fun _ _ _ => rfl⟩
    · intro σ hR
      have a0 := hR
      obtain ⟨a1, a2, a3, a4, a5, a6, a7⟩ := hR
      refine ⟨_, c_X10_rain l G σ n y K R V E a1 hr hn w p a2 hp (by omega), fun z τ q => ?_⟩
      obtain ⟨e, q⟩ := q
      rcases q with q | q
      · exact absurd (by omega) hcd
      · obtain ⟨-, rfl⟩ := q; exact ⟨e, a0, fun _ _ _ => rfl⟩
set_option maxHeartbeats 1000000 in
theorem k_cheer (l : Launch) (G : zGt) (N : Int) (hN : 0 ≤ N ∧ N ≤ 1000) (g : zGs) (h : zOk N g) (p : Int) (hp : zR p) : zCs l G N g yX9_cheer cX9_cheer 2 2 yX10_cheer cX10_cheer 2 2 [.int (zI p)] := by
  obtain ⟨⟨n, y, w, K, R, V, E⟩, ⟨c, A, Y, Q⟩, ⟨m, P⟩, lr, b, ⟨n2, y2, w2, K2, R2, V2, E2⟩, ⟨c2, A2, Y2, Q2⟩⟩ := g
  have hok := h
  obtain ⟨⟨hn, hy, hw, hr⟩, ⟨hc, hsr⟩, ⟨hm, hpr⟩, hlr, hb, ⟨hn2, hy2, hw2, hr2⟩, ⟨hc2, hsr2⟩, hbn⟩ := h
  by_cases hcd : 0 ≤ p ∧ p < n
  · refine ⟨zaCheer n V p, ((n, y, w, K, R, zcv1 V p.toNat, E), (c, A, Y, Q), (m, P), lr, b, (n2, y2, w2, K2, R2, V2, E2), (c2, A2, Y2, Q2)), ⟨⟨hn, hy, hw, fun j => ⟨(hr j).1, (hr j).2.1, zcv1_bd (fun j => (hr j).2.2.1) _ j, (hr j).2.2.2⟩⟩, ⟨hc, hsr⟩, ⟨hm, hpr⟩, (by omega), hb, ⟨hn2, hy2, hw2, hr2⟩, ⟨hc2, hsr2⟩, hbn⟩, ?_, ?_⟩
    · intro σ hR
      have a0 := hR
      obtain ⟨a1, a2, a3, a4, a5, a6⟩ := hR
      refine ⟨_, c_X9_cheer l G σ n y w K R V E a1 hr hn p hp, fun z τ q => ?_⟩
      obtain ⟨e, q⟩ := q
      rcases q with q | q
      · obtain ⟨-, -, u, f⟩ := q
        exact ⟨e, ⟨u, a2.cp (fun a k _ _ => f a k (by omega)), a3.cp (fun a k _ _ => f a k (by omega)), (f _ _ (by omega)).trans a4, (f _ _ (by omega)).trans a5, fun hb => ⟨(a6 hb).1.cp (fun a k _ _ => f a k (by omega)), (a6 hb).2.cp (fun a k _ _ => f a k (by omega))⟩⟩, fun o k ho => f o k (by omega)⟩
      · exact absurd hcd (by have := q.1; omega)
    · intro σ hR
      have a0 := hR
      obtain ⟨a1, a2, a3, a4, a5, a6, a7⟩ := hR
      refine ⟨_, c_X10_cheer l G σ n y K R V E a1 hr hn p hp, fun z τ q => ?_⟩
      obtain ⟨e, q⟩ := q
      rcases q with q | q
      · obtain ⟨-, -, u, f⟩ := q
        exact ⟨e, a0.kh _ _ _ _ _ _ u (zKh.kp f.kp), fun o k ho => f o k (by omega)⟩
      · exact absurd hcd (by have := q.1; omega)
  · refine ⟨zaCheer n V p, ((n, y, w, K, R, V, E), (c, A, Y, Q), (m, P), lr, b, (n2, y2, w2, K2, R2, V2, E2), (c2, A2, Y2, Q2)), hok.up (by omega), ?_, ?_⟩
    · intro σ hR
      have a0 := hR
      obtain ⟨a1, a2, a3, a4, a5, a6⟩ := hR
      refine ⟨_, c_X9_cheer l G σ n y w K R V E a1 hr hn p hp, fun z τ q => ?_⟩
      obtain ⟨e, q⟩ := q
      rcases q with q | q
      · exact absurd (by omega) hcd
      · obtain ⟨-, rfl⟩ := q; exact ⟨e, a0, fun _ _ _ => rfl⟩
    · intro σ hR
      have a0 := hR
      obtain ⟨a1, a2, a3, a4, a5, a6, a7⟩ := hR
      refine ⟨_, c_X10_cheer l G σ n y K R V E a1 hr hn p hp, fun z τ q => ?_⟩
      obtain ⟨e, q⟩ := q
      rcases q with q | q
      · exact absurd (by omega) hcd
      · obtain ⟨-, rfl⟩ := q; exact ⟨e, a0, fun _ _ _ => rfl⟩
set_option maxHeartbeats 1000000 in
theorem k_comb (l : Launch) (G : zGt) (N : Int) (hN : 0 ≤ N ∧ N ≤ 1000) (g : zGs) (h : zOk N g) (p : Int) (hp : zR p) : zCs l G N g yX9_comb cX9_comb 2 2 yX10_comb cX10_comb 2 2 [.int (zI p)] := by
  obtain ⟨⟨n, y, w, K, R, V, E⟩, ⟨c, A, Y, Q⟩, ⟨m, P⟩, lr, b, ⟨n2, y2, w2, K2, R2, V2, E2⟩, ⟨c2, A2, Y2, Q2⟩⟩ := g
  have hok := h
  obtain ⟨⟨hn, hy, hw, hr⟩, ⟨hc, hsr⟩, ⟨hm, hpr⟩, hlr, hb, ⟨hn2, hy2, hw2, hr2⟩, ⟨hc2, hsr2⟩, hbn⟩ := h
  by_cases hcd : 0 ≤ p ∧ p < n ∧ E p.toNat = 0 ∧ 2 ≤ R p.toNat
  · refine ⟨zaComb n R E p, ((n, y, w, K, zup R p.toNat (R p.toNat - 2), V, zup E p.toNat 1), (c, A, Y, Q), (m, P), lr, b, (n2, y2, w2, K2, R2, V2, E2), (c2, A2, Y2, Q2)), ⟨⟨hn, hy, hw, fun j => ⟨(hr j).1, zup_r (fun j => (hr j).2.1) (by have := (hr p.toNat).2.1; omega) j, (hr j).2.2.1, zup_r (fun j => (hr j).2.2.2) (by omega) j⟩⟩, ⟨hc, hsr⟩, ⟨hm, hpr⟩, (by omega), hb, ⟨hn2, hy2, hw2, hr2⟩, ⟨hc2, hsr2⟩, hbn⟩, ?_, ?_⟩
    · intro σ hR
      have a0 := hR
      obtain ⟨a1, a2, a3, a4, a5, a6⟩ := hR
      refine ⟨_, c_X9_comb l G σ n y w K R V E a1 hr hn p hp, fun z τ q => ?_⟩
      obtain ⟨e, q⟩ := q
      rcases q with q | q
      · obtain ⟨-, -, -, u, f⟩ := q
        exact ⟨e, ⟨u, a2.cp (fun a k _ _ => f a k (by omega)), a3.cp (fun a k _ _ => f a k (by omega)), (f _ _ (by omega)).trans a4, (f _ _ (by omega)).trans a5, fun hb => ⟨(a6 hb).1.cp (fun a k _ _ => f a k (by omega)), (a6 hb).2.cp (fun a k _ _ => f a k (by omega))⟩⟩, fun o k ho => f o k (by omega)⟩
      · exact absurd hcd (by have := q.1; omega)
    · intro σ hR
      have a0 := hR
      obtain ⟨a1, a2, a3, a4, a5, a6, a7⟩ := hR
      refine ⟨_, c_X10_comb l G σ n y K R V E a1 hr hn p hp, fun z τ q => ?_⟩
      obtain ⟨e, q⟩ := q
      rcases q with q | q
      · obtain ⟨-, -, -, u, f⟩ := q
        exact ⟨e, a0.kh _ _ _ _ _ _ u (zKh.kp f.kp), fun o k ho => f o k (by omega)⟩
      · exact absurd hcd (by have := q.1; omega)
  · refine ⟨zaComb n R E p, ((n, y, w, K, R, V, E), (c, A, Y, Q), (m, P), lr, b, (n2, y2, w2, K2, R2, V2, E2), (c2, A2, Y2, Q2)), hok.up (by omega), ?_, ?_⟩
    · intro σ hR
      have a0 := hR
      obtain ⟨a1, a2, a3, a4, a5, a6⟩ := hR
      refine ⟨_, c_X9_comb l G σ n y w K R V E a1 hr hn p hp, fun z τ q => ?_⟩
      obtain ⟨e, q⟩ := q
      rcases q with q | q
      · exact absurd (by omega) hcd
      · obtain ⟨-, rfl⟩ := q; exact ⟨e, a0, fun _ _ _ => rfl⟩
    · intro σ hR
      have a0 := hR
      obtain ⟨a1, a2, a3, a4, a5, a6, a7⟩ := hR
      refine ⟨_, c_X10_comb l G σ n y K R V E a1 hr hn p hp, fun z τ q => ?_⟩
      obtain ⟨e, q⟩ := q
      rcases q with q | q
      · exact absurd (by omega) hcd
      · obtain ⟨-, rfl⟩ := q; exact ⟨e, a0, fun _ _ _ => rfl⟩
set_option maxHeartbeats 1000000 in
theorem k_move (l : Launch) (G : zGt) (N : Int) (hN : 0 ≤ N ∧ N ≤ 1000) (g : zGs) (h : zOk N g) (p : Int) (hp : zR p) (q0 : Int) (hq0 : zR q0) (v : Int) (hv : zR v) : zCs l G N g yX9_move cX9_move 5 1 yX10_move cX10_move 5 2 [.int (zI p), .int (zI q0), .int (zI v)] := by
  obtain ⟨⟨n, y, w, K, R, V, E⟩, ⟨c, A, Y, Q⟩, ⟨m, P⟩, lr, b, ⟨n2, y2, w2, K2, R2, V2, E2⟩, ⟨c2, A2, Y2, Q2⟩⟩ := g
  have hok := h
  obtain ⟨⟨hn, hy, hw, hr⟩, ⟨hc, hsr⟩, ⟨hm, hpr⟩, hlr, hb, ⟨hn2, hy2, hw2, hr2⟩, ⟨hc2, hsr2⟩, hbn⟩ := h
  by_cases hcd : 0 ≤ p ∧ p < n ∧ (0 ≤ q0 ∧ q0 ≤ 4) ∧ 0 ≤ v ∧ v ≤ 9
  · refine ⟨zaMove n K p q0 v, ((n, y, w, zup K p.toNat q0, R, zup V p.toNat v, E), (c, A, Y, Q), (m, P), lr, b, (n2, y2, w2, K2, R2, V2, E2), (c2, A2, Y2, Q2)), ⟨⟨hn, hy, hw, fun j => ⟨zup_r (fun j => (hr j).1) (by omega) j, (hr j).2.1, zup_r (fun j => (hr j).2.2.1) (by omega) j, (hr j).2.2.2⟩⟩, ⟨hc, hsr⟩, ⟨hm, hpr⟩, (by omega), hb, ⟨hn2, hy2, hw2, hr2⟩, ⟨hc2, hsr2⟩, hbn⟩, ?_, ?_⟩
    · intro σ hR
      have a0 := hR
      obtain ⟨a1, a2, a3, a4, a5, a6⟩ := hR
      refine ⟨_, c_X9_move l G σ n y w K R V E a1 hr hn p q0 v hp hq0 hv, fun z τ q => ?_⟩
      obtain ⟨e, q⟩ := q
      rcases q with q | q
      · obtain ⟨-, -, -, u, f⟩ := q
        exact ⟨e, ⟨u, a2.cp (fun a k _ _ => f a k (by omega)), a3.cp (fun a k _ _ => f a k (by omega)), (f _ _ (by omega)).trans a4, (f _ _ (by omega)).trans a5, fun hb => ⟨(a6 hb).1.cp (fun a k _ _ => f a k (by omega)), (a6 hb).2.cp (fun a k _ _ => f a k (by omega))⟩⟩, fun o k ho => f o k (by omega)⟩
      · exact absurd hcd (by have := q.1; omega)
    · intro σ hR
      have a0 := hR
      obtain ⟨a1, a2, a3, a4, a5, a6, a7⟩ := hR
      refine ⟨_, c_X10_move l G σ n y K R V E a1 hr hn p q0 v hp hq0 hv, fun z τ q => ?_⟩
      obtain ⟨e, q⟩ := q
      rcases q with q | q
      · obtain ⟨-, -, -, u, f⟩ := q
        refine ⟨e, ⟨u, (f _ _ (by omega) (by omega)).trans a2, a3.fr fun o k ho => f o k (by omega) (by omega), a4.cp fun o k ho => f o k (by omega) (by omega), (f _ _ (by omega) (by omega)).trans a5, by rw [f 108 30 (by omega) (by omega)]; exact a6, ?_⟩, fun o k ho => f o k (by omega) (by omega)⟩
        rw [f 108 29 (by omega) (by omega), f 108 30 (by omega) (by omega), f 108 0 (by omega) (by omega)]
        exact a7.imp (fun z => ⟨z.1, z.2.1, z.2.2.fr fun o k _ => f o k (by omega) (by omega)⟩) id
      · exact absurd hcd (by have := q.1; omega)
  · refine ⟨zaMove n K p q0 v, ((n, y, w, K, R, V, E), (c, A, Y, Q), (m, P), lr, b, (n2, y2, w2, K2, R2, V2, E2), (c2, A2, Y2, Q2)), hok.up (by omega), ?_, ?_⟩
    · intro σ hR
      have a0 := hR
      obtain ⟨a1, a2, a3, a4, a5, a6⟩ := hR
      refine ⟨_, c_X9_move l G σ n y w K R V E a1 hr hn p q0 v hp hq0 hv, fun z τ q => ?_⟩
      obtain ⟨e, q⟩ := q
      rcases q with q | q
      · exact absurd (by omega) hcd
      · obtain ⟨-, rfl⟩ := q; exact ⟨e, a0, fun _ _ _ => rfl⟩
    · intro σ hR
      have a0 := hR
      obtain ⟨a1, a2, a3, a4, a5, a6, a7⟩ := hR
      refine ⟨_, c_X10_move l G σ n y K R V E a1 hr hn p q0 v hp hq0 hv, fun z τ q => ?_⟩
      obtain ⟨e, q⟩ := q
      rcases q with q | q
      · exact absurd (by omega) hcd
      · obtain ⟨-, rfl⟩ := q; exact ⟨e, a0, fun _ _ _ => rfl⟩
set_option maxHeartbeats 1000000 in
theorem k_see (l : Launch) (G : zGt) (N : Int) (hN : 0 ≤ N ∧ N ≤ 1000) (g : zGs) (h : zOk N g) (p : Int) (hp : zR p) (q0 : Int) (hq0 : zR q0) (x : Int) (hx : zR x) : zCs l G N g yX9_see cX9_see 4 2 yX10_see cX10_see 4 2 [.int (zI p), .int (zI q0), .int (zI x)] := by
  obtain ⟨⟨n, y, w, K, R, V, E⟩, ⟨c, A, Y, Q⟩, ⟨m, P⟩, lr, b, ⟨n2, y2, w2, K2, R2, V2, E2⟩, ⟨c2, A2, Y2, Q2⟩⟩ := g
  have hok := h
  obtain ⟨⟨hn, hy, hw, hr⟩, ⟨hc, hsr⟩, ⟨hm, hpr⟩, hlr, hb, ⟨hn2, hy2, hw2, hr2⟩, ⟨hc2, hsr2⟩, hbn⟩ := h
  by_cases hcd : (0 ≤ p ∧ p < n) ∧ (1 ≤ q0 ∧ q0 ≤ 9) ∧ (0 ≤ x ∧ x ≤ 20) ∧ c < 6
  · refine ⟨(if 0 ≤ p ∧ p < n then (if (1 ≤ q0 ∧ q0 ≤ 9) ∧ 0 ≤ x ∧ x ≤ 20 then (if 6 ≤ c then -104 else (c : Int) + 1) else -102) else -101), ((n, y, w, K, R, V, E), (c + 1, zup A c p, zup Y c q0, zup Q c x), (m, P), lr, b, (n2, y2, w2, K2, R2, V2, E2), (c2, A2, Y2, Q2)), ⟨⟨hn, hy, hw, hr⟩, ⟨by omega, fun j => ⟨zup_r (fun j => (hsr j).1) (by omega) j, zup_r (fun j => (hsr j).2.1) (by omega) j, zup_r (fun j => (hsr j).2.2) (by omega) j⟩⟩, ⟨hm, hpr⟩, (by omega), hb, ⟨hn2, hy2, hw2, hr2⟩, ⟨hc2, hsr2⟩, hbn⟩, ?_, ?_⟩
    · intro σ hR
      have a0 := hR
      obtain ⟨a1, a2, a3, a4, a5, a6⟩ := hR
      refine ⟨_, c_X9_see l G σ n a1.1 hn c A Y Q a2 hsr hc p q0 x hp hq0 hx, fun z τ q => ?_⟩
      obtain ⟨e, q⟩ := q
      rcases q with q | q
      · obtain ⟨-, -, -, -, u, f⟩ := q
        exact ⟨e, ⟨a1.cp (fun a k _ _ => f a k (by omega)), u, a3.cp (fun a k _ _ => f a k (by omega)), (f _ _ (by omega)).trans a4, (f _ _ (by omega)).trans a5, fun hb => ⟨(a6 hb).1.cp (fun a k _ _ => f a k (by omega)), (a6 hb).2.cp (fun a k _ _ => f a k (by omega))⟩⟩, fun o k ho => f o k (by omega)⟩
      · exact absurd hcd (by have := q.1; omega)
    · intro σ hR
      have a0 := hR
      obtain ⟨a1, a2, a3, a4, a5, a6, a7⟩ := hR
      refine ⟨_, c_X10_see l G σ n a1.1 hn c A Y Q a3 hsr hc p q0 x hp hq0 hx, fun z τ q => ?_⟩
      obtain ⟨e, q⟩ := q
      rcases q with q | q
      · obtain ⟨-, -, -, -, u, f⟩ := q
        refine ⟨e, ⟨a1.fr fun o k ho => f o k (by omega) (by omega) (by omega) (by omega), (f _ _ (by omega) (by omega) (by omega) (by omega)).trans a2, u, a4.cp fun o k ho => f o k (by omega) (by omega) (by omega) (by omega), (f _ _ (by omega) (by omega) (by omega) (by omega)).trans a5, by rw [f 108 30 (by omega) (by omega) (by omega) (by omega)]; exact a6, ?_⟩, fun o k ho => f o k (by omega) (by omega) (by omega) (by omega)⟩
        rw [f 108 29 (by omega) (by omega) (by omega) (by omega), f 108 30 (by omega) (by omega) (by omega) (by omega), f 108 0 (by omega) (by omega) (by omega) (by omega)]
        exact a7.imp (fun z => ⟨z.1, z.2.1, z.2.2.fr fun o k _ => f o k (by omega) (by omega) (by omega) (by omega)⟩) id
      · exact absurd hcd (by have := q.1; omega)
  · refine ⟨(if 0 ≤ p ∧ p < n then (if (1 ≤ q0 ∧ q0 ≤ 9) ∧ 0 ≤ x ∧ x ≤ 20 then (if 6 ≤ c then -104 else (c : Int) + 1) else -102) else -101), ((n, y, w, K, R, V, E), (c, A, Y, Q), (m, P), lr, b, (n2, y2, w2, K2, R2, V2, E2), (c2, A2, Y2, Q2)), hok.up (by omega), ?_, ?_⟩
    · intro σ hR
      have a0 := hR
      obtain ⟨a1, a2, a3, a4, a5, a6⟩ := hR
      refine ⟨_, c_X9_see l G σ n a1.1 hn c A Y Q a2 hsr hc p q0 x hp hq0 hx, fun z τ q => ?_⟩
      obtain ⟨e, q⟩ := q
      rcases q with q | q
      · exact absurd (by omega) hcd
      · obtain ⟨-, rfl⟩ := q; exact ⟨e, a0, fun _ _ _ => rfl⟩
    · intro σ hR
      have a0 := hR
      obtain ⟨a1, a2, a3, a4, a5, a6, a7⟩ := hR
      refine ⟨_, c_X10_see l G σ n a1.1 hn c A Y Q a3 hsr hc p q0 x hp hq0 hx, fun z τ q => ?_⟩
      obtain ⟨e, q⟩ := q
      rcases q with q | q
      · exact absurd (by omega) hcd
      · obtain ⟨-, rfl⟩ := q; exact ⟨e, a0, fun _ _ _ => rfl⟩
set_option maxHeartbeats 1000000 in
theorem k_blank (l : Launch) (G : zGt) (N : Int) (hN : 0 ≤ N ∧ N ≤ 1000) (g : zGs) (h : zOk N g) : zCs l G N g yX9_blank cX9_blank 2 0 yX10_blank cX10_blank 2 0 [] := by
  obtain ⟨⟨n, y, w, K, R, V, E⟩, ⟨c, A, Y, Q⟩, ⟨m, P⟩, lr, b, ⟨n2, y2, w2, K2, R2, V2, E2⟩, ⟨c2, A2, Y2, Q2⟩⟩ := g
  have hok := h
  obtain ⟨⟨hn, hy, hw, hr⟩, ⟨hc, hsr⟩, ⟨hm, hpr⟩, hlr, hb, ⟨hn2, hy2, hw2, hr2⟩, ⟨hc2, hsr2⟩, hbn⟩ := h
  refine ⟨(m : Int), ((n, y, w, K, R, V, E), (c, A, Y, Q), (0, P), lr, b, (n2, y2, w2, K2, R2, V2, E2), (c2, A2, Y2, Q2)), ⟨⟨hn, hy, hw, hr⟩, ⟨hc, hsr⟩, ⟨by omega, hpr⟩, (by omega), hb, ⟨hn2, hy2, hw2, hr2⟩, ⟨hc2, hsr2⟩, hbn⟩, ?_, ?_⟩
  · intro σ hR
    have a0 := hR
    obtain ⟨a1, a2, a3, a4, a5, a6⟩ := hR
    refine ⟨_, c_X9_blank l G σ m P a3 hpr hm, fun z τ q => ?_⟩
    obtain ⟨e, rfl⟩ := q
    have f : ∀ o k, (o ≠ 1 ∨ k ≠ 1) → zU σ 1 1 0 o k = σ o k := fun o k ho => by unfold zU; rw [if_neg (by omega)]
    exact ⟨e, ⟨a1.cp (fun a k _ _ => f a k (by omega)), a2.cp (fun a k _ _ => f a k (by omega)), ⟨zU_at, fun i hi => absurd hi (Nat.not_lt_zero _)⟩, (f _ _ (by omega)).trans a4, (f _ _ (by omega)).trans a5, fun hb => ⟨(a6 hb).1.cp (fun a k _ _ => f a k (by omega)), (a6 hb).2.cp (fun a k _ _ => f a k (by omega))⟩⟩, fun o k ho => f o k (by omega)⟩
  · intro σ hR
    have a0 := hR
    obtain ⟨a1, a2, a3, a4, a5, a6, a7⟩ := hR
    refine ⟨_, c_X10_blank l G σ m P a4 hpr hm, fun z τ q => ?_⟩
    obtain ⟨e, rfl⟩ := q
    have f : ∀ o k, (o ≠ 108 ∨ k ≠ 12) → zU σ 108 12 0 o k = σ o k := fun o k ho => by unfold zU; rw [if_neg (by omega)]
    refine ⟨e, ⟨a1.fr fun o k ho => f o k (by omega), (f _ _ (by omega)).trans a2, a3.fr fun o k ho => f o k (by omega), ⟨zU_at, fun i hi => absurd hi (Nat.not_lt_zero _)⟩, (f _ _ (by omega)).trans a5, by rw [f 108 30 (by omega)]; exact a6, ?_⟩, fun o k ho => f o k (by omega)⟩
    rw [f 108 29 (by omega), f 108 30 (by omega), f 108 0 (by omega)]
    exact a7.imp (fun z => ⟨z.1, z.2.1, z.2.2.fr fun o k _ => f o k (by omega)⟩) id
set_option maxHeartbeats 1000000 in
theorem k_forget (l : Launch) (G : zGt) (N : Int) (hN : 0 ≤ N ∧ N ≤ 1000) (g : zGs) (h : zOk N g) : zCs l G N g yX9_forget cX9_forget 2 0 yX10_forget cX10_forget 2 0 [] := by
  obtain ⟨⟨n, y, w, K, R, V, E⟩, ⟨c, A, Y, Q⟩, ⟨m, P⟩, lr, b, ⟨n2, y2, w2, K2, R2, V2, E2⟩, ⟨c2, A2, Y2, Q2⟩⟩ := g
  have hok := h
  obtain ⟨⟨hn, hy, hw, hr⟩, ⟨hc, hsr⟩, ⟨hm, hpr⟩, hlr, hb, ⟨hn2, hy2, hw2, hr2⟩, ⟨hc2, hsr2⟩, hbn⟩ := h
  refine ⟨(c : Int), ((n, y, w, K, R, V, E), (0, A, Y, Q), (m, P), lr, b, (n2, y2, w2, K2, R2, V2, E2), (c2, A2, Y2, Q2)), ⟨⟨hn, hy, hw, hr⟩, ⟨by omega, hsr⟩, ⟨hm, hpr⟩, (by omega), hb, ⟨hn2, hy2, hw2, hr2⟩, ⟨hc2, hsr2⟩, hbn⟩, ?_, ?_⟩
  · intro σ hR
    have a0 := hR
    obtain ⟨a1, a2, a3, a4, a5, a6⟩ := hR
    refine ⟨_, c_X9_forget l G σ c a2.1 hc, fun z τ q => ?_⟩
    obtain ⟨e, rfl⟩ := q
    have f : ∀ o k, (o ≠ 13 ∨ k ≠ 3) → zU σ 13 3 0 o k = σ o k := fun o k ho => by unfold zU; rw [if_neg (by omega)]
    exact ⟨e, ⟨a1.cp (fun a k _ _ => f a k (by omega)), ⟨zU_at, fun i hi => absurd hi (Nat.not_lt_zero _)⟩, a3.cp (fun a k _ _ => f a k (by omega)), (f _ _ (by omega)).trans a4, (f _ _ (by omega)).trans a5, fun hb => ⟨(a6 hb).1.cp (fun a k _ _ => f a k (by omega)), (a6 hb).2.cp (fun a k _ _ => f a k (by omega))⟩⟩, fun o k ho => f o k (by omega)⟩
  · intro σ hR
    have a0 := hR
    obtain ⟨a1, a2, a3, a4, a5, a6, a7⟩ := hR
    refine ⟨_, c_X10_forget l G σ c a3.1 hc, fun z τ q => ?_⟩
    obtain ⟨e, rfl⟩ := q
    have f : ∀ o k, (o ≠ 108 ∨ k ≠ 8) → zU σ 108 8 0 o k = σ o k := fun o k ho => by unfold zU; rw [if_neg (by omega)]
    refine ⟨e, ⟨a1.fr fun o k ho => f o k (by omega), (f _ _ (by omega)).trans a2, ⟨zU_at, fun i hi => absurd hi (Nat.not_lt_zero _)⟩, a4.cp fun o k ho => f o k (by omega), (f _ _ (by omega)).trans a5, by rw [f 108 30 (by omega)]; exact a6, ?_⟩, fun o k ho => f o k (by omega)⟩
    rw [f 108 29 (by omega), f 108 30 (by omega), f 108 0 (by omega)]
    exact a7.imp (fun z => ⟨z.1, z.2.1, z.2.2.fr fun o k _ => f o k (by omega)⟩) id
set_option maxHeartbeats 1000000 in
theorem k_lane (l : Launch) (G : zGt) (N : Int) (hN : 0 ≤ N ∧ N ≤ 1000) (g : zGs) (h : zOk N g) : zCs l G N g yX9_lane cX9_lane 2 12 yX10_lane cX10_lane 2 3 [] := by
  obtain ⟨⟨n, y, w, K, R, V, E⟩, ⟨c, A, Y, Q⟩, ⟨m, P⟩, lr, b, ⟨n2, y2, w2, K2, R2, V2, E2⟩, ⟨c2, A2, Y2, Q2⟩⟩ := g
  have hok := h
  obtain ⟨⟨hn, hy, hw, hr⟩, ⟨hc, hsr⟩, ⟨hm, hpr⟩, hlr, hb, ⟨hn2, hy2, hw2, hr2⟩, ⟨hc2, hsr2⟩, hbn⟩ := h
  by_cases hcd : zIsL P m
  · obtain ⟨z1, z2, z3, z4⟩ := hcd.ok
    refine ⟨((m + 1) / 4 : Nat), (((m + 1) / 4, 0, 0, zKl P ((m + 1) / 4), zRl P ((m + 1) / 4), zVl P ((m + 1) / 4), fun _ => 0), (0, A, Y, Q), (0, P), lr + 1, 0, (n2, y2, w2, K2, R2, V2, E2), (c2, A2, Y2, Q2)), ⟨⟨z2, by omega, by omega, z4⟩, ⟨by omega, hsr⟩, ⟨by omega, hpr⟩, (by omega), Or.inl rfl, ⟨hn2, hy2, hw2, hr2⟩, ⟨hc2, hsr2⟩, fun z => absurd rfl z⟩, ?_, ?_⟩
    · intro σ hR
      have a0 := hR
      obtain ⟨a1, a2, a3, a4, a5, a6⟩ := hR
      refine ⟨_, c_X9_lane l G σ m P a3 hpr hm n a1.1 lr a4 (by omega), fun z τ q => ?_⟩
      rcases q with ⟨-, e, u, p1, p13, p11, p12, f⟩ | q
      · exact ⟨e, ⟨u, ⟨p13, fun i hi => absurd hi (Nat.not_lt_zero _)⟩, ⟨p1, fun i hi => absurd hi (Nat.not_lt_zero _)⟩, p12, p11, fun z => absurd rfl z⟩, fun o k ho => f o k (by omega)⟩
      · exact absurd hcd q.1
    · intro σ hR
      have a0 := hR
      obtain ⟨a1, a2, a3, a4, a5, a6, a7⟩ := hR
      refine ⟨_, c_X10_lane l G σ m P a4 hpr hm lr a5 (by omega), fun z τ q => ?_⟩
      rcases q with ⟨-, e, u, ⟨p7, p0, p8, p12⟩, f⟩ | q
      · have e30 : τ 108 30 = σ 108 30 := f _ _ (by omega)
        exact ⟨e, ⟨u, p7, ⟨p8, fun i hi => absurd hi (Nat.not_lt_zero _)⟩, ⟨p12, fun i hi => absurd hi (Nat.not_lt_zero _)⟩, p0, by omega, Or.inr ⟨rfl, by omega⟩⟩, fun o k ho => f o k (by omega)⟩
      · exact absurd hcd q.1
  · refine ⟨-103, ((n, y, w, K, R, V, E), (c, A, Y, Q), (m, P), lr, b, (n2, y2, w2, K2, R2, V2, E2), (c2, A2, Y2, Q2)), hok.up (by omega), ?_, ?_⟩
    · intro σ hR
      have a0 := hR
      obtain ⟨a1, a2, a3, a4, a5, a6⟩ := hR
      refine ⟨_, c_X9_lane l G σ m P a3 hpr hm n a1.1 lr a4 (by omega), fun z τ q => ?_⟩
      rcases q with q | ⟨-, e, rfl⟩
      · exact absurd q.1 hcd
      · exact ⟨e, a0, fun _ _ _ => rfl⟩
    · intro σ hR
      have a0 := hR
      obtain ⟨a1, a2, a3, a4, a5, a6, a7⟩ := hR
      refine ⟨_, c_X10_lane l G σ m P a4 hpr hm lr a5 (by omega), fun z τ q => ?_⟩
      rcases q with q | ⟨-, e, f⟩
      · exact absurd q.1 hcd
      · exact ⟨e, a0.kh n y K R V E (a1.fr fun o k ho => f o k (by omega)) (fun o k ho => f o k (by omega)), fun o k ho => f o k (by omega)⟩
set_option maxHeartbeats 1000000 in
theorem k_image (l : Launch) (G : zGt) (N : Int) (hN : 0 ≤ N ∧ N ≤ 1000) (g : zGs) (h : zOk N g) : zCs l G N g yX9_image cX9_image 1 2 yX10_image cX10_image 2 0 [] := by
  obtain ⟨⟨n, y, w, K, R, V, E⟩, ⟨c, A, Y, Q⟩, ⟨m, P⟩, lr, b, ⟨n2, y2, w2, K2, R2, V2, E2⟩, ⟨c2, A2, Y2, Q2⟩⟩ := g
  have hok := h
  obtain ⟨⟨hn, hy, hw, hr⟩, ⟨hc, hsr⟩, ⟨hm, hpr⟩, hlr, hb, ⟨hn2, hy2, hw2, hr2⟩, ⟨hc2, hsr2⟩, hbn⟩ := h
  by_cases hcd : n ≠ 0
  · refine ⟨(if n = 0 then -103 else y), ((n, y, w, K, R, V, E), (c, A, Y, Q), (m, P), lr, 1, (n, y, w, K, R, V, E), (c, A, Y, Q)), ⟨⟨hn, hy, hw, hr⟩, ⟨hc, hsr⟩, ⟨hm, hpr⟩, (by omega), Or.inr rfl, ⟨hn, hy, hw, hr⟩, ⟨hc, hsr⟩, fun _ => rfl⟩, ?_, ?_⟩
    · intro σ hR
      have a0 := hR
      obtain ⟨a1, a2, a3, a4, a5, a6⟩ := hR
      refine ⟨_, c_X9_image l G σ n y w K R V E a1 hr hn c A Y Q a2 hsr hc, fun z τ q => ?_⟩
      obtain ⟨e, q⟩ := q
      rcases q with ⟨-, u, u2, p11, f⟩ | q
      · exact ⟨e, ⟨a1.cp fun a k _ _ => f a k (by omega) (by omega), a2.cp fun a k _ _ => f a k (by omega) (by omega), a3.cp fun a k _ _ => f a k (by omega) (by omega), (f _ _ (by omega) (by omega)).trans a4, p11, fun _ => ⟨u, u2⟩⟩, fun o k ho => f o k (by omega) (by omega)⟩
      · exact absurd q.1 hcd
    · intro σ hR
      have a0 := hR
      obtain ⟨a1, a2, a3, a4, a5, a6, a7⟩ := hR
      refine ⟨_, c_X10_image l G σ n y K R V E a1 hr hn c A Y Q a3 hsr hc w a2 (by omega) (by omega) lr a5 (by omega), fun z τ q => ?_⟩
      obtain ⟨e, q⟩ := q
      rcases q with ⟨-, p29, p30, u, f⟩ | q
      · have e0 : τ 108 0 = lr := (f _ _ (by omega) (by omega)).trans a5
        exact ⟨e, ⟨a1.fr fun o k ho => f o k (by omega) (by omega), (f _ _ (by omega) (by omega)).trans a2, a3.fr fun o k ho => f o k (by omega) (by omega), a4.cp fun o k ho => f o k (by omega) (by omega), e0, by omega, Or.inl ⟨by omega, ⟨by omega, by omega⟩, u⟩⟩, fun o k ho => f o k (by omega) (by omega)⟩
      · exact absurd q.1 hcd
  · refine ⟨(if n = 0 then -103 else y), ((n, y, w, K, R, V, E), (c, A, Y, Q), (m, P), lr, b, (n2, y2, w2, K2, R2, V2, E2), (c2, A2, Y2, Q2)), hok.up (by omega), ?_, ?_⟩
    · intro σ hR
      have a0 := hR
      obtain ⟨a1, a2, a3, a4, a5, a6⟩ := hR
      refine ⟨_, c_X9_image l G σ n y w K R V E a1 hr hn c A Y Q a2 hsr hc, fun z τ q => ?_⟩
      obtain ⟨e, q⟩ := q
      rcases q with q | ⟨-, rfl⟩
      · exact absurd q.1 hcd
      · exact ⟨e, a0, fun _ _ _ => rfl⟩
    · intro σ hR
      have a0 := hR
      obtain ⟨a1, a2, a3, a4, a5, a6, a7⟩ := hR
      refine ⟨_, c_X10_image l G σ n y K R V E a1 hr hn c A Y Q a3 hsr hc w a2 (by omega) (by omega) lr a5 (by omega), fun z τ q => ?_⟩
      obtain ⟨e, q⟩ := q
      rcases q with q | ⟨-, rfl⟩
      · exact absurd q.1 hcd
      · exact ⟨e, a0, fun _ _ _ => rfl⟩
set_option maxHeartbeats 1000000 in
theorem k_restore (l : Launch) (G : zGt) (N : Int) (hN : 0 ≤ N ∧ N ≤ 1000) (g : zGs) (h : zOk N g) : zCs l G N g yX9_restore cX9_restore 1 2 yX10_restore cX10_restore 2 0 [] := by
  obtain ⟨⟨n, y, w, K, R, V, E⟩, ⟨c, A, Y, Q⟩, ⟨m, P⟩, lr, b, ⟨n2, y2, w2, K2, R2, V2, E2⟩, ⟨c2, A2, Y2, Q2⟩⟩ := g
  have hok := h
  obtain ⟨⟨hn, hy, hw, hr⟩, ⟨hc, hsr⟩, ⟨hm, hpr⟩, hlr, hb, ⟨hn2, hy2, hw2, hr2⟩, ⟨hc2, hsr2⟩, hbn⟩ := h
  by_cases hcd : b ≠ 0
  · obtain rfl := hbn hcd
    refine ⟨(if b = 0 then -103 else y2), ((n2, y2, w2, K2, R2, V2, E2), (c2, A2, Y2, Q2), (m, P), lr, b, (n2, y2, w2, K2, R2, V2, E2), (c2, A2, Y2, Q2)), ⟨⟨hn2, hy2, hw2, hr2⟩, ⟨hc2, hsr2⟩, ⟨hm, hpr⟩, (by omega), hb, ⟨hn2, hy2, hw2, hr2⟩, ⟨hc2, hsr2⟩, fun _ => rfl⟩, ?_, ?_⟩
    · intro σ hR
      have a0 := hR
      obtain ⟨a1, a2, a3, a4, a5, a6⟩ := hR
      refine ⟨_, c_X9_restore l G σ b n2 y2 w2 K2 R2 V2 E2 c2 A2 Y2 Q2 a5 (fun z => (a6 z).1) hn2 (fun z => (a6 z).2) hc2, fun z τ q => ?_⟩
      obtain ⟨e, q⟩ := q
      rcases q with ⟨-, u, u2, f⟩ | q
      · exact ⟨e, ⟨u, u2, a3.cp (fun a k _ _ => f a k (by omega)), (f _ _ (by omega)).trans a4, (f _ _ (by omega)).trans a5, fun hb => ⟨(a6 hb).1.cp (fun a k _ _ => f a k (by omega)), (a6 hb).2.cp (fun a k _ _ => f a k (by omega))⟩⟩, fun o k ho => f o k (by omega)⟩
      · exact absurd q.1 hcd
    · intro σ hR
      have a0 := hR
      obtain ⟨a1, a2, a3, a4, a5, a6, a7⟩ := hR
      refine ⟨_, c_X10_restore l G σ n2 y2 w2 K2 R2 V2 E2 c2 A2 Y2 Q2 a1.1 hn2 hc2 b a7, fun z τ q => ?_⟩
      obtain ⟨e, q⟩ := q
      rcases q with ⟨-, u, e7, u2, f⟩ | q
      · refine ⟨e, ⟨u, e7, u2, a4.cp fun o k ho => f o k (by omega) (by omega), (f _ _ (by omega) (by omega)).trans a5, by rw [f 108 30 (by omega) (by omega)]; exact a6, ?_⟩, fun o k ho => f o k (by omega) (by omega)⟩
        rw [f 108 29 (by omega) (by omega), f 108 30 (by omega) (by omega), f 108 0 (by omega) (by omega)]
        exact a7.imp (fun z => ⟨z.1, z.2.1, z.2.2.fr fun o k _ => f o k (by omega) (by omega)⟩) id
      · exact absurd q.1 hcd
  · refine ⟨(if b = 0 then -103 else y2), ((n, y, w, K, R, V, E), (c, A, Y, Q), (m, P), lr, b, (n2, y2, w2, K2, R2, V2, E2), (c2, A2, Y2, Q2)), hok.up (by omega), ?_, ?_⟩
    · intro σ hR
      have a0 := hR
      obtain ⟨a1, a2, a3, a4, a5, a6⟩ := hR
      refine ⟨_, c_X9_restore l G σ b n2 y2 w2 K2 R2 V2 E2 c2 A2 Y2 Q2 a5 (fun z => (a6 z).1) hn2 (fun z => (a6 z).2) hc2, fun z τ q => ?_⟩
      obtain ⟨e, q⟩ := q
      rcases q with q | ⟨-, rfl⟩
      · exact absurd q.1 hcd
      · exact ⟨e, a0, fun _ _ _ => rfl⟩
    · intro σ hR
      have a0 := hR
      obtain ⟨a1, a2, a3, a4, a5, a6, a7⟩ := hR
      have hb0 : b = 0 := by omega
      refine ⟨_, c_X10_restore l G σ n y2 w2 K2 R2 V2 E2 c2 A2 Y2 Q2 a1.1 hn hc2 b (Or.inr ⟨hb0, (a7.resolve_left (fun z => z.1 hb0)).2⟩), fun z τ q => ?_⟩
      obtain ⟨e, q⟩ := q
      rcases q with q | ⟨-, rfl⟩
      · exact absurd q.1 hcd
      · exact ⟨e, a0, fun _ _ _ => rfl⟩
set_option maxHeartbeats 1000000 in
theorem k_digest (l : Launch) (G : zGt) (N : Int) (hN : 0 ≤ N ∧ N ≤ 1000) (g : zGs) (h : zOk N g) : ∃ x : Int, (∀ σ, zRc σ g → ∃ q, zN l G yX9_digest cX9_digest 4 (some .long) 20 [.ref (zB G + 0)] σ (zPl q) ∧ ∀ z τ, q z τ → z = x ∧ zRc τ g ∧ zHi σ τ) ∧ (∀ σ, zRm σ g → ∃ q, zN l G yX10_digest cX10_digest 2 (some .long) 8 [.ref (zB G + 108)] σ (zPl q) ∧ ∀ z τ, q z τ → z = x ∧ zRm τ g ∧ zLo σ τ) := by
  obtain ⟨⟨n, y, w, K, R, V, E⟩, ⟨c, A, Y, Q⟩, ⟨m, P⟩, lr, b, ⟨n2, y2, w2, K2, R2, V2, E2⟩, ⟨c2, A2, Y2, Q2⟩⟩ := g
  have hok := h
  obtain ⟨⟨hn, hy, hw, hr⟩, ⟨hc, hsr⟩, ⟨hm, hpr⟩, hlr, hb, ⟨hn2, hy2, hw2, hr2⟩, ⟨hc2, hsr2⟩, hbn⟩ := h
  refine ⟨zaDig n y w K R V E c A Y Q m P lr, ?_, ?_⟩
  · intro σ hR
    have a0 := hR
    obtain ⟨a1, a2, a3, a4, a5, a6⟩ := hR
    refine ⟨_, c_X9_digest l G σ n y w K R V E a1 hr hn c A Y Q a2 hsr hc m P a3 hpr hm lr a4 (by omega) (by omega), fun z τ q => ?_⟩
    obtain ⟨e, f⟩ := q
    exact ⟨e, a0.fr (fun o k ho => f o k (by omega)), fun o k ho => f o k (by omega)⟩
  · intro σ hR
    have a0 := hR
    obtain ⟨a1, a2, a3, a4, a5, a6, a7⟩ := hR
    refine ⟨_, c_X10_digest l G σ n y K R V E a1 hr hn c A Y Q a3 hsr hc m P a4 hpr hm w a2 (by omega) lr a5 (by omega) (by omega), fun z τ q => ?_⟩
    obtain ⟨e, u, f⟩ := q
    exact ⟨e, a0.kh n y K R V E u f, fun o k ho => f o k (by omega)⟩
