/-! the world at the law's entry -/
theorem zinst : ∀ c, c < 11 → zin (.instantiable (zq c).1 (zq c).2.2) := fun c hc => by
  rcases (show c = 0 ∨ c = 1 ∨ c = 2 ∨ c = 3 ∨ c = 4 ∨ c = 5 ∨ c = 6 ∨ c = 7 ∨ c = 8 ∨ c = 9 ∨ c = 10 by omega) with rfl | rfl | rfl | rfl | rfl | rfl | rfl | rfl | rfl | rfl | rfl
  · exact nW_0.1
  · exact nW_1.1
  · exact nW_2.1
  · exact nW_3.1
  · exact nW_4.1
  · exact nW_5.1
  · exact nW_6.1
  · exact nW_7.1
  · exact nW_8.1
  · exact nW_9.1
  · exact nW_10.1
theorem zwS : (Cond.stringRef RX2 43 "hwoyt") ∈ lw_tbl ∧ (Cond.arrayOver (.object RX1)) ∈ lw_tbl ∧ (Cond.laysStatic "java/lang/String" "COMPACT_STRINGS" "Z") ∈ lw_tbl ∧ (Cond.initialized "java/lang/String") ∈ lw_tbl ∧ (Cond.laysStatic "jdk/internal/util/Preconditions" "SIOOBE_FORMATTER" "Ljava/util/function/BiFunction;") ∈ lw_tbl ∧ (Cond.initialized "jdk/internal/util/Preconditions") ∈ lw_tbl := by decide +kernel
theorem zarrOf {s : State} {cA : ClassId} {kA : Class} {comp : ClassId} {ty : FieldType} (h2 : s.vm.classes[cA]? = some kA) (h3 : kA.kind = .array comp ty) : ArrOfT s cA ty := fun n z => ⟨(fun k h => by cases h), kA, h2, comp, h3⟩
set_option maxHeartbeats 1000000 in
theorem z_start {b : Nat} {s : State} (hts : ∀ w ∈ lw_tbl, w.before #[Value.ref b] s = true) (hgv : (Jvm.Cond.and given_1 narrow_1).before #[Value.ref b] s = true) : ∃ G : zGt, zB G = s.heap.size ∧ zS G s s.heap := by
  have hs := flat_of_before _ hgv
  have hA : ∀ a : Nat, a < s.heap.size → ¬ (fun q : Nat => s.heap.size ≤ q) a := fun a h => Nat.not_le.mpr h
  obtain ⟨w1, w2, w3, w4, w5, w6⟩ := zwS
  have hk : ∀ c, ∃ p : ClassId × (Nat → Nat), c < 11 → u_Kn s (zq c).1 (zq c).2.1 (zq c).2.2 p.1 p.2 := fun c => by
    by_cases hc : c < 11
    · obtain ⟨cC, iS, h⟩ := u_known (ws := lw_tbl) (n := (zq c).2.2) hts (fun w hw => (zcl_in hc w hw).1) (hts _ (zinst c hc).1)
      exact ⟨(cC, iS), fun _ => h⟩
    · exact ⟨(0, fun _ => 0), fun h => absurd h hc⟩
  obtain ⟨f, hf⟩ := Classical.axiomOfChoice hk
  obtain ⟨cI, kI, compI, i1, i2, i3⟩ := Cond.arrayClass_spec (hts _ aI.1.1)
  obtain ⟨cB, kB, compB, j1, j2, j3⟩ := Cond.arrayClass_spec (hts _ aI.2.1)
  obtain ⟨compL, cL, kL, l1, -, l2, l3, l4⟩ := Cond.arrayOver_spec (hts _ w2)
  obtain ⟨adK, adV, hS, hev⟩ := vk_Sof (args := #[Value.ref b]) (s := s) (N := 1) (tm := fun _ => .string "ThatchLane$Page" 43) (len := [5]) (byt := [[104, 119, 111, 121, 116]]) (A := fun q : Nat => s.heap.size ≤ q)
    (fun i hi => by rw [show i = 0 by omega]; decide) (fun i hi => hs _ (by decide +kernel)) (fun i hi => hs _ (by decide +kernel)) (fun i hi => hs _ (by decide +kernel)) (fun i hi => by rw [show i = 0 by omega]; exact hs _ (by decide +kernel))
    (fun i hi j hj => by
      rw [show i = 0 by omega] at hj ⊢
      have hj : j < 5 := hj
      rcases (show j = 0 ∨ j = 1 ∨ j = 2 ∨ j = 3 ∨ j = 4 by omega) with rfl | rfl | rfl | rfl | rfl <;> exact hs _ (by decide +kernel))
    (fun i j hi hj hij => absurd (show i = j by omega) hij) hA
  refine ⟨(s.heap.size, (fun c => (f c).1, fun c => (f c).2), (cI, cB, cL), (adK, adV)), rfl, ⟨fun c q hq => ?_, fun k q hq => ?_⟩, va_AO.of (hts _ w2), ⟨fun w hw hg a => word_at (args := #[Value.ref b]) (State.WarmedH.refl s) (good_of_word hg) (hts w hw), fun o i r n d h hw => va_Nw.of rfl (hts _ hw), fun o i x h hw => va_Nw.of rfl (hts _ hw)⟩, vk_R.of (hts _ w1) (hev 0 (by decide)), hS, va_Zof (hts _ w3) (hts _ w4) (va_eqi (hs _ (by decide +kernel))) hA, va_Zqof (hts _ w5) (hts _ w6) (hs _ (by decide +kernel)) hA⟩
  · have hc : c < 11 := (List.getElem?_eq_some_iff.mp hq).1
    obtain rfl : q = zq c := Option.some.inj (hq.symm.trans (zq_at hc))
    exact hf c hc
  · have hk3 : k < 3 := (List.getElem?_eq_some_iff.mp hq).1
    rcases (show k = 0 ∨ k = 1 ∨ k = 2 by omega) with rfl | rfl | rfl
    · cases hq; exact ⟨zarrOf i2 i3, i1⟩
    · cases hq; exact ⟨zarrOf j2 j3, j1⟩
    · cases hq; exact ⟨zarrOf l2 l3, kL, compL, l2, l3, l1, l4⟩
