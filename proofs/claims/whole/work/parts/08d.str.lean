/-! the String constant, and the JDK's own methods on it -/
def zcS (y : MethodName) (cc : ByteArray) (nL : Nat) (ret : Option FieldType) (n : Nat) : Prop := zin (.code y cc nL ret) ∧ zin (.initialized y.cls) ∧ zin (.instanceMethod y) ∧ zin (.selects RJ0 y y) ∧ zny y n
section ZSTR
variable {G : zGt} {X : zXt} {c : Bool} {nL T ce sl pc fr lo mc ms T1 : Nat} {lv : List (Nat × Value)} {st : List Value} {σ : zMem} {cc : ByteArray} {own : String} {ret : Option FieldType} {post : Option Value → zMem → Prop} {isI : Bool} {l : Launch}
theorem z_getS (C : zC G X cc nL own ret c fr lo mc ms T1 post isI l) {n d : String} {v : Value} {index q : Nat} (hE : va_OF "java/lang/String" n d v q (zA G) X.2.2.2.2.1 X.2.2.2.2.1.heap) (hl : zin (.fieldLink own index "java/lang/String" n d)) (hd : decode cc pc = .ok (.getfield index, 3))
    (kk : zg G X c nL T ce sl (pc + 3) lv (v :: st) σ) : zg G X c nL T ce sl pc lv (.ref q :: st) σ := fun H locs ls hz hP hS hl0 hb =>
  vk_getf C.1 C.2.1 hE hS C.2.2.2.1 (C.2.2.2.2.1.2.2.1.use hl _) (fun _ h => h) hd (kk H locs ls hz hP hS hl0 hb)
theorem z_stat (C : zC G X cc nL own ret c fr lo mc ms T1 post isI l) {k n d : String} {v : Value} {index : Nat} (hZ : va_Z k n d v (zA G) X.2.2.2.2.1 X.2.2.2.2.1.heap) (hl : zin (.fieldLink own index k n d)) (hd : decode cc pc = .ok (.getstatic index, 3))
    (kk : zg G X c nL T ce sl (pc + 3) lv (v :: st) σ) : zg G X c nL T ce sl pc lv st σ := fun H locs ls hz hP hS hl0 hb =>
  va_gets C.1 C.2.1 hZ hS C.2.2.2.1 (C.2.2.2.2.1.2.2.1.use hl _) (fun _ h => h) hd (kk H locs ls hz hP hS hl0 hb)
theorem z_ldcS (C : zC G X cc nL own ret c fr lo mc ms T1 post isI l) {tx : String} {index q : Nat} (hZ : vk_R own index tx q X.2.2.2.2.1) (hd : decode cc pc = .ok (.ldc index, 2))
    (kk : zg G X c nL T ce sl (pc + 2) lv (.ref q :: st) σ) : zg G X c nL T ce sl pc lv st σ := fun H locs ls hz hP hS hl0 hb =>
  va_ldcS C.1 C.2.1 C.2.2.2.1 hZ hd (kk H locs ls hz hP hS hl0 hb)
theorem z_tlen (C : zC G X cc nL own ret c fr lo mc ms T1 post isI l) {ty : FieldType} {t N : Nat} {f : Nat → Value} (hT : va_T ty t N f (zA G) X.2.2.2.2.1 X.2.2.2.2.1.heap) (hd : decode cc pc = .ok (.arraylength, 1))
    (kk : zg G X c nL T ce sl (pc + 1) lv (.int (zI (N : Int)) :: st) σ) : zg G X c nL T ce sl pc lv (.ref t :: st) σ := fun H locs ls hz hP hS hl0 hb =>
  va_tlen C.1 C.2.1 hT hS (v := zI (N : Int)) Int32.ofInt_eq_ofNat.symm hd (kk H locs ls hz hP hS hl0 hb)
theorem z_tb (C : zC G X cc nL own ret c fr lo mc ms T1 post isI l) {t N : Nat} {f : Nat → Value} {i : Nat} {a : Int} (hT : va_T .byte t N f (zA G) X.2.2.2.2.1 X.2.2.2.2.1.heap) (ha : a = i) (hi : i < N) (hN : N < 2147483648) (hd : decode cc pc = .ok (.baload, 1))
    (kk : zg G X c nL T ce sl (pc + 1) lv (f i :: st) σ) : zg G X c nL T ce sl pc lv (.int (zI a) :: .ref t :: st) σ := fun H locs ls hz hP hS hl0 hb => by
  subst ha
  exact va_tb C.1 C.2.1 hT hS (zI_in hi hN) (by rw [zI_nat (by omega)]) hd (kk H locs ls hz hP hS hl0 hb)
theorem z_i2c (C : zC G X cc nL own ret c fr lo mc ms T1 post isI l) {x : Int32} {r : Int} (hd : decode cc pc = .ok (.i2c, 1)) (h : (x.toUInt32 % 65536).toInt32 = zI r) (kk : zg G X c nL T ce sl (pc + 1) lv (.int (zI r) :: st) σ) : zg G X c nL T ce sl pc lv (.int x :: st) σ := fun H locs ls hz hP hS hl hb =>
  lv_i2c C.1 C.2.1 hd h (kk H locs ls hz hP hS hl hb)
theorem z_nret {ty : FieldType} (C : zC G X cc nL own (some ty) c fr lo ce sl T post isI l) {a : Int} (hd : decode cc pc = .ok (.ireturn, 1)) (hn : narrow ty (.int (zI a)) = .int (zI a)) (hp : post (some (.int (zI a))) σ) : zg G X c nL T ce sl pc lv [.int (zI a)] σ := fun H locs ls hz hP hS hl hb => by
  rw [C.2.2.2.2.2.2.2.2.2.1]
  exact W.zret C.1 C.2.1 C.2.2.2.2.2.2.2.1 hn (z_end C hz hP hS hb hp) hS.2.2 hd C.2.2.2.2.2.2.1
/-- invokevirtual on the constant -/
theorem z_VS (C : zC G X cc nL own ret c fr lo mc ms T1 post isI l) {y : MethodName} {ccy : ByteArray} {nLy : Nat} {rety : Option FieldType} {fry loy mcy msy Ty n index : Nat} {av As rest : List Value} {posty : Option Value → zMem → Prop}
    (hM : zM l G y ccy nLy rety c fry loy mcy msy T Ty av σ posty) (hl : zml own index y) (hy : zcS y ccy nLy rety n) (hd : decode cc pc = .ok (.invokevirtual index, 3)) (hav : av = .ref (G.2.2.2.1 0) :: As) (hst : st = As.reverse ++ .ref (G.2.2.2.1 0) :: rest) (hn : As.length = n) (hW : (rest.map fun v => v.category).sum ≤ 8) (hR : (fry + 1 ≤ fr ∧ 8 + (nLy + 11) + loy ≤ lo) ∧ ce + mcy ≤ mc ∧ sl + msy ≤ ms) (hle : T ≤ Ty)
    (kk : ∀ (v : Option Value) (τ : zMem), posty v τ → zg G X c nL Ty (ce + mcy) (sl + msy) (pc + 3) lv (v.toList ++ rest) τ) : zg G X c nL T ce sl pc lv st σ := fun H locs ls hz hP hS hl0 hb => by
  obtain ⟨w1, w2, w3, w4, hny⟩ := hy
  have hTW := C.2.2.2.2.1.2.2.1
  have hMet : Met X.2.1 y [.code y ccy nLy rety] { frames := fry, cells := mcy, slots := msy, locals := loy } (va_Pc av (zP G c T σ)) (zQ G c Ty posty) mcy msy (zA G) := by
    rw [C.2.2.2.2.2.2.2.2.2.2.2]; exact hM
  have hRR := C.2.2.2.2.2.2.2.2.1
  have hws : ∀ w ∈ [Cond.code y ccy nLy rety], ∀ (a' : Array Value) (U : State), X.2.2.2.2.1.WarmedH U.vm → w.before a' U = true := fun w hw a' U hWU => by
    rw [List.mem_singleton] at hw; subst hw
    exact word_at (args := #[]) hWU (good_of_word w1.2) (hTW.use w1 _)
  refine z_after (a := (Value.ref (G.2.2.2.1 0) :: As).toArray) (rest := rest) hz hS hl0 hle ?_ kk
  have hp : PreV X.2.2.2.2.1 H RJ0 (G.2.2.2.1 0) (va_Pc av (zP G c T σ)) As := ⟨zP.blind, vk_recv (i := 0) C.2.2.2.2.1.2.2.2.2.1 (by decide) hS, fun U hU hWU => ⟨by rw [hav], z_pre C hz hP hS hb hU hWU⟩⟩
  rcases hl with hl | hl
  · exact va_runV (Ts := []) (n := n) (C := RJ0) ⟨C.1, C.2.1, C.2.2.1, C.2.2.2.1, fun w hw => by cases hw⟩ hMet ⟨⟨rfl, rfl, by rw [hRR]; exact hR.1.1, by rw [hRR]; exact hR.1.2, hws, List.mem_cons_self, hTW.use w1 _, hTW.use w2 _, ⟨hny.1, hny.2.1⟩, hny.sig, hTW.use hl _⟩, hTW.use w3 _, hTW.use w4 _⟩ hp rfl hn hl0.1 hst (by show 2 * 0 + _ ≤ 8; omega) hd (by rw [hRR]; exact hR.2)
  · exact va_runVN (Ts := []) (n := n) (C := RJ0) ⟨C.1, C.2.1, C.2.2.1, C.2.2.2.1, fun w hw => by cases hw⟩ hMet ⟨⟨⟨rfl, rfl, by rw [hRR]; exact hR.1.1, by rw [hRR]; exact hR.1.2, hws, List.mem_cons_self⟩, hTW.use w1 _, hTW.use w2 _, ⟨hny.1, hny.2.1⟩, hny.sig, va_Nw.use rfl (hTW.2.2 _ _ _ _ hl)⟩, hTW.use w3 _, hTW.use w4 _⟩ hp rfl hn hl0.1 hst (by show 2 * 0 + _ ≤ 8; omega) hd (by rw [hRR]; exact hR.2)
end ZSTR
set_option maxRecDepth 100000 in
theorem yS_J0_length_8abf5 : zcS yJ0_length_8abf5 cJ0_length_8abf5 1 (some .int) 0 := ⟨⟨List.mem_of_getElem? (i := 363) (by decide +kernel), by decide +kernel⟩, ⟨List.mem_of_getElem? (i := 67) (by decide +kernel), by decide +kernel⟩, ⟨List.mem_of_getElem? (i := 361) (by decide +kernel), by decide +kernel⟩, ⟨List.mem_of_getElem? (i := 362) (by decide +kernel), by decide +kernel⟩, ⟨by decide +kernel, by decide +kernel, by decide +kernel⟩⟩
set_option maxRecDepth 100000 in
theorem yS_J0_charAt_5068e : zcS yJ0_charAt_5068e cJ0_charAt_5068e 2 (some .char) 1 := ⟨⟨List.mem_of_getElem? (i := 373) (by decide +kernel), by decide +kernel⟩, ⟨List.mem_of_getElem? (i := 67) (by decide +kernel), by decide +kernel⟩, ⟨List.mem_of_getElem? (i := 371) (by decide +kernel), by decide +kernel⟩, ⟨List.mem_of_getElem? (i := 372) (by decide +kernel), by decide +kernel⟩, ⟨by decide +kernel, by decide +kernel, by decide +kernel⟩⟩
set_option maxRecDepth 100000 in
theorem yS_J0_coder_7d493 : zcS yJ0_coder_7d493 cJ0_coder_7d493 1 (some .byte) 0 := ⟨⟨List.mem_of_getElem? (i := 367) (by decide +kernel), by decide +kernel⟩, ⟨List.mem_of_getElem? (i := 67) (by decide +kernel), by decide +kernel⟩, ⟨List.mem_of_getElem? (i := 365) (by decide +kernel), by decide +kernel⟩, ⟨List.mem_of_getElem? (i := 366) (by decide +kernel), by decide +kernel⟩, ⟨by decide +kernel, by decide +kernel, by decide +kernel⟩⟩
set_option maxRecDepth 100000 in
theorem yS_J0_isLatin1_aae02 : zcS yJ0_isLatin1_aae02 cJ0_isLatin1_aae02 1 (some .boolean) 0 := ⟨⟨List.mem_of_getElem? (i := 377) (by decide +kernel), by decide +kernel⟩, ⟨List.mem_of_getElem? (i := 67) (by decide +kernel), by decide +kernel⟩, ⟨List.mem_of_getElem? (i := 375) (by decide +kernel), by decide +kernel⟩, ⟨List.mem_of_getElem? (i := 376) (by decide +kernel), by decide +kernel⟩, ⟨by decide +kernel, by decide +kernel, by decide +kernel⟩⟩
set_option maxRecDepth 100000 in
theorem ys_J0_checkIndex_df160 : zcs yJ0_checkIndex_df160 cJ0_checkIndex_df160 2 (none) 2 := ⟨⟨List.mem_of_getElem? (i := 383) (by decide +kernel), by decide +kernel⟩, ⟨List.mem_of_getElem? (i := 67) (by decide +kernel), by decide +kernel⟩, ⟨List.mem_of_getElem? (i := 382) (by decide +kernel), by decide +kernel⟩, ⟨by decide +kernel, by decide +kernel, by decide +kernel⟩⟩
set_option maxRecDepth 100000 in
theorem ys_J1_charAt_3b067 : zcs yJ1_charAt_3b067 cJ1_charAt_3b067 2 (some .char) 2 := ⟨⟨List.mem_of_getElem? (i := 380) (by decide +kernel), by decide +kernel⟩, ⟨List.mem_of_getElem? (i := 68) (by decide +kernel), by decide +kernel⟩, ⟨List.mem_of_getElem? (i := 379) (by decide +kernel), by decide +kernel⟩, ⟨by decide +kernel, by decide +kernel, by decide +kernel⟩⟩
set_option maxRecDepth 100000 in
theorem ys_J3_checkIndex_8e157 : zcs yJ3_checkIndex_8e157 cJ3_checkIndex_8e157 3 (some .int) 3 := ⟨⟨List.mem_of_getElem? (i := 388) (by decide +kernel), by decide +kernel⟩, ⟨List.mem_of_getElem? (i := 69) (by decide +kernel), by decide +kernel⟩, ⟨List.mem_of_getElem? (i := 387) (by decide +kernel), by decide +kernel⟩, ⟨by decide +kernel, by decide +kernel, by decide +kernel⟩⟩
set_option maxRecDepth 100000 in
theorem fS_9 : zin (.fieldLink RJ0 9 "java/lang/String" "value" "[B") := ⟨List.mem_of_getElem? (i := 1193) (by decide +kernel), by decide +kernel⟩
set_option maxRecDepth 100000 in
theorem fS_15 : zin (.fieldLink RJ0 15 "java/lang/String" "coder" "B") := ⟨List.mem_of_getElem? (i := 1194) (by decide +kernel), by decide +kernel⟩
set_option maxRecDepth 100000 in
theorem fS_38 : zin (.fieldLink RJ0 38 "java/lang/String" "COMPACT_STRINGS" "Z") := ⟨List.mem_of_getElem? (i := 368) (by decide +kernel), by decide +kernel⟩
set_option maxRecDepth 100000 in
theorem fS_1053 : zin (.fieldLink RJ0 1053 "jdk/internal/util/Preconditions" "SIOOBE_FORMATTER" "Ljava/util/function/BiFunction;") := ⟨List.mem_of_getElem? (i := 384) (by decide +kernel), by decide +kernel⟩
set_option maxRecDepth 100000 in
theorem mS_RJ0_335 : zml RJ0 335 yJ0_coder_7d493 := Or.inl ⟨List.mem_of_getElem? (i := 364) (by decide +kernel), by decide +kernel⟩
set_option maxRecDepth 100000 in
theorem mS_RJ0_492 : zml RJ0 492 yJ0_isLatin1_aae02 := Or.inl ⟨List.mem_of_getElem? (i := 374) (by decide +kernel), by decide +kernel⟩
set_option maxRecDepth 100000 in
theorem mS_RJ0_495 : zml RJ0 495 yJ1_charAt_3b067 := Or.inl ⟨List.mem_of_getElem? (i := 378) (by decide +kernel), by decide +kernel⟩
set_option maxRecDepth 100000 in
theorem mS_RJ0_1059 : zml RJ0 1059 yJ3_checkIndex_8e157 := Or.inl ⟨List.mem_of_getElem? (i := 386) (by decide +kernel), by decide +kernel⟩
set_option maxRecDepth 100000 in
theorem mS_RJ1_9 : zml RJ1 9 yJ0_checkIndex_df160 := Or.inl ⟨List.mem_of_getElem? (i := 381) (by decide +kernel), by decide +kernel⟩
set_option maxRecDepth 100000 in
theorem mS_RX2_45 : zml RX2 45 yJ0_length_8abf5 := Or.inl ⟨List.mem_of_getElem? (i := 360) (by decide +kernel), by decide +kernel⟩
set_option maxRecDepth 100000 in
theorem mS_RX2_50 : zml RX2 50 yJ0_charAt_5068e := Or.inl ⟨List.mem_of_getElem? (i := 370) (by decide +kernel), by decide +kernel⟩
theorem dJ0_length_8abf5_0 : decode cJ0_length_8abf5 0 = .ok (.aload_n 0, 1) := by decide +kernel
theorem dJ0_length_8abf5_1 : decode cJ0_length_8abf5 1 = .ok (.getfield 9, 3) := by decide +kernel
theorem dJ0_length_8abf5_4 : decode cJ0_length_8abf5 4 = .ok (.arraylength, 1) := by decide +kernel
theorem dJ0_length_8abf5_5 : decode cJ0_length_8abf5 5 = .ok (.aload_n 0, 1) := by decide +kernel
theorem dJ0_length_8abf5_6 : decode cJ0_length_8abf5 6 = .ok (.invokevirtual 335, 3) := by decide +kernel
theorem dJ0_length_8abf5_9 : decode cJ0_length_8abf5 9 = .ok (.ishr, 1) := by decide +kernel
theorem dJ0_length_8abf5_10 : decode cJ0_length_8abf5 10 = .ok (.ireturn, 1) := by decide +kernel
theorem dJ0_charAt_5068e_0 : decode cJ0_charAt_5068e 0 = .ok (.aload_n 0, 1) := by decide +kernel
theorem dJ0_charAt_5068e_1 : decode cJ0_charAt_5068e 1 = .ok (.invokevirtual 492, 3) := by decide +kernel
theorem dJ0_charAt_5068e_4 : decode cJ0_charAt_5068e 4 = .ok (.ifCond .eq 12, 3) := by decide +kernel
theorem dJ0_charAt_5068e_7 : decode cJ0_charAt_5068e 7 = .ok (.aload_n 0, 1) := by decide +kernel
theorem dJ0_charAt_5068e_8 : decode cJ0_charAt_5068e 8 = .ok (.getfield 9, 3) := by decide +kernel
theorem dJ0_charAt_5068e_11 : decode cJ0_charAt_5068e 11 = .ok (.iload_n 1, 1) := by decide +kernel
theorem dJ0_charAt_5068e_12 : decode cJ0_charAt_5068e 12 = .ok (.invokestatic 495, 3) := by decide +kernel
theorem dJ0_charAt_5068e_15 : decode cJ0_charAt_5068e 15 = .ok (.ireturn, 1) := by decide +kernel
theorem dJ0_charAt_5068e_16 : decode cJ0_charAt_5068e 16 = .ok (.aload_n 0, 1) := by decide +kernel
theorem dJ0_charAt_5068e_17 : decode cJ0_charAt_5068e 17 = .ok (.getfield 9, 3) := by decide +kernel
theorem dJ0_charAt_5068e_20 : decode cJ0_charAt_5068e 20 = .ok (.iload_n 1, 1) := by decide +kernel
theorem dJ0_charAt_5068e_21 : decode cJ0_charAt_5068e 21 = .ok (.invokestatic 498, 3) := by decide +kernel
theorem dJ0_charAt_5068e_24 : decode cJ0_charAt_5068e 24 = .ok (.ireturn, 1) := by decide +kernel
theorem dJ0_coder_7d493_0 : decode cJ0_coder_7d493 0 = .ok (.getstatic 38, 3) := by decide +kernel
theorem dJ0_coder_7d493_3 : decode cJ0_coder_7d493 3 = .ok (.ifCond .eq 10, 3) := by decide +kernel
theorem dJ0_coder_7d493_6 : decode cJ0_coder_7d493 6 = .ok (.aload_n 0, 1) := by decide +kernel
theorem dJ0_coder_7d493_7 : decode cJ0_coder_7d493 7 = .ok (.getfield 15, 3) := by decide +kernel
theorem dJ0_coder_7d493_10 : decode cJ0_coder_7d493 10 = .ok (.goto 4, 3) := by decide +kernel
theorem dJ0_coder_7d493_13 : decode cJ0_coder_7d493 13 = .ok (.iconst 1, 1) := by decide +kernel
theorem dJ0_coder_7d493_14 : decode cJ0_coder_7d493 14 = .ok (.ireturn, 1) := by decide +kernel
theorem dJ0_isLatin1_aae02_0 : decode cJ0_isLatin1_aae02 0 = .ok (.getstatic 38, 3) := by decide +kernel
theorem dJ0_isLatin1_aae02_3 : decode cJ0_isLatin1_aae02 3 = .ok (.ifCond .eq 14, 3) := by decide +kernel
theorem dJ0_isLatin1_aae02_6 : decode cJ0_isLatin1_aae02 6 = .ok (.aload_n 0, 1) := by decide +kernel
theorem dJ0_isLatin1_aae02_7 : decode cJ0_isLatin1_aae02 7 = .ok (.getfield 15, 3) := by decide +kernel
theorem dJ0_isLatin1_aae02_10 : decode cJ0_isLatin1_aae02 10 = .ok (.ifCond .ne 7, 3) := by decide +kernel
theorem dJ0_isLatin1_aae02_13 : decode cJ0_isLatin1_aae02 13 = .ok (.iconst 1, 1) := by decide +kernel
theorem dJ0_isLatin1_aae02_14 : decode cJ0_isLatin1_aae02 14 = .ok (.goto 4, 3) := by decide +kernel
theorem dJ0_isLatin1_aae02_17 : decode cJ0_isLatin1_aae02 17 = .ok (.iconst 0, 1) := by decide +kernel
theorem dJ0_isLatin1_aae02_18 : decode cJ0_isLatin1_aae02 18 = .ok (.ireturn, 1) := by decide +kernel
theorem dJ0_checkIndex_df160_0 : decode cJ0_checkIndex_df160 0 = .ok (.iload_n 0, 1) := by decide +kernel
theorem dJ0_checkIndex_df160_1 : decode cJ0_checkIndex_df160 1 = .ok (.iload_n 1, 1) := by decide +kernel
theorem dJ0_checkIndex_df160_2 : decode cJ0_checkIndex_df160 2 = .ok (.getstatic 1053, 3) := by decide +kernel
theorem dJ0_checkIndex_df160_5 : decode cJ0_checkIndex_df160 5 = .ok (.invokestatic 1059, 3) := by decide +kernel
theorem dJ0_checkIndex_df160_8 : decode cJ0_checkIndex_df160 8 = .ok (.pop, 1) := by decide +kernel
theorem dJ0_checkIndex_df160_9 : decode cJ0_checkIndex_df160 9 = .ok (.return_, 1) := by decide +kernel
theorem dJ1_charAt_3b067_0 : decode cJ1_charAt_3b067 0 = .ok (.iload_n 1, 1) := by decide +kernel
theorem dJ1_charAt_3b067_1 : decode cJ1_charAt_3b067 1 = .ok (.aload_n 0, 1) := by decide +kernel
theorem dJ1_charAt_3b067_2 : decode cJ1_charAt_3b067 2 = .ok (.arraylength, 1) := by decide +kernel
theorem dJ1_charAt_3b067_3 : decode cJ1_charAt_3b067 3 = .ok (.invokestatic 9, 3) := by decide +kernel
theorem dJ1_charAt_3b067_6 : decode cJ1_charAt_3b067 6 = .ok (.aload_n 0, 1) := by decide +kernel
theorem dJ1_charAt_3b067_7 : decode cJ1_charAt_3b067 7 = .ok (.iload_n 1, 1) := by decide +kernel
theorem dJ1_charAt_3b067_8 : decode cJ1_charAt_3b067 8 = .ok (.baload, 1) := by decide +kernel
theorem dJ1_charAt_3b067_9 : decode cJ1_charAt_3b067 9 = .ok (.sipush 255, 3) := by decide +kernel
theorem dJ1_charAt_3b067_12 : decode cJ1_charAt_3b067 12 = .ok (.iand, 1) := by decide +kernel
theorem dJ1_charAt_3b067_13 : decode cJ1_charAt_3b067 13 = .ok (.i2c, 1) := by decide +kernel
theorem dJ1_charAt_3b067_14 : decode cJ1_charAt_3b067 14 = .ok (.ireturn, 1) := by decide +kernel
theorem dJ3_checkIndex_8e157_0 : decode cJ3_checkIndex_8e157 0 = .ok (.iload_n 0, 1) := by decide +kernel
theorem dJ3_checkIndex_8e157_1 : decode cJ3_checkIndex_8e157 1 = .ok (.ifCond .lt 8, 3) := by decide +kernel
theorem dJ3_checkIndex_8e157_4 : decode cJ3_checkIndex_8e157 4 = .ok (.iload_n 0, 1) := by decide +kernel
theorem dJ3_checkIndex_8e157_5 : decode cJ3_checkIndex_8e157 5 = .ok (.iload_n 1, 1) := by decide +kernel
theorem dJ3_checkIndex_8e157_6 : decode cJ3_checkIndex_8e157 6 = .ok (.if_icmp .lt 10, 3) := by decide +kernel
theorem dJ3_checkIndex_8e157_9 : decode cJ3_checkIndex_8e157 9 = .ok (.aload_n 2, 1) := by decide +kernel
theorem dJ3_checkIndex_8e157_10 : decode cJ3_checkIndex_8e157 10 = .ok (.iload_n 0, 1) := by decide +kernel
theorem dJ3_checkIndex_8e157_11 : decode cJ3_checkIndex_8e157 11 = .ok (.iload_n 1, 1) := by decide +kernel
theorem dJ3_checkIndex_8e157_12 : decode cJ3_checkIndex_8e157 12 = .ok (.invokestatic 95, 3) := by decide +kernel
theorem dJ3_checkIndex_8e157_15 : decode cJ3_checkIndex_8e157 15 = .ok (.athrow, 1) := by decide +kernel
theorem dJ3_checkIndex_8e157_16 : decode cJ3_checkIndex_8e157 16 = .ok (.iload_n 0, 1) := by decide +kernel
theorem dJ3_checkIndex_8e157_17 : decode cJ3_checkIndex_8e157 17 = .ok (.ireturn, 1) := by decide +kernel
def zch (k : Nat) : Int := [104, 119, 111, 121, 116].getD k 0
theorem zch_ok : ∀ k, k < 5 → Value.int ((([[104, 119, 111, 121, 116]] : List (List Int32)).getD 0 []).getD k 0) = .int (zI (zch k)) ∧ zI (zch k) &&& zI 255 = zI (zch k) ∧ ((zI (zch k)).toUInt32 % 65536).toInt32 = zI (zch k) ∧ narrow .char (.int (zI (zch k))) = .int (zI (zch k)) ∧ 0 ≤ zch k ∧ zch k ≤ 126 := by decide +kernel
section ZJDK
variable (l : Launch) (G : zGt) (σ : zMem)
theorem c_J0_coder : zN l G yJ0_coder_7d493 cJ0_coder_7d493 1 (some .byte) 0 [.ref (G.2.2.2.1 0)] σ (zPi (fun x τ => x = 0 ∧ σ = τ)) := by
  refine zM.of (lv0 := [(0, _)]) (by decide) (Nat.le_of_ble_eq_true rfl) rfl (fun X C => ?_)
  have hS := C.2.2.2.2.1.2.2.2.2
  refine z_stat (pc := 0) C hS.2.1 fS_38 dJ0_coder_7d493_0 ?_
  refine z_if_eq (pc := 3) (a := 1) (tgt := 13) C dJ0_coder_7d493_3 (by decide) (by omega) (fun c3 => by exfalso; omega) (fun c3 => ?_)
  refine z_aload_n (pc := 6) C dJ0_coder_7d493_6 rfl 0 rfl ?_
  refine z_getS (pc := 7) C (hS.1.1 0 (by decide)).2.1 fS_15 dJ0_coder_7d493_7 ?_
  refine z_goto (pc := 10) (tgt := 14) C dJ0_coder_7d493_10 (by decide) ?_
  exact z_nret (pc := 14) (a := 0) C dJ0_coder_7d493_14 (by decide +kernel) ⟨0, rfl, by omega, rfl, rfl⟩
theorem c_J0_isLatin1 : zN l G yJ0_isLatin1_aae02 cJ0_isLatin1_aae02 1 (some .boolean) 0 [.ref (G.2.2.2.1 0)] σ (zPi (fun x τ => x = 1 ∧ σ = τ)) := by
  refine zM.of (lv0 := [(0, _)]) (by decide) (Nat.le_of_ble_eq_true rfl) rfl (fun X C => ?_)
  have hS := C.2.2.2.2.1.2.2.2.2
  refine z_stat (pc := 0) C hS.2.1 fS_38 dJ0_isLatin1_aae02_0 ?_
  refine z_if_eq (pc := 3) (a := 1) (tgt := 17) C dJ0_isLatin1_aae02_3 (by decide) (by omega) (fun c3 => by exfalso; omega) (fun c3 => ?_)
  refine z_aload_n (pc := 6) C dJ0_isLatin1_aae02_6 rfl 0 rfl ?_
  refine z_getS (pc := 7) C (hS.1.1 0 (by decide)).2.1 fS_15 dJ0_isLatin1_aae02_7 ?_
  refine z_if_ne (pc := 10) (a := 0) (tgt := 17) C dJ0_isLatin1_aae02_10 (by decide) (by omega) (fun c10 => by exfalso; omega) (fun c10 => ?_)
  refine z_iconst (pc := 13) C dJ0_isLatin1_aae02_13 ?_
  refine z_goto (pc := 14) (tgt := 18) C dJ0_isLatin1_aae02_14 (by decide) ?_
  exact z_nret (pc := 18) (a := 1) C dJ0_isLatin1_aae02_18 (by decide +kernel) ⟨1, rfl, by omega, rfl, rfl⟩
theorem c_J0_length : zN l G yJ0_length_8abf5 cJ0_length_8abf5 1 (some .int) 1 [.ref (G.2.2.2.1 0)] σ (zPi (fun x τ => x = 5 ∧ σ = τ)) := by
  refine zM.of (lv0 := [(0, _)]) (by decide) (Nat.le_of_ble_eq_true rfl) rfl (fun X C => ?_)
  have hS := C.2.2.2.2.1.2.2.2.2
  refine z_aload_n (pc := 0) C dJ0_length_8abf5_0 rfl 0 rfl ?_
  refine z_getS (pc := 1) C (hS.1.1 0 (by decide)).2.2.1 fS_9 dJ0_length_8abf5_1 ?_
  refine z_tlen (pc := 4) C (hS.1.1 0 (by decide)).2.2.2 dJ0_length_8abf5_4 ?_
  refine z_aload_n (pc := 5) C dJ0_length_8abf5_5 rfl 0 rfl ?_
  refine z_VS (pc := 6) C (c_J0_coder l G σ) mS_RJ0_335 yS_J0_coder_7d493 dJ0_length_8abf5_6 rfl rfl rfl (Nat.le_of_ble_eq_true rfl) (z_room ⟨by decide, by decide⟩) (Nat.le_refl _) (fun v τ hq => ?_)
  obtain ⟨r, rfl, -, rfl, rfl⟩ := hq
  refine z_ishr (pc := 9) (r := 5) C dJ0_length_8abf5_9 (by decide +kernel) ?_
  exact z_iret (pc := 10) C dJ0_length_8abf5_10 ⟨5, rfl, by omega, rfl, rfl⟩
theorem c_J3_checkIndex (a n : Int) (v : Value) (hv : v = .null ∨ ∃ t, v = .ref t) (ha : 0 ≤ a ∧ a < n) (hn : n ≤ 1000) : zN l G yJ3_checkIndex_8e157 cJ3_checkIndex_8e157 3 (some .int) 0 [.int (zI a), .int (zI n), v] σ (zPi (fun x τ => x = a ∧ σ = τ)) := by
  rcases hv with rfl | ⟨t, rfl⟩
  all_goals
    refine zM.of (lv0 := [(0, _), (1, _), (2, _)]) (by decide) (Nat.le_of_ble_eq_true rfl) rfl (fun X C => ?_)
    refine z_iload_n (pc := 0) C dJ3_checkIndex_8e157_0 rfl 0 rfl ?_
    refine z_if_lt (pc := 1) (tgt := 9) C dJ3_checkIndex_8e157_1 (by decide) (by omega) (fun c1 => by exfalso; omega) (fun c1 => ?_)
    refine z_iload_n (pc := 4) C dJ3_checkIndex_8e157_4 rfl 0 rfl ?_
    refine z_iload_n (pc := 5) C dJ3_checkIndex_8e157_5 rfl 1 rfl ?_
    refine z_icmp_lt (pc := 6) (tgt := 16) C dJ3_checkIndex_8e157_6 (by decide) ⟨by omega, by omega⟩ (fun c6 => ?_) (fun c6 => by exfalso; omega)
    refine z_iload_n (pc := 16) C dJ3_checkIndex_8e157_16 rfl 0 rfl ?_
    exact z_iret (pc := 17) C dJ3_checkIndex_8e157_17 ⟨a, rfl, by omega, rfl, rfl⟩
theorem c_J0_checkIndex (a n : Int) (ha : 0 ≤ a ∧ a < n) (hn : n ≤ 1000) : zN l G yJ0_checkIndex_df160 cJ0_checkIndex_df160 2 none 1 [.int (zI a), .int (zI n)] σ (zPv (fun τ => σ = τ)) := by
  refine zM.of (lv0 := [(0, _), (1, _)]) (by decide) (Nat.le_of_ble_eq_true rfl) rfl (fun X C => ?_)
  have hS := C.2.2.2.2.1.2.2.2.2
  have core : ∀ v : Value, (v = .null ∨ ∃ t, v = .ref t) → va_Z "jdk/internal/util/Preconditions" "SIOOBE_FORMATTER" "Ljava/util/function/BiFunction;" v (zA G) X.2.2.2.2.1 X.2.2.2.2.1.heap → zg G X true 2 129 0 0 0 [(0, .int (zI a)), (1, .int (zI n))] [] σ := by
    intro v hv hZ
    refine z_iload_n (pc := 0) C dJ0_checkIndex_df160_0 rfl 0 rfl ?_
    refine z_iload_n (pc := 1) C dJ0_checkIndex_df160_1 rfl 1 rfl ?_
    refine z_stat (pc := 2) C hZ fS_1053 dJ0_checkIndex_df160_2 ?_
    refine z_Si (pc := 5) (rest := []) C (c_J3_checkIndex l G σ a n v hv ha hn) mS_RJ0_1059 ys_J3_checkIndex_8e157 dJ0_checkIndex_df160_5 rfl rfl (Nat.le_of_ble_eq_true rfl) ⟨by decide, by decide⟩ (fun r5 t5 h5 q5 => ?_)
    obtain ⟨rfl, rfl⟩ := q5
    refine z_pop (pc := 8) C dJ0_checkIndex_df160_8 rfl ?_
    exact z_vret (pc := 9) C dJ0_checkIndex_df160_9 ⟨rfl, rfl⟩
  rcases hS.2.2 with h | ⟨t, h⟩
  · exact core _ (Or.inl rfl) h
  · exact core _ (Or.inr ⟨t, rfl⟩) h
theorem c_J1_charAt (k : Nat) (a : Int) (ha : a = k) (hk : k < 5) : zN l G yJ1_charAt_3b067 cJ1_charAt_3b067 2 (some .char) 2 [.ref (G.2.2.2.2 0), .int (zI a)] σ (zPi (fun x τ => x = zch k ∧ σ = τ)) := by
  obtain ⟨h1, h2, h3, h4, h5⟩ := zch_ok k hk
  refine zM.of (lv0 := [(0, _), (1, _)]) (by decide) (Nat.le_of_ble_eq_true rfl) rfl (fun X C => ?_)
  have hS := C.2.2.2.2.1.2.2.2.2
  refine z_iload_n (pc := 0) C dJ1_charAt_3b067_0 rfl 1 rfl ?_
  refine z_aload_n (pc := 1) C dJ1_charAt_3b067_1 rfl 0 rfl ?_
  refine z_tlen (pc := 2) C (hS.1.1 0 (by decide)).2.2.2 dJ1_charAt_3b067_2 ?_
  refine z_S (pc := 3) (rest := []) C (c_J0_checkIndex l G σ a 5 (by omega) (by omega)) mS_RJ1_9 ys_J0_checkIndex_df160 dJ1_charAt_3b067_3 rfl rfl (Nat.le_of_ble_eq_true rfl) (z_room ⟨by decide, by decide⟩) (Nat.le_refl _) (fun v τ hq => ?_)
  obtain ⟨rfl, rfl⟩ := hq
  refine z_aload_n (pc := 6) C dJ1_charAt_3b067_6 rfl 0 rfl ?_
  refine z_iload_n (pc := 7) C dJ1_charAt_3b067_7 rfl 1 rfl ?_
  refine z_tb (pc := 8) C (hS.1.1 0 (by decide)).2.2.2 ha hk (by decide) dJ1_charAt_3b067_8 ?_
  rw [h1]
  refine z_sipush (pc := 9) C dJ1_charAt_3b067_9 (by decide +kernel) ?_
  refine z_iand (pc := 12) (r := zch k) C dJ1_charAt_3b067_12 h2 ?_
  refine z_i2c (pc := 13) (r := zch k) C dJ1_charAt_3b067_13 h3 ?_
  exact z_nret (pc := 14) C dJ1_charAt_3b067_14 h4 ⟨_, rfl, by omega, rfl, rfl⟩
theorem c_J0_charAt (k : Nat) (a : Int) (ha : a = k) (hk : k < 5) : zN l G yJ0_charAt_5068e cJ0_charAt_5068e 2 (some .char) 3 [.ref (G.2.2.2.1 0), .int (zI a)] σ (zPi (fun x τ => x = zch k ∧ σ = τ)) := by
  obtain ⟨h1, h2, h3, h4, h5⟩ := zch_ok k hk
  refine zM.of (lv0 := [(0, _), (1, _)]) (by decide) (Nat.le_of_ble_eq_true rfl) rfl (fun X C => ?_)
  have hS := C.2.2.2.2.1.2.2.2.2
  refine z_aload_n (pc := 0) C dJ0_charAt_5068e_0 rfl 0 rfl ?_
  refine z_VS (pc := 1) C (c_J0_isLatin1 l G σ) mS_RJ0_492 yS_J0_isLatin1_aae02 dJ0_charAt_5068e_1 rfl rfl rfl (Nat.le_of_ble_eq_true rfl) (z_room ⟨by decide, by decide⟩) (Nat.le_refl _) (fun v τ hq => ?_)
  obtain ⟨r, rfl, -, rfl, rfl⟩ := hq
  refine z_if_eq (pc := 4) (a := 1) (tgt := 16) C dJ0_charAt_5068e_4 (by decide) (by omega) (fun c4 => by exfalso; omega) (fun c4 => ?_)
  refine z_aload_n (pc := 7) C dJ0_charAt_5068e_7 rfl 0 rfl ?_
  refine z_getS (pc := 8) C (hS.1.1 0 (by decide)).2.2.1 fS_9 dJ0_charAt_5068e_8 ?_
  refine z_iload_n (pc := 11) C dJ0_charAt_5068e_11 rfl 1 rfl ?_
  refine z_S (pc := 12) (rest := []) C (c_J1_charAt l G σ k a ha hk) mS_RJ0_495 ys_J1_charAt_3b067 dJ0_charAt_5068e_12 rfl rfl (Nat.le_of_ble_eq_true rfl) (z_room ⟨by decide, by decide⟩) (Nat.le_refl _) (fun v τ hq => ?_)
  obtain ⟨r, rfl, -, rfl, rfl⟩ := hq
  exact z_nret (pc := 15) C dJ0_charAt_5068e_15 h4 ⟨_, rfl, by omega, rfl, rfl⟩
end ZJDK
