section
-- ===== PART A: goes FIRST, ahead of the names: the tables' words, and 'selects' of the private methods out of them =====
/-- a private method of a class that the tables say can be made, by its rows of tables_1 -/
def lw_okq (q : MethodName × Nat) : Prop := (q.1.cls ≠ "java/lang/invoke/MethodHandle" ∧ q.1.cls ≠ "java/lang/invoke/VarHandle") ∧ Cond.instantiable q.1.cls q.2 ∈ tables_1 ∧ Cond.privateMethod q.1 ∈ tables_1 ∧ Cond.instanceMethod q.1 ∈ tables_1
theorem lw_p0 : lw_okq (⟨"ThatchLane$Seer", "foresee", "(LThatchLane$Lane;I)V"⟩, 2) := ⟨⟨by decide +kernel, by decide +kernel⟩, List.mem_of_getElem? (i := 125) (by decide +kernel), List.mem_of_getElem? (i := 416) (by decide +kernel), List.mem_of_getElem? (i := 417) (by decide +kernel)⟩
theorem lw_p1 : lw_okq (⟨"ThatchLane$Seer", "fits", "(LThatchLane$Sights;II)Z"⟩, 2) := ⟨⟨by decide +kernel, by decide +kernel⟩, List.mem_of_getElem? (i := 125) (by decide +kernel), List.mem_of_getElem? (i := 423) (by decide +kernel), List.mem_of_getElem? (i := 424) (by decide +kernel)⟩
theorem lw_p2 : lw_okq (⟨"ThatchLane$Seer", "mostLeft", "(II)I"⟩, 2) := ⟨⟨by decide +kernel, by decide +kernel⟩, List.mem_of_getElem? (i := 125) (by decide +kernel), List.mem_of_getElem? (i := 432) (by decide +kernel), List.mem_of_getElem? (i := 433) (by decide +kernel)⟩
theorem lw_p3 : lw_okq (⟨"ThatchLane$Planner", "stepAt", "(I)LThatchLane$Lane;"⟩, 7) := ⟨⟨by decide +kernel, by decide +kernel⟩, List.mem_of_getElem? (i := 140) (by decide +kernel), List.mem_of_getElem? (i := 534) (by decide +kernel), List.mem_of_getElem? (i := 535) (by decide +kernel)⟩
theorem lw_p4 : lw_okq (⟨"ThatchLane$Planner", "goOn", "(LThatchLane$Lane;I)V"⟩, 7) := ⟨⟨by decide +kernel, by decide +kernel⟩, List.mem_of_getElem? (i := 140) (by decide +kernel), List.mem_of_getElem? (i := 539) (by decide +kernel), List.mem_of_getElem? (i := 540) (by decide +kernel)⟩
theorem lw_p5 : lw_okq (⟨"ThatchLane$Planner", "weigh", "(LThatchLane$Lane;)V"⟩, 7) := ⟨⟨by decide +kernel, by decide +kernel⟩, List.mem_of_getElem? (i := 140) (by decide +kernel), List.mem_of_getElem? (i := 543) (by decide +kernel), List.mem_of_getElem? (i := 544) (by decide +kernel)⟩
theorem lw_p6 : lw_okq (⟨"ThatchLane$Planner", "cheerAndGoOn", "(LThatchLane$Lane;II)V"⟩, 7) := ⟨⟨by decide +kernel, by decide +kernel⟩, List.mem_of_getElem? (i := 140) (by decide +kernel), List.mem_of_getElem? (i := 563) (by decide +kernel), List.mem_of_getElem? (i := 564) (by decide +kernel)⟩
theorem lw_p7 : lw_okq (⟨"ThatchLane$Pairer", "pairFrom", "(LThatchLane$Lane;IIZ)V"⟩, 3) := ⟨⟨by decide +kernel, by decide +kernel⟩, List.mem_of_getElem? (i := 176) (by decide +kernel), List.mem_of_getElem? (i := 580) (by decide +kernel), List.mem_of_getElem? (i := 581) (by decide +kernel)⟩
theorem lw_p8 : lw_okq (⟨"ThatchLane$Pairer", "firstFree", "(LThatchLane$Lane;I)I"⟩, 3) := ⟨⟨by decide +kernel, by decide +kernel⟩, List.mem_of_getElem? (i := 176) (by decide +kernel), List.mem_of_getElem? (i := 584) (by decide +kernel), List.mem_of_getElem? (i := 585) (by decide +kernel)⟩
theorem lw_p9 : lw_okq (⟨"ThatchLane$Pairer", "weigh", "(I)V"⟩, 3) := ⟨⟨by decide +kernel, by decide +kernel⟩, List.mem_of_getElem? (i := 176) (by decide +kernel), List.mem_of_getElem? (i := 589) (by decide +kernel), List.mem_of_getElem? (i := 590) (by decide +kernel)⟩
theorem lw_p10 : lw_okq (⟨"ThatchLane$Pairer", "leave", "(LThatchLane$Lane;II)V"⟩, 3) := ⟨⟨by decide +kernel, by decide +kernel⟩, List.mem_of_getElem? (i := 176) (by decide +kernel), List.mem_of_getElem? (i := 594) (by decide +kernel), List.mem_of_getElem? (i := 595) (by decide +kernel)⟩
theorem lw_p11 : lw_okq (⟨"ThatchLane$Pairer", "couple", "(LThatchLane$Lane;IIIZ)V"⟩, 3) := ⟨⟨by decide +kernel, by decide +kernel⟩, List.mem_of_getElem? (i := 176) (by decide +kernel), List.mem_of_getElem? (i := 598) (by decide +kernel), List.mem_of_getElem? (i := 599) (by decide +kernel)⟩
theorem lw_p12 : lw_okq (⟨"ThatchLane$Patcher", "putOnFrom", "(LThatchLane$Lane;IIII)V"⟩, 4) := ⟨⟨by decide +kernel, by decide +kernel⟩, List.mem_of_getElem? (i := 196) (by decide +kernel), List.mem_of_getElem? (i := 613) (by decide +kernel), List.mem_of_getElem? (i := 614) (by decide +kernel)⟩
theorem lw_p13 : lw_okq (⟨"ThatchLane$Patcher", "weigh", "(II)V"⟩, 4) := ⟨⟨by decide +kernel, by decide +kernel⟩, List.mem_of_getElem? (i := 196) (by decide +kernel), List.mem_of_getElem? (i := 617) (by decide +kernel), List.mem_of_getElem? (i := 618) (by decide +kernel)⟩
theorem lw_p14 : lw_okq (⟨"ThatchLane$Patcher", "raise", "(LThatchLane$Lane;IIIII)V"⟩, 4) := ⟨⟨by decide +kernel, by decide +kernel⟩, List.mem_of_getElem? (i := 196) (by decide +kernel), List.mem_of_getElem? (i := 623) (by decide +kernel), List.mem_of_getElem? (i := 624) (by decide +kernel)⟩
theorem lw_p15 : lw_okq (⟨"ThatchLane", "oneAge", "()I"⟩, 13) := ⟨⟨by decide +kernel, by decide +kernel⟩, List.mem_of_getElem? (i := 19) (by decide +kernel), List.mem_of_getElem? (i := 656) (by decide +kernel), List.mem_of_getElem? (i := 657) (by decide +kernel)⟩
def lw_privs_1 : List (MethodName × Nat) := [(⟨"ThatchLane$Seer", "foresee", "(LThatchLane$Lane;I)V"⟩, 2), (⟨"ThatchLane$Seer", "fits", "(LThatchLane$Sights;II)Z"⟩, 2), (⟨"ThatchLane$Seer", "mostLeft", "(II)I"⟩, 2), (⟨"ThatchLane$Planner", "stepAt", "(I)LThatchLane$Lane;"⟩, 7), (⟨"ThatchLane$Planner", "goOn", "(LThatchLane$Lane;I)V"⟩, 7), (⟨"ThatchLane$Planner", "weigh", "(LThatchLane$Lane;)V"⟩, 7), (⟨"ThatchLane$Planner", "cheerAndGoOn", "(LThatchLane$Lane;II)V"⟩, 7), (⟨"ThatchLane$Pairer", "pairFrom", "(LThatchLane$Lane;IIZ)V"⟩, 3), (⟨"ThatchLane$Pairer", "firstFree", "(LThatchLane$Lane;I)I"⟩, 3), (⟨"ThatchLane$Pairer", "weigh", "(I)V"⟩, 3), (⟨"ThatchLane$Pairer", "leave", "(LThatchLane$Lane;II)V"⟩, 3), (⟨"ThatchLane$Pairer", "couple", "(LThatchLane$Lane;IIIZ)V"⟩, 3), (⟨"ThatchLane$Patcher", "putOnFrom", "(LThatchLane$Lane;IIII)V"⟩, 4), (⟨"ThatchLane$Patcher", "weigh", "(II)V"⟩, 4), (⟨"ThatchLane$Patcher", "raise", "(LThatchLane$Lane;IIIII)V"⟩, 4), (⟨"ThatchLane", "oneAge", "()I"⟩, 13)]
theorem lw_r1 : ∀ q ∈ lw_privs_1, lw_okq q := List.forall_mem_cons.mpr ⟨lw_p0, List.forall_mem_cons.mpr ⟨lw_p1, List.forall_mem_cons.mpr ⟨lw_p2, List.forall_mem_cons.mpr ⟨lw_p3, List.forall_mem_cons.mpr ⟨lw_p4, List.forall_mem_cons.mpr ⟨lw_p5, List.forall_mem_cons.mpr ⟨lw_p6, List.forall_mem_cons.mpr ⟨lw_p7, List.forall_mem_cons.mpr ⟨lw_p8, List.forall_mem_cons.mpr ⟨lw_p9, List.forall_mem_cons.mpr ⟨lw_p10, List.forall_mem_cons.mpr ⟨lw_p11, List.forall_mem_cons.mpr ⟨lw_p12, List.forall_mem_cons.mpr ⟨lw_p13, List.forall_mem_cons.mpr ⟨lw_p14, List.forall_mem_cons.mpr ⟨lw_p15, fun _ h => absurd h List.not_mem_nil⟩⟩⟩⟩⟩⟩⟩⟩⟩⟩⟩⟩⟩⟩⟩⟩
theorem lw_p16 : lw_okq (⟨"ThatchLane", "mixHouse", "(JI)J"⟩, 13) := ⟨⟨by decide +kernel, by decide +kernel⟩, List.mem_of_getElem? (i := 19) (by decide +kernel), List.mem_of_getElem? (i := 703) (by decide +kernel), List.mem_of_getElem? (i := 704) (by decide +kernel)⟩
theorem lw_p17 : lw_okq (⟨"ThatchLaneModel", "read", "()I"⟩, 42) := ⟨⟨by decide +kernel, by decide +kernel⟩, List.mem_of_getElem? (i := 720) (by decide +kernel), List.mem_of_getElem? (i := 868) (by decide +kernel), List.mem_of_getElem? (i := 869) (by decide +kernel)⟩
theorem lw_p18 : lw_okq (⟨"ThatchLaneModel", "at", "(I)I"⟩, 42) := ⟨⟨by decide +kernel, by decide +kernel⟩, List.mem_of_getElem? (i := 720) (by decide +kernel), List.mem_of_getElem? (i := 872) (by decide +kernel), List.mem_of_getElem? (i := 873) (by decide +kernel)⟩
theorem lw_p19 : lw_okq (⟨"ThatchLaneModel", "isFigure", "(I)Z"⟩, 42) := ⟨⟨by decide +kernel, by decide +kernel⟩, List.mem_of_getElem? (i := 720) (by decide +kernel), List.mem_of_getElem? (i := 879) (by decide +kernel), List.mem_of_getElem? (i := 880) (by decide +kernel)⟩
theorem lw_p20 : lw_okq (⟨"ThatchLaneModel", "isHouse", "(I)Z"⟩, 42) := ⟨⟨by decide +kernel, by decide +kernel⟩, List.mem_of_getElem? (i := 720) (by decide +kernel), List.mem_of_getElem? (i := 891) (by decide +kernel), List.mem_of_getElem? (i := 892) (by decide +kernel)⟩
theorem lw_p21 : lw_okq (⟨"ThatchLaneModel", "houseNow", "(II)I"⟩, 42) := ⟨⟨by decide +kernel, by decide +kernel⟩, List.mem_of_getElem? (i := 720) (by decide +kernel), List.mem_of_getElem? (i := 895) (by decide +kernel), List.mem_of_getElem? (i := 896) (by decide +kernel)⟩
theorem lw_p22 : lw_okq (⟨"ThatchLaneModel", "grownOf", "(I)I"⟩, 42) := ⟨⟨by decide +kernel, by decide +kernel⟩, List.mem_of_getElem? (i := 720) (by decide +kernel), List.mem_of_getElem? (i := 902) (by decide +kernel), List.mem_of_getElem? (i := 903) (by decide +kernel)⟩
theorem lw_p23 : lw_okq (⟨"ThatchLaneModel", "worriesOf", "(I)I"⟩, 42) := ⟨⟨by decide +kernel, by decide +kernel⟩, List.mem_of_getElem? (i := 720) (by decide +kernel), List.mem_of_getElem? (i := 912) (by decide +kernel), List.mem_of_getElem? (i := 913) (by decide +kernel)⟩
theorem lw_p24 : lw_okq (⟨"ThatchLaneModel", "reedBehind", "(III)I"⟩, 42) := ⟨⟨by decide +kernel, by decide +kernel⟩, List.mem_of_getElem? (i := 720) (by decide +kernel), List.mem_of_getElem? (i := 916) (by decide +kernel), List.mem_of_getElem? (i := 917) (by decide +kernel)⟩
theorem lw_p25 : lw_okq (⟨"ThatchLaneModel", "lookFor", "(I)I"⟩, 42) := ⟨⟨by decide +kernel, by decide +kernel⟩, List.mem_of_getElem? (i := 720) (by decide +kernel), List.mem_of_getElem? (i := 920) (by decide +kernel), List.mem_of_getElem? (i := 921) (by decide +kernel)⟩
theorem lw_p26 : lw_okq (⟨"ThatchLaneModel", "worstBy", "(III)I"⟩, 42) := ⟨⟨by decide +kernel, by decide +kernel⟩, List.mem_of_getElem? (i := 720) (by decide +kernel), List.mem_of_getElem? (i := 925) (by decide +kernel), List.mem_of_getElem? (i := 926) (by decide +kernel)⟩
theorem lw_p27 : lw_okq (⟨"ThatchLaneModel", "reachesTo", "(II)I"⟩, 42) := ⟨⟨by decide +kernel, by decide +kernel⟩, List.mem_of_getElem? (i := 720) (by decide +kernel), List.mem_of_getElem? (i := 940) (by decide +kernel), List.mem_of_getElem? (i := 941) (by decide +kernel)⟩
theorem lw_p28 : lw_okq (⟨"ThatchLaneModel", "wetBy", "(I)I"⟩, 42) := ⟨⟨by decide +kernel, by decide +kernel⟩, List.mem_of_getElem? (i := 720) (by decide +kernel), List.mem_of_getElem? (i := 948) (by decide +kernel), List.mem_of_getElem? (i := 949) (by decide +kernel)⟩
theorem lw_p29 : lw_okq (⟨"ThatchLaneModel", "goYear", "()V"⟩, 42) := ⟨⟨by decide +kernel, by decide +kernel⟩, List.mem_of_getElem? (i := 720) (by decide +kernel), List.mem_of_getElem? (i := 956) (by decide +kernel), List.mem_of_getElem? (i := 957) (by decide +kernel)⟩
theorem lw_p30 : lw_okq (⟨"ThatchLaneModel", "goRain", "(I)I"⟩, 42) := ⟨⟨by decide +kernel, by decide +kernel⟩, List.mem_of_getElem? (i := 720) (by decide +kernel), List.mem_of_getElem? (i := 964) (by decide +kernel), List.mem_of_getElem? (i := 965) (by decide +kernel)⟩
theorem lw_p31 : lw_okq (⟨"ThatchLaneModel", "goCheer", "(I)V"⟩, 42) := ⟨⟨by decide +kernel, by decide +kernel⟩, List.mem_of_getElem? (i := 720) (by decide +kernel), List.mem_of_getElem? (i := 975) (by decide +kernel), List.mem_of_getElem? (i := 976) (by decide +kernel)⟩
def lw_privs_2 : List (MethodName × Nat) := [(⟨"ThatchLane", "mixHouse", "(JI)J"⟩, 13), (⟨"ThatchLaneModel", "read", "()I"⟩, 42), (⟨"ThatchLaneModel", "at", "(I)I"⟩, 42), (⟨"ThatchLaneModel", "isFigure", "(I)Z"⟩, 42), (⟨"ThatchLaneModel", "isHouse", "(I)Z"⟩, 42), (⟨"ThatchLaneModel", "houseNow", "(II)I"⟩, 42), (⟨"ThatchLaneModel", "grownOf", "(I)I"⟩, 42), (⟨"ThatchLaneModel", "worriesOf", "(I)I"⟩, 42), (⟨"ThatchLaneModel", "reedBehind", "(III)I"⟩, 42), (⟨"ThatchLaneModel", "lookFor", "(I)I"⟩, 42), (⟨"ThatchLaneModel", "worstBy", "(III)I"⟩, 42), (⟨"ThatchLaneModel", "reachesTo", "(II)I"⟩, 42), (⟨"ThatchLaneModel", "wetBy", "(I)I"⟩, 42), (⟨"ThatchLaneModel", "goYear", "()V"⟩, 42), (⟨"ThatchLaneModel", "goRain", "(I)I"⟩, 42), (⟨"ThatchLaneModel", "goCheer", "(I)V"⟩, 42)]
theorem lw_r2 : ∀ q ∈ lw_privs_2, lw_okq q := List.forall_mem_cons.mpr ⟨lw_p16, List.forall_mem_cons.mpr ⟨lw_p17, List.forall_mem_cons.mpr ⟨lw_p18, List.forall_mem_cons.mpr ⟨lw_p19, List.forall_mem_cons.mpr ⟨lw_p20, List.forall_mem_cons.mpr ⟨lw_p21, List.forall_mem_cons.mpr ⟨lw_p22, List.forall_mem_cons.mpr ⟨lw_p23, List.forall_mem_cons.mpr ⟨lw_p24, List.forall_mem_cons.mpr ⟨lw_p25, List.forall_mem_cons.mpr ⟨lw_p26, List.forall_mem_cons.mpr ⟨lw_p27, List.forall_mem_cons.mpr ⟨lw_p28, List.forall_mem_cons.mpr ⟨lw_p29, List.forall_mem_cons.mpr ⟨lw_p30, List.forall_mem_cons.mpr ⟨lw_p31, fun _ h => absurd h List.not_mem_nil⟩⟩⟩⟩⟩⟩⟩⟩⟩⟩⟩⟩⟩⟩⟩⟩
theorem lw_p32 : lw_okq (⟨"ThatchLaneModel", "mayComb", "(I)Z"⟩, 42) := ⟨⟨by decide +kernel, by decide +kernel⟩, List.mem_of_getElem? (i := 720) (by decide +kernel), List.mem_of_getElem? (i := 983) (by decide +kernel), List.mem_of_getElem? (i := 984) (by decide +kernel)⟩
theorem lw_p33 : lw_okq (⟨"ThatchLaneModel", "goComb", "(I)V"⟩, 42) := ⟨⟨by decide +kernel, by decide +kernel⟩, List.mem_of_getElem? (i := 720) (by decide +kernel), List.mem_of_getElem? (i := 987) (by decide +kernel), List.mem_of_getElem? (i := 988) (by decide +kernel)⟩
theorem lw_p34 : lw_okq (⟨"ThatchLaneModel", "dryNow", "(II)I"⟩, 42) := ⟨⟨by decide +kernel, by decide +kernel⟩, List.mem_of_getElem? (i := 720) (by decide +kernel), List.mem_of_getElem? (i := 999) (by decide +kernel), List.mem_of_getElem? (i := 1000) (by decide +kernel)⟩
theorem lw_p35 : lw_okq (⟨"ThatchLaneModel", "save", "()V"⟩, 42) := ⟨⟨by decide +kernel, by decide +kernel⟩, List.mem_of_getElem? (i := 720) (by decide +kernel), List.mem_of_getElem? (i := 1003) (by decide +kernel), List.mem_of_getElem? (i := 1004) (by decide +kernel)⟩
theorem lw_p36 : lw_okq (⟨"ThatchLaneModel", "load", "()V"⟩, 42) := ⟨⟨by decide +kernel, by decide +kernel⟩, List.mem_of_getElem? (i := 720) (by decide +kernel), List.mem_of_getElem? (i := 1007) (by decide +kernel), List.mem_of_getElem? (i := 1008) (by decide +kernel)⟩
theorem lw_p37 : lw_okq (⟨"ThatchLaneModel", "layPlan", "(II)V"⟩, 42) := ⟨⟨by decide +kernel, by decide +kernel⟩, List.mem_of_getElem? (i := 720) (by decide +kernel), List.mem_of_getElem? (i := 1015) (by decide +kernel), List.mem_of_getElem? (i := 1016) (by decide +kernel)⟩
theorem lw_p38 : lw_okq (⟨"ThatchLaneModel", "reedAll", "()I"⟩, 42) := ⟨⟨by decide +kernel, by decide +kernel⟩, List.mem_of_getElem? (i := 720) (by decide +kernel), List.mem_of_getElem? (i := 1019) (by decide +kernel), List.mem_of_getElem? (i := 1020) (by decide +kernel)⟩
theorem lw_p39 : lw_okq (⟨"ThatchLaneModel", "planNow", "(II)I"⟩, 42) := ⟨⟨by decide +kernel, by decide +kernel⟩, List.mem_of_getElem? (i := 720) (by decide +kernel), List.mem_of_getElem? (i := 1023) (by decide +kernel), List.mem_of_getElem? (i := 1024) (by decide +kernel)⟩
theorem lw_p40 : lw_okq (⟨"ThatchLaneModel", "layTwos", "()I"⟩, 42) := ⟨⟨by decide +kernel, by decide +kernel⟩, List.mem_of_getElem? (i := 720) (by decide +kernel), List.mem_of_getElem? (i := 1031) (by decide +kernel), List.mem_of_getElem? (i := 1032) (by decide +kernel)⟩
theorem lw_p41 : lw_okq (⟨"ThatchLaneModel", "leastOf", "(I)I"⟩, 42) := ⟨⟨by decide +kernel, by decide +kernel⟩, List.mem_of_getElem? (i := 720) (by decide +kernel), List.mem_of_getElem? (i := 1035) (by decide +kernel), List.mem_of_getElem? (i := 1036) (by decide +kernel)⟩
theorem lw_p42 : lw_okq (⟨"ThatchLaneModel", "apart", "(II)I"⟩, 42) := ⟨⟨by decide +kernel, by decide +kernel⟩, List.mem_of_getElem? (i := 720) (by decide +kernel), List.mem_of_getElem? (i := 1042) (by decide +kernel), List.mem_of_getElem? (i := 1043) (by decide +kernel)⟩
theorem lw_p43 : lw_okq (⟨"ThatchLaneModel", "partnerIn", "(I)I"⟩, 42) := ⟨⟨by decide +kernel, by decide +kernel⟩, List.mem_of_getElem? (i := 720) (by decide +kernel), List.mem_of_getElem? (i := 1046) (by decide +kernel), List.mem_of_getElem? (i := 1047) (by decide +kernel)⟩
theorem lw_p44 : lw_okq (⟨"ThatchLaneModel", "patchNow", "(III)I"⟩, 42) := ⟨⟨by decide +kernel, by decide +kernel⟩, List.mem_of_getElem? (i := 720) (by decide +kernel), List.mem_of_getElem? (i := 1054) (by decide +kernel), List.mem_of_getElem? (i := 1055) (by decide +kernel)⟩
theorem lw_p45 : lw_okq (⟨"ThatchLaneModel", "patchHouse", "(II)V"⟩, 42) := ⟨⟨by decide +kernel, by decide +kernel⟩, List.mem_of_getElem? (i := 720) (by decide +kernel), List.mem_of_getElem? (i := 1058) (by decide +kernel), List.mem_of_getElem? (i := 1059) (by decide +kernel)⟩
theorem lw_p46 : lw_okq (⟨"ThatchLaneModel", "oddsNow", "(III)I"⟩, 42) := ⟨⟨by decide +kernel, by decide +kernel⟩, List.mem_of_getElem? (i := 720) (by decide +kernel), List.mem_of_getElem? (i := 1066) (by decide +kernel), List.mem_of_getElem? (i := 1067) (by decide +kernel)⟩
theorem lw_p47 : lw_okq (⟨"ThatchLaneModel", "agesNow", "(III)I"⟩, 42) := ⟨⟨by decide +kernel, by decide +kernel⟩, List.mem_of_getElem? (i := 720) (by decide +kernel), List.mem_of_getElem? (i := 1085) (by decide +kernel), List.mem_of_getElem? (i := 1086) (by decide +kernel)⟩
def lw_privs_3 : List (MethodName × Nat) := [(⟨"ThatchLaneModel", "mayComb", "(I)Z"⟩, 42), (⟨"ThatchLaneModel", "goComb", "(I)V"⟩, 42), (⟨"ThatchLaneModel", "dryNow", "(II)I"⟩, 42), (⟨"ThatchLaneModel", "save", "()V"⟩, 42), (⟨"ThatchLaneModel", "load", "()V"⟩, 42), (⟨"ThatchLaneModel", "layPlan", "(II)V"⟩, 42), (⟨"ThatchLaneModel", "reedAll", "()I"⟩, 42), (⟨"ThatchLaneModel", "planNow", "(II)I"⟩, 42), (⟨"ThatchLaneModel", "layTwos", "()I"⟩, 42), (⟨"ThatchLaneModel", "leastOf", "(I)I"⟩, 42), (⟨"ThatchLaneModel", "apart", "(II)I"⟩, 42), (⟨"ThatchLaneModel", "partnerIn", "(I)I"⟩, 42), (⟨"ThatchLaneModel", "patchNow", "(III)I"⟩, 42), (⟨"ThatchLaneModel", "patchHouse", "(II)V"⟩, 42), (⟨"ThatchLaneModel", "oddsNow", "(III)I"⟩, 42), (⟨"ThatchLaneModel", "agesNow", "(III)I"⟩, 42)]
theorem lw_r3 : ∀ q ∈ lw_privs_3, lw_okq q := List.forall_mem_cons.mpr ⟨lw_p32, List.forall_mem_cons.mpr ⟨lw_p33, List.forall_mem_cons.mpr ⟨lw_p34, List.forall_mem_cons.mpr ⟨lw_p35, List.forall_mem_cons.mpr ⟨lw_p36, List.forall_mem_cons.mpr ⟨lw_p37, List.forall_mem_cons.mpr ⟨lw_p38, List.forall_mem_cons.mpr ⟨lw_p39, List.forall_mem_cons.mpr ⟨lw_p40, List.forall_mem_cons.mpr ⟨lw_p41, List.forall_mem_cons.mpr ⟨lw_p42, List.forall_mem_cons.mpr ⟨lw_p43, List.forall_mem_cons.mpr ⟨lw_p44, List.forall_mem_cons.mpr ⟨lw_p45, List.forall_mem_cons.mpr ⟨lw_p46, List.forall_mem_cons.mpr ⟨lw_p47, fun _ h => absurd h List.not_mem_nil⟩⟩⟩⟩⟩⟩⟩⟩⟩⟩⟩⟩⟩⟩⟩⟩
theorem lw_p48 : lw_okq (⟨"ThatchLaneModel", "draw", "(I)I"⟩, 42) := ⟨⟨by decide +kernel, by decide +kernel⟩, List.mem_of_getElem? (i := 720) (by decide +kernel), List.mem_of_getElem? (i := 1089) (by decide +kernel), List.mem_of_getElem? (i := 1090) (by decide +kernel)⟩
theorem lw_p49 : lw_okq (⟨"ThatchLaneModel", "howMany", "(I)I"⟩, 42) := ⟨⟨by decide +kernel, by decide +kernel⟩, List.mem_of_getElem? (i := 720) (by decide +kernel), List.mem_of_getElem? (i := 1109) (by decide +kernel), List.mem_of_getElem? (i := 1110) (by decide +kernel)⟩
theorem lw_p50 : lw_okq (⟨"ThatchLaneModel", "worryAll", "()I"⟩, 42) := ⟨⟨by decide +kernel, by decide +kernel⟩, List.mem_of_getElem? (i := 720) (by decide +kernel), List.mem_of_getElem? (i := 1113) (by decide +kernel), List.mem_of_getElem? (i := 1114) (by decide +kernel)⟩
theorem lw_p51 : lw_okq (⟨"ThatchLaneModel", "thick", "()I"⟩, 42) := ⟨⟨by decide +kernel, by decide +kernel⟩, List.mem_of_getElem? (i := 720) (by decide +kernel), List.mem_of_getElem? (i := 1117) (by decide +kernel), List.mem_of_getElem? (i := 1118) (by decide +kernel)⟩
theorem lw_p52 : lw_okq (⟨"ThatchLaneModel", "mixHouse", "(I)V"⟩, 42) := ⟨⟨by decide +kernel, by decide +kernel⟩, List.mem_of_getElem? (i := 720) (by decide +kernel), List.mem_of_getElem? (i := 1126) (by decide +kernel), List.mem_of_getElem? (i := 1127) (by decide +kernel)⟩
theorem lw_p53 : lw_okq (⟨"ThatchLaneModel", "mix", "(J)V"⟩, 42) := ⟨⟨by decide +kernel, by decide +kernel⟩, List.mem_of_getElem? (i := 720) (by decide +kernel), List.mem_of_getElem? (i := 1130) (by decide +kernel), List.mem_of_getElem? (i := 1131) (by decide +kernel)⟩
theorem lw_p54 : lw_okq (⟨"ThatchLaneModel", "mixLane", "()V"⟩, 42) := ⟨⟨by decide +kernel, by decide +kernel⟩, List.mem_of_getElem? (i := 720) (by decide +kernel), List.mem_of_getElem? (i := 1135) (by decide +kernel), List.mem_of_getElem? (i := 1136) (by decide +kernel)⟩
def lw_privs_4 : List (MethodName × Nat) := [(⟨"ThatchLaneModel", "draw", "(I)I"⟩, 42), (⟨"ThatchLaneModel", "howMany", "(I)I"⟩, 42), (⟨"ThatchLaneModel", "worryAll", "()I"⟩, 42), (⟨"ThatchLaneModel", "thick", "()I"⟩, 42), (⟨"ThatchLaneModel", "mixHouse", "(I)V"⟩, 42), (⟨"ThatchLaneModel", "mix", "(J)V"⟩, 42), (⟨"ThatchLaneModel", "mixLane", "()V"⟩, 42)]
theorem lw_r4 : ∀ q ∈ lw_privs_4, lw_okq q := List.forall_mem_cons.mpr ⟨lw_p48, List.forall_mem_cons.mpr ⟨lw_p49, List.forall_mem_cons.mpr ⟨lw_p50, List.forall_mem_cons.mpr ⟨lw_p51, List.forall_mem_cons.mpr ⟨lw_p52, List.forall_mem_cons.mpr ⟨lw_p53, List.forall_mem_cons.mpr ⟨lw_p54, fun _ h => absurd h List.not_mem_nil⟩⟩⟩⟩⟩⟩⟩
def lw_privs : List (MethodName × Nat) := lw_privs_1 ++ (lw_privs_2 ++ (lw_privs_3 ++ (lw_privs_4)))
def lw_tbl : List Cond := k2_sels lw_privs ++ tables_1
theorem lw_privs_ok : ∀ q ∈ lw_privs, lw_okq q := by
  show ∀ q ∈ lw_privs_1 ++ (lw_privs_2 ++ (lw_privs_3 ++ (lw_privs_4))), lw_okq q
  exact List.forall_mem_append.mpr ⟨lw_r1, List.forall_mem_append.mpr ⟨lw_r2, List.forall_mem_append.mpr ⟨lw_r3, lw_r4⟩⟩⟩
end
section
def RX0 : String := "ThatchLane$Draws"
def TX0 : u_T := fun k => match k with
  | _ => ("ThatchLane$Draws", "seed", "J", false)
def tyX0 : Nat → FieldType := fun k => match k with
  | _ => .long
abbrev wsX00 : List Cond := u_ws RX0 TX0 1
theorem nmX0 : ∀ a, a < 1 → ∀ b, b < 1 → a ≠ b → (TX0 a).2.1 ≠ (TX0 b).2.1 := by decide +kernel
theorem tyX0_ok : ∀ k, k < 1 → parseFieldDescriptor (TX0 k).2.2.1 = some (tyX0 k) := by decide +kernel
abbrev cX0_init : ByteArray := prog_2_method_1_code
def yX0_init : MethodName := ⟨RX0, "<init>", "()V"⟩
abbrev cX0_next : ByteArray := prog_2_method_2_code
def yX0_next : MethodName := ⟨RX0, "next", "(I)I"⟩
def RX1 : String := "ThatchLane$Lane"
def TX1 : u_T := fun k => match k with
  | 0 => ("ThatchLane$Lane", "kinds", "LThatchLane$Row;", true)
  | 1 => ("ThatchLane$Lane", "reeds", "LThatchLane$Row;", true)
  | 2 => ("ThatchLane$Lane", "worries", "LThatchLane$Row;", true)
  | 3 => ("ThatchLane$Lane", "combed", "LThatchLane$Row;", true)
  | 4 => ("ThatchLane$Lane", "size", "I", false)
  | 5 => ("ThatchLane$Lane", "year", "I", false)
  | _ => ("ThatchLane$Lane", "wets", "I", false)
def tyX1 : Nat → FieldType := fun k => match k with
  | 0 => .object "ThatchLane$Row"
  | 1 => .object "ThatchLane$Row"
  | 2 => .object "ThatchLane$Row"
  | 3 => .object "ThatchLane$Row"
  | 4 => .int
  | 5 => .int
  | _ => .int
abbrev wsX10 : List Cond := u_ws RX1 TX1 7
theorem nmX1 : ∀ a, a < 7 → ∀ b, b < 7 → a ≠ b → (TX1 a).2.1 ≠ (TX1 b).2.1 := by decide +kernel
theorem tyX1_ok : ∀ k, k < 7 → parseFieldDescriptor (TX1 k).2.2.1 = some (tyX1 k) := by decide +kernel
abbrev cX1_init : ByteArray := prog_3_method_1_code
def yX1_init : MethodName := ⟨RX1, "<init>", "()V"⟩
abbrev cX1_begin : ByteArray := prog_3_method_2_code
def yX1_begin : MethodName := ⟨RX1, "begin", "(I)V"⟩
abbrev cX1_settle : ByteArray := prog_3_method_3_code
def yX1_settle : MethodName := ⟨RX1, "settle", "(IIII)V"⟩
abbrev cX1_take : ByteArray := prog_3_method_4_code
def yX1_take : MethodName := ⟨RX1, "take", "(LThatchLane$Lane;)V"⟩
abbrev cX1_has : ByteArray := prog_3_method_5_code
def yX1_has : MethodName := ⟨RX1, "has", "(I)Z"⟩
abbrev cX1_passYear : ByteArray := prog_3_method_6_code
def yX1_passYear : MethodName := ⟨RX1, "passYear", "()V"⟩
abbrev cX1_reedBehindYear : ByteArray := prog_3_method_7_code
def yX1_reedBehindYear : MethodName := ⟨RX1, "reedBehindYear", "(I)I"⟩
abbrev cX1_reachOf : ByteArray := prog_3_method_8_code
def yX1_reachOf : MethodName := ⟨RX1, "reachOf", "(II)I"⟩
abbrev cX1_isWet : ByteArray := prog_3_method_9_code
def yX1_isWet : MethodName := ⟨RX1, "isWet", "(II)Z"⟩
abbrev cX1_wetBits : ByteArray := prog_3_method_10_code
def yX1_wetBits : MethodName := ⟨RX1, "wetBits", "(I)I"⟩
abbrev cX1_rainOn : ByteArray := prog_3_method_11_code
def yX1_rainOn : MethodName := ⟨RX1, "rainOn", "(I)I"⟩
abbrev cX1_rainsBorne : ByteArray := prog_3_method_12_code
def yX1_rainsBorne : MethodName := ⟨RX1, "rainsBorne", "(I)I"⟩
abbrev cX1_cheerUp : ByteArray := prog_3_method_13_code
def yX1_cheerUp : MethodName := ⟨RX1, "cheerUp", "(I)V"⟩
abbrev cX1_canBeCombed : ByteArray := prog_3_method_14_code
def yX1_canBeCombed : MethodName := ⟨RX1, "canBeCombed", "(I)Z"⟩
abbrev cX1_combOut : ByteArray := prog_3_method_15_code
def yX1_combOut : MethodName := ⟨RX1, "combOut", "(I)V"⟩
abbrev cX1_reedOfAll : ByteArray := prog_3_method_16_code
def yX1_reedOfAll : MethodName := ⟨RX1, "reedOfAll", "()I"⟩
abbrev cX1_worryOfAll : ByteArray := prog_3_method_17_code
def yX1_worryOfAll : MethodName := ⟨RX1, "worryOfAll", "()I"⟩
abbrev cX1_howManyCombed : ByteArray := prog_3_method_18_code
def yX1_howManyCombed : MethodName := ⟨RX1, "howManyCombed", "()I"⟩
abbrev cX1_howManyShelter : ByteArray := prog_3_method_19_code
def yX1_howManyShelter : MethodName := ⟨RX1, "howManyShelter", "()I"⟩
def RX2 : String := "ThatchLane$Page"
def TX2 : u_T := fun k => match k with
  | 0 => ("ThatchLane$Page", "codes", "LThatchLane$Row;", true)
  | _ => ("ThatchLane$Page", "size", "I", false)
def tyX2 : Nat → FieldType := fun k => match k with
  | 0 => .object "ThatchLane$Row"
  | _ => .int
abbrev wsX20 : List Cond := u_ws RX2 TX2 2
theorem nmX2 : ∀ a, a < 2 → ∀ b, b < 2 → a ≠ b → (TX2 a).2.1 ≠ (TX2 b).2.1 := by decide +kernel
theorem tyX2_ok : ∀ k, k < 2 → parseFieldDescriptor (TX2 k).2.2.1 = some (tyX2 k) := by decide +kernel
abbrev cX2_init : ByteArray := prog_4_method_1_code
def yX2_init : MethodName := ⟨RX2, "<init>", "()V"⟩
abbrev cX2_add : ByteArray := prog_4_method_2_code
def yX2_add : MethodName := ⟨RX2, "add", "(I)V"⟩
abbrev cX2_firstFault : ByteArray := prog_4_method_3_code
def yX2_firstFault : MethodName := ⟨RX2, "firstFault", "()I"⟩
abbrev cX2_isLane : ByteArray := prog_4_method_4_code
def yX2_isLane : MethodName := ⟨RX2, "isLane", "()Z"⟩
abbrev cX2_housesTold : ByteArray := prog_4_method_5_code
def yX2_housesTold : MethodName := ⟨RX2, "housesTold", "()I"⟩
abbrev cX2_kindTold : ByteArray := prog_4_method_6_code
def yX2_kindTold : MethodName := ⟨RX2, "kindTold", "(I)I"⟩
abbrev cX2_reedTold : ByteArray := prog_4_method_7_code
def yX2_reedTold : MethodName := ⟨RX2, "reedTold", "(I)I"⟩
abbrev cX2_worryTold : ByteArray := prog_4_method_8_code
def yX2_worryTold : MethodName := ⟨RX2, "worryTold", "(I)I"⟩
abbrev cX2_mayStand : ByteArray := prog_4_method_9_code
def yX2_mayStand : MethodName := ⟨RX2, "mayStand", "(II)Z"⟩
abbrev cX2_kindOf : ByteArray := prog_4_method_10_code
def yX2_kindOf : MethodName := ⟨RX2, "kindOf", "(I)I"⟩
def RX3 : String := "ThatchLane$Pairer"
def TX3 : u_T := fun k => match k with
  | 0 => ("ThatchLane$Pairer", "with", "LThatchLane$Row;", true)
  | 1 => ("ThatchLane$Pairer", "best", "LThatchLane$Row;", true)
  | _ => ("ThatchLane$Pairer", "least", "I", false)
def tyX3 : Nat → FieldType := fun k => match k with
  | 0 => .object "ThatchLane$Row"
  | 1 => .object "ThatchLane$Row"
  | _ => .int
abbrev wsX30 : List Cond := u_ws RX3 TX3 3
theorem nmX3 : ∀ a, a < 3 → ∀ b, b < 3 → a ≠ b → (TX3 a).2.1 ≠ (TX3 b).2.1 := by decide +kernel
theorem tyX3_ok : ∀ k, k < 3 → parseFieldDescriptor (TX3 k).2.2.1 = some (tyX3 k) := by decide +kernel
abbrev cX3_init : ByteArray := prog_5_method_1_code
def yX3_init : MethodName := ⟨RX3, "<init>", "()V"⟩
abbrev cX3_search : ByteArray := prog_5_method_2_code
def yX3_search : MethodName := ⟨RX3, "search", "(LThatchLane$Lane;)V"⟩
abbrev cX3_pairFrom : ByteArray := prog_5_method_3_code
def yX3_pairFrom : MethodName := ⟨RX3, "pairFrom", "(LThatchLane$Lane;IIZ)V"⟩
abbrev cX3_leave : ByteArray := prog_5_method_4_code
def yX3_leave : MethodName := ⟨RX3, "leave", "(LThatchLane$Lane;II)V"⟩
abbrev cX3_couple : ByteArray := prog_5_method_5_code
def yX3_couple : MethodName := ⟨RX3, "couple", "(LThatchLane$Lane;IIIZ)V"⟩
abbrev cX3_firstFree : ByteArray := prog_5_method_6_code
def yX3_firstFree : MethodName := ⟨RX3, "firstFree", "(LThatchLane$Lane;I)I"⟩
abbrev cX3_weigh : ByteArray := prog_5_method_7_code
def yX3_weigh : MethodName := ⟨RX3, "weigh", "(I)V"⟩
def RX4 : String := "ThatchLane$Patcher"
def TX4 : u_T := fun k => match k with
  | 0 => ("ThatchLane$Patcher", "rain", "I", false)
  | 1 => ("ThatchLane$Patcher", "bundles", "I", false)
  | 2 => ("ThatchLane$Patcher", "fewestWet", "I", false)
  | _ => ("ThatchLane$Patcher", "fewestBundles", "I", false)
def tyX4 : Nat → FieldType := fun k => match k with
  | 0 => .int
  | 1 => .int
  | 2 => .int
  | _ => .int
abbrev wsX40 : List Cond := u_ws RX4 TX4 4
theorem nmX4 : ∀ a, a < 4 → ∀ b, b < 4 → a ≠ b → (TX4 a).2.1 ≠ (TX4 b).2.1 := by decide +kernel
theorem tyX4_ok : ∀ k, k < 4 → parseFieldDescriptor (TX4 k).2.2.1 = some (tyX4 k) := by decide +kernel
abbrev cX4_init : ByteArray := prog_6_method_1_code
def yX4_init : MethodName := ⟨RX4, "<init>", "()V"⟩
abbrev cX4_search : ByteArray := prog_6_method_2_code
def yX4_search : MethodName := ⟨RX4, "search", "(LThatchLane$Lane;II)V"⟩
abbrev cX4_putOnFrom : ByteArray := prog_6_method_3_code
def yX4_putOnFrom : MethodName := ⟨RX4, "putOnFrom", "(LThatchLane$Lane;IIII)V"⟩
abbrev cX4_raise : ByteArray := prog_6_method_4_code
def yX4_raise : MethodName := ⟨RX4, "raise", "(LThatchLane$Lane;IIIII)V"⟩
abbrev cX4_weigh : ByteArray := prog_6_method_5_code
def yX4_weigh : MethodName := ⟨RX4, "weigh", "(II)V"⟩
def RX5 : String := "ThatchLane$Planner"
def TX5 : u_T := fun k => match k with
  | 0 => ("ThatchLane$Planner", "steps", "[LThatchLane$Lane;", true)
  | 1 => ("ThatchLane$Planner", "chosen", "LThatchLane$Row;", true)
  | 2 => ("ThatchLane$Planner", "best", "LThatchLane$Row;", true)
  | 3 => ("ThatchLane$Planner", "years", "I", false)
  | 4 => ("ThatchLane$Planner", "rain", "I", false)
  | 5 => ("ThatchLane$Planner", "fewestWet", "I", false)
  | _ => ("ThatchLane$Planner", "mostReed", "I", false)
def tyX5 : Nat → FieldType := fun k => match k with
  | 0 => .array (.object "ThatchLane$Lane")
  | 1 => .object "ThatchLane$Row"
  | 2 => .object "ThatchLane$Row"
  | 3 => .int
  | 4 => .int
  | 5 => .int
  | _ => .int
abbrev wsX50 : List Cond := u_ws RX5 TX5 7
theorem nmX5 : ∀ a, a < 7 → ∀ b, b < 7 → a ≠ b → (TX5 a).2.1 ≠ (TX5 b).2.1 := by decide +kernel
theorem tyX5_ok : ∀ k, k < 7 → parseFieldDescriptor (TX5 k).2.2.1 = some (tyX5 k) := by decide +kernel
abbrev cX5_init : ByteArray := prog_7_method_1_code
def yX5_init : MethodName := ⟨RX5, "<init>", "()V"⟩
abbrev cX5_search : ByteArray := prog_7_method_2_code
def yX5_search : MethodName := ⟨RX5, "search", "(LThatchLane$Lane;II)V"⟩
abbrev cX5_goOn : ByteArray := prog_7_method_3_code
def yX5_goOn : MethodName := ⟨RX5, "goOn", "(LThatchLane$Lane;I)V"⟩
abbrev cX5_cheerAndGoOn : ByteArray := prog_7_method_4_code
def yX5_cheerAndGoOn : MethodName := ⟨RX5, "cheerAndGoOn", "(LThatchLane$Lane;II)V"⟩
abbrev cX5_weigh : ByteArray := prog_7_method_5_code
def yX5_weigh : MethodName := ⟨RX5, "weigh", "(LThatchLane$Lane;)V"⟩
abbrev cX5_stepAt : ByteArray := prog_7_method_6_code
def yX5_stepAt : MethodName := ⟨RX5, "stepAt", "(I)LThatchLane$Lane;"⟩
def RX6 : String := "ThatchLane$Row"
def TX6 : u_T := fun k => match k with
  | _ => ("ThatchLane$Row", "cells", "[I", true)
def tyX6 : Nat → FieldType := fun k => match k with
  | _ => .array .int
abbrev wsX60 : List Cond := u_ws RX6 TX6 1
theorem nmX6 : ∀ a, a < 1 → ∀ b, b < 1 → a ≠ b → (TX6 a).2.1 ≠ (TX6 b).2.1 := by decide +kernel
theorem tyX6_ok : ∀ k, k < 1 → parseFieldDescriptor (TX6 k).2.2.1 = some (tyX6 k) := by decide +kernel
abbrev cX6_init : ByteArray := prog_8_method_1_code
def yX6_init : MethodName := ⟨RX6, "<init>", "(I)V"⟩
abbrev cX6_at : ByteArray := prog_8_method_2_code
def yX6_at : MethodName := ⟨RX6, "at", "(I)I"⟩
abbrev cX6_put : ByteArray := prog_8_method_3_code
def yX6_put : MethodName := ⟨RX6, "put", "(II)V"⟩
abbrev cX6_fill : ByteArray := prog_8_method_4_code
def yX6_fill : MethodName := ⟨RX6, "fill", "(I)V"⟩
abbrev cX6_take : ByteArray := prog_8_method_5_code
def yX6_take : MethodName := ⟨RX6, "take", "(LThatchLane$Row;)V"⟩
abbrev cX6_sumOfFirst : ByteArray := prog_8_method_6_code
def yX6_sumOfFirst : MethodName := ⟨RX6, "sumOfFirst", "(I)I"⟩
def RX7 : String := "ThatchLane$Seer"
def TX7 : u_T := fun k => match k with
  | 0 => ("ThatchLane$Seer", "foreseen", "LThatchLane$Row;", true)
  | _ => ("ThatchLane$Seer", "alike", "LThatchLane$Row;", true)
def tyX7 : Nat → FieldType := fun k => match k with
  | 0 => .object "ThatchLane$Row"
  | _ => .object "ThatchLane$Row"
abbrev wsX70 : List Cond := u_ws RX7 TX7 2
theorem nmX7 : ∀ a, a < 2 → ∀ b, b < 2 → a ≠ b → (TX7 a).2.1 ≠ (TX7 b).2.1 := by decide +kernel
theorem tyX7_ok : ∀ k, k < 2 → parseFieldDescriptor (TX7 k).2.2.1 = some (tyX7 k) := by decide +kernel
abbrev cX7_init : ByteArray := prog_9_method_1_code
def yX7_init : MethodName := ⟨RX7, "<init>", "()V"⟩
abbrev cX7_worriesLeft : ByteArray := prog_9_method_2_code
def yX7_worriesLeft : MethodName := ⟨RX7, "worriesLeft", "(LThatchLane$Lane;LThatchLane$Sights;I)I"⟩
abbrev cX7_whenToLook : ByteArray := prog_9_method_3_code
def yX7_whenToLook : MethodName := ⟨RX7, "whenToLook", "(LThatchLane$Lane;LThatchLane$Sights;I)I"⟩
abbrev cX7_foresee : ByteArray := prog_9_method_4_code
def yX7_foresee : MethodName := ⟨RX7, "foresee", "(LThatchLane$Lane;I)V"⟩
abbrev cX7_fits : ByteArray := prog_9_method_5_code
def yX7_fits : MethodName := ⟨RX7, "fits", "(LThatchLane$Sights;II)Z"⟩
abbrev cX7_mostLeft : ByteArray := prog_9_method_6_code
def yX7_mostLeft : MethodName := ⟨RX7, "mostLeft", "(II)I"⟩
def RX8 : String := "ThatchLane$Sights"
def TX8 : u_T := fun k => match k with
  | 0 => ("ThatchLane$Sights", "houses", "LThatchLane$Row;", true)
  | 1 => ("ThatchLane$Sights", "years", "LThatchLane$Row;", true)
  | 2 => ("ThatchLane$Sights", "reeds", "LThatchLane$Row;", true)
  | _ => ("ThatchLane$Sights", "size", "I", false)
def tyX8 : Nat → FieldType := fun k => match k with
  | 0 => .object "ThatchLane$Row"
  | 1 => .object "ThatchLane$Row"
  | 2 => .object "ThatchLane$Row"
  | _ => .int
abbrev wsX80 : List Cond := u_ws RX8 TX8 4
theorem nmX8 : ∀ a, a < 4 → ∀ b, b < 4 → a ≠ b → (TX8 a).2.1 ≠ (TX8 b).2.1 := by decide +kernel
theorem tyX8_ok : ∀ k, k < 4 → parseFieldDescriptor (TX8 k).2.2.1 = some (tyX8 k) := by decide +kernel
abbrev cX8_init : ByteArray := prog_10_method_1_code
def yX8_init : MethodName := ⟨RX8, "<init>", "()V"⟩
abbrev cX8_add : ByteArray := prog_10_method_2_code
def yX8_add : MethodName := ⟨RX8, "add", "(III)V"⟩
abbrev cX8_take : ByteArray := prog_10_method_3_code
def yX8_take : MethodName := ⟨RX8, "take", "(LThatchLane$Sights;)V"⟩
def RX9 : String := "ThatchLane"
def TX9 : u_T := fun k => match k with
  | 0 => ("ThatchLane", "page", "LThatchLane$Page;", true)
  | 1 => ("ThatchLane", "now", "LThatchLane$Lane;", true)
  | 2 => ("ThatchLane", "seen", "LThatchLane$Sights;", true)
  | 3 => ("ThatchLane", "keptLane", "LThatchLane$Lane;", true)
  | 4 => ("ThatchLane", "keptSeen", "LThatchLane$Sights;", true)
  | 5 => ("ThatchLane", "trial", "LThatchLane$Lane;", true)
  | 6 => ("ThatchLane", "seer", "LThatchLane$Seer;", true)
  | 7 => ("ThatchLane", "planner", "LThatchLane$Planner;", true)
  | 8 => ("ThatchLane", "pairer", "LThatchLane$Pairer;", true)
  | 9 => ("ThatchLane", "patcher", "LThatchLane$Patcher;", true)
  | 10 => ("ThatchLane", "draws", "LThatchLane$Draws;", true)
  | 11 => ("ThatchLane", "imageKept", "Z", false)
  | _ => ("ThatchLane", "lanesRead", "I", false)
def tyX9 : Nat → FieldType := fun k => match k with
  | 0 => .object "ThatchLane$Page"
  | 1 => .object "ThatchLane$Lane"
  | 2 => .object "ThatchLane$Sights"
  | 3 => .object "ThatchLane$Lane"
  | 4 => .object "ThatchLane$Sights"
  | 5 => .object "ThatchLane$Lane"
  | 6 => .object "ThatchLane$Seer"
  | 7 => .object "ThatchLane$Planner"
  | 8 => .object "ThatchLane$Pairer"
  | 9 => .object "ThatchLane$Patcher"
  | 10 => .object "ThatchLane$Draws"
  | 11 => .boolean
  | _ => .int
abbrev wsX90 : List Cond := u_ws RX9 TX9 13
theorem nmX9 : ∀ a, a < 13 → ∀ b, b < 13 → a ≠ b → (TX9 a).2.1 ≠ (TX9 b).2.1 := by decide +kernel
theorem tyX9_ok : ∀ k, k < 13 → parseFieldDescriptor (TX9 k).2.2.1 = some (tyX9 k) := by decide +kernel
abbrev cX9_init : ByteArray := prog_1_method_1_code
def yX9_init : MethodName := ⟨RX9, "<init>", "()V"⟩
abbrev cX9_letter : ByteArray := prog_1_method_2_code
def yX9_letter : MethodName := ⟨RX9, "letter", "(I)I"⟩
abbrev cX9_blank : ByteArray := prog_1_method_3_code
def yX9_blank : MethodName := ⟨RX9, "blank", "()I"⟩
abbrev cX9_fault : ByteArray := prog_1_method_4_code
def yX9_fault : MethodName := ⟨RX9, "fault", "()I"⟩
abbrev cX9_lane : ByteArray := prog_1_method_5_code
def yX9_lane : MethodName := ⟨RX9, "lane", "()I"⟩
abbrev cX9_house : ByteArray := prog_1_method_6_code
def yX9_house : MethodName := ⟨RX9, "house", "(II)I"⟩
abbrev cX9_as : ByteArray := prog_1_method_7_code
def yX9_as : MethodName := ⟨RX9, "as", "(II)I"⟩
abbrev cX9_reaches : ByteArray := prog_1_method_8_code
def yX9_reaches : MethodName := ⟨RX9, "reaches", "(II)I"⟩
abbrev cX9_wet : ByteArray := prog_1_method_9_code
def yX9_wet : MethodName := ⟨RX9, "wet", "(I)I"⟩
abbrev cX9_year : ByteArray := prog_1_method_10_code
def yX9_year : MethodName := ⟨RX9, "year", "()I"⟩
abbrev cX9_rain : ByteArray := prog_1_method_11_code
def yX9_rain : MethodName := ⟨RX9, "rain", "(I)I"⟩
abbrev cX9_cheer : ByteArray := prog_1_method_12_code
def yX9_cheer : MethodName := ⟨RX9, "cheer", "(I)I"⟩
abbrev cX9_comb : ByteArray := prog_1_method_13_code
def yX9_comb : MethodName := ⟨RX9, "comb", "(I)I"⟩
abbrev cX9_move : ByteArray := prog_1_method_14_code
def yX9_move : MethodName := ⟨RX9, "move", "(III)I"⟩
abbrev cX9_dry : ByteArray := prog_1_method_15_code
def yX9_dry : MethodName := ⟨RX9, "dry", "(II)I"⟩
abbrev cX9_plan : ByteArray := prog_1_method_16_code
def yX9_plan : MethodName := ⟨RX9, "plan", "(III)I"⟩
abbrev cX9_twos : ByteArray := prog_1_method_17_code
def yX9_twos : MethodName := ⟨RX9, "twos", "(I)I"⟩
abbrev cX9_patch : ByteArray := prog_1_method_18_code
def yX9_patch : MethodName := ⟨RX9, "patch", "(III)I"⟩
abbrev cX9_odds : ByteArray := prog_1_method_19_code
def yX9_odds : MethodName := ⟨RX9, "odds", "(III)I"⟩
abbrev cX9_see : ByteArray := prog_1_method_20_code
def yX9_see : MethodName := ⟨RX9, "see", "(III)I"⟩
abbrev cX9_forget : ByteArray := prog_1_method_21_code
def yX9_forget : MethodName := ⟨RX9, "forget", "()I"⟩
abbrev cX9_ages : ByteArray := prog_1_method_22_code
def yX9_ages : MethodName := ⟨RX9, "ages", "(III)I"⟩
abbrev cX9_image : ByteArray := prog_1_method_23_code
def yX9_image : MethodName := ⟨RX9, "image", "()I"⟩
abbrev cX9_restore : ByteArray := prog_1_method_24_code
def yX9_restore : MethodName := ⟨RX9, "restore", "()I"⟩
abbrev cX9_count : ByteArray := prog_1_method_25_code
def yX9_count : MethodName := ⟨RX9, "count", "(I)I"⟩
abbrev cX9_digest : ByteArray := prog_1_method_26_code
def yX9_digest : MethodName := ⟨RX9, "digest", "()J"⟩
abbrev cX9_mixHouse : ByteArray := prog_1_method_27_code
def yX9_mixHouse : MethodName := ⟨RX9, "mixHouse", "(JI)J"⟩
abbrev cX9_mix : ByteArray := prog_1_method_28_code
def yX9_mix : MethodName := ⟨RX9, "mix", "(JJ)J"⟩
abbrev cX9_oneAge : ByteArray := prog_1_method_29_code
def yX9_oneAge : MethodName := ⟨RX9, "oneAge", "()I"⟩
abbrev cX9_inLowestTerms : ByteArray := prog_1_method_30_code
def yX9_inLowestTerms : MethodName := ⟨RX9, "inLowestTerms", "(III)I"⟩
abbrev cX9_within : ByteArray := prog_1_method_31_code
def yX9_within : MethodName := ⟨RX9, "within", "(III)Z"⟩
abbrev cX9_isOfKind : ByteArray := prog_1_method_32_code
def yX9_isOfKind : MethodName := ⟨RX9, "isOfKind", "(II)Z"⟩
abbrev cX9_grown : ByteArray := prog_1_method_33_code
def yX9_grown : MethodName := ⟨RX9, "grown", "(IIIII)I"⟩
abbrev cX9_rainBehind : ByteArray := prog_1_method_34_code
def yX9_rainBehind : MethodName := ⟨RX9, "rainBehind", "(II)I"⟩
def RX10 : String := "ThatchLaneModel"
def TX10 : u_T := fun k => match k with
  | 0 => ("ThatchLaneModel", "lanes", "I", false)
  | 1 => ("ThatchLaneModel", "houses", "I", false)
  | 2 => ("ThatchLaneModel", "kindOf", "[I", true)
  | 3 => ("ThatchLaneModel", "reedOf", "[I", true)
  | 4 => ("ThatchLaneModel", "worryOf", "[I", true)
  | 5 => ("ThatchLaneModel", "combed", "I", false)
  | 6 => ("ThatchLaneModel", "years", "I", false)
  | 7 => ("ThatchLaneModel", "wetted", "I", false)
  | 8 => ("ThatchLaneModel", "seen", "I", false)
  | 9 => ("ThatchLaneModel", "seenHouse", "[I", true)
  | 10 => ("ThatchLaneModel", "seenYear", "[I", true)
  | 11 => ("ThatchLaneModel", "seenReed", "[I", true)
  | 12 => ("ThatchLaneModel", "pageLength", "I", false)
  | 13 => ("ThatchLaneModel", "page", "[B", true)
  | 14 => ("ThatchLaneModel", "isWhole", "Z", false)
  | 15 => ("ThatchLaneModel", "newHouses", "I", false)
  | 16 => ("ThatchLaneModel", "savedReed", "[I", true)
  | 17 => ("ThatchLaneModel", "savedWorry", "[I", true)
  | 18 => ("ThatchLaneModel", "savedCombed", "I", false)
  | 19 => ("ThatchLaneModel", "savedYears", "I", false)
  | 20 => ("ThatchLaneModel", "planWet", "I", false)
  | 21 => ("ThatchLaneModel", "planReed", "I", false)
  | 22 => ("ThatchLaneModel", "planCode", "I", false)
  | 23 => ("ThatchLaneModel", "leastBy", "[I", true)
  | 24 => ("ThatchLaneModel", "goesWith", "[I", true)
  | 25 => ("ThatchLaneModel", "bundlesBy", "[I", true)
  | 26 => ("ThatchLaneModel", "bundlesNext", "[I", true)
  | 27 => ("ThatchLaneModel", "sameBy", "[I", true)
  | 28 => ("ThatchLaneModel", "seedNow", "J", false)
  | 29 => ("ThatchLaneModel", "isKept", "Z", false)
  | 30 => ("ThatchLaneModel", "keptLane", "I", false)
  | 31 => ("ThatchLaneModel", "keptCombed", "I", false)
  | 32 => ("ThatchLaneModel", "keptYears", "I", false)
  | 33 => ("ThatchLaneModel", "keptWetted", "I", false)
  | 34 => ("ThatchLaneModel", "keptSeen", "I", false)
  | 35 => ("ThatchLaneModel", "keptKind", "[I", true)
  | 36 => ("ThatchLaneModel", "keptReed", "[I", true)
  | 37 => ("ThatchLaneModel", "keptWorry", "[I", true)
  | 38 => ("ThatchLaneModel", "keptHouse", "[I", true)
  | 39 => ("ThatchLaneModel", "keptYear", "[I", true)
  | 40 => ("ThatchLaneModel", "keptSeenReed", "[I", true)
  | _ => ("ThatchLaneModel", "h", "J", false)
def tyX10 : Nat → FieldType := fun k => match k with
  | 0 => .int
  | 1 => .int
  | 2 => .array .int
  | 3 => .array .int
  | 4 => .array .int
  | 5 => .int
  | 6 => .int
  | 7 => .int
  | 8 => .int
  | 9 => .array .int
  | 10 => .array .int
  | 11 => .array .int
  | 12 => .int
  | 13 => .array .byte
  | 14 => .boolean
  | 15 => .int
  | 16 => .array .int
  | 17 => .array .int
  | 18 => .int
  | 19 => .int
  | 20 => .int
  | 21 => .int
  | 22 => .int
  | 23 => .array .int
  | 24 => .array .int
  | 25 => .array .int
  | 26 => .array .int
  | 27 => .array .int
  | 28 => .long
  | 29 => .boolean
  | 30 => .int
  | 31 => .int
  | 32 => .int
  | 33 => .int
  | 34 => .int
  | 35 => .array .int
  | 36 => .array .int
  | 37 => .array .int
  | 38 => .array .int
  | 39 => .array .int
  | 40 => .array .int
  | _ => .long
abbrev wsX100 : List Cond := u_ws RX10 TX10 42
theorem nmX10 : ∀ a, a < 42 → ∀ b, b < 42 → a ≠ b → (TX10 a).2.1 ≠ (TX10 b).2.1 := by decide +kernel
theorem tyX10_ok : ∀ k, k < 42 → parseFieldDescriptor (TX10 k).2.2.1 = some (tyX10 k) := by decide +kernel
abbrev cX10_init : ByteArray := prog_12_method_1_code
def yX10_init : MethodName := ⟨RX10, "<init>", "()V"⟩
abbrev cX10_within : ByteArray := prog_12_method_3_code
def yX10_within : MethodName := ⟨RX10, "within", "(III)Z"⟩
abbrev cX10_isIn : ByteArray := prog_12_method_4_code
def yX10_isIn : MethodName := ⟨RX10, "isIn", "(II)Z"⟩
abbrev cX10_size : ByteArray := prog_12_method_5_code
def yX10_size : MethodName := ⟨RX10, "size", "(I)I"⟩
abbrev cX10_divisor : ByteArray := prog_12_method_6_code
def yX10_divisor : MethodName := ⟨RX10, "divisor", "(II)I"⟩
abbrev cX10_letter : ByteArray := prog_12_method_7_code
def yX10_letter : MethodName := ⟨RX10, "letter", "(I)I"⟩
abbrev cX10_blank : ByteArray := prog_12_method_8_code
def yX10_blank : MethodName := ⟨RX10, "blank", "()I"⟩
abbrev cX10_kindBy : ByteArray := prog_12_method_9_code
def yX10_kindBy : MethodName := ⟨RX10, "kindBy", "(I)I"⟩
abbrev cX10_at : ByteArray := prog_12_method_10_code
def yX10_at : MethodName := ⟨RX10, "at", "(I)I"⟩
abbrev cX10_isFigure : ByteArray := prog_12_method_11_code
def yX10_isFigure : MethodName := ⟨RX10, "isFigure", "(I)Z"⟩
abbrev cX10_read : ByteArray := prog_12_method_12_code
def yX10_read : MethodName := ⟨RX10, "read", "()I"⟩
abbrev cX10_fault : ByteArray := prog_12_method_13_code
def yX10_fault : MethodName := ⟨RX10, "fault", "()I"⟩
abbrev cX10_lane : ByteArray := prog_12_method_14_code
def yX10_lane : MethodName := ⟨RX10, "lane", "()I"⟩
abbrev cX10_isHouse : ByteArray := prog_12_method_15_code
def yX10_isHouse : MethodName := ⟨RX10, "isHouse", "(I)Z"⟩
abbrev cX10_held : ByteArray := prog_12_method_16_code
def yX10_held : MethodName := ⟨RX10, "held", "(I)I"⟩
abbrev cX10_grown : ByteArray := prog_12_method_17_code
def yX10_grown : MethodName := ⟨RX10, "grown", "(IIIZI)I"⟩
abbrev cX10_grownOf : ByteArray := prog_12_method_18_code
def yX10_grownOf : MethodName := ⟨RX10, "grownOf", "(I)I"⟩
abbrev cX10_goYear : ByteArray := prog_12_method_19_code
def yX10_goYear : MethodName := ⟨RX10, "goYear", "()V"⟩
abbrev cX10_reachesTo : ByteArray := prog_12_method_20_code
def yX10_reachesTo : MethodName := ⟨RX10, "reachesTo", "(II)I"⟩
abbrev cX10_wetBy : ByteArray := prog_12_method_21_code
def yX10_wetBy : MethodName := ⟨RX10, "wetBy", "(I)I"⟩
abbrev cX10_goRain : ByteArray := prog_12_method_22_code
def yX10_goRain : MethodName := ⟨RX10, "goRain", "(I)I"⟩
abbrev cX10_goCheer : ByteArray := prog_12_method_23_code
def yX10_goCheer : MethodName := ⟨RX10, "goCheer", "(I)V"⟩
abbrev cX10_reedAll : ByteArray := prog_12_method_24_code
def yX10_reedAll : MethodName := ⟨RX10, "reedAll", "()I"⟩
abbrev cX10_houseNow : ByteArray := prog_12_method_25_code
def yX10_houseNow : MethodName := ⟨RX10, "houseNow", "(II)I"⟩
abbrev cX10_house : ByteArray := prog_12_method_26_code
def yX10_house : MethodName := ⟨RX10, "house", "(II)I"⟩
abbrev cX10_as : ByteArray := prog_12_method_27_code
def yX10_as : MethodName := ⟨RX10, "as", "(II)I"⟩
abbrev cX10_isRain : ByteArray := prog_12_method_28_code
def yX10_isRain : MethodName := ⟨RX10, "isRain", "(I)Z"⟩
abbrev cX10_reaches : ByteArray := prog_12_method_29_code
def yX10_reaches : MethodName := ⟨RX10, "reaches", "(II)I"⟩
abbrev cX10_wet : ByteArray := prog_12_method_30_code
def yX10_wet : MethodName := ⟨RX10, "wet", "(I)I"⟩
abbrev cX10_year : ByteArray := prog_12_method_31_code
def yX10_year : MethodName := ⟨RX10, "year", "()I"⟩
abbrev cX10_rain : ByteArray := prog_12_method_32_code
def yX10_rain : MethodName := ⟨RX10, "rain", "(I)I"⟩
abbrev cX10_cheer : ByteArray := prog_12_method_33_code
def yX10_cheer : MethodName := ⟨RX10, "cheer", "(I)I"⟩
abbrev cX10_mayComb : ByteArray := prog_12_method_34_code
def yX10_mayComb : MethodName := ⟨RX10, "mayComb", "(I)Z"⟩
abbrev cX10_goComb : ByteArray := prog_12_method_35_code
def yX10_goComb : MethodName := ⟨RX10, "goComb", "(I)V"⟩
abbrev cX10_comb : ByteArray := prog_12_method_36_code
def yX10_comb : MethodName := ⟨RX10, "comb", "(I)I"⟩
abbrev cX10_move : ByteArray := prog_12_method_37_code
def yX10_move : MethodName := ⟨RX10, "move", "(III)I"⟩
abbrev cX10_save : ByteArray := prog_12_method_38_code
def yX10_save : MethodName := ⟨RX10, "save", "()V"⟩
abbrev cX10_load : ByteArray := prog_12_method_39_code
def yX10_load : MethodName := ⟨RX10, "load", "()V"⟩
abbrev cX10_dryNow : ByteArray := prog_12_method_40_code
def yX10_dryNow : MethodName := ⟨RX10, "dryNow", "(II)I"⟩
abbrev cX10_dry : ByteArray := prog_12_method_41_code
def yX10_dry : MethodName := ⟨RX10, "dry", "(II)I"⟩
abbrev cX10_layPlan : ByteArray := prog_12_method_42_code
def yX10_layPlan : MethodName := ⟨RX10, "layPlan", "(II)V"⟩
abbrev cX10_planNow : ByteArray := prog_12_method_43_code
def yX10_planNow : MethodName := ⟨RX10, "planNow", "(II)I"⟩
abbrev cX10_plan : ByteArray := prog_12_method_44_code
def yX10_plan : MethodName := ⟨RX10, "plan", "(III)I"⟩
abbrev cX10_apart : ByteArray := prog_12_method_45_code
def yX10_apart : MethodName := ⟨RX10, "apart", "(II)I"⟩
abbrev cX10_lowest : ByteArray := prog_12_method_46_code
def yX10_lowest : MethodName := ⟨RX10, "lowest", "(I)I"⟩
abbrev cX10_leastOf : ByteArray := prog_12_method_47_code
def yX10_leastOf : MethodName := ⟨RX10, "leastOf", "(I)I"⟩
abbrev cX10_partnerIn : ByteArray := prog_12_method_48_code
def yX10_partnerIn : MethodName := ⟨RX10, "partnerIn", "(I)I"⟩
abbrev cX10_layTwos : ByteArray := prog_12_method_49_code
def yX10_layTwos : MethodName := ⟨RX10, "layTwos", "()I"⟩
abbrev cX10_twos : ByteArray := prog_12_method_50_code
def yX10_twos : MethodName := ⟨RX10, "twos", "(I)I"⟩
abbrev cX10_patchHouse : ByteArray := prog_12_method_51_code
def yX10_patchHouse : MethodName := ⟨RX10, "patchHouse", "(II)V"⟩
abbrev cX10_patchNow : ByteArray := prog_12_method_52_code
def yX10_patchNow : MethodName := ⟨RX10, "patchNow", "(III)I"⟩
abbrev cX10_patch : ByteArray := prog_12_method_53_code
def yX10_patch : MethodName := ⟨RX10, "patch", "(III)I"⟩
abbrev cX10_oddsNow : ByteArray := prog_12_method_54_code
def yX10_oddsNow : MethodName := ⟨RX10, "oddsNow", "(III)I"⟩
abbrev cX10_odds : ByteArray := prog_12_method_55_code
def yX10_odds : MethodName := ⟨RX10, "odds", "(III)I"⟩
abbrev cX10_see : ByteArray := prog_12_method_56_code
def yX10_see : MethodName := ⟨RX10, "see", "(III)I"⟩
abbrev cX10_forget : ByteArray := prog_12_method_57_code
def yX10_forget : MethodName := ⟨RX10, "forget", "()I"⟩
abbrev cX10_reedBehind : ByteArray := prog_12_method_58_code
def yX10_reedBehind : MethodName := ⟨RX10, "reedBehind", "(III)I"⟩
abbrev cX10_worriesOf : ByteArray := prog_12_method_59_code
def yX10_worriesOf : MethodName := ⟨RX10, "worriesOf", "(I)I"⟩
abbrev cX10_worstBy : ByteArray := prog_12_method_60_code
def yX10_worstBy : MethodName := ⟨RX10, "worstBy", "(III)I"⟩
abbrev cX10_lookFor : ByteArray := prog_12_method_61_code
def yX10_lookFor : MethodName := ⟨RX10, "lookFor", "(I)I"⟩
abbrev cX10_draw : ByteArray := prog_12_method_62_code
def yX10_draw : MethodName := ⟨RX10, "draw", "(I)I"⟩
abbrev cX10_agesNow : ByteArray := prog_12_method_63_code
def yX10_agesNow : MethodName := ⟨RX10, "agesNow", "(III)I"⟩
abbrev cX10_ages : ByteArray := prog_12_method_64_code
def yX10_ages : MethodName := ⟨RX10, "ages", "(III)I"⟩
abbrev cX10_image : ByteArray := prog_12_method_65_code
def yX10_image : MethodName := ⟨RX10, "image", "()I"⟩
abbrev cX10_restore : ByteArray := prog_12_method_66_code
def yX10_restore : MethodName := ⟨RX10, "restore", "()I"⟩
abbrev cX10_worryAll : ByteArray := prog_12_method_67_code
def yX10_worryAll : MethodName := ⟨RX10, "worryAll", "()I"⟩
abbrev cX10_thick : ByteArray := prog_12_method_68_code
def yX10_thick : MethodName := ⟨RX10, "thick", "()I"⟩
abbrev cX10_howMany : ByteArray := prog_12_method_69_code
def yX10_howMany : MethodName := ⟨RX10, "howMany", "(I)I"⟩
abbrev cX10_count : ByteArray := prog_12_method_70_code
def yX10_count : MethodName := ⟨RX10, "count", "(I)I"⟩
abbrev cX10_mix : ByteArray := prog_12_method_71_code
def yX10_mix : MethodName := ⟨RX10, "mix", "(J)V"⟩
abbrev cX10_mixHouse : ByteArray := prog_12_method_72_code
def yX10_mixHouse : MethodName := ⟨RX10, "mixHouse", "(I)V"⟩
abbrev cX10_mixLane : ByteArray := prog_12_method_73_code
def yX10_mixLane : MethodName := ⟨RX10, "mixLane", "()V"⟩
abbrev cX10_digest : ByteArray := prog_12_method_74_code
def yX10_digest : MethodName := ⟨RX10, "digest", "()J"⟩
def RJ6 : String := "java/lang/Integer"
abbrev cJ6_bitCount_0f7a4 : ByteArray := prog_13_method_49_code
def yJ6_bitCount_0f7a4 : MethodName := ⟨RJ6, "bitCount", "(I)I"⟩
def RJ9 : String := "java/lang/Math"
abbrev cJ9_abs_0f7a4 : ByteArray := prog_14_method_59_code
def yJ9_abs_0f7a4 : MethodName := ⟨RJ9, "abs", "(I)I"⟩
abbrev cJ9_max_7cf53 : ByteArray := prog_14_method_65_code
def yJ9_max_7cf53 : MethodName := ⟨RJ9, "max", "(II)I"⟩
abbrev cJ9_min_7cf53 : ByteArray := prog_14_method_69_code
def yJ9_min_7cf53 : MethodName := ⟨RJ9, "min", "(II)I"⟩
def RJ0 : String := "java/lang/String"
abbrev cJ0_length_8abf5 : ByteArray := prog_15_method_54_code
def yJ0_length_8abf5 : MethodName := ⟨RJ0, "length", "()I"⟩
abbrev cJ0_charAt_5068e : ByteArray := prog_15_method_56_code
def yJ0_charAt_5068e : MethodName := ⟨RJ0, "charAt", "(I)C"⟩
abbrev cJ0_coder_7d493 : ByteArray := prog_15_method_152_code
def yJ0_coder_7d493 : MethodName := ⟨RJ0, "coder", "()B"⟩
abbrev cJ0_isLatin1_aae02 : ByteArray := prog_15_method_154_code
def yJ0_isLatin1_aae02 : MethodName := ⟨RJ0, "isLatin1", "()Z"⟩
abbrev cJ0_checkIndex_df160 : ByteArray := prog_15_method_155_code
def yJ0_checkIndex_df160 : MethodName := ⟨RJ0, "checkIndex", "(II)V"⟩
def RJ1 : String := "java/lang/StringLatin1"
abbrev cJ1_charAt_3b067 : ByteArray := prog_16_method_2_code
def yJ1_charAt_3b067 : MethodName := ⟨RJ1, "charAt", "([BI)C"⟩
def RJ2 : String := "java/lang/StringUTF16"
abbrev cJ2_getChar_3b067 : ByteArray := prog_17_method_5_code
def yJ2_getChar_3b067 : MethodName := ⟨RJ2, "getChar", "([BI)C"⟩
abbrev cJ2_length_9d52b : ByteArray := prog_17_method_6_code
def yJ2_length_9d52b : MethodName := ⟨RJ2, "length", "([B)I"⟩
abbrev cJ2_charAt_3b067 : ByteArray := prog_17_method_83_code
def yJ2_charAt_3b067 : MethodName := ⟨RJ2, "charAt", "([BI)C"⟩
abbrev cJ2_checkIndex_2214a : ByteArray := prog_17_method_91_code
def yJ2_checkIndex_2214a : MethodName := ⟨RJ2, "checkIndex", "(I[B)V"⟩
def RJ3 : String := "jdk/internal/util/Preconditions"
abbrev cJ3_checkIndex_8e157 : ByteArray := prog_18_method_11_code
def yJ3_checkIndex_8e157 : MethodName := ⟨RJ3, "checkIndex", "(IILjava/util/function/BiFunction;)I"⟩
def RL : String := "ThatchLaneLaw"
abbrev cL_law : ByteArray := code
def yL_law : MethodName := ⟨RL, "law", "([I)Z"⟩
abbrev vwCl : List vw_C := [(RX0, TX0, 1), (RX1, TX1, 7), (RX2, TX2, 2), (RX3, TX3, 3), (RX4, TX4, 4), (RX5, TX5, 7), (RX6, TX6, 1), (RX7, TX7, 2), (RX8, TX8, 4), (RX9, TX9, 13), (RX10, TX10, 42)]
end
section
theorem dX0_init_0 : decode cX0_init 0 = .ok (.aload_n 0, 1) := by decide +kernel
theorem dX0_init_1 : decode cX0_init 1 = .ok (.invokespecial 1, 3) := by decide +kernel
theorem dX0_init_4 : decode cX0_init 4 = .ok (.aload_n 0, 1) := by decide +kernel
theorem dX0_init_5 : decode cX0_init 5 = .ok (.lconst 0, 1) := by decide +kernel
theorem dX0_init_6 : decode cX0_init 6 = .ok (.putfield 7, 3) := by decide +kernel
theorem dX0_init_9 : decode cX0_init 9 = .ok (.return_, 1) := by decide +kernel
theorem dX0_next_0 : decode cX0_next 0 = .ok (.aload_n 0, 1) := by decide +kernel
theorem dX0_next_1 : decode cX0_next 1 = .ok (.ldc2_w 13, 3) := by decide +kernel
theorem dX0_next_4 : decode cX0_next 4 = .ok (.aload_n 0, 1) := by decide +kernel
theorem dX0_next_5 : decode cX0_next 5 = .ok (.getfield 7, 3) := by decide +kernel
theorem dX0_next_8 : decode cX0_next 8 = .ok (.lmul, 1) := by decide +kernel
theorem dX0_next_9 : decode cX0_next 9 = .ok (.ldc2_w 15, 3) := by decide +kernel
theorem dX0_next_12 : decode cX0_next 12 = .ok (.ladd, 1) := by decide +kernel
theorem dX0_next_13 : decode cX0_next 13 = .ok (.ldc2_w 17, 3) := by decide +kernel
theorem dX0_next_16 : decode cX0_next 16 = .ok (.lrem, 1) := by decide +kernel
theorem dX0_next_17 : decode cX0_next 17 = .ok (.putfield 7, 3) := by decide +kernel
theorem dX0_next_20 : decode cX0_next 20 = .ok (.iload_n 1, 1) := by decide +kernel
theorem dX0_next_21 : decode cX0_next 21 = .ok (.iconst 1, 1) := by decide +kernel
theorem dX0_next_22 : decode cX0_next 22 = .ok (.if_icmp .ge 7, 3) := by decide +kernel
theorem dX0_next_25 : decode cX0_next 25 = .ok (.iconst 0, 1) := by decide +kernel
theorem dX0_next_26 : decode cX0_next 26 = .ok (.goto 15, 3) := by decide +kernel
theorem dX0_next_29 : decode cX0_next 29 = .ok (.aload_n 0, 1) := by decide +kernel
theorem dX0_next_30 : decode cX0_next 30 = .ok (.getfield 7, 3) := by decide +kernel
theorem dX0_next_33 : decode cX0_next 33 = .ok (.ldc2_w 19, 3) := by decide +kernel
theorem dX0_next_36 : decode cX0_next 36 = .ok (.ldiv, 1) := by decide +kernel
theorem dX0_next_37 : decode cX0_next 37 = .ok (.iload_n 1, 1) := by decide +kernel
theorem dX0_next_38 : decode cX0_next 38 = .ok (.i2l, 1) := by decide +kernel
theorem dX0_next_39 : decode cX0_next 39 = .ok (.lrem, 1) := by decide +kernel
theorem dX0_next_40 : decode cX0_next 40 = .ok (.l2i, 1) := by decide +kernel
theorem dX0_next_41 : decode cX0_next 41 = .ok (.ireturn, 1) := by decide +kernel
theorem dX1_init_0 : decode cX1_init 0 = .ok (.aload_n 0, 1) := by decide +kernel
theorem dX1_init_1 : decode cX1_init 1 = .ok (.invokespecial 3, 3) := by decide +kernel
theorem dX1_init_4 : decode cX1_init 4 = .ok (.aload_n 0, 1) := by decide +kernel
theorem dX1_init_5 : decode cX1_init 5 = .ok (.new 9, 3) := by decide +kernel
theorem dX1_init_8 : decode cX1_init 8 = .ok (.dup, 1) := by decide +kernel
theorem dX1_init_9 : decode cX1_init 9 = .ok (.bipush 6, 2) := by decide +kernel
theorem dX1_init_11 : decode cX1_init 11 = .ok (.invokespecial 11, 3) := by decide +kernel
theorem dX1_init_14 : decode cX1_init 14 = .ok (.putfield 14, 3) := by decide +kernel
theorem dX1_init_17 : decode cX1_init 17 = .ok (.aload_n 0, 1) := by decide +kernel
theorem dX1_init_18 : decode cX1_init 18 = .ok (.new 9, 3) := by decide +kernel
theorem dX1_init_21 : decode cX1_init 21 = .ok (.dup, 1) := by decide +kernel
theorem dX1_init_22 : decode cX1_init 22 = .ok (.bipush 6, 2) := by decide +kernel
theorem dX1_init_24 : decode cX1_init 24 = .ok (.invokespecial 11, 3) := by decide +kernel
theorem dX1_init_27 : decode cX1_init 27 = .ok (.putfield 20, 3) := by decide +kernel
theorem dX1_init_30 : decode cX1_init 30 = .ok (.aload_n 0, 1) := by decide +kernel
theorem dX1_init_31 : decode cX1_init 31 = .ok (.new 9, 3) := by decide +kernel
theorem dX1_init_34 : decode cX1_init 34 = .ok (.dup, 1) := by decide +kernel
theorem dX1_init_35 : decode cX1_init 35 = .ok (.bipush 6, 2) := by decide +kernel
theorem dX1_init_37 : decode cX1_init 37 = .ok (.invokespecial 11, 3) := by decide +kernel
theorem dX1_init_40 : decode cX1_init 40 = .ok (.putfield 23, 3) := by decide +kernel
theorem dX1_init_43 : decode cX1_init 43 = .ok (.aload_n 0, 1) := by decide +kernel
theorem dX1_init_44 : decode cX1_init 44 = .ok (.new 9, 3) := by decide +kernel
theorem dX1_init_47 : decode cX1_init 47 = .ok (.dup, 1) := by decide +kernel
theorem dX1_init_48 : decode cX1_init 48 = .ok (.bipush 6, 2) := by decide +kernel
theorem dX1_init_50 : decode cX1_init 50 = .ok (.invokespecial 11, 3) := by decide +kernel
theorem dX1_init_53 : decode cX1_init 53 = .ok (.putfield 26, 3) := by decide +kernel
theorem dX1_init_56 : decode cX1_init 56 = .ok (.aload_n 0, 1) := by decide +kernel
theorem dX1_init_57 : decode cX1_init 57 = .ok (.iconst 0, 1) := by decide +kernel
theorem dX1_init_58 : decode cX1_init 58 = .ok (.putfield 29, 3) := by decide +kernel
theorem dX1_init_61 : decode cX1_init 61 = .ok (.aload_n 0, 1) := by decide +kernel
theorem dX1_init_62 : decode cX1_init 62 = .ok (.iconst 0, 1) := by decide +kernel
theorem dX1_init_63 : decode cX1_init 63 = .ok (.putfield 33, 3) := by decide +kernel
theorem dX1_init_66 : decode cX1_init 66 = .ok (.aload_n 0, 1) := by decide +kernel
theorem dX1_init_67 : decode cX1_init 67 = .ok (.iconst 0, 1) := by decide +kernel
theorem dX1_init_68 : decode cX1_init 68 = .ok (.putfield 36, 3) := by decide +kernel
theorem dX1_init_71 : decode cX1_init 71 = .ok (.return_, 1) := by decide +kernel
theorem dX1_begin_0 : decode cX1_begin 0 = .ok (.aload_n 0, 1) := by decide +kernel
theorem dX1_begin_1 : decode cX1_begin 1 = .ok (.iconst 0, 1) := by decide +kernel
theorem dX1_begin_2 : decode cX1_begin 2 = .ok (.iload_n 1, 1) := by decide +kernel
theorem dX1_begin_3 : decode cX1_begin 3 = .ok (.bipush 6, 2) := by decide +kernel
theorem dX1_begin_5 : decode cX1_begin 5 = .ok (.invokestatic 39, 3) := by decide +kernel
theorem dX1_begin_8 : decode cX1_begin 8 = .ok (.invokestatic 45, 3) := by decide +kernel
theorem dX1_begin_11 : decode cX1_begin 11 = .ok (.putfield 29, 3) := by decide +kernel
theorem dX1_begin_14 : decode cX1_begin 14 = .ok (.aload_n 0, 1) := by decide +kernel
theorem dX1_begin_15 : decode cX1_begin 15 = .ok (.iconst 0, 1) := by decide +kernel
theorem dX1_begin_16 : decode cX1_begin 16 = .ok (.putfield 33, 3) := by decide +kernel
theorem dX1_begin_19 : decode cX1_begin 19 = .ok (.aload_n 0, 1) := by decide +kernel
theorem dX1_begin_20 : decode cX1_begin 20 = .ok (.iconst 0, 1) := by decide +kernel
theorem dX1_begin_21 : decode cX1_begin 21 = .ok (.putfield 36, 3) := by decide +kernel
theorem dX1_begin_24 : decode cX1_begin 24 = .ok (.return_, 1) := by decide +kernel
theorem dX1_settle_0 : decode cX1_settle 0 = .ok (.aload_n 0, 1) := by decide +kernel
theorem dX1_settle_1 : decode cX1_settle 1 = .ok (.getfield 14, 3) := by decide +kernel
theorem dX1_settle_4 : decode cX1_settle 4 = .ok (.iload_n 1, 1) := by decide +kernel
theorem dX1_settle_5 : decode cX1_settle 5 = .ok (.iload_n 2, 1) := by decide +kernel
theorem dX1_settle_6 : decode cX1_settle 6 = .ok (.invokevirtual 48, 3) := by decide +kernel
theorem dX1_settle_9 : decode cX1_settle 9 = .ok (.aload_n 0, 1) := by decide +kernel
theorem dX1_settle_10 : decode cX1_settle 10 = .ok (.getfield 20, 3) := by decide +kernel
theorem dX1_settle_13 : decode cX1_settle 13 = .ok (.iload_n 1, 1) := by decide +kernel
theorem dX1_settle_14 : decode cX1_settle 14 = .ok (.iload_n 3, 1) := by decide +kernel
theorem dX1_settle_15 : decode cX1_settle 15 = .ok (.invokevirtual 48, 3) := by decide +kernel
theorem dX1_settle_18 : decode cX1_settle 18 = .ok (.aload_n 0, 1) := by decide +kernel
theorem dX1_settle_19 : decode cX1_settle 19 = .ok (.getfield 23, 3) := by decide +kernel
theorem dX1_settle_22 : decode cX1_settle 22 = .ok (.iload_n 1, 1) := by decide +kernel
theorem dX1_settle_23 : decode cX1_settle 23 = .ok (.iload 4, 2) := by decide +kernel
theorem dX1_settle_25 : decode cX1_settle 25 = .ok (.invokevirtual 48, 3) := by decide +kernel
theorem dX1_settle_28 : decode cX1_settle 28 = .ok (.aload_n 0, 1) := by decide +kernel
theorem dX1_settle_29 : decode cX1_settle 29 = .ok (.getfield 26, 3) := by decide +kernel
theorem dX1_settle_32 : decode cX1_settle 32 = .ok (.iload_n 1, 1) := by decide +kernel
theorem dX1_settle_33 : decode cX1_settle 33 = .ok (.iconst 0, 1) := by decide +kernel
theorem dX1_settle_34 : decode cX1_settle 34 = .ok (.invokevirtual 48, 3) := by decide +kernel
theorem dX1_settle_37 : decode cX1_settle 37 = .ok (.return_, 1) := by decide +kernel
theorem dX1_take_0 : decode cX1_take 0 = .ok (.aload_n 0, 1) := by decide +kernel
theorem dX1_take_1 : decode cX1_take 1 = .ok (.getfield 14, 3) := by decide +kernel
theorem dX1_take_4 : decode cX1_take 4 = .ok (.aload_n 1, 1) := by decide +kernel
theorem dX1_take_5 : decode cX1_take 5 = .ok (.getfield 14, 3) := by decide +kernel
theorem dX1_take_8 : decode cX1_take 8 = .ok (.invokevirtual 52, 3) := by decide +kernel
theorem dX1_take_11 : decode cX1_take 11 = .ok (.aload_n 0, 1) := by decide +kernel
theorem dX1_take_12 : decode cX1_take 12 = .ok (.getfield 20, 3) := by decide +kernel
theorem dX1_take_15 : decode cX1_take 15 = .ok (.aload_n 1, 1) := by decide +kernel
theorem dX1_take_16 : decode cX1_take 16 = .ok (.getfield 20, 3) := by decide +kernel
theorem dX1_take_19 : decode cX1_take 19 = .ok (.invokevirtual 52, 3) := by decide +kernel
theorem dX1_take_22 : decode cX1_take 22 = .ok (.aload_n 0, 1) := by decide +kernel
theorem dX1_take_23 : decode cX1_take 23 = .ok (.getfield 23, 3) := by decide +kernel
theorem dX1_take_26 : decode cX1_take 26 = .ok (.aload_n 1, 1) := by decide +kernel
theorem dX1_take_27 : decode cX1_take 27 = .ok (.getfield 23, 3) := by decide +kernel
theorem dX1_take_30 : decode cX1_take 30 = .ok (.invokevirtual 52, 3) := by decide +kernel
theorem dX1_take_33 : decode cX1_take 33 = .ok (.aload_n 0, 1) := by decide +kernel
theorem dX1_take_34 : decode cX1_take 34 = .ok (.getfield 26, 3) := by decide +kernel
theorem dX1_take_37 : decode cX1_take 37 = .ok (.aload_n 1, 1) := by decide +kernel
theorem dX1_take_38 : decode cX1_take 38 = .ok (.getfield 26, 3) := by decide +kernel
theorem dX1_take_41 : decode cX1_take 41 = .ok (.invokevirtual 52, 3) := by decide +kernel
theorem dX1_take_44 : decode cX1_take 44 = .ok (.aload_n 0, 1) := by decide +kernel
theorem dX1_take_45 : decode cX1_take 45 = .ok (.aload_n 1, 1) := by decide +kernel
theorem dX1_take_46 : decode cX1_take 46 = .ok (.getfield 29, 3) := by decide +kernel
theorem dX1_take_49 : decode cX1_take 49 = .ok (.putfield 29, 3) := by decide +kernel
theorem dX1_take_52 : decode cX1_take 52 = .ok (.aload_n 0, 1) := by decide +kernel
theorem dX1_take_53 : decode cX1_take 53 = .ok (.aload_n 1, 1) := by decide +kernel
theorem dX1_take_54 : decode cX1_take 54 = .ok (.getfield 33, 3) := by decide +kernel
theorem dX1_take_57 : decode cX1_take 57 = .ok (.putfield 33, 3) := by decide +kernel
theorem dX1_take_60 : decode cX1_take 60 = .ok (.aload_n 0, 1) := by decide +kernel
theorem dX1_take_61 : decode cX1_take 61 = .ok (.aload_n 1, 1) := by decide +kernel
theorem dX1_take_62 : decode cX1_take 62 = .ok (.getfield 36, 3) := by decide +kernel
theorem dX1_take_65 : decode cX1_take 65 = .ok (.putfield 36, 3) := by decide +kernel
theorem dX1_take_68 : decode cX1_take 68 = .ok (.return_, 1) := by decide +kernel
theorem dX1_has_0 : decode cX1_has 0 = .ok (.iload_n 1, 1) := by decide +kernel
theorem dX1_has_1 : decode cX1_has 1 = .ok (.ifCond .lt 15, 3) := by decide +kernel
theorem dX1_has_4 : decode cX1_has 4 = .ok (.iload_n 1, 1) := by decide +kernel
theorem dX1_has_5 : decode cX1_has 5 = .ok (.aload_n 0, 1) := by decide +kernel
theorem dX1_has_6 : decode cX1_has 6 = .ok (.getfield 29, 3) := by decide +kernel
theorem dX1_has_9 : decode cX1_has 9 = .ok (.if_icmp .ge 7, 3) := by decide +kernel
theorem dX1_has_12 : decode cX1_has 12 = .ok (.iconst 1, 1) := by decide +kernel
theorem dX1_has_13 : decode cX1_has 13 = .ok (.goto 4, 3) := by decide +kernel
theorem dX1_has_16 : decode cX1_has 16 = .ok (.iconst 0, 1) := by decide +kernel
theorem dX1_has_17 : decode cX1_has 17 = .ok (.ireturn, 1) := by decide +kernel
theorem dX1_passYear_0 : decode cX1_passYear 0 = .ok (.aload_n 0, 1) := by decide +kernel
theorem dX1_passYear_1 : decode cX1_passYear 1 = .ok (.dup, 1) := by decide +kernel
theorem dX1_passYear_2 : decode cX1_passYear 2 = .ok (.getfield 33, 3) := by decide +kernel
theorem dX1_passYear_5 : decode cX1_passYear 5 = .ok (.iconst 1, 1) := by decide +kernel
theorem dX1_passYear_6 : decode cX1_passYear 6 = .ok (.iadd, 1) := by decide +kernel
theorem dX1_passYear_7 : decode cX1_passYear 7 = .ok (.putfield 33, 3) := by decide +kernel
theorem dX1_passYear_10 : decode cX1_passYear 10 = .ok (.iconst 0, 1) := by decide +kernel
theorem dX1_passYear_11 : decode cX1_passYear 11 = .ok (.istore_n 1, 1) := by decide +kernel
theorem dX1_passYear_12 : decode cX1_passYear 12 = .ok (.iload_n 1, 1) := by decide +kernel
theorem dX1_passYear_13 : decode cX1_passYear 13 = .ok (.aload_n 0, 1) := by decide +kernel
theorem dX1_passYear_14 : decode cX1_passYear 14 = .ok (.getfield 29, 3) := by decide +kernel
theorem dX1_passYear_17 : decode cX1_passYear 17 = .ok (.if_icmp .ge 65, 3) := by decide +kernel
theorem dX1_passYear_20 : decode cX1_passYear 20 = .ok (.aload_n 0, 1) := by decide +kernel
theorem dX1_passYear_21 : decode cX1_passYear 21 = .ok (.getfield 20, 3) := by decide +kernel
theorem dX1_passYear_24 : decode cX1_passYear 24 = .ok (.iload_n 1, 1) := by decide +kernel
theorem dX1_passYear_25 : decode cX1_passYear 25 = .ok (.aload_n 0, 1) := by decide +kernel
theorem dX1_passYear_26 : decode cX1_passYear 26 = .ok (.getfield 14, 3) := by decide +kernel
theorem dX1_passYear_29 : decode cX1_passYear 29 = .ok (.iload_n 1, 1) := by decide +kernel
theorem dX1_passYear_30 : decode cX1_passYear 30 = .ok (.invokevirtual 56, 3) := by decide +kernel
theorem dX1_passYear_33 : decode cX1_passYear 33 = .ok (.aload_n 0, 1) := by decide +kernel
theorem dX1_passYear_34 : decode cX1_passYear 34 = .ok (.getfield 20, 3) := by decide +kernel
theorem dX1_passYear_37 : decode cX1_passYear 37 = .ok (.iload_n 1, 1) := by decide +kernel
theorem dX1_passYear_38 : decode cX1_passYear 38 = .ok (.invokevirtual 56, 3) := by decide +kernel
theorem dX1_passYear_41 : decode cX1_passYear 41 = .ok (.aload_n 0, 1) := by decide +kernel
theorem dX1_passYear_42 : decode cX1_passYear 42 = .ok (.getfield 23, 3) := by decide +kernel
theorem dX1_passYear_45 : decode cX1_passYear 45 = .ok (.iload_n 1, 1) := by decide +kernel
theorem dX1_passYear_46 : decode cX1_passYear 46 = .ok (.invokevirtual 56, 3) := by decide +kernel
theorem dX1_passYear_49 : decode cX1_passYear 49 = .ok (.aload_n 0, 1) := by decide +kernel
theorem dX1_passYear_50 : decode cX1_passYear 50 = .ok (.getfield 26, 3) := by decide +kernel
theorem dX1_passYear_53 : decode cX1_passYear 53 = .ok (.iload_n 1, 1) := by decide +kernel
theorem dX1_passYear_54 : decode cX1_passYear 54 = .ok (.invokevirtual 56, 3) := by decide +kernel
theorem dX1_passYear_57 : decode cX1_passYear 57 = .ok (.aload_n 0, 1) := by decide +kernel
theorem dX1_passYear_58 : decode cX1_passYear 58 = .ok (.getfield 33, 3) := by decide +kernel
theorem dX1_passYear_61 : decode cX1_passYear 61 = .ok (.invokestatic 60, 3) := by decide +kernel
theorem dX1_passYear_64 : decode cX1_passYear 64 = .ok (.invokevirtual 48, 3) := by decide +kernel
theorem dX1_passYear_67 : decode cX1_passYear 67 = .ok (.aload_n 0, 1) := by decide +kernel
theorem dX1_passYear_68 : decode cX1_passYear 68 = .ok (.getfield 26, 3) := by decide +kernel
theorem dX1_passYear_71 : decode cX1_passYear 71 = .ok (.iload_n 1, 1) := by decide +kernel
theorem dX1_passYear_72 : decode cX1_passYear 72 = .ok (.iconst 0, 1) := by decide +kernel
theorem dX1_passYear_73 : decode cX1_passYear 73 = .ok (.invokevirtual 48, 3) := by decide +kernel
theorem dX1_passYear_76 : decode cX1_passYear 76 = .ok (.iinc 1 1, 3) := by decide +kernel
theorem dX1_passYear_79 : decode cX1_passYear 79 = .ok (.goto (-67), 3) := by decide +kernel
theorem dX1_passYear_82 : decode cX1_passYear 82 = .ok (.return_, 1) := by decide +kernel
theorem dX1_reedBehindYear_0 : decode cX1_reedBehindYear 0 = .ok (.aload_n 0, 1) := by decide +kernel
theorem dX1_reedBehindYear_1 : decode cX1_reedBehindYear 1 = .ok (.getfield 14, 3) := by decide +kernel
theorem dX1_reedBehindYear_4 : decode cX1_reedBehindYear 4 = .ok (.iload_n 1, 1) := by decide +kernel
theorem dX1_reedBehindYear_5 : decode cX1_reedBehindYear 5 = .ok (.invokevirtual 56, 3) := by decide +kernel
theorem dX1_reedBehindYear_8 : decode cX1_reedBehindYear 8 = .ok (.aload_n 0, 1) := by decide +kernel
theorem dX1_reedBehindYear_9 : decode cX1_reedBehindYear 9 = .ok (.getfield 20, 3) := by decide +kernel
theorem dX1_reedBehindYear_12 : decode cX1_reedBehindYear 12 = .ok (.iload_n 1, 1) := by decide +kernel
theorem dX1_reedBehindYear_13 : decode cX1_reedBehindYear 13 = .ok (.invokevirtual 56, 3) := by decide +kernel
theorem dX1_reedBehindYear_16 : decode cX1_reedBehindYear 16 = .ok (.aload_n 0, 1) := by decide +kernel
theorem dX1_reedBehindYear_17 : decode cX1_reedBehindYear 17 = .ok (.getfield 23, 3) := by decide +kernel
theorem dX1_reedBehindYear_20 : decode cX1_reedBehindYear 20 = .ok (.iload_n 1, 1) := by decide +kernel
theorem dX1_reedBehindYear_21 : decode cX1_reedBehindYear 21 = .ok (.invokevirtual 56, 3) := by decide +kernel
theorem dX1_reedBehindYear_24 : decode cX1_reedBehindYear 24 = .ok (.aload_n 0, 1) := by decide +kernel
theorem dX1_reedBehindYear_25 : decode cX1_reedBehindYear 25 = .ok (.getfield 26, 3) := by decide +kernel
theorem dX1_reedBehindYear_28 : decode cX1_reedBehindYear 28 = .ok (.iload_n 1, 1) := by decide +kernel
theorem dX1_reedBehindYear_29 : decode cX1_reedBehindYear 29 = .ok (.invokevirtual 56, 3) := by decide +kernel
theorem dX1_reedBehindYear_32 : decode cX1_reedBehindYear 32 = .ok (.aload_n 0, 1) := by decide +kernel
theorem dX1_reedBehindYear_33 : decode cX1_reedBehindYear 33 = .ok (.getfield 33, 3) := by decide +kernel
theorem dX1_reedBehindYear_36 : decode cX1_reedBehindYear 36 = .ok (.iconst 1, 1) := by decide +kernel
theorem dX1_reedBehindYear_37 : decode cX1_reedBehindYear 37 = .ok (.iadd, 1) := by decide +kernel
theorem dX1_reedBehindYear_38 : decode cX1_reedBehindYear 38 = .ok (.invokestatic 60, 3) := by decide +kernel
theorem dX1_reedBehindYear_41 : decode cX1_reedBehindYear 41 = .ok (.ireturn, 1) := by decide +kernel
theorem dX1_reachOf_0 : decode cX1_reachOf 0 = .ok (.iconst 0, 1) := by decide +kernel
theorem dX1_reachOf_1 : decode cX1_reachOf 1 = .ok (.istore_n 3, 1) := by decide +kernel
theorem dX1_reachOf_2 : decode cX1_reachOf 2 = .ok (.iconst 0, 1) := by decide +kernel
theorem dX1_reachOf_3 : decode cX1_reachOf 3 = .ok (.istore 4, 2) := by decide +kernel
theorem dX1_reachOf_5 : decode cX1_reachOf 5 = .ok (.iload 4, 2) := by decide +kernel
theorem dX1_reachOf_7 : decode cX1_reachOf 7 = .ok (.iload_n 1, 1) := by decide +kernel
theorem dX1_reachOf_8 : decode cX1_reachOf 8 = .ok (.if_icmp .ge 26, 3) := by decide +kernel
theorem dX1_reachOf_11 : decode cX1_reachOf 11 = .ok (.aload_n 0, 1) := by decide +kernel
theorem dX1_reachOf_12 : decode cX1_reachOf 12 = .ok (.getfield 20, 3) := by decide +kernel
theorem dX1_reachOf_15 : decode cX1_reachOf 15 = .ok (.iload 4, 2) := by decide +kernel
theorem dX1_reachOf_17 : decode cX1_reachOf 17 = .ok (.invokevirtual 56, 3) := by decide +kernel
theorem dX1_reachOf_20 : decode cX1_reachOf 20 = .ok (.bipush 10, 2) := by decide +kernel
theorem dX1_reachOf_22 : decode cX1_reachOf 22 = .ok (.if_icmp .lt 6, 3) := by decide +kernel
theorem dX1_reachOf_25 : decode cX1_reachOf 25 = .ok (.iinc 3 1, 3) := by decide +kernel
theorem dX1_reachOf_28 : decode cX1_reachOf 28 = .ok (.iinc 4 1, 3) := by decide +kernel
theorem dX1_reachOf_31 : decode cX1_reachOf 31 = .ok (.goto (-26), 3) := by decide +kernel
theorem dX1_reachOf_34 : decode cX1_reachOf 34 = .ok (.iload_n 2, 1) := by decide +kernel
theorem dX1_reachOf_35 : decode cX1_reachOf 35 = .ok (.iload_n 3, 1) := by decide +kernel
theorem dX1_reachOf_36 : decode cX1_reachOf 36 = .ok (.invokestatic 64, 3) := by decide +kernel
theorem dX1_reachOf_39 : decode cX1_reachOf 39 = .ok (.ireturn, 1) := by decide +kernel
theorem dX1_isWet_0 : decode cX1_isWet 0 = .ok (.aload_n 0, 1) := by decide +kernel
theorem dX1_isWet_1 : decode cX1_isWet 1 = .ok (.getfield 20, 3) := by decide +kernel
theorem dX1_isWet_4 : decode cX1_isWet 4 = .ok (.iload_n 1, 1) := by decide +kernel
theorem dX1_isWet_5 : decode cX1_isWet 5 = .ok (.invokevirtual 56, 3) := by decide +kernel
theorem dX1_isWet_8 : decode cX1_isWet 8 = .ok (.aload_n 0, 1) := by decide +kernel
theorem dX1_isWet_9 : decode cX1_isWet 9 = .ok (.iload_n 1, 1) := by decide +kernel
theorem dX1_isWet_10 : decode cX1_isWet 10 = .ok (.iload_n 2, 1) := by decide +kernel
theorem dX1_isWet_11 : decode cX1_isWet 11 = .ok (.invokevirtual 67, 3) := by decide +kernel
theorem dX1_isWet_14 : decode cX1_isWet 14 = .ok (.if_icmp .ge 7, 3) := by decide +kernel
theorem dX1_isWet_17 : decode cX1_isWet 17 = .ok (.iconst 1, 1) := by decide +kernel
theorem dX1_isWet_18 : decode cX1_isWet 18 = .ok (.goto 4, 3) := by decide +kernel
theorem dX1_isWet_21 : decode cX1_isWet 21 = .ok (.iconst 0, 1) := by decide +kernel
theorem dX1_isWet_22 : decode cX1_isWet 22 = .ok (.ireturn, 1) := by decide +kernel
theorem dX1_wetBits_0 : decode cX1_wetBits 0 = .ok (.iconst 0, 1) := by decide +kernel
theorem dX1_wetBits_1 : decode cX1_wetBits 1 = .ok (.istore_n 2, 1) := by decide +kernel
theorem dX1_wetBits_2 : decode cX1_wetBits 2 = .ok (.iconst 0, 1) := by decide +kernel
theorem dX1_wetBits_3 : decode cX1_wetBits 3 = .ok (.istore_n 3, 1) := by decide +kernel
theorem dX1_wetBits_4 : decode cX1_wetBits 4 = .ok (.iconst 0, 1) := by decide +kernel
theorem dX1_wetBits_5 : decode cX1_wetBits 5 = .ok (.istore 4, 2) := by decide +kernel
theorem dX1_wetBits_7 : decode cX1_wetBits 7 = .ok (.iload 4, 2) := by decide +kernel
theorem dX1_wetBits_9 : decode cX1_wetBits 9 = .ok (.aload_n 0, 1) := by decide +kernel
theorem dX1_wetBits_10 : decode cX1_wetBits 10 = .ok (.getfield 29, 3) := by decide +kernel
theorem dX1_wetBits_13 : decode cX1_wetBits 13 = .ok (.if_icmp .ge 47, 3) := by decide +kernel
theorem dX1_wetBits_16 : decode cX1_wetBits 16 = .ok (.aload_n 0, 1) := by decide +kernel
theorem dX1_wetBits_17 : decode cX1_wetBits 17 = .ok (.getfield 20, 3) := by decide +kernel
theorem dX1_wetBits_20 : decode cX1_wetBits 20 = .ok (.iload 4, 2) := by decide +kernel
theorem dX1_wetBits_22 : decode cX1_wetBits 22 = .ok (.invokevirtual 56, 3) := by decide +kernel
theorem dX1_wetBits_25 : decode cX1_wetBits 25 = .ok (.istore 5, 2) := by decide +kernel
theorem dX1_wetBits_27 : decode cX1_wetBits 27 = .ok (.iload 5, 2) := by decide +kernel
theorem dX1_wetBits_29 : decode cX1_wetBits 29 = .ok (.iload_n 1, 1) := by decide +kernel
theorem dX1_wetBits_30 : decode cX1_wetBits 30 = .ok (.iload_n 3, 1) := by decide +kernel
theorem dX1_wetBits_31 : decode cX1_wetBits 31 = .ok (.invokestatic 64, 3) := by decide +kernel
theorem dX1_wetBits_34 : decode cX1_wetBits 34 = .ok (.if_icmp .ge 10, 3) := by decide +kernel
theorem dX1_wetBits_37 : decode cX1_wetBits 37 = .ok (.iload_n 2, 1) := by decide +kernel
theorem dX1_wetBits_38 : decode cX1_wetBits 38 = .ok (.iconst 1, 1) := by decide +kernel
theorem dX1_wetBits_39 : decode cX1_wetBits 39 = .ok (.iload 4, 2) := by decide +kernel
theorem dX1_wetBits_41 : decode cX1_wetBits 41 = .ok (.ishl, 1) := by decide +kernel
theorem dX1_wetBits_42 : decode cX1_wetBits 42 = .ok (.ior, 1) := by decide +kernel
theorem dX1_wetBits_43 : decode cX1_wetBits 43 = .ok (.istore_n 2, 1) := by decide +kernel
theorem dX1_wetBits_44 : decode cX1_wetBits 44 = .ok (.iload 5, 2) := by decide +kernel
theorem dX1_wetBits_46 : decode cX1_wetBits 46 = .ok (.bipush 10, 2) := by decide +kernel
theorem dX1_wetBits_48 : decode cX1_wetBits 48 = .ok (.if_icmp .lt 6, 3) := by decide +kernel
theorem dX1_wetBits_51 : decode cX1_wetBits 51 = .ok (.iinc 3 1, 3) := by decide +kernel
theorem dX1_wetBits_54 : decode cX1_wetBits 54 = .ok (.iinc 4 1, 3) := by decide +kernel
theorem dX1_wetBits_57 : decode cX1_wetBits 57 = .ok (.goto (-50), 3) := by decide +kernel
theorem dX1_wetBits_60 : decode cX1_wetBits 60 = .ok (.iload_n 2, 1) := by decide +kernel
theorem dX1_wetBits_61 : decode cX1_wetBits 61 = .ok (.ireturn, 1) := by decide +kernel
theorem dX1_rainOn_0 : decode cX1_rainOn 0 = .ok (.aload_n 0, 1) := by decide +kernel
theorem dX1_rainOn_1 : decode cX1_rainOn 1 = .ok (.iload_n 1, 1) := by decide +kernel
theorem dX1_rainOn_2 : decode cX1_rainOn 2 = .ok (.invokevirtual 70, 3) := by decide +kernel
theorem dX1_rainOn_5 : decode cX1_rainOn 5 = .ok (.istore_n 2, 1) := by decide +kernel
theorem dX1_rainOn_6 : decode cX1_rainOn 6 = .ok (.iconst 0, 1) := by decide +kernel
theorem dX1_rainOn_7 : decode cX1_rainOn 7 = .ok (.istore_n 3, 1) := by decide +kernel
theorem dX1_rainOn_8 : decode cX1_rainOn 8 = .ok (.iconst 0, 1) := by decide +kernel
theorem dX1_rainOn_9 : decode cX1_rainOn 9 = .ok (.istore 4, 2) := by decide +kernel
theorem dX1_rainOn_11 : decode cX1_rainOn 11 = .ok (.iload 4, 2) := by decide +kernel
theorem dX1_rainOn_13 : decode cX1_rainOn 13 = .ok (.aload_n 0, 1) := by decide +kernel
theorem dX1_rainOn_14 : decode cX1_rainOn 14 = .ok (.getfield 29, 3) := by decide +kernel
theorem dX1_rainOn_17 : decode cX1_rainOn 17 = .ok (.if_icmp .ge 47, 3) := by decide +kernel
theorem dX1_rainOn_20 : decode cX1_rainOn 20 = .ok (.iload_n 2, 1) := by decide +kernel
theorem dX1_rainOn_21 : decode cX1_rainOn 21 = .ok (.iload 4, 2) := by decide +kernel
theorem dX1_rainOn_23 : decode cX1_rainOn 23 = .ok (.ishr, 1) := by decide +kernel
theorem dX1_rainOn_24 : decode cX1_rainOn 24 = .ok (.iconst 1, 1) := by decide +kernel
theorem dX1_rainOn_25 : decode cX1_rainOn 25 = .ok (.iand, 1) := by decide +kernel
theorem dX1_rainOn_26 : decode cX1_rainOn 26 = .ok (.iconst 1, 1) := by decide +kernel
theorem dX1_rainOn_27 : decode cX1_rainOn 27 = .ok (.if_icmp .ne 31, 3) := by decide +kernel
theorem dX1_rainOn_30 : decode cX1_rainOn 30 = .ok (.iinc 3 1, 3) := by decide +kernel
theorem dX1_rainOn_33 : decode cX1_rainOn 33 = .ok (.aload_n 0, 1) := by decide +kernel
theorem dX1_rainOn_34 : decode cX1_rainOn 34 = .ok (.getfield 23, 3) := by decide +kernel
theorem dX1_rainOn_37 : decode cX1_rainOn 37 = .ok (.iload 4, 2) := by decide +kernel
theorem dX1_rainOn_39 : decode cX1_rainOn 39 = .ok (.aload_n 0, 1) := by decide +kernel
theorem dX1_rainOn_40 : decode cX1_rainOn 40 = .ok (.getfield 23, 3) := by decide +kernel
theorem dX1_rainOn_43 : decode cX1_rainOn 43 = .ok (.iload 4, 2) := by decide +kernel
theorem dX1_rainOn_45 : decode cX1_rainOn 45 = .ok (.invokevirtual 56, 3) := by decide +kernel
theorem dX1_rainOn_48 : decode cX1_rainOn 48 = .ok (.iconst 1, 1) := by decide +kernel
theorem dX1_rainOn_49 : decode cX1_rainOn 49 = .ok (.iadd, 1) := by decide +kernel
theorem dX1_rainOn_50 : decode cX1_rainOn 50 = .ok (.bipush 9, 2) := by decide +kernel
theorem dX1_rainOn_52 : decode cX1_rainOn 52 = .ok (.invokestatic 39, 3) := by decide +kernel
theorem dX1_rainOn_55 : decode cX1_rainOn 55 = .ok (.invokevirtual 48, 3) := by decide +kernel
theorem dX1_rainOn_58 : decode cX1_rainOn 58 = .ok (.iinc 4 1, 3) := by decide +kernel
theorem dX1_rainOn_61 : decode cX1_rainOn 61 = .ok (.goto (-50), 3) := by decide +kernel
theorem dX1_rainOn_64 : decode cX1_rainOn 64 = .ok (.aload_n 0, 1) := by decide +kernel
theorem dX1_rainOn_65 : decode cX1_rainOn 65 = .ok (.dup, 1) := by decide +kernel
theorem dX1_rainOn_66 : decode cX1_rainOn 66 = .ok (.getfield 36, 3) := by decide +kernel
theorem dX1_rainOn_69 : decode cX1_rainOn 69 = .ok (.iload_n 3, 1) := by decide +kernel
theorem dX1_rainOn_70 : decode cX1_rainOn 70 = .ok (.iadd, 1) := by decide +kernel
theorem dX1_rainOn_71 : decode cX1_rainOn 71 = .ok (.putfield 36, 3) := by decide +kernel
theorem dX1_rainOn_74 : decode cX1_rainOn 74 = .ok (.iload_n 3, 1) := by decide +kernel
theorem dX1_rainOn_75 : decode cX1_rainOn 75 = .ok (.ireturn, 1) := by decide +kernel
theorem dX1_rainsBorne_0 : decode cX1_rainsBorne 0 = .ok (.iconst 0, 1) := by decide +kernel
theorem dX1_rainsBorne_1 : decode cX1_rainsBorne 1 = .ok (.istore_n 2, 1) := by decide +kernel
theorem dX1_rainsBorne_2 : decode cX1_rainsBorne 2 = .ok (.iconst 0, 1) := by decide +kernel
theorem dX1_rainsBorne_3 : decode cX1_rainsBorne 3 = .ok (.istore_n 3, 1) := by decide +kernel
theorem dX1_rainsBorne_4 : decode cX1_rainsBorne 4 = .ok (.iload_n 3, 1) := by decide +kernel
theorem dX1_rainsBorne_5 : decode cX1_rainsBorne 5 = .ok (.bipush 9, 2) := by decide +kernel
theorem dX1_rainsBorne_7 : decode cX1_rainsBorne 7 = .ok (.if_icmp .gt 21, 3) := by decide +kernel
theorem dX1_rainsBorne_10 : decode cX1_rainsBorne 10 = .ok (.aload_n 0, 1) := by decide +kernel
theorem dX1_rainsBorne_11 : decode cX1_rainsBorne 11 = .ok (.iload_n 1, 1) := by decide +kernel
theorem dX1_rainsBorne_12 : decode cX1_rainsBorne 12 = .ok (.iload_n 3, 1) := by decide +kernel
theorem dX1_rainsBorne_13 : decode cX1_rainsBorne 13 = .ok (.invokevirtual 73, 3) := by decide +kernel
theorem dX1_rainsBorne_16 : decode cX1_rainsBorne 16 = .ok (.ifCond .ne 6, 3) := by decide +kernel
theorem dX1_rainsBorne_19 : decode cX1_rainsBorne 19 = .ok (.iinc 2 1, 3) := by decide +kernel
theorem dX1_rainsBorne_22 : decode cX1_rainsBorne 22 = .ok (.iinc 3 1, 3) := by decide +kernel
theorem dX1_rainsBorne_25 : decode cX1_rainsBorne 25 = .ok (.goto (-21), 3) := by decide +kernel
theorem dX1_rainsBorne_28 : decode cX1_rainsBorne 28 = .ok (.iload_n 2, 1) := by decide +kernel
theorem dX1_rainsBorne_29 : decode cX1_rainsBorne 29 = .ok (.ireturn, 1) := by decide +kernel
theorem dX1_cheerUp_0 : decode cX1_cheerUp 0 = .ok (.aload_n 0, 1) := by decide +kernel
theorem dX1_cheerUp_1 : decode cX1_cheerUp 1 = .ok (.getfield 23, 3) := by decide +kernel
theorem dX1_cheerUp_4 : decode cX1_cheerUp 4 = .ok (.iload_n 1, 1) := by decide +kernel
theorem dX1_cheerUp_5 : decode cX1_cheerUp 5 = .ok (.aload_n 0, 1) := by decide +kernel
theorem dX1_cheerUp_6 : decode cX1_cheerUp 6 = .ok (.getfield 23, 3) := by decide +kernel
theorem dX1_cheerUp_9 : decode cX1_cheerUp 9 = .ok (.iload_n 1, 1) := by decide +kernel
theorem dX1_cheerUp_10 : decode cX1_cheerUp 10 = .ok (.invokevirtual 56, 3) := by decide +kernel
theorem dX1_cheerUp_13 : decode cX1_cheerUp 13 = .ok (.iconst 2, 1) := by decide +kernel
theorem dX1_cheerUp_14 : decode cX1_cheerUp 14 = .ok (.isub, 1) := by decide +kernel
theorem dX1_cheerUp_15 : decode cX1_cheerUp 15 = .ok (.iconst 0, 1) := by decide +kernel
theorem dX1_cheerUp_16 : decode cX1_cheerUp 16 = .ok (.invokestatic 45, 3) := by decide +kernel
theorem dX1_cheerUp_19 : decode cX1_cheerUp 19 = .ok (.invokevirtual 48, 3) := by decide +kernel
theorem dX1_cheerUp_22 : decode cX1_cheerUp 22 = .ok (.return_, 1) := by decide +kernel
theorem dX1_canBeCombed_0 : decode cX1_canBeCombed 0 = .ok (.aload_n 0, 1) := by decide +kernel
theorem dX1_canBeCombed_1 : decode cX1_canBeCombed 1 = .ok (.getfield 26, 3) := by decide +kernel
theorem dX1_canBeCombed_4 : decode cX1_canBeCombed 4 = .ok (.iload_n 1, 1) := by decide +kernel
theorem dX1_canBeCombed_5 : decode cX1_canBeCombed 5 = .ok (.invokevirtual 56, 3) := by decide +kernel
theorem dX1_canBeCombed_8 : decode cX1_canBeCombed 8 = .ok (.ifCond .ne 19, 3) := by decide +kernel
theorem dX1_canBeCombed_11 : decode cX1_canBeCombed 11 = .ok (.aload_n 0, 1) := by decide +kernel
theorem dX1_canBeCombed_12 : decode cX1_canBeCombed 12 = .ok (.getfield 20, 3) := by decide +kernel
theorem dX1_canBeCombed_15 : decode cX1_canBeCombed 15 = .ok (.iload_n 1, 1) := by decide +kernel
theorem dX1_canBeCombed_16 : decode cX1_canBeCombed 16 = .ok (.invokevirtual 56, 3) := by decide +kernel
theorem dX1_canBeCombed_19 : decode cX1_canBeCombed 19 = .ok (.iconst 2, 1) := by decide +kernel
theorem dX1_canBeCombed_20 : decode cX1_canBeCombed 20 = .ok (.if_icmp .lt 7, 3) := by decide +kernel
theorem dX1_canBeCombed_23 : decode cX1_canBeCombed 23 = .ok (.iconst 1, 1) := by decide +kernel
theorem dX1_canBeCombed_24 : decode cX1_canBeCombed 24 = .ok (.goto 4, 3) := by decide +kernel
theorem dX1_canBeCombed_27 : decode cX1_canBeCombed 27 = .ok (.iconst 0, 1) := by decide +kernel
theorem dX1_canBeCombed_28 : decode cX1_canBeCombed 28 = .ok (.ireturn, 1) := by decide +kernel
theorem dX1_combOut_0 : decode cX1_combOut 0 = .ok (.aload_n 0, 1) := by decide +kernel
theorem dX1_combOut_1 : decode cX1_combOut 1 = .ok (.getfield 20, 3) := by decide +kernel
theorem dX1_combOut_4 : decode cX1_combOut 4 = .ok (.iload_n 1, 1) := by decide +kernel
theorem dX1_combOut_5 : decode cX1_combOut 5 = .ok (.aload_n 0, 1) := by decide +kernel
theorem dX1_combOut_6 : decode cX1_combOut 6 = .ok (.getfield 20, 3) := by decide +kernel
theorem dX1_combOut_9 : decode cX1_combOut 9 = .ok (.iload_n 1, 1) := by decide +kernel
theorem dX1_combOut_10 : decode cX1_combOut 10 = .ok (.invokevirtual 56, 3) := by decide +kernel
theorem dX1_combOut_13 : decode cX1_combOut 13 = .ok (.iconst 2, 1) := by decide +kernel
theorem dX1_combOut_14 : decode cX1_combOut 14 = .ok (.isub, 1) := by decide +kernel
theorem dX1_combOut_15 : decode cX1_combOut 15 = .ok (.invokevirtual 48, 3) := by decide +kernel
theorem dX1_combOut_18 : decode cX1_combOut 18 = .ok (.aload_n 0, 1) := by decide +kernel
theorem dX1_combOut_19 : decode cX1_combOut 19 = .ok (.getfield 26, 3) := by decide +kernel
theorem dX1_combOut_22 : decode cX1_combOut 22 = .ok (.iload_n 1, 1) := by decide +kernel
theorem dX1_combOut_23 : decode cX1_combOut 23 = .ok (.iconst 1, 1) := by decide +kernel
theorem dX1_combOut_24 : decode cX1_combOut 24 = .ok (.invokevirtual 48, 3) := by decide +kernel
theorem dX1_combOut_27 : decode cX1_combOut 27 = .ok (.return_, 1) := by decide +kernel
theorem dX1_reedOfAll_0 : decode cX1_reedOfAll 0 = .ok (.aload_n 0, 1) := by decide +kernel
theorem dX1_reedOfAll_1 : decode cX1_reedOfAll 1 = .ok (.getfield 20, 3) := by decide +kernel
theorem dX1_reedOfAll_4 : decode cX1_reedOfAll 4 = .ok (.aload_n 0, 1) := by decide +kernel
theorem dX1_reedOfAll_5 : decode cX1_reedOfAll 5 = .ok (.getfield 29, 3) := by decide +kernel
theorem dX1_reedOfAll_8 : decode cX1_reedOfAll 8 = .ok (.invokevirtual 77, 3) := by decide +kernel
theorem dX1_reedOfAll_11 : decode cX1_reedOfAll 11 = .ok (.ireturn, 1) := by decide +kernel
theorem dX1_worryOfAll_0 : decode cX1_worryOfAll 0 = .ok (.aload_n 0, 1) := by decide +kernel
theorem dX1_worryOfAll_1 : decode cX1_worryOfAll 1 = .ok (.getfield 23, 3) := by decide +kernel
theorem dX1_worryOfAll_4 : decode cX1_worryOfAll 4 = .ok (.aload_n 0, 1) := by decide +kernel
theorem dX1_worryOfAll_5 : decode cX1_worryOfAll 5 = .ok (.getfield 29, 3) := by decide +kernel
theorem dX1_worryOfAll_8 : decode cX1_worryOfAll 8 = .ok (.invokevirtual 77, 3) := by decide +kernel
theorem dX1_worryOfAll_11 : decode cX1_worryOfAll 11 = .ok (.ireturn, 1) := by decide +kernel
theorem dX1_howManyCombed_0 : decode cX1_howManyCombed 0 = .ok (.aload_n 0, 1) := by decide +kernel
theorem dX1_howManyCombed_1 : decode cX1_howManyCombed 1 = .ok (.getfield 26, 3) := by decide +kernel
theorem dX1_howManyCombed_4 : decode cX1_howManyCombed 4 = .ok (.aload_n 0, 1) := by decide +kernel
theorem dX1_howManyCombed_5 : decode cX1_howManyCombed 5 = .ok (.getfield 29, 3) := by decide +kernel
theorem dX1_howManyCombed_8 : decode cX1_howManyCombed 8 = .ok (.invokevirtual 77, 3) := by decide +kernel
theorem dX1_howManyCombed_11 : decode cX1_howManyCombed 11 = .ok (.ireturn, 1) := by decide +kernel
theorem dX1_howManyShelter_0 : decode cX1_howManyShelter 0 = .ok (.iconst 0, 1) := by decide +kernel
theorem dX1_howManyShelter_1 : decode cX1_howManyShelter 1 = .ok (.istore_n 1, 1) := by decide +kernel
theorem dX1_howManyShelter_2 : decode cX1_howManyShelter 2 = .ok (.iconst 0, 1) := by decide +kernel
theorem dX1_howManyShelter_3 : decode cX1_howManyShelter 3 = .ok (.istore_n 2, 1) := by decide +kernel
theorem dX1_howManyShelter_4 : decode cX1_howManyShelter 4 = .ok (.iload_n 2, 1) := by decide +kernel
theorem dX1_howManyShelter_5 : decode cX1_howManyShelter 5 = .ok (.aload_n 0, 1) := by decide +kernel
theorem dX1_howManyShelter_6 : decode cX1_howManyShelter 6 = .ok (.getfield 29, 3) := by decide +kernel
theorem dX1_howManyShelter_9 : decode cX1_howManyShelter 9 = .ok (.if_icmp .ge 25, 3) := by decide +kernel
theorem dX1_howManyShelter_12 : decode cX1_howManyShelter 12 = .ok (.aload_n 0, 1) := by decide +kernel
theorem dX1_howManyShelter_13 : decode cX1_howManyShelter 13 = .ok (.getfield 20, 3) := by decide +kernel
theorem dX1_howManyShelter_16 : decode cX1_howManyShelter 16 = .ok (.iload_n 2, 1) := by decide +kernel
theorem dX1_howManyShelter_17 : decode cX1_howManyShelter 17 = .ok (.invokevirtual 56, 3) := by decide +kernel
theorem dX1_howManyShelter_20 : decode cX1_howManyShelter 20 = .ok (.bipush 10, 2) := by decide +kernel
theorem dX1_howManyShelter_22 : decode cX1_howManyShelter 22 = .ok (.if_icmp .lt 6, 3) := by decide +kernel
theorem dX1_howManyShelter_25 : decode cX1_howManyShelter 25 = .ok (.iinc 1 1, 3) := by decide +kernel
theorem dX1_howManyShelter_28 : decode cX1_howManyShelter 28 = .ok (.iinc 2 1, 3) := by decide +kernel
theorem dX1_howManyShelter_31 : decode cX1_howManyShelter 31 = .ok (.goto (-27), 3) := by decide +kernel
theorem dX1_howManyShelter_34 : decode cX1_howManyShelter 34 = .ok (.iload_n 1, 1) := by decide +kernel
theorem dX1_howManyShelter_35 : decode cX1_howManyShelter 35 = .ok (.ireturn, 1) := by decide +kernel
theorem dX2_init_0 : decode cX2_init 0 = .ok (.aload_n 0, 1) := by decide +kernel
theorem dX2_init_1 : decode cX2_init 1 = .ok (.invokespecial 5, 3) := by decide +kernel
theorem dX2_init_4 : decode cX2_init 4 = .ok (.aload_n 0, 1) := by decide +kernel
theorem dX2_init_5 : decode cX2_init 5 = .ok (.new 11, 3) := by decide +kernel
theorem dX2_init_8 : decode cX2_init 8 = .ok (.dup, 1) := by decide +kernel
theorem dX2_init_9 : decode cX2_init 9 = .ok (.bipush 26, 2) := by decide +kernel
theorem dX2_init_11 : decode cX2_init 11 = .ok (.invokespecial 13, 3) := by decide +kernel
theorem dX2_init_14 : decode cX2_init 14 = .ok (.putfield 16, 3) := by decide +kernel
theorem dX2_init_17 : decode cX2_init 17 = .ok (.aload_n 0, 1) := by decide +kernel
theorem dX2_init_18 : decode cX2_init 18 = .ok (.iconst 0, 1) := by decide +kernel
theorem dX2_init_19 : decode cX2_init 19 = .ok (.putfield 20, 3) := by decide +kernel
theorem dX2_init_22 : decode cX2_init 22 = .ok (.return_, 1) := by decide +kernel
theorem dX2_add_0 : decode cX2_add 0 = .ok (.aload_n 0, 1) := by decide +kernel
theorem dX2_add_1 : decode cX2_add 1 = .ok (.getfield 16, 3) := by decide +kernel
theorem dX2_add_4 : decode cX2_add 4 = .ok (.aload_n 0, 1) := by decide +kernel
theorem dX2_add_5 : decode cX2_add 5 = .ok (.getfield 20, 3) := by decide +kernel
theorem dX2_add_8 : decode cX2_add 8 = .ok (.iload_n 1, 1) := by decide +kernel
theorem dX2_add_9 : decode cX2_add 9 = .ok (.invokevirtual 24, 3) := by decide +kernel
theorem dX2_add_12 : decode cX2_add 12 = .ok (.aload_n 0, 1) := by decide +kernel
theorem dX2_add_13 : decode cX2_add 13 = .ok (.dup, 1) := by decide +kernel
theorem dX2_add_14 : decode cX2_add 14 = .ok (.getfield 20, 3) := by decide +kernel
theorem dX2_add_17 : decode cX2_add 17 = .ok (.iconst 1, 1) := by decide +kernel
theorem dX2_add_18 : decode cX2_add 18 = .ok (.iadd, 1) := by decide +kernel
theorem dX2_add_19 : decode cX2_add 19 = .ok (.putfield 20, 3) := by decide +kernel
theorem dX2_add_22 : decode cX2_add 22 = .ok (.return_, 1) := by decide +kernel
theorem dX2_firstFault_0 : decode cX2_firstFault 0 = .ok (.iconst 0, 1) := by decide +kernel
theorem dX2_firstFault_1 : decode cX2_firstFault 1 = .ok (.istore_n 1, 1) := by decide +kernel
theorem dX2_firstFault_2 : decode cX2_firstFault 2 = .ok (.iload_n 1, 1) := by decide +kernel
theorem dX2_firstFault_3 : decode cX2_firstFault 3 = .ok (.aload_n 0, 1) := by decide +kernel
theorem dX2_firstFault_4 : decode cX2_firstFault 4 = .ok (.getfield 20, 3) := by decide +kernel
theorem dX2_firstFault_7 : decode cX2_firstFault 7 = .ok (.if_icmp .ge 26, 3) := by decide +kernel
theorem dX2_firstFault_10 : decode cX2_firstFault 10 = .ok (.iload_n 1, 1) := by decide +kernel
theorem dX2_firstFault_11 : decode cX2_firstFault 11 = .ok (.aload_n 0, 1) := by decide +kernel
theorem dX2_firstFault_12 : decode cX2_firstFault 12 = .ok (.getfield 16, 3) := by decide +kernel
theorem dX2_firstFault_15 : decode cX2_firstFault 15 = .ok (.iload_n 1, 1) := by decide +kernel
theorem dX2_firstFault_16 : decode cX2_firstFault 16 = .ok (.invokevirtual 28, 3) := by decide +kernel
theorem dX2_firstFault_19 : decode cX2_firstFault 19 = .ok (.invokestatic 32, 3) := by decide +kernel
theorem dX2_firstFault_22 : decode cX2_firstFault 22 = .ok (.ifCond .ne 5, 3) := by decide +kernel
theorem dX2_firstFault_25 : decode cX2_firstFault 25 = .ok (.iload_n 1, 1) := by decide +kernel
theorem dX2_firstFault_26 : decode cX2_firstFault 26 = .ok (.ireturn, 1) := by decide +kernel
theorem dX2_firstFault_27 : decode cX2_firstFault 27 = .ok (.iinc 1 1, 3) := by decide +kernel
theorem dX2_firstFault_30 : decode cX2_firstFault 30 = .ok (.goto (-28), 3) := by decide +kernel
theorem dX2_firstFault_33 : decode cX2_firstFault 33 = .ok (.aload_n 0, 1) := by decide +kernel
theorem dX2_firstFault_34 : decode cX2_firstFault 34 = .ok (.getfield 20, 3) := by decide +kernel
theorem dX2_firstFault_37 : decode cX2_firstFault 37 = .ok (.ireturn, 1) := by decide +kernel
theorem dX2_isLane_0 : decode cX2_isLane 0 = .ok (.aload_n 0, 1) := by decide +kernel
theorem dX2_isLane_1 : decode cX2_isLane 1 = .ok (.getfield 20, 3) := by decide +kernel
theorem dX2_isLane_4 : decode cX2_isLane 4 = .ok (.iconst 4, 1) := by decide +kernel
theorem dX2_isLane_5 : decode cX2_isLane 5 = .ok (.irem, 1) := by decide +kernel
theorem dX2_isLane_6 : decode cX2_isLane 6 = .ok (.iconst 3, 1) := by decide +kernel
theorem dX2_isLane_7 : decode cX2_isLane 7 = .ok (.if_icmp .ne 18, 3) := by decide +kernel
theorem dX2_isLane_10 : decode cX2_isLane 10 = .ok (.aload_n 0, 1) := by decide +kernel
theorem dX2_isLane_11 : decode cX2_isLane 11 = .ok (.invokevirtual 36, 3) := by decide +kernel
theorem dX2_isLane_14 : decode cX2_isLane 14 = .ok (.aload_n 0, 1) := by decide +kernel
theorem dX2_isLane_15 : decode cX2_isLane 15 = .ok (.getfield 20, 3) := by decide +kernel
theorem dX2_isLane_18 : decode cX2_isLane 18 = .ok (.if_icmp .ne 7, 3) := by decide +kernel
theorem dX2_isLane_21 : decode cX2_isLane 21 = .ok (.iconst 1, 1) := by decide +kernel
theorem dX2_isLane_22 : decode cX2_isLane 22 = .ok (.goto 4, 3) := by decide +kernel
theorem dX2_isLane_25 : decode cX2_isLane 25 = .ok (.iconst 0, 1) := by decide +kernel
theorem dX2_isLane_26 : decode cX2_isLane 26 = .ok (.ireturn, 1) := by decide +kernel
theorem dX2_housesTold_0 : decode cX2_housesTold 0 = .ok (.aload_n 0, 1) := by decide +kernel
theorem dX2_housesTold_1 : decode cX2_housesTold 1 = .ok (.getfield 20, 3) := by decide +kernel
theorem dX2_housesTold_4 : decode cX2_housesTold 4 = .ok (.iconst 1, 1) := by decide +kernel
theorem dX2_housesTold_5 : decode cX2_housesTold 5 = .ok (.iadd, 1) := by decide +kernel
theorem dX2_housesTold_6 : decode cX2_housesTold 6 = .ok (.iconst 4, 1) := by decide +kernel
theorem dX2_housesTold_7 : decode cX2_housesTold 7 = .ok (.idiv, 1) := by decide +kernel
theorem dX2_housesTold_8 : decode cX2_housesTold 8 = .ok (.ireturn, 1) := by decide +kernel
theorem dX2_kindTold_0 : decode cX2_kindTold 0 = .ok (.aload_n 0, 1) := by decide +kernel
theorem dX2_kindTold_1 : decode cX2_kindTold 1 = .ok (.getfield 16, 3) := by decide +kernel
theorem dX2_kindTold_4 : decode cX2_kindTold 4 = .ok (.iconst 4, 1) := by decide +kernel
theorem dX2_kindTold_5 : decode cX2_kindTold 5 = .ok (.iload_n 1, 1) := by decide +kernel
theorem dX2_kindTold_6 : decode cX2_kindTold 6 = .ok (.imul, 1) := by decide +kernel
theorem dX2_kindTold_7 : decode cX2_kindTold 7 = .ok (.invokevirtual 28, 3) := by decide +kernel
theorem dX2_kindTold_10 : decode cX2_kindTold 10 = .ok (.invokestatic 40, 3) := by decide +kernel
theorem dX2_kindTold_13 : decode cX2_kindTold 13 = .ok (.ireturn, 1) := by decide +kernel
theorem dX2_reedTold_0 : decode cX2_reedTold 0 = .ok (.aload_n 0, 1) := by decide +kernel
theorem dX2_reedTold_1 : decode cX2_reedTold 1 = .ok (.getfield 16, 3) := by decide +kernel
theorem dX2_reedTold_4 : decode cX2_reedTold 4 = .ok (.iconst 4, 1) := by decide +kernel
theorem dX2_reedTold_5 : decode cX2_reedTold 5 = .ok (.iload_n 1, 1) := by decide +kernel
theorem dX2_reedTold_6 : decode cX2_reedTold 6 = .ok (.imul, 1) := by decide +kernel
theorem dX2_reedTold_7 : decode cX2_reedTold 7 = .ok (.iconst 1, 1) := by decide +kernel
theorem dX2_reedTold_8 : decode cX2_reedTold 8 = .ok (.iadd, 1) := by decide +kernel
theorem dX2_reedTold_9 : decode cX2_reedTold 9 = .ok (.invokevirtual 28, 3) := by decide +kernel
theorem dX2_reedTold_12 : decode cX2_reedTold 12 = .ok (.bipush 48, 2) := by decide +kernel
theorem dX2_reedTold_14 : decode cX2_reedTold 14 = .ok (.isub, 1) := by decide +kernel
theorem dX2_reedTold_15 : decode cX2_reedTold 15 = .ok (.ireturn, 1) := by decide +kernel
theorem dX2_worryTold_0 : decode cX2_worryTold 0 = .ok (.aload_n 0, 1) := by decide +kernel
theorem dX2_worryTold_1 : decode cX2_worryTold 1 = .ok (.getfield 16, 3) := by decide +kernel
theorem dX2_worryTold_4 : decode cX2_worryTold 4 = .ok (.iconst 4, 1) := by decide +kernel
theorem dX2_worryTold_5 : decode cX2_worryTold 5 = .ok (.iload_n 1, 1) := by decide +kernel
theorem dX2_worryTold_6 : decode cX2_worryTold 6 = .ok (.imul, 1) := by decide +kernel
theorem dX2_worryTold_7 : decode cX2_worryTold 7 = .ok (.iconst 2, 1) := by decide +kernel
theorem dX2_worryTold_8 : decode cX2_worryTold 8 = .ok (.iadd, 1) := by decide +kernel
theorem dX2_worryTold_9 : decode cX2_worryTold 9 = .ok (.invokevirtual 28, 3) := by decide +kernel
theorem dX2_worryTold_12 : decode cX2_worryTold 12 = .ok (.bipush 48, 2) := by decide +kernel
theorem dX2_worryTold_14 : decode cX2_worryTold 14 = .ok (.isub, 1) := by decide +kernel
theorem dX2_worryTold_15 : decode cX2_worryTold 15 = .ok (.ireturn, 1) := by decide +kernel
theorem dX2_mayStand_0 : decode cX2_mayStand 0 = .ok (.iload_n 0, 1) := by decide +kernel
theorem dX2_mayStand_1 : decode cX2_mayStand 1 = .ok (.bipush 23, 2) := by decide +kernel
theorem dX2_mayStand_3 : decode cX2_mayStand 3 = .ok (.if_icmp .lt 5, 3) := by decide +kernel
theorem dX2_mayStand_6 : decode cX2_mayStand 6 = .ok (.iconst 0, 1) := by decide +kernel
theorem dX2_mayStand_7 : decode cX2_mayStand 7 = .ok (.ireturn, 1) := by decide +kernel
theorem dX2_mayStand_8 : decode cX2_mayStand 8 = .ok (.iload_n 0, 1) := by decide +kernel
theorem dX2_mayStand_9 : decode cX2_mayStand 9 = .ok (.iconst 4, 1) := by decide +kernel
theorem dX2_mayStand_10 : decode cX2_mayStand 10 = .ok (.irem, 1) := by decide +kernel
theorem dX2_mayStand_11 : decode cX2_mayStand 11 = .ok (.lookupswitch 51 #[(0, 25), (3, 39)], 25) := by decide +kernel
theorem dX2_mayStand_36 : decode cX2_mayStand 36 = .ok (.iload_n 1, 1) := by decide +kernel
theorem dX2_mayStand_37 : decode cX2_mayStand 37 = .ok (.invokestatic 40, 3) := by decide +kernel
theorem dX2_mayStand_40 : decode cX2_mayStand 40 = .ok (.iconst (-1), 1) := by decide +kernel
theorem dX2_mayStand_41 : decode cX2_mayStand 41 = .ok (.if_icmp .eq 7, 3) := by decide +kernel
theorem dX2_mayStand_44 : decode cX2_mayStand 44 = .ok (.iconst 1, 1) := by decide +kernel
theorem dX2_mayStand_45 : decode cX2_mayStand 45 = .ok (.goto 4, 3) := by decide +kernel
theorem dX2_mayStand_48 : decode cX2_mayStand 48 = .ok (.iconst 0, 1) := by decide +kernel
theorem dX2_mayStand_49 : decode cX2_mayStand 49 = .ok (.ireturn, 1) := by decide +kernel
theorem dX2_mayStand_50 : decode cX2_mayStand 50 = .ok (.iload_n 1, 1) := by decide +kernel
theorem dX2_mayStand_51 : decode cX2_mayStand 51 = .ok (.bipush 44, 2) := by decide +kernel
theorem dX2_mayStand_53 : decode cX2_mayStand 53 = .ok (.if_icmp .ne 7, 3) := by decide +kernel
theorem dX2_mayStand_56 : decode cX2_mayStand 56 = .ok (.iconst 1, 1) := by decide +kernel
theorem dX2_mayStand_57 : decode cX2_mayStand 57 = .ok (.goto 4, 3) := by decide +kernel
theorem dX2_mayStand_60 : decode cX2_mayStand 60 = .ok (.iconst 0, 1) := by decide +kernel
theorem dX2_mayStand_61 : decode cX2_mayStand 61 = .ok (.ireturn, 1) := by decide +kernel
theorem dX2_mayStand_62 : decode cX2_mayStand 62 = .ok (.iload_n 1, 1) := by decide +kernel
theorem dX2_mayStand_63 : decode cX2_mayStand 63 = .ok (.bipush 48, 2) := by decide +kernel
theorem dX2_mayStand_65 : decode cX2_mayStand 65 = .ok (.if_icmp .lt 13, 3) := by decide +kernel
theorem dX2_mayStand_68 : decode cX2_mayStand 68 = .ok (.iload_n 1, 1) := by decide +kernel
theorem dX2_mayStand_69 : decode cX2_mayStand 69 = .ok (.bipush 57, 2) := by decide +kernel
theorem dX2_mayStand_71 : decode cX2_mayStand 71 = .ok (.if_icmp .gt 7, 3) := by decide +kernel
theorem dX2_mayStand_74 : decode cX2_mayStand 74 = .ok (.iconst 1, 1) := by decide +kernel
theorem dX2_mayStand_75 : decode cX2_mayStand 75 = .ok (.goto 4, 3) := by decide +kernel
theorem dX2_mayStand_78 : decode cX2_mayStand 78 = .ok (.iconst 0, 1) := by decide +kernel
theorem dX2_mayStand_79 : decode cX2_mayStand 79 = .ok (.ireturn, 1) := by decide +kernel
theorem dX2_kindOf_0 : decode cX2_kindOf 0 = .ok (.iconst 0, 1) := by decide +kernel
theorem dX2_kindOf_1 : decode cX2_kindOf 1 = .ok (.istore_n 1, 1) := by decide +kernel
theorem dX2_kindOf_2 : decode cX2_kindOf 2 = .ok (.iload_n 1, 1) := by decide +kernel
theorem dX2_kindOf_3 : decode cX2_kindOf 3 = .ok (.ldc 43, 2) := by decide +kernel
theorem dX2_kindOf_5 : decode cX2_kindOf 5 = .ok (.invokevirtual 45, 3) := by decide +kernel
theorem dX2_kindOf_8 : decode cX2_kindOf 8 = .ok (.if_icmp .ge 21, 3) := by decide +kernel
theorem dX2_kindOf_11 : decode cX2_kindOf 11 = .ok (.ldc 43, 2) := by decide +kernel
theorem dX2_kindOf_13 : decode cX2_kindOf 13 = .ok (.iload_n 1, 1) := by decide +kernel
theorem dX2_kindOf_14 : decode cX2_kindOf 14 = .ok (.invokevirtual 50, 3) := by decide +kernel
theorem dX2_kindOf_17 : decode cX2_kindOf 17 = .ok (.iload_n 0, 1) := by decide +kernel
theorem dX2_kindOf_18 : decode cX2_kindOf 18 = .ok (.if_icmp .ne 5, 3) := by decide +kernel
theorem dX2_kindOf_21 : decode cX2_kindOf 21 = .ok (.iload_n 1, 1) := by decide +kernel
theorem dX2_kindOf_22 : decode cX2_kindOf 22 = .ok (.ireturn, 1) := by decide +kernel
theorem dX2_kindOf_23 : decode cX2_kindOf 23 = .ok (.iinc 1 1, 3) := by decide +kernel
theorem dX2_kindOf_26 : decode cX2_kindOf 26 = .ok (.goto (-24), 3) := by decide +kernel
theorem dX2_kindOf_29 : decode cX2_kindOf 29 = .ok (.iconst (-1), 1) := by decide +kernel
theorem dX2_kindOf_30 : decode cX2_kindOf 30 = .ok (.ireturn, 1) := by decide +kernel
theorem dX3_init_0 : decode cX3_init 0 = .ok (.aload_n 0, 1) := by decide +kernel
theorem dX3_init_1 : decode cX3_init 1 = .ok (.invokespecial 3, 3) := by decide +kernel
theorem dX3_init_4 : decode cX3_init 4 = .ok (.aload_n 0, 1) := by decide +kernel
theorem dX3_init_5 : decode cX3_init 5 = .ok (.new 9, 3) := by decide +kernel
theorem dX3_init_8 : decode cX3_init 8 = .ok (.dup, 1) := by decide +kernel
theorem dX3_init_9 : decode cX3_init 9 = .ok (.bipush 6, 2) := by decide +kernel
theorem dX3_init_11 : decode cX3_init 11 = .ok (.invokespecial 11, 3) := by decide +kernel
theorem dX3_init_14 : decode cX3_init 14 = .ok (.putfield 14, 3) := by decide +kernel
theorem dX3_init_17 : decode cX3_init 17 = .ok (.aload_n 0, 1) := by decide +kernel
theorem dX3_init_18 : decode cX3_init 18 = .ok (.new 9, 3) := by decide +kernel
theorem dX3_init_21 : decode cX3_init 21 = .ok (.dup, 1) := by decide +kernel
theorem dX3_init_22 : decode cX3_init 22 = .ok (.bipush 6, 2) := by decide +kernel
theorem dX3_init_24 : decode cX3_init 24 = .ok (.invokespecial 11, 3) := by decide +kernel
theorem dX3_init_27 : decode cX3_init 27 = .ok (.putfield 20, 3) := by decide +kernel
theorem dX3_init_30 : decode cX3_init 30 = .ok (.return_, 1) := by decide +kernel
theorem dX3_search_0 : decode cX3_search 0 = .ok (.aload_n 0, 1) := by decide +kernel
theorem dX3_search_1 : decode cX3_search 1 = .ok (.bipush 121, 2) := by decide +kernel
theorem dX3_search_3 : decode cX3_search 3 = .ok (.putfield 23, 3) := by decide +kernel
theorem dX3_search_6 : decode cX3_search 6 = .ok (.aload_n 0, 1) := by decide +kernel
theorem dX3_search_7 : decode cX3_search 7 = .ok (.getfield 14, 3) := by decide +kernel
theorem dX3_search_10 : decode cX3_search 10 = .ok (.iconst (-1), 1) := by decide +kernel
theorem dX3_search_11 : decode cX3_search 11 = .ok (.invokevirtual 27, 3) := by decide +kernel
theorem dX3_search_14 : decode cX3_search 14 = .ok (.iconst 0, 1) := by decide +kernel
theorem dX3_search_15 : decode cX3_search 15 = .ok (.istore_n 2, 1) := by decide +kernel
theorem dX3_search_16 : decode cX3_search 16 = .ok (.iload_n 2, 1) := by decide +kernel
theorem dX3_search_17 : decode cX3_search 17 = .ok (.aload_n 1, 1) := by decide +kernel
theorem dX3_search_18 : decode cX3_search 18 = .ok (.getfield 30, 3) := by decide +kernel
theorem dX3_search_21 : decode cX3_search 21 = .ok (.if_icmp .ge 19, 3) := by decide +kernel
theorem dX3_search_24 : decode cX3_search 24 = .ok (.aload_n 0, 1) := by decide +kernel
theorem dX3_search_25 : decode cX3_search 25 = .ok (.getfield 14, 3) := by decide +kernel
theorem dX3_search_28 : decode cX3_search 28 = .ok (.iload_n 2, 1) := by decide +kernel
theorem dX3_search_29 : decode cX3_search 29 = .ok (.bipush (-2), 2) := by decide +kernel
theorem dX3_search_31 : decode cX3_search 31 = .ok (.invokevirtual 35, 3) := by decide +kernel
theorem dX3_search_34 : decode cX3_search 34 = .ok (.iinc 2 1, 3) := by decide +kernel
theorem dX3_search_37 : decode cX3_search 37 = .ok (.goto (-21), 3) := by decide +kernel
theorem dX3_search_40 : decode cX3_search 40 = .ok (.aload_n 0, 1) := by decide +kernel
theorem dX3_search_41 : decode cX3_search 41 = .ok (.aload_n 1, 1) := by decide +kernel
theorem dX3_search_42 : decode cX3_search 42 = .ok (.iconst 0, 1) := by decide +kernel
theorem dX3_search_43 : decode cX3_search 43 = .ok (.iconst 0, 1) := by decide +kernel
theorem dX3_search_44 : decode cX3_search 44 = .ok (.aload_n 1, 1) := by decide +kernel
theorem dX3_search_45 : decode cX3_search 45 = .ok (.getfield 30, 3) := by decide +kernel
theorem dX3_search_48 : decode cX3_search 48 = .ok (.iconst 2, 1) := by decide +kernel
theorem dX3_search_49 : decode cX3_search 49 = .ok (.irem, 1) := by decide +kernel
theorem dX3_search_50 : decode cX3_search 50 = .ok (.iconst 1, 1) := by decide +kernel
theorem dX3_search_51 : decode cX3_search 51 = .ok (.if_icmp .ne 7, 3) := by decide +kernel
theorem dX3_search_54 : decode cX3_search 54 = .ok (.iconst 1, 1) := by decide +kernel
theorem dX3_search_55 : decode cX3_search 55 = .ok (.goto 4, 3) := by decide +kernel
theorem dX3_search_58 : decode cX3_search 58 = .ok (.iconst 0, 1) := by decide +kernel
theorem dX3_search_59 : decode cX3_search 59 = .ok (.invokevirtual 39, 3) := by decide +kernel
theorem dX3_search_62 : decode cX3_search 62 = .ok (.return_, 1) := by decide +kernel
theorem dX3_pairFrom_0 : decode cX3_pairFrom 0 = .ok (.aload_n 0, 1) := by decide +kernel
theorem dX3_pairFrom_1 : decode cX3_pairFrom 1 = .ok (.aload_n 1, 1) := by decide +kernel
theorem dX3_pairFrom_2 : decode cX3_pairFrom 2 = .ok (.iload_n 2, 1) := by decide +kernel
theorem dX3_pairFrom_3 : decode cX3_pairFrom 3 = .ok (.invokevirtual 43, 3) := by decide +kernel
theorem dX3_pairFrom_6 : decode cX3_pairFrom 6 = .ok (.istore 5, 2) := by decide +kernel
theorem dX3_pairFrom_8 : decode cX3_pairFrom 8 = .ok (.iload 5, 2) := by decide +kernel
theorem dX3_pairFrom_10 : decode cX3_pairFrom 10 = .ok (.aload_n 1, 1) := by decide +kernel
theorem dX3_pairFrom_11 : decode cX3_pairFrom 11 = .ok (.getfield 30, 3) := by decide +kernel
theorem dX3_pairFrom_14 : decode cX3_pairFrom 14 = .ok (.if_icmp .lt 9, 3) := by decide +kernel
theorem dX3_pairFrom_17 : decode cX3_pairFrom 17 = .ok (.aload_n 0, 1) := by decide +kernel
theorem dX3_pairFrom_18 : decode cX3_pairFrom 18 = .ok (.iload_n 3, 1) := by decide +kernel
theorem dX3_pairFrom_19 : decode cX3_pairFrom 19 = .ok (.invokevirtual 47, 3) := by decide +kernel
theorem dX3_pairFrom_22 : decode cX3_pairFrom 22 = .ok (.return_, 1) := by decide +kernel
theorem dX3_pairFrom_23 : decode cX3_pairFrom 23 = .ok (.iload 4, 2) := by decide +kernel
theorem dX3_pairFrom_25 : decode cX3_pairFrom 25 = .ok (.ifCond .eq 11, 3) := by decide +kernel
theorem dX3_pairFrom_28 : decode cX3_pairFrom 28 = .ok (.aload_n 0, 1) := by decide +kernel
theorem dX3_pairFrom_29 : decode cX3_pairFrom 29 = .ok (.aload_n 1, 1) := by decide +kernel
theorem dX3_pairFrom_30 : decode cX3_pairFrom 30 = .ok (.iload 5, 2) := by decide +kernel
theorem dX3_pairFrom_32 : decode cX3_pairFrom 32 = .ok (.iload_n 3, 1) := by decide +kernel
theorem dX3_pairFrom_33 : decode cX3_pairFrom 33 = .ok (.invokevirtual 50, 3) := by decide +kernel
theorem dX3_pairFrom_36 : decode cX3_pairFrom 36 = .ok (.iload 5, 2) := by decide +kernel
theorem dX3_pairFrom_38 : decode cX3_pairFrom 38 = .ok (.iconst 1, 1) := by decide +kernel
theorem dX3_pairFrom_39 : decode cX3_pairFrom 39 = .ok (.iadd, 1) := by decide +kernel
theorem dX3_pairFrom_40 : decode cX3_pairFrom 40 = .ok (.istore 6, 2) := by decide +kernel
theorem dX3_pairFrom_42 : decode cX3_pairFrom 42 = .ok (.iload 6, 2) := by decide +kernel
theorem dX3_pairFrom_44 : decode cX3_pairFrom 44 = .ok (.aload_n 1, 1) := by decide +kernel
theorem dX3_pairFrom_45 : decode cX3_pairFrom 45 = .ok (.getfield 30, 3) := by decide +kernel
theorem dX3_pairFrom_48 : decode cX3_pairFrom 48 = .ok (.if_icmp .ge 35, 3) := by decide +kernel
theorem dX3_pairFrom_51 : decode cX3_pairFrom 51 = .ok (.aload_n 0, 1) := by decide +kernel
theorem dX3_pairFrom_52 : decode cX3_pairFrom 52 = .ok (.getfield 14, 3) := by decide +kernel
theorem dX3_pairFrom_55 : decode cX3_pairFrom 55 = .ok (.iload 6, 2) := by decide +kernel
theorem dX3_pairFrom_57 : decode cX3_pairFrom 57 = .ok (.invokevirtual 54, 3) := by decide +kernel
theorem dX3_pairFrom_60 : decode cX3_pairFrom 60 = .ok (.bipush (-2), 2) := by decide +kernel
theorem dX3_pairFrom_62 : decode cX3_pairFrom 62 = .ok (.if_icmp .ne 15, 3) := by decide +kernel
theorem dX3_pairFrom_65 : decode cX3_pairFrom 65 = .ok (.aload_n 0, 1) := by decide +kernel
theorem dX3_pairFrom_66 : decode cX3_pairFrom 66 = .ok (.aload_n 1, 1) := by decide +kernel
theorem dX3_pairFrom_67 : decode cX3_pairFrom 67 = .ok (.iload 5, 2) := by decide +kernel
theorem dX3_pairFrom_69 : decode cX3_pairFrom 69 = .ok (.iload 6, 2) := by decide +kernel
theorem dX3_pairFrom_71 : decode cX3_pairFrom 71 = .ok (.iload_n 3, 1) := by decide +kernel
theorem dX3_pairFrom_72 : decode cX3_pairFrom 72 = .ok (.iload 4, 2) := by decide +kernel
theorem dX3_pairFrom_74 : decode cX3_pairFrom 74 = .ok (.invokevirtual 58, 3) := by decide +kernel
theorem dX3_pairFrom_77 : decode cX3_pairFrom 77 = .ok (.iinc 6 1, 3) := by decide +kernel
theorem dX3_pairFrom_80 : decode cX3_pairFrom 80 = .ok (.goto (-38), 3) := by decide +kernel
theorem dX3_pairFrom_83 : decode cX3_pairFrom 83 = .ok (.return_, 1) := by decide +kernel
theorem dX3_leave_0 : decode cX3_leave 0 = .ok (.aload_n 0, 1) := by decide +kernel
theorem dX3_leave_1 : decode cX3_leave 1 = .ok (.getfield 14, 3) := by decide +kernel
theorem dX3_leave_4 : decode cX3_leave 4 = .ok (.iload_n 2, 1) := by decide +kernel
theorem dX3_leave_5 : decode cX3_leave 5 = .ok (.iconst (-1), 1) := by decide +kernel
theorem dX3_leave_6 : decode cX3_leave 6 = .ok (.invokevirtual 35, 3) := by decide +kernel
theorem dX3_leave_9 : decode cX3_leave 9 = .ok (.aload_n 0, 1) := by decide +kernel
theorem dX3_leave_10 : decode cX3_leave 10 = .ok (.aload_n 1, 1) := by decide +kernel
theorem dX3_leave_11 : decode cX3_leave 11 = .ok (.iload_n 2, 1) := by decide +kernel
theorem dX3_leave_12 : decode cX3_leave 12 = .ok (.iconst 1, 1) := by decide +kernel
theorem dX3_leave_13 : decode cX3_leave 13 = .ok (.iadd, 1) := by decide +kernel
theorem dX3_leave_14 : decode cX3_leave 14 = .ok (.iload_n 3, 1) := by decide +kernel
theorem dX3_leave_15 : decode cX3_leave 15 = .ok (.iconst 0, 1) := by decide +kernel
theorem dX3_leave_16 : decode cX3_leave 16 = .ok (.invokevirtual 39, 3) := by decide +kernel
theorem dX3_leave_19 : decode cX3_leave 19 = .ok (.aload_n 0, 1) := by decide +kernel
theorem dX3_leave_20 : decode cX3_leave 20 = .ok (.getfield 14, 3) := by decide +kernel
theorem dX3_leave_23 : decode cX3_leave 23 = .ok (.iload_n 2, 1) := by decide +kernel
theorem dX3_leave_24 : decode cX3_leave 24 = .ok (.bipush (-2), 2) := by decide +kernel
theorem dX3_leave_26 : decode cX3_leave 26 = .ok (.invokevirtual 35, 3) := by decide +kernel
theorem dX3_leave_29 : decode cX3_leave 29 = .ok (.return_, 1) := by decide +kernel
theorem dX3_couple_0 : decode cX3_couple 0 = .ok (.aload_n 1, 1) := by decide +kernel
theorem dX3_couple_1 : decode cX3_couple 1 = .ok (.getfield 62, 3) := by decide +kernel
theorem dX3_couple_4 : decode cX3_couple 4 = .ok (.iload_n 2, 1) := by decide +kernel
theorem dX3_couple_5 : decode cX3_couple 5 = .ok (.invokevirtual 54, 3) := by decide +kernel
theorem dX3_couple_8 : decode cX3_couple 8 = .ok (.aload_n 1, 1) := by decide +kernel
theorem dX3_couple_9 : decode cX3_couple 9 = .ok (.getfield 62, 3) := by decide +kernel
theorem dX3_couple_12 : decode cX3_couple 12 = .ok (.iload_n 3, 1) := by decide +kernel
theorem dX3_couple_13 : decode cX3_couple 13 = .ok (.invokevirtual 54, 3) := by decide +kernel
theorem dX3_couple_16 : decode cX3_couple 16 = .ok (.isub, 1) := by decide +kernel
theorem dX3_couple_17 : decode cX3_couple 17 = .ok (.invokestatic 65, 3) := by decide +kernel
theorem dX3_couple_20 : decode cX3_couple 20 = .ok (.istore 6, 2) := by decide +kernel
theorem dX3_couple_22 : decode cX3_couple 22 = .ok (.aload_n 0, 1) := by decide +kernel
theorem dX3_couple_23 : decode cX3_couple 23 = .ok (.getfield 14, 3) := by decide +kernel
theorem dX3_couple_26 : decode cX3_couple 26 = .ok (.iload_n 2, 1) := by decide +kernel
theorem dX3_couple_27 : decode cX3_couple 27 = .ok (.iload_n 3, 1) := by decide +kernel
theorem dX3_couple_28 : decode cX3_couple 28 = .ok (.invokevirtual 35, 3) := by decide +kernel
theorem dX3_couple_31 : decode cX3_couple 31 = .ok (.aload_n 0, 1) := by decide +kernel
theorem dX3_couple_32 : decode cX3_couple 32 = .ok (.getfield 14, 3) := by decide +kernel
theorem dX3_couple_35 : decode cX3_couple 35 = .ok (.iload_n 3, 1) := by decide +kernel
theorem dX3_couple_36 : decode cX3_couple 36 = .ok (.iload_n 2, 1) := by decide +kernel
theorem dX3_couple_37 : decode cX3_couple 37 = .ok (.invokevirtual 35, 3) := by decide +kernel
theorem dX3_couple_40 : decode cX3_couple 40 = .ok (.aload_n 0, 1) := by decide +kernel
theorem dX3_couple_41 : decode cX3_couple 41 = .ok (.aload_n 1, 1) := by decide +kernel
theorem dX3_couple_42 : decode cX3_couple 42 = .ok (.iload_n 2, 1) := by decide +kernel
theorem dX3_couple_43 : decode cX3_couple 43 = .ok (.iconst 1, 1) := by decide +kernel
theorem dX3_couple_44 : decode cX3_couple 44 = .ok (.iadd, 1) := by decide +kernel
theorem dX3_couple_45 : decode cX3_couple 45 = .ok (.iload 4, 2) := by decide +kernel
theorem dX3_couple_47 : decode cX3_couple 47 = .ok (.iload 6, 2) := by decide +kernel
theorem dX3_couple_49 : decode cX3_couple 49 = .ok (.iadd, 1) := by decide +kernel
theorem dX3_couple_50 : decode cX3_couple 50 = .ok (.iload 5, 2) := by decide +kernel
theorem dX3_couple_52 : decode cX3_couple 52 = .ok (.invokevirtual 39, 3) := by decide +kernel
theorem dX3_couple_55 : decode cX3_couple 55 = .ok (.aload_n 0, 1) := by decide +kernel
theorem dX3_couple_56 : decode cX3_couple 56 = .ok (.getfield 14, 3) := by decide +kernel
theorem dX3_couple_59 : decode cX3_couple 59 = .ok (.iload_n 2, 1) := by decide +kernel
theorem dX3_couple_60 : decode cX3_couple 60 = .ok (.bipush (-2), 2) := by decide +kernel
theorem dX3_couple_62 : decode cX3_couple 62 = .ok (.invokevirtual 35, 3) := by decide +kernel
theorem dX3_couple_65 : decode cX3_couple 65 = .ok (.aload_n 0, 1) := by decide +kernel
theorem dX3_couple_66 : decode cX3_couple 66 = .ok (.getfield 14, 3) := by decide +kernel
theorem dX3_couple_69 : decode cX3_couple 69 = .ok (.iload_n 3, 1) := by decide +kernel
theorem dX3_couple_70 : decode cX3_couple 70 = .ok (.bipush (-2), 2) := by decide +kernel
theorem dX3_couple_72 : decode cX3_couple 72 = .ok (.invokevirtual 35, 3) := by decide +kernel
theorem dX3_couple_75 : decode cX3_couple 75 = .ok (.return_, 1) := by decide +kernel
theorem dX3_firstFree_0 : decode cX3_firstFree 0 = .ok (.iload_n 2, 1) := by decide +kernel
theorem dX3_firstFree_1 : decode cX3_firstFree 1 = .ok (.istore_n 3, 1) := by decide +kernel
theorem dX3_firstFree_2 : decode cX3_firstFree 2 = .ok (.iload_n 3, 1) := by decide +kernel
theorem dX3_firstFree_3 : decode cX3_firstFree 3 = .ok (.aload_n 1, 1) := by decide +kernel
theorem dX3_firstFree_4 : decode cX3_firstFree 4 = .ok (.getfield 30, 3) := by decide +kernel
theorem dX3_firstFree_7 : decode cX3_firstFree 7 = .ok (.if_icmp .ge 24, 3) := by decide +kernel
theorem dX3_firstFree_10 : decode cX3_firstFree 10 = .ok (.aload_n 0, 1) := by decide +kernel
theorem dX3_firstFree_11 : decode cX3_firstFree 11 = .ok (.getfield 14, 3) := by decide +kernel
theorem dX3_firstFree_14 : decode cX3_firstFree 14 = .ok (.iload_n 3, 1) := by decide +kernel
theorem dX3_firstFree_15 : decode cX3_firstFree 15 = .ok (.invokevirtual 54, 3) := by decide +kernel
theorem dX3_firstFree_18 : decode cX3_firstFree 18 = .ok (.bipush (-2), 2) := by decide +kernel
theorem dX3_firstFree_20 : decode cX3_firstFree 20 = .ok (.if_icmp .ne 5, 3) := by decide +kernel
theorem dX3_firstFree_23 : decode cX3_firstFree 23 = .ok (.iload_n 3, 1) := by decide +kernel
theorem dX3_firstFree_24 : decode cX3_firstFree 24 = .ok (.ireturn, 1) := by decide +kernel
theorem dX3_firstFree_25 : decode cX3_firstFree 25 = .ok (.iinc 3 1, 3) := by decide +kernel
theorem dX3_firstFree_28 : decode cX3_firstFree 28 = .ok (.goto (-26), 3) := by decide +kernel
theorem dX3_firstFree_31 : decode cX3_firstFree 31 = .ok (.aload_n 1, 1) := by decide +kernel
theorem dX3_firstFree_32 : decode cX3_firstFree 32 = .ok (.getfield 30, 3) := by decide +kernel
theorem dX3_firstFree_35 : decode cX3_firstFree 35 = .ok (.ireturn, 1) := by decide +kernel
theorem dX3_weigh_0 : decode cX3_weigh 0 = .ok (.iload_n 1, 1) := by decide +kernel
theorem dX3_weigh_1 : decode cX3_weigh 1 = .ok (.aload_n 0, 1) := by decide +kernel
theorem dX3_weigh_2 : decode cX3_weigh 2 = .ok (.getfield 23, 3) := by decide +kernel
theorem dX3_weigh_5 : decode cX3_weigh 5 = .ok (.if_icmp .ge 19, 3) := by decide +kernel
theorem dX3_weigh_8 : decode cX3_weigh 8 = .ok (.aload_n 0, 1) := by decide +kernel
theorem dX3_weigh_9 : decode cX3_weigh 9 = .ok (.iload_n 1, 1) := by decide +kernel
theorem dX3_weigh_10 : decode cX3_weigh 10 = .ok (.putfield 23, 3) := by decide +kernel
theorem dX3_weigh_13 : decode cX3_weigh 13 = .ok (.aload_n 0, 1) := by decide +kernel
theorem dX3_weigh_14 : decode cX3_weigh 14 = .ok (.getfield 20, 3) := by decide +kernel
theorem dX3_weigh_17 : decode cX3_weigh 17 = .ok (.aload_n 0, 1) := by decide +kernel
theorem dX3_weigh_18 : decode cX3_weigh 18 = .ok (.getfield 14, 3) := by decide +kernel
theorem dX3_weigh_21 : decode cX3_weigh 21 = .ok (.invokevirtual 70, 3) := by decide +kernel
theorem dX3_weigh_24 : decode cX3_weigh 24 = .ok (.return_, 1) := by decide +kernel
theorem dX4_init_0 : decode cX4_init 0 = .ok (.aload_n 0, 1) := by decide +kernel
theorem dX4_init_1 : decode cX4_init 1 = .ok (.invokespecial 3, 3) := by decide +kernel
theorem dX4_init_4 : decode cX4_init 4 = .ok (.aload_n 0, 1) := by decide +kernel
theorem dX4_init_5 : decode cX4_init 5 = .ok (.iconst 0, 1) := by decide +kernel
theorem dX4_init_6 : decode cX4_init 6 = .ok (.putfield 9, 3) := by decide +kernel
theorem dX4_init_9 : decode cX4_init 9 = .ok (.aload_n 0, 1) := by decide +kernel
theorem dX4_init_10 : decode cX4_init 10 = .ok (.iconst 0, 1) := by decide +kernel
theorem dX4_init_11 : decode cX4_init 11 = .ok (.putfield 15, 3) := by decide +kernel
theorem dX4_init_14 : decode cX4_init 14 = .ok (.return_, 1) := by decide +kernel
theorem dX4_search_0 : decode cX4_search 0 = .ok (.aload_n 0, 1) := by decide +kernel
theorem dX4_search_1 : decode cX4_search 1 = .ok (.iload_n 2, 1) := by decide +kernel
theorem dX4_search_2 : decode cX4_search 2 = .ok (.putfield 18, 3) := by decide +kernel
theorem dX4_search_5 : decode cX4_search 5 = .ok (.aload_n 0, 1) := by decide +kernel
theorem dX4_search_6 : decode cX4_search 6 = .ok (.iload_n 3, 1) := by decide +kernel
theorem dX4_search_7 : decode cX4_search 7 = .ok (.putfield 21, 3) := by decide +kernel
theorem dX4_search_10 : decode cX4_search 10 = .ok (.aload_n 0, 1) := by decide +kernel
theorem dX4_search_11 : decode cX4_search 11 = .ok (.bipush 7, 2) := by decide +kernel
theorem dX4_search_13 : decode cX4_search 13 = .ok (.putfield 9, 3) := by decide +kernel
theorem dX4_search_16 : decode cX4_search 16 = .ok (.aload_n 0, 1) := by decide +kernel
theorem dX4_search_17 : decode cX4_search 17 = .ok (.iconst 0, 1) := by decide +kernel
theorem dX4_search_18 : decode cX4_search 18 = .ok (.putfield 15, 3) := by decide +kernel
theorem dX4_search_21 : decode cX4_search 21 = .ok (.aload_n 0, 1) := by decide +kernel
theorem dX4_search_22 : decode cX4_search 22 = .ok (.aload_n 1, 1) := by decide +kernel
theorem dX4_search_23 : decode cX4_search 23 = .ok (.iconst 0, 1) := by decide +kernel
theorem dX4_search_24 : decode cX4_search 24 = .ok (.iconst 0, 1) := by decide +kernel
theorem dX4_search_25 : decode cX4_search 25 = .ok (.iconst 0, 1) := by decide +kernel
theorem dX4_search_26 : decode cX4_search 26 = .ok (.iconst 0, 1) := by decide +kernel
theorem dX4_search_27 : decode cX4_search 27 = .ok (.invokevirtual 24, 3) := by decide +kernel
theorem dX4_search_30 : decode cX4_search 30 = .ok (.return_, 1) := by decide +kernel
theorem dX4_putOnFrom_0 : decode cX4_putOnFrom 0 = .ok (.iload_n 2, 1) := by decide +kernel
theorem dX4_putOnFrom_1 : decode cX4_putOnFrom 1 = .ok (.aload_n 1, 1) := by decide +kernel
theorem dX4_putOnFrom_2 : decode cX4_putOnFrom 2 = .ok (.getfield 28, 3) := by decide +kernel
theorem dX4_putOnFrom_5 : decode cX4_putOnFrom 5 = .ok (.if_icmp .lt 12, 3) := by decide +kernel
theorem dX4_putOnFrom_8 : decode cX4_putOnFrom 8 = .ok (.aload_n 0, 1) := by decide +kernel
theorem dX4_putOnFrom_9 : decode cX4_putOnFrom 9 = .ok (.iload 5, 2) := by decide +kernel
theorem dX4_putOnFrom_11 : decode cX4_putOnFrom 11 = .ok (.iload 4, 2) := by decide +kernel
theorem dX4_putOnFrom_13 : decode cX4_putOnFrom 13 = .ok (.invokevirtual 33, 3) := by decide +kernel
theorem dX4_putOnFrom_16 : decode cX4_putOnFrom 16 = .ok (.return_, 1) := by decide +kernel
theorem dX4_putOnFrom_17 : decode cX4_putOnFrom 17 = .ok (.aload_n 1, 1) := by decide +kernel
theorem dX4_putOnFrom_18 : decode cX4_putOnFrom 18 = .ok (.getfield 37, 3) := by decide +kernel
theorem dX4_putOnFrom_21 : decode cX4_putOnFrom 21 = .ok (.iload_n 2, 1) := by decide +kernel
theorem dX4_putOnFrom_22 : decode cX4_putOnFrom 22 = .ok (.invokevirtual 41, 3) := by decide +kernel
theorem dX4_putOnFrom_25 : decode cX4_putOnFrom 25 = .ok (.istore 6, 2) := by decide +kernel
theorem dX4_putOnFrom_27 : decode cX4_putOnFrom 27 = .ok (.aload_n 0, 1) := by decide +kernel
theorem dX4_putOnFrom_28 : decode cX4_putOnFrom 28 = .ok (.getfield 18, 3) := by decide +kernel
theorem dX4_putOnFrom_31 : decode cX4_putOnFrom 31 = .ok (.iload_n 3, 1) := by decide +kernel
theorem dX4_putOnFrom_32 : decode cX4_putOnFrom 32 = .ok (.invokestatic 47, 3) := by decide +kernel
theorem dX4_putOnFrom_35 : decode cX4_putOnFrom 35 = .ok (.istore 7, 2) := by decide +kernel
theorem dX4_putOnFrom_37 : decode cX4_putOnFrom 37 = .ok (.aload_n 0, 1) := by decide +kernel
theorem dX4_putOnFrom_38 : decode cX4_putOnFrom 38 = .ok (.aload_n 1, 1) := by decide +kernel
theorem dX4_putOnFrom_39 : decode cX4_putOnFrom 39 = .ok (.iload_n 2, 1) := by decide +kernel
theorem dX4_putOnFrom_40 : decode cX4_putOnFrom 40 = .ok (.iload_n 3, 1) := by decide +kernel
theorem dX4_putOnFrom_41 : decode cX4_putOnFrom 41 = .ok (.iload 4, 2) := by decide +kernel
theorem dX4_putOnFrom_43 : decode cX4_putOnFrom 43 = .ok (.iload 5, 2) := by decide +kernel
theorem dX4_putOnFrom_45 : decode cX4_putOnFrom 45 = .ok (.iload 6, 2) := by decide +kernel
theorem dX4_putOnFrom_47 : decode cX4_putOnFrom 47 = .ok (.invokevirtual 51, 3) := by decide +kernel
theorem dX4_putOnFrom_50 : decode cX4_putOnFrom 50 = .ok (.iload 7, 2) := by decide +kernel
theorem dX4_putOnFrom_52 : decode cX4_putOnFrom 52 = .ok (.iload 6, 2) := by decide +kernel
theorem dX4_putOnFrom_54 : decode cX4_putOnFrom 54 = .ok (.if_icmp .le 16, 3) := by decide +kernel
theorem dX4_putOnFrom_57 : decode cX4_putOnFrom 57 = .ok (.aload_n 0, 1) := by decide +kernel
theorem dX4_putOnFrom_58 : decode cX4_putOnFrom 58 = .ok (.aload_n 1, 1) := by decide +kernel
theorem dX4_putOnFrom_59 : decode cX4_putOnFrom 59 = .ok (.iload_n 2, 1) := by decide +kernel
theorem dX4_putOnFrom_60 : decode cX4_putOnFrom 60 = .ok (.iload_n 3, 1) := by decide +kernel
theorem dX4_putOnFrom_61 : decode cX4_putOnFrom 61 = .ok (.iload 4, 2) := by decide +kernel
theorem dX4_putOnFrom_63 : decode cX4_putOnFrom 63 = .ok (.iload 5, 2) := by decide +kernel
theorem dX4_putOnFrom_65 : decode cX4_putOnFrom 65 = .ok (.iload 7, 2) := by decide +kernel
theorem dX4_putOnFrom_67 : decode cX4_putOnFrom 67 = .ok (.invokevirtual 51, 3) := by decide +kernel
theorem dX4_putOnFrom_70 : decode cX4_putOnFrom 70 = .ok (.bipush 10, 2) := by decide +kernel
theorem dX4_putOnFrom_72 : decode cX4_putOnFrom 72 = .ok (.iload 6, 2) := by decide +kernel
theorem dX4_putOnFrom_74 : decode cX4_putOnFrom 74 = .ok (.if_icmp .le 16, 3) := by decide +kernel
theorem dX4_putOnFrom_77 : decode cX4_putOnFrom 77 = .ok (.aload_n 0, 1) := by decide +kernel
theorem dX4_putOnFrom_78 : decode cX4_putOnFrom 78 = .ok (.aload_n 1, 1) := by decide +kernel
theorem dX4_putOnFrom_79 : decode cX4_putOnFrom 79 = .ok (.iload_n 2, 1) := by decide +kernel
theorem dX4_putOnFrom_80 : decode cX4_putOnFrom 80 = .ok (.iload_n 3, 1) := by decide +kernel
theorem dX4_putOnFrom_81 : decode cX4_putOnFrom 81 = .ok (.iload 4, 2) := by decide +kernel
theorem dX4_putOnFrom_83 : decode cX4_putOnFrom 83 = .ok (.iload 5, 2) := by decide +kernel
theorem dX4_putOnFrom_85 : decode cX4_putOnFrom 85 = .ok (.bipush 10, 2) := by decide +kernel
theorem dX4_putOnFrom_87 : decode cX4_putOnFrom 87 = .ok (.invokevirtual 51, 3) := by decide +kernel
theorem dX4_putOnFrom_90 : decode cX4_putOnFrom 90 = .ok (.return_, 1) := by decide +kernel
theorem dX4_raise_0 : decode cX4_raise 0 = .ok (.iload 4, 2) := by decide +kernel
theorem dX4_raise_2 : decode cX4_raise 2 = .ok (.iload 6, 2) := by decide +kernel
theorem dX4_raise_4 : decode cX4_raise 4 = .ok (.iadd, 1) := by decide +kernel
theorem dX4_raise_5 : decode cX4_raise 5 = .ok (.aload_n 1, 1) := by decide +kernel
theorem dX4_raise_6 : decode cX4_raise 6 = .ok (.getfield 37, 3) := by decide +kernel
theorem dX4_raise_9 : decode cX4_raise 9 = .ok (.iload_n 2, 1) := by decide +kernel
theorem dX4_raise_10 : decode cX4_raise 10 = .ok (.invokevirtual 41, 3) := by decide +kernel
theorem dX4_raise_13 : decode cX4_raise 13 = .ok (.isub, 1) := by decide +kernel
theorem dX4_raise_14 : decode cX4_raise 14 = .ok (.istore 7, 2) := by decide +kernel
theorem dX4_raise_16 : decode cX4_raise 16 = .ok (.iload 7, 2) := by decide +kernel
theorem dX4_raise_18 : decode cX4_raise 18 = .ok (.aload_n 0, 1) := by decide +kernel
theorem dX4_raise_19 : decode cX4_raise 19 = .ok (.getfield 21, 3) := by decide +kernel
theorem dX4_raise_22 : decode cX4_raise 22 = .ok (.if_icmp .le 4, 3) := by decide +kernel
theorem dX4_raise_25 : decode cX4_raise 25 = .ok (.return_, 1) := by decide +kernel
theorem dX4_raise_26 : decode cX4_raise 26 = .ok (.iload 6, 2) := by decide +kernel
theorem dX4_raise_28 : decode cX4_raise 28 = .ok (.aload_n 0, 1) := by decide +kernel
theorem dX4_raise_29 : decode cX4_raise 29 = .ok (.getfield 18, 3) := by decide +kernel
theorem dX4_raise_32 : decode cX4_raise 32 = .ok (.iload_n 3, 1) := by decide +kernel
theorem dX4_raise_33 : decode cX4_raise 33 = .ok (.invokestatic 47, 3) := by decide +kernel
theorem dX4_raise_36 : decode cX4_raise 36 = .ok (.if_icmp .ge 10, 3) := by decide +kernel
theorem dX4_raise_39 : decode cX4_raise 39 = .ok (.iload 5, 2) := by decide +kernel
theorem dX4_raise_41 : decode cX4_raise 41 = .ok (.iconst 1, 1) := by decide +kernel
theorem dX4_raise_42 : decode cX4_raise 42 = .ok (.iadd, 1) := by decide +kernel
theorem dX4_raise_43 : decode cX4_raise 43 = .ok (.goto 5, 3) := by decide +kernel
theorem dX4_raise_46 : decode cX4_raise 46 = .ok (.iload 5, 2) := by decide +kernel
theorem dX4_raise_48 : decode cX4_raise 48 = .ok (.istore 8, 2) := by decide +kernel
theorem dX4_raise_50 : decode cX4_raise 50 = .ok (.iload 6, 2) := by decide +kernel
theorem dX4_raise_52 : decode cX4_raise 52 = .ok (.bipush 10, 2) := by decide +kernel
theorem dX4_raise_54 : decode cX4_raise 54 = .ok (.if_icmp .lt 9, 3) := by decide +kernel
theorem dX4_raise_57 : decode cX4_raise 57 = .ok (.iload_n 3, 1) := by decide +kernel
theorem dX4_raise_58 : decode cX4_raise 58 = .ok (.iconst 1, 1) := by decide +kernel
theorem dX4_raise_59 : decode cX4_raise 59 = .ok (.iadd, 1) := by decide +kernel
theorem dX4_raise_60 : decode cX4_raise 60 = .ok (.goto 4, 3) := by decide +kernel
theorem dX4_raise_63 : decode cX4_raise 63 = .ok (.iload_n 3, 1) := by decide +kernel
theorem dX4_raise_64 : decode cX4_raise 64 = .ok (.istore 9, 2) := by decide +kernel
theorem dX4_raise_66 : decode cX4_raise 66 = .ok (.aload_n 0, 1) := by decide +kernel
theorem dX4_raise_67 : decode cX4_raise 67 = .ok (.aload_n 1, 1) := by decide +kernel
theorem dX4_raise_68 : decode cX4_raise 68 = .ok (.iload_n 2, 1) := by decide +kernel
theorem dX4_raise_69 : decode cX4_raise 69 = .ok (.iconst 1, 1) := by decide +kernel
theorem dX4_raise_70 : decode cX4_raise 70 = .ok (.iadd, 1) := by decide +kernel
theorem dX4_raise_71 : decode cX4_raise 71 = .ok (.iload 9, 2) := by decide +kernel
theorem dX4_raise_73 : decode cX4_raise 73 = .ok (.iload 7, 2) := by decide +kernel
theorem dX4_raise_75 : decode cX4_raise 75 = .ok (.iload 8, 2) := by decide +kernel
theorem dX4_raise_77 : decode cX4_raise 77 = .ok (.invokevirtual 24, 3) := by decide +kernel
theorem dX4_raise_80 : decode cX4_raise 80 = .ok (.return_, 1) := by decide +kernel
theorem dX4_weigh_0 : decode cX4_weigh 0 = .ok (.iload_n 1, 1) := by decide +kernel
theorem dX4_weigh_1 : decode cX4_weigh 1 = .ok (.aload_n 0, 1) := by decide +kernel
theorem dX4_weigh_2 : decode cX4_weigh 2 = .ok (.getfield 9, 3) := by decide +kernel
theorem dX4_weigh_5 : decode cX4_weigh 5 = .ok (.if_icmp .lt 19, 3) := by decide +kernel
theorem dX4_weigh_8 : decode cX4_weigh 8 = .ok (.iload_n 1, 1) := by decide +kernel
theorem dX4_weigh_9 : decode cX4_weigh 9 = .ok (.aload_n 0, 1) := by decide +kernel
theorem dX4_weigh_10 : decode cX4_weigh 10 = .ok (.getfield 9, 3) := by decide +kernel
theorem dX4_weigh_13 : decode cX4_weigh 13 = .ok (.if_icmp .ne 21, 3) := by decide +kernel
theorem dX4_weigh_16 : decode cX4_weigh 16 = .ok (.iload_n 2, 1) := by decide +kernel
theorem dX4_weigh_17 : decode cX4_weigh 17 = .ok (.aload_n 0, 1) := by decide +kernel
theorem dX4_weigh_18 : decode cX4_weigh 18 = .ok (.getfield 15, 3) := by decide +kernel
theorem dX4_weigh_21 : decode cX4_weigh 21 = .ok (.if_icmp .ge 13, 3) := by decide +kernel
theorem dX4_weigh_24 : decode cX4_weigh 24 = .ok (.aload_n 0, 1) := by decide +kernel
theorem dX4_weigh_25 : decode cX4_weigh 25 = .ok (.iload_n 1, 1) := by decide +kernel
theorem dX4_weigh_26 : decode cX4_weigh 26 = .ok (.putfield 9, 3) := by decide +kernel
theorem dX4_weigh_29 : decode cX4_weigh 29 = .ok (.aload_n 0, 1) := by decide +kernel
theorem dX4_weigh_30 : decode cX4_weigh 30 = .ok (.iload_n 2, 1) := by decide +kernel
theorem dX4_weigh_31 : decode cX4_weigh 31 = .ok (.putfield 15, 3) := by decide +kernel
theorem dX4_weigh_34 : decode cX4_weigh 34 = .ok (.return_, 1) := by decide +kernel
theorem dX5_init_0 : decode cX5_init 0 = .ok (.aload_n 0, 1) := by decide +kernel
theorem dX5_init_1 : decode cX5_init 1 = .ok (.invokespecial 3, 3) := by decide +kernel
theorem dX5_init_4 : decode cX5_init 4 = .ok (.aload_n 0, 1) := by decide +kernel
theorem dX5_init_5 : decode cX5_init 5 = .ok (.iconst 5, 1) := by decide +kernel
theorem dX5_init_6 : decode cX5_init 6 = .ok (.anewarray 9, 3) := by decide +kernel
theorem dX5_init_9 : decode cX5_init 9 = .ok (.putfield 11, 3) := by decide +kernel
theorem dX5_init_12 : decode cX5_init 12 = .ok (.iconst 0, 1) := by decide +kernel
theorem dX5_init_13 : decode cX5_init 13 = .ok (.istore_n 1, 1) := by decide +kernel
theorem dX5_init_14 : decode cX5_init 14 = .ok (.iload_n 1, 1) := by decide +kernel
theorem dX5_init_15 : decode cX5_init 15 = .ok (.aload_n 0, 1) := by decide +kernel
theorem dX5_init_16 : decode cX5_init 16 = .ok (.getfield 11, 3) := by decide +kernel
theorem dX5_init_19 : decode cX5_init 19 = .ok (.arraylength, 1) := by decide +kernel
theorem dX5_init_20 : decode cX5_init 20 = .ok (.if_icmp .ge 22, 3) := by decide +kernel
theorem dX5_init_23 : decode cX5_init 23 = .ok (.aload_n 0, 1) := by decide +kernel
theorem dX5_init_24 : decode cX5_init 24 = .ok (.getfield 11, 3) := by decide +kernel
theorem dX5_init_27 : decode cX5_init 27 = .ok (.iload_n 1, 1) := by decide +kernel
theorem dX5_init_28 : decode cX5_init 28 = .ok (.new 9, 3) := by decide +kernel
theorem dX5_init_31 : decode cX5_init 31 = .ok (.dup, 1) := by decide +kernel
theorem dX5_init_32 : decode cX5_init 32 = .ok (.invokespecial 17, 3) := by decide +kernel
theorem dX5_init_35 : decode cX5_init 35 = .ok (.aastore, 1) := by decide +kernel
theorem dX5_init_36 : decode cX5_init 36 = .ok (.iinc 1 1, 3) := by decide +kernel
theorem dX5_init_39 : decode cX5_init 39 = .ok (.goto (-25), 3) := by decide +kernel
theorem dX5_init_42 : decode cX5_init 42 = .ok (.aload_n 0, 1) := by decide +kernel
theorem dX5_init_43 : decode cX5_init 43 = .ok (.new 18, 3) := by decide +kernel
theorem dX5_init_46 : decode cX5_init 46 = .ok (.dup, 1) := by decide +kernel
theorem dX5_init_47 : decode cX5_init 47 = .ok (.iconst 4, 1) := by decide +kernel
theorem dX5_init_48 : decode cX5_init 48 = .ok (.invokespecial 20, 3) := by decide +kernel
theorem dX5_init_51 : decode cX5_init 51 = .ok (.putfield 23, 3) := by decide +kernel
theorem dX5_init_54 : decode cX5_init 54 = .ok (.aload_n 0, 1) := by decide +kernel
theorem dX5_init_55 : decode cX5_init 55 = .ok (.new 18, 3) := by decide +kernel
theorem dX5_init_58 : decode cX5_init 58 = .ok (.dup, 1) := by decide +kernel
theorem dX5_init_59 : decode cX5_init 59 = .ok (.iconst 4, 1) := by decide +kernel
theorem dX5_init_60 : decode cX5_init 60 = .ok (.invokespecial 20, 3) := by decide +kernel
theorem dX5_init_63 : decode cX5_init 63 = .ok (.putfield 27, 3) := by decide +kernel
theorem dX5_init_66 : decode cX5_init 66 = .ok (.return_, 1) := by decide +kernel
theorem dX5_search_0 : decode cX5_search 0 = .ok (.aload_n 0, 1) := by decide +kernel
theorem dX5_search_1 : decode cX5_search 1 = .ok (.iload_n 2, 1) := by decide +kernel
theorem dX5_search_2 : decode cX5_search 2 = .ok (.putfield 30, 3) := by decide +kernel
theorem dX5_search_5 : decode cX5_search 5 = .ok (.aload_n 0, 1) := by decide +kernel
theorem dX5_search_6 : decode cX5_search 6 = .ok (.iload_n 3, 1) := by decide +kernel
theorem dX5_search_7 : decode cX5_search 7 = .ok (.putfield 34, 3) := by decide +kernel
theorem dX5_search_10 : decode cX5_search 10 = .ok (.aload_n 0, 1) := by decide +kernel
theorem dX5_search_11 : decode cX5_search 11 = .ok (.bipush 7, 2) := by decide +kernel
theorem dX5_search_13 : decode cX5_search 13 = .ok (.putfield 37, 3) := by decide +kernel
theorem dX5_search_16 : decode cX5_search 16 = .ok (.aload_n 0, 1) := by decide +kernel
theorem dX5_search_17 : decode cX5_search 17 = .ok (.iconst 0, 1) := by decide +kernel
theorem dX5_search_18 : decode cX5_search 18 = .ok (.putfield 40, 3) := by decide +kernel
theorem dX5_search_21 : decode cX5_search 21 = .ok (.aload_n 0, 1) := by decide +kernel
theorem dX5_search_22 : decode cX5_search 22 = .ok (.iconst 0, 1) := by decide +kernel
theorem dX5_search_23 : decode cX5_search 23 = .ok (.invokevirtual 43, 3) := by decide +kernel
theorem dX5_search_26 : decode cX5_search 26 = .ok (.astore 4, 2) := by decide +kernel
theorem dX5_search_28 : decode cX5_search 28 = .ok (.aload 4, 2) := by decide +kernel
theorem dX5_search_30 : decode cX5_search 30 = .ok (.ifnull 16, 3) := by decide +kernel
theorem dX5_search_33 : decode cX5_search 33 = .ok (.aload 4, 2) := by decide +kernel
theorem dX5_search_35 : decode cX5_search 35 = .ok (.aload_n 1, 1) := by decide +kernel
theorem dX5_search_36 : decode cX5_search 36 = .ok (.invokevirtual 47, 3) := by decide +kernel
theorem dX5_search_39 : decode cX5_search 39 = .ok (.aload_n 0, 1) := by decide +kernel
theorem dX5_search_40 : decode cX5_search 40 = .ok (.aload 4, 2) := by decide +kernel
theorem dX5_search_42 : decode cX5_search 42 = .ok (.iconst 0, 1) := by decide +kernel
theorem dX5_search_43 : decode cX5_search 43 = .ok (.invokevirtual 51, 3) := by decide +kernel
theorem dX5_search_46 : decode cX5_search 46 = .ok (.return_, 1) := by decide +kernel
theorem dX5_goOn_0 : decode cX5_goOn 0 = .ok (.iload_n 2, 1) := by decide +kernel
theorem dX5_goOn_1 : decode cX5_goOn 1 = .ok (.aload_n 0, 1) := by decide +kernel
theorem dX5_goOn_2 : decode cX5_goOn 2 = .ok (.getfield 30, 3) := by decide +kernel
theorem dX5_goOn_5 : decode cX5_goOn 5 = .ok (.if_icmp .lt 9, 3) := by decide +kernel
theorem dX5_goOn_8 : decode cX5_goOn 8 = .ok (.aload_n 0, 1) := by decide +kernel
theorem dX5_goOn_9 : decode cX5_goOn 9 = .ok (.aload_n 1, 1) := by decide +kernel
theorem dX5_goOn_10 : decode cX5_goOn 10 = .ok (.invokevirtual 55, 3) := by decide +kernel
theorem dX5_goOn_13 : decode cX5_goOn 13 = .ok (.return_, 1) := by decide +kernel
theorem dX5_goOn_14 : decode cX5_goOn 14 = .ok (.iconst 0, 1) := by decide +kernel
theorem dX5_goOn_15 : decode cX5_goOn 15 = .ok (.istore_n 3, 1) := by decide +kernel
theorem dX5_goOn_16 : decode cX5_goOn 16 = .ok (.iload_n 3, 1) := by decide +kernel
theorem dX5_goOn_17 : decode cX5_goOn 17 = .ok (.aload_n 1, 1) := by decide +kernel
theorem dX5_goOn_18 : decode cX5_goOn 18 = .ok (.getfield 58, 3) := by decide +kernel
theorem dX5_goOn_21 : decode cX5_goOn 21 = .ok (.if_icmp .ge 16, 3) := by decide +kernel
theorem dX5_goOn_24 : decode cX5_goOn 24 = .ok (.aload_n 0, 1) := by decide +kernel
theorem dX5_goOn_25 : decode cX5_goOn 25 = .ok (.aload_n 1, 1) := by decide +kernel
theorem dX5_goOn_26 : decode cX5_goOn 26 = .ok (.iload_n 2, 1) := by decide +kernel
theorem dX5_goOn_27 : decode cX5_goOn 27 = .ok (.iload_n 3, 1) := by decide +kernel
theorem dX5_goOn_28 : decode cX5_goOn 28 = .ok (.invokevirtual 61, 3) := by decide +kernel
theorem dX5_goOn_31 : decode cX5_goOn 31 = .ok (.iinc 3 1, 3) := by decide +kernel
theorem dX5_goOn_34 : decode cX5_goOn 34 = .ok (.goto (-18), 3) := by decide +kernel
theorem dX5_goOn_37 : decode cX5_goOn 37 = .ok (.return_, 1) := by decide +kernel
theorem dX5_cheerAndGoOn_0 : decode cX5_cheerAndGoOn 0 = .ok (.aload_n 0, 1) := by decide +kernel
theorem dX5_cheerAndGoOn_1 : decode cX5_cheerAndGoOn 1 = .ok (.iload_n 2, 1) := by decide +kernel
theorem dX5_cheerAndGoOn_2 : decode cX5_cheerAndGoOn 2 = .ok (.iconst 1, 1) := by decide +kernel
theorem dX5_cheerAndGoOn_3 : decode cX5_cheerAndGoOn 3 = .ok (.iadd, 1) := by decide +kernel
theorem dX5_cheerAndGoOn_4 : decode cX5_cheerAndGoOn 4 = .ok (.invokevirtual 43, 3) := by decide +kernel
theorem dX5_cheerAndGoOn_7 : decode cX5_cheerAndGoOn 7 = .ok (.astore 4, 2) := by decide +kernel
theorem dX5_cheerAndGoOn_9 : decode cX5_cheerAndGoOn 9 = .ok (.aload 4, 2) := by decide +kernel
theorem dX5_cheerAndGoOn_11 : decode cX5_cheerAndGoOn 11 = .ok (.ifnonnull 4, 3) := by decide +kernel
theorem dX5_cheerAndGoOn_14 : decode cX5_cheerAndGoOn 14 = .ok (.return_, 1) := by decide +kernel
theorem dX5_cheerAndGoOn_15 : decode cX5_cheerAndGoOn 15 = .ok (.aload 4, 2) := by decide +kernel
theorem dX5_cheerAndGoOn_17 : decode cX5_cheerAndGoOn 17 = .ok (.aload_n 1, 1) := by decide +kernel
theorem dX5_cheerAndGoOn_18 : decode cX5_cheerAndGoOn 18 = .ok (.invokevirtual 47, 3) := by decide +kernel
theorem dX5_cheerAndGoOn_21 : decode cX5_cheerAndGoOn 21 = .ok (.aload 4, 2) := by decide +kernel
theorem dX5_cheerAndGoOn_23 : decode cX5_cheerAndGoOn 23 = .ok (.iload_n 3, 1) := by decide +kernel
theorem dX5_cheerAndGoOn_24 : decode cX5_cheerAndGoOn 24 = .ok (.invokevirtual 65, 3) := by decide +kernel
theorem dX5_cheerAndGoOn_27 : decode cX5_cheerAndGoOn 27 = .ok (.aload 4, 2) := by decide +kernel
theorem dX5_cheerAndGoOn_29 : decode cX5_cheerAndGoOn 29 = .ok (.invokevirtual 68, 3) := by decide +kernel
theorem dX5_cheerAndGoOn_32 : decode cX5_cheerAndGoOn 32 = .ok (.aload_n 0, 1) := by decide +kernel
theorem dX5_cheerAndGoOn_33 : decode cX5_cheerAndGoOn 33 = .ok (.getfield 23, 3) := by decide +kernel
theorem dX5_cheerAndGoOn_36 : decode cX5_cheerAndGoOn 36 = .ok (.iload_n 2, 1) := by decide +kernel
theorem dX5_cheerAndGoOn_37 : decode cX5_cheerAndGoOn 37 = .ok (.iload_n 3, 1) := by decide +kernel
theorem dX5_cheerAndGoOn_38 : decode cX5_cheerAndGoOn 38 = .ok (.invokevirtual 71, 3) := by decide +kernel
theorem dX5_cheerAndGoOn_41 : decode cX5_cheerAndGoOn 41 = .ok (.aload_n 0, 1) := by decide +kernel
theorem dX5_cheerAndGoOn_42 : decode cX5_cheerAndGoOn 42 = .ok (.aload 4, 2) := by decide +kernel
theorem dX5_cheerAndGoOn_44 : decode cX5_cheerAndGoOn 44 = .ok (.iload_n 2, 1) := by decide +kernel
theorem dX5_cheerAndGoOn_45 : decode cX5_cheerAndGoOn 45 = .ok (.iconst 1, 1) := by decide +kernel
theorem dX5_cheerAndGoOn_46 : decode cX5_cheerAndGoOn 46 = .ok (.iadd, 1) := by decide +kernel
theorem dX5_cheerAndGoOn_47 : decode cX5_cheerAndGoOn 47 = .ok (.invokevirtual 51, 3) := by decide +kernel
theorem dX5_cheerAndGoOn_50 : decode cX5_cheerAndGoOn 50 = .ok (.return_, 1) := by decide +kernel
theorem dX5_weigh_0 : decode cX5_weigh 0 = .ok (.aload_n 1, 1) := by decide +kernel
theorem dX5_weigh_1 : decode cX5_weigh 1 = .ok (.aload_n 0, 1) := by decide +kernel
theorem dX5_weigh_2 : decode cX5_weigh 2 = .ok (.getfield 34, 3) := by decide +kernel
theorem dX5_weigh_5 : decode cX5_weigh 5 = .ok (.invokevirtual 75, 3) := by decide +kernel
theorem dX5_weigh_8 : decode cX5_weigh 8 = .ok (.invokestatic 79, 3) := by decide +kernel
theorem dX5_weigh_11 : decode cX5_weigh 11 = .ok (.istore_n 2, 1) := by decide +kernel
theorem dX5_weigh_12 : decode cX5_weigh 12 = .ok (.aload_n 1, 1) := by decide +kernel
theorem dX5_weigh_13 : decode cX5_weigh 13 = .ok (.invokevirtual 84, 3) := by decide +kernel
theorem dX5_weigh_16 : decode cX5_weigh 16 = .ok (.istore_n 3, 1) := by decide +kernel
theorem dX5_weigh_17 : decode cX5_weigh 17 = .ok (.iload_n 2, 1) := by decide +kernel
theorem dX5_weigh_18 : decode cX5_weigh 18 = .ok (.aload_n 0, 1) := by decide +kernel
theorem dX5_weigh_19 : decode cX5_weigh 19 = .ok (.getfield 37, 3) := by decide +kernel
theorem dX5_weigh_22 : decode cX5_weigh 22 = .ok (.if_icmp .lt 19, 3) := by decide +kernel
theorem dX5_weigh_25 : decode cX5_weigh 25 = .ok (.iload_n 2, 1) := by decide +kernel
theorem dX5_weigh_26 : decode cX5_weigh 26 = .ok (.aload_n 0, 1) := by decide +kernel
theorem dX5_weigh_27 : decode cX5_weigh 27 = .ok (.getfield 37, 3) := by decide +kernel
theorem dX5_weigh_30 : decode cX5_weigh 30 = .ok (.if_icmp .ne 32, 3) := by decide +kernel
theorem dX5_weigh_33 : decode cX5_weigh 33 = .ok (.iload_n 3, 1) := by decide +kernel
theorem dX5_weigh_34 : decode cX5_weigh 34 = .ok (.aload_n 0, 1) := by decide +kernel
theorem dX5_weigh_35 : decode cX5_weigh 35 = .ok (.getfield 40, 3) := by decide +kernel
theorem dX5_weigh_38 : decode cX5_weigh 38 = .ok (.if_icmp .le 24, 3) := by decide +kernel
theorem dX5_weigh_41 : decode cX5_weigh 41 = .ok (.aload_n 0, 1) := by decide +kernel
theorem dX5_weigh_42 : decode cX5_weigh 42 = .ok (.iload_n 2, 1) := by decide +kernel
theorem dX5_weigh_43 : decode cX5_weigh 43 = .ok (.putfield 37, 3) := by decide +kernel
theorem dX5_weigh_46 : decode cX5_weigh 46 = .ok (.aload_n 0, 1) := by decide +kernel
theorem dX5_weigh_47 : decode cX5_weigh 47 = .ok (.iload_n 3, 1) := by decide +kernel
theorem dX5_weigh_48 : decode cX5_weigh 48 = .ok (.putfield 40, 3) := by decide +kernel
theorem dX5_weigh_51 : decode cX5_weigh 51 = .ok (.aload_n 0, 1) := by decide +kernel
theorem dX5_weigh_52 : decode cX5_weigh 52 = .ok (.getfield 27, 3) := by decide +kernel
theorem dX5_weigh_55 : decode cX5_weigh 55 = .ok (.aload_n 0, 1) := by decide +kernel
theorem dX5_weigh_56 : decode cX5_weigh 56 = .ok (.getfield 23, 3) := by decide +kernel
theorem dX5_weigh_59 : decode cX5_weigh 59 = .ok (.invokevirtual 88, 3) := by decide +kernel
theorem dX5_weigh_62 : decode cX5_weigh 62 = .ok (.return_, 1) := by decide +kernel
theorem dX5_stepAt_0 : decode cX5_stepAt 0 = .ok (.iload_n 1, 1) := by decide +kernel
theorem dX5_stepAt_1 : decode cX5_stepAt 1 = .ok (.ifCond .lt 21, 3) := by decide +kernel
theorem dX5_stepAt_4 : decode cX5_stepAt 4 = .ok (.iload_n 1, 1) := by decide +kernel
theorem dX5_stepAt_5 : decode cX5_stepAt 5 = .ok (.aload_n 0, 1) := by decide +kernel
theorem dX5_stepAt_6 : decode cX5_stepAt 6 = .ok (.getfield 11, 3) := by decide +kernel
theorem dX5_stepAt_9 : decode cX5_stepAt 9 = .ok (.arraylength, 1) := by decide +kernel
theorem dX5_stepAt_10 : decode cX5_stepAt 10 = .ok (.if_icmp .ge 12, 3) := by decide +kernel
theorem dX5_stepAt_13 : decode cX5_stepAt 13 = .ok (.aload_n 0, 1) := by decide +kernel
theorem dX5_stepAt_14 : decode cX5_stepAt 14 = .ok (.getfield 11, 3) := by decide +kernel
theorem dX5_stepAt_17 : decode cX5_stepAt 17 = .ok (.iload_n 1, 1) := by decide +kernel
theorem dX5_stepAt_18 : decode cX5_stepAt 18 = .ok (.aaload, 1) := by decide +kernel
theorem dX5_stepAt_19 : decode cX5_stepAt 19 = .ok (.goto 4, 3) := by decide +kernel
theorem dX5_stepAt_22 : decode cX5_stepAt 22 = .ok (.aconst_null, 1) := by decide +kernel
theorem dX5_stepAt_23 : decode cX5_stepAt 23 = .ok (.areturn, 1) := by decide +kernel
theorem dX6_init_0 : decode cX6_init 0 = .ok (.aload_n 0, 1) := by decide +kernel
theorem dX6_init_1 : decode cX6_init 1 = .ok (.invokespecial 1, 3) := by decide +kernel
theorem dX6_init_4 : decode cX6_init 4 = .ok (.aload_n 0, 1) := by decide +kernel
theorem dX6_init_5 : decode cX6_init 5 = .ok (.iload_n 1, 1) := by decide +kernel
theorem dX6_init_6 : decode cX6_init 6 = .ok (.ifCond .ge 7, 3) := by decide +kernel
theorem dX6_init_9 : decode cX6_init 9 = .ok (.iconst 0, 1) := by decide +kernel
theorem dX6_init_10 : decode cX6_init 10 = .ok (.goto 4, 3) := by decide +kernel
theorem dX6_init_13 : decode cX6_init 13 = .ok (.iload_n 1, 1) := by decide +kernel
theorem dX6_init_14 : decode cX6_init 14 = .ok (.newarray .int, 2) := by decide +kernel
theorem dX6_init_16 : decode cX6_init 16 = .ok (.putfield 7, 3) := by decide +kernel
theorem dX6_init_19 : decode cX6_init 19 = .ok (.return_, 1) := by decide +kernel
theorem dX6_at_0 : decode cX6_at 0 = .ok (.iload_n 1, 1) := by decide +kernel
theorem dX6_at_1 : decode cX6_at 1 = .ok (.ifCond .lt 21, 3) := by decide +kernel
theorem dX6_at_4 : decode cX6_at 4 = .ok (.iload_n 1, 1) := by decide +kernel
theorem dX6_at_5 : decode cX6_at 5 = .ok (.aload_n 0, 1) := by decide +kernel
theorem dX6_at_6 : decode cX6_at 6 = .ok (.getfield 7, 3) := by decide +kernel
theorem dX6_at_9 : decode cX6_at 9 = .ok (.arraylength, 1) := by decide +kernel
theorem dX6_at_10 : decode cX6_at 10 = .ok (.if_icmp .ge 12, 3) := by decide +kernel
theorem dX6_at_13 : decode cX6_at 13 = .ok (.aload_n 0, 1) := by decide +kernel
theorem dX6_at_14 : decode cX6_at 14 = .ok (.getfield 7, 3) := by decide +kernel
theorem dX6_at_17 : decode cX6_at 17 = .ok (.iload_n 1, 1) := by decide +kernel
theorem dX6_at_18 : decode cX6_at 18 = .ok (.iaload, 1) := by decide +kernel
theorem dX6_at_19 : decode cX6_at 19 = .ok (.goto 4, 3) := by decide +kernel
theorem dX6_at_22 : decode cX6_at 22 = .ok (.iconst 0, 1) := by decide +kernel
theorem dX6_at_23 : decode cX6_at 23 = .ok (.ireturn, 1) := by decide +kernel
theorem dX6_put_0 : decode cX6_put 0 = .ok (.iload_n 1, 1) := by decide +kernel
theorem dX6_put_1 : decode cX6_put 1 = .ok (.ifCond .lt 19, 3) := by decide +kernel
theorem dX6_put_4 : decode cX6_put 4 = .ok (.iload_n 1, 1) := by decide +kernel
theorem dX6_put_5 : decode cX6_put 5 = .ok (.aload_n 0, 1) := by decide +kernel
theorem dX6_put_6 : decode cX6_put 6 = .ok (.getfield 7, 3) := by decide +kernel
theorem dX6_put_9 : decode cX6_put 9 = .ok (.arraylength, 1) := by decide +kernel
theorem dX6_put_10 : decode cX6_put 10 = .ok (.if_icmp .ge 10, 3) := by decide +kernel
theorem dX6_put_13 : decode cX6_put 13 = .ok (.aload_n 0, 1) := by decide +kernel
theorem dX6_put_14 : decode cX6_put 14 = .ok (.getfield 7, 3) := by decide +kernel
theorem dX6_put_17 : decode cX6_put 17 = .ok (.iload_n 1, 1) := by decide +kernel
theorem dX6_put_18 : decode cX6_put 18 = .ok (.iload_n 2, 1) := by decide +kernel
theorem dX6_put_19 : decode cX6_put 19 = .ok (.iastore, 1) := by decide +kernel
theorem dX6_put_20 : decode cX6_put 20 = .ok (.return_, 1) := by decide +kernel
theorem dX6_fill_0 : decode cX6_fill 0 = .ok (.iconst 0, 1) := by decide +kernel
theorem dX6_fill_1 : decode cX6_fill 1 = .ok (.istore_n 2, 1) := by decide +kernel
theorem dX6_fill_2 : decode cX6_fill 2 = .ok (.iload_n 2, 1) := by decide +kernel
theorem dX6_fill_3 : decode cX6_fill 3 = .ok (.aload_n 0, 1) := by decide +kernel
theorem dX6_fill_4 : decode cX6_fill 4 = .ok (.getfield 7, 3) := by decide +kernel
theorem dX6_fill_7 : decode cX6_fill 7 = .ok (.arraylength, 1) := by decide +kernel
theorem dX6_fill_8 : decode cX6_fill 8 = .ok (.if_icmp .ge 16, 3) := by decide +kernel
theorem dX6_fill_11 : decode cX6_fill 11 = .ok (.aload_n 0, 1) := by decide +kernel
theorem dX6_fill_12 : decode cX6_fill 12 = .ok (.getfield 7, 3) := by decide +kernel
theorem dX6_fill_15 : decode cX6_fill 15 = .ok (.iload_n 2, 1) := by decide +kernel
theorem dX6_fill_16 : decode cX6_fill 16 = .ok (.iload_n 1, 1) := by decide +kernel
theorem dX6_fill_17 : decode cX6_fill 17 = .ok (.iastore, 1) := by decide +kernel
theorem dX6_fill_18 : decode cX6_fill 18 = .ok (.iinc 2 1, 3) := by decide +kernel
theorem dX6_fill_21 : decode cX6_fill 21 = .ok (.goto (-19), 3) := by decide +kernel
theorem dX6_fill_24 : decode cX6_fill 24 = .ok (.return_, 1) := by decide +kernel
theorem dX6_take_0 : decode cX6_take 0 = .ok (.iconst 0, 1) := by decide +kernel
theorem dX6_take_1 : decode cX6_take 1 = .ok (.istore_n 2, 1) := by decide +kernel
theorem dX6_take_2 : decode cX6_take 2 = .ok (.iload_n 2, 1) := by decide +kernel
theorem dX6_take_3 : decode cX6_take 3 = .ok (.aload_n 0, 1) := by decide +kernel
theorem dX6_take_4 : decode cX6_take 4 = .ok (.getfield 7, 3) := by decide +kernel
theorem dX6_take_7 : decode cX6_take 7 = .ok (.arraylength, 1) := by decide +kernel
theorem dX6_take_8 : decode cX6_take 8 = .ok (.if_icmp .ge 30, 3) := by decide +kernel
theorem dX6_take_11 : decode cX6_take 11 = .ok (.iload_n 2, 1) := by decide +kernel
theorem dX6_take_12 : decode cX6_take 12 = .ok (.aload_n 1, 1) := by decide +kernel
theorem dX6_take_13 : decode cX6_take 13 = .ok (.getfield 7, 3) := by decide +kernel
theorem dX6_take_16 : decode cX6_take 16 = .ok (.arraylength, 1) := by decide +kernel
theorem dX6_take_17 : decode cX6_take 17 = .ok (.if_icmp .ge 21, 3) := by decide +kernel
theorem dX6_take_20 : decode cX6_take 20 = .ok (.aload_n 0, 1) := by decide +kernel
theorem dX6_take_21 : decode cX6_take 21 = .ok (.getfield 7, 3) := by decide +kernel
theorem dX6_take_24 : decode cX6_take 24 = .ok (.iload_n 2, 1) := by decide +kernel
theorem dX6_take_25 : decode cX6_take 25 = .ok (.aload_n 1, 1) := by decide +kernel
theorem dX6_take_26 : decode cX6_take 26 = .ok (.getfield 7, 3) := by decide +kernel
theorem dX6_take_29 : decode cX6_take 29 = .ok (.iload_n 2, 1) := by decide +kernel
theorem dX6_take_30 : decode cX6_take 30 = .ok (.iaload, 1) := by decide +kernel
theorem dX6_take_31 : decode cX6_take 31 = .ok (.iastore, 1) := by decide +kernel
theorem dX6_take_32 : decode cX6_take 32 = .ok (.iinc 2 1, 3) := by decide +kernel
theorem dX6_take_35 : decode cX6_take 35 = .ok (.goto (-33), 3) := by decide +kernel
theorem dX6_take_38 : decode cX6_take 38 = .ok (.return_, 1) := by decide +kernel
theorem dX6_sumOfFirst_0 : decode cX6_sumOfFirst 0 = .ok (.iconst 0, 1) := by decide +kernel
theorem dX6_sumOfFirst_1 : decode cX6_sumOfFirst 1 = .ok (.istore_n 2, 1) := by decide +kernel
theorem dX6_sumOfFirst_2 : decode cX6_sumOfFirst 2 = .ok (.iconst 0, 1) := by decide +kernel
theorem dX6_sumOfFirst_3 : decode cX6_sumOfFirst 3 = .ok (.istore_n 3, 1) := by decide +kernel
theorem dX6_sumOfFirst_4 : decode cX6_sumOfFirst 4 = .ok (.iload_n 3, 1) := by decide +kernel
theorem dX6_sumOfFirst_5 : decode cX6_sumOfFirst 5 = .ok (.iload_n 1, 1) := by decide +kernel
theorem dX6_sumOfFirst_6 : decode cX6_sumOfFirst 6 = .ok (.if_icmp .ge 27, 3) := by decide +kernel
theorem dX6_sumOfFirst_9 : decode cX6_sumOfFirst 9 = .ok (.iload_n 3, 1) := by decide +kernel
theorem dX6_sumOfFirst_10 : decode cX6_sumOfFirst 10 = .ok (.aload_n 0, 1) := by decide +kernel
theorem dX6_sumOfFirst_11 : decode cX6_sumOfFirst 11 = .ok (.getfield 7, 3) := by decide +kernel
theorem dX6_sumOfFirst_14 : decode cX6_sumOfFirst 14 = .ok (.arraylength, 1) := by decide +kernel
theorem dX6_sumOfFirst_15 : decode cX6_sumOfFirst 15 = .ok (.if_icmp .ge 18, 3) := by decide +kernel
theorem dX6_sumOfFirst_18 : decode cX6_sumOfFirst 18 = .ok (.iload_n 2, 1) := by decide +kernel
theorem dX6_sumOfFirst_19 : decode cX6_sumOfFirst 19 = .ok (.aload_n 0, 1) := by decide +kernel
theorem dX6_sumOfFirst_20 : decode cX6_sumOfFirst 20 = .ok (.getfield 7, 3) := by decide +kernel
theorem dX6_sumOfFirst_23 : decode cX6_sumOfFirst 23 = .ok (.iload_n 3, 1) := by decide +kernel
theorem dX6_sumOfFirst_24 : decode cX6_sumOfFirst 24 = .ok (.iaload, 1) := by decide +kernel
theorem dX6_sumOfFirst_25 : decode cX6_sumOfFirst 25 = .ok (.iadd, 1) := by decide +kernel
theorem dX6_sumOfFirst_26 : decode cX6_sumOfFirst 26 = .ok (.istore_n 2, 1) := by decide +kernel
theorem dX6_sumOfFirst_27 : decode cX6_sumOfFirst 27 = .ok (.iinc 3 1, 3) := by decide +kernel
theorem dX6_sumOfFirst_30 : decode cX6_sumOfFirst 30 = .ok (.goto (-26), 3) := by decide +kernel
theorem dX6_sumOfFirst_33 : decode cX6_sumOfFirst 33 = .ok (.iload_n 2, 1) := by decide +kernel
theorem dX6_sumOfFirst_34 : decode cX6_sumOfFirst 34 = .ok (.ireturn, 1) := by decide +kernel
theorem dX7_init_0 : decode cX7_init 0 = .ok (.aload_n 0, 1) := by decide +kernel
theorem dX7_init_1 : decode cX7_init 1 = .ok (.invokespecial 3, 3) := by decide +kernel
theorem dX7_init_4 : decode cX7_init 4 = .ok (.aload_n 0, 1) := by decide +kernel
theorem dX7_init_5 : decode cX7_init 5 = .ok (.new 9, 3) := by decide +kernel
theorem dX7_init_8 : decode cX7_init 8 = .ok (.dup, 1) := by decide +kernel
theorem dX7_init_9 : decode cX7_init 9 = .ok (.bipush 100, 2) := by decide +kernel
theorem dX7_init_11 : decode cX7_init 11 = .ok (.invokespecial 13, 3) := by decide +kernel
theorem dX7_init_14 : decode cX7_init 14 = .ok (.putfield 16, 3) := by decide +kernel
theorem dX7_init_17 : decode cX7_init 17 = .ok (.aload_n 0, 1) := by decide +kernel
theorem dX7_init_18 : decode cX7_init 18 = .ok (.new 9, 3) := by decide +kernel
theorem dX7_init_21 : decode cX7_init 21 = .ok (.dup, 1) := by decide +kernel
theorem dX7_init_22 : decode cX7_init 22 = .ok (.bipush 21, 2) := by decide +kernel
theorem dX7_init_24 : decode cX7_init 24 = .ok (.invokespecial 13, 3) := by decide +kernel
theorem dX7_init_27 : decode cX7_init 27 = .ok (.putfield 20, 3) := by decide +kernel
theorem dX7_init_30 : decode cX7_init 30 = .ok (.return_, 1) := by decide +kernel
theorem dX7_worriesLeft_0 : decode cX7_worriesLeft 0 = .ok (.aload_n 0, 1) := by decide +kernel
theorem dX7_worriesLeft_1 : decode cX7_worriesLeft 1 = .ok (.aload_n 1, 1) := by decide +kernel
theorem dX7_worriesLeft_2 : decode cX7_worriesLeft 2 = .ok (.iload_n 3, 1) := by decide +kernel
theorem dX7_worriesLeft_3 : decode cX7_worriesLeft 3 = .ok (.invokevirtual 23, 3) := by decide +kernel
theorem dX7_worriesLeft_6 : decode cX7_worriesLeft 6 = .ok (.iconst 0, 1) := by decide +kernel
theorem dX7_worriesLeft_7 : decode cX7_worriesLeft 7 = .ok (.istore 4, 2) := by decide +kernel
theorem dX7_worriesLeft_9 : decode cX7_worriesLeft 9 = .ok (.iconst 0, 1) := by decide +kernel
theorem dX7_worriesLeft_10 : decode cX7_worriesLeft 10 = .ok (.istore 5, 2) := by decide +kernel
theorem dX7_worriesLeft_12 : decode cX7_worriesLeft 12 = .ok (.iload 5, 2) := by decide +kernel
theorem dX7_worriesLeft_14 : decode cX7_worriesLeft 14 = .ok (.bipush 10, 2) := by decide +kernel
theorem dX7_worriesLeft_16 : decode cX7_worriesLeft 16 = .ok (.if_icmp .ge 29, 3) := by decide +kernel
theorem dX7_worriesLeft_19 : decode cX7_worriesLeft 19 = .ok (.aload_n 0, 1) := by decide +kernel
theorem dX7_worriesLeft_20 : decode cX7_worriesLeft 20 = .ok (.aload_n 2, 1) := by decide +kernel
theorem dX7_worriesLeft_21 : decode cX7_worriesLeft 21 = .ok (.iload_n 3, 1) := by decide +kernel
theorem dX7_worriesLeft_22 : decode cX7_worriesLeft 22 = .ok (.iload 5, 2) := by decide +kernel
theorem dX7_worriesLeft_24 : decode cX7_worriesLeft 24 = .ok (.invokevirtual 27, 3) := by decide +kernel
theorem dX7_worriesLeft_27 : decode cX7_worriesLeft 27 = .ok (.ifCond .eq 12, 3) := by decide +kernel
theorem dX7_worriesLeft_30 : decode cX7_worriesLeft 30 = .ok (.iload 4, 2) := by decide +kernel
theorem dX7_worriesLeft_32 : decode cX7_worriesLeft 32 = .ok (.iconst 1, 1) := by decide +kernel
theorem dX7_worriesLeft_33 : decode cX7_worriesLeft 33 = .ok (.iload 5, 2) := by decide +kernel
theorem dX7_worriesLeft_35 : decode cX7_worriesLeft 35 = .ok (.ishl, 1) := by decide +kernel
theorem dX7_worriesLeft_36 : decode cX7_worriesLeft 36 = .ok (.ior, 1) := by decide +kernel
theorem dX7_worriesLeft_37 : decode cX7_worriesLeft 37 = .ok (.istore 4, 2) := by decide +kernel
theorem dX7_worriesLeft_39 : decode cX7_worriesLeft 39 = .ok (.iinc 5 1, 3) := by decide +kernel
theorem dX7_worriesLeft_42 : decode cX7_worriesLeft 42 = .ok (.goto (-30), 3) := by decide +kernel
theorem dX7_worriesLeft_45 : decode cX7_worriesLeft 45 = .ok (.iload 4, 2) := by decide +kernel
theorem dX7_worriesLeft_47 : decode cX7_worriesLeft 47 = .ok (.ireturn, 1) := by decide +kernel
theorem dX7_whenToLook_0 : decode cX7_whenToLook 0 = .ok (.aload_n 0, 1) := by decide +kernel
theorem dX7_whenToLook_1 : decode cX7_whenToLook 1 = .ok (.aload_n 1, 1) := by decide +kernel
theorem dX7_whenToLook_2 : decode cX7_whenToLook 2 = .ok (.aload_n 2, 1) := by decide +kernel
theorem dX7_whenToLook_3 : decode cX7_whenToLook 3 = .ok (.iload_n 3, 1) := by decide +kernel
theorem dX7_whenToLook_4 : decode cX7_whenToLook 4 = .ok (.invokevirtual 31, 3) := by decide +kernel
theorem dX7_whenToLook_7 : decode cX7_whenToLook 7 = .ok (.istore 4, 2) := by decide +kernel
end
section
theorem dX7_whenToLook_9 : decode cX7_whenToLook 9 = .ok (.bipush 11, 2) := by decide +kernel
theorem dX7_whenToLook_11 : decode cX7_whenToLook 11 = .ok (.istore 5, 2) := by decide +kernel
theorem dX7_whenToLook_13 : decode cX7_whenToLook 13 = .ok (.iconst (-1), 1) := by decide +kernel
theorem dX7_whenToLook_14 : decode cX7_whenToLook 14 = .ok (.istore 6, 2) := by decide +kernel
theorem dX7_whenToLook_16 : decode cX7_whenToLook 16 = .ok (.iconst 1, 1) := by decide +kernel
theorem dX7_whenToLook_17 : decode cX7_whenToLook 17 = .ok (.istore 7, 2) := by decide +kernel
theorem dX7_whenToLook_19 : decode cX7_whenToLook 19 = .ok (.iload 7, 2) := by decide +kernel
theorem dX7_whenToLook_21 : decode cX7_whenToLook 21 = .ok (.bipush 9, 2) := by decide +kernel
theorem dX7_whenToLook_23 : decode cX7_whenToLook 23 = .ok (.if_icmp .gt 39, 3) := by decide +kernel
theorem dX7_whenToLook_26 : decode cX7_whenToLook 26 = .ok (.iload 4, 2) := by decide +kernel
theorem dX7_whenToLook_28 : decode cX7_whenToLook 28 = .ok (.ifCond .eq 34, 3) := by decide +kernel
theorem dX7_whenToLook_31 : decode cX7_whenToLook 31 = .ok (.aload_n 0, 1) := by decide +kernel
theorem dX7_whenToLook_32 : decode cX7_whenToLook 32 = .ok (.iload 4, 2) := by decide +kernel
theorem dX7_whenToLook_34 : decode cX7_whenToLook 34 = .ok (.iload 7, 2) := by decide +kernel
theorem dX7_whenToLook_36 : decode cX7_whenToLook 36 = .ok (.invokevirtual 35, 3) := by decide +kernel
theorem dX7_whenToLook_39 : decode cX7_whenToLook 39 = .ok (.istore 8, 2) := by decide +kernel
theorem dX7_whenToLook_41 : decode cX7_whenToLook 41 = .ok (.iload 8, 2) := by decide +kernel
theorem dX7_whenToLook_43 : decode cX7_whenToLook 43 = .ok (.iload 5, 2) := by decide +kernel
theorem dX7_whenToLook_45 : decode cX7_whenToLook 45 = .ok (.if_icmp .ge 11, 3) := by decide +kernel
theorem dX7_whenToLook_48 : decode cX7_whenToLook 48 = .ok (.iload 8, 2) := by decide +kernel
theorem dX7_whenToLook_50 : decode cX7_whenToLook 50 = .ok (.istore 5, 2) := by decide +kernel
theorem dX7_whenToLook_52 : decode cX7_whenToLook 52 = .ok (.iload 7, 2) := by decide +kernel
theorem dX7_whenToLook_54 : decode cX7_whenToLook 54 = .ok (.istore 6, 2) := by decide +kernel
theorem dX7_whenToLook_56 : decode cX7_whenToLook 56 = .ok (.iinc 7 1, 3) := by decide +kernel
theorem dX7_whenToLook_59 : decode cX7_whenToLook 59 = .ok (.goto (-40), 3) := by decide +kernel
theorem dX7_whenToLook_62 : decode cX7_whenToLook 62 = .ok (.iload 6, 2) := by decide +kernel
theorem dX7_whenToLook_64 : decode cX7_whenToLook 64 = .ok (.ireturn, 1) := by decide +kernel
theorem dX7_foresee_0 : decode cX7_foresee 0 = .ok (.aload_n 1, 1) := by decide +kernel
theorem dX7_foresee_1 : decode cX7_foresee 1 = .ok (.getfield 39, 3) := by decide +kernel
theorem dX7_foresee_4 : decode cX7_foresee 4 = .ok (.iload_n 2, 1) := by decide +kernel
theorem dX7_foresee_5 : decode cX7_foresee 5 = .ok (.invokevirtual 44, 3) := by decide +kernel
theorem dX7_foresee_8 : decode cX7_foresee 8 = .ok (.istore_n 3, 1) := by decide +kernel
theorem dX7_foresee_9 : decode cX7_foresee 9 = .ok (.iconst 0, 1) := by decide +kernel
theorem dX7_foresee_10 : decode cX7_foresee 10 = .ok (.istore 4, 2) := by decide +kernel
theorem dX7_foresee_12 : decode cX7_foresee 12 = .ok (.iload 4, 2) := by decide +kernel
theorem dX7_foresee_14 : decode cX7_foresee 14 = .ok (.bipush 10, 2) := by decide +kernel
theorem dX7_foresee_16 : decode cX7_foresee 16 = .ok (.if_icmp .ge 84, 3) := by decide +kernel
theorem dX7_foresee_19 : decode cX7_foresee 19 = .ok (.aload_n 1, 1) := by decide +kernel
theorem dX7_foresee_20 : decode cX7_foresee 20 = .ok (.getfield 48, 3) := by decide +kernel
theorem dX7_foresee_23 : decode cX7_foresee 23 = .ok (.iload_n 2, 1) := by decide +kernel
theorem dX7_foresee_24 : decode cX7_foresee 24 = .ok (.invokevirtual 44, 3) := by decide +kernel
theorem dX7_foresee_27 : decode cX7_foresee 27 = .ok (.istore 5, 2) := by decide +kernel
theorem dX7_foresee_29 : decode cX7_foresee 29 = .ok (.aload_n 1, 1) := by decide +kernel
theorem dX7_foresee_30 : decode cX7_foresee 30 = .ok (.getfield 51, 3) := by decide +kernel
theorem dX7_foresee_33 : decode cX7_foresee 33 = .ok (.iload_n 2, 1) := by decide +kernel
theorem dX7_foresee_34 : decode cX7_foresee 34 = .ok (.invokevirtual 44, 3) := by decide +kernel
theorem dX7_foresee_37 : decode cX7_foresee 37 = .ok (.istore 6, 2) := by decide +kernel
theorem dX7_foresee_39 : decode cX7_foresee 39 = .ok (.iconst 1, 1) := by decide +kernel
theorem dX7_foresee_40 : decode cX7_foresee 40 = .ok (.istore 7, 2) := by decide +kernel
theorem dX7_foresee_42 : decode cX7_foresee 42 = .ok (.iload 7, 2) := by decide +kernel
theorem dX7_foresee_44 : decode cX7_foresee 44 = .ok (.bipush 9, 2) := by decide +kernel
theorem dX7_foresee_46 : decode cX7_foresee 46 = .ok (.if_icmp .gt 48, 3) := by decide +kernel
theorem dX7_foresee_49 : decode cX7_foresee 49 = .ok (.iload_n 3, 1) := by decide +kernel
theorem dX7_foresee_50 : decode cX7_foresee 50 = .ok (.iload 5, 2) := by decide +kernel
theorem dX7_foresee_52 : decode cX7_foresee 52 = .ok (.iload 4, 2) := by decide +kernel
theorem dX7_foresee_54 : decode cX7_foresee 54 = .ok (.iload 6, 2) := by decide +kernel
theorem dX7_foresee_56 : decode cX7_foresee 56 = .ok (.aload_n 1, 1) := by decide +kernel
theorem dX7_foresee_57 : decode cX7_foresee 57 = .ok (.getfield 54, 3) := by decide +kernel
theorem dX7_foresee_60 : decode cX7_foresee 60 = .ok (.iload 7, 2) := by decide +kernel
theorem dX7_foresee_62 : decode cX7_foresee 62 = .ok (.iadd, 1) := by decide +kernel
theorem dX7_foresee_63 : decode cX7_foresee 63 = .ok (.invokestatic 58, 3) := by decide +kernel
theorem dX7_foresee_66 : decode cX7_foresee 66 = .ok (.istore 5, 2) := by decide +kernel
theorem dX7_foresee_68 : decode cX7_foresee 68 = .ok (.iconst 0, 1) := by decide +kernel
theorem dX7_foresee_69 : decode cX7_foresee 69 = .ok (.istore 6, 2) := by decide +kernel
theorem dX7_foresee_71 : decode cX7_foresee 71 = .ok (.aload_n 0, 1) := by decide +kernel
theorem dX7_foresee_72 : decode cX7_foresee 72 = .ok (.getfield 16, 3) := by decide +kernel
theorem dX7_foresee_75 : decode cX7_foresee 75 = .ok (.bipush 10, 2) := by decide +kernel
theorem dX7_foresee_77 : decode cX7_foresee 77 = .ok (.iload 7, 2) := by decide +kernel
theorem dX7_foresee_79 : decode cX7_foresee 79 = .ok (.imul, 1) := by decide +kernel
theorem dX7_foresee_80 : decode cX7_foresee 80 = .ok (.iload 4, 2) := by decide +kernel
theorem dX7_foresee_82 : decode cX7_foresee 82 = .ok (.iadd, 1) := by decide +kernel
theorem dX7_foresee_83 : decode cX7_foresee 83 = .ok (.iload 5, 2) := by decide +kernel
theorem dX7_foresee_85 : decode cX7_foresee 85 = .ok (.invokevirtual 62, 3) := by decide +kernel
theorem dX7_foresee_88 : decode cX7_foresee 88 = .ok (.iinc 7 1, 3) := by decide +kernel
theorem dX7_foresee_91 : decode cX7_foresee 91 = .ok (.goto (-49), 3) := by decide +kernel
theorem dX7_foresee_94 : decode cX7_foresee 94 = .ok (.iinc 4 1, 3) := by decide +kernel
theorem dX7_foresee_97 : decode cX7_foresee 97 = .ok (.goto (-85), 3) := by decide +kernel
theorem dX7_foresee_100 : decode cX7_foresee 100 = .ok (.return_, 1) := by decide +kernel
theorem dX7_fits_0 : decode cX7_fits 0 = .ok (.iconst 0, 1) := by decide +kernel
theorem dX7_fits_1 : decode cX7_fits 1 = .ok (.istore 4, 2) := by decide +kernel
theorem dX7_fits_3 : decode cX7_fits 3 = .ok (.iload 4, 2) := by decide +kernel
theorem dX7_fits_5 : decode cX7_fits 5 = .ok (.aload_n 1, 1) := by decide +kernel
theorem dX7_fits_6 : decode cX7_fits 6 = .ok (.getfield 66, 3) := by decide +kernel
theorem dX7_fits_9 : decode cX7_fits 9 = .ok (.if_icmp .ge 61, 3) := by decide +kernel
theorem dX7_fits_12 : decode cX7_fits 12 = .ok (.aload_n 0, 1) := by decide +kernel
theorem dX7_fits_13 : decode cX7_fits 13 = .ok (.getfield 16, 3) := by decide +kernel
theorem dX7_fits_16 : decode cX7_fits 16 = .ok (.bipush 10, 2) := by decide +kernel
theorem dX7_fits_18 : decode cX7_fits 18 = .ok (.aload_n 1, 1) := by decide +kernel
theorem dX7_fits_19 : decode cX7_fits 19 = .ok (.getfield 71, 3) := by decide +kernel
theorem dX7_fits_22 : decode cX7_fits 22 = .ok (.iload 4, 2) := by decide +kernel
theorem dX7_fits_24 : decode cX7_fits 24 = .ok (.invokevirtual 44, 3) := by decide +kernel
theorem dX7_fits_27 : decode cX7_fits 27 = .ok (.imul, 1) := by decide +kernel
theorem dX7_fits_28 : decode cX7_fits 28 = .ok (.iload_n 3, 1) := by decide +kernel
theorem dX7_fits_29 : decode cX7_fits 29 = .ok (.iadd, 1) := by decide +kernel
theorem dX7_fits_30 : decode cX7_fits 30 = .ok (.invokevirtual 44, 3) := by decide +kernel
theorem dX7_fits_33 : decode cX7_fits 33 = .ok (.istore 5, 2) := by decide +kernel
theorem dX7_fits_35 : decode cX7_fits 35 = .ok (.aload_n 1, 1) := by decide +kernel
theorem dX7_fits_36 : decode cX7_fits 36 = .ok (.getfield 74, 3) := by decide +kernel
theorem dX7_fits_39 : decode cX7_fits 39 = .ok (.iload 4, 2) := by decide +kernel
theorem dX7_fits_41 : decode cX7_fits 41 = .ok (.invokevirtual 44, 3) := by decide +kernel
theorem dX7_fits_44 : decode cX7_fits 44 = .ok (.iload_n 2, 1) := by decide +kernel
theorem dX7_fits_45 : decode cX7_fits 45 = .ok (.if_icmp .ne 19, 3) := by decide +kernel
theorem dX7_fits_48 : decode cX7_fits 48 = .ok (.aload_n 1, 1) := by decide +kernel
theorem dX7_fits_49 : decode cX7_fits 49 = .ok (.getfield 77, 3) := by decide +kernel
theorem dX7_fits_52 : decode cX7_fits 52 = .ok (.iload 4, 2) := by decide +kernel
theorem dX7_fits_54 : decode cX7_fits 54 = .ok (.invokevirtual 44, 3) := by decide +kernel
theorem dX7_fits_57 : decode cX7_fits 57 = .ok (.iload 5, 2) := by decide +kernel
theorem dX7_fits_59 : decode cX7_fits 59 = .ok (.if_icmp .eq 5, 3) := by decide +kernel
theorem dX7_fits_62 : decode cX7_fits 62 = .ok (.iconst 0, 1) := by decide +kernel
theorem dX7_fits_63 : decode cX7_fits 63 = .ok (.ireturn, 1) := by decide +kernel
theorem dX7_fits_64 : decode cX7_fits 64 = .ok (.iinc 4 1, 3) := by decide +kernel
theorem dX7_fits_67 : decode cX7_fits 67 = .ok (.goto (-64), 3) := by decide +kernel
theorem dX7_fits_70 : decode cX7_fits 70 = .ok (.iconst 1, 1) := by decide +kernel
theorem dX7_fits_71 : decode cX7_fits 71 = .ok (.ireturn, 1) := by decide +kernel
theorem dX7_mostLeft_0 : decode cX7_mostLeft 0 = .ok (.aload_n 0, 1) := by decide +kernel
theorem dX7_mostLeft_1 : decode cX7_mostLeft 1 = .ok (.getfield 20, 3) := by decide +kernel
theorem dX7_mostLeft_4 : decode cX7_mostLeft 4 = .ok (.iconst 0, 1) := by decide +kernel
theorem dX7_mostLeft_5 : decode cX7_mostLeft 5 = .ok (.invokevirtual 78, 3) := by decide +kernel
theorem dX7_mostLeft_8 : decode cX7_mostLeft 8 = .ok (.iconst 0, 1) := by decide +kernel
theorem dX7_mostLeft_9 : decode cX7_mostLeft 9 = .ok (.istore_n 3, 1) := by decide +kernel
theorem dX7_mostLeft_10 : decode cX7_mostLeft 10 = .ok (.iconst 0, 1) := by decide +kernel
theorem dX7_mostLeft_11 : decode cX7_mostLeft 11 = .ok (.istore 4, 2) := by decide +kernel
theorem dX7_mostLeft_13 : decode cX7_mostLeft 13 = .ok (.iload 4, 2) := by decide +kernel
theorem dX7_mostLeft_15 : decode cX7_mostLeft 15 = .ok (.bipush 10, 2) := by decide +kernel
theorem dX7_mostLeft_17 : decode cX7_mostLeft 17 = .ok (.if_icmp .ge 69, 3) := by decide +kernel
theorem dX7_mostLeft_20 : decode cX7_mostLeft 20 = .ok (.iload_n 1, 1) := by decide +kernel
theorem dX7_mostLeft_21 : decode cX7_mostLeft 21 = .ok (.iload 4, 2) := by decide +kernel
theorem dX7_mostLeft_23 : decode cX7_mostLeft 23 = .ok (.ishr, 1) := by decide +kernel
theorem dX7_mostLeft_24 : decode cX7_mostLeft 24 = .ok (.iconst 1, 1) := by decide +kernel
theorem dX7_mostLeft_25 : decode cX7_mostLeft 25 = .ok (.iand, 1) := by decide +kernel
theorem dX7_mostLeft_26 : decode cX7_mostLeft 26 = .ok (.iconst 1, 1) := by decide +kernel
theorem dX7_mostLeft_27 : decode cX7_mostLeft 27 = .ok (.if_icmp .ne 53, 3) := by decide +kernel
theorem dX7_mostLeft_30 : decode cX7_mostLeft 30 = .ok (.aload_n 0, 1) := by decide +kernel
theorem dX7_mostLeft_31 : decode cX7_mostLeft 31 = .ok (.getfield 16, 3) := by decide +kernel
theorem dX7_mostLeft_34 : decode cX7_mostLeft 34 = .ok (.bipush 10, 2) := by decide +kernel
theorem dX7_mostLeft_36 : decode cX7_mostLeft 36 = .ok (.iload_n 2, 1) := by decide +kernel
theorem dX7_mostLeft_37 : decode cX7_mostLeft 37 = .ok (.imul, 1) := by decide +kernel
theorem dX7_mostLeft_38 : decode cX7_mostLeft 38 = .ok (.iload 4, 2) := by decide +kernel
theorem dX7_mostLeft_40 : decode cX7_mostLeft 40 = .ok (.iadd, 1) := by decide +kernel
theorem dX7_mostLeft_41 : decode cX7_mostLeft 41 = .ok (.invokevirtual 44, 3) := by decide +kernel
theorem dX7_mostLeft_44 : decode cX7_mostLeft 44 = .ok (.istore 5, 2) := by decide +kernel
theorem dX7_mostLeft_46 : decode cX7_mostLeft 46 = .ok (.aload_n 0, 1) := by decide +kernel
theorem dX7_mostLeft_47 : decode cX7_mostLeft 47 = .ok (.getfield 20, 3) := by decide +kernel
theorem dX7_mostLeft_50 : decode cX7_mostLeft 50 = .ok (.iload 5, 2) := by decide +kernel
theorem dX7_mostLeft_52 : decode cX7_mostLeft 52 = .ok (.aload_n 0, 1) := by decide +kernel
theorem dX7_mostLeft_53 : decode cX7_mostLeft 53 = .ok (.getfield 20, 3) := by decide +kernel
theorem dX7_mostLeft_56 : decode cX7_mostLeft 56 = .ok (.iload 5, 2) := by decide +kernel
theorem dX7_mostLeft_58 : decode cX7_mostLeft 58 = .ok (.invokevirtual 44, 3) := by decide +kernel
theorem dX7_mostLeft_61 : decode cX7_mostLeft 61 = .ok (.iconst 1, 1) := by decide +kernel
theorem dX7_mostLeft_62 : decode cX7_mostLeft 62 = .ok (.iadd, 1) := by decide +kernel
theorem dX7_mostLeft_63 : decode cX7_mostLeft 63 = .ok (.invokevirtual 62, 3) := by decide +kernel
theorem dX7_mostLeft_66 : decode cX7_mostLeft 66 = .ok (.iload_n 3, 1) := by decide +kernel
theorem dX7_mostLeft_67 : decode cX7_mostLeft 67 = .ok (.aload_n 0, 1) := by decide +kernel
theorem dX7_mostLeft_68 : decode cX7_mostLeft 68 = .ok (.getfield 20, 3) := by decide +kernel
theorem dX7_mostLeft_71 : decode cX7_mostLeft 71 = .ok (.iload 5, 2) := by decide +kernel
theorem dX7_mostLeft_73 : decode cX7_mostLeft 73 = .ok (.invokevirtual 44, 3) := by decide +kernel
theorem dX7_mostLeft_76 : decode cX7_mostLeft 76 = .ok (.invokestatic 81, 3) := by decide +kernel
theorem dX7_mostLeft_79 : decode cX7_mostLeft 79 = .ok (.istore_n 3, 1) := by decide +kernel
theorem dX7_mostLeft_80 : decode cX7_mostLeft 80 = .ok (.iinc 4 1, 3) := by decide +kernel
theorem dX7_mostLeft_83 : decode cX7_mostLeft 83 = .ok (.goto (-70), 3) := by decide +kernel
theorem dX7_mostLeft_86 : decode cX7_mostLeft 86 = .ok (.iload_n 3, 1) := by decide +kernel
theorem dX7_mostLeft_87 : decode cX7_mostLeft 87 = .ok (.ireturn, 1) := by decide +kernel
theorem dX8_init_0 : decode cX8_init 0 = .ok (.aload_n 0, 1) := by decide +kernel
theorem dX8_init_1 : decode cX8_init 1 = .ok (.invokespecial 3, 3) := by decide +kernel
theorem dX8_init_4 : decode cX8_init 4 = .ok (.aload_n 0, 1) := by decide +kernel
theorem dX8_init_5 : decode cX8_init 5 = .ok (.new 9, 3) := by decide +kernel
theorem dX8_init_8 : decode cX8_init 8 = .ok (.dup, 1) := by decide +kernel
theorem dX8_init_9 : decode cX8_init 9 = .ok (.bipush 6, 2) := by decide +kernel
theorem dX8_init_11 : decode cX8_init 11 = .ok (.invokespecial 11, 3) := by decide +kernel
theorem dX8_init_14 : decode cX8_init 14 = .ok (.putfield 14, 3) := by decide +kernel
theorem dX8_init_17 : decode cX8_init 17 = .ok (.aload_n 0, 1) := by decide +kernel
theorem dX8_init_18 : decode cX8_init 18 = .ok (.new 9, 3) := by decide +kernel
theorem dX8_init_21 : decode cX8_init 21 = .ok (.dup, 1) := by decide +kernel
theorem dX8_init_22 : decode cX8_init 22 = .ok (.bipush 6, 2) := by decide +kernel
theorem dX8_init_24 : decode cX8_init 24 = .ok (.invokespecial 11, 3) := by decide +kernel
theorem dX8_init_27 : decode cX8_init 27 = .ok (.putfield 20, 3) := by decide +kernel
theorem dX8_init_30 : decode cX8_init 30 = .ok (.aload_n 0, 1) := by decide +kernel
theorem dX8_init_31 : decode cX8_init 31 = .ok (.new 9, 3) := by decide +kernel
theorem dX8_init_34 : decode cX8_init 34 = .ok (.dup, 1) := by decide +kernel
theorem dX8_init_35 : decode cX8_init 35 = .ok (.bipush 6, 2) := by decide +kernel
theorem dX8_init_37 : decode cX8_init 37 = .ok (.invokespecial 11, 3) := by decide +kernel
theorem dX8_init_40 : decode cX8_init 40 = .ok (.putfield 23, 3) := by decide +kernel
theorem dX8_init_43 : decode cX8_init 43 = .ok (.aload_n 0, 1) := by decide +kernel
theorem dX8_init_44 : decode cX8_init 44 = .ok (.iconst 0, 1) := by decide +kernel
theorem dX8_init_45 : decode cX8_init 45 = .ok (.putfield 26, 3) := by decide +kernel
theorem dX8_init_48 : decode cX8_init 48 = .ok (.return_, 1) := by decide +kernel
theorem dX8_add_0 : decode cX8_add 0 = .ok (.aload_n 0, 1) := by decide +kernel
theorem dX8_add_1 : decode cX8_add 1 = .ok (.getfield 14, 3) := by decide +kernel
theorem dX8_add_4 : decode cX8_add 4 = .ok (.aload_n 0, 1) := by decide +kernel
theorem dX8_add_5 : decode cX8_add 5 = .ok (.getfield 26, 3) := by decide +kernel
theorem dX8_add_8 : decode cX8_add 8 = .ok (.iload_n 1, 1) := by decide +kernel
theorem dX8_add_9 : decode cX8_add 9 = .ok (.invokevirtual 30, 3) := by decide +kernel
theorem dX8_add_12 : decode cX8_add 12 = .ok (.aload_n 0, 1) := by decide +kernel
theorem dX8_add_13 : decode cX8_add 13 = .ok (.getfield 20, 3) := by decide +kernel
theorem dX8_add_16 : decode cX8_add 16 = .ok (.aload_n 0, 1) := by decide +kernel
theorem dX8_add_17 : decode cX8_add 17 = .ok (.getfield 26, 3) := by decide +kernel
theorem dX8_add_20 : decode cX8_add 20 = .ok (.iload_n 2, 1) := by decide +kernel
theorem dX8_add_21 : decode cX8_add 21 = .ok (.invokevirtual 30, 3) := by decide +kernel
theorem dX8_add_24 : decode cX8_add 24 = .ok (.aload_n 0, 1) := by decide +kernel
theorem dX8_add_25 : decode cX8_add 25 = .ok (.getfield 23, 3) := by decide +kernel
theorem dX8_add_28 : decode cX8_add 28 = .ok (.aload_n 0, 1) := by decide +kernel
theorem dX8_add_29 : decode cX8_add 29 = .ok (.getfield 26, 3) := by decide +kernel
theorem dX8_add_32 : decode cX8_add 32 = .ok (.iload_n 3, 1) := by decide +kernel
theorem dX8_add_33 : decode cX8_add 33 = .ok (.invokevirtual 30, 3) := by decide +kernel
theorem dX8_add_36 : decode cX8_add 36 = .ok (.aload_n 0, 1) := by decide +kernel
theorem dX8_add_37 : decode cX8_add 37 = .ok (.dup, 1) := by decide +kernel
theorem dX8_add_38 : decode cX8_add 38 = .ok (.getfield 26, 3) := by decide +kernel
theorem dX8_add_41 : decode cX8_add 41 = .ok (.iconst 1, 1) := by decide +kernel
theorem dX8_add_42 : decode cX8_add 42 = .ok (.iadd, 1) := by decide +kernel
theorem dX8_add_43 : decode cX8_add 43 = .ok (.putfield 26, 3) := by decide +kernel
theorem dX8_add_46 : decode cX8_add 46 = .ok (.return_, 1) := by decide +kernel
theorem dX8_take_0 : decode cX8_take 0 = .ok (.aload_n 0, 1) := by decide +kernel
theorem dX8_take_1 : decode cX8_take 1 = .ok (.getfield 14, 3) := by decide +kernel
theorem dX8_take_4 : decode cX8_take 4 = .ok (.aload_n 1, 1) := by decide +kernel
theorem dX8_take_5 : decode cX8_take 5 = .ok (.getfield 14, 3) := by decide +kernel
theorem dX8_take_8 : decode cX8_take 8 = .ok (.invokevirtual 34, 3) := by decide +kernel
theorem dX8_take_11 : decode cX8_take 11 = .ok (.aload_n 0, 1) := by decide +kernel
theorem dX8_take_12 : decode cX8_take 12 = .ok (.getfield 20, 3) := by decide +kernel
theorem dX8_take_15 : decode cX8_take 15 = .ok (.aload_n 1, 1) := by decide +kernel
theorem dX8_take_16 : decode cX8_take 16 = .ok (.getfield 20, 3) := by decide +kernel
theorem dX8_take_19 : decode cX8_take 19 = .ok (.invokevirtual 34, 3) := by decide +kernel
theorem dX8_take_22 : decode cX8_take 22 = .ok (.aload_n 0, 1) := by decide +kernel
theorem dX8_take_23 : decode cX8_take 23 = .ok (.getfield 23, 3) := by decide +kernel
theorem dX8_take_26 : decode cX8_take 26 = .ok (.aload_n 1, 1) := by decide +kernel
theorem dX8_take_27 : decode cX8_take 27 = .ok (.getfield 23, 3) := by decide +kernel
theorem dX8_take_30 : decode cX8_take 30 = .ok (.invokevirtual 34, 3) := by decide +kernel
theorem dX8_take_33 : decode cX8_take 33 = .ok (.aload_n 0, 1) := by decide +kernel
theorem dX8_take_34 : decode cX8_take 34 = .ok (.aload_n 1, 1) := by decide +kernel
theorem dX8_take_35 : decode cX8_take 35 = .ok (.getfield 26, 3) := by decide +kernel
theorem dX8_take_38 : decode cX8_take 38 = .ok (.putfield 26, 3) := by decide +kernel
theorem dX8_take_41 : decode cX8_take 41 = .ok (.return_, 1) := by decide +kernel
theorem dX9_init_0 : decode cX9_init 0 = .ok (.aload_n 0, 1) := by decide +kernel
theorem dX9_init_1 : decode cX9_init 1 = .ok (.invokespecial 1, 3) := by decide +kernel
theorem dX9_init_4 : decode cX9_init 4 = .ok (.aload_n 0, 1) := by decide +kernel
theorem dX9_init_5 : decode cX9_init 5 = .ok (.new 7, 3) := by decide +kernel
theorem dX9_init_8 : decode cX9_init 8 = .ok (.dup, 1) := by decide +kernel
theorem dX9_init_9 : decode cX9_init 9 = .ok (.invokespecial 9, 3) := by decide +kernel
theorem dX9_init_12 : decode cX9_init 12 = .ok (.putfield 10, 3) := by decide +kernel
theorem dX9_init_15 : decode cX9_init 15 = .ok (.aload_n 0, 1) := by decide +kernel
theorem dX9_init_16 : decode cX9_init 16 = .ok (.new 16, 3) := by decide +kernel
theorem dX9_init_19 : decode cX9_init 19 = .ok (.dup, 1) := by decide +kernel
theorem dX9_init_20 : decode cX9_init 20 = .ok (.invokespecial 18, 3) := by decide +kernel
theorem dX9_init_23 : decode cX9_init 23 = .ok (.putfield 19, 3) := by decide +kernel
theorem dX9_init_26 : decode cX9_init 26 = .ok (.aload_n 0, 1) := by decide +kernel
theorem dX9_init_27 : decode cX9_init 27 = .ok (.new 23, 3) := by decide +kernel
theorem dX9_init_30 : decode cX9_init 30 = .ok (.dup, 1) := by decide +kernel
theorem dX9_init_31 : decode cX9_init 31 = .ok (.invokespecial 25, 3) := by decide +kernel
theorem dX9_init_34 : decode cX9_init 34 = .ok (.putfield 26, 3) := by decide +kernel
theorem dX9_init_37 : decode cX9_init 37 = .ok (.aload_n 0, 1) := by decide +kernel
theorem dX9_init_38 : decode cX9_init 38 = .ok (.new 16, 3) := by decide +kernel
theorem dX9_init_41 : decode cX9_init 41 = .ok (.dup, 1) := by decide +kernel
theorem dX9_init_42 : decode cX9_init 42 = .ok (.invokespecial 18, 3) := by decide +kernel
theorem dX9_init_45 : decode cX9_init 45 = .ok (.putfield 30, 3) := by decide +kernel
theorem dX9_init_48 : decode cX9_init 48 = .ok (.aload_n 0, 1) := by decide +kernel
theorem dX9_init_49 : decode cX9_init 49 = .ok (.new 23, 3) := by decide +kernel
theorem dX9_init_52 : decode cX9_init 52 = .ok (.dup, 1) := by decide +kernel
theorem dX9_init_53 : decode cX9_init 53 = .ok (.invokespecial 25, 3) := by decide +kernel
theorem dX9_init_56 : decode cX9_init 56 = .ok (.putfield 33, 3) := by decide +kernel
theorem dX9_init_59 : decode cX9_init 59 = .ok (.aload_n 0, 1) := by decide +kernel
theorem dX9_init_60 : decode cX9_init 60 = .ok (.new 16, 3) := by decide +kernel
theorem dX9_init_63 : decode cX9_init 63 = .ok (.dup, 1) := by decide +kernel
theorem dX9_init_64 : decode cX9_init 64 = .ok (.invokespecial 18, 3) := by decide +kernel
theorem dX9_init_67 : decode cX9_init 67 = .ok (.putfield 36, 3) := by decide +kernel
theorem dX9_init_70 : decode cX9_init 70 = .ok (.aload_n 0, 1) := by decide +kernel
theorem dX9_init_71 : decode cX9_init 71 = .ok (.new 39, 3) := by decide +kernel
theorem dX9_init_74 : decode cX9_init 74 = .ok (.dup, 1) := by decide +kernel
theorem dX9_init_75 : decode cX9_init 75 = .ok (.invokespecial 41, 3) := by decide +kernel
theorem dX9_init_78 : decode cX9_init 78 = .ok (.putfield 42, 3) := by decide +kernel
theorem dX9_init_81 : decode cX9_init 81 = .ok (.aload_n 0, 1) := by decide +kernel
theorem dX9_init_82 : decode cX9_init 82 = .ok (.new 46, 3) := by decide +kernel
theorem dX9_init_85 : decode cX9_init 85 = .ok (.dup, 1) := by decide +kernel
theorem dX9_init_86 : decode cX9_init 86 = .ok (.invokespecial 48, 3) := by decide +kernel
theorem dX9_init_89 : decode cX9_init 89 = .ok (.putfield 49, 3) := by decide +kernel
theorem dX9_init_92 : decode cX9_init 92 = .ok (.aload_n 0, 1) := by decide +kernel
theorem dX9_init_93 : decode cX9_init 93 = .ok (.new 53, 3) := by decide +kernel
theorem dX9_init_96 : decode cX9_init 96 = .ok (.dup, 1) := by decide +kernel
theorem dX9_init_97 : decode cX9_init 97 = .ok (.invokespecial 55, 3) := by decide +kernel
theorem dX9_init_100 : decode cX9_init 100 = .ok (.putfield 56, 3) := by decide +kernel
theorem dX9_init_103 : decode cX9_init 103 = .ok (.aload_n 0, 1) := by decide +kernel
theorem dX9_init_104 : decode cX9_init 104 = .ok (.new 60, 3) := by decide +kernel
theorem dX9_init_107 : decode cX9_init 107 = .ok (.dup, 1) := by decide +kernel
theorem dX9_init_108 : decode cX9_init 108 = .ok (.invokespecial 62, 3) := by decide +kernel
theorem dX9_init_111 : decode cX9_init 111 = .ok (.putfield 63, 3) := by decide +kernel
theorem dX9_init_114 : decode cX9_init 114 = .ok (.aload_n 0, 1) := by decide +kernel
theorem dX9_init_115 : decode cX9_init 115 = .ok (.new 67, 3) := by decide +kernel
theorem dX9_init_118 : decode cX9_init 118 = .ok (.dup, 1) := by decide +kernel
theorem dX9_init_119 : decode cX9_init 119 = .ok (.invokespecial 69, 3) := by decide +kernel
theorem dX9_init_122 : decode cX9_init 122 = .ok (.putfield 70, 3) := by decide +kernel
theorem dX9_init_125 : decode cX9_init 125 = .ok (.aload_n 0, 1) := by decide +kernel
theorem dX9_init_126 : decode cX9_init 126 = .ok (.iconst 0, 1) := by decide +kernel
theorem dX9_init_127 : decode cX9_init 127 = .ok (.putfield 74, 3) := by decide +kernel
theorem dX9_init_130 : decode cX9_init 130 = .ok (.aload_n 0, 1) := by decide +kernel
theorem dX9_init_131 : decode cX9_init 131 = .ok (.iconst 0, 1) := by decide +kernel
theorem dX9_init_132 : decode cX9_init 132 = .ok (.putfield 78, 3) := by decide +kernel
theorem dX9_init_135 : decode cX9_init 135 = .ok (.return_, 1) := by decide +kernel
theorem dX9_letter_0 : decode cX9_letter 0 = .ok (.iload_n 1, 1) := by decide +kernel
theorem dX9_letter_1 : decode cX9_letter 1 = .ok (.bipush 32, 2) := by decide +kernel
theorem dX9_letter_3 : decode cX9_letter 3 = .ok (.bipush 126, 2) := by decide +kernel
theorem dX9_letter_5 : decode cX9_letter 5 = .ok (.invokestatic 82, 3) := by decide +kernel
theorem dX9_letter_8 : decode cX9_letter 8 = .ok (.ifCond .ne 6, 3) := by decide +kernel
theorem dX9_letter_11 : decode cX9_letter 11 = .ok (.bipush (-102), 2) := by decide +kernel
theorem dX9_letter_13 : decode cX9_letter 13 = .ok (.ireturn, 1) := by decide +kernel
theorem dX9_letter_14 : decode cX9_letter 14 = .ok (.aload_n 0, 1) := by decide +kernel
theorem dX9_letter_15 : decode cX9_letter 15 = .ok (.getfield 10, 3) := by decide +kernel
theorem dX9_letter_18 : decode cX9_letter 18 = .ok (.getfield 86, 3) := by decide +kernel
theorem dX9_letter_21 : decode cX9_letter 21 = .ok (.bipush 26, 2) := by decide +kernel
theorem dX9_letter_23 : decode cX9_letter 23 = .ok (.if_icmp .lt 6, 3) := by decide +kernel
theorem dX9_letter_26 : decode cX9_letter 26 = .ok (.bipush (-104), 2) := by decide +kernel
theorem dX9_letter_28 : decode cX9_letter 28 = .ok (.ireturn, 1) := by decide +kernel
theorem dX9_letter_29 : decode cX9_letter 29 = .ok (.aload_n 0, 1) := by decide +kernel
theorem dX9_letter_30 : decode cX9_letter 30 = .ok (.getfield 10, 3) := by decide +kernel
theorem dX9_letter_33 : decode cX9_letter 33 = .ok (.iload_n 1, 1) := by decide +kernel
theorem dX9_letter_34 : decode cX9_letter 34 = .ok (.invokevirtual 89, 3) := by decide +kernel
theorem dX9_letter_37 : decode cX9_letter 37 = .ok (.aload_n 0, 1) := by decide +kernel
theorem dX9_letter_38 : decode cX9_letter 38 = .ok (.getfield 10, 3) := by decide +kernel
theorem dX9_letter_41 : decode cX9_letter 41 = .ok (.getfield 86, 3) := by decide +kernel
theorem dX9_letter_44 : decode cX9_letter 44 = .ok (.ireturn, 1) := by decide +kernel
theorem dX9_blank_0 : decode cX9_blank 0 = .ok (.aload_n 0, 1) := by decide +kernel
theorem dX9_blank_1 : decode cX9_blank 1 = .ok (.getfield 10, 3) := by decide +kernel
theorem dX9_blank_4 : decode cX9_blank 4 = .ok (.getfield 86, 3) := by decide +kernel
theorem dX9_blank_7 : decode cX9_blank 7 = .ok (.istore_n 1, 1) := by decide +kernel
theorem dX9_blank_8 : decode cX9_blank 8 = .ok (.aload_n 0, 1) := by decide +kernel
theorem dX9_blank_9 : decode cX9_blank 9 = .ok (.getfield 10, 3) := by decide +kernel
theorem dX9_blank_12 : decode cX9_blank 12 = .ok (.iconst 0, 1) := by decide +kernel
theorem dX9_blank_13 : decode cX9_blank 13 = .ok (.putfield 86, 3) := by decide +kernel
theorem dX9_blank_16 : decode cX9_blank 16 = .ok (.iload_n 1, 1) := by decide +kernel
theorem dX9_blank_17 : decode cX9_blank 17 = .ok (.ireturn, 1) := by decide +kernel
theorem dX9_fault_0 : decode cX9_fault 0 = .ok (.aload_n 0, 1) := by decide +kernel
theorem dX9_fault_1 : decode cX9_fault 1 = .ok (.getfield 10, 3) := by decide +kernel
theorem dX9_fault_4 : decode cX9_fault 4 = .ok (.invokevirtual 93, 3) := by decide +kernel
theorem dX9_fault_7 : decode cX9_fault 7 = .ok (.ireturn, 1) := by decide +kernel
theorem dX9_lane_0 : decode cX9_lane 0 = .ok (.aload_n 0, 1) := by decide +kernel
theorem dX9_lane_1 : decode cX9_lane 1 = .ok (.getfield 10, 3) := by decide +kernel
theorem dX9_lane_4 : decode cX9_lane 4 = .ok (.invokevirtual 97, 3) := by decide +kernel
theorem dX9_lane_7 : decode cX9_lane 7 = .ok (.ifCond .ne 6, 3) := by decide +kernel
theorem dX9_lane_10 : decode cX9_lane 10 = .ok (.bipush (-103), 2) := by decide +kernel
theorem dX9_lane_12 : decode cX9_lane 12 = .ok (.ireturn, 1) := by decide +kernel
theorem dX9_lane_13 : decode cX9_lane 13 = .ok (.aload_n 0, 1) := by decide +kernel
theorem dX9_lane_14 : decode cX9_lane 14 = .ok (.getfield 19, 3) := by decide +kernel
theorem dX9_lane_17 : decode cX9_lane 17 = .ok (.aload_n 0, 1) := by decide +kernel
theorem dX9_lane_18 : decode cX9_lane 18 = .ok (.getfield 10, 3) := by decide +kernel
theorem dX9_lane_21 : decode cX9_lane 21 = .ok (.invokevirtual 101, 3) := by decide +kernel
theorem dX9_lane_24 : decode cX9_lane 24 = .ok (.invokevirtual 104, 3) := by decide +kernel
theorem dX9_lane_27 : decode cX9_lane 27 = .ok (.iconst 0, 1) := by decide +kernel
theorem dX9_lane_28 : decode cX9_lane 28 = .ok (.istore_n 1, 1) := by decide +kernel
theorem dX9_lane_29 : decode cX9_lane 29 = .ok (.iload_n 1, 1) := by decide +kernel
theorem dX9_lane_30 : decode cX9_lane 30 = .ok (.aload_n 0, 1) := by decide +kernel
theorem dX9_lane_31 : decode cX9_lane 31 = .ok (.getfield 19, 3) := by decide +kernel
theorem dX9_lane_34 : decode cX9_lane 34 = .ok (.getfield 107, 3) := by decide +kernel
theorem dX9_lane_37 : decode cX9_lane 37 = .ok (.if_icmp .ge 41, 3) := by decide +kernel
theorem dX9_lane_40 : decode cX9_lane 40 = .ok (.aload_n 0, 1) := by decide +kernel
theorem dX9_lane_41 : decode cX9_lane 41 = .ok (.getfield 19, 3) := by decide +kernel
theorem dX9_lane_44 : decode cX9_lane 44 = .ok (.iload_n 1, 1) := by decide +kernel
theorem dX9_lane_45 : decode cX9_lane 45 = .ok (.aload_n 0, 1) := by decide +kernel
theorem dX9_lane_46 : decode cX9_lane 46 = .ok (.getfield 10, 3) := by decide +kernel
theorem dX9_lane_49 : decode cX9_lane 49 = .ok (.iload_n 1, 1) := by decide +kernel
theorem dX9_lane_50 : decode cX9_lane 50 = .ok (.invokevirtual 108, 3) := by decide +kernel
theorem dX9_lane_53 : decode cX9_lane 53 = .ok (.aload_n 0, 1) := by decide +kernel
theorem dX9_lane_54 : decode cX9_lane 54 = .ok (.getfield 10, 3) := by decide +kernel
theorem dX9_lane_57 : decode cX9_lane 57 = .ok (.iload_n 1, 1) := by decide +kernel
theorem dX9_lane_58 : decode cX9_lane 58 = .ok (.invokevirtual 112, 3) := by decide +kernel
theorem dX9_lane_61 : decode cX9_lane 61 = .ok (.aload_n 0, 1) := by decide +kernel
theorem dX9_lane_62 : decode cX9_lane 62 = .ok (.getfield 10, 3) := by decide +kernel
theorem dX9_lane_65 : decode cX9_lane 65 = .ok (.iload_n 1, 1) := by decide +kernel
theorem dX9_lane_66 : decode cX9_lane 66 = .ok (.invokevirtual 115, 3) := by decide +kernel
theorem dX9_lane_69 : decode cX9_lane 69 = .ok (.invokevirtual 118, 3) := by decide +kernel
theorem dX9_lane_72 : decode cX9_lane 72 = .ok (.iinc 1 1, 3) := by decide +kernel
theorem dX9_lane_75 : decode cX9_lane 75 = .ok (.goto (-46), 3) := by decide +kernel
theorem dX9_lane_78 : decode cX9_lane 78 = .ok (.aload_n 0, 1) := by decide +kernel
theorem dX9_lane_79 : decode cX9_lane 79 = .ok (.getfield 10, 3) := by decide +kernel
theorem dX9_lane_82 : decode cX9_lane 82 = .ok (.iconst 0, 1) := by decide +kernel
theorem dX9_lane_83 : decode cX9_lane 83 = .ok (.putfield 86, 3) := by decide +kernel
theorem dX9_lane_86 : decode cX9_lane 86 = .ok (.aload_n 0, 1) := by decide +kernel
theorem dX9_lane_87 : decode cX9_lane 87 = .ok (.getfield 26, 3) := by decide +kernel
theorem dX9_lane_90 : decode cX9_lane 90 = .ok (.iconst 0, 1) := by decide +kernel
theorem dX9_lane_91 : decode cX9_lane 91 = .ok (.putfield 122, 3) := by decide +kernel
theorem dX9_lane_94 : decode cX9_lane 94 = .ok (.aload_n 0, 1) := by decide +kernel
theorem dX9_lane_95 : decode cX9_lane 95 = .ok (.iconst 0, 1) := by decide +kernel
theorem dX9_lane_96 : decode cX9_lane 96 = .ok (.putfield 74, 3) := by decide +kernel
theorem dX9_lane_99 : decode cX9_lane 99 = .ok (.aload_n 0, 1) := by decide +kernel
theorem dX9_lane_100 : decode cX9_lane 100 = .ok (.dup, 1) := by decide +kernel
theorem dX9_lane_101 : decode cX9_lane 101 = .ok (.getfield 78, 3) := by decide +kernel
theorem dX9_lane_104 : decode cX9_lane 104 = .ok (.iconst 1, 1) := by decide +kernel
theorem dX9_lane_105 : decode cX9_lane 105 = .ok (.iadd, 1) := by decide +kernel
theorem dX9_lane_106 : decode cX9_lane 106 = .ok (.putfield 78, 3) := by decide +kernel
theorem dX9_lane_109 : decode cX9_lane 109 = .ok (.aload_n 0, 1) := by decide +kernel
theorem dX9_lane_110 : decode cX9_lane 110 = .ok (.getfield 19, 3) := by decide +kernel
theorem dX9_lane_113 : decode cX9_lane 113 = .ok (.getfield 107, 3) := by decide +kernel
theorem dX9_lane_116 : decode cX9_lane 116 = .ok (.ireturn, 1) := by decide +kernel
theorem dX9_house_0 : decode cX9_house 0 = .ok (.aload_n 0, 1) := by decide +kernel
theorem dX9_house_1 : decode cX9_house 1 = .ok (.getfield 19, 3) := by decide +kernel
theorem dX9_house_4 : decode cX9_house 4 = .ok (.iload_n 1, 1) := by decide +kernel
theorem dX9_house_5 : decode cX9_house 5 = .ok (.invokevirtual 123, 3) := by decide +kernel
theorem dX9_house_8 : decode cX9_house 8 = .ok (.ifCond .ne 6, 3) := by decide +kernel
theorem dX9_house_11 : decode cX9_house 11 = .ok (.bipush (-101), 2) := by decide +kernel
theorem dX9_house_13 : decode cX9_house 13 = .ok (.ireturn, 1) := by decide +kernel
theorem dX9_house_14 : decode cX9_house 14 = .ok (.iload_n 2, 1) := by decide +kernel
theorem dX9_house_15 : decode cX9_house 15 = .ok (.tableswitch 132 0 6 #[41, 53, 65, 77, 89, 98, 115], 41) := by decide +kernel
theorem dX9_house_56 : decode cX9_house 56 = .ok (.aload_n 0, 1) := by decide +kernel
theorem dX9_house_57 : decode cX9_house 57 = .ok (.getfield 19, 3) := by decide +kernel
theorem dX9_house_60 : decode cX9_house 60 = .ok (.getfield 127, 3) := by decide +kernel
theorem dX9_house_63 : decode cX9_house 63 = .ok (.iload_n 1, 1) := by decide +kernel
theorem dX9_house_64 : decode cX9_house 64 = .ok (.invokevirtual 131, 3) := by decide +kernel
theorem dX9_house_67 : decode cX9_house 67 = .ok (.ireturn, 1) := by decide +kernel
theorem dX9_house_68 : decode cX9_house 68 = .ok (.aload_n 0, 1) := by decide +kernel
theorem dX9_house_69 : decode cX9_house 69 = .ok (.getfield 19, 3) := by decide +kernel
theorem dX9_house_72 : decode cX9_house 72 = .ok (.getfield 136, 3) := by decide +kernel
theorem dX9_house_75 : decode cX9_house 75 = .ok (.iload_n 1, 1) := by decide +kernel
theorem dX9_house_76 : decode cX9_house 76 = .ok (.invokevirtual 131, 3) := by decide +kernel
theorem dX9_house_79 : decode cX9_house 79 = .ok (.ireturn, 1) := by decide +kernel
theorem dX9_house_80 : decode cX9_house 80 = .ok (.aload_n 0, 1) := by decide +kernel
theorem dX9_house_81 : decode cX9_house 81 = .ok (.getfield 19, 3) := by decide +kernel
theorem dX9_house_84 : decode cX9_house 84 = .ok (.getfield 139, 3) := by decide +kernel
theorem dX9_house_87 : decode cX9_house 87 = .ok (.iload_n 1, 1) := by decide +kernel
theorem dX9_house_88 : decode cX9_house 88 = .ok (.invokevirtual 131, 3) := by decide +kernel
theorem dX9_house_91 : decode cX9_house 91 = .ok (.ireturn, 1) := by decide +kernel
theorem dX9_house_92 : decode cX9_house 92 = .ok (.aload_n 0, 1) := by decide +kernel
theorem dX9_house_93 : decode cX9_house 93 = .ok (.getfield 19, 3) := by decide +kernel
theorem dX9_house_96 : decode cX9_house 96 = .ok (.getfield 142, 3) := by decide +kernel
theorem dX9_house_99 : decode cX9_house 99 = .ok (.iload_n 1, 1) := by decide +kernel
theorem dX9_house_100 : decode cX9_house 100 = .ok (.invokevirtual 131, 3) := by decide +kernel
theorem dX9_house_103 : decode cX9_house 103 = .ok (.ireturn, 1) := by decide +kernel
theorem dX9_house_104 : decode cX9_house 104 = .ok (.aload_n 0, 1) := by decide +kernel
theorem dX9_house_105 : decode cX9_house 105 = .ok (.getfield 19, 3) := by decide +kernel
theorem dX9_house_108 : decode cX9_house 108 = .ok (.iload_n 1, 1) := by decide +kernel
theorem dX9_house_109 : decode cX9_house 109 = .ok (.invokevirtual 145, 3) := by decide +kernel
theorem dX9_house_112 : decode cX9_house 112 = .ok (.ireturn, 1) := by decide +kernel
theorem dX9_house_113 : decode cX9_house 113 = .ok (.aload_n 0, 1) := by decide +kernel
theorem dX9_house_114 : decode cX9_house 114 = .ok (.getfield 42, 3) := by decide +kernel
theorem dX9_house_117 : decode cX9_house 117 = .ok (.aload_n 0, 1) := by decide +kernel
theorem dX9_house_118 : decode cX9_house 118 = .ok (.getfield 19, 3) := by decide +kernel
theorem dX9_house_121 : decode cX9_house 121 = .ok (.aload_n 0, 1) := by decide +kernel
theorem dX9_house_122 : decode cX9_house 122 = .ok (.getfield 26, 3) := by decide +kernel
theorem dX9_house_125 : decode cX9_house 125 = .ok (.iload_n 1, 1) := by decide +kernel
theorem dX9_house_126 : decode cX9_house 126 = .ok (.invokevirtual 148, 3) := by decide +kernel
theorem dX9_house_129 : decode cX9_house 129 = .ok (.ireturn, 1) := by decide +kernel
theorem dX9_house_130 : decode cX9_house 130 = .ok (.aload_n 0, 1) := by decide +kernel
theorem dX9_house_131 : decode cX9_house 131 = .ok (.getfield 42, 3) := by decide +kernel
theorem dX9_house_134 : decode cX9_house 134 = .ok (.aload_n 0, 1) := by decide +kernel
theorem dX9_house_135 : decode cX9_house 135 = .ok (.getfield 19, 3) := by decide +kernel
theorem dX9_house_138 : decode cX9_house 138 = .ok (.aload_n 0, 1) := by decide +kernel
theorem dX9_house_139 : decode cX9_house 139 = .ok (.getfield 26, 3) := by decide +kernel
theorem dX9_house_142 : decode cX9_house 142 = .ok (.iload_n 1, 1) := by decide +kernel
theorem dX9_house_143 : decode cX9_house 143 = .ok (.invokevirtual 152, 3) := by decide +kernel
theorem dX9_house_146 : decode cX9_house 146 = .ok (.ireturn, 1) := by decide +kernel
theorem dX9_house_147 : decode cX9_house 147 = .ok (.bipush (-102), 2) := by decide +kernel
theorem dX9_house_149 : decode cX9_house 149 = .ok (.ireturn, 1) := by decide +kernel
theorem dX9_as_0 : decode cX9_as 0 = .ok (.aload_n 0, 1) := by decide +kernel
theorem dX9_as_1 : decode cX9_as 1 = .ok (.getfield 19, 3) := by decide +kernel
theorem dX9_as_4 : decode cX9_as 4 = .ok (.iload_n 1, 1) := by decide +kernel
theorem dX9_as_5 : decode cX9_as 5 = .ok (.invokevirtual 123, 3) := by decide +kernel
theorem dX9_as_8 : decode cX9_as 8 = .ok (.ifCond .ne 6, 3) := by decide +kernel
theorem dX9_as_11 : decode cX9_as 11 = .ok (.bipush (-101), 2) := by decide +kernel
theorem dX9_as_13 : decode cX9_as 13 = .ok (.ireturn, 1) := by decide +kernel
theorem dX9_as_14 : decode cX9_as 14 = .ok (.iload_n 2, 1) := by decide +kernel
theorem dX9_as_15 : decode cX9_as 15 = .ok (.iconst 0, 1) := by decide +kernel
theorem dX9_as_16 : decode cX9_as 16 = .ok (.iconst 4, 1) := by decide +kernel
theorem dX9_as_17 : decode cX9_as 17 = .ok (.invokestatic 82, 3) := by decide +kernel
theorem dX9_as_20 : decode cX9_as 20 = .ok (.ifCond .ne 6, 3) := by decide +kernel
theorem dX9_as_23 : decode cX9_as 23 = .ok (.bipush (-102), 2) := by decide +kernel
theorem dX9_as_25 : decode cX9_as 25 = .ok (.ireturn, 1) := by decide +kernel
theorem dX9_as_26 : decode cX9_as 26 = .ok (.aload_n 0, 1) := by decide +kernel
theorem dX9_as_27 : decode cX9_as 27 = .ok (.getfield 19, 3) := by decide +kernel
theorem dX9_as_30 : decode cX9_as 30 = .ok (.getfield 127, 3) := by decide +kernel
theorem dX9_as_33 : decode cX9_as 33 = .ok (.iload_n 1, 1) := by decide +kernel
theorem dX9_as_34 : decode cX9_as 34 = .ok (.invokevirtual 131, 3) := by decide +kernel
theorem dX9_as_37 : decode cX9_as 37 = .ok (.iload_n 2, 1) := by decide +kernel
theorem dX9_as_38 : decode cX9_as 38 = .ok (.invokestatic 155, 3) := by decide +kernel
theorem dX9_as_41 : decode cX9_as 41 = .ok (.ifCond .eq 7, 3) := by decide +kernel
theorem dX9_as_44 : decode cX9_as 44 = .ok (.iload_n 1, 1) := by decide +kernel
theorem dX9_as_45 : decode cX9_as 45 = .ok (.goto 4, 3) := by decide +kernel
theorem dX9_as_48 : decode cX9_as 48 = .ok (.iconst (-1), 1) := by decide +kernel
theorem dX9_as_49 : decode cX9_as 49 = .ok (.ireturn, 1) := by decide +kernel
theorem dX9_reaches_0 : decode cX9_reaches 0 = .ok (.aload_n 0, 1) := by decide +kernel
theorem dX9_reaches_1 : decode cX9_reaches 1 = .ok (.getfield 19, 3) := by decide +kernel
theorem dX9_reaches_4 : decode cX9_reaches 4 = .ok (.iload_n 1, 1) := by decide +kernel
theorem dX9_reaches_5 : decode cX9_reaches 5 = .ok (.invokevirtual 123, 3) := by decide +kernel
theorem dX9_reaches_8 : decode cX9_reaches 8 = .ok (.ifCond .ne 6, 3) := by decide +kernel
theorem dX9_reaches_11 : decode cX9_reaches 11 = .ok (.bipush (-101), 2) := by decide +kernel
theorem dX9_reaches_13 : decode cX9_reaches 13 = .ok (.ireturn, 1) := by decide +kernel
theorem dX9_reaches_14 : decode cX9_reaches 14 = .ok (.iload_n 2, 1) := by decide +kernel
theorem dX9_reaches_15 : decode cX9_reaches 15 = .ok (.iconst 0, 1) := by decide +kernel
theorem dX9_reaches_16 : decode cX9_reaches 16 = .ok (.bipush 20, 2) := by decide +kernel
theorem dX9_reaches_18 : decode cX9_reaches 18 = .ok (.invokestatic 82, 3) := by decide +kernel
theorem dX9_reaches_21 : decode cX9_reaches 21 = .ok (.ifCond .ne 6, 3) := by decide +kernel
theorem dX9_reaches_24 : decode cX9_reaches 24 = .ok (.bipush (-102), 2) := by decide +kernel
theorem dX9_reaches_26 : decode cX9_reaches 26 = .ok (.ireturn, 1) := by decide +kernel
theorem dX9_reaches_27 : decode cX9_reaches 27 = .ok (.aload_n 0, 1) := by decide +kernel
theorem dX9_reaches_28 : decode cX9_reaches 28 = .ok (.getfield 19, 3) := by decide +kernel
theorem dX9_reaches_31 : decode cX9_reaches 31 = .ok (.iload_n 1, 1) := by decide +kernel
theorem dX9_reaches_32 : decode cX9_reaches 32 = .ok (.iload_n 2, 1) := by decide +kernel
theorem dX9_reaches_33 : decode cX9_reaches 33 = .ok (.invokevirtual 159, 3) := by decide +kernel
theorem dX9_reaches_36 : decode cX9_reaches 36 = .ok (.ireturn, 1) := by decide +kernel
theorem dX9_wet_0 : decode cX9_wet 0 = .ok (.iload_n 1, 1) := by decide +kernel
theorem dX9_wet_1 : decode cX9_wet 1 = .ok (.iconst 0, 1) := by decide +kernel
theorem dX9_wet_2 : decode cX9_wet 2 = .ok (.bipush 20, 2) := by decide +kernel
theorem dX9_wet_4 : decode cX9_wet 4 = .ok (.invokestatic 82, 3) := by decide +kernel
theorem dX9_wet_7 : decode cX9_wet 7 = .ok (.ifCond .ne 6, 3) := by decide +kernel
theorem dX9_wet_10 : decode cX9_wet 10 = .ok (.bipush (-102), 2) := by decide +kernel
theorem dX9_wet_12 : decode cX9_wet 12 = .ok (.ireturn, 1) := by decide +kernel
theorem dX9_wet_13 : decode cX9_wet 13 = .ok (.aload_n 0, 1) := by decide +kernel
theorem dX9_wet_14 : decode cX9_wet 14 = .ok (.getfield 19, 3) := by decide +kernel
theorem dX9_wet_17 : decode cX9_wet 17 = .ok (.getfield 107, 3) := by decide +kernel
theorem dX9_wet_20 : decode cX9_wet 20 = .ok (.ifCond .ne 6, 3) := by decide +kernel
theorem dX9_wet_23 : decode cX9_wet 23 = .ok (.bipush (-103), 2) := by decide +kernel
theorem dX9_wet_25 : decode cX9_wet 25 = .ok (.ireturn, 1) := by decide +kernel
theorem dX9_wet_26 : decode cX9_wet 26 = .ok (.aload_n 0, 1) := by decide +kernel
theorem dX9_wet_27 : decode cX9_wet 27 = .ok (.getfield 19, 3) := by decide +kernel
theorem dX9_wet_30 : decode cX9_wet 30 = .ok (.iload_n 1, 1) := by decide +kernel
theorem dX9_wet_31 : decode cX9_wet 31 = .ok (.invokevirtual 163, 3) := by decide +kernel
theorem dX9_wet_34 : decode cX9_wet 34 = .ok (.ireturn, 1) := by decide +kernel
theorem dX9_year_0 : decode cX9_year 0 = .ok (.aload_n 0, 1) := by decide +kernel
theorem dX9_year_1 : decode cX9_year 1 = .ok (.getfield 19, 3) := by decide +kernel
theorem dX9_year_4 : decode cX9_year 4 = .ok (.getfield 107, 3) := by decide +kernel
theorem dX9_year_7 : decode cX9_year 7 = .ok (.ifCond .ne 6, 3) := by decide +kernel
theorem dX9_year_10 : decode cX9_year 10 = .ok (.bipush (-103), 2) := by decide +kernel
theorem dX9_year_12 : decode cX9_year 12 = .ok (.ireturn, 1) := by decide +kernel
theorem dX9_year_13 : decode cX9_year 13 = .ok (.aload_n 0, 1) := by decide +kernel
theorem dX9_year_14 : decode cX9_year 14 = .ok (.getfield 19, 3) := by decide +kernel
theorem dX9_year_17 : decode cX9_year 17 = .ok (.getfield 166, 3) := by decide +kernel
theorem dX9_year_20 : decode cX9_year 20 = .ok (.sipush 999, 3) := by decide +kernel
theorem dX9_year_23 : decode cX9_year 23 = .ok (.if_icmp .lt 6, 3) := by decide +kernel
theorem dX9_year_26 : decode cX9_year 26 = .ok (.bipush (-104), 2) := by decide +kernel
theorem dX9_year_28 : decode cX9_year 28 = .ok (.ireturn, 1) := by decide +kernel
theorem dX9_year_29 : decode cX9_year 29 = .ok (.aload_n 0, 1) := by decide +kernel
theorem dX9_year_30 : decode cX9_year 30 = .ok (.getfield 19, 3) := by decide +kernel
theorem dX9_year_33 : decode cX9_year 33 = .ok (.invokevirtual 169, 3) := by decide +kernel
theorem dX9_year_36 : decode cX9_year 36 = .ok (.aload_n 0, 1) := by decide +kernel
theorem dX9_year_37 : decode cX9_year 37 = .ok (.getfield 19, 3) := by decide +kernel
theorem dX9_year_40 : decode cX9_year 40 = .ok (.getfield 166, 3) := by decide +kernel
theorem dX9_year_43 : decode cX9_year 43 = .ok (.ireturn, 1) := by decide +kernel
theorem dX9_rain_0 : decode cX9_rain 0 = .ok (.iload_n 1, 1) := by decide +kernel
theorem dX9_rain_1 : decode cX9_rain 1 = .ok (.iconst 0, 1) := by decide +kernel
theorem dX9_rain_2 : decode cX9_rain 2 = .ok (.bipush 20, 2) := by decide +kernel
theorem dX9_rain_4 : decode cX9_rain 4 = .ok (.invokestatic 82, 3) := by decide +kernel
theorem dX9_rain_7 : decode cX9_rain 7 = .ok (.ifCond .ne 6, 3) := by decide +kernel
theorem dX9_rain_10 : decode cX9_rain 10 = .ok (.bipush (-102), 2) := by decide +kernel
theorem dX9_rain_12 : decode cX9_rain 12 = .ok (.ireturn, 1) := by decide +kernel
theorem dX9_rain_13 : decode cX9_rain 13 = .ok (.aload_n 0, 1) := by decide +kernel
theorem dX9_rain_14 : decode cX9_rain 14 = .ok (.getfield 19, 3) := by decide +kernel
theorem dX9_rain_17 : decode cX9_rain 17 = .ok (.getfield 107, 3) := by decide +kernel
theorem dX9_rain_20 : decode cX9_rain 20 = .ok (.ifCond .ne 6, 3) := by decide +kernel
theorem dX9_rain_23 : decode cX9_rain 23 = .ok (.bipush (-103), 2) := by decide +kernel
theorem dX9_rain_25 : decode cX9_rain 25 = .ok (.ireturn, 1) := by decide +kernel
theorem dX9_rain_26 : decode cX9_rain 26 = .ok (.aload_n 0, 1) := by decide +kernel
theorem dX9_rain_27 : decode cX9_rain 27 = .ok (.getfield 19, 3) := by decide +kernel
theorem dX9_rain_30 : decode cX9_rain 30 = .ok (.getfield 172, 3) := by decide +kernel
theorem dX9_rain_33 : decode cX9_rain 33 = .ok (.sipush 9000, 3) := by decide +kernel
theorem dX9_rain_36 : decode cX9_rain 36 = .ok (.if_icmp .lt 6, 3) := by decide +kernel
theorem dX9_rain_39 : decode cX9_rain 39 = .ok (.bipush (-104), 2) := by decide +kernel
theorem dX9_rain_41 : decode cX9_rain 41 = .ok (.ireturn, 1) := by decide +kernel
theorem dX9_rain_42 : decode cX9_rain 42 = .ok (.aload_n 0, 1) := by decide +kernel
theorem dX9_rain_43 : decode cX9_rain 43 = .ok (.getfield 19, 3) := by decide +kernel
theorem dX9_rain_46 : decode cX9_rain 46 = .ok (.iload_n 1, 1) := by decide +kernel
theorem dX9_rain_47 : decode cX9_rain 47 = .ok (.invokevirtual 175, 3) := by decide +kernel
theorem dX9_rain_50 : decode cX9_rain 50 = .ok (.ireturn, 1) := by decide +kernel
theorem dX9_cheer_0 : decode cX9_cheer 0 = .ok (.aload_n 0, 1) := by decide +kernel
theorem dX9_cheer_1 : decode cX9_cheer 1 = .ok (.getfield 19, 3) := by decide +kernel
theorem dX9_cheer_4 : decode cX9_cheer 4 = .ok (.iload_n 1, 1) := by decide +kernel
theorem dX9_cheer_5 : decode cX9_cheer 5 = .ok (.invokevirtual 123, 3) := by decide +kernel
theorem dX9_cheer_8 : decode cX9_cheer 8 = .ok (.ifCond .ne 6, 3) := by decide +kernel
theorem dX9_cheer_11 : decode cX9_cheer 11 = .ok (.bipush (-101), 2) := by decide +kernel
theorem dX9_cheer_13 : decode cX9_cheer 13 = .ok (.ireturn, 1) := by decide +kernel
theorem dX9_cheer_14 : decode cX9_cheer 14 = .ok (.aload_n 0, 1) := by decide +kernel
theorem dX9_cheer_15 : decode cX9_cheer 15 = .ok (.getfield 19, 3) := by decide +kernel
theorem dX9_cheer_18 : decode cX9_cheer 18 = .ok (.iload_n 1, 1) := by decide +kernel
theorem dX9_cheer_19 : decode cX9_cheer 19 = .ok (.invokevirtual 178, 3) := by decide +kernel
theorem dX9_cheer_22 : decode cX9_cheer 22 = .ok (.aload_n 0, 1) := by decide +kernel
theorem dX9_cheer_23 : decode cX9_cheer 23 = .ok (.getfield 19, 3) := by decide +kernel
theorem dX9_cheer_26 : decode cX9_cheer 26 = .ok (.getfield 139, 3) := by decide +kernel
theorem dX9_cheer_29 : decode cX9_cheer 29 = .ok (.iload_n 1, 1) := by decide +kernel
theorem dX9_cheer_30 : decode cX9_cheer 30 = .ok (.invokevirtual 131, 3) := by decide +kernel
theorem dX9_cheer_33 : decode cX9_cheer 33 = .ok (.ireturn, 1) := by decide +kernel
theorem dX9_comb_0 : decode cX9_comb 0 = .ok (.aload_n 0, 1) := by decide +kernel
theorem dX9_comb_1 : decode cX9_comb 1 = .ok (.getfield 19, 3) := by decide +kernel
theorem dX9_comb_4 : decode cX9_comb 4 = .ok (.iload_n 1, 1) := by decide +kernel
theorem dX9_comb_5 : decode cX9_comb 5 = .ok (.invokevirtual 123, 3) := by decide +kernel
theorem dX9_comb_8 : decode cX9_comb 8 = .ok (.ifCond .ne 6, 3) := by decide +kernel
theorem dX9_comb_11 : decode cX9_comb 11 = .ok (.bipush (-101), 2) := by decide +kernel
theorem dX9_comb_13 : decode cX9_comb 13 = .ok (.ireturn, 1) := by decide +kernel
theorem dX9_comb_14 : decode cX9_comb 14 = .ok (.aload_n 0, 1) := by decide +kernel
theorem dX9_comb_15 : decode cX9_comb 15 = .ok (.getfield 19, 3) := by decide +kernel
theorem dX9_comb_18 : decode cX9_comb 18 = .ok (.iload_n 1, 1) := by decide +kernel
theorem dX9_comb_19 : decode cX9_comb 19 = .ok (.invokevirtual 181, 3) := by decide +kernel
theorem dX9_comb_22 : decode cX9_comb 22 = .ok (.ifCond .ne 6, 3) := by decide +kernel
theorem dX9_comb_25 : decode cX9_comb 25 = .ok (.bipush (-103), 2) := by decide +kernel
theorem dX9_comb_27 : decode cX9_comb 27 = .ok (.ireturn, 1) := by decide +kernel
theorem dX9_comb_28 : decode cX9_comb 28 = .ok (.aload_n 0, 1) := by decide +kernel
theorem dX9_comb_29 : decode cX9_comb 29 = .ok (.getfield 19, 3) := by decide +kernel
theorem dX9_comb_32 : decode cX9_comb 32 = .ok (.iload_n 1, 1) := by decide +kernel
theorem dX9_comb_33 : decode cX9_comb 33 = .ok (.invokevirtual 184, 3) := by decide +kernel
theorem dX9_comb_36 : decode cX9_comb 36 = .ok (.aload_n 0, 1) := by decide +kernel
theorem dX9_comb_37 : decode cX9_comb 37 = .ok (.getfield 19, 3) := by decide +kernel
theorem dX9_comb_40 : decode cX9_comb 40 = .ok (.getfield 136, 3) := by decide +kernel
theorem dX9_comb_43 : decode cX9_comb 43 = .ok (.iload_n 1, 1) := by decide +kernel
theorem dX9_comb_44 : decode cX9_comb 44 = .ok (.invokevirtual 131, 3) := by decide +kernel
theorem dX9_comb_47 : decode cX9_comb 47 = .ok (.ireturn, 1) := by decide +kernel
theorem dX9_move_0 : decode cX9_move 0 = .ok (.aload_n 0, 1) := by decide +kernel
theorem dX9_move_1 : decode cX9_move 1 = .ok (.getfield 19, 3) := by decide +kernel
theorem dX9_move_4 : decode cX9_move 4 = .ok (.iload_n 1, 1) := by decide +kernel
theorem dX9_move_5 : decode cX9_move 5 = .ok (.invokevirtual 123, 3) := by decide +kernel
theorem dX9_move_8 : decode cX9_move 8 = .ok (.ifCond .ne 6, 3) := by decide +kernel
theorem dX9_move_11 : decode cX9_move 11 = .ok (.bipush (-101), 2) := by decide +kernel
theorem dX9_move_13 : decode cX9_move 13 = .ok (.ireturn, 1) := by decide +kernel
theorem dX9_move_14 : decode cX9_move 14 = .ok (.iload_n 2, 1) := by decide +kernel
theorem dX9_move_15 : decode cX9_move 15 = .ok (.iconst 0, 1) := by decide +kernel
theorem dX9_move_16 : decode cX9_move 16 = .ok (.iconst 4, 1) := by decide +kernel
theorem dX9_move_17 : decode cX9_move 17 = .ok (.invokestatic 82, 3) := by decide +kernel
theorem dX9_move_20 : decode cX9_move 20 = .ok (.ifCond .eq 13, 3) := by decide +kernel
theorem dX9_move_23 : decode cX9_move 23 = .ok (.iload_n 3, 1) := by decide +kernel
theorem dX9_move_24 : decode cX9_move 24 = .ok (.iconst 0, 1) := by decide +kernel
theorem dX9_move_25 : decode cX9_move 25 = .ok (.bipush 9, 2) := by decide +kernel
theorem dX9_move_27 : decode cX9_move 27 = .ok (.invokestatic 82, 3) := by decide +kernel
theorem dX9_move_30 : decode cX9_move 30 = .ok (.ifCond .ne 6, 3) := by decide +kernel
theorem dX9_move_33 : decode cX9_move 33 = .ok (.bipush (-102), 2) := by decide +kernel
theorem dX9_move_35 : decode cX9_move 35 = .ok (.ireturn, 1) := by decide +kernel
theorem dX9_move_36 : decode cX9_move 36 = .ok (.aload_n 0, 1) := by decide +kernel
theorem dX9_move_37 : decode cX9_move 37 = .ok (.getfield 19, 3) := by decide +kernel
theorem dX9_move_40 : decode cX9_move 40 = .ok (.getfield 127, 3) := by decide +kernel
theorem dX9_move_43 : decode cX9_move 43 = .ok (.iload_n 1, 1) := by decide +kernel
theorem dX9_move_44 : decode cX9_move 44 = .ok (.invokevirtual 131, 3) := by decide +kernel
theorem dX9_move_47 : decode cX9_move 47 = .ok (.istore 4, 2) := by decide +kernel
theorem dX9_move_49 : decode cX9_move 49 = .ok (.aload_n 0, 1) := by decide +kernel
theorem dX9_move_50 : decode cX9_move 50 = .ok (.getfield 19, 3) := by decide +kernel
theorem dX9_move_53 : decode cX9_move 53 = .ok (.getfield 127, 3) := by decide +kernel
theorem dX9_move_56 : decode cX9_move 56 = .ok (.iload_n 1, 1) := by decide +kernel
theorem dX9_move_57 : decode cX9_move 57 = .ok (.iload_n 2, 1) := by decide +kernel
theorem dX9_move_58 : decode cX9_move 58 = .ok (.invokevirtual 187, 3) := by decide +kernel
theorem dX9_move_61 : decode cX9_move 61 = .ok (.aload_n 0, 1) := by decide +kernel
theorem dX9_move_62 : decode cX9_move 62 = .ok (.getfield 19, 3) := by decide +kernel
theorem dX9_move_65 : decode cX9_move 65 = .ok (.getfield 139, 3) := by decide +kernel
theorem dX9_move_68 : decode cX9_move 68 = .ok (.iload_n 1, 1) := by decide +kernel
theorem dX9_move_69 : decode cX9_move 69 = .ok (.iload_n 3, 1) := by decide +kernel
theorem dX9_move_70 : decode cX9_move 70 = .ok (.invokevirtual 187, 3) := by decide +kernel
theorem dX9_move_73 : decode cX9_move 73 = .ok (.iload 4, 2) := by decide +kernel
theorem dX9_move_75 : decode cX9_move 75 = .ok (.ireturn, 1) := by decide +kernel
theorem dX9_dry_0 : decode cX9_dry 0 = .ok (.aload_n 0, 1) := by decide +kernel
theorem dX9_dry_1 : decode cX9_dry 1 = .ok (.getfield 19, 3) := by decide +kernel
theorem dX9_dry_4 : decode cX9_dry 4 = .ok (.iload_n 1, 1) := by decide +kernel
theorem dX9_dry_5 : decode cX9_dry 5 = .ok (.invokevirtual 123, 3) := by decide +kernel
theorem dX9_dry_8 : decode cX9_dry 8 = .ok (.ifCond .ne 6, 3) := by decide +kernel
theorem dX9_dry_11 : decode cX9_dry 11 = .ok (.bipush (-101), 2) := by decide +kernel
theorem dX9_dry_13 : decode cX9_dry 13 = .ok (.ireturn, 1) := by decide +kernel
theorem dX9_dry_14 : decode cX9_dry 14 = .ok (.iload_n 2, 1) := by decide +kernel
theorem dX9_dry_15 : decode cX9_dry 15 = .ok (.iconst 0, 1) := by decide +kernel
theorem dX9_dry_16 : decode cX9_dry 16 = .ok (.bipush 20, 2) := by decide +kernel
theorem dX9_dry_18 : decode cX9_dry 18 = .ok (.invokestatic 82, 3) := by decide +kernel
theorem dX9_dry_21 : decode cX9_dry 21 = .ok (.ifCond .ne 6, 3) := by decide +kernel
theorem dX9_dry_24 : decode cX9_dry 24 = .ok (.bipush (-102), 2) := by decide +kernel
theorem dX9_dry_26 : decode cX9_dry 26 = .ok (.ireturn, 1) := by decide +kernel
theorem dX9_dry_27 : decode cX9_dry 27 = .ok (.aload_n 0, 1) := by decide +kernel
theorem dX9_dry_28 : decode cX9_dry 28 = .ok (.getfield 36, 3) := by decide +kernel
theorem dX9_dry_31 : decode cX9_dry 31 = .ok (.aload_n 0, 1) := by decide +kernel
theorem dX9_dry_32 : decode cX9_dry 32 = .ok (.getfield 19, 3) := by decide +kernel
theorem dX9_dry_35 : decode cX9_dry 35 = .ok (.invokevirtual 191, 3) := by decide +kernel
theorem dX9_dry_38 : decode cX9_dry 38 = .ok (.iconst 0, 1) := by decide +kernel
theorem dX9_dry_39 : decode cX9_dry 39 = .ok (.istore_n 3, 1) := by decide +kernel
theorem dX9_dry_40 : decode cX9_dry 40 = .ok (.iload_n 3, 1) := by decide +kernel
theorem dX9_dry_41 : decode cX9_dry 41 = .ok (.bipush 40, 2) := by decide +kernel
theorem dX9_dry_43 : decode cX9_dry 43 = .ok (.if_icmp .gt 30, 3) := by decide +kernel
theorem dX9_dry_46 : decode cX9_dry 46 = .ok (.aload_n 0, 1) := by decide +kernel
theorem dX9_dry_47 : decode cX9_dry 47 = .ok (.getfield 36, 3) := by decide +kernel
theorem dX9_dry_50 : decode cX9_dry 50 = .ok (.iload_n 1, 1) := by decide +kernel
theorem dX9_dry_51 : decode cX9_dry 51 = .ok (.iload_n 2, 1) := by decide +kernel
theorem dX9_dry_52 : decode cX9_dry 52 = .ok (.invokevirtual 195, 3) := by decide +kernel
theorem dX9_dry_55 : decode cX9_dry 55 = .ok (.ifCond .eq 5, 3) := by decide +kernel
theorem dX9_dry_58 : decode cX9_dry 58 = .ok (.iload_n 3, 1) := by decide +kernel
theorem dX9_dry_59 : decode cX9_dry 59 = .ok (.ireturn, 1) := by decide +kernel
theorem dX9_dry_60 : decode cX9_dry 60 = .ok (.aload_n 0, 1) := by decide +kernel
theorem dX9_dry_61 : decode cX9_dry 61 = .ok (.getfield 36, 3) := by decide +kernel
theorem dX9_dry_64 : decode cX9_dry 64 = .ok (.invokevirtual 169, 3) := by decide +kernel
theorem dX9_dry_67 : decode cX9_dry 67 = .ok (.iinc 3 1, 3) := by decide +kernel
theorem dX9_dry_70 : decode cX9_dry 70 = .ok (.goto (-30), 3) := by decide +kernel
theorem dX9_dry_73 : decode cX9_dry 73 = .ok (.iconst (-1), 1) := by decide +kernel
theorem dX9_dry_74 : decode cX9_dry 74 = .ok (.ireturn, 1) := by decide +kernel
theorem dX9_plan_0 : decode cX9_plan 0 = .ok (.iload_n 3, 1) := by decide +kernel
theorem dX9_plan_1 : decode cX9_plan 1 = .ok (.iconst 0, 1) := by decide +kernel
theorem dX9_plan_2 : decode cX9_plan 2 = .ok (.iconst 1, 1) := by decide +kernel
theorem dX9_plan_3 : decode cX9_plan 3 = .ok (.invokestatic 82, 3) := by decide +kernel
theorem dX9_plan_6 : decode cX9_plan 6 = .ok (.ifCond .ne 14, 3) := by decide +kernel
theorem dX9_plan_9 : decode cX9_plan 9 = .ok (.iload_n 3, 1) := by decide +kernel
theorem dX9_plan_10 : decode cX9_plan 10 = .ok (.bipush 10, 2) := by decide +kernel
theorem dX9_plan_12 : decode cX9_plan 12 = .ok (.bipush 13, 2) := by decide +kernel
theorem dX9_plan_14 : decode cX9_plan 14 = .ok (.invokestatic 82, 3) := by decide +kernel
theorem dX9_plan_17 : decode cX9_plan 17 = .ok (.ifCond .eq 7, 3) := by decide +kernel
theorem dX9_plan_20 : decode cX9_plan 20 = .ok (.iconst 1, 1) := by decide +kernel
theorem dX9_plan_21 : decode cX9_plan 21 = .ok (.goto 4, 3) := by decide +kernel
theorem dX9_plan_24 : decode cX9_plan 24 = .ok (.iconst 0, 1) := by decide +kernel
theorem dX9_plan_25 : decode cX9_plan 25 = .ok (.istore 4, 2) := by decide +kernel
theorem dX9_plan_27 : decode cX9_plan 27 = .ok (.iload_n 1, 1) := by decide +kernel
theorem dX9_plan_28 : decode cX9_plan 28 = .ok (.iconst 1, 1) := by decide +kernel
theorem dX9_plan_29 : decode cX9_plan 29 = .ok (.iconst 4, 1) := by decide +kernel
theorem dX9_plan_30 : decode cX9_plan 30 = .ok (.invokestatic 82, 3) := by decide +kernel
theorem dX9_plan_33 : decode cX9_plan 33 = .ok (.ifCond .eq 18, 3) := by decide +kernel
theorem dX9_plan_36 : decode cX9_plan 36 = .ok (.iload_n 2, 1) := by decide +kernel
theorem dX9_plan_37 : decode cX9_plan 37 = .ok (.iconst 0, 1) := by decide +kernel
theorem dX9_plan_38 : decode cX9_plan 38 = .ok (.bipush 20, 2) := by decide +kernel
theorem dX9_plan_40 : decode cX9_plan 40 = .ok (.invokestatic 82, 3) := by decide +kernel
theorem dX9_plan_43 : decode cX9_plan 43 = .ok (.ifCond .eq 8, 3) := by decide +kernel
theorem dX9_plan_46 : decode cX9_plan 46 = .ok (.iload 4, 2) := by decide +kernel
theorem dX9_plan_48 : decode cX9_plan 48 = .ok (.ifCond .ne 6, 3) := by decide +kernel
theorem dX9_plan_51 : decode cX9_plan 51 = .ok (.bipush (-102), 2) := by decide +kernel
theorem dX9_plan_53 : decode cX9_plan 53 = .ok (.ireturn, 1) := by decide +kernel
theorem dX9_plan_54 : decode cX9_plan 54 = .ok (.aload_n 0, 1) := by decide +kernel
theorem dX9_plan_55 : decode cX9_plan 55 = .ok (.getfield 19, 3) := by decide +kernel
theorem dX9_plan_58 : decode cX9_plan 58 = .ok (.getfield 107, 3) := by decide +kernel
theorem dX9_plan_61 : decode cX9_plan 61 = .ok (.ifCond .ne 6, 3) := by decide +kernel
theorem dX9_plan_64 : decode cX9_plan 64 = .ok (.bipush (-103), 2) := by decide +kernel
theorem dX9_plan_66 : decode cX9_plan 66 = .ok (.ireturn, 1) := by decide +kernel
theorem dX9_plan_67 : decode cX9_plan 67 = .ok (.aload_n 0, 1) := by decide +kernel
theorem dX9_plan_68 : decode cX9_plan 68 = .ok (.getfield 49, 3) := by decide +kernel
theorem dX9_plan_71 : decode cX9_plan 71 = .ok (.aload_n 0, 1) := by decide +kernel
theorem dX9_plan_72 : decode cX9_plan 72 = .ok (.getfield 19, 3) := by decide +kernel
theorem dX9_plan_75 : decode cX9_plan 75 = .ok (.iload_n 1, 1) := by decide +kernel
theorem dX9_plan_76 : decode cX9_plan 76 = .ok (.iload_n 2, 1) := by decide +kernel
theorem dX9_plan_77 : decode cX9_plan 77 = .ok (.invokevirtual 198, 3) := by decide +kernel
theorem dX9_plan_80 : decode cX9_plan 80 = .ok (.iload_n 3, 1) := by decide +kernel
theorem dX9_plan_81 : decode cX9_plan 81 = .ok (.ifCond .ne 11, 3) := by decide +kernel
theorem dX9_plan_84 : decode cX9_plan 84 = .ok (.aload_n 0, 1) := by decide +kernel
theorem dX9_plan_85 : decode cX9_plan 85 = .ok (.getfield 49, 3) := by decide +kernel
theorem dX9_plan_88 : decode cX9_plan 88 = .ok (.getfield 202, 3) := by decide +kernel
theorem dX9_plan_91 : decode cX9_plan 91 = .ok (.ireturn, 1) := by decide +kernel
theorem dX9_plan_92 : decode cX9_plan 92 = .ok (.iload_n 3, 1) := by decide +kernel
theorem dX9_plan_93 : decode cX9_plan 93 = .ok (.iconst 1, 1) := by decide +kernel
theorem dX9_plan_94 : decode cX9_plan 94 = .ok (.if_icmp .ne 11, 3) := by decide +kernel
theorem dX9_plan_97 : decode cX9_plan 97 = .ok (.aload_n 0, 1) := by decide +kernel
theorem dX9_plan_98 : decode cX9_plan 98 = .ok (.getfield 49, 3) := by decide +kernel
theorem dX9_plan_101 : decode cX9_plan 101 = .ok (.getfield 205, 3) := by decide +kernel
theorem dX9_plan_104 : decode cX9_plan 104 = .ok (.ireturn, 1) := by decide +kernel
theorem dX9_plan_105 : decode cX9_plan 105 = .ok (.iload_n 3, 1) := by decide +kernel
theorem dX9_plan_106 : decode cX9_plan 106 = .ok (.bipush 10, 2) := by decide +kernel
theorem dX9_plan_108 : decode cX9_plan 108 = .ok (.isub, 1) := by decide +kernel
theorem dX9_plan_109 : decode cX9_plan 109 = .ok (.iload_n 1, 1) := by decide +kernel
theorem dX9_plan_110 : decode cX9_plan 110 = .ok (.if_icmp .ge 20, 3) := by decide +kernel
theorem dX9_plan_113 : decode cX9_plan 113 = .ok (.aload_n 0, 1) := by decide +kernel
theorem dX9_plan_114 : decode cX9_plan 114 = .ok (.getfield 49, 3) := by decide +kernel
theorem dX9_plan_117 : decode cX9_plan 117 = .ok (.getfield 208, 3) := by decide +kernel
theorem dX9_plan_120 : decode cX9_plan 120 = .ok (.iload_n 3, 1) := by decide +kernel
theorem dX9_plan_121 : decode cX9_plan 121 = .ok (.bipush 10, 2) := by decide +kernel
theorem dX9_plan_123 : decode cX9_plan 123 = .ok (.isub, 1) := by decide +kernel
theorem dX9_plan_124 : decode cX9_plan 124 = .ok (.invokevirtual 131, 3) := by decide +kernel
theorem dX9_plan_127 : decode cX9_plan 127 = .ok (.goto 4, 3) := by decide +kernel
theorem dX9_plan_130 : decode cX9_plan 130 = .ok (.iconst (-1), 1) := by decide +kernel
theorem dX9_plan_131 : decode cX9_plan 131 = .ok (.ireturn, 1) := by decide +kernel
theorem dX9_twos_0 : decode cX9_twos 0 = .ok (.iload_n 1, 1) := by decide +kernel
theorem dX9_twos_1 : decode cX9_twos 1 = .ok (.ifCond .eq 17, 3) := by decide +kernel
theorem dX9_twos_4 : decode cX9_twos 4 = .ok (.iload_n 1, 1) := by decide +kernel
theorem dX9_twos_5 : decode cX9_twos 5 = .ok (.bipush 10, 2) := by decide +kernel
theorem dX9_twos_7 : decode cX9_twos 7 = .ok (.bipush 15, 2) := by decide +kernel
theorem dX9_twos_9 : decode cX9_twos 9 = .ok (.invokestatic 82, 3) := by decide +kernel
theorem dX9_twos_12 : decode cX9_twos 12 = .ok (.ifCond .ne 6, 3) := by decide +kernel
theorem dX9_twos_15 : decode cX9_twos 15 = .ok (.bipush (-102), 2) := by decide +kernel
theorem dX9_twos_17 : decode cX9_twos 17 = .ok (.ireturn, 1) := by decide +kernel
theorem dX9_twos_18 : decode cX9_twos 18 = .ok (.aload_n 0, 1) := by decide +kernel
theorem dX9_twos_19 : decode cX9_twos 19 = .ok (.getfield 19, 3) := by decide +kernel
theorem dX9_twos_22 : decode cX9_twos 22 = .ok (.getfield 107, 3) := by decide +kernel
theorem dX9_twos_25 : decode cX9_twos 25 = .ok (.ifCond .ne 6, 3) := by decide +kernel
theorem dX9_twos_28 : decode cX9_twos 28 = .ok (.bipush (-103), 2) := by decide +kernel
theorem dX9_twos_30 : decode cX9_twos 30 = .ok (.ireturn, 1) := by decide +kernel
theorem dX9_twos_31 : decode cX9_twos 31 = .ok (.aload_n 0, 1) := by decide +kernel
theorem dX9_twos_32 : decode cX9_twos 32 = .ok (.getfield 56, 3) := by decide +kernel
theorem dX9_twos_35 : decode cX9_twos 35 = .ok (.aload_n 0, 1) := by decide +kernel
theorem dX9_twos_36 : decode cX9_twos 36 = .ok (.getfield 19, 3) := by decide +kernel
theorem dX9_twos_39 : decode cX9_twos 39 = .ok (.invokevirtual 211, 3) := by decide +kernel
theorem dX9_twos_42 : decode cX9_twos 42 = .ok (.iload_n 1, 1) := by decide +kernel
theorem dX9_twos_43 : decode cX9_twos 43 = .ok (.ifCond .ne 13, 3) := by decide +kernel
theorem dX9_twos_46 : decode cX9_twos 46 = .ok (.aload_n 0, 1) := by decide +kernel
theorem dX9_twos_47 : decode cX9_twos 47 = .ok (.getfield 56, 3) := by decide +kernel
theorem dX9_twos_50 : decode cX9_twos 50 = .ok (.getfield 213, 3) := by decide +kernel
theorem dX9_twos_53 : decode cX9_twos 53 = .ok (.goto 17, 3) := by decide +kernel
theorem dX9_twos_56 : decode cX9_twos 56 = .ok (.aload_n 0, 1) := by decide +kernel
theorem dX9_twos_57 : decode cX9_twos 57 = .ok (.getfield 56, 3) := by decide +kernel
theorem dX9_twos_60 : decode cX9_twos 60 = .ok (.getfield 216, 3) := by decide +kernel
theorem dX9_twos_63 : decode cX9_twos 63 = .ok (.iload_n 1, 1) := by decide +kernel
theorem dX9_twos_64 : decode cX9_twos 64 = .ok (.bipush 10, 2) := by decide +kernel
theorem dX9_twos_66 : decode cX9_twos 66 = .ok (.isub, 1) := by decide +kernel
theorem dX9_twos_67 : decode cX9_twos 67 = .ok (.invokevirtual 131, 3) := by decide +kernel
theorem dX9_twos_70 : decode cX9_twos 70 = .ok (.ireturn, 1) := by decide +kernel
theorem dX9_patch_0 : decode cX9_patch 0 = .ok (.iload_n 1, 1) := by decide +kernel
theorem dX9_patch_1 : decode cX9_patch 1 = .ok (.iconst 0, 1) := by decide +kernel
theorem dX9_patch_2 : decode cX9_patch 2 = .ok (.bipush 20, 2) := by decide +kernel
theorem dX9_patch_4 : decode cX9_patch 4 = .ok (.invokestatic 82, 3) := by decide +kernel
theorem dX9_patch_7 : decode cX9_patch 7 = .ok (.ifCond .eq 22, 3) := by decide +kernel
theorem dX9_patch_10 : decode cX9_patch 10 = .ok (.iload_n 2, 1) := by decide +kernel
theorem dX9_patch_11 : decode cX9_patch 11 = .ok (.iconst 0, 1) := by decide +kernel
theorem dX9_patch_12 : decode cX9_patch 12 = .ok (.bipush 30, 2) := by decide +kernel
theorem dX9_patch_14 : decode cX9_patch 14 = .ok (.invokestatic 82, 3) := by decide +kernel
theorem dX9_patch_17 : decode cX9_patch 17 = .ok (.ifCond .eq 12, 3) := by decide +kernel
theorem dX9_patch_20 : decode cX9_patch 20 = .ok (.iload_n 3, 1) := by decide +kernel
theorem dX9_patch_21 : decode cX9_patch 21 = .ok (.iconst 0, 1) := by decide +kernel
theorem dX9_patch_22 : decode cX9_patch 22 = .ok (.iconst 1, 1) := by decide +kernel
theorem dX9_patch_23 : decode cX9_patch 23 = .ok (.invokestatic 82, 3) := by decide +kernel
theorem dX9_patch_26 : decode cX9_patch 26 = .ok (.ifCond .ne 6, 3) := by decide +kernel
theorem dX9_patch_29 : decode cX9_patch 29 = .ok (.bipush (-102), 2) := by decide +kernel
theorem dX9_patch_31 : decode cX9_patch 31 = .ok (.ireturn, 1) := by decide +kernel
theorem dX9_patch_32 : decode cX9_patch 32 = .ok (.aload_n 0, 1) := by decide +kernel
theorem dX9_patch_33 : decode cX9_patch 33 = .ok (.getfield 19, 3) := by decide +kernel
theorem dX9_patch_36 : decode cX9_patch 36 = .ok (.getfield 107, 3) := by decide +kernel
theorem dX9_patch_39 : decode cX9_patch 39 = .ok (.ifCond .ne 6, 3) := by decide +kernel
theorem dX9_patch_42 : decode cX9_patch 42 = .ok (.bipush (-103), 2) := by decide +kernel
theorem dX9_patch_44 : decode cX9_patch 44 = .ok (.ireturn, 1) := by decide +kernel
theorem dX9_patch_45 : decode cX9_patch 45 = .ok (.aload_n 0, 1) := by decide +kernel
theorem dX9_patch_46 : decode cX9_patch 46 = .ok (.getfield 63, 3) := by decide +kernel
theorem dX9_patch_49 : decode cX9_patch 49 = .ok (.aload_n 0, 1) := by decide +kernel
theorem dX9_patch_50 : decode cX9_patch 50 = .ok (.getfield 19, 3) := by decide +kernel
theorem dX9_patch_53 : decode cX9_patch 53 = .ok (.iload_n 1, 1) := by decide +kernel
theorem dX9_patch_54 : decode cX9_patch 54 = .ok (.iload_n 2, 1) := by decide +kernel
theorem dX9_patch_55 : decode cX9_patch 55 = .ok (.invokevirtual 217, 3) := by decide +kernel
theorem dX9_patch_58 : decode cX9_patch 58 = .ok (.iload_n 3, 1) := by decide +kernel
theorem dX9_patch_59 : decode cX9_patch 59 = .ok (.ifCond .ne 13, 3) := by decide +kernel
theorem dX9_patch_62 : decode cX9_patch 62 = .ok (.aload_n 0, 1) := by decide +kernel
theorem dX9_patch_63 : decode cX9_patch 63 = .ok (.getfield 63, 3) := by decide +kernel
theorem dX9_patch_66 : decode cX9_patch 66 = .ok (.getfield 218, 3) := by decide +kernel
theorem dX9_patch_69 : decode cX9_patch 69 = .ok (.goto 10, 3) := by decide +kernel
theorem dX9_patch_72 : decode cX9_patch 72 = .ok (.aload_n 0, 1) := by decide +kernel
theorem dX9_patch_73 : decode cX9_patch 73 = .ok (.getfield 63, 3) := by decide +kernel
theorem dX9_patch_76 : decode cX9_patch 76 = .ok (.getfield 219, 3) := by decide +kernel
theorem dX9_patch_79 : decode cX9_patch 79 = .ok (.ireturn, 1) := by decide +kernel
theorem dX9_odds_0 : decode cX9_odds 0 = .ok (.aload_n 0, 1) := by decide +kernel
theorem dX9_odds_1 : decode cX9_odds 1 = .ok (.getfield 19, 3) := by decide +kernel
theorem dX9_odds_4 : decode cX9_odds 4 = .ok (.iload_n 1, 1) := by decide +kernel
theorem dX9_odds_5 : decode cX9_odds 5 = .ok (.invokevirtual 123, 3) := by decide +kernel
theorem dX9_odds_8 : decode cX9_odds 8 = .ok (.ifCond .ne 6, 3) := by decide +kernel
theorem dX9_odds_11 : decode cX9_odds 11 = .ok (.bipush (-101), 2) := by decide +kernel
theorem dX9_odds_13 : decode cX9_odds 13 = .ok (.ireturn, 1) := by decide +kernel
theorem dX9_odds_14 : decode cX9_odds 14 = .ok (.iload_n 2, 1) := by decide +kernel
theorem dX9_odds_15 : decode cX9_odds 15 = .ok (.iconst 1, 1) := by decide +kernel
theorem dX9_odds_16 : decode cX9_odds 16 = .ok (.bipush 7, 2) := by decide +kernel
theorem dX9_odds_18 : decode cX9_odds 18 = .ok (.invokestatic 82, 3) := by decide +kernel
theorem dX9_odds_21 : decode cX9_odds 21 = .ok (.ifCond .eq 12, 3) := by decide +kernel
theorem dX9_odds_24 : decode cX9_odds 24 = .ok (.iload_n 3, 1) := by decide +kernel
theorem dX9_odds_25 : decode cX9_odds 25 = .ok (.iconst 0, 1) := by decide +kernel
theorem dX9_odds_26 : decode cX9_odds 26 = .ok (.iconst 1, 1) := by decide +kernel
theorem dX9_odds_27 : decode cX9_odds 27 = .ok (.invokestatic 82, 3) := by decide +kernel
theorem dX9_odds_30 : decode cX9_odds 30 = .ok (.ifCond .ne 6, 3) := by decide +kernel
theorem dX9_odds_33 : decode cX9_odds 33 = .ok (.bipush (-102), 2) := by decide +kernel
theorem dX9_odds_35 : decode cX9_odds 35 = .ok (.ireturn, 1) := by decide +kernel
theorem dX9_odds_36 : decode cX9_odds 36 = .ok (.aload_n 0, 1) := by decide +kernel
theorem dX9_odds_37 : decode cX9_odds 37 = .ok (.getfield 36, 3) := by decide +kernel
theorem dX9_odds_40 : decode cX9_odds 40 = .ok (.aload_n 0, 1) := by decide +kernel
theorem dX9_odds_41 : decode cX9_odds 41 = .ok (.getfield 19, 3) := by decide +kernel
theorem dX9_odds_44 : decode cX9_odds 44 = .ok (.invokevirtual 191, 3) := by decide +kernel
theorem dX9_odds_47 : decode cX9_odds 47 = .ok (.iconst 1, 1) := by decide +kernel
theorem dX9_odds_48 : decode cX9_odds 48 = .ok (.istore 4, 2) := by decide +kernel
theorem dX9_odds_50 : decode cX9_odds 50 = .ok (.iconst 1, 1) := by decide +kernel
theorem dX9_odds_51 : decode cX9_odds 51 = .ok (.istore 5, 2) := by decide +kernel
theorem dX9_odds_53 : decode cX9_odds 53 = .ok (.iconst 1, 1) := by decide +kernel
theorem dX9_odds_54 : decode cX9_odds 54 = .ok (.istore 6, 2) := by decide +kernel
theorem dX9_odds_56 : decode cX9_odds 56 = .ok (.iload 6, 2) := by decide +kernel
theorem dX9_odds_58 : decode cX9_odds 58 = .ok (.iload_n 2, 1) := by decide +kernel
theorem dX9_odds_59 : decode cX9_odds 59 = .ok (.if_icmp .gt 36, 3) := by decide +kernel
theorem dX9_odds_62 : decode cX9_odds 62 = .ok (.aload_n 0, 1) := by decide +kernel
theorem dX9_odds_63 : decode cX9_odds 63 = .ok (.getfield 36, 3) := by decide +kernel
theorem dX9_odds_66 : decode cX9_odds 66 = .ok (.invokevirtual 169, 3) := by decide +kernel
theorem dX9_odds_69 : decode cX9_odds 69 = .ok (.iload 4, 2) := by decide +kernel
theorem dX9_odds_71 : decode cX9_odds 71 = .ok (.aload_n 0, 1) := by decide +kernel
theorem dX9_odds_72 : decode cX9_odds 72 = .ok (.getfield 36, 3) := by decide +kernel
theorem dX9_odds_75 : decode cX9_odds 75 = .ok (.iload_n 1, 1) := by decide +kernel
theorem dX9_odds_76 : decode cX9_odds 76 = .ok (.invokevirtual 222, 3) := by decide +kernel
theorem dX9_odds_79 : decode cX9_odds 79 = .ok (.imul, 1) := by decide +kernel
theorem dX9_odds_80 : decode cX9_odds 80 = .ok (.istore 4, 2) := by decide +kernel
theorem dX9_odds_82 : decode cX9_odds 82 = .ok (.iload 5, 2) := by decide +kernel
theorem dX9_odds_84 : decode cX9_odds 84 = .ok (.bipush 10, 2) := by decide +kernel
theorem dX9_odds_86 : decode cX9_odds 86 = .ok (.imul, 1) := by decide +kernel
theorem dX9_odds_87 : decode cX9_odds 87 = .ok (.istore 5, 2) := by decide +kernel
theorem dX9_odds_89 : decode cX9_odds 89 = .ok (.iinc 6 1, 3) := by decide +kernel
theorem dX9_odds_92 : decode cX9_odds 92 = .ok (.goto (-36), 3) := by decide +kernel
theorem dX9_odds_95 : decode cX9_odds 95 = .ok (.iload_n 3, 1) := by decide +kernel
theorem dX9_odds_96 : decode cX9_odds 96 = .ok (.ifCond .ne 14, 3) := by decide +kernel
theorem dX9_odds_99 : decode cX9_odds 99 = .ok (.iload 4, 2) := by decide +kernel
theorem dX9_odds_101 : decode cX9_odds 101 = .ok (.iload 5, 2) := by decide +kernel
theorem dX9_odds_103 : decode cX9_odds 103 = .ok (.iload_n 2, 1) := by decide +kernel
theorem dX9_odds_104 : decode cX9_odds 104 = .ok (.invokestatic 225, 3) := by decide +kernel
theorem dX9_odds_107 : decode cX9_odds 107 = .ok (.goto 11, 3) := by decide +kernel
theorem dX9_odds_110 : decode cX9_odds 110 = .ok (.iload 5, 2) := by decide +kernel
theorem dX9_odds_112 : decode cX9_odds 112 = .ok (.iload 4, 2) := by decide +kernel
theorem dX9_odds_114 : decode cX9_odds 114 = .ok (.iload_n 2, 1) := by decide +kernel
theorem dX9_odds_115 : decode cX9_odds 115 = .ok (.invokestatic 225, 3) := by decide +kernel
theorem dX9_odds_118 : decode cX9_odds 118 = .ok (.ireturn, 1) := by decide +kernel
theorem dX9_see_0 : decode cX9_see 0 = .ok (.aload_n 0, 1) := by decide +kernel
theorem dX9_see_1 : decode cX9_see 1 = .ok (.getfield 19, 3) := by decide +kernel
theorem dX9_see_4 : decode cX9_see 4 = .ok (.iload_n 1, 1) := by decide +kernel
theorem dX9_see_5 : decode cX9_see 5 = .ok (.invokevirtual 123, 3) := by decide +kernel
theorem dX9_see_8 : decode cX9_see 8 = .ok (.ifCond .ne 6, 3) := by decide +kernel
theorem dX9_see_11 : decode cX9_see 11 = .ok (.bipush (-101), 2) := by decide +kernel
theorem dX9_see_13 : decode cX9_see 13 = .ok (.ireturn, 1) := by decide +kernel
theorem dX9_see_14 : decode cX9_see 14 = .ok (.iload_n 2, 1) := by decide +kernel
theorem dX9_see_15 : decode cX9_see 15 = .ok (.iconst 1, 1) := by decide +kernel
theorem dX9_see_16 : decode cX9_see 16 = .ok (.bipush 9, 2) := by decide +kernel
theorem dX9_see_18 : decode cX9_see 18 = .ok (.invokestatic 82, 3) := by decide +kernel
theorem dX9_see_21 : decode cX9_see 21 = .ok (.ifCond .eq 13, 3) := by decide +kernel
theorem dX9_see_24 : decode cX9_see 24 = .ok (.iload_n 3, 1) := by decide +kernel
theorem dX9_see_25 : decode cX9_see 25 = .ok (.iconst 0, 1) := by decide +kernel
theorem dX9_see_26 : decode cX9_see 26 = .ok (.bipush 20, 2) := by decide +kernel
theorem dX9_see_28 : decode cX9_see 28 = .ok (.invokestatic 82, 3) := by decide +kernel
theorem dX9_see_31 : decode cX9_see 31 = .ok (.ifCond .ne 6, 3) := by decide +kernel
theorem dX9_see_34 : decode cX9_see 34 = .ok (.bipush (-102), 2) := by decide +kernel
theorem dX9_see_36 : decode cX9_see 36 = .ok (.ireturn, 1) := by decide +kernel
theorem dX9_see_37 : decode cX9_see 37 = .ok (.aload_n 0, 1) := by decide +kernel
theorem dX9_see_38 : decode cX9_see 38 = .ok (.getfield 26, 3) := by decide +kernel
theorem dX9_see_41 : decode cX9_see 41 = .ok (.getfield 122, 3) := by decide +kernel
theorem dX9_see_44 : decode cX9_see 44 = .ok (.bipush 6, 2) := by decide +kernel
theorem dX9_see_46 : decode cX9_see 46 = .ok (.if_icmp .lt 6, 3) := by decide +kernel
theorem dX9_see_49 : decode cX9_see 49 = .ok (.bipush (-104), 2) := by decide +kernel
theorem dX9_see_51 : decode cX9_see 51 = .ok (.ireturn, 1) := by decide +kernel
theorem dX9_see_52 : decode cX9_see 52 = .ok (.aload_n 0, 1) := by decide +kernel
theorem dX9_see_53 : decode cX9_see 53 = .ok (.getfield 26, 3) := by decide +kernel
theorem dX9_see_56 : decode cX9_see 56 = .ok (.iload_n 1, 1) := by decide +kernel
theorem dX9_see_57 : decode cX9_see 57 = .ok (.iload_n 2, 1) := by decide +kernel
theorem dX9_see_58 : decode cX9_see 58 = .ok (.iload_n 3, 1) := by decide +kernel
theorem dX9_see_59 : decode cX9_see 59 = .ok (.invokevirtual 229, 3) := by decide +kernel
theorem dX9_see_62 : decode cX9_see 62 = .ok (.aload_n 0, 1) := by decide +kernel
theorem dX9_see_63 : decode cX9_see 63 = .ok (.getfield 26, 3) := by decide +kernel
theorem dX9_see_66 : decode cX9_see 66 = .ok (.getfield 122, 3) := by decide +kernel
theorem dX9_see_69 : decode cX9_see 69 = .ok (.ireturn, 1) := by decide +kernel
theorem dX9_forget_0 : decode cX9_forget 0 = .ok (.aload_n 0, 1) := by decide +kernel
theorem dX9_forget_1 : decode cX9_forget 1 = .ok (.getfield 26, 3) := by decide +kernel
theorem dX9_forget_4 : decode cX9_forget 4 = .ok (.getfield 122, 3) := by decide +kernel
theorem dX9_forget_7 : decode cX9_forget 7 = .ok (.istore_n 1, 1) := by decide +kernel
theorem dX9_forget_8 : decode cX9_forget 8 = .ok (.aload_n 0, 1) := by decide +kernel
theorem dX9_forget_9 : decode cX9_forget 9 = .ok (.getfield 26, 3) := by decide +kernel
theorem dX9_forget_12 : decode cX9_forget 12 = .ok (.iconst 0, 1) := by decide +kernel
theorem dX9_forget_13 : decode cX9_forget 13 = .ok (.putfield 122, 3) := by decide +kernel
theorem dX9_forget_16 : decode cX9_forget 16 = .ok (.iload_n 1, 1) := by decide +kernel
theorem dX9_forget_17 : decode cX9_forget 17 = .ok (.ireturn, 1) := by decide +kernel
theorem dX9_ages_0 : decode cX9_ages 0 = .ok (.iload_n 1, 1) := by decide +kernel
theorem dX9_ages_1 : decode cX9_ages 1 = .ok (.iconst 1, 1) := by decide +kernel
theorem dX9_ages_2 : decode cX9_ages 2 = .ok (.bipush 60, 2) := by decide +kernel
theorem dX9_ages_4 : decode cX9_ages 4 = .ok (.invokestatic 82, 3) := by decide +kernel
theorem dX9_ages_7 : decode cX9_ages 7 = .ok (.ifCond .eq 16, 3) := by decide +kernel
theorem dX9_ages_10 : decode cX9_ages 10 = .ok (.iload_n 2, 1) := by decide +kernel
theorem dX9_ages_11 : decode cX9_ages 11 = .ok (.ifCond .lt 12, 3) := by decide +kernel
theorem dX9_ages_14 : decode cX9_ages 14 = .ok (.iload_n 3, 1) := by decide +kernel
theorem dX9_ages_15 : decode cX9_ages 15 = .ok (.iconst 0, 1) := by decide +kernel
theorem dX9_ages_16 : decode cX9_ages 16 = .ok (.iconst 2, 1) := by decide +kernel
theorem dX9_ages_17 : decode cX9_ages 17 = .ok (.invokestatic 82, 3) := by decide +kernel
theorem dX9_ages_20 : decode cX9_ages 20 = .ok (.ifCond .ne 6, 3) := by decide +kernel
theorem dX9_ages_23 : decode cX9_ages 23 = .ok (.bipush (-102), 2) := by decide +kernel
theorem dX9_ages_25 : decode cX9_ages 25 = .ok (.ireturn, 1) := by decide +kernel
theorem dX9_ages_26 : decode cX9_ages 26 = .ok (.aload_n 0, 1) := by decide +kernel
theorem dX9_ages_27 : decode cX9_ages 27 = .ok (.getfield 19, 3) := by decide +kernel
theorem dX9_ages_30 : decode cX9_ages 30 = .ok (.getfield 107, 3) := by decide +kernel
theorem dX9_ages_33 : decode cX9_ages 33 = .ok (.ifCond .ne 6, 3) := by decide +kernel
theorem dX9_ages_36 : decode cX9_ages 36 = .ok (.bipush (-103), 2) := by decide +kernel
theorem dX9_ages_38 : decode cX9_ages 38 = .ok (.ireturn, 1) := by decide +kernel
theorem dX9_ages_39 : decode cX9_ages 39 = .ok (.aload_n 0, 1) := by decide +kernel
theorem dX9_ages_40 : decode cX9_ages 40 = .ok (.getfield 36, 3) := by decide +kernel
theorem dX9_ages_43 : decode cX9_ages 43 = .ok (.aload_n 0, 1) := by decide +kernel
theorem dX9_ages_44 : decode cX9_ages 44 = .ok (.getfield 19, 3) := by decide +kernel
theorem dX9_ages_47 : decode cX9_ages 47 = .ok (.invokevirtual 191, 3) := by decide +kernel
theorem dX9_ages_50 : decode cX9_ages 50 = .ok (.aload_n 0, 1) := by decide +kernel
theorem dX9_ages_51 : decode cX9_ages 51 = .ok (.getfield 70, 3) := by decide +kernel
theorem dX9_ages_54 : decode cX9_ages 54 = .ok (.iload_n 2, 1) := by decide +kernel
theorem dX9_ages_55 : decode cX9_ages 55 = .ok (.i2l, 1) := by decide +kernel
theorem dX9_ages_56 : decode cX9_ages 56 = .ok (.putfield 232, 3) := by decide +kernel
theorem dX9_ages_59 : decode cX9_ages 59 = .ok (.iconst 0, 1) := by decide +kernel
theorem dX9_ages_60 : decode cX9_ages 60 = .ok (.istore 4, 2) := by decide +kernel
theorem dX9_ages_62 : decode cX9_ages 62 = .ok (.iconst 0, 1) := by decide +kernel
theorem dX9_ages_63 : decode cX9_ages 63 = .ok (.istore 5, 2) := by decide +kernel
theorem dX9_ages_65 : decode cX9_ages 65 = .ok (.iload 5, 2) := by decide +kernel
theorem dX9_ages_67 : decode cX9_ages 67 = .ok (.iload_n 1, 1) := by decide +kernel
theorem dX9_ages_68 : decode cX9_ages 68 = .ok (.if_icmp .ge 18, 3) := by decide +kernel
theorem dX9_ages_71 : decode cX9_ages 71 = .ok (.iload 4, 2) := by decide +kernel
theorem dX9_ages_73 : decode cX9_ages 73 = .ok (.aload_n 0, 1) := by decide +kernel
theorem dX9_ages_74 : decode cX9_ages 74 = .ok (.invokevirtual 236, 3) := by decide +kernel
theorem dX9_ages_77 : decode cX9_ages 77 = .ok (.iadd, 1) := by decide +kernel
theorem dX9_ages_78 : decode cX9_ages 78 = .ok (.istore 4, 2) := by decide +kernel
theorem dX9_ages_80 : decode cX9_ages 80 = .ok (.iinc 5 1, 3) := by decide +kernel
theorem dX9_ages_83 : decode cX9_ages 83 = .ok (.goto (-18), 3) := by decide +kernel
theorem dX9_ages_86 : decode cX9_ages 86 = .ok (.iload_n 3, 1) := by decide +kernel
theorem dX9_ages_87 : decode cX9_ages 87 = .ok (.lookupswitch 36 #[(0, 25), (1, 28)], 25) := by decide +kernel
theorem dX9_ages_112 : decode cX9_ages 112 = .ok (.iload 4, 2) := by decide +kernel
theorem dX9_ages_114 : decode cX9_ages 114 = .ok (.ireturn, 1) := by decide +kernel
theorem dX9_ages_115 : decode cX9_ages 115 = .ok (.aload_n 0, 1) := by decide +kernel
theorem dX9_ages_116 : decode cX9_ages 116 = .ok (.getfield 36, 3) := by decide +kernel
theorem dX9_ages_119 : decode cX9_ages 119 = .ok (.invokevirtual 239, 3) := by decide +kernel
theorem dX9_ages_122 : decode cX9_ages 122 = .ok (.ireturn, 1) := by decide +kernel
theorem dX9_ages_123 : decode cX9_ages 123 = .ok (.aload_n 0, 1) := by decide +kernel
theorem dX9_ages_124 : decode cX9_ages 124 = .ok (.getfield 70, 3) := by decide +kernel
theorem dX9_ages_127 : decode cX9_ages 127 = .ok (.getfield 232, 3) := by decide +kernel
theorem dX9_ages_130 : decode cX9_ages 130 = .ok (.l2i, 1) := by decide +kernel
theorem dX9_ages_131 : decode cX9_ages 131 = .ok (.ireturn, 1) := by decide +kernel
theorem dX9_image_0 : decode cX9_image 0 = .ok (.aload_n 0, 1) := by decide +kernel
theorem dX9_image_1 : decode cX9_image 1 = .ok (.getfield 19, 3) := by decide +kernel
theorem dX9_image_4 : decode cX9_image 4 = .ok (.getfield 107, 3) := by decide +kernel
theorem dX9_image_7 : decode cX9_image 7 = .ok (.ifCond .ne 6, 3) := by decide +kernel
theorem dX9_image_10 : decode cX9_image 10 = .ok (.bipush (-103), 2) := by decide +kernel
theorem dX9_image_12 : decode cX9_image 12 = .ok (.ireturn, 1) := by decide +kernel
theorem dX9_image_13 : decode cX9_image 13 = .ok (.aload_n 0, 1) := by decide +kernel
theorem dX9_image_14 : decode cX9_image 14 = .ok (.getfield 30, 3) := by decide +kernel
theorem dX9_image_17 : decode cX9_image 17 = .ok (.aload_n 0, 1) := by decide +kernel
theorem dX9_image_18 : decode cX9_image 18 = .ok (.getfield 19, 3) := by decide +kernel
theorem dX9_image_21 : decode cX9_image 21 = .ok (.invokevirtual 191, 3) := by decide +kernel
theorem dX9_image_24 : decode cX9_image 24 = .ok (.aload_n 0, 1) := by decide +kernel
theorem dX9_image_25 : decode cX9_image 25 = .ok (.getfield 33, 3) := by decide +kernel
theorem dX9_image_28 : decode cX9_image 28 = .ok (.aload_n 0, 1) := by decide +kernel
theorem dX9_image_29 : decode cX9_image 29 = .ok (.getfield 26, 3) := by decide +kernel
theorem dX9_image_32 : decode cX9_image 32 = .ok (.invokevirtual 242, 3) := by decide +kernel
theorem dX9_image_35 : decode cX9_image 35 = .ok (.aload_n 0, 1) := by decide +kernel
theorem dX9_image_36 : decode cX9_image 36 = .ok (.iconst 1, 1) := by decide +kernel
theorem dX9_image_37 : decode cX9_image 37 = .ok (.putfield 74, 3) := by decide +kernel
theorem dX9_image_40 : decode cX9_image 40 = .ok (.aload_n 0, 1) := by decide +kernel
theorem dX9_image_41 : decode cX9_image 41 = .ok (.getfield 19, 3) := by decide +kernel
theorem dX9_image_44 : decode cX9_image 44 = .ok (.getfield 166, 3) := by decide +kernel
theorem dX9_image_47 : decode cX9_image 47 = .ok (.ireturn, 1) := by decide +kernel
theorem dX9_restore_0 : decode cX9_restore 0 = .ok (.aload_n 0, 1) := by decide +kernel
theorem dX9_restore_1 : decode cX9_restore 1 = .ok (.getfield 74, 3) := by decide +kernel
theorem dX9_restore_4 : decode cX9_restore 4 = .ok (.ifCond .ne 6, 3) := by decide +kernel
theorem dX9_restore_7 : decode cX9_restore 7 = .ok (.bipush (-103), 2) := by decide +kernel
theorem dX9_restore_9 : decode cX9_restore 9 = .ok (.ireturn, 1) := by decide +kernel
theorem dX9_restore_10 : decode cX9_restore 10 = .ok (.aload_n 0, 1) := by decide +kernel
theorem dX9_restore_11 : decode cX9_restore 11 = .ok (.getfield 19, 3) := by decide +kernel
theorem dX9_restore_14 : decode cX9_restore 14 = .ok (.aload_n 0, 1) := by decide +kernel
theorem dX9_restore_15 : decode cX9_restore 15 = .ok (.getfield 30, 3) := by decide +kernel
theorem dX9_restore_18 : decode cX9_restore 18 = .ok (.invokevirtual 191, 3) := by decide +kernel
theorem dX9_restore_21 : decode cX9_restore 21 = .ok (.aload_n 0, 1) := by decide +kernel
theorem dX9_restore_22 : decode cX9_restore 22 = .ok (.getfield 26, 3) := by decide +kernel
theorem dX9_restore_25 : decode cX9_restore 25 = .ok (.aload_n 0, 1) := by decide +kernel
theorem dX9_restore_26 : decode cX9_restore 26 = .ok (.getfield 33, 3) := by decide +kernel
theorem dX9_restore_29 : decode cX9_restore 29 = .ok (.invokevirtual 242, 3) := by decide +kernel
theorem dX9_restore_32 : decode cX9_restore 32 = .ok (.aload_n 0, 1) := by decide +kernel
theorem dX9_restore_33 : decode cX9_restore 33 = .ok (.getfield 19, 3) := by decide +kernel
theorem dX9_restore_36 : decode cX9_restore 36 = .ok (.getfield 166, 3) := by decide +kernel
theorem dX9_restore_39 : decode cX9_restore 39 = .ok (.ireturn, 1) := by decide +kernel
theorem dX9_count_0 : decode cX9_count 0 = .ok (.iload_n 1, 1) := by decide +kernel
theorem dX9_count_1 : decode cX9_count 1 = .ok (.tableswitch 132 0 9 #[55, 63, 71, 79, 87, 95, 103, 111, 119, 127], 55) := by decide +kernel
theorem dX9_count_56 : decode cX9_count 56 = .ok (.aload_n 0, 1) := by decide +kernel
theorem dX9_count_57 : decode cX9_count 57 = .ok (.getfield 19, 3) := by decide +kernel
theorem dX9_count_60 : decode cX9_count 60 = .ok (.getfield 107, 3) := by decide +kernel
theorem dX9_count_63 : decode cX9_count 63 = .ok (.ireturn, 1) := by decide +kernel
theorem dX9_count_64 : decode cX9_count 64 = .ok (.aload_n 0, 1) := by decide +kernel
theorem dX9_count_65 : decode cX9_count 65 = .ok (.getfield 19, 3) := by decide +kernel
theorem dX9_count_68 : decode cX9_count 68 = .ok (.invokevirtual 239, 3) := by decide +kernel
theorem dX9_count_71 : decode cX9_count 71 = .ok (.ireturn, 1) := by decide +kernel
theorem dX9_count_72 : decode cX9_count 72 = .ok (.aload_n 0, 1) := by decide +kernel
theorem dX9_count_73 : decode cX9_count 73 = .ok (.getfield 19, 3) := by decide +kernel
theorem dX9_count_76 : decode cX9_count 76 = .ok (.invokevirtual 245, 3) := by decide +kernel
theorem dX9_count_79 : decode cX9_count 79 = .ok (.ireturn, 1) := by decide +kernel
theorem dX9_count_80 : decode cX9_count 80 = .ok (.aload_n 0, 1) := by decide +kernel
theorem dX9_count_81 : decode cX9_count 81 = .ok (.getfield 19, 3) := by decide +kernel
theorem dX9_count_84 : decode cX9_count 84 = .ok (.invokevirtual 248, 3) := by decide +kernel
theorem dX9_count_87 : decode cX9_count 87 = .ok (.ireturn, 1) := by decide +kernel
theorem dX9_count_88 : decode cX9_count 88 = .ok (.aload_n 0, 1) := by decide +kernel
theorem dX9_count_89 : decode cX9_count 89 = .ok (.getfield 19, 3) := by decide +kernel
theorem dX9_count_92 : decode cX9_count 92 = .ok (.invokevirtual 251, 3) := by decide +kernel
theorem dX9_count_95 : decode cX9_count 95 = .ok (.ireturn, 1) := by decide +kernel
theorem dX9_count_96 : decode cX9_count 96 = .ok (.aload_n 0, 1) := by decide +kernel
theorem dX9_count_97 : decode cX9_count 97 = .ok (.getfield 19, 3) := by decide +kernel
theorem dX9_count_100 : decode cX9_count 100 = .ok (.getfield 166, 3) := by decide +kernel
theorem dX9_count_103 : decode cX9_count 103 = .ok (.ireturn, 1) := by decide +kernel
theorem dX9_count_104 : decode cX9_count 104 = .ok (.aload_n 0, 1) := by decide +kernel
theorem dX9_count_105 : decode cX9_count 105 = .ok (.getfield 19, 3) := by decide +kernel
theorem dX9_count_108 : decode cX9_count 108 = .ok (.getfield 172, 3) := by decide +kernel
theorem dX9_count_111 : decode cX9_count 111 = .ok (.ireturn, 1) := by decide +kernel
theorem dX9_count_112 : decode cX9_count 112 = .ok (.aload_n 0, 1) := by decide +kernel
theorem dX9_count_113 : decode cX9_count 113 = .ok (.getfield 26, 3) := by decide +kernel
theorem dX9_count_116 : decode cX9_count 116 = .ok (.getfield 122, 3) := by decide +kernel
theorem dX9_count_119 : decode cX9_count 119 = .ok (.ireturn, 1) := by decide +kernel
theorem dX9_count_120 : decode cX9_count 120 = .ok (.aload_n 0, 1) := by decide +kernel
theorem dX9_count_121 : decode cX9_count 121 = .ok (.getfield 10, 3) := by decide +kernel
theorem dX9_count_124 : decode cX9_count 124 = .ok (.getfield 86, 3) := by decide +kernel
theorem dX9_count_127 : decode cX9_count 127 = .ok (.ireturn, 1) := by decide +kernel
theorem dX9_count_128 : decode cX9_count 128 = .ok (.aload_n 0, 1) := by decide +kernel
theorem dX9_count_129 : decode cX9_count 129 = .ok (.getfield 78, 3) := by decide +kernel
theorem dX9_count_132 : decode cX9_count 132 = .ok (.ireturn, 1) := by decide +kernel
theorem dX9_count_133 : decode cX9_count 133 = .ok (.bipush (-102), 2) := by decide +kernel
theorem dX9_count_135 : decode cX9_count 135 = .ok (.ireturn, 1) := by decide +kernel
theorem dX9_digest_0 : decode cX9_digest 0 = .ok (.ldc2_w 254, 3) := by decide +kernel
theorem dX9_digest_3 : decode cX9_digest 3 = .ok (.lstore_n 1, 1) := by decide +kernel
theorem dX9_digest_4 : decode cX9_digest 4 = .ok (.iconst 0, 1) := by decide +kernel
theorem dX9_digest_5 : decode cX9_digest 5 = .ok (.istore_n 3, 1) := by decide +kernel
theorem dX9_digest_6 : decode cX9_digest 6 = .ok (.iload_n 3, 1) := by decide +kernel
theorem dX9_digest_7 : decode cX9_digest 7 = .ok (.aload_n 0, 1) := by decide +kernel
theorem dX9_digest_8 : decode cX9_digest 8 = .ok (.getfield 19, 3) := by decide +kernel
theorem dX9_digest_11 : decode cX9_digest 11 = .ok (.getfield 107, 3) := by decide +kernel
theorem dX9_digest_14 : decode cX9_digest 14 = .ok (.if_icmp .ge 16, 3) := by decide +kernel
theorem dX9_digest_17 : decode cX9_digest 17 = .ok (.aload_n 0, 1) := by decide +kernel
theorem dX9_digest_18 : decode cX9_digest 18 = .ok (.lload_n 1, 1) := by decide +kernel
theorem dX9_digest_19 : decode cX9_digest 19 = .ok (.iload_n 3, 1) := by decide +kernel
theorem dX9_digest_20 : decode cX9_digest 20 = .ok (.invokevirtual 256, 3) := by decide +kernel
theorem dX9_digest_23 : decode cX9_digest 23 = .ok (.lstore_n 1, 1) := by decide +kernel
theorem dX9_digest_24 : decode cX9_digest 24 = .ok (.iinc 3 1, 3) := by decide +kernel
theorem dX9_digest_27 : decode cX9_digest 27 = .ok (.goto (-21), 3) := by decide +kernel
theorem dX9_digest_30 : decode cX9_digest 30 = .ok (.aload_n 0, 1) := by decide +kernel
theorem dX9_digest_31 : decode cX9_digest 31 = .ok (.getfield 19, 3) := by decide +kernel
theorem dX9_digest_34 : decode cX9_digest 34 = .ok (.getfield 107, 3) := by decide +kernel
theorem dX9_digest_37 : decode cX9_digest 37 = .ok (.ifCond .le 140, 3) := by decide +kernel
theorem dX9_digest_40 : decode cX9_digest 40 = .ok (.lload_n 1, 1) := by decide +kernel
theorem dX9_digest_41 : decode cX9_digest 41 = .ok (.aload_n 0, 1) := by decide +kernel
theorem dX9_digest_42 : decode cX9_digest 42 = .ok (.bipush 9, 2) := by decide +kernel
theorem dX9_digest_44 : decode cX9_digest 44 = .ok (.invokevirtual 260, 3) := by decide +kernel
theorem dX9_digest_47 : decode cX9_digest 47 = .ok (.i2l, 1) := by decide +kernel
theorem dX9_digest_48 : decode cX9_digest 48 = .ok (.invokestatic 263, 3) := by decide +kernel
theorem dX9_digest_51 : decode cX9_digest 51 = .ok (.lstore_n 1, 1) := by decide +kernel
theorem dX9_digest_52 : decode cX9_digest 52 = .ok (.lload_n 1, 1) := by decide +kernel
theorem dX9_digest_53 : decode cX9_digest 53 = .ok (.aload_n 0, 1) := by decide +kernel
theorem dX9_digest_54 : decode cX9_digest 54 = .ok (.iconst 2, 1) := by decide +kernel
theorem dX9_digest_55 : decode cX9_digest 55 = .ok (.bipush 9, 2) := by decide +kernel
theorem dX9_digest_57 : decode cX9_digest 57 = .ok (.iconst 0, 1) := by decide +kernel
theorem dX9_digest_58 : decode cX9_digest 58 = .ok (.invokevirtual 267, 3) := by decide +kernel
theorem dX9_digest_61 : decode cX9_digest 61 = .ok (.i2l, 1) := by decide +kernel
theorem dX9_digest_62 : decode cX9_digest 62 = .ok (.invokestatic 263, 3) := by decide +kernel
theorem dX9_digest_65 : decode cX9_digest 65 = .ok (.lstore_n 1, 1) := by decide +kernel
theorem dX9_digest_66 : decode cX9_digest 66 = .ok (.lload_n 1, 1) := by decide +kernel
theorem dX9_digest_67 : decode cX9_digest 67 = .ok (.aload_n 0, 1) := by decide +kernel
theorem dX9_digest_68 : decode cX9_digest 68 = .ok (.iconst 2, 1) := by decide +kernel
theorem dX9_digest_69 : decode cX9_digest 69 = .ok (.bipush 9, 2) := by decide +kernel
theorem dX9_digest_71 : decode cX9_digest 71 = .ok (.iconst 1, 1) := by decide +kernel
theorem dX9_digest_72 : decode cX9_digest 72 = .ok (.invokevirtual 267, 3) := by decide +kernel
theorem dX9_digest_75 : decode cX9_digest 75 = .ok (.i2l, 1) := by decide +kernel
theorem dX9_digest_76 : decode cX9_digest 76 = .ok (.invokestatic 263, 3) := by decide +kernel
theorem dX9_digest_79 : decode cX9_digest 79 = .ok (.lstore_n 1, 1) := by decide +kernel
theorem dX9_digest_80 : decode cX9_digest 80 = .ok (.lload_n 1, 1) := by decide +kernel
theorem dX9_digest_81 : decode cX9_digest 81 = .ok (.aload_n 0, 1) := by decide +kernel
theorem dX9_digest_82 : decode cX9_digest 82 = .ok (.iconst 2, 1) := by decide +kernel
theorem dX9_digest_83 : decode cX9_digest 83 = .ok (.bipush 9, 2) := by decide +kernel
theorem dX9_digest_85 : decode cX9_digest 85 = .ok (.bipush 10, 2) := by decide +kernel
theorem dX9_digest_87 : decode cX9_digest 87 = .ok (.invokevirtual 267, 3) := by decide +kernel
theorem dX9_digest_90 : decode cX9_digest 90 = .ok (.i2l, 1) := by decide +kernel
theorem dX9_digest_91 : decode cX9_digest 91 = .ok (.invokestatic 263, 3) := by decide +kernel
theorem dX9_digest_94 : decode cX9_digest 94 = .ok (.lstore_n 1, 1) := by decide +kernel
theorem dX9_digest_95 : decode cX9_digest 95 = .ok (.lload_n 1, 1) := by decide +kernel
theorem dX9_digest_96 : decode cX9_digest 96 = .ok (.aload_n 0, 1) := by decide +kernel
theorem dX9_digest_97 : decode cX9_digest 97 = .ok (.iconst 2, 1) := by decide +kernel
theorem dX9_digest_98 : decode cX9_digest 98 = .ok (.bipush 9, 2) := by decide +kernel
theorem dX9_digest_100 : decode cX9_digest 100 = .ok (.bipush 11, 2) := by decide +kernel
theorem dX9_digest_102 : decode cX9_digest 102 = .ok (.invokevirtual 267, 3) := by decide +kernel
theorem dX9_digest_105 : decode cX9_digest 105 = .ok (.i2l, 1) := by decide +kernel
theorem dX9_digest_106 : decode cX9_digest 106 = .ok (.invokestatic 263, 3) := by decide +kernel
theorem dX9_digest_109 : decode cX9_digest 109 = .ok (.lstore_n 1, 1) := by decide +kernel
theorem dX9_digest_110 : decode cX9_digest 110 = .ok (.lload_n 1, 1) := by decide +kernel
theorem dX9_digest_111 : decode cX9_digest 111 = .ok (.aload_n 0, 1) := by decide +kernel
theorem dX9_digest_112 : decode cX9_digest 112 = .ok (.iconst 0, 1) := by decide +kernel
theorem dX9_digest_113 : decode cX9_digest 113 = .ok (.invokevirtual 270, 3) := by decide +kernel
theorem dX9_digest_116 : decode cX9_digest 116 = .ok (.i2l, 1) := by decide +kernel
theorem dX9_digest_117 : decode cX9_digest 117 = .ok (.invokestatic 263, 3) := by decide +kernel
theorem dX9_digest_120 : decode cX9_digest 120 = .ok (.lstore_n 1, 1) := by decide +kernel
theorem dX9_digest_121 : decode cX9_digest 121 = .ok (.bipush 10, 2) := by decide +kernel
theorem dX9_digest_123 : decode cX9_digest 123 = .ok (.istore_n 3, 1) := by decide +kernel
theorem dX9_digest_124 : decode cX9_digest 124 = .ok (.iload_n 3, 1) := by decide +kernel
theorem dX9_digest_125 : decode cX9_digest 125 = .ok (.bipush 15, 2) := by decide +kernel
theorem dX9_digest_127 : decode cX9_digest 127 = .ok (.if_icmp .gt 20, 3) := by decide +kernel
theorem dX9_digest_130 : decode cX9_digest 130 = .ok (.lload_n 1, 1) := by decide +kernel
theorem dX9_digest_131 : decode cX9_digest 131 = .ok (.aload_n 0, 1) := by decide +kernel
theorem dX9_digest_132 : decode cX9_digest 132 = .ok (.iload_n 3, 1) := by decide +kernel
theorem dX9_digest_133 : decode cX9_digest 133 = .ok (.invokevirtual 270, 3) := by decide +kernel
theorem dX9_digest_136 : decode cX9_digest 136 = .ok (.i2l, 1) := by decide +kernel
theorem dX9_digest_137 : decode cX9_digest 137 = .ok (.invokestatic 263, 3) := by decide +kernel
theorem dX9_digest_140 : decode cX9_digest 140 = .ok (.lstore_n 1, 1) := by decide +kernel
theorem dX9_digest_141 : decode cX9_digest 141 = .ok (.iinc 3 1, 3) := by decide +kernel
theorem dX9_digest_144 : decode cX9_digest 144 = .ok (.goto (-20), 3) := by decide +kernel
theorem dX9_digest_147 : decode cX9_digest 147 = .ok (.lload_n 1, 1) := by decide +kernel
theorem dX9_digest_148 : decode cX9_digest 148 = .ok (.aload_n 0, 1) := by decide +kernel
theorem dX9_digest_149 : decode cX9_digest 149 = .ok (.bipush 12, 2) := by decide +kernel
theorem dX9_digest_151 : decode cX9_digest 151 = .ok (.bipush 9, 2) := by decide +kernel
theorem dX9_digest_153 : decode cX9_digest 153 = .ok (.iconst 0, 1) := by decide +kernel
theorem dX9_digest_154 : decode cX9_digest 154 = .ok (.invokevirtual 273, 3) := by decide +kernel
theorem dX9_digest_157 : decode cX9_digest 157 = .ok (.i2l, 1) := by decide +kernel
theorem dX9_digest_158 : decode cX9_digest 158 = .ok (.invokestatic 263, 3) := by decide +kernel
theorem dX9_digest_161 : decode cX9_digest 161 = .ok (.lstore_n 1, 1) := by decide +kernel
theorem dX9_digest_162 : decode cX9_digest 162 = .ok (.lload_n 1, 1) := by decide +kernel
theorem dX9_digest_163 : decode cX9_digest 163 = .ok (.aload_n 0, 1) := by decide +kernel
theorem dX9_digest_164 : decode cX9_digest 164 = .ok (.bipush 12, 2) := by decide +kernel
theorem dX9_digest_166 : decode cX9_digest 166 = .ok (.bipush 9, 2) := by decide +kernel
theorem dX9_digest_168 : decode cX9_digest 168 = .ok (.iconst 1, 1) := by decide +kernel
theorem dX9_digest_169 : decode cX9_digest 169 = .ok (.invokevirtual 273, 3) := by decide +kernel
theorem dX9_digest_172 : decode cX9_digest 172 = .ok (.i2l, 1) := by decide +kernel
theorem dX9_digest_173 : decode cX9_digest 173 = .ok (.invokestatic 263, 3) := by decide +kernel
theorem dX9_digest_176 : decode cX9_digest 176 = .ok (.lstore_n 1, 1) := by decide +kernel
theorem dX9_digest_177 : decode cX9_digest 177 = .ok (.iconst 0, 1) := by decide +kernel
theorem dX9_digest_178 : decode cX9_digest 178 = .ok (.istore_n 3, 1) := by decide +kernel
theorem dX9_digest_179 : decode cX9_digest 179 = .ok (.iload_n 3, 1) := by decide +kernel
theorem dX9_digest_180 : decode cX9_digest 180 = .ok (.aload_n 0, 1) := by decide +kernel
theorem dX9_digest_181 : decode cX9_digest 181 = .ok (.getfield 10, 3) := by decide +kernel
theorem dX9_digest_184 : decode cX9_digest 184 = .ok (.getfield 86, 3) := by decide +kernel
theorem dX9_digest_187 : decode cX9_digest 187 = .ok (.if_icmp .ge 26, 3) := by decide +kernel
theorem dX9_digest_190 : decode cX9_digest 190 = .ok (.lload_n 1, 1) := by decide +kernel
theorem dX9_digest_191 : decode cX9_digest 191 = .ok (.aload_n 0, 1) := by decide +kernel
theorem dX9_digest_192 : decode cX9_digest 192 = .ok (.getfield 10, 3) := by decide +kernel
theorem dX9_digest_195 : decode cX9_digest 195 = .ok (.getfield 276, 3) := by decide +kernel
theorem dX9_digest_198 : decode cX9_digest 198 = .ok (.iload_n 3, 1) := by decide +kernel
theorem dX9_digest_199 : decode cX9_digest 199 = .ok (.invokevirtual 131, 3) := by decide +kernel
theorem dX9_digest_202 : decode cX9_digest 202 = .ok (.i2l, 1) := by decide +kernel
theorem dX9_digest_203 : decode cX9_digest 203 = .ok (.invokestatic 263, 3) := by decide +kernel
theorem dX9_digest_206 : decode cX9_digest 206 = .ok (.lstore_n 1, 1) := by decide +kernel
theorem dX9_digest_207 : decode cX9_digest 207 = .ok (.iinc 3 1, 3) := by decide +kernel
theorem dX9_digest_210 : decode cX9_digest 210 = .ok (.goto (-31), 3) := by decide +kernel
theorem dX9_digest_213 : decode cX9_digest 213 = .ok (.iconst 0, 1) := by decide +kernel
theorem dX9_digest_214 : decode cX9_digest 214 = .ok (.istore_n 3, 1) := by decide +kernel
theorem dX9_digest_215 : decode cX9_digest 215 = .ok (.iload_n 3, 1) := by decide +kernel
theorem dX9_digest_216 : decode cX9_digest 216 = .ok (.bipush 9, 2) := by decide +kernel
theorem dX9_digest_218 : decode cX9_digest 218 = .ok (.if_icmp .gt 20, 3) := by decide +kernel
theorem dX9_digest_221 : decode cX9_digest 221 = .ok (.lload_n 1, 1) := by decide +kernel
theorem dX9_digest_222 : decode cX9_digest 222 = .ok (.aload_n 0, 1) := by decide +kernel
theorem dX9_digest_223 : decode cX9_digest 223 = .ok (.iload_n 3, 1) := by decide +kernel
theorem dX9_digest_224 : decode cX9_digest 224 = .ok (.invokevirtual 279, 3) := by decide +kernel
theorem dX9_digest_227 : decode cX9_digest 227 = .ok (.i2l, 1) := by decide +kernel
theorem dX9_digest_228 : decode cX9_digest 228 = .ok (.invokestatic 263, 3) := by decide +kernel
theorem dX9_digest_231 : decode cX9_digest 231 = .ok (.lstore_n 1, 1) := by decide +kernel
theorem dX9_digest_232 : decode cX9_digest 232 = .ok (.iinc 3 1, 3) := by decide +kernel
end
section
theorem dX9_digest_235 : decode cX9_digest 235 = .ok (.goto (-20), 3) := by decide +kernel
theorem dX9_digest_238 : decode cX9_digest 238 = .ok (.lload_n 1, 1) := by decide +kernel
theorem dX9_digest_239 : decode cX9_digest 239 = .ok (.lreturn, 1) := by decide +kernel
theorem dX9_mixHouse_0 : decode cX9_mixHouse 0 = .ok (.lload_n 1, 1) := by decide +kernel
theorem dX9_mixHouse_1 : decode cX9_mixHouse 1 = .ok (.lstore 4, 2) := by decide +kernel
theorem dX9_mixHouse_3 : decode cX9_mixHouse 3 = .ok (.iconst 0, 1) := by decide +kernel
theorem dX9_mixHouse_4 : decode cX9_mixHouse 4 = .ok (.istore 6, 2) := by decide +kernel
theorem dX9_mixHouse_6 : decode cX9_mixHouse 6 = .ok (.iload 6, 2) := by decide +kernel
theorem dX9_mixHouse_8 : decode cX9_mixHouse 8 = .ok (.bipush 6, 2) := by decide +kernel
theorem dX9_mixHouse_10 : decode cX9_mixHouse 10 = .ok (.if_icmp .gt 24, 3) := by decide +kernel
theorem dX9_mixHouse_13 : decode cX9_mixHouse 13 = .ok (.lload 4, 2) := by decide +kernel
theorem dX9_mixHouse_15 : decode cX9_mixHouse 15 = .ok (.aload_n 0, 1) := by decide +kernel
theorem dX9_mixHouse_16 : decode cX9_mixHouse 16 = .ok (.iload_n 3, 1) := by decide +kernel
theorem dX9_mixHouse_17 : decode cX9_mixHouse 17 = .ok (.iload 6, 2) := by decide +kernel
theorem dX9_mixHouse_19 : decode cX9_mixHouse 19 = .ok (.invokevirtual 282, 3) := by decide +kernel
theorem dX9_mixHouse_22 : decode cX9_mixHouse 22 = .ok (.i2l, 1) := by decide +kernel
theorem dX9_mixHouse_23 : decode cX9_mixHouse 23 = .ok (.invokestatic 263, 3) := by decide +kernel
theorem dX9_mixHouse_26 : decode cX9_mixHouse 26 = .ok (.lstore 4, 2) := by decide +kernel
theorem dX9_mixHouse_28 : decode cX9_mixHouse 28 = .ok (.iinc 6 1, 3) := by decide +kernel
theorem dX9_mixHouse_31 : decode cX9_mixHouse 31 = .ok (.goto (-25), 3) := by decide +kernel
theorem dX9_mixHouse_34 : decode cX9_mixHouse 34 = .ok (.lload 4, 2) := by decide +kernel
theorem dX9_mixHouse_36 : decode cX9_mixHouse 36 = .ok (.aload_n 0, 1) := by decide +kernel
theorem dX9_mixHouse_37 : decode cX9_mixHouse 37 = .ok (.iload_n 3, 1) := by decide +kernel
theorem dX9_mixHouse_38 : decode cX9_mixHouse 38 = .ok (.bipush 12, 2) := by decide +kernel
theorem dX9_mixHouse_40 : decode cX9_mixHouse 40 = .ok (.invokevirtual 285, 3) := by decide +kernel
theorem dX9_mixHouse_43 : decode cX9_mixHouse 43 = .ok (.i2l, 1) := by decide +kernel
theorem dX9_mixHouse_44 : decode cX9_mixHouse 44 = .ok (.invokestatic 263, 3) := by decide +kernel
theorem dX9_mixHouse_47 : decode cX9_mixHouse 47 = .ok (.lstore 4, 2) := by decide +kernel
theorem dX9_mixHouse_49 : decode cX9_mixHouse 49 = .ok (.lload 4, 2) := by decide +kernel
theorem dX9_mixHouse_51 : decode cX9_mixHouse 51 = .ok (.aload_n 0, 1) := by decide +kernel
theorem dX9_mixHouse_52 : decode cX9_mixHouse 52 = .ok (.iload_n 3, 1) := by decide +kernel
theorem dX9_mixHouse_53 : decode cX9_mixHouse 53 = .ok (.bipush 8, 2) := by decide +kernel
theorem dX9_mixHouse_55 : decode cX9_mixHouse 55 = .ok (.invokevirtual 288, 3) := by decide +kernel
theorem dX9_mixHouse_58 : decode cX9_mixHouse 58 = .ok (.i2l, 1) := by decide +kernel
theorem dX9_mixHouse_59 : decode cX9_mixHouse 59 = .ok (.invokestatic 263, 3) := by decide +kernel
theorem dX9_mixHouse_62 : decode cX9_mixHouse 62 = .ok (.lstore 4, 2) := by decide +kernel
theorem dX9_mixHouse_64 : decode cX9_mixHouse 64 = .ok (.lload 4, 2) := by decide +kernel
theorem dX9_mixHouse_66 : decode cX9_mixHouse 66 = .ok (.aload_n 0, 1) := by decide +kernel
theorem dX9_mixHouse_67 : decode cX9_mixHouse 67 = .ok (.iload_n 3, 1) := by decide +kernel
theorem dX9_mixHouse_68 : decode cX9_mixHouse 68 = .ok (.iconst 4, 1) := by decide +kernel
theorem dX9_mixHouse_69 : decode cX9_mixHouse 69 = .ok (.iconst 0, 1) := by decide +kernel
theorem dX9_mixHouse_70 : decode cX9_mixHouse 70 = .ok (.invokevirtual 291, 3) := by decide +kernel
theorem dX9_mixHouse_73 : decode cX9_mixHouse 73 = .ok (.i2l, 1) := by decide +kernel
theorem dX9_mixHouse_74 : decode cX9_mixHouse 74 = .ok (.invokestatic 263, 3) := by decide +kernel
theorem dX9_mixHouse_77 : decode cX9_mixHouse 77 = .ok (.lstore 4, 2) := by decide +kernel
theorem dX9_mixHouse_79 : decode cX9_mixHouse 79 = .ok (.lload 4, 2) := by decide +kernel
theorem dX9_mixHouse_81 : decode cX9_mixHouse 81 = .ok (.aload_n 0, 1) := by decide +kernel
theorem dX9_mixHouse_82 : decode cX9_mixHouse 82 = .ok (.iload_n 3, 1) := by decide +kernel
theorem dX9_mixHouse_83 : decode cX9_mixHouse 83 = .ok (.iconst 4, 1) := by decide +kernel
theorem dX9_mixHouse_84 : decode cX9_mixHouse 84 = .ok (.iconst 1, 1) := by decide +kernel
theorem dX9_mixHouse_85 : decode cX9_mixHouse 85 = .ok (.invokevirtual 291, 3) := by decide +kernel
theorem dX9_mixHouse_88 : decode cX9_mixHouse 88 = .ok (.i2l, 1) := by decide +kernel
theorem dX9_mixHouse_89 : decode cX9_mixHouse 89 = .ok (.invokestatic 263, 3) := by decide +kernel
theorem dX9_mixHouse_92 : decode cX9_mixHouse 92 = .ok (.lreturn, 1) := by decide +kernel
theorem dX9_mix_0 : decode cX9_mix 0 = .ok (.ldc2_w 294, 3) := by decide +kernel
theorem dX9_mix_3 : decode cX9_mix 3 = .ok (.lload_n 0, 1) := by decide +kernel
theorem dX9_mix_4 : decode cX9_mix 4 = .ok (.lmul, 1) := by decide +kernel
theorem dX9_mix_5 : decode cX9_mix 5 = .ok (.lload_n 2, 1) := by decide +kernel
theorem dX9_mix_6 : decode cX9_mix 6 = .ok (.ladd, 1) := by decide +kernel
theorem dX9_mix_7 : decode cX9_mix 7 = .ok (.lreturn, 1) := by decide +kernel
theorem dX9_oneAge_0 : decode cX9_oneAge 0 = .ok (.aload_n 0, 1) := by decide +kernel
theorem dX9_oneAge_1 : decode cX9_oneAge 1 = .ok (.getfield 70, 3) := by decide +kernel
theorem dX9_oneAge_4 : decode cX9_oneAge 4 = .ok (.aload_n 0, 1) := by decide +kernel
theorem dX9_oneAge_5 : decode cX9_oneAge 5 = .ok (.getfield 36, 3) := by decide +kernel
theorem dX9_oneAge_8 : decode cX9_oneAge 8 = .ok (.getfield 107, 3) := by decide +kernel
theorem dX9_oneAge_11 : decode cX9_oneAge 11 = .ok (.invokevirtual 296, 3) := by decide +kernel
theorem dX9_oneAge_14 : decode cX9_oneAge 14 = .ok (.istore_n 1, 1) := by decide +kernel
theorem dX9_oneAge_15 : decode cX9_oneAge 15 = .ok (.aload_n 0, 1) := by decide +kernel
theorem dX9_oneAge_16 : decode cX9_oneAge 16 = .ok (.getfield 70, 3) := by decide +kernel
theorem dX9_oneAge_19 : decode cX9_oneAge 19 = .ok (.iconst 2, 1) := by decide +kernel
theorem dX9_oneAge_20 : decode cX9_oneAge 20 = .ok (.invokevirtual 296, 3) := by decide +kernel
theorem dX9_oneAge_23 : decode cX9_oneAge 23 = .ok (.ifCond .ne 14, 3) := by decide +kernel
theorem dX9_oneAge_26 : decode cX9_oneAge 26 = .ok (.aload_n 0, 1) := by decide +kernel
theorem dX9_oneAge_27 : decode cX9_oneAge 27 = .ok (.getfield 36, 3) := by decide +kernel
theorem dX9_oneAge_30 : decode cX9_oneAge 30 = .ok (.iload_n 1, 1) := by decide +kernel
theorem dX9_oneAge_31 : decode cX9_oneAge 31 = .ok (.invokevirtual 178, 3) := by decide +kernel
theorem dX9_oneAge_34 : decode cX9_oneAge 34 = .ok (.goto 22, 3) := by decide +kernel
theorem dX9_oneAge_37 : decode cX9_oneAge 37 = .ok (.aload_n 0, 1) := by decide +kernel
theorem dX9_oneAge_38 : decode cX9_oneAge 38 = .ok (.getfield 36, 3) := by decide +kernel
theorem dX9_oneAge_41 : decode cX9_oneAge 41 = .ok (.iload_n 1, 1) := by decide +kernel
theorem dX9_oneAge_42 : decode cX9_oneAge 42 = .ok (.invokevirtual 181, 3) := by decide +kernel
theorem dX9_oneAge_45 : decode cX9_oneAge 45 = .ok (.ifCond .eq 11, 3) := by decide +kernel
theorem dX9_oneAge_48 : decode cX9_oneAge 48 = .ok (.aload_n 0, 1) := by decide +kernel
theorem dX9_oneAge_49 : decode cX9_oneAge 49 = .ok (.getfield 36, 3) := by decide +kernel
theorem dX9_oneAge_52 : decode cX9_oneAge 52 = .ok (.iload_n 1, 1) := by decide +kernel
theorem dX9_oneAge_53 : decode cX9_oneAge 53 = .ok (.invokevirtual 184, 3) := by decide +kernel
theorem dX9_oneAge_56 : decode cX9_oneAge 56 = .ok (.aload_n 0, 1) := by decide +kernel
theorem dX9_oneAge_57 : decode cX9_oneAge 57 = .ok (.getfield 36, 3) := by decide +kernel
theorem dX9_oneAge_60 : decode cX9_oneAge 60 = .ok (.invokevirtual 169, 3) := by decide +kernel
theorem dX9_oneAge_63 : decode cX9_oneAge 63 = .ok (.aload_n 0, 1) := by decide +kernel
theorem dX9_oneAge_64 : decode cX9_oneAge 64 = .ok (.getfield 36, 3) := by decide +kernel
theorem dX9_oneAge_67 : decode cX9_oneAge 67 = .ok (.aload_n 0, 1) := by decide +kernel
theorem dX9_oneAge_68 : decode cX9_oneAge 68 = .ok (.getfield 70, 3) := by decide +kernel
theorem dX9_oneAge_71 : decode cX9_oneAge 71 = .ok (.bipush 16, 2) := by decide +kernel
theorem dX9_oneAge_73 : decode cX9_oneAge 73 = .ok (.invokevirtual 296, 3) := by decide +kernel
theorem dX9_oneAge_76 : decode cX9_oneAge 76 = .ok (.invokevirtual 175, 3) := by decide +kernel
theorem dX9_oneAge_79 : decode cX9_oneAge 79 = .ok (.ireturn, 1) := by decide +kernel
theorem dX9_inLowestTerms_0 : decode cX9_inLowestTerms 0 = .ok (.iload_n 0, 1) := by decide +kernel
theorem dX9_inLowestTerms_1 : decode cX9_inLowestTerms 1 = .ok (.istore_n 3, 1) := by decide +kernel
theorem dX9_inLowestTerms_2 : decode cX9_inLowestTerms 2 = .ok (.iload_n 1, 1) := by decide +kernel
theorem dX9_inLowestTerms_3 : decode cX9_inLowestTerms 3 = .ok (.istore 4, 2) := by decide +kernel
theorem dX9_inLowestTerms_5 : decode cX9_inLowestTerms 5 = .ok (.iconst 0, 1) := by decide +kernel
theorem dX9_inLowestTerms_6 : decode cX9_inLowestTerms 6 = .ok (.istore 5, 2) := by decide +kernel
theorem dX9_inLowestTerms_8 : decode cX9_inLowestTerms 8 = .ok (.iload 5, 2) := by decide +kernel
theorem dX9_inLowestTerms_10 : decode cX9_inLowestTerms 10 = .ok (.iload_n 2, 1) := by decide +kernel
theorem dX9_inLowestTerms_11 : decode cX9_inLowestTerms 11 = .ok (.if_icmp .ge 55, 3) := by decide +kernel
theorem dX9_inLowestTerms_14 : decode cX9_inLowestTerms 14 = .ok (.iload_n 3, 1) := by decide +kernel
theorem dX9_inLowestTerms_15 : decode cX9_inLowestTerms 15 = .ok (.iconst 2, 1) := by decide +kernel
theorem dX9_inLowestTerms_16 : decode cX9_inLowestTerms 16 = .ok (.irem, 1) := by decide +kernel
theorem dX9_inLowestTerms_17 : decode cX9_inLowestTerms 17 = .ok (.ifCond .ne 20, 3) := by decide +kernel
theorem dX9_inLowestTerms_20 : decode cX9_inLowestTerms 20 = .ok (.iload 4, 2) := by decide +kernel
theorem dX9_inLowestTerms_22 : decode cX9_inLowestTerms 22 = .ok (.iconst 2, 1) := by decide +kernel
theorem dX9_inLowestTerms_23 : decode cX9_inLowestTerms 23 = .ok (.irem, 1) := by decide +kernel
theorem dX9_inLowestTerms_24 : decode cX9_inLowestTerms 24 = .ok (.ifCond .ne 13, 3) := by decide +kernel
theorem dX9_inLowestTerms_27 : decode cX9_inLowestTerms 27 = .ok (.iload_n 3, 1) := by decide +kernel
theorem dX9_inLowestTerms_28 : decode cX9_inLowestTerms 28 = .ok (.iconst 2, 1) := by decide +kernel
theorem dX9_inLowestTerms_29 : decode cX9_inLowestTerms 29 = .ok (.idiv, 1) := by decide +kernel
theorem dX9_inLowestTerms_30 : decode cX9_inLowestTerms 30 = .ok (.istore_n 3, 1) := by decide +kernel
theorem dX9_inLowestTerms_31 : decode cX9_inLowestTerms 31 = .ok (.iload 4, 2) := by decide +kernel
theorem dX9_inLowestTerms_33 : decode cX9_inLowestTerms 33 = .ok (.iconst 2, 1) := by decide +kernel
theorem dX9_inLowestTerms_34 : decode cX9_inLowestTerms 34 = .ok (.idiv, 1) := by decide +kernel
theorem dX9_inLowestTerms_35 : decode cX9_inLowestTerms 35 = .ok (.istore 4, 2) := by decide +kernel
theorem dX9_inLowestTerms_37 : decode cX9_inLowestTerms 37 = .ok (.iload_n 3, 1) := by decide +kernel
theorem dX9_inLowestTerms_38 : decode cX9_inLowestTerms 38 = .ok (.iconst 5, 1) := by decide +kernel
theorem dX9_inLowestTerms_39 : decode cX9_inLowestTerms 39 = .ok (.irem, 1) := by decide +kernel
theorem dX9_inLowestTerms_40 : decode cX9_inLowestTerms 40 = .ok (.ifCond .ne 20, 3) := by decide +kernel
theorem dX9_inLowestTerms_43 : decode cX9_inLowestTerms 43 = .ok (.iload 4, 2) := by decide +kernel
theorem dX9_inLowestTerms_45 : decode cX9_inLowestTerms 45 = .ok (.iconst 5, 1) := by decide +kernel
theorem dX9_inLowestTerms_46 : decode cX9_inLowestTerms 46 = .ok (.irem, 1) := by decide +kernel
theorem dX9_inLowestTerms_47 : decode cX9_inLowestTerms 47 = .ok (.ifCond .ne 13, 3) := by decide +kernel
theorem dX9_inLowestTerms_50 : decode cX9_inLowestTerms 50 = .ok (.iload_n 3, 1) := by decide +kernel
theorem dX9_inLowestTerms_51 : decode cX9_inLowestTerms 51 = .ok (.iconst 5, 1) := by decide +kernel
theorem dX9_inLowestTerms_52 : decode cX9_inLowestTerms 52 = .ok (.idiv, 1) := by decide +kernel
theorem dX9_inLowestTerms_53 : decode cX9_inLowestTerms 53 = .ok (.istore_n 3, 1) := by decide +kernel
theorem dX9_inLowestTerms_54 : decode cX9_inLowestTerms 54 = .ok (.iload 4, 2) := by decide +kernel
theorem dX9_inLowestTerms_56 : decode cX9_inLowestTerms 56 = .ok (.iconst 5, 1) := by decide +kernel
theorem dX9_inLowestTerms_57 : decode cX9_inLowestTerms 57 = .ok (.idiv, 1) := by decide +kernel
theorem dX9_inLowestTerms_58 : decode cX9_inLowestTerms 58 = .ok (.istore 4, 2) := by decide +kernel
theorem dX9_inLowestTerms_60 : decode cX9_inLowestTerms 60 = .ok (.iinc 5 1, 3) := by decide +kernel
theorem dX9_inLowestTerms_63 : decode cX9_inLowestTerms 63 = .ok (.goto (-55), 3) := by decide +kernel
theorem dX9_inLowestTerms_66 : decode cX9_inLowestTerms 66 = .ok (.iload_n 3, 1) := by decide +kernel
theorem dX9_inLowestTerms_67 : decode cX9_inLowestTerms 67 = .ok (.ireturn, 1) := by decide +kernel
theorem dX9_within_0 : decode cX9_within 0 = .ok (.iload_n 0, 1) := by decide +kernel
theorem dX9_within_1 : decode cX9_within 1 = .ok (.iload_n 1, 1) := by decide +kernel
theorem dX9_within_2 : decode cX9_within 2 = .ok (.if_icmp .lt 12, 3) := by decide +kernel
theorem dX9_within_5 : decode cX9_within 5 = .ok (.iload_n 0, 1) := by decide +kernel
theorem dX9_within_6 : decode cX9_within 6 = .ok (.iload_n 2, 1) := by decide +kernel
theorem dX9_within_7 : decode cX9_within 7 = .ok (.if_icmp .gt 7, 3) := by decide +kernel
theorem dX9_within_10 : decode cX9_within 10 = .ok (.iconst 1, 1) := by decide +kernel
theorem dX9_within_11 : decode cX9_within 11 = .ok (.goto 4, 3) := by decide +kernel
theorem dX9_within_14 : decode cX9_within 14 = .ok (.iconst 0, 1) := by decide +kernel
theorem dX9_within_15 : decode cX9_within 15 = .ok (.ireturn, 1) := by decide +kernel
theorem dX9_isOfKind_0 : decode cX9_isOfKind 0 = .ok (.iload_n 1, 1) := by decide +kernel
theorem dX9_isOfKind_1 : decode cX9_isOfKind 1 = .ok (.ifCond .eq 18, 3) := by decide +kernel
theorem dX9_isOfKind_4 : decode cX9_isOfKind 4 = .ok (.iload_n 1, 1) := by decide +kernel
theorem dX9_isOfKind_5 : decode cX9_isOfKind 5 = .ok (.iload_n 0, 1) := by decide +kernel
theorem dX9_isOfKind_6 : decode cX9_isOfKind 6 = .ok (.if_icmp .eq 13, 3) := by decide +kernel
theorem dX9_isOfKind_9 : decode cX9_isOfKind 9 = .ok (.iload_n 1, 1) := by decide +kernel
theorem dX9_isOfKind_10 : decode cX9_isOfKind 10 = .ok (.iconst 1, 1) := by decide +kernel
theorem dX9_isOfKind_11 : decode cX9_isOfKind 11 = .ok (.if_icmp .ne 12, 3) := by decide +kernel
theorem dX9_isOfKind_14 : decode cX9_isOfKind 14 = .ok (.iload_n 0, 1) := by decide +kernel
theorem dX9_isOfKind_15 : decode cX9_isOfKind 15 = .ok (.iconst 4, 1) := by decide +kernel
theorem dX9_isOfKind_16 : decode cX9_isOfKind 16 = .ok (.if_icmp .ne 7, 3) := by decide +kernel
theorem dX9_isOfKind_19 : decode cX9_isOfKind 19 = .ok (.iconst 1, 1) := by decide +kernel
theorem dX9_isOfKind_20 : decode cX9_isOfKind 20 = .ok (.goto 4, 3) := by decide +kernel
theorem dX9_isOfKind_23 : decode cX9_isOfKind 23 = .ok (.iconst 0, 1) := by decide +kernel
theorem dX9_isOfKind_24 : decode cX9_isOfKind 24 = .ok (.ireturn, 1) := by decide +kernel
theorem dX9_grown_0 : decode cX9_grown 0 = .ok (.iconst 1, 1) := by decide +kernel
theorem dX9_grown_1 : decode cX9_grown 1 = .ok (.iload_n 2, 1) := by decide +kernel
theorem dX9_grown_2 : decode cX9_grown 2 = .ok (.iconst 3, 1) := by decide +kernel
theorem dX9_grown_3 : decode cX9_grown 3 = .ok (.idiv, 1) := by decide +kernel
theorem dX9_grown_4 : decode cX9_grown 4 = .ok (.isub, 1) := by decide +kernel
theorem dX9_grown_5 : decode cX9_grown 5 = .ok (.istore 5, 2) := by decide +kernel
theorem dX9_grown_7 : decode cX9_grown 7 = .ok (.iload_n 0, 1) := by decide +kernel
theorem dX9_grown_8 : decode cX9_grown 8 = .ok (.tableswitch 73 1 4 #[32, 55, 64, 38], 32) := by decide +kernel
theorem dX9_grown_40 : decode cX9_grown 40 = .ok (.iconst 0, 1) := by decide +kernel
theorem dX9_grown_41 : decode cX9_grown 41 = .ok (.istore 6, 2) := by decide +kernel
theorem dX9_grown_43 : decode cX9_grown 43 = .ok (.goto 42, 3) := by decide +kernel
theorem dX9_grown_46 : decode cX9_grown 46 = .ok (.iload 4, 2) := by decide +kernel
theorem dX9_grown_48 : decode cX9_grown 48 = .ok (.iconst 2, 1) := by decide +kernel
theorem dX9_grown_49 : decode cX9_grown 49 = .ok (.irem, 1) := by decide +kernel
theorem dX9_grown_50 : decode cX9_grown 50 = .ok (.ifCond .ne 7, 3) := by decide +kernel
theorem dX9_grown_53 : decode cX9_grown 53 = .ok (.iconst 0, 1) := by decide +kernel
theorem dX9_grown_54 : decode cX9_grown 54 = .ok (.goto 4, 3) := by decide +kernel
theorem dX9_grown_57 : decode cX9_grown 57 = .ok (.iconst (-1), 1) := by decide +kernel
theorem dX9_grown_58 : decode cX9_grown 58 = .ok (.istore 6, 2) := by decide +kernel
theorem dX9_grown_60 : decode cX9_grown 60 = .ok (.goto 25, 3) := by decide +kernel
theorem dX9_grown_63 : decode cX9_grown 63 = .ok (.iload 5, 2) := by decide +kernel
theorem dX9_grown_65 : decode cX9_grown 65 = .ok (.iconst 2, 1) := by decide +kernel
theorem dX9_grown_66 : decode cX9_grown 66 = .ok (.isub, 1) := by decide +kernel
theorem dX9_grown_67 : decode cX9_grown 67 = .ok (.istore 6, 2) := by decide +kernel
theorem dX9_grown_69 : decode cX9_grown 69 = .ok (.goto 16, 3) := by decide +kernel
theorem dX9_grown_72 : decode cX9_grown 72 = .ok (.iload 5, 2) := by decide +kernel
theorem dX9_grown_74 : decode cX9_grown 74 = .ok (.iconst 1, 1) := by decide +kernel
theorem dX9_grown_75 : decode cX9_grown 75 = .ok (.iadd, 1) := by decide +kernel
theorem dX9_grown_76 : decode cX9_grown 76 = .ok (.istore 6, 2) := by decide +kernel
theorem dX9_grown_78 : decode cX9_grown 78 = .ok (.goto 7, 3) := by decide +kernel
theorem dX9_grown_81 : decode cX9_grown 81 = .ok (.iload 5, 2) := by decide +kernel
theorem dX9_grown_83 : decode cX9_grown 83 = .ok (.istore 6, 2) := by decide +kernel
theorem dX9_grown_85 : decode cX9_grown 85 = .ok (.iload_n 1, 1) := by decide +kernel
theorem dX9_grown_86 : decode cX9_grown 86 = .ok (.iload 6, 2) := by decide +kernel
theorem dX9_grown_88 : decode cX9_grown 88 = .ok (.iadd, 1) := by decide +kernel
theorem dX9_grown_89 : decode cX9_grown 89 = .ok (.iconst 3, 1) := by decide +kernel
theorem dX9_grown_90 : decode cX9_grown 90 = .ok (.iload_n 3, 1) := by decide +kernel
theorem dX9_grown_91 : decode cX9_grown 91 = .ok (.imul, 1) := by decide +kernel
theorem dX9_grown_92 : decode cX9_grown 92 = .ok (.iadd, 1) := by decide +kernel
theorem dX9_grown_93 : decode cX9_grown 93 = .ok (.istore 7, 2) := by decide +kernel
theorem dX9_grown_95 : decode cX9_grown 95 = .ok (.iload 7, 2) := by decide +kernel
theorem dX9_grown_97 : decode cX9_grown 97 = .ok (.ifCond .ge 5, 3) := by decide +kernel
theorem dX9_grown_100 : decode cX9_grown 100 = .ok (.iconst 0, 1) := by decide +kernel
theorem dX9_grown_101 : decode cX9_grown 101 = .ok (.ireturn, 1) := by decide +kernel
theorem dX9_grown_102 : decode cX9_grown 102 = .ok (.iload 7, 2) := by decide +kernel
theorem dX9_grown_104 : decode cX9_grown 104 = .ok (.bipush 20, 2) := by decide +kernel
theorem dX9_grown_106 : decode cX9_grown 106 = .ok (.if_icmp .le 8, 3) := by decide +kernel
theorem dX9_grown_109 : decode cX9_grown 109 = .ok (.bipush 20, 2) := by decide +kernel
theorem dX9_grown_111 : decode cX9_grown 111 = .ok (.goto 5, 3) := by decide +kernel
theorem dX9_grown_114 : decode cX9_grown 114 = .ok (.iload 7, 2) := by decide +kernel
theorem dX9_grown_116 : decode cX9_grown 116 = .ok (.ireturn, 1) := by decide +kernel
theorem dX9_rainBehind_0 : decode cX9_rainBehind 0 = .ok (.iload_n 0, 1) := by decide +kernel
theorem dX9_rainBehind_1 : decode cX9_rainBehind 1 = .ok (.iconst 2, 1) := by decide +kernel
theorem dX9_rainBehind_2 : decode cX9_rainBehind 2 = .ok (.iload_n 1, 1) := by decide +kernel
theorem dX9_rainBehind_3 : decode cX9_rainBehind 3 = .ok (.imul, 1) := by decide +kernel
theorem dX9_rainBehind_4 : decode cX9_rainBehind 4 = .ok (.isub, 1) := by decide +kernel
theorem dX9_rainBehind_5 : decode cX9_rainBehind 5 = .ok (.istore_n 2, 1) := by decide +kernel
theorem dX9_rainBehind_6 : decode cX9_rainBehind 6 = .ok (.iload_n 2, 1) := by decide +kernel
theorem dX9_rainBehind_7 : decode cX9_rainBehind 7 = .ok (.ifCond .ge 7, 3) := by decide +kernel
theorem dX9_rainBehind_10 : decode cX9_rainBehind 10 = .ok (.iconst 0, 1) := by decide +kernel
theorem dX9_rainBehind_11 : decode cX9_rainBehind 11 = .ok (.goto 4, 3) := by decide +kernel
theorem dX9_rainBehind_14 : decode cX9_rainBehind 14 = .ok (.iload_n 2, 1) := by decide +kernel
theorem dX9_rainBehind_15 : decode cX9_rainBehind 15 = .ok (.ireturn, 1) := by decide +kernel
theorem dX10_init_0 : decode cX10_init 0 = .ok (.aload_n 0, 1) := by decide +kernel
theorem dX10_init_1 : decode cX10_init 1 = .ok (.invokespecial 1, 3) := by decide +kernel
theorem dX10_init_4 : decode cX10_init 4 = .ok (.aload_n 0, 1) := by decide +kernel
theorem dX10_init_5 : decode cX10_init 5 = .ok (.bipush 6, 2) := by decide +kernel
theorem dX10_init_7 : decode cX10_init 7 = .ok (.newarray .int, 2) := by decide +kernel
theorem dX10_init_9 : decode cX10_init 9 = .ok (.putfield 7, 3) := by decide +kernel
theorem dX10_init_12 : decode cX10_init 12 = .ok (.aload_n 0, 1) := by decide +kernel
theorem dX10_init_13 : decode cX10_init 13 = .ok (.bipush 6, 2) := by decide +kernel
theorem dX10_init_15 : decode cX10_init 15 = .ok (.newarray .int, 2) := by decide +kernel
theorem dX10_init_17 : decode cX10_init 17 = .ok (.putfield 13, 3) := by decide +kernel
theorem dX10_init_20 : decode cX10_init 20 = .ok (.aload_n 0, 1) := by decide +kernel
theorem dX10_init_21 : decode cX10_init 21 = .ok (.bipush 6, 2) := by decide +kernel
theorem dX10_init_23 : decode cX10_init 23 = .ok (.newarray .int, 2) := by decide +kernel
theorem dX10_init_25 : decode cX10_init 25 = .ok (.putfield 16, 3) := by decide +kernel
theorem dX10_init_28 : decode cX10_init 28 = .ok (.aload_n 0, 1) := by decide +kernel
theorem dX10_init_29 : decode cX10_init 29 = .ok (.bipush 6, 2) := by decide +kernel
theorem dX10_init_31 : decode cX10_init 31 = .ok (.newarray .int, 2) := by decide +kernel
theorem dX10_init_33 : decode cX10_init 33 = .ok (.putfield 19, 3) := by decide +kernel
theorem dX10_init_36 : decode cX10_init 36 = .ok (.aload_n 0, 1) := by decide +kernel
theorem dX10_init_37 : decode cX10_init 37 = .ok (.bipush 6, 2) := by decide +kernel
theorem dX10_init_39 : decode cX10_init 39 = .ok (.newarray .int, 2) := by decide +kernel
theorem dX10_init_41 : decode cX10_init 41 = .ok (.putfield 22, 3) := by decide +kernel
theorem dX10_init_44 : decode cX10_init 44 = .ok (.aload_n 0, 1) := by decide +kernel
theorem dX10_init_45 : decode cX10_init 45 = .ok (.bipush 6, 2) := by decide +kernel
theorem dX10_init_47 : decode cX10_init 47 = .ok (.newarray .int, 2) := by decide +kernel
theorem dX10_init_49 : decode cX10_init 49 = .ok (.putfield 25, 3) := by decide +kernel
theorem dX10_init_52 : decode cX10_init 52 = .ok (.aload_n 0, 1) := by decide +kernel
theorem dX10_init_53 : decode cX10_init 53 = .ok (.bipush 26, 2) := by decide +kernel
theorem dX10_init_55 : decode cX10_init 55 = .ok (.newarray .byte, 2) := by decide +kernel
theorem dX10_init_57 : decode cX10_init 57 = .ok (.putfield 28, 3) := by decide +kernel
theorem dX10_init_60 : decode cX10_init 60 = .ok (.aload_n 0, 1) := by decide +kernel
theorem dX10_init_61 : decode cX10_init 61 = .ok (.bipush 6, 2) := by decide +kernel
theorem dX10_init_63 : decode cX10_init 63 = .ok (.newarray .int, 2) := by decide +kernel
theorem dX10_init_65 : decode cX10_init 65 = .ok (.putfield 32, 3) := by decide +kernel
theorem dX10_init_68 : decode cX10_init 68 = .ok (.aload_n 0, 1) := by decide +kernel
theorem dX10_init_69 : decode cX10_init 69 = .ok (.bipush 6, 2) := by decide +kernel
theorem dX10_init_71 : decode cX10_init 71 = .ok (.newarray .int, 2) := by decide +kernel
theorem dX10_init_73 : decode cX10_init 73 = .ok (.putfield 35, 3) := by decide +kernel
theorem dX10_init_76 : decode cX10_init 76 = .ok (.aload_n 0, 1) := by decide +kernel
theorem dX10_init_77 : decode cX10_init 77 = .ok (.bipush 64, 2) := by decide +kernel
theorem dX10_init_79 : decode cX10_init 79 = .ok (.newarray .int, 2) := by decide +kernel
theorem dX10_init_81 : decode cX10_init 81 = .ok (.putfield 38, 3) := by decide +kernel
theorem dX10_init_84 : decode cX10_init 84 = .ok (.aload_n 0, 1) := by decide +kernel
theorem dX10_init_85 : decode cX10_init 85 = .ok (.bipush 6, 2) := by decide +kernel
theorem dX10_init_87 : decode cX10_init 87 = .ok (.newarray .int, 2) := by decide +kernel
theorem dX10_init_89 : decode cX10_init 89 = .ok (.putfield 41, 3) := by decide +kernel
theorem dX10_init_92 : decode cX10_init 92 = .ok (.aload_n 0, 1) := by decide +kernel
theorem dX10_init_93 : decode cX10_init 93 = .ok (.bipush 49, 2) := by decide +kernel
theorem dX10_init_95 : decode cX10_init 95 = .ok (.newarray .int, 2) := by decide +kernel
theorem dX10_init_97 : decode cX10_init 97 = .ok (.putfield 44, 3) := by decide +kernel
theorem dX10_init_100 : decode cX10_init 100 = .ok (.aload_n 0, 1) := by decide +kernel
theorem dX10_init_101 : decode cX10_init 101 = .ok (.bipush 49, 2) := by decide +kernel
theorem dX10_init_103 : decode cX10_init 103 = .ok (.newarray .int, 2) := by decide +kernel
theorem dX10_init_105 : decode cX10_init 105 = .ok (.putfield 47, 3) := by decide +kernel
theorem dX10_init_108 : decode cX10_init 108 = .ok (.aload_n 0, 1) := by decide +kernel
theorem dX10_init_109 : decode cX10_init 109 = .ok (.bipush 21, 2) := by decide +kernel
theorem dX10_init_111 : decode cX10_init 111 = .ok (.newarray .int, 2) := by decide +kernel
theorem dX10_init_113 : decode cX10_init 113 = .ok (.putfield 50, 3) := by decide +kernel
theorem dX10_init_116 : decode cX10_init 116 = .ok (.aload_n 0, 1) := by decide +kernel
theorem dX10_init_117 : decode cX10_init 117 = .ok (.bipush 6, 2) := by decide +kernel
theorem dX10_init_119 : decode cX10_init 119 = .ok (.newarray .int, 2) := by decide +kernel
theorem dX10_init_121 : decode cX10_init 121 = .ok (.putfield 53, 3) := by decide +kernel
theorem dX10_init_124 : decode cX10_init 124 = .ok (.aload_n 0, 1) := by decide +kernel
theorem dX10_init_125 : decode cX10_init 125 = .ok (.bipush 6, 2) := by decide +kernel
theorem dX10_init_127 : decode cX10_init 127 = .ok (.newarray .int, 2) := by decide +kernel
theorem dX10_init_129 : decode cX10_init 129 = .ok (.putfield 56, 3) := by decide +kernel
theorem dX10_init_132 : decode cX10_init 132 = .ok (.aload_n 0, 1) := by decide +kernel
theorem dX10_init_133 : decode cX10_init 133 = .ok (.bipush 6, 2) := by decide +kernel
theorem dX10_init_135 : decode cX10_init 135 = .ok (.newarray .int, 2) := by decide +kernel
theorem dX10_init_137 : decode cX10_init 137 = .ok (.putfield 59, 3) := by decide +kernel
theorem dX10_init_140 : decode cX10_init 140 = .ok (.aload_n 0, 1) := by decide +kernel
theorem dX10_init_141 : decode cX10_init 141 = .ok (.bipush 6, 2) := by decide +kernel
theorem dX10_init_143 : decode cX10_init 143 = .ok (.newarray .int, 2) := by decide +kernel
theorem dX10_init_145 : decode cX10_init 145 = .ok (.putfield 62, 3) := by decide +kernel
theorem dX10_init_148 : decode cX10_init 148 = .ok (.aload_n 0, 1) := by decide +kernel
theorem dX10_init_149 : decode cX10_init 149 = .ok (.bipush 6, 2) := by decide +kernel
theorem dX10_init_151 : decode cX10_init 151 = .ok (.newarray .int, 2) := by decide +kernel
theorem dX10_init_153 : decode cX10_init 153 = .ok (.putfield 65, 3) := by decide +kernel
theorem dX10_init_156 : decode cX10_init 156 = .ok (.aload_n 0, 1) := by decide +kernel
theorem dX10_init_157 : decode cX10_init 157 = .ok (.bipush 6, 2) := by decide +kernel
theorem dX10_init_159 : decode cX10_init 159 = .ok (.newarray .int, 2) := by decide +kernel
theorem dX10_init_161 : decode cX10_init 161 = .ok (.putfield 68, 3) := by decide +kernel
theorem dX10_init_164 : decode cX10_init 164 = .ok (.return_, 1) := by decide +kernel
theorem dX10_within_0 : decode cX10_within 0 = .ok (.iload_n 0, 1) := by decide +kernel
theorem dX10_within_1 : decode cX10_within 1 = .ok (.iload_n 1, 1) := by decide +kernel
theorem dX10_within_2 : decode cX10_within 2 = .ok (.if_icmp .lt 12, 3) := by decide +kernel
theorem dX10_within_5 : decode cX10_within 5 = .ok (.iload_n 0, 1) := by decide +kernel
theorem dX10_within_6 : decode cX10_within 6 = .ok (.iload_n 2, 1) := by decide +kernel
theorem dX10_within_7 : decode cX10_within 7 = .ok (.if_icmp .gt 7, 3) := by decide +kernel
theorem dX10_within_10 : decode cX10_within 10 = .ok (.iconst 1, 1) := by decide +kernel
theorem dX10_within_11 : decode cX10_within 11 = .ok (.goto 4, 3) := by decide +kernel
theorem dX10_within_14 : decode cX10_within 14 = .ok (.iconst 0, 1) := by decide +kernel
theorem dX10_within_15 : decode cX10_within 15 = .ok (.ireturn, 1) := by decide +kernel
theorem dX10_isIn_0 : decode cX10_isIn 0 = .ok (.iload_n 0, 1) := by decide +kernel
theorem dX10_isIn_1 : decode cX10_isIn 1 = .ok (.iload_n 1, 1) := by decide +kernel
theorem dX10_isIn_2 : decode cX10_isIn 2 = .ok (.ishr, 1) := by decide +kernel
theorem dX10_isIn_3 : decode cX10_isIn 3 = .ok (.iconst 1, 1) := by decide +kernel
theorem dX10_isIn_4 : decode cX10_isIn 4 = .ok (.iand, 1) := by decide +kernel
theorem dX10_isIn_5 : decode cX10_isIn 5 = .ok (.iconst 1, 1) := by decide +kernel
theorem dX10_isIn_6 : decode cX10_isIn 6 = .ok (.if_icmp .ne 7, 3) := by decide +kernel
theorem dX10_isIn_9 : decode cX10_isIn 9 = .ok (.iconst 1, 1) := by decide +kernel
theorem dX10_isIn_10 : decode cX10_isIn 10 = .ok (.goto 4, 3) := by decide +kernel
theorem dX10_isIn_13 : decode cX10_isIn 13 = .ok (.iconst 0, 1) := by decide +kernel
theorem dX10_isIn_14 : decode cX10_isIn 14 = .ok (.ireturn, 1) := by decide +kernel
theorem dX10_size_0 : decode cX10_size 0 = .ok (.iconst 0, 1) := by decide +kernel
theorem dX10_size_1 : decode cX10_size 1 = .ok (.istore_n 1, 1) := by decide +kernel
theorem dX10_size_2 : decode cX10_size 2 = .ok (.iconst 0, 1) := by decide +kernel
theorem dX10_size_3 : decode cX10_size 3 = .ok (.istore_n 2, 1) := by decide +kernel
theorem dX10_size_4 : decode cX10_size 4 = .ok (.iload_n 2, 1) := by decide +kernel
theorem dX10_size_5 : decode cX10_size 5 = .ok (.bipush 10, 2) := by decide +kernel
theorem dX10_size_7 : decode cX10_size 7 = .ok (.if_icmp .ge 17, 3) := by decide +kernel
theorem dX10_size_10 : decode cX10_size 10 = .ok (.iload_n 1, 1) := by decide +kernel
theorem dX10_size_11 : decode cX10_size 11 = .ok (.iload_n 0, 1) := by decide +kernel
theorem dX10_size_12 : decode cX10_size 12 = .ok (.iload_n 2, 1) := by decide +kernel
theorem dX10_size_13 : decode cX10_size 13 = .ok (.ishr, 1) := by decide +kernel
theorem dX10_size_14 : decode cX10_size 14 = .ok (.iconst 1, 1) := by decide +kernel
theorem dX10_size_15 : decode cX10_size 15 = .ok (.iand, 1) := by decide +kernel
theorem dX10_size_16 : decode cX10_size 16 = .ok (.iadd, 1) := by decide +kernel
theorem dX10_size_17 : decode cX10_size 17 = .ok (.istore_n 1, 1) := by decide +kernel
theorem dX10_size_18 : decode cX10_size 18 = .ok (.iinc 2 1, 3) := by decide +kernel
theorem dX10_size_21 : decode cX10_size 21 = .ok (.goto (-17), 3) := by decide +kernel
theorem dX10_size_24 : decode cX10_size 24 = .ok (.iload_n 1, 1) := by decide +kernel
theorem dX10_size_25 : decode cX10_size 25 = .ok (.ireturn, 1) := by decide +kernel
theorem dX10_divisor_0 : decode cX10_divisor 0 = .ok (.iload_n 0, 1) := by decide +kernel
theorem dX10_divisor_1 : decode cX10_divisor 1 = .ok (.istore_n 2, 1) := by decide +kernel
theorem dX10_divisor_2 : decode cX10_divisor 2 = .ok (.iload_n 1, 1) := by decide +kernel
theorem dX10_divisor_3 : decode cX10_divisor 3 = .ok (.istore_n 3, 1) := by decide +kernel
theorem dX10_divisor_4 : decode cX10_divisor 4 = .ok (.iload_n 3, 1) := by decide +kernel
theorem dX10_divisor_5 : decode cX10_divisor 5 = .ok (.ifCond .eq 16, 3) := by decide +kernel
theorem dX10_divisor_8 : decode cX10_divisor 8 = .ok (.iload_n 2, 1) := by decide +kernel
theorem dX10_divisor_9 : decode cX10_divisor 9 = .ok (.iload_n 3, 1) := by decide +kernel
theorem dX10_divisor_10 : decode cX10_divisor 10 = .ok (.irem, 1) := by decide +kernel
theorem dX10_divisor_11 : decode cX10_divisor 11 = .ok (.istore 4, 2) := by decide +kernel
theorem dX10_divisor_13 : decode cX10_divisor 13 = .ok (.iload_n 3, 1) := by decide +kernel
theorem dX10_divisor_14 : decode cX10_divisor 14 = .ok (.istore_n 2, 1) := by decide +kernel
theorem dX10_divisor_15 : decode cX10_divisor 15 = .ok (.iload 4, 2) := by decide +kernel
theorem dX10_divisor_17 : decode cX10_divisor 17 = .ok (.istore_n 3, 1) := by decide +kernel
theorem dX10_divisor_18 : decode cX10_divisor 18 = .ok (.goto (-14), 3) := by decide +kernel
theorem dX10_divisor_21 : decode cX10_divisor 21 = .ok (.iload_n 2, 1) := by decide +kernel
theorem dX10_divisor_22 : decode cX10_divisor 22 = .ok (.ireturn, 1) := by decide +kernel
theorem dX10_letter_0 : decode cX10_letter 0 = .ok (.iload_n 1, 1) := by decide +kernel
theorem dX10_letter_1 : decode cX10_letter 1 = .ok (.bipush 32, 2) := by decide +kernel
theorem dX10_letter_3 : decode cX10_letter 3 = .ok (.bipush 126, 2) := by decide +kernel
theorem dX10_letter_5 : decode cX10_letter 5 = .ok (.invokestatic 71, 3) := by decide +kernel
theorem dX10_letter_8 : decode cX10_letter 8 = .ok (.ifCond .ne 6, 3) := by decide +kernel
theorem dX10_letter_11 : decode cX10_letter 11 = .ok (.bipush (-102), 2) := by decide +kernel
theorem dX10_letter_13 : decode cX10_letter 13 = .ok (.ireturn, 1) := by decide +kernel
theorem dX10_letter_14 : decode cX10_letter 14 = .ok (.aload_n 0, 1) := by decide +kernel
theorem dX10_letter_15 : decode cX10_letter 15 = .ok (.getfield 75, 3) := by decide +kernel
theorem dX10_letter_18 : decode cX10_letter 18 = .ok (.bipush 26, 2) := by decide +kernel
theorem dX10_letter_20 : decode cX10_letter 20 = .ok (.if_icmp .ne 6, 3) := by decide +kernel
theorem dX10_letter_23 : decode cX10_letter 23 = .ok (.bipush (-104), 2) := by decide +kernel
theorem dX10_letter_25 : decode cX10_letter 25 = .ok (.ireturn, 1) := by decide +kernel
theorem dX10_letter_26 : decode cX10_letter 26 = .ok (.aload_n 0, 1) := by decide +kernel
theorem dX10_letter_27 : decode cX10_letter 27 = .ok (.getfield 28, 3) := by decide +kernel
theorem dX10_letter_30 : decode cX10_letter 30 = .ok (.aload_n 0, 1) := by decide +kernel
theorem dX10_letter_31 : decode cX10_letter 31 = .ok (.getfield 75, 3) := by decide +kernel
theorem dX10_letter_34 : decode cX10_letter 34 = .ok (.iload_n 1, 1) := by decide +kernel
theorem dX10_letter_35 : decode cX10_letter 35 = .ok (.i2b, 1) := by decide +kernel
theorem dX10_letter_36 : decode cX10_letter 36 = .ok (.bastore, 1) := by decide +kernel
theorem dX10_letter_37 : decode cX10_letter 37 = .ok (.aload_n 0, 1) := by decide +kernel
theorem dX10_letter_38 : decode cX10_letter 38 = .ok (.dup, 1) := by decide +kernel
theorem dX10_letter_39 : decode cX10_letter 39 = .ok (.getfield 75, 3) := by decide +kernel
theorem dX10_letter_42 : decode cX10_letter 42 = .ok (.iconst 1, 1) := by decide +kernel
theorem dX10_letter_43 : decode cX10_letter 43 = .ok (.iadd, 1) := by decide +kernel
theorem dX10_letter_44 : decode cX10_letter 44 = .ok (.putfield 75, 3) := by decide +kernel
theorem dX10_letter_47 : decode cX10_letter 47 = .ok (.aload_n 0, 1) := by decide +kernel
theorem dX10_letter_48 : decode cX10_letter 48 = .ok (.getfield 75, 3) := by decide +kernel
theorem dX10_letter_51 : decode cX10_letter 51 = .ok (.ireturn, 1) := by decide +kernel
theorem dX10_blank_0 : decode cX10_blank 0 = .ok (.aload_n 0, 1) := by decide +kernel
theorem dX10_blank_1 : decode cX10_blank 1 = .ok (.getfield 75, 3) := by decide +kernel
theorem dX10_blank_4 : decode cX10_blank 4 = .ok (.istore_n 1, 1) := by decide +kernel
theorem dX10_blank_5 : decode cX10_blank 5 = .ok (.aload_n 0, 1) := by decide +kernel
theorem dX10_blank_6 : decode cX10_blank 6 = .ok (.iconst 0, 1) := by decide +kernel
theorem dX10_blank_7 : decode cX10_blank 7 = .ok (.putfield 75, 3) := by decide +kernel
theorem dX10_blank_10 : decode cX10_blank 10 = .ok (.iload_n 1, 1) := by decide +kernel
theorem dX10_blank_11 : decode cX10_blank 11 = .ok (.ireturn, 1) := by decide +kernel
theorem dX10_kindBy_0 : decode cX10_kindBy 0 = .ok (.iload_n 0, 1) := by decide +kernel
theorem dX10_kindBy_1 : decode cX10_kindBy 1 = .ok (.lookupswitch 61 #[(104, 51), (111, 55), (116, 59), (119, 53), (121, 57)], 51) := by decide +kernel
theorem dX10_kindBy_52 : decode cX10_kindBy 52 = .ok (.iconst 0, 1) := by decide +kernel
theorem dX10_kindBy_53 : decode cX10_kindBy 53 = .ok (.ireturn, 1) := by decide +kernel
theorem dX10_kindBy_54 : decode cX10_kindBy 54 = .ok (.iconst 1, 1) := by decide +kernel
theorem dX10_kindBy_55 : decode cX10_kindBy 55 = .ok (.ireturn, 1) := by decide +kernel
theorem dX10_kindBy_56 : decode cX10_kindBy 56 = .ok (.iconst 2, 1) := by decide +kernel
theorem dX10_kindBy_57 : decode cX10_kindBy 57 = .ok (.ireturn, 1) := by decide +kernel
theorem dX10_kindBy_58 : decode cX10_kindBy 58 = .ok (.iconst 3, 1) := by decide +kernel
theorem dX10_kindBy_59 : decode cX10_kindBy 59 = .ok (.ireturn, 1) := by decide +kernel
theorem dX10_kindBy_60 : decode cX10_kindBy 60 = .ok (.iconst 4, 1) := by decide +kernel
theorem dX10_kindBy_61 : decode cX10_kindBy 61 = .ok (.ireturn, 1) := by decide +kernel
theorem dX10_kindBy_62 : decode cX10_kindBy 62 = .ok (.iconst (-1), 1) := by decide +kernel
theorem dX10_kindBy_63 : decode cX10_kindBy 63 = .ok (.ireturn, 1) := by decide +kernel
theorem dX10_at_0 : decode cX10_at 0 = .ok (.iload_n 1, 1) := by decide +kernel
theorem dX10_at_1 : decode cX10_at 1 = .ok (.aload_n 0, 1) := by decide +kernel
theorem dX10_at_2 : decode cX10_at 2 = .ok (.getfield 75, 3) := by decide +kernel
theorem dX10_at_5 : decode cX10_at 5 = .ok (.if_icmp .ge 12, 3) := by decide +kernel
theorem dX10_at_8 : decode cX10_at 8 = .ok (.aload_n 0, 1) := by decide +kernel
theorem dX10_at_9 : decode cX10_at 9 = .ok (.getfield 28, 3) := by decide +kernel
theorem dX10_at_12 : decode cX10_at 12 = .ok (.iload_n 1, 1) := by decide +kernel
theorem dX10_at_13 : decode cX10_at 13 = .ok (.baload, 1) := by decide +kernel
theorem dX10_at_14 : decode cX10_at 14 = .ok (.goto 4, 3) := by decide +kernel
theorem dX10_at_17 : decode cX10_at 17 = .ok (.iconst 0, 1) := by decide +kernel
theorem dX10_at_18 : decode cX10_at 18 = .ok (.ireturn, 1) := by decide +kernel
theorem dX10_isFigure_0 : decode cX10_isFigure 0 = .ok (.aload_n 0, 1) := by decide +kernel
theorem dX10_isFigure_1 : decode cX10_isFigure 1 = .ok (.iload_n 1, 1) := by decide +kernel
theorem dX10_isFigure_2 : decode cX10_isFigure 2 = .ok (.invokevirtual 79, 3) := by decide +kernel
theorem dX10_isFigure_5 : decode cX10_isFigure 5 = .ok (.bipush 48, 2) := by decide +kernel
theorem dX10_isFigure_7 : decode cX10_isFigure 7 = .ok (.isub, 1) := by decide +kernel
theorem dX10_isFigure_8 : decode cX10_isFigure 8 = .ok (.iconst 0, 1) := by decide +kernel
theorem dX10_isFigure_9 : decode cX10_isFigure 9 = .ok (.bipush 9, 2) := by decide +kernel
theorem dX10_isFigure_11 : decode cX10_isFigure 11 = .ok (.invokestatic 71, 3) := by decide +kernel
theorem dX10_isFigure_14 : decode cX10_isFigure 14 = .ok (.ireturn, 1) := by decide +kernel
theorem dX10_read_0 : decode cX10_read 0 = .ok (.aload_n 0, 1) := by decide +kernel
theorem dX10_read_1 : decode cX10_read 1 = .ok (.iconst 0, 1) := by decide +kernel
theorem dX10_read_2 : decode cX10_read 2 = .ok (.putfield 83, 3) := by decide +kernel
theorem dX10_read_5 : decode cX10_read 5 = .ok (.aload_n 0, 1) := by decide +kernel
theorem dX10_read_6 : decode cX10_read 6 = .ok (.iconst 0, 1) := by decide +kernel
theorem dX10_read_7 : decode cX10_read 7 = .ok (.putfield 87, 3) := by decide +kernel
theorem dX10_read_10 : decode cX10_read 10 = .ok (.iconst 0, 1) := by decide +kernel
theorem dX10_read_11 : decode cX10_read 11 = .ok (.istore_n 1, 1) := by decide +kernel
theorem dX10_read_12 : decode cX10_read 12 = .ok (.aload_n 0, 1) := by decide +kernel
theorem dX10_read_13 : decode cX10_read 13 = .ok (.getfield 87, 3) := by decide +kernel
theorem dX10_read_16 : decode cX10_read 16 = .ok (.bipush 6, 2) := by decide +kernel
theorem dX10_read_18 : decode cX10_read 18 = .ok (.if_icmp .ge 102, 3) := by decide +kernel
theorem dX10_read_21 : decode cX10_read 21 = .ok (.aload_n 0, 1) := by decide +kernel
theorem dX10_read_22 : decode cX10_read 22 = .ok (.iload_n 1, 1) := by decide +kernel
theorem dX10_read_23 : decode cX10_read 23 = .ok (.invokevirtual 79, 3) := by decide +kernel
theorem dX10_read_26 : decode cX10_read 26 = .ok (.invokestatic 90, 3) := by decide +kernel
theorem dX10_read_29 : decode cX10_read 29 = .ok (.iconst (-1), 1) := by decide +kernel
theorem dX10_read_30 : decode cX10_read 30 = .ok (.if_icmp .ne 5, 3) := by decide +kernel
theorem dX10_read_33 : decode cX10_read 33 = .ok (.iload_n 1, 1) := by decide +kernel
theorem dX10_read_34 : decode cX10_read 34 = .ok (.ireturn, 1) := by decide +kernel
theorem dX10_read_35 : decode cX10_read 35 = .ok (.aload_n 0, 1) := by decide +kernel
theorem dX10_read_36 : decode cX10_read 36 = .ok (.iload_n 1, 1) := by decide +kernel
theorem dX10_read_37 : decode cX10_read 37 = .ok (.iconst 1, 1) := by decide +kernel
theorem dX10_read_38 : decode cX10_read 38 = .ok (.iadd, 1) := by decide +kernel
theorem dX10_read_39 : decode cX10_read 39 = .ok (.invokevirtual 93, 3) := by decide +kernel
theorem dX10_read_42 : decode cX10_read 42 = .ok (.ifCond .ne 7, 3) := by decide +kernel
theorem dX10_read_45 : decode cX10_read 45 = .ok (.iload_n 1, 1) := by decide +kernel
theorem dX10_read_46 : decode cX10_read 46 = .ok (.iconst 1, 1) := by decide +kernel
theorem dX10_read_47 : decode cX10_read 47 = .ok (.iadd, 1) := by decide +kernel
theorem dX10_read_48 : decode cX10_read 48 = .ok (.ireturn, 1) := by decide +kernel
theorem dX10_read_49 : decode cX10_read 49 = .ok (.aload_n 0, 1) := by decide +kernel
theorem dX10_read_50 : decode cX10_read 50 = .ok (.iload_n 1, 1) := by decide +kernel
theorem dX10_read_51 : decode cX10_read 51 = .ok (.iconst 2, 1) := by decide +kernel
theorem dX10_read_52 : decode cX10_read 52 = .ok (.iadd, 1) := by decide +kernel
theorem dX10_read_53 : decode cX10_read 53 = .ok (.invokevirtual 93, 3) := by decide +kernel
theorem dX10_read_56 : decode cX10_read 56 = .ok (.ifCond .ne 7, 3) := by decide +kernel
theorem dX10_read_59 : decode cX10_read 59 = .ok (.iload_n 1, 1) := by decide +kernel
theorem dX10_read_60 : decode cX10_read 60 = .ok (.iconst 2, 1) := by decide +kernel
theorem dX10_read_61 : decode cX10_read 61 = .ok (.iadd, 1) := by decide +kernel
theorem dX10_read_62 : decode cX10_read 62 = .ok (.ireturn, 1) := by decide +kernel
theorem dX10_read_63 : decode cX10_read 63 = .ok (.aload_n 0, 1) := by decide +kernel
theorem dX10_read_64 : decode cX10_read 64 = .ok (.dup, 1) := by decide +kernel
theorem dX10_read_65 : decode cX10_read 65 = .ok (.getfield 87, 3) := by decide +kernel
theorem dX10_read_68 : decode cX10_read 68 = .ok (.iconst 1, 1) := by decide +kernel
theorem dX10_read_69 : decode cX10_read 69 = .ok (.iadd, 1) := by decide +kernel
theorem dX10_read_70 : decode cX10_read 70 = .ok (.putfield 87, 3) := by decide +kernel
theorem dX10_read_73 : decode cX10_read 73 = .ok (.iinc 1 3, 3) := by decide +kernel
theorem dX10_read_76 : decode cX10_read 76 = .ok (.aload_n 0, 1) := by decide +kernel
theorem dX10_read_77 : decode cX10_read 77 = .ok (.iload_n 1, 1) := by decide +kernel
theorem dX10_read_78 : decode cX10_read 78 = .ok (.aload_n 0, 1) := by decide +kernel
theorem dX10_read_79 : decode cX10_read 79 = .ok (.getfield 75, 3) := by decide +kernel
theorem dX10_read_82 : decode cX10_read 82 = .ok (.if_icmp .ne 7, 3) := by decide +kernel
theorem dX10_read_85 : decode cX10_read 85 = .ok (.iconst 1, 1) := by decide +kernel
theorem dX10_read_86 : decode cX10_read 86 = .ok (.goto 4, 3) := by decide +kernel
theorem dX10_read_89 : decode cX10_read 89 = .ok (.iconst 0, 1) := by decide +kernel
theorem dX10_read_90 : decode cX10_read 90 = .ok (.putfield 83, 3) := by decide +kernel
theorem dX10_read_93 : decode cX10_read 93 = .ok (.aload_n 0, 1) := by decide +kernel
theorem dX10_read_94 : decode cX10_read 94 = .ok (.getfield 87, 3) := by decide +kernel
theorem dX10_read_97 : decode cX10_read 97 = .ok (.bipush 6, 2) := by decide +kernel
theorem dX10_read_99 : decode cX10_read 99 = .ok (.if_icmp .eq 13, 3) := by decide +kernel
theorem dX10_read_102 : decode cX10_read 102 = .ok (.aload_n 0, 1) := by decide +kernel
theorem dX10_read_103 : decode cX10_read 103 = .ok (.iload_n 1, 1) := by decide +kernel
theorem dX10_read_104 : decode cX10_read 104 = .ok (.invokevirtual 79, 3) := by decide +kernel
theorem dX10_read_107 : decode cX10_read 107 = .ok (.bipush 44, 2) := by decide +kernel
theorem dX10_read_109 : decode cX10_read 109 = .ok (.if_icmp .eq 5, 3) := by decide +kernel
theorem dX10_read_112 : decode cX10_read 112 = .ok (.iload_n 1, 1) := by decide +kernel
theorem dX10_read_113 : decode cX10_read 113 = .ok (.ireturn, 1) := by decide +kernel
theorem dX10_read_114 : decode cX10_read 114 = .ok (.iinc 1 1, 3) := by decide +kernel
theorem dX10_read_117 : decode cX10_read 117 = .ok (.goto (-105), 3) := by decide +kernel
theorem dX10_read_120 : decode cX10_read 120 = .ok (.iload_n 1, 1) := by decide +kernel
theorem dX10_read_121 : decode cX10_read 121 = .ok (.ireturn, 1) := by decide +kernel
theorem dX10_fault_0 : decode cX10_fault 0 = .ok (.aload_n 0, 1) := by decide +kernel
theorem dX10_fault_1 : decode cX10_fault 1 = .ok (.invokevirtual 97, 3) := by decide +kernel
theorem dX10_fault_4 : decode cX10_fault 4 = .ok (.ireturn, 1) := by decide +kernel
theorem dX10_lane_0 : decode cX10_lane 0 = .ok (.aload_n 0, 1) := by decide +kernel
theorem dX10_lane_1 : decode cX10_lane 1 = .ok (.invokevirtual 97, 3) := by decide +kernel
theorem dX10_lane_4 : decode cX10_lane 4 = .ok (.pop, 1) := by decide +kernel
theorem dX10_lane_5 : decode cX10_lane 5 = .ok (.aload_n 0, 1) := by decide +kernel
theorem dX10_lane_6 : decode cX10_lane 6 = .ok (.getfield 83, 3) := by decide +kernel
theorem dX10_lane_9 : decode cX10_lane 9 = .ok (.ifCond .ne 6, 3) := by decide +kernel
theorem dX10_lane_12 : decode cX10_lane 12 = .ok (.bipush (-103), 2) := by decide +kernel
theorem dX10_lane_14 : decode cX10_lane 14 = .ok (.ireturn, 1) := by decide +kernel
theorem dX10_lane_15 : decode cX10_lane 15 = .ok (.aload_n 0, 1) := by decide +kernel
theorem dX10_lane_16 : decode cX10_lane 16 = .ok (.aload_n 0, 1) := by decide +kernel
theorem dX10_lane_17 : decode cX10_lane 17 = .ok (.getfield 87, 3) := by decide +kernel
theorem dX10_lane_20 : decode cX10_lane 20 = .ok (.putfield 101, 3) := by decide +kernel
theorem dX10_lane_23 : decode cX10_lane 23 = .ok (.iconst 0, 1) := by decide +kernel
theorem dX10_lane_24 : decode cX10_lane 24 = .ok (.istore_n 1, 1) := by decide +kernel
theorem dX10_lane_25 : decode cX10_lane 25 = .ok (.iload_n 1, 1) := by decide +kernel
theorem dX10_lane_26 : decode cX10_lane 26 = .ok (.aload_n 0, 1) := by decide +kernel
theorem dX10_lane_27 : decode cX10_lane 27 = .ok (.getfield 101, 3) := by decide +kernel
theorem dX10_lane_30 : decode cX10_lane 30 = .ok (.if_icmp .ge 64, 3) := by decide +kernel
theorem dX10_lane_33 : decode cX10_lane 33 = .ok (.aload_n 0, 1) := by decide +kernel
theorem dX10_lane_34 : decode cX10_lane 34 = .ok (.getfield 7, 3) := by decide +kernel
theorem dX10_lane_37 : decode cX10_lane 37 = .ok (.iload_n 1, 1) := by decide +kernel
theorem dX10_lane_38 : decode cX10_lane 38 = .ok (.aload_n 0, 1) := by decide +kernel
theorem dX10_lane_39 : decode cX10_lane 39 = .ok (.getfield 28, 3) := by decide +kernel
theorem dX10_lane_42 : decode cX10_lane 42 = .ok (.iconst 4, 1) := by decide +kernel
theorem dX10_lane_43 : decode cX10_lane 43 = .ok (.iload_n 1, 1) := by decide +kernel
theorem dX10_lane_44 : decode cX10_lane 44 = .ok (.imul, 1) := by decide +kernel
theorem dX10_lane_45 : decode cX10_lane 45 = .ok (.baload, 1) := by decide +kernel
theorem dX10_lane_46 : decode cX10_lane 46 = .ok (.invokestatic 90, 3) := by decide +kernel
theorem dX10_lane_49 : decode cX10_lane 49 = .ok (.iastore, 1) := by decide +kernel
theorem dX10_lane_50 : decode cX10_lane 50 = .ok (.aload_n 0, 1) := by decide +kernel
theorem dX10_lane_51 : decode cX10_lane 51 = .ok (.getfield 13, 3) := by decide +kernel
theorem dX10_lane_54 : decode cX10_lane 54 = .ok (.iload_n 1, 1) := by decide +kernel
theorem dX10_lane_55 : decode cX10_lane 55 = .ok (.aload_n 0, 1) := by decide +kernel
theorem dX10_lane_56 : decode cX10_lane 56 = .ok (.getfield 28, 3) := by decide +kernel
theorem dX10_lane_59 : decode cX10_lane 59 = .ok (.iconst 4, 1) := by decide +kernel
theorem dX10_lane_60 : decode cX10_lane 60 = .ok (.iload_n 1, 1) := by decide +kernel
theorem dX10_lane_61 : decode cX10_lane 61 = .ok (.imul, 1) := by decide +kernel
theorem dX10_lane_62 : decode cX10_lane 62 = .ok (.iconst 1, 1) := by decide +kernel
theorem dX10_lane_63 : decode cX10_lane 63 = .ok (.iadd, 1) := by decide +kernel
theorem dX10_lane_64 : decode cX10_lane 64 = .ok (.baload, 1) := by decide +kernel
theorem dX10_lane_65 : decode cX10_lane 65 = .ok (.bipush 48, 2) := by decide +kernel
theorem dX10_lane_67 : decode cX10_lane 67 = .ok (.isub, 1) := by decide +kernel
theorem dX10_lane_68 : decode cX10_lane 68 = .ok (.iastore, 1) := by decide +kernel
theorem dX10_lane_69 : decode cX10_lane 69 = .ok (.aload_n 0, 1) := by decide +kernel
theorem dX10_lane_70 : decode cX10_lane 70 = .ok (.getfield 16, 3) := by decide +kernel
theorem dX10_lane_73 : decode cX10_lane 73 = .ok (.iload_n 1, 1) := by decide +kernel
theorem dX10_lane_74 : decode cX10_lane 74 = .ok (.aload_n 0, 1) := by decide +kernel
theorem dX10_lane_75 : decode cX10_lane 75 = .ok (.getfield 28, 3) := by decide +kernel
theorem dX10_lane_78 : decode cX10_lane 78 = .ok (.iconst 4, 1) := by decide +kernel
theorem dX10_lane_79 : decode cX10_lane 79 = .ok (.iload_n 1, 1) := by decide +kernel
theorem dX10_lane_80 : decode cX10_lane 80 = .ok (.imul, 1) := by decide +kernel
theorem dX10_lane_81 : decode cX10_lane 81 = .ok (.iconst 2, 1) := by decide +kernel
theorem dX10_lane_82 : decode cX10_lane 82 = .ok (.iadd, 1) := by decide +kernel
theorem dX10_lane_83 : decode cX10_lane 83 = .ok (.baload, 1) := by decide +kernel
theorem dX10_lane_84 : decode cX10_lane 84 = .ok (.bipush 48, 2) := by decide +kernel
theorem dX10_lane_86 : decode cX10_lane 86 = .ok (.isub, 1) := by decide +kernel
theorem dX10_lane_87 : decode cX10_lane 87 = .ok (.iastore, 1) := by decide +kernel
theorem dX10_lane_88 : decode cX10_lane 88 = .ok (.iinc 1 1, 3) := by decide +kernel
theorem dX10_lane_91 : decode cX10_lane 91 = .ok (.goto (-66), 3) := by decide +kernel
theorem dX10_lane_94 : decode cX10_lane 94 = .ok (.aload_n 0, 1) := by decide +kernel
theorem dX10_lane_95 : decode cX10_lane 95 = .ok (.iconst 0, 1) := by decide +kernel
theorem dX10_lane_96 : decode cX10_lane 96 = .ok (.putfield 104, 3) := by decide +kernel
theorem dX10_lane_99 : decode cX10_lane 99 = .ok (.aload_n 0, 1) := by decide +kernel
theorem dX10_lane_100 : decode cX10_lane 100 = .ok (.iconst 0, 1) := by decide +kernel
theorem dX10_lane_101 : decode cX10_lane 101 = .ok (.putfield 107, 3) := by decide +kernel
theorem dX10_lane_104 : decode cX10_lane 104 = .ok (.aload_n 0, 1) := by decide +kernel
theorem dX10_lane_105 : decode cX10_lane 105 = .ok (.iconst 0, 1) := by decide +kernel
theorem dX10_lane_106 : decode cX10_lane 106 = .ok (.putfield 110, 3) := by decide +kernel
theorem dX10_lane_109 : decode cX10_lane 109 = .ok (.aload_n 0, 1) := by decide +kernel
theorem dX10_lane_110 : decode cX10_lane 110 = .ok (.dup, 1) := by decide +kernel
theorem dX10_lane_111 : decode cX10_lane 111 = .ok (.getfield 113, 3) := by decide +kernel
theorem dX10_lane_114 : decode cX10_lane 114 = .ok (.iconst 1, 1) := by decide +kernel
theorem dX10_lane_115 : decode cX10_lane 115 = .ok (.iadd, 1) := by decide +kernel
theorem dX10_lane_116 : decode cX10_lane 116 = .ok (.putfield 113, 3) := by decide +kernel
theorem dX10_lane_119 : decode cX10_lane 119 = .ok (.aload_n 0, 1) := by decide +kernel
theorem dX10_lane_120 : decode cX10_lane 120 = .ok (.iconst 0, 1) := by decide +kernel
theorem dX10_lane_121 : decode cX10_lane 121 = .ok (.putfield 116, 3) := by decide +kernel
theorem dX10_lane_124 : decode cX10_lane 124 = .ok (.aload_n 0, 1) := by decide +kernel
theorem dX10_lane_125 : decode cX10_lane 125 = .ok (.iconst 0, 1) := by decide +kernel
theorem dX10_lane_126 : decode cX10_lane 126 = .ok (.putfield 75, 3) := by decide +kernel
theorem dX10_lane_129 : decode cX10_lane 129 = .ok (.aload_n 0, 1) := by decide +kernel
theorem dX10_lane_130 : decode cX10_lane 130 = .ok (.getfield 101, 3) := by decide +kernel
theorem dX10_lane_133 : decode cX10_lane 133 = .ok (.ireturn, 1) := by decide +kernel
theorem dX10_isHouse_0 : decode cX10_isHouse 0 = .ok (.iload_n 1, 1) := by decide +kernel
theorem dX10_isHouse_1 : decode cX10_isHouse 1 = .ok (.iconst 0, 1) := by decide +kernel
theorem dX10_isHouse_2 : decode cX10_isHouse 2 = .ok (.aload_n 0, 1) := by decide +kernel
theorem dX10_isHouse_3 : decode cX10_isHouse 3 = .ok (.getfield 101, 3) := by decide +kernel
theorem dX10_isHouse_6 : decode cX10_isHouse 6 = .ok (.iconst 1, 1) := by decide +kernel
theorem dX10_isHouse_7 : decode cX10_isHouse 7 = .ok (.isub, 1) := by decide +kernel
theorem dX10_isHouse_8 : decode cX10_isHouse 8 = .ok (.invokestatic 71, 3) := by decide +kernel
theorem dX10_isHouse_11 : decode cX10_isHouse 11 = .ok (.ireturn, 1) := by decide +kernel
theorem dX10_held_0 : decode cX10_held 0 = .ok (.iload_n 0, 1) := by decide +kernel
theorem dX10_held_1 : decode cX10_held 1 = .ok (.ifCond .ge 7, 3) := by decide +kernel
theorem dX10_held_4 : decode cX10_held 4 = .ok (.iconst 0, 1) := by decide +kernel
theorem dX10_held_5 : decode cX10_held 5 = .ok (.goto 15, 3) := by decide +kernel
theorem dX10_held_8 : decode cX10_held 8 = .ok (.iload_n 0, 1) := by decide +kernel
theorem dX10_held_9 : decode cX10_held 9 = .ok (.bipush 20, 2) := by decide +kernel
theorem dX10_held_11 : decode cX10_held 11 = .ok (.if_icmp .le 8, 3) := by decide +kernel
theorem dX10_held_14 : decode cX10_held 14 = .ok (.bipush 20, 2) := by decide +kernel
theorem dX10_held_16 : decode cX10_held 16 = .ok (.goto 4, 3) := by decide +kernel
theorem dX10_held_19 : decode cX10_held 19 = .ok (.iload_n 0, 1) := by decide +kernel
theorem dX10_held_20 : decode cX10_held 20 = .ok (.ireturn, 1) := by decide +kernel
theorem dX10_grown_0 : decode cX10_grown 0 = .ok (.iload_n 1, 1) := by decide +kernel
theorem dX10_grown_1 : decode cX10_grown 1 = .ok (.iconst 1, 1) := by decide +kernel
theorem dX10_grown_2 : decode cX10_grown 2 = .ok (.iadd, 1) := by decide +kernel
theorem dX10_grown_3 : decode cX10_grown 3 = .ok (.iload_n 2, 1) := by decide +kernel
theorem dX10_grown_4 : decode cX10_grown 4 = .ok (.iconst 3, 1) := by decide +kernel
theorem dX10_grown_5 : decode cX10_grown 5 = .ok (.idiv, 1) := by decide +kernel
theorem dX10_grown_6 : decode cX10_grown 6 = .ok (.isub, 1) := by decide +kernel
theorem dX10_grown_7 : decode cX10_grown 7 = .ok (.istore 5, 2) := by decide +kernel
theorem dX10_grown_9 : decode cX10_grown 9 = .ok (.iload_n 0, 1) := by decide +kernel
theorem dX10_grown_10 : decode cX10_grown 10 = .ok (.tableswitch 59 1 4 #[30, 36, 42, 48], 30) := by decide +kernel
theorem dX10_grown_40 : decode cX10_grown 40 = .ok (.iload_n 1, 1) := by decide +kernel
theorem dX10_grown_41 : decode cX10_grown 41 = .ok (.istore 5, 2) := by decide +kernel
theorem dX10_grown_43 : decode cX10_grown 43 = .ok (.goto 26, 3) := by decide +kernel
theorem dX10_grown_46 : decode cX10_grown 46 = .ok (.iinc 5 (-2), 3) := by decide +kernel
theorem dX10_grown_49 : decode cX10_grown 49 = .ok (.goto 20, 3) := by decide +kernel
theorem dX10_grown_52 : decode cX10_grown 52 = .ok (.iinc 5 1, 3) := by decide +kernel
theorem dX10_grown_55 : decode cX10_grown 55 = .ok (.goto 14, 3) := by decide +kernel
theorem dX10_grown_58 : decode cX10_grown 58 = .ok (.iload_n 1, 1) := by decide +kernel
theorem dX10_grown_59 : decode cX10_grown 59 = .ok (.iload 4, 2) := by decide +kernel
theorem dX10_grown_61 : decode cX10_grown 61 = .ok (.iconst 2, 1) := by decide +kernel
theorem dX10_grown_62 : decode cX10_grown 62 = .ok (.irem, 1) := by decide +kernel
theorem dX10_grown_63 : decode cX10_grown 63 = .ok (.isub, 1) := by decide +kernel
theorem dX10_grown_64 : decode cX10_grown 64 = .ok (.istore 5, 2) := by decide +kernel
theorem dX10_grown_66 : decode cX10_grown 66 = .ok (.goto 3, 3) := by decide +kernel
theorem dX10_grown_69 : decode cX10_grown 69 = .ok (.iload 5, 2) := by decide +kernel
theorem dX10_grown_71 : decode cX10_grown 71 = .ok (.iload_n 3, 1) := by decide +kernel
theorem dX10_grown_72 : decode cX10_grown 72 = .ok (.ifCond .eq 7, 3) := by decide +kernel
theorem dX10_grown_75 : decode cX10_grown 75 = .ok (.iconst 3, 1) := by decide +kernel
theorem dX10_grown_76 : decode cX10_grown 76 = .ok (.goto 4, 3) := by decide +kernel
theorem dX10_grown_79 : decode cX10_grown 79 = .ok (.iconst 0, 1) := by decide +kernel
theorem dX10_grown_80 : decode cX10_grown 80 = .ok (.iadd, 1) := by decide +kernel
theorem dX10_grown_81 : decode cX10_grown 81 = .ok (.invokestatic 119, 3) := by decide +kernel
theorem dX10_grown_84 : decode cX10_grown 84 = .ok (.ireturn, 1) := by decide +kernel
theorem dX10_grownOf_0 : decode cX10_grownOf 0 = .ok (.aload_n 0, 1) := by decide +kernel
theorem dX10_grownOf_1 : decode cX10_grownOf 1 = .ok (.getfield 7, 3) := by decide +kernel
theorem dX10_grownOf_4 : decode cX10_grownOf 4 = .ok (.iload_n 1, 1) := by decide +kernel
theorem dX10_grownOf_5 : decode cX10_grownOf 5 = .ok (.iaload, 1) := by decide +kernel
theorem dX10_grownOf_6 : decode cX10_grownOf 6 = .ok (.aload_n 0, 1) := by decide +kernel
theorem dX10_grownOf_7 : decode cX10_grownOf 7 = .ok (.getfield 13, 3) := by decide +kernel
theorem dX10_grownOf_10 : decode cX10_grownOf 10 = .ok (.iload_n 1, 1) := by decide +kernel
theorem dX10_grownOf_11 : decode cX10_grownOf 11 = .ok (.iaload, 1) := by decide +kernel
theorem dX10_grownOf_12 : decode cX10_grownOf 12 = .ok (.aload_n 0, 1) := by decide +kernel
theorem dX10_grownOf_13 : decode cX10_grownOf 13 = .ok (.getfield 16, 3) := by decide +kernel
theorem dX10_grownOf_16 : decode cX10_grownOf 16 = .ok (.iload_n 1, 1) := by decide +kernel
theorem dX10_grownOf_17 : decode cX10_grownOf 17 = .ok (.iaload, 1) := by decide +kernel
theorem dX10_grownOf_18 : decode cX10_grownOf 18 = .ok (.aload_n 0, 1) := by decide +kernel
theorem dX10_grownOf_19 : decode cX10_grownOf 19 = .ok (.getfield 104, 3) := by decide +kernel
theorem dX10_grownOf_22 : decode cX10_grownOf 22 = .ok (.iload_n 1, 1) := by decide +kernel
theorem dX10_grownOf_23 : decode cX10_grownOf 23 = .ok (.invokestatic 122, 3) := by decide +kernel
theorem dX10_grownOf_26 : decode cX10_grownOf 26 = .ok (.aload_n 0, 1) := by decide +kernel
theorem dX10_grownOf_27 : decode cX10_grownOf 27 = .ok (.getfield 107, 3) := by decide +kernel
theorem dX10_grownOf_30 : decode cX10_grownOf 30 = .ok (.iconst 1, 1) := by decide +kernel
theorem dX10_grownOf_31 : decode cX10_grownOf 31 = .ok (.iadd, 1) := by decide +kernel
theorem dX10_grownOf_32 : decode cX10_grownOf 32 = .ok (.invokestatic 126, 3) := by decide +kernel
theorem dX10_grownOf_35 : decode cX10_grownOf 35 = .ok (.ireturn, 1) := by decide +kernel
theorem dX10_goYear_0 : decode cX10_goYear 0 = .ok (.iconst 0, 1) := by decide +kernel
theorem dX10_goYear_1 : decode cX10_goYear 1 = .ok (.istore_n 1, 1) := by decide +kernel
theorem dX10_goYear_2 : decode cX10_goYear 2 = .ok (.iload_n 1, 1) := by decide +kernel
theorem dX10_goYear_3 : decode cX10_goYear 3 = .ok (.aload_n 0, 1) := by decide +kernel
theorem dX10_goYear_4 : decode cX10_goYear 4 = .ok (.getfield 101, 3) := by decide +kernel
theorem dX10_goYear_7 : decode cX10_goYear 7 = .ok (.if_icmp .ge 20, 3) := by decide +kernel
theorem dX10_goYear_10 : decode cX10_goYear 10 = .ok (.aload_n 0, 1) := by decide +kernel
theorem dX10_goYear_11 : decode cX10_goYear 11 = .ok (.getfield 13, 3) := by decide +kernel
theorem dX10_goYear_14 : decode cX10_goYear 14 = .ok (.iload_n 1, 1) := by decide +kernel
theorem dX10_goYear_15 : decode cX10_goYear 15 = .ok (.aload_n 0, 1) := by decide +kernel
theorem dX10_goYear_16 : decode cX10_goYear 16 = .ok (.iload_n 1, 1) := by decide +kernel
theorem dX10_goYear_17 : decode cX10_goYear 17 = .ok (.invokevirtual 130, 3) := by decide +kernel
theorem dX10_goYear_20 : decode cX10_goYear 20 = .ok (.iastore, 1) := by decide +kernel
theorem dX10_goYear_21 : decode cX10_goYear 21 = .ok (.iinc 1 1, 3) := by decide +kernel
theorem dX10_goYear_24 : decode cX10_goYear 24 = .ok (.goto (-22), 3) := by decide +kernel
theorem dX10_goYear_27 : decode cX10_goYear 27 = .ok (.aload_n 0, 1) := by decide +kernel
theorem dX10_goYear_28 : decode cX10_goYear 28 = .ok (.iconst 0, 1) := by decide +kernel
theorem dX10_goYear_29 : decode cX10_goYear 29 = .ok (.putfield 104, 3) := by decide +kernel
theorem dX10_goYear_32 : decode cX10_goYear 32 = .ok (.aload_n 0, 1) := by decide +kernel
theorem dX10_goYear_33 : decode cX10_goYear 33 = .ok (.dup, 1) := by decide +kernel
theorem dX10_goYear_34 : decode cX10_goYear 34 = .ok (.getfield 107, 3) := by decide +kernel
theorem dX10_goYear_37 : decode cX10_goYear 37 = .ok (.iconst 1, 1) := by decide +kernel
theorem dX10_goYear_38 : decode cX10_goYear 38 = .ok (.iadd, 1) := by decide +kernel
theorem dX10_goYear_39 : decode cX10_goYear 39 = .ok (.putfield 107, 3) := by decide +kernel
theorem dX10_goYear_42 : decode cX10_goYear 42 = .ok (.return_, 1) := by decide +kernel
theorem dX10_reachesTo_0 : decode cX10_reachesTo 0 = .ok (.iload_n 2, 1) := by decide +kernel
theorem dX10_reachesTo_1 : decode cX10_reachesTo 1 = .ok (.istore_n 3, 1) := by decide +kernel
theorem dX10_reachesTo_2 : decode cX10_reachesTo 2 = .ok (.iconst 0, 1) := by decide +kernel
theorem dX10_reachesTo_3 : decode cX10_reachesTo 3 = .ok (.istore 4, 2) := by decide +kernel
theorem dX10_reachesTo_5 : decode cX10_reachesTo 5 = .ok (.iload 4, 2) := by decide +kernel
theorem dX10_reachesTo_7 : decode cX10_reachesTo 7 = .ok (.iload_n 1, 1) := by decide +kernel
theorem dX10_reachesTo_8 : decode cX10_reachesTo 8 = .ok (.if_icmp .ge 29, 3) := by decide +kernel
theorem dX10_reachesTo_11 : decode cX10_reachesTo 11 = .ok (.iload_n 3, 1) := by decide +kernel
theorem dX10_reachesTo_12 : decode cX10_reachesTo 12 = .ok (.aload_n 0, 1) := by decide +kernel
theorem dX10_reachesTo_13 : decode cX10_reachesTo 13 = .ok (.getfield 13, 3) := by decide +kernel
theorem dX10_reachesTo_16 : decode cX10_reachesTo 16 = .ok (.iload 4, 2) := by decide +kernel
theorem dX10_reachesTo_18 : decode cX10_reachesTo 18 = .ok (.iaload, 1) := by decide +kernel
theorem dX10_reachesTo_19 : decode cX10_reachesTo 19 = .ok (.bipush 10, 2) := by decide +kernel
theorem dX10_reachesTo_21 : decode cX10_reachesTo 21 = .ok (.if_icmp .lt 7, 3) := by decide +kernel
theorem dX10_reachesTo_24 : decode cX10_reachesTo 24 = .ok (.iconst 2, 1) := by decide +kernel
theorem dX10_reachesTo_25 : decode cX10_reachesTo 25 = .ok (.goto 4, 3) := by decide +kernel
theorem dX10_reachesTo_28 : decode cX10_reachesTo 28 = .ok (.iconst 0, 1) := by decide +kernel
theorem dX10_reachesTo_29 : decode cX10_reachesTo 29 = .ok (.isub, 1) := by decide +kernel
theorem dX10_reachesTo_30 : decode cX10_reachesTo 30 = .ok (.istore_n 3, 1) := by decide +kernel
theorem dX10_reachesTo_31 : decode cX10_reachesTo 31 = .ok (.iinc 4 1, 3) := by decide +kernel
theorem dX10_reachesTo_34 : decode cX10_reachesTo 34 = .ok (.goto (-29), 3) := by decide +kernel
theorem dX10_reachesTo_37 : decode cX10_reachesTo 37 = .ok (.iload_n 3, 1) := by decide +kernel
theorem dX10_reachesTo_38 : decode cX10_reachesTo 38 = .ok (.ifCond .ge 7, 3) := by decide +kernel
theorem dX10_reachesTo_41 : decode cX10_reachesTo 41 = .ok (.iconst 0, 1) := by decide +kernel
theorem dX10_reachesTo_42 : decode cX10_reachesTo 42 = .ok (.goto 4, 3) := by decide +kernel
theorem dX10_reachesTo_45 : decode cX10_reachesTo 45 = .ok (.iload_n 3, 1) := by decide +kernel
theorem dX10_reachesTo_46 : decode cX10_reachesTo 46 = .ok (.ireturn, 1) := by decide +kernel
theorem dX10_wetBy_0 : decode cX10_wetBy 0 = .ok (.iconst 0, 1) := by decide +kernel
theorem dX10_wetBy_1 : decode cX10_wetBy 1 = .ok (.istore_n 2, 1) := by decide +kernel
theorem dX10_wetBy_2 : decode cX10_wetBy 2 = .ok (.iconst 0, 1) := by decide +kernel
theorem dX10_wetBy_3 : decode cX10_wetBy 3 = .ok (.istore_n 3, 1) := by decide +kernel
theorem dX10_wetBy_4 : decode cX10_wetBy 4 = .ok (.iload_n 3, 1) := by decide +kernel
theorem dX10_wetBy_5 : decode cX10_wetBy 5 = .ok (.aload_n 0, 1) := by decide +kernel
theorem dX10_wetBy_6 : decode cX10_wetBy 6 = .ok (.getfield 101, 3) := by decide +kernel
theorem dX10_wetBy_9 : decode cX10_wetBy 9 = .ok (.if_icmp .ge 34, 3) := by decide +kernel
theorem dX10_wetBy_12 : decode cX10_wetBy 12 = .ok (.iload_n 2, 1) := by decide +kernel
theorem dX10_wetBy_13 : decode cX10_wetBy 13 = .ok (.aload_n 0, 1) := by decide +kernel
theorem dX10_wetBy_14 : decode cX10_wetBy 14 = .ok (.getfield 13, 3) := by decide +kernel
theorem dX10_wetBy_17 : decode cX10_wetBy 17 = .ok (.iload_n 3, 1) := by decide +kernel
theorem dX10_wetBy_18 : decode cX10_wetBy 18 = .ok (.iaload, 1) := by decide +kernel
theorem dX10_wetBy_19 : decode cX10_wetBy 19 = .ok (.aload_n 0, 1) := by decide +kernel
theorem dX10_wetBy_20 : decode cX10_wetBy 20 = .ok (.iload_n 3, 1) := by decide +kernel
theorem dX10_wetBy_21 : decode cX10_wetBy 21 = .ok (.iload_n 1, 1) := by decide +kernel
theorem dX10_wetBy_22 : decode cX10_wetBy 22 = .ok (.invokevirtual 133, 3) := by decide +kernel
theorem dX10_wetBy_25 : decode cX10_wetBy 25 = .ok (.if_icmp .ge 9, 3) := by decide +kernel
theorem dX10_wetBy_28 : decode cX10_wetBy 28 = .ok (.iconst 1, 1) := by decide +kernel
theorem dX10_wetBy_29 : decode cX10_wetBy 29 = .ok (.iload_n 3, 1) := by decide +kernel
theorem dX10_wetBy_30 : decode cX10_wetBy 30 = .ok (.ishl, 1) := by decide +kernel
theorem dX10_wetBy_31 : decode cX10_wetBy 31 = .ok (.goto 4, 3) := by decide +kernel
theorem dX10_wetBy_34 : decode cX10_wetBy 34 = .ok (.iconst 0, 1) := by decide +kernel
theorem dX10_wetBy_35 : decode cX10_wetBy 35 = .ok (.ior, 1) := by decide +kernel
theorem dX10_wetBy_36 : decode cX10_wetBy 36 = .ok (.istore_n 2, 1) := by decide +kernel
theorem dX10_wetBy_37 : decode cX10_wetBy 37 = .ok (.iinc 3 1, 3) := by decide +kernel
theorem dX10_wetBy_40 : decode cX10_wetBy 40 = .ok (.goto (-36), 3) := by decide +kernel
theorem dX10_wetBy_43 : decode cX10_wetBy 43 = .ok (.iload_n 2, 1) := by decide +kernel
theorem dX10_wetBy_44 : decode cX10_wetBy 44 = .ok (.ireturn, 1) := by decide +kernel
theorem dX10_goRain_0 : decode cX10_goRain 0 = .ok (.aload_n 0, 1) := by decide +kernel
theorem dX10_goRain_1 : decode cX10_goRain 1 = .ok (.iload_n 1, 1) := by decide +kernel
theorem dX10_goRain_2 : decode cX10_goRain 2 = .ok (.invokevirtual 137, 3) := by decide +kernel
theorem dX10_goRain_5 : decode cX10_goRain 5 = .ok (.istore_n 2, 1) := by decide +kernel
theorem dX10_goRain_6 : decode cX10_goRain 6 = .ok (.iconst 0, 1) := by decide +kernel
theorem dX10_goRain_7 : decode cX10_goRain 7 = .ok (.istore_n 3, 1) := by decide +kernel
theorem dX10_goRain_8 : decode cX10_goRain 8 = .ok (.iload_n 3, 1) := by decide +kernel
theorem dX10_goRain_9 : decode cX10_goRain 9 = .ok (.aload_n 0, 1) := by decide +kernel
theorem dX10_goRain_10 : decode cX10_goRain 10 = .ok (.getfield 101, 3) := by decide +kernel
theorem dX10_goRain_13 : decode cX10_goRain 13 = .ok (.if_icmp .ge 42, 3) := by decide +kernel
theorem dX10_goRain_16 : decode cX10_goRain 16 = .ok (.aload_n 0, 1) := by decide +kernel
theorem dX10_goRain_17 : decode cX10_goRain 17 = .ok (.getfield 16, 3) := by decide +kernel
theorem dX10_goRain_20 : decode cX10_goRain 20 = .ok (.iload_n 3, 1) := by decide +kernel
theorem dX10_goRain_21 : decode cX10_goRain 21 = .ok (.dup2, 1) := by decide +kernel
theorem dX10_goRain_22 : decode cX10_goRain 22 = .ok (.iaload, 1) := by decide +kernel
theorem dX10_goRain_23 : decode cX10_goRain 23 = .ok (.iload_n 2, 1) := by decide +kernel
theorem dX10_goRain_24 : decode cX10_goRain 24 = .ok (.iload_n 3, 1) := by decide +kernel
theorem dX10_goRain_25 : decode cX10_goRain 25 = .ok (.invokestatic 122, 3) := by decide +kernel
theorem dX10_goRain_28 : decode cX10_goRain 28 = .ok (.ifCond .eq 18, 3) := by decide +kernel
theorem dX10_goRain_31 : decode cX10_goRain 31 = .ok (.aload_n 0, 1) := by decide +kernel
theorem dX10_goRain_32 : decode cX10_goRain 32 = .ok (.getfield 16, 3) := by decide +kernel
theorem dX10_goRain_35 : decode cX10_goRain 35 = .ok (.iload_n 3, 1) := by decide +kernel
theorem dX10_goRain_36 : decode cX10_goRain 36 = .ok (.iaload, 1) := by decide +kernel
theorem dX10_goRain_37 : decode cX10_goRain 37 = .ok (.bipush 9, 2) := by decide +kernel
theorem dX10_goRain_39 : decode cX10_goRain 39 = .ok (.if_icmp .ge 7, 3) := by decide +kernel
theorem dX10_goRain_42 : decode cX10_goRain 42 = .ok (.iconst 1, 1) := by decide +kernel
theorem dX10_goRain_43 : decode cX10_goRain 43 = .ok (.goto 4, 3) := by decide +kernel
theorem dX10_goRain_46 : decode cX10_goRain 46 = .ok (.iconst 0, 1) := by decide +kernel
theorem dX10_goRain_47 : decode cX10_goRain 47 = .ok (.iadd, 1) := by decide +kernel
theorem dX10_goRain_48 : decode cX10_goRain 48 = .ok (.iastore, 1) := by decide +kernel
theorem dX10_goRain_49 : decode cX10_goRain 49 = .ok (.iinc 3 1, 3) := by decide +kernel
theorem dX10_goRain_52 : decode cX10_goRain 52 = .ok (.goto (-44), 3) := by decide +kernel
theorem dX10_goRain_55 : decode cX10_goRain 55 = .ok (.iload_n 2, 1) := by decide +kernel
theorem dX10_goRain_56 : decode cX10_goRain 56 = .ok (.invokestatic 140, 3) := by decide +kernel
theorem dX10_goRain_59 : decode cX10_goRain 59 = .ok (.ireturn, 1) := by decide +kernel
theorem dX10_goCheer_0 : decode cX10_goCheer 0 = .ok (.aload_n 0, 1) := by decide +kernel
theorem dX10_goCheer_1 : decode cX10_goCheer 1 = .ok (.getfield 16, 3) := by decide +kernel
theorem dX10_goCheer_4 : decode cX10_goCheer 4 = .ok (.iload_n 1, 1) := by decide +kernel
theorem dX10_goCheer_5 : decode cX10_goCheer 5 = .ok (.aload_n 0, 1) := by decide +kernel
theorem dX10_goCheer_6 : decode cX10_goCheer 6 = .ok (.getfield 16, 3) := by decide +kernel
theorem dX10_goCheer_9 : decode cX10_goCheer 9 = .ok (.iload_n 1, 1) := by decide +kernel
theorem dX10_goCheer_10 : decode cX10_goCheer 10 = .ok (.iaload, 1) := by decide +kernel
theorem dX10_goCheer_11 : decode cX10_goCheer 11 = .ok (.iconst 2, 1) := by decide +kernel
theorem dX10_goCheer_12 : decode cX10_goCheer 12 = .ok (.if_icmp .le 14, 3) := by decide +kernel
theorem dX10_goCheer_15 : decode cX10_goCheer 15 = .ok (.aload_n 0, 1) := by decide +kernel
theorem dX10_goCheer_16 : decode cX10_goCheer 16 = .ok (.getfield 16, 3) := by decide +kernel
theorem dX10_goCheer_19 : decode cX10_goCheer 19 = .ok (.iload_n 1, 1) := by decide +kernel
theorem dX10_goCheer_20 : decode cX10_goCheer 20 = .ok (.iaload, 1) := by decide +kernel
theorem dX10_goCheer_21 : decode cX10_goCheer 21 = .ok (.iconst 2, 1) := by decide +kernel
theorem dX10_goCheer_22 : decode cX10_goCheer 22 = .ok (.isub, 1) := by decide +kernel
theorem dX10_goCheer_23 : decode cX10_goCheer 23 = .ok (.goto 4, 3) := by decide +kernel
theorem dX10_goCheer_26 : decode cX10_goCheer 26 = .ok (.iconst 0, 1) := by decide +kernel
theorem dX10_goCheer_27 : decode cX10_goCheer 27 = .ok (.iastore, 1) := by decide +kernel
theorem dX10_goCheer_28 : decode cX10_goCheer 28 = .ok (.return_, 1) := by decide +kernel
theorem dX10_reedAll_0 : decode cX10_reedAll 0 = .ok (.iconst 0, 1) := by decide +kernel
theorem dX10_reedAll_1 : decode cX10_reedAll 1 = .ok (.istore_n 1, 1) := by decide +kernel
theorem dX10_reedAll_2 : decode cX10_reedAll 2 = .ok (.iconst 0, 1) := by decide +kernel
theorem dX10_reedAll_3 : decode cX10_reedAll 3 = .ok (.istore_n 2, 1) := by decide +kernel
theorem dX10_reedAll_4 : decode cX10_reedAll 4 = .ok (.iload_n 2, 1) := by decide +kernel
theorem dX10_reedAll_5 : decode cX10_reedAll 5 = .ok (.aload_n 0, 1) := by decide +kernel
theorem dX10_reedAll_6 : decode cX10_reedAll 6 = .ok (.getfield 101, 3) := by decide +kernel
theorem dX10_reedAll_9 : decode cX10_reedAll 9 = .ok (.if_icmp .ge 18, 3) := by decide +kernel
theorem dX10_reedAll_12 : decode cX10_reedAll 12 = .ok (.iload_n 1, 1) := by decide +kernel
theorem dX10_reedAll_13 : decode cX10_reedAll 13 = .ok (.aload_n 0, 1) := by decide +kernel
theorem dX10_reedAll_14 : decode cX10_reedAll 14 = .ok (.getfield 13, 3) := by decide +kernel
theorem dX10_reedAll_17 : decode cX10_reedAll 17 = .ok (.iload_n 2, 1) := by decide +kernel
theorem dX10_reedAll_18 : decode cX10_reedAll 18 = .ok (.iaload, 1) := by decide +kernel
theorem dX10_reedAll_19 : decode cX10_reedAll 19 = .ok (.iadd, 1) := by decide +kernel
theorem dX10_reedAll_20 : decode cX10_reedAll 20 = .ok (.istore_n 1, 1) := by decide +kernel
theorem dX10_reedAll_21 : decode cX10_reedAll 21 = .ok (.iinc 2 1, 3) := by decide +kernel
theorem dX10_reedAll_24 : decode cX10_reedAll 24 = .ok (.goto (-20), 3) := by decide +kernel
theorem dX10_reedAll_27 : decode cX10_reedAll 27 = .ok (.iload_n 1, 1) := by decide +kernel
theorem dX10_reedAll_28 : decode cX10_reedAll 28 = .ok (.ireturn, 1) := by decide +kernel
theorem dX10_houseNow_0 : decode cX10_houseNow 0 = .ok (.iload_n 2, 1) := by decide +kernel
theorem dX10_houseNow_1 : decode cX10_houseNow 1 = .ok (.tableswitch 89 0 5 #[39, 46, 53, 60, 77, 83], 39) := by decide +kernel
theorem dX10_houseNow_40 : decode cX10_houseNow 40 = .ok (.aload_n 0, 1) := by decide +kernel
theorem dX10_houseNow_41 : decode cX10_houseNow 41 = .ok (.getfield 7, 3) := by decide +kernel
theorem dX10_houseNow_44 : decode cX10_houseNow 44 = .ok (.iload_n 1, 1) := by decide +kernel
theorem dX10_houseNow_45 : decode cX10_houseNow 45 = .ok (.iaload, 1) := by decide +kernel
theorem dX10_houseNow_46 : decode cX10_houseNow 46 = .ok (.ireturn, 1) := by decide +kernel
theorem dX10_houseNow_47 : decode cX10_houseNow 47 = .ok (.aload_n 0, 1) := by decide +kernel
theorem dX10_houseNow_48 : decode cX10_houseNow 48 = .ok (.getfield 13, 3) := by decide +kernel
theorem dX10_houseNow_51 : decode cX10_houseNow 51 = .ok (.iload_n 1, 1) := by decide +kernel
theorem dX10_houseNow_52 : decode cX10_houseNow 52 = .ok (.iaload, 1) := by decide +kernel
theorem dX10_houseNow_53 : decode cX10_houseNow 53 = .ok (.ireturn, 1) := by decide +kernel
theorem dX10_houseNow_54 : decode cX10_houseNow 54 = .ok (.aload_n 0, 1) := by decide +kernel
theorem dX10_houseNow_55 : decode cX10_houseNow 55 = .ok (.getfield 16, 3) := by decide +kernel
theorem dX10_houseNow_58 : decode cX10_houseNow 58 = .ok (.iload_n 1, 1) := by decide +kernel
theorem dX10_houseNow_59 : decode cX10_houseNow 59 = .ok (.iaload, 1) := by decide +kernel
theorem dX10_houseNow_60 : decode cX10_houseNow 60 = .ok (.ireturn, 1) := by decide +kernel
theorem dX10_houseNow_61 : decode cX10_houseNow 61 = .ok (.aload_n 0, 1) := by decide +kernel
theorem dX10_houseNow_62 : decode cX10_houseNow 62 = .ok (.getfield 104, 3) := by decide +kernel
theorem dX10_houseNow_65 : decode cX10_houseNow 65 = .ok (.iload_n 1, 1) := by decide +kernel
theorem dX10_houseNow_66 : decode cX10_houseNow 66 = .ok (.invokestatic 122, 3) := by decide +kernel
theorem dX10_houseNow_69 : decode cX10_houseNow 69 = .ok (.ifCond .eq 7, 3) := by decide +kernel
theorem dX10_houseNow_72 : decode cX10_houseNow 72 = .ok (.iconst 1, 1) := by decide +kernel
theorem dX10_houseNow_73 : decode cX10_houseNow 73 = .ok (.goto 4, 3) := by decide +kernel
theorem dX10_houseNow_76 : decode cX10_houseNow 76 = .ok (.iconst 0, 1) := by decide +kernel
theorem dX10_houseNow_77 : decode cX10_houseNow 77 = .ok (.ireturn, 1) := by decide +kernel
theorem dX10_houseNow_78 : decode cX10_houseNow 78 = .ok (.aload_n 0, 1) := by decide +kernel
theorem dX10_houseNow_79 : decode cX10_houseNow 79 = .ok (.iload_n 1, 1) := by decide +kernel
theorem dX10_houseNow_80 : decode cX10_houseNow 80 = .ok (.invokevirtual 130, 3) := by decide +kernel
theorem dX10_houseNow_83 : decode cX10_houseNow 83 = .ok (.ireturn, 1) := by decide +kernel
theorem dX10_houseNow_84 : decode cX10_houseNow 84 = .ok (.aload_n 0, 1) := by decide +kernel
theorem dX10_houseNow_85 : decode cX10_houseNow 85 = .ok (.iload_n 1, 1) := by decide +kernel
theorem dX10_houseNow_86 : decode cX10_houseNow 86 = .ok (.invokevirtual 143, 3) := by decide +kernel
theorem dX10_houseNow_89 : decode cX10_houseNow 89 = .ok (.ireturn, 1) := by decide +kernel
theorem dX10_houseNow_90 : decode cX10_houseNow 90 = .ok (.aload_n 0, 1) := by decide +kernel
theorem dX10_houseNow_91 : decode cX10_houseNow 91 = .ok (.iload_n 1, 1) := by decide +kernel
theorem dX10_houseNow_92 : decode cX10_houseNow 92 = .ok (.invokevirtual 146, 3) := by decide +kernel
theorem dX10_houseNow_95 : decode cX10_houseNow 95 = .ok (.ireturn, 1) := by decide +kernel
theorem dX10_house_0 : decode cX10_house 0 = .ok (.aload_n 0, 1) := by decide +kernel
theorem dX10_house_1 : decode cX10_house 1 = .ok (.iload_n 1, 1) := by decide +kernel
theorem dX10_house_2 : decode cX10_house 2 = .ok (.invokevirtual 149, 3) := by decide +kernel
theorem dX10_house_5 : decode cX10_house 5 = .ok (.ifCond .ne 8, 3) := by decide +kernel
theorem dX10_house_8 : decode cX10_house 8 = .ok (.bipush (-101), 2) := by decide +kernel
theorem dX10_house_10 : decode cX10_house 10 = .ok (.goto 24, 3) := by decide +kernel
theorem dX10_house_13 : decode cX10_house 13 = .ok (.iload_n 2, 1) := by decide +kernel
theorem dX10_house_14 : decode cX10_house 14 = .ok (.iconst 0, 1) := by decide +kernel
theorem dX10_house_15 : decode cX10_house 15 = .ok (.bipush 6, 2) := by decide +kernel
theorem dX10_house_17 : decode cX10_house 17 = .ok (.invokestatic 71, 3) := by decide +kernel
theorem dX10_house_20 : decode cX10_house 20 = .ok (.ifCond .eq 12, 3) := by decide +kernel
theorem dX10_house_23 : decode cX10_house 23 = .ok (.aload_n 0, 1) := by decide +kernel
theorem dX10_house_24 : decode cX10_house 24 = .ok (.iload_n 1, 1) := by decide +kernel
theorem dX10_house_25 : decode cX10_house 25 = .ok (.iload_n 2, 1) := by decide +kernel
theorem dX10_house_26 : decode cX10_house 26 = .ok (.invokevirtual 152, 3) := by decide +kernel
theorem dX10_house_29 : decode cX10_house 29 = .ok (.goto 5, 3) := by decide +kernel
theorem dX10_house_32 : decode cX10_house 32 = .ok (.bipush (-102), 2) := by decide +kernel
theorem dX10_house_34 : decode cX10_house 34 = .ok (.ireturn, 1) := by decide +kernel
theorem dX10_as_0 : decode cX10_as 0 = .ok (.aload_n 0, 1) := by decide +kernel
theorem dX10_as_1 : decode cX10_as 1 = .ok (.iload_n 1, 1) := by decide +kernel
theorem dX10_as_2 : decode cX10_as 2 = .ok (.invokevirtual 149, 3) := by decide +kernel
theorem dX10_as_5 : decode cX10_as 5 = .ok (.ifCond .ne 6, 3) := by decide +kernel
theorem dX10_as_8 : decode cX10_as 8 = .ok (.bipush (-101), 2) := by decide +kernel
theorem dX10_as_10 : decode cX10_as 10 = .ok (.ireturn, 1) := by decide +kernel
theorem dX10_as_11 : decode cX10_as 11 = .ok (.iload_n 2, 1) := by decide +kernel
theorem dX10_as_12 : decode cX10_as 12 = .ok (.iconst 0, 1) := by decide +kernel
theorem dX10_as_13 : decode cX10_as 13 = .ok (.iconst 4, 1) := by decide +kernel
theorem dX10_as_14 : decode cX10_as 14 = .ok (.invokestatic 71, 3) := by decide +kernel
theorem dX10_as_17 : decode cX10_as 17 = .ok (.ifCond .ne 6, 3) := by decide +kernel
theorem dX10_as_20 : decode cX10_as 20 = .ok (.bipush (-102), 2) := by decide +kernel
theorem dX10_as_22 : decode cX10_as 22 = .ok (.ireturn, 1) := by decide +kernel
theorem dX10_as_23 : decode cX10_as 23 = .ok (.aload_n 0, 1) := by decide +kernel
theorem dX10_as_24 : decode cX10_as 24 = .ok (.getfield 7, 3) := by decide +kernel
theorem dX10_as_27 : decode cX10_as 27 = .ok (.iload_n 1, 1) := by decide +kernel
theorem dX10_as_28 : decode cX10_as 28 = .ok (.iaload, 1) := by decide +kernel
theorem dX10_as_29 : decode cX10_as 29 = .ok (.istore_n 3, 1) := by decide +kernel
theorem dX10_as_30 : decode cX10_as 30 = .ok (.iload_n 2, 1) := by decide +kernel
theorem dX10_as_31 : decode cX10_as 31 = .ok (.ifCond .eq 18, 3) := by decide +kernel
theorem dX10_as_34 : decode cX10_as 34 = .ok (.iload_n 3, 1) := by decide +kernel
theorem dX10_as_35 : decode cX10_as 35 = .ok (.iload_n 2, 1) := by decide +kernel
theorem dX10_as_36 : decode cX10_as 36 = .ok (.if_icmp .eq 13, 3) := by decide +kernel
theorem dX10_as_39 : decode cX10_as 39 = .ok (.iload_n 2, 1) := by decide +kernel
theorem dX10_as_40 : decode cX10_as 40 = .ok (.iconst 1, 1) := by decide +kernel
theorem dX10_as_41 : decode cX10_as 41 = .ok (.if_icmp .ne 12, 3) := by decide +kernel
theorem dX10_as_44 : decode cX10_as 44 = .ok (.iload_n 3, 1) := by decide +kernel
theorem dX10_as_45 : decode cX10_as 45 = .ok (.iconst 4, 1) := by decide +kernel
theorem dX10_as_46 : decode cX10_as 46 = .ok (.if_icmp .ne 7, 3) := by decide +kernel
theorem dX10_as_49 : decode cX10_as 49 = .ok (.iload_n 1, 1) := by decide +kernel
theorem dX10_as_50 : decode cX10_as 50 = .ok (.goto 4, 3) := by decide +kernel
theorem dX10_as_53 : decode cX10_as 53 = .ok (.iconst (-1), 1) := by decide +kernel
theorem dX10_as_54 : decode cX10_as 54 = .ok (.ireturn, 1) := by decide +kernel
theorem dX10_isRain_0 : decode cX10_isRain 0 = .ok (.iload_n 0, 1) := by decide +kernel
theorem dX10_isRain_1 : decode cX10_isRain 1 = .ok (.iconst 0, 1) := by decide +kernel
theorem dX10_isRain_2 : decode cX10_isRain 2 = .ok (.bipush 20, 2) := by decide +kernel
theorem dX10_isRain_4 : decode cX10_isRain 4 = .ok (.invokestatic 71, 3) := by decide +kernel
theorem dX10_isRain_7 : decode cX10_isRain 7 = .ok (.ireturn, 1) := by decide +kernel
theorem dX10_reaches_0 : decode cX10_reaches 0 = .ok (.aload_n 0, 1) := by decide +kernel
theorem dX10_reaches_1 : decode cX10_reaches 1 = .ok (.iload_n 1, 1) := by decide +kernel
theorem dX10_reaches_2 : decode cX10_reaches 2 = .ok (.invokevirtual 149, 3) := by decide +kernel
theorem dX10_reaches_5 : decode cX10_reaches 5 = .ok (.ifCond .ne 6, 3) := by decide +kernel
theorem dX10_reaches_8 : decode cX10_reaches 8 = .ok (.bipush (-101), 2) := by decide +kernel
theorem dX10_reaches_10 : decode cX10_reaches 10 = .ok (.ireturn, 1) := by decide +kernel
theorem dX10_reaches_11 : decode cX10_reaches 11 = .ok (.iload_n 2, 1) := by decide +kernel
theorem dX10_reaches_12 : decode cX10_reaches 12 = .ok (.invokestatic 155, 3) := by decide +kernel
theorem dX10_reaches_15 : decode cX10_reaches 15 = .ok (.ifCond .eq 12, 3) := by decide +kernel
theorem dX10_reaches_18 : decode cX10_reaches 18 = .ok (.aload_n 0, 1) := by decide +kernel
theorem dX10_reaches_19 : decode cX10_reaches 19 = .ok (.iload_n 1, 1) := by decide +kernel
theorem dX10_reaches_20 : decode cX10_reaches 20 = .ok (.iload_n 2, 1) := by decide +kernel
theorem dX10_reaches_21 : decode cX10_reaches 21 = .ok (.invokevirtual 133, 3) := by decide +kernel
theorem dX10_reaches_24 : decode cX10_reaches 24 = .ok (.goto 5, 3) := by decide +kernel
theorem dX10_reaches_27 : decode cX10_reaches 27 = .ok (.bipush (-102), 2) := by decide +kernel
theorem dX10_reaches_29 : decode cX10_reaches 29 = .ok (.ireturn, 1) := by decide +kernel
theorem dX10_wet_0 : decode cX10_wet 0 = .ok (.iload_n 1, 1) := by decide +kernel
theorem dX10_wet_1 : decode cX10_wet 1 = .ok (.invokestatic 155, 3) := by decide +kernel
theorem dX10_wet_4 : decode cX10_wet 4 = .ok (.ifCond .ne 6, 3) := by decide +kernel
theorem dX10_wet_7 : decode cX10_wet 7 = .ok (.bipush (-102), 2) := by decide +kernel
theorem dX10_wet_9 : decode cX10_wet 9 = .ok (.ireturn, 1) := by decide +kernel
theorem dX10_wet_10 : decode cX10_wet 10 = .ok (.aload_n 0, 1) := by decide +kernel
theorem dX10_wet_11 : decode cX10_wet 11 = .ok (.getfield 101, 3) := by decide +kernel
theorem dX10_wet_14 : decode cX10_wet 14 = .ok (.ifCond .ne 8, 3) := by decide +kernel
theorem dX10_wet_17 : decode cX10_wet 17 = .ok (.bipush (-103), 2) := by decide +kernel
theorem dX10_wet_19 : decode cX10_wet 19 = .ok (.goto 8, 3) := by decide +kernel
theorem dX10_wet_22 : decode cX10_wet 22 = .ok (.aload_n 0, 1) := by decide +kernel
theorem dX10_wet_23 : decode cX10_wet 23 = .ok (.iload_n 1, 1) := by decide +kernel
theorem dX10_wet_24 : decode cX10_wet 24 = .ok (.invokevirtual 137, 3) := by decide +kernel
theorem dX10_wet_27 : decode cX10_wet 27 = .ok (.ireturn, 1) := by decide +kernel
theorem dX10_year_0 : decode cX10_year 0 = .ok (.aload_n 0, 1) := by decide +kernel
theorem dX10_year_1 : decode cX10_year 1 = .ok (.getfield 101, 3) := by decide +kernel
theorem dX10_year_4 : decode cX10_year 4 = .ok (.ifCond .ne 6, 3) := by decide +kernel
theorem dX10_year_7 : decode cX10_year 7 = .ok (.bipush (-103), 2) := by decide +kernel
theorem dX10_year_9 : decode cX10_year 9 = .ok (.ireturn, 1) := by decide +kernel
theorem dX10_year_10 : decode cX10_year 10 = .ok (.aload_n 0, 1) := by decide +kernel
theorem dX10_year_11 : decode cX10_year 11 = .ok (.getfield 107, 3) := by decide +kernel
theorem dX10_year_14 : decode cX10_year 14 = .ok (.sipush 999, 3) := by decide +kernel
theorem dX10_year_17 : decode cX10_year 17 = .ok (.if_icmp .ne 6, 3) := by decide +kernel
theorem dX10_year_20 : decode cX10_year 20 = .ok (.bipush (-104), 2) := by decide +kernel
theorem dX10_year_22 : decode cX10_year 22 = .ok (.ireturn, 1) := by decide +kernel
theorem dX10_year_23 : decode cX10_year 23 = .ok (.aload_n 0, 1) := by decide +kernel
theorem dX10_year_24 : decode cX10_year 24 = .ok (.invokevirtual 158, 3) := by decide +kernel
theorem dX10_year_27 : decode cX10_year 27 = .ok (.aload_n 0, 1) := by decide +kernel
theorem dX10_year_28 : decode cX10_year 28 = .ok (.getfield 107, 3) := by decide +kernel
theorem dX10_year_31 : decode cX10_year 31 = .ok (.ireturn, 1) := by decide +kernel
theorem dX10_rain_0 : decode cX10_rain 0 = .ok (.iload_n 1, 1) := by decide +kernel
theorem dX10_rain_1 : decode cX10_rain 1 = .ok (.invokestatic 155, 3) := by decide +kernel
theorem dX10_rain_4 : decode cX10_rain 4 = .ok (.ifCond .ne 6, 3) := by decide +kernel
theorem dX10_rain_7 : decode cX10_rain 7 = .ok (.bipush (-102), 2) := by decide +kernel
theorem dX10_rain_9 : decode cX10_rain 9 = .ok (.ireturn, 1) := by decide +kernel
theorem dX10_rain_10 : decode cX10_rain 10 = .ok (.aload_n 0, 1) := by decide +kernel
theorem dX10_rain_11 : decode cX10_rain 11 = .ok (.getfield 101, 3) := by decide +kernel
theorem dX10_rain_14 : decode cX10_rain 14 = .ok (.ifCond .ne 6, 3) := by decide +kernel
theorem dX10_rain_17 : decode cX10_rain 17 = .ok (.bipush (-103), 2) := by decide +kernel
theorem dX10_rain_19 : decode cX10_rain 19 = .ok (.ireturn, 1) := by decide +kernel
theorem dX10_rain_20 : decode cX10_rain 20 = .ok (.aload_n 0, 1) := by decide +kernel
theorem dX10_rain_21 : decode cX10_rain 21 = .ok (.getfield 110, 3) := by decide +kernel
theorem dX10_rain_24 : decode cX10_rain 24 = .ok (.sipush 9000, 3) := by decide +kernel
theorem dX10_rain_27 : decode cX10_rain 27 = .ok (.if_icmp .lt 6, 3) := by decide +kernel
theorem dX10_rain_30 : decode cX10_rain 30 = .ok (.bipush (-104), 2) := by decide +kernel
theorem dX10_rain_32 : decode cX10_rain 32 = .ok (.ireturn, 1) := by decide +kernel
theorem dX10_rain_33 : decode cX10_rain 33 = .ok (.aload_n 0, 1) := by decide +kernel
theorem dX10_rain_34 : decode cX10_rain 34 = .ok (.iload_n 1, 1) := by decide +kernel
theorem dX10_rain_35 : decode cX10_rain 35 = .ok (.invokevirtual 161, 3) := by decide +kernel
theorem dX10_rain_38 : decode cX10_rain 38 = .ok (.istore_n 2, 1) := by decide +kernel
theorem dX10_rain_39 : decode cX10_rain 39 = .ok (.aload_n 0, 1) := by decide +kernel
theorem dX10_rain_40 : decode cX10_rain 40 = .ok (.dup, 1) := by decide +kernel
theorem dX10_rain_41 : decode cX10_rain 41 = .ok (.getfield 110, 3) := by decide +kernel
theorem dX10_rain_44 : decode cX10_rain 44 = .ok (.iload_n 2, 1) := by decide +kernel
theorem dX10_rain_45 : decode cX10_rain 45 = .ok (.iadd, 1) := by decide +kernel
theorem dX10_rain_46 : decode cX10_rain 46 = .ok (.putfield 110, 3) := by decide +kernel
theorem dX10_rain_49 : decode cX10_rain 49 = .ok (.iload_n 2, 1) := by decide +kernel
theorem dX10_rain_50 : decode cX10_rain 50 = .ok (.ireturn, 1) := by decide +kernel
theorem dX10_cheer_0 : decode cX10_cheer 0 = .ok (.aload_n 0, 1) := by decide +kernel
theorem dX10_cheer_1 : decode cX10_cheer 1 = .ok (.iload_n 1, 1) := by decide +kernel
theorem dX10_cheer_2 : decode cX10_cheer 2 = .ok (.invokevirtual 149, 3) := by decide +kernel
theorem dX10_cheer_5 : decode cX10_cheer 5 = .ok (.ifCond .ne 6, 3) := by decide +kernel
theorem dX10_cheer_8 : decode cX10_cheer 8 = .ok (.bipush (-101), 2) := by decide +kernel
theorem dX10_cheer_10 : decode cX10_cheer 10 = .ok (.ireturn, 1) := by decide +kernel
theorem dX10_cheer_11 : decode cX10_cheer 11 = .ok (.aload_n 0, 1) := by decide +kernel
theorem dX10_cheer_12 : decode cX10_cheer 12 = .ok (.iload_n 1, 1) := by decide +kernel
theorem dX10_cheer_13 : decode cX10_cheer 13 = .ok (.invokevirtual 164, 3) := by decide +kernel
theorem dX10_cheer_16 : decode cX10_cheer 16 = .ok (.aload_n 0, 1) := by decide +kernel
theorem dX10_cheer_17 : decode cX10_cheer 17 = .ok (.getfield 16, 3) := by decide +kernel
theorem dX10_cheer_20 : decode cX10_cheer 20 = .ok (.iload_n 1, 1) := by decide +kernel
theorem dX10_cheer_21 : decode cX10_cheer 21 = .ok (.iaload, 1) := by decide +kernel
theorem dX10_cheer_22 : decode cX10_cheer 22 = .ok (.ireturn, 1) := by decide +kernel
theorem dX10_mayComb_0 : decode cX10_mayComb 0 = .ok (.aload_n 0, 1) := by decide +kernel
theorem dX10_mayComb_1 : decode cX10_mayComb 1 = .ok (.getfield 104, 3) := by decide +kernel
theorem dX10_mayComb_4 : decode cX10_mayComb 4 = .ok (.iload_n 1, 1) := by decide +kernel
theorem dX10_mayComb_5 : decode cX10_mayComb 5 = .ok (.invokestatic 122, 3) := by decide +kernel
theorem dX10_mayComb_8 : decode cX10_mayComb 8 = .ok (.ifCond .ne 17, 3) := by decide +kernel
theorem dX10_mayComb_11 : decode cX10_mayComb 11 = .ok (.aload_n 0, 1) := by decide +kernel
theorem dX10_mayComb_12 : decode cX10_mayComb 12 = .ok (.getfield 13, 3) := by decide +kernel
theorem dX10_mayComb_15 : decode cX10_mayComb 15 = .ok (.iload_n 1, 1) := by decide +kernel
theorem dX10_mayComb_16 : decode cX10_mayComb 16 = .ok (.iaload, 1) := by decide +kernel
theorem dX10_mayComb_17 : decode cX10_mayComb 17 = .ok (.iconst 2, 1) := by decide +kernel
theorem dX10_mayComb_18 : decode cX10_mayComb 18 = .ok (.if_icmp .lt 7, 3) := by decide +kernel
theorem dX10_mayComb_21 : decode cX10_mayComb 21 = .ok (.iconst 1, 1) := by decide +kernel
theorem dX10_mayComb_22 : decode cX10_mayComb 22 = .ok (.goto 4, 3) := by decide +kernel
theorem dX10_mayComb_25 : decode cX10_mayComb 25 = .ok (.iconst 0, 1) := by decide +kernel
theorem dX10_mayComb_26 : decode cX10_mayComb 26 = .ok (.ireturn, 1) := by decide +kernel
theorem dX10_goComb_0 : decode cX10_goComb 0 = .ok (.aload_n 0, 1) := by decide +kernel
theorem dX10_goComb_1 : decode cX10_goComb 1 = .ok (.getfield 13, 3) := by decide +kernel
theorem dX10_goComb_4 : decode cX10_goComb 4 = .ok (.iload_n 1, 1) := by decide +kernel
theorem dX10_goComb_5 : decode cX10_goComb 5 = .ok (.dup2, 1) := by decide +kernel
theorem dX10_goComb_6 : decode cX10_goComb 6 = .ok (.iaload, 1) := by decide +kernel
theorem dX10_goComb_7 : decode cX10_goComb 7 = .ok (.iconst 2, 1) := by decide +kernel
theorem dX10_goComb_8 : decode cX10_goComb 8 = .ok (.isub, 1) := by decide +kernel
theorem dX10_goComb_9 : decode cX10_goComb 9 = .ok (.iastore, 1) := by decide +kernel
theorem dX10_goComb_10 : decode cX10_goComb 10 = .ok (.aload_n 0, 1) := by decide +kernel
theorem dX10_goComb_11 : decode cX10_goComb 11 = .ok (.dup, 1) := by decide +kernel
theorem dX10_goComb_12 : decode cX10_goComb 12 = .ok (.getfield 104, 3) := by decide +kernel
theorem dX10_goComb_15 : decode cX10_goComb 15 = .ok (.iconst 1, 1) := by decide +kernel
theorem dX10_goComb_16 : decode cX10_goComb 16 = .ok (.iload_n 1, 1) := by decide +kernel
theorem dX10_goComb_17 : decode cX10_goComb 17 = .ok (.ishl, 1) := by decide +kernel
theorem dX10_goComb_18 : decode cX10_goComb 18 = .ok (.ior, 1) := by decide +kernel
theorem dX10_goComb_19 : decode cX10_goComb 19 = .ok (.putfield 104, 3) := by decide +kernel
theorem dX10_goComb_22 : decode cX10_goComb 22 = .ok (.return_, 1) := by decide +kernel
theorem dX10_comb_0 : decode cX10_comb 0 = .ok (.aload_n 0, 1) := by decide +kernel
theorem dX10_comb_1 : decode cX10_comb 1 = .ok (.iload_n 1, 1) := by decide +kernel
theorem dX10_comb_2 : decode cX10_comb 2 = .ok (.invokevirtual 149, 3) := by decide +kernel
theorem dX10_comb_5 : decode cX10_comb 5 = .ok (.ifCond .ne 6, 3) := by decide +kernel
theorem dX10_comb_8 : decode cX10_comb 8 = .ok (.bipush (-101), 2) := by decide +kernel
theorem dX10_comb_10 : decode cX10_comb 10 = .ok (.ireturn, 1) := by decide +kernel
theorem dX10_comb_11 : decode cX10_comb 11 = .ok (.aload_n 0, 1) := by decide +kernel
theorem dX10_comb_12 : decode cX10_comb 12 = .ok (.iload_n 1, 1) := by decide +kernel
theorem dX10_comb_13 : decode cX10_comb 13 = .ok (.invokevirtual 168, 3) := by decide +kernel
theorem dX10_comb_16 : decode cX10_comb 16 = .ok (.ifCond .ne 6, 3) := by decide +kernel
theorem dX10_comb_19 : decode cX10_comb 19 = .ok (.bipush (-103), 2) := by decide +kernel
theorem dX10_comb_21 : decode cX10_comb 21 = .ok (.ireturn, 1) := by decide +kernel
theorem dX10_comb_22 : decode cX10_comb 22 = .ok (.aload_n 0, 1) := by decide +kernel
theorem dX10_comb_23 : decode cX10_comb 23 = .ok (.iload_n 1, 1) := by decide +kernel
theorem dX10_comb_24 : decode cX10_comb 24 = .ok (.invokevirtual 171, 3) := by decide +kernel
theorem dX10_comb_27 : decode cX10_comb 27 = .ok (.aload_n 0, 1) := by decide +kernel
theorem dX10_comb_28 : decode cX10_comb 28 = .ok (.getfield 13, 3) := by decide +kernel
theorem dX10_comb_31 : decode cX10_comb 31 = .ok (.iload_n 1, 1) := by decide +kernel
theorem dX10_comb_32 : decode cX10_comb 32 = .ok (.iaload, 1) := by decide +kernel
theorem dX10_comb_33 : decode cX10_comb 33 = .ok (.ireturn, 1) := by decide +kernel
theorem dX10_move_0 : decode cX10_move 0 = .ok (.aload_n 0, 1) := by decide +kernel
theorem dX10_move_1 : decode cX10_move 1 = .ok (.iload_n 1, 1) := by decide +kernel
theorem dX10_move_2 : decode cX10_move 2 = .ok (.invokevirtual 149, 3) := by decide +kernel
theorem dX10_move_5 : decode cX10_move 5 = .ok (.ifCond .ne 6, 3) := by decide +kernel
theorem dX10_move_8 : decode cX10_move 8 = .ok (.bipush (-101), 2) := by decide +kernel
theorem dX10_move_10 : decode cX10_move 10 = .ok (.ireturn, 1) := by decide +kernel
theorem dX10_move_11 : decode cX10_move 11 = .ok (.iload_n 2, 1) := by decide +kernel
theorem dX10_move_12 : decode cX10_move 12 = .ok (.iconst 0, 1) := by decide +kernel
theorem dX10_move_13 : decode cX10_move 13 = .ok (.iconst 4, 1) := by decide +kernel
theorem dX10_move_14 : decode cX10_move 14 = .ok (.invokestatic 71, 3) := by decide +kernel
theorem dX10_move_17 : decode cX10_move 17 = .ok (.ifCond .eq 13, 3) := by decide +kernel
theorem dX10_move_20 : decode cX10_move 20 = .ok (.iload_n 3, 1) := by decide +kernel
theorem dX10_move_21 : decode cX10_move 21 = .ok (.iconst 0, 1) := by decide +kernel
theorem dX10_move_22 : decode cX10_move 22 = .ok (.bipush 9, 2) := by decide +kernel
theorem dX10_move_24 : decode cX10_move 24 = .ok (.invokestatic 71, 3) := by decide +kernel
theorem dX10_move_27 : decode cX10_move 27 = .ok (.ifCond .ne 6, 3) := by decide +kernel
theorem dX10_move_30 : decode cX10_move 30 = .ok (.bipush (-102), 2) := by decide +kernel
theorem dX10_move_32 : decode cX10_move 32 = .ok (.ireturn, 1) := by decide +kernel
theorem dX10_move_33 : decode cX10_move 33 = .ok (.aload_n 0, 1) := by decide +kernel
theorem dX10_move_34 : decode cX10_move 34 = .ok (.getfield 7, 3) := by decide +kernel
theorem dX10_move_37 : decode cX10_move 37 = .ok (.iload_n 1, 1) := by decide +kernel
theorem dX10_move_38 : decode cX10_move 38 = .ok (.iaload, 1) := by decide +kernel
theorem dX10_move_39 : decode cX10_move 39 = .ok (.istore 4, 2) := by decide +kernel
theorem dX10_move_41 : decode cX10_move 41 = .ok (.aload_n 0, 1) := by decide +kernel
theorem dX10_move_42 : decode cX10_move 42 = .ok (.getfield 7, 3) := by decide +kernel
theorem dX10_move_45 : decode cX10_move 45 = .ok (.iload_n 1, 1) := by decide +kernel
theorem dX10_move_46 : decode cX10_move 46 = .ok (.iload_n 2, 1) := by decide +kernel
theorem dX10_move_47 : decode cX10_move 47 = .ok (.iastore, 1) := by decide +kernel
theorem dX10_move_48 : decode cX10_move 48 = .ok (.aload_n 0, 1) := by decide +kernel
theorem dX10_move_49 : decode cX10_move 49 = .ok (.getfield 16, 3) := by decide +kernel
theorem dX10_move_52 : decode cX10_move 52 = .ok (.iload_n 1, 1) := by decide +kernel
theorem dX10_move_53 : decode cX10_move 53 = .ok (.iload_n 3, 1) := by decide +kernel
theorem dX10_move_54 : decode cX10_move 54 = .ok (.iastore, 1) := by decide +kernel
theorem dX10_move_55 : decode cX10_move 55 = .ok (.iload 4, 2) := by decide +kernel
theorem dX10_move_57 : decode cX10_move 57 = .ok (.ireturn, 1) := by decide +kernel
theorem dX10_save_0 : decode cX10_save 0 = .ok (.iconst 0, 1) := by decide +kernel
theorem dX10_save_1 : decode cX10_save 1 = .ok (.istore_n 1, 1) := by decide +kernel
theorem dX10_save_2 : decode cX10_save 2 = .ok (.iload_n 1, 1) := by decide +kernel
theorem dX10_save_3 : decode cX10_save 3 = .ok (.bipush 6, 2) := by decide +kernel
theorem dX10_save_5 : decode cX10_save 5 = .ok (.if_icmp .ge 33, 3) := by decide +kernel
theorem dX10_save_8 : decode cX10_save 8 = .ok (.aload_n 0, 1) := by decide +kernel
theorem dX10_save_9 : decode cX10_save 9 = .ok (.getfield 32, 3) := by decide +kernel
theorem dX10_save_12 : decode cX10_save 12 = .ok (.iload_n 1, 1) := by decide +kernel
theorem dX10_save_13 : decode cX10_save 13 = .ok (.aload_n 0, 1) := by decide +kernel
theorem dX10_save_14 : decode cX10_save 14 = .ok (.getfield 13, 3) := by decide +kernel
theorem dX10_save_17 : decode cX10_save 17 = .ok (.iload_n 1, 1) := by decide +kernel
theorem dX10_save_18 : decode cX10_save 18 = .ok (.iaload, 1) := by decide +kernel
theorem dX10_save_19 : decode cX10_save 19 = .ok (.iastore, 1) := by decide +kernel
theorem dX10_save_20 : decode cX10_save 20 = .ok (.aload_n 0, 1) := by decide +kernel
theorem dX10_save_21 : decode cX10_save 21 = .ok (.getfield 35, 3) := by decide +kernel
theorem dX10_save_24 : decode cX10_save 24 = .ok (.iload_n 1, 1) := by decide +kernel
theorem dX10_save_25 : decode cX10_save 25 = .ok (.aload_n 0, 1) := by decide +kernel
theorem dX10_save_26 : decode cX10_save 26 = .ok (.getfield 16, 3) := by decide +kernel
theorem dX10_save_29 : decode cX10_save 29 = .ok (.iload_n 1, 1) := by decide +kernel
theorem dX10_save_30 : decode cX10_save 30 = .ok (.iaload, 1) := by decide +kernel
theorem dX10_save_31 : decode cX10_save 31 = .ok (.iastore, 1) := by decide +kernel
theorem dX10_save_32 : decode cX10_save 32 = .ok (.iinc 1 1, 3) := by decide +kernel
theorem dX10_save_35 : decode cX10_save 35 = .ok (.goto (-33), 3) := by decide +kernel
theorem dX10_save_38 : decode cX10_save 38 = .ok (.aload_n 0, 1) := by decide +kernel
theorem dX10_save_39 : decode cX10_save 39 = .ok (.aload_n 0, 1) := by decide +kernel
theorem dX10_save_40 : decode cX10_save 40 = .ok (.getfield 104, 3) := by decide +kernel
theorem dX10_save_43 : decode cX10_save 43 = .ok (.putfield 174, 3) := by decide +kernel
theorem dX10_save_46 : decode cX10_save 46 = .ok (.aload_n 0, 1) := by decide +kernel
theorem dX10_save_47 : decode cX10_save 47 = .ok (.aload_n 0, 1) := by decide +kernel
theorem dX10_save_48 : decode cX10_save 48 = .ok (.getfield 107, 3) := by decide +kernel
theorem dX10_save_51 : decode cX10_save 51 = .ok (.putfield 177, 3) := by decide +kernel
theorem dX10_save_54 : decode cX10_save 54 = .ok (.return_, 1) := by decide +kernel
theorem dX10_load_0 : decode cX10_load 0 = .ok (.iconst 0, 1) := by decide +kernel
theorem dX10_load_1 : decode cX10_load 1 = .ok (.istore_n 1, 1) := by decide +kernel
theorem dX10_load_2 : decode cX10_load 2 = .ok (.iload_n 1, 1) := by decide +kernel
theorem dX10_load_3 : decode cX10_load 3 = .ok (.bipush 6, 2) := by decide +kernel
theorem dX10_load_5 : decode cX10_load 5 = .ok (.if_icmp .ge 33, 3) := by decide +kernel
theorem dX10_load_8 : decode cX10_load 8 = .ok (.aload_n 0, 1) := by decide +kernel
theorem dX10_load_9 : decode cX10_load 9 = .ok (.getfield 13, 3) := by decide +kernel
theorem dX10_load_12 : decode cX10_load 12 = .ok (.iload_n 1, 1) := by decide +kernel
theorem dX10_load_13 : decode cX10_load 13 = .ok (.aload_n 0, 1) := by decide +kernel
theorem dX10_load_14 : decode cX10_load 14 = .ok (.getfield 32, 3) := by decide +kernel
theorem dX10_load_17 : decode cX10_load 17 = .ok (.iload_n 1, 1) := by decide +kernel
theorem dX10_load_18 : decode cX10_load 18 = .ok (.iaload, 1) := by decide +kernel
theorem dX10_load_19 : decode cX10_load 19 = .ok (.iastore, 1) := by decide +kernel
theorem dX10_load_20 : decode cX10_load 20 = .ok (.aload_n 0, 1) := by decide +kernel
theorem dX10_load_21 : decode cX10_load 21 = .ok (.getfield 16, 3) := by decide +kernel
theorem dX10_load_24 : decode cX10_load 24 = .ok (.iload_n 1, 1) := by decide +kernel
theorem dX10_load_25 : decode cX10_load 25 = .ok (.aload_n 0, 1) := by decide +kernel
theorem dX10_load_26 : decode cX10_load 26 = .ok (.getfield 35, 3) := by decide +kernel
theorem dX10_load_29 : decode cX10_load 29 = .ok (.iload_n 1, 1) := by decide +kernel
theorem dX10_load_30 : decode cX10_load 30 = .ok (.iaload, 1) := by decide +kernel
theorem dX10_load_31 : decode cX10_load 31 = .ok (.iastore, 1) := by decide +kernel
theorem dX10_load_32 : decode cX10_load 32 = .ok (.iinc 1 1, 3) := by decide +kernel
theorem dX10_load_35 : decode cX10_load 35 = .ok (.goto (-33), 3) := by decide +kernel
theorem dX10_load_38 : decode cX10_load 38 = .ok (.aload_n 0, 1) := by decide +kernel
theorem dX10_load_39 : decode cX10_load 39 = .ok (.aload_n 0, 1) := by decide +kernel
theorem dX10_load_40 : decode cX10_load 40 = .ok (.getfield 174, 3) := by decide +kernel
theorem dX10_load_43 : decode cX10_load 43 = .ok (.putfield 104, 3) := by decide +kernel
theorem dX10_load_46 : decode cX10_load 46 = .ok (.aload_n 0, 1) := by decide +kernel
theorem dX10_load_47 : decode cX10_load 47 = .ok (.aload_n 0, 1) := by decide +kernel
theorem dX10_load_48 : decode cX10_load 48 = .ok (.getfield 177, 3) := by decide +kernel
theorem dX10_load_51 : decode cX10_load 51 = .ok (.putfield 107, 3) := by decide +kernel
theorem dX10_load_54 : decode cX10_load 54 = .ok (.return_, 1) := by decide +kernel
theorem dX10_dryNow_0 : decode cX10_dryNow 0 = .ok (.aload_n 0, 1) := by decide +kernel
theorem dX10_dryNow_1 : decode cX10_dryNow 1 = .ok (.invokevirtual 180, 3) := by decide +kernel
theorem dX10_dryNow_4 : decode cX10_dryNow 4 = .ok (.iconst 0, 1) := by decide +kernel
theorem dX10_dryNow_5 : decode cX10_dryNow 5 = .ok (.istore_n 3, 1) := by decide +kernel
theorem dX10_dryNow_6 : decode cX10_dryNow 6 = .ok (.iload_n 3, 1) := by decide +kernel
theorem dX10_dryNow_7 : decode cX10_dryNow 7 = .ok (.bipush 40, 2) := by decide +kernel
theorem dX10_dryNow_9 : decode cX10_dryNow 9 = .ok (.if_icmp .gt 25, 3) := by decide +kernel
theorem dX10_dryNow_12 : decode cX10_dryNow 12 = .ok (.aload_n 0, 1) := by decide +kernel
theorem dX10_dryNow_13 : decode cX10_dryNow 13 = .ok (.iload_n 2, 1) := by decide +kernel
theorem dX10_dryNow_14 : decode cX10_dryNow 14 = .ok (.invokevirtual 137, 3) := by decide +kernel
theorem dX10_dryNow_17 : decode cX10_dryNow 17 = .ok (.iload_n 1, 1) := by decide +kernel
theorem dX10_dryNow_18 : decode cX10_dryNow 18 = .ok (.invokestatic 122, 3) := by decide +kernel
theorem dX10_dryNow_21 : decode cX10_dryNow 21 = .ok (.ifCond .ne 13, 3) := by decide +kernel
theorem dX10_dryNow_24 : decode cX10_dryNow 24 = .ok (.aload_n 0, 1) := by decide +kernel
theorem dX10_dryNow_25 : decode cX10_dryNow 25 = .ok (.invokevirtual 158, 3) := by decide +kernel
theorem dX10_dryNow_28 : decode cX10_dryNow 28 = .ok (.iinc 3 1, 3) := by decide +kernel
theorem dX10_dryNow_31 : decode cX10_dryNow 31 = .ok (.goto (-25), 3) := by decide +kernel
theorem dX10_dryNow_34 : decode cX10_dryNow 34 = .ok (.aload_n 0, 1) := by decide +kernel
theorem dX10_dryNow_35 : decode cX10_dryNow 35 = .ok (.invokevirtual 183, 3) := by decide +kernel
theorem dX10_dryNow_38 : decode cX10_dryNow 38 = .ok (.iload_n 3, 1) := by decide +kernel
theorem dX10_dryNow_39 : decode cX10_dryNow 39 = .ok (.bipush 40, 2) := by decide +kernel
theorem dX10_dryNow_41 : decode cX10_dryNow 41 = .ok (.if_icmp .le 7, 3) := by decide +kernel
theorem dX10_dryNow_44 : decode cX10_dryNow 44 = .ok (.iconst (-1), 1) := by decide +kernel
theorem dX10_dryNow_45 : decode cX10_dryNow 45 = .ok (.goto 4, 3) := by decide +kernel
theorem dX10_dryNow_48 : decode cX10_dryNow 48 = .ok (.iload_n 3, 1) := by decide +kernel
theorem dX10_dryNow_49 : decode cX10_dryNow 49 = .ok (.ireturn, 1) := by decide +kernel
theorem dX10_dry_0 : decode cX10_dry 0 = .ok (.aload_n 0, 1) := by decide +kernel
theorem dX10_dry_1 : decode cX10_dry 1 = .ok (.iload_n 1, 1) := by decide +kernel
theorem dX10_dry_2 : decode cX10_dry 2 = .ok (.invokevirtual 149, 3) := by decide +kernel
theorem dX10_dry_5 : decode cX10_dry 5 = .ok (.ifCond .ne 6, 3) := by decide +kernel
theorem dX10_dry_8 : decode cX10_dry 8 = .ok (.bipush (-101), 2) := by decide +kernel
theorem dX10_dry_10 : decode cX10_dry 10 = .ok (.ireturn, 1) := by decide +kernel
theorem dX10_dry_11 : decode cX10_dry 11 = .ok (.iload_n 2, 1) := by decide +kernel
theorem dX10_dry_12 : decode cX10_dry 12 = .ok (.invokestatic 155, 3) := by decide +kernel
theorem dX10_dry_15 : decode cX10_dry 15 = .ok (.ifCond .eq 12, 3) := by decide +kernel
theorem dX10_dry_18 : decode cX10_dry 18 = .ok (.aload_n 0, 1) := by decide +kernel
theorem dX10_dry_19 : decode cX10_dry 19 = .ok (.iload_n 1, 1) := by decide +kernel
theorem dX10_dry_20 : decode cX10_dry 20 = .ok (.iload_n 2, 1) := by decide +kernel
theorem dX10_dry_21 : decode cX10_dry 21 = .ok (.invokevirtual 186, 3) := by decide +kernel
theorem dX10_dry_24 : decode cX10_dry 24 = .ok (.goto 5, 3) := by decide +kernel
theorem dX10_dry_27 : decode cX10_dry 27 = .ok (.bipush (-102), 2) := by decide +kernel
end
section
theorem dX10_dry_29 : decode cX10_dry 29 = .ok (.ireturn, 1) := by decide +kernel
theorem dX10_layPlan_0 : decode cX10_layPlan 0 = .ok (.iconst 1, 1) := by decide +kernel
theorem dX10_layPlan_1 : decode cX10_layPlan 1 = .ok (.istore_n 3, 1) := by decide +kernel
theorem dX10_layPlan_2 : decode cX10_layPlan 2 = .ok (.iconst 0, 1) := by decide +kernel
theorem dX10_layPlan_3 : decode cX10_layPlan 3 = .ok (.istore 4, 2) := by decide +kernel
theorem dX10_layPlan_5 : decode cX10_layPlan 5 = .ok (.iload 4, 2) := by decide +kernel
theorem dX10_layPlan_7 : decode cX10_layPlan 7 = .ok (.iload_n 1, 1) := by decide +kernel
theorem dX10_layPlan_8 : decode cX10_layPlan 8 = .ok (.if_icmp .ge 16, 3) := by decide +kernel
theorem dX10_layPlan_11 : decode cX10_layPlan 11 = .ok (.iload_n 3, 1) := by decide +kernel
theorem dX10_layPlan_12 : decode cX10_layPlan 12 = .ok (.aload_n 0, 1) := by decide +kernel
theorem dX10_layPlan_13 : decode cX10_layPlan 13 = .ok (.getfield 101, 3) := by decide +kernel
theorem dX10_layPlan_16 : decode cX10_layPlan 16 = .ok (.imul, 1) := by decide +kernel
theorem dX10_layPlan_17 : decode cX10_layPlan 17 = .ok (.istore_n 3, 1) := by decide +kernel
theorem dX10_layPlan_18 : decode cX10_layPlan 18 = .ok (.iinc 4 1, 3) := by decide +kernel
theorem dX10_layPlan_21 : decode cX10_layPlan 21 = .ok (.goto (-16), 3) := by decide +kernel
theorem dX10_layPlan_24 : decode cX10_layPlan 24 = .ok (.aload_n 0, 1) := by decide +kernel
theorem dX10_layPlan_25 : decode cX10_layPlan 25 = .ok (.ldc 189, 2) := by decide +kernel
theorem dX10_layPlan_27 : decode cX10_layPlan 27 = .ok (.putfield 190, 3) := by decide +kernel
theorem dX10_layPlan_30 : decode cX10_layPlan 30 = .ok (.aload_n 0, 1) := by decide +kernel
theorem dX10_layPlan_31 : decode cX10_layPlan 31 = .ok (.iconst 0, 1) := by decide +kernel
theorem dX10_layPlan_32 : decode cX10_layPlan 32 = .ok (.putfield 193, 3) := by decide +kernel
theorem dX10_layPlan_35 : decode cX10_layPlan 35 = .ok (.aload_n 0, 1) := by decide +kernel
theorem dX10_layPlan_36 : decode cX10_layPlan 36 = .ok (.invokevirtual 180, 3) := by decide +kernel
theorem dX10_layPlan_39 : decode cX10_layPlan 39 = .ok (.iconst 0, 1) := by decide +kernel
theorem dX10_layPlan_40 : decode cX10_layPlan 40 = .ok (.istore 4, 2) := by decide +kernel
theorem dX10_layPlan_42 : decode cX10_layPlan 42 = .ok (.iload 4, 2) := by decide +kernel
theorem dX10_layPlan_44 : decode cX10_layPlan 44 = .ok (.iload_n 3, 1) := by decide +kernel
theorem dX10_layPlan_45 : decode cX10_layPlan 45 = .ok (.if_icmp .ge 119, 3) := by decide +kernel
theorem dX10_layPlan_48 : decode cX10_layPlan 48 = .ok (.iload_n 3, 1) := by decide +kernel
theorem dX10_layPlan_49 : decode cX10_layPlan 49 = .ok (.istore 5, 2) := by decide +kernel
theorem dX10_layPlan_51 : decode cX10_layPlan 51 = .ok (.iconst 0, 1) := by decide +kernel
theorem dX10_layPlan_52 : decode cX10_layPlan 52 = .ok (.istore 6, 2) := by decide +kernel
theorem dX10_layPlan_54 : decode cX10_layPlan 54 = .ok (.iload 6, 2) := by decide +kernel
theorem dX10_layPlan_56 : decode cX10_layPlan 56 = .ok (.iload_n 1, 1) := by decide +kernel
theorem dX10_layPlan_57 : decode cX10_layPlan 57 = .ok (.if_icmp .ge 36, 3) := by decide +kernel
theorem dX10_layPlan_60 : decode cX10_layPlan 60 = .ok (.iload 5, 2) := by decide +kernel
theorem dX10_layPlan_62 : decode cX10_layPlan 62 = .ok (.aload_n 0, 1) := by decide +kernel
theorem dX10_layPlan_63 : decode cX10_layPlan 63 = .ok (.getfield 101, 3) := by decide +kernel
theorem dX10_layPlan_66 : decode cX10_layPlan 66 = .ok (.idiv, 1) := by decide +kernel
theorem dX10_layPlan_67 : decode cX10_layPlan 67 = .ok (.istore 5, 2) := by decide +kernel
theorem dX10_layPlan_69 : decode cX10_layPlan 69 = .ok (.aload_n 0, 1) := by decide +kernel
theorem dX10_layPlan_70 : decode cX10_layPlan 70 = .ok (.iload 4, 2) := by decide +kernel
theorem dX10_layPlan_72 : decode cX10_layPlan 72 = .ok (.iload 5, 2) := by decide +kernel
theorem dX10_layPlan_74 : decode cX10_layPlan 74 = .ok (.idiv, 1) := by decide +kernel
theorem dX10_layPlan_75 : decode cX10_layPlan 75 = .ok (.aload_n 0, 1) := by decide +kernel
theorem dX10_layPlan_76 : decode cX10_layPlan 76 = .ok (.getfield 101, 3) := by decide +kernel
theorem dX10_layPlan_79 : decode cX10_layPlan 79 = .ok (.irem, 1) := by decide +kernel
theorem dX10_layPlan_80 : decode cX10_layPlan 80 = .ok (.invokevirtual 164, 3) := by decide +kernel
theorem dX10_layPlan_83 : decode cX10_layPlan 83 = .ok (.aload_n 0, 1) := by decide +kernel
theorem dX10_layPlan_84 : decode cX10_layPlan 84 = .ok (.invokevirtual 158, 3) := by decide +kernel
theorem dX10_layPlan_87 : decode cX10_layPlan 87 = .ok (.iinc 6 1, 3) := by decide +kernel
theorem dX10_layPlan_90 : decode cX10_layPlan 90 = .ok (.goto (-36), 3) := by decide +kernel
theorem dX10_layPlan_93 : decode cX10_layPlan 93 = .ok (.aload_n 0, 1) := by decide +kernel
theorem dX10_layPlan_94 : decode cX10_layPlan 94 = .ok (.iload_n 2, 1) := by decide +kernel
theorem dX10_layPlan_95 : decode cX10_layPlan 95 = .ok (.invokevirtual 137, 3) := by decide +kernel
theorem dX10_layPlan_98 : decode cX10_layPlan 98 = .ok (.invokestatic 140, 3) := by decide +kernel
theorem dX10_layPlan_101 : decode cX10_layPlan 101 = .ok (.istore 6, 2) := by decide +kernel
theorem dX10_layPlan_103 : decode cX10_layPlan 103 = .ok (.aload_n 0, 1) := by decide +kernel
theorem dX10_layPlan_104 : decode cX10_layPlan 104 = .ok (.invokevirtual 196, 3) := by decide +kernel
theorem dX10_layPlan_107 : decode cX10_layPlan 107 = .ok (.istore 7, 2) := by decide +kernel
theorem dX10_layPlan_109 : decode cX10_layPlan 109 = .ok (.iload 6, 2) := by decide +kernel
theorem dX10_layPlan_111 : decode cX10_layPlan 111 = .ok (.aload_n 0, 1) := by decide +kernel
theorem dX10_layPlan_112 : decode cX10_layPlan 112 = .ok (.getfield 190, 3) := by decide +kernel
theorem dX10_layPlan_115 : decode cX10_layPlan 115 = .ok (.if_icmp .lt 21, 3) := by decide +kernel
theorem dX10_layPlan_118 : decode cX10_layPlan 118 = .ok (.iload 6, 2) := by decide +kernel
theorem dX10_layPlan_120 : decode cX10_layPlan 120 = .ok (.aload_n 0, 1) := by decide +kernel
theorem dX10_layPlan_121 : decode cX10_layPlan 121 = .ok (.getfield 190, 3) := by decide +kernel
theorem dX10_layPlan_124 : decode cX10_layPlan 124 = .ok (.if_icmp .ne 30, 3) := by decide +kernel
theorem dX10_layPlan_127 : decode cX10_layPlan 127 = .ok (.iload 7, 2) := by decide +kernel
theorem dX10_layPlan_129 : decode cX10_layPlan 129 = .ok (.aload_n 0, 1) := by decide +kernel
theorem dX10_layPlan_130 : decode cX10_layPlan 130 = .ok (.getfield 193, 3) := by decide +kernel
theorem dX10_layPlan_133 : decode cX10_layPlan 133 = .ok (.if_icmp .le 21, 3) := by decide +kernel
theorem dX10_layPlan_136 : decode cX10_layPlan 136 = .ok (.aload_n 0, 1) := by decide +kernel
theorem dX10_layPlan_137 : decode cX10_layPlan 137 = .ok (.iload 6, 2) := by decide +kernel
theorem dX10_layPlan_139 : decode cX10_layPlan 139 = .ok (.putfield 190, 3) := by decide +kernel
theorem dX10_layPlan_142 : decode cX10_layPlan 142 = .ok (.aload_n 0, 1) := by decide +kernel
theorem dX10_layPlan_143 : decode cX10_layPlan 143 = .ok (.iload 7, 2) := by decide +kernel
theorem dX10_layPlan_145 : decode cX10_layPlan 145 = .ok (.putfield 193, 3) := by decide +kernel
theorem dX10_layPlan_148 : decode cX10_layPlan 148 = .ok (.aload_n 0, 1) := by decide +kernel
theorem dX10_layPlan_149 : decode cX10_layPlan 149 = .ok (.iload 4, 2) := by decide +kernel
theorem dX10_layPlan_151 : decode cX10_layPlan 151 = .ok (.putfield 199, 3) := by decide +kernel
theorem dX10_layPlan_154 : decode cX10_layPlan 154 = .ok (.aload_n 0, 1) := by decide +kernel
theorem dX10_layPlan_155 : decode cX10_layPlan 155 = .ok (.invokevirtual 183, 3) := by decide +kernel
theorem dX10_layPlan_158 : decode cX10_layPlan 158 = .ok (.iinc 4 1, 3) := by decide +kernel
theorem dX10_layPlan_161 : decode cX10_layPlan 161 = .ok (.goto (-119), 3) := by decide +kernel
theorem dX10_layPlan_164 : decode cX10_layPlan 164 = .ok (.return_, 1) := by decide +kernel
theorem dX10_planNow_0 : decode cX10_planNow 0 = .ok (.iload_n 2, 1) := by decide +kernel
theorem dX10_planNow_1 : decode cX10_planNow 1 = .ok (.iconst 2, 1) := by decide +kernel
theorem dX10_planNow_2 : decode cX10_planNow 2 = .ok (.if_icmp .ge 19, 3) := by decide +kernel
theorem dX10_planNow_5 : decode cX10_planNow 5 = .ok (.iload_n 2, 1) := by decide +kernel
theorem dX10_planNow_6 : decode cX10_planNow 6 = .ok (.ifCond .ne 10, 3) := by decide +kernel
theorem dX10_planNow_9 : decode cX10_planNow 9 = .ok (.aload_n 0, 1) := by decide +kernel
theorem dX10_planNow_10 : decode cX10_planNow 10 = .ok (.getfield 190, 3) := by decide +kernel
theorem dX10_planNow_13 : decode cX10_planNow 13 = .ok (.goto 7, 3) := by decide +kernel
theorem dX10_planNow_16 : decode cX10_planNow 16 = .ok (.aload_n 0, 1) := by decide +kernel
theorem dX10_planNow_17 : decode cX10_planNow 17 = .ok (.getfield 193, 3) := by decide +kernel
theorem dX10_planNow_20 : decode cX10_planNow 20 = .ok (.ireturn, 1) := by decide +kernel
theorem dX10_planNow_21 : decode cX10_planNow 21 = .ok (.iload_n 2, 1) := by decide +kernel
theorem dX10_planNow_22 : decode cX10_planNow 22 = .ok (.bipush 10, 2) := by decide +kernel
theorem dX10_planNow_24 : decode cX10_planNow 24 = .ok (.isub, 1) := by decide +kernel
theorem dX10_planNow_25 : decode cX10_planNow 25 = .ok (.iload_n 1, 1) := by decide +kernel
theorem dX10_planNow_26 : decode cX10_planNow 26 = .ok (.if_icmp .lt 5, 3) := by decide +kernel
theorem dX10_planNow_29 : decode cX10_planNow 29 = .ok (.iconst (-1), 1) := by decide +kernel
theorem dX10_planNow_30 : decode cX10_planNow 30 = .ok (.ireturn, 1) := by decide +kernel
theorem dX10_planNow_31 : decode cX10_planNow 31 = .ok (.aload_n 0, 1) := by decide +kernel
theorem dX10_planNow_32 : decode cX10_planNow 32 = .ok (.getfield 199, 3) := by decide +kernel
theorem dX10_planNow_35 : decode cX10_planNow 35 = .ok (.istore_n 3, 1) := by decide +kernel
theorem dX10_planNow_36 : decode cX10_planNow 36 = .ok (.iload_n 1, 1) := by decide +kernel
theorem dX10_planNow_37 : decode cX10_planNow 37 = .ok (.iconst 1, 1) := by decide +kernel
theorem dX10_planNow_38 : decode cX10_planNow 38 = .ok (.isub, 1) := by decide +kernel
theorem dX10_planNow_39 : decode cX10_planNow 39 = .ok (.istore 4, 2) := by decide +kernel
theorem dX10_planNow_41 : decode cX10_planNow 41 = .ok (.iload 4, 2) := by decide +kernel
theorem dX10_planNow_43 : decode cX10_planNow 43 = .ok (.iload_n 2, 1) := by decide +kernel
theorem dX10_planNow_44 : decode cX10_planNow 44 = .ok (.bipush 10, 2) := by decide +kernel
theorem dX10_planNow_46 : decode cX10_planNow 46 = .ok (.isub, 1) := by decide +kernel
theorem dX10_planNow_47 : decode cX10_planNow 47 = .ok (.if_icmp .le 16, 3) := by decide +kernel
theorem dX10_planNow_50 : decode cX10_planNow 50 = .ok (.iload_n 3, 1) := by decide +kernel
theorem dX10_planNow_51 : decode cX10_planNow 51 = .ok (.aload_n 0, 1) := by decide +kernel
theorem dX10_planNow_52 : decode cX10_planNow 52 = .ok (.getfield 101, 3) := by decide +kernel
theorem dX10_planNow_55 : decode cX10_planNow 55 = .ok (.idiv, 1) := by decide +kernel
theorem dX10_planNow_56 : decode cX10_planNow 56 = .ok (.istore_n 3, 1) := by decide +kernel
theorem dX10_planNow_57 : decode cX10_planNow 57 = .ok (.iinc 4 (-1), 3) := by decide +kernel
theorem dX10_planNow_60 : decode cX10_planNow 60 = .ok (.goto (-19), 3) := by decide +kernel
theorem dX10_planNow_63 : decode cX10_planNow 63 = .ok (.iload_n 3, 1) := by decide +kernel
theorem dX10_planNow_64 : decode cX10_planNow 64 = .ok (.aload_n 0, 1) := by decide +kernel
theorem dX10_planNow_65 : decode cX10_planNow 65 = .ok (.getfield 101, 3) := by decide +kernel
theorem dX10_planNow_68 : decode cX10_planNow 68 = .ok (.irem, 1) := by decide +kernel
theorem dX10_planNow_69 : decode cX10_planNow 69 = .ok (.ireturn, 1) := by decide +kernel
theorem dX10_plan_0 : decode cX10_plan 0 = .ok (.iload_n 1, 1) := by decide +kernel
theorem dX10_plan_1 : decode cX10_plan 1 = .ok (.iconst 1, 1) := by decide +kernel
theorem dX10_plan_2 : decode cX10_plan 2 = .ok (.iconst 4, 1) := by decide +kernel
theorem dX10_plan_3 : decode cX10_plan 3 = .ok (.invokestatic 71, 3) := by decide +kernel
theorem dX10_plan_6 : decode cX10_plan 6 = .ok (.ifCond .eq 30, 3) := by decide +kernel
theorem dX10_plan_9 : decode cX10_plan 9 = .ok (.iload_n 2, 1) := by decide +kernel
theorem dX10_plan_10 : decode cX10_plan 10 = .ok (.invokestatic 155, 3) := by decide +kernel
theorem dX10_plan_13 : decode cX10_plan 13 = .ok (.ifCond .eq 23, 3) := by decide +kernel
theorem dX10_plan_16 : decode cX10_plan 16 = .ok (.iload_n 3, 1) := by decide +kernel
theorem dX10_plan_17 : decode cX10_plan 17 = .ok (.iconst 0, 1) := by decide +kernel
theorem dX10_plan_18 : decode cX10_plan 18 = .ok (.iconst 1, 1) := by decide +kernel
theorem dX10_plan_19 : decode cX10_plan 19 = .ok (.invokestatic 71, 3) := by decide +kernel
theorem dX10_plan_22 : decode cX10_plan 22 = .ok (.ifCond .ne 17, 3) := by decide +kernel
theorem dX10_plan_25 : decode cX10_plan 25 = .ok (.iload_n 3, 1) := by decide +kernel
theorem dX10_plan_26 : decode cX10_plan 26 = .ok (.bipush 10, 2) := by decide +kernel
theorem dX10_plan_28 : decode cX10_plan 28 = .ok (.bipush 13, 2) := by decide +kernel
theorem dX10_plan_30 : decode cX10_plan 30 = .ok (.invokestatic 71, 3) := by decide +kernel
theorem dX10_plan_33 : decode cX10_plan 33 = .ok (.ifCond .ne 6, 3) := by decide +kernel
theorem dX10_plan_36 : decode cX10_plan 36 = .ok (.bipush (-102), 2) := by decide +kernel
theorem dX10_plan_38 : decode cX10_plan 38 = .ok (.ireturn, 1) := by decide +kernel
theorem dX10_plan_39 : decode cX10_plan 39 = .ok (.aload_n 0, 1) := by decide +kernel
theorem dX10_plan_40 : decode cX10_plan 40 = .ok (.getfield 101, 3) := by decide +kernel
theorem dX10_plan_43 : decode cX10_plan 43 = .ok (.ifCond .ne 6, 3) := by decide +kernel
theorem dX10_plan_46 : decode cX10_plan 46 = .ok (.bipush (-103), 2) := by decide +kernel
theorem dX10_plan_48 : decode cX10_plan 48 = .ok (.ireturn, 1) := by decide +kernel
theorem dX10_plan_49 : decode cX10_plan 49 = .ok (.aload_n 0, 1) := by decide +kernel
theorem dX10_plan_50 : decode cX10_plan 50 = .ok (.iload_n 1, 1) := by decide +kernel
theorem dX10_plan_51 : decode cX10_plan 51 = .ok (.iload_n 2, 1) := by decide +kernel
theorem dX10_plan_52 : decode cX10_plan 52 = .ok (.invokevirtual 202, 3) := by decide +kernel
theorem dX10_plan_55 : decode cX10_plan 55 = .ok (.aload_n 0, 1) := by decide +kernel
theorem dX10_plan_56 : decode cX10_plan 56 = .ok (.iload_n 1, 1) := by decide +kernel
theorem dX10_plan_57 : decode cX10_plan 57 = .ok (.iload_n 3, 1) := by decide +kernel
theorem dX10_plan_58 : decode cX10_plan 58 = .ok (.invokevirtual 206, 3) := by decide +kernel
theorem dX10_plan_61 : decode cX10_plan 61 = .ok (.ireturn, 1) := by decide +kernel
theorem dX10_apart_0 : decode cX10_apart 0 = .ok (.aload_n 0, 1) := by decide +kernel
theorem dX10_apart_1 : decode cX10_apart 1 = .ok (.getfield 13, 3) := by decide +kernel
theorem dX10_apart_4 : decode cX10_apart 4 = .ok (.iload_n 1, 1) := by decide +kernel
theorem dX10_apart_5 : decode cX10_apart 5 = .ok (.iaload, 1) := by decide +kernel
theorem dX10_apart_6 : decode cX10_apart 6 = .ok (.aload_n 0, 1) := by decide +kernel
theorem dX10_apart_7 : decode cX10_apart 7 = .ok (.getfield 13, 3) := by decide +kernel
theorem dX10_apart_10 : decode cX10_apart 10 = .ok (.iload_n 2, 1) := by decide +kernel
theorem dX10_apart_11 : decode cX10_apart 11 = .ok (.iaload, 1) := by decide +kernel
theorem dX10_apart_12 : decode cX10_apart 12 = .ok (.isub, 1) := by decide +kernel
theorem dX10_apart_13 : decode cX10_apart 13 = .ok (.istore_n 3, 1) := by decide +kernel
theorem dX10_apart_14 : decode cX10_apart 14 = .ok (.iload_n 3, 1) := by decide +kernel
theorem dX10_apart_15 : decode cX10_apart 15 = .ok (.ifCond .ge 8, 3) := by decide +kernel
theorem dX10_apart_18 : decode cX10_apart 18 = .ok (.iload_n 3, 1) := by decide +kernel
theorem dX10_apart_19 : decode cX10_apart 19 = .ok (.ineg, 1) := by decide +kernel
theorem dX10_apart_20 : decode cX10_apart 20 = .ok (.goto 4, 3) := by decide +kernel
theorem dX10_apart_23 : decode cX10_apart 23 = .ok (.iload_n 3, 1) := by decide +kernel
theorem dX10_apart_24 : decode cX10_apart 24 = .ok (.ireturn, 1) := by decide +kernel
theorem dX10_lowest_0 : decode cX10_lowest 0 = .ok (.iconst 0, 1) := by decide +kernel
theorem dX10_lowest_1 : decode cX10_lowest 1 = .ok (.istore_n 1, 1) := by decide +kernel
theorem dX10_lowest_2 : decode cX10_lowest 2 = .ok (.iload_n 0, 1) := by decide +kernel
theorem dX10_lowest_3 : decode cX10_lowest 3 = .ok (.iload_n 1, 1) := by decide +kernel
theorem dX10_lowest_4 : decode cX10_lowest 4 = .ok (.invokestatic 122, 3) := by decide +kernel
theorem dX10_lowest_7 : decode cX10_lowest 7 = .ok (.ifCond .ne 9, 3) := by decide +kernel
theorem dX10_lowest_10 : decode cX10_lowest 10 = .ok (.iinc 1 1, 3) := by decide +kernel
theorem dX10_lowest_13 : decode cX10_lowest 13 = .ok (.goto (-11), 3) := by decide +kernel
theorem dX10_lowest_16 : decode cX10_lowest 16 = .ok (.iload_n 1, 1) := by decide +kernel
theorem dX10_lowest_17 : decode cX10_lowest 17 = .ok (.ireturn, 1) := by decide +kernel
theorem dX10_leastOf_0 : decode cX10_leastOf 0 = .ok (.iload_n 1, 1) := by decide +kernel
theorem dX10_leastOf_1 : decode cX10_leastOf 1 = .ok (.invokestatic 209, 3) := by decide +kernel
theorem dX10_leastOf_4 : decode cX10_leastOf 4 = .ok (.istore_n 2, 1) := by decide +kernel
theorem dX10_leastOf_5 : decode cX10_leastOf 5 = .ok (.iload_n 1, 1) := by decide +kernel
theorem dX10_leastOf_6 : decode cX10_leastOf 6 = .ok (.iconst 1, 1) := by decide +kernel
theorem dX10_leastOf_7 : decode cX10_leastOf 7 = .ok (.iload_n 2, 1) := by decide +kernel
theorem dX10_leastOf_8 : decode cX10_leastOf 8 = .ok (.ishl, 1) := by decide +kernel
theorem dX10_leastOf_9 : decode cX10_leastOf 9 = .ok (.iconst (-1), 1) := by decide +kernel
theorem dX10_leastOf_10 : decode cX10_leastOf 10 = .ok (.ixor, 1) := by decide +kernel
theorem dX10_leastOf_11 : decode cX10_leastOf 11 = .ok (.iand, 1) := by decide +kernel
theorem dX10_leastOf_12 : decode cX10_leastOf 12 = .ok (.istore_n 3, 1) := by decide +kernel
theorem dX10_leastOf_13 : decode cX10_leastOf 13 = .ok (.iload_n 1, 1) := by decide +kernel
theorem dX10_leastOf_14 : decode cX10_leastOf 14 = .ok (.invokestatic 140, 3) := by decide +kernel
theorem dX10_leastOf_17 : decode cX10_leastOf 17 = .ok (.iconst 2, 1) := by decide +kernel
theorem dX10_leastOf_18 : decode cX10_leastOf 18 = .ok (.irem, 1) := by decide +kernel
theorem dX10_leastOf_19 : decode cX10_leastOf 19 = .ok (.iconst 1, 1) := by decide +kernel
theorem dX10_leastOf_20 : decode cX10_leastOf 20 = .ok (.if_icmp .ne 12, 3) := by decide +kernel
theorem dX10_leastOf_23 : decode cX10_leastOf 23 = .ok (.aload_n 0, 1) := by decide +kernel
theorem dX10_leastOf_24 : decode cX10_leastOf 24 = .ok (.getfield 38, 3) := by decide +kernel
theorem dX10_leastOf_27 : decode cX10_leastOf 27 = .ok (.iload_n 3, 1) := by decide +kernel
theorem dX10_leastOf_28 : decode cX10_leastOf 28 = .ok (.iaload, 1) := by decide +kernel
theorem dX10_leastOf_29 : decode cX10_leastOf 29 = .ok (.goto 5, 3) := by decide +kernel
theorem dX10_leastOf_32 : decode cX10_leastOf 32 = .ok (.ldc 189, 2) := by decide +kernel
theorem dX10_leastOf_34 : decode cX10_leastOf 34 = .ok (.istore 4, 2) := by decide +kernel
theorem dX10_leastOf_36 : decode cX10_leastOf 36 = .ok (.iconst 0, 1) := by decide +kernel
theorem dX10_leastOf_37 : decode cX10_leastOf 37 = .ok (.istore 5, 2) := by decide +kernel
theorem dX10_leastOf_39 : decode cX10_leastOf 39 = .ok (.iload 5, 2) := by decide +kernel
theorem dX10_leastOf_41 : decode cX10_leastOf 41 = .ok (.aload_n 0, 1) := by decide +kernel
theorem dX10_leastOf_42 : decode cX10_leastOf 42 = .ok (.getfield 101, 3) := by decide +kernel
theorem dX10_leastOf_45 : decode cX10_leastOf 45 = .ok (.if_icmp .ge 57, 3) := by decide +kernel
theorem dX10_leastOf_48 : decode cX10_leastOf 48 = .ok (.iload_n 3, 1) := by decide +kernel
theorem dX10_leastOf_49 : decode cX10_leastOf 49 = .ok (.iload 5, 2) := by decide +kernel
theorem dX10_leastOf_51 : decode cX10_leastOf 51 = .ok (.invokestatic 122, 3) := by decide +kernel
theorem dX10_leastOf_54 : decode cX10_leastOf 54 = .ok (.ifCond .eq 42, 3) := by decide +kernel
theorem dX10_leastOf_57 : decode cX10_leastOf 57 = .ok (.aload_n 0, 1) := by decide +kernel
theorem dX10_leastOf_58 : decode cX10_leastOf 58 = .ok (.getfield 38, 3) := by decide +kernel
theorem dX10_leastOf_61 : decode cX10_leastOf 61 = .ok (.iload_n 3, 1) := by decide +kernel
theorem dX10_leastOf_62 : decode cX10_leastOf 62 = .ok (.iconst 1, 1) := by decide +kernel
theorem dX10_leastOf_63 : decode cX10_leastOf 63 = .ok (.iload 5, 2) := by decide +kernel
theorem dX10_leastOf_65 : decode cX10_leastOf 65 = .ok (.ishl, 1) := by decide +kernel
theorem dX10_leastOf_66 : decode cX10_leastOf 66 = .ok (.iconst (-1), 1) := by decide +kernel
theorem dX10_leastOf_67 : decode cX10_leastOf 67 = .ok (.ixor, 1) := by decide +kernel
theorem dX10_leastOf_68 : decode cX10_leastOf 68 = .ok (.iand, 1) := by decide +kernel
theorem dX10_leastOf_69 : decode cX10_leastOf 69 = .ok (.iaload, 1) := by decide +kernel
theorem dX10_leastOf_70 : decode cX10_leastOf 70 = .ok (.aload_n 0, 1) := by decide +kernel
theorem dX10_leastOf_71 : decode cX10_leastOf 71 = .ok (.iload_n 2, 1) := by decide +kernel
theorem dX10_leastOf_72 : decode cX10_leastOf 72 = .ok (.iload 5, 2) := by decide +kernel
theorem dX10_leastOf_74 : decode cX10_leastOf 74 = .ok (.invokevirtual 212, 3) := by decide +kernel
theorem dX10_leastOf_77 : decode cX10_leastOf 77 = .ok (.iadd, 1) := by decide +kernel
theorem dX10_leastOf_78 : decode cX10_leastOf 78 = .ok (.istore 6, 2) := by decide +kernel
theorem dX10_leastOf_80 : decode cX10_leastOf 80 = .ok (.iload 6, 2) := by decide +kernel
theorem dX10_leastOf_82 : decode cX10_leastOf 82 = .ok (.iload 4, 2) := by decide +kernel
theorem dX10_leastOf_84 : decode cX10_leastOf 84 = .ok (.if_icmp .ge 8, 3) := by decide +kernel
theorem dX10_leastOf_87 : decode cX10_leastOf 87 = .ok (.iload 6, 2) := by decide +kernel
theorem dX10_leastOf_89 : decode cX10_leastOf 89 = .ok (.goto 5, 3) := by decide +kernel
theorem dX10_leastOf_92 : decode cX10_leastOf 92 = .ok (.iload 4, 2) := by decide +kernel
theorem dX10_leastOf_94 : decode cX10_leastOf 94 = .ok (.istore 4, 2) := by decide +kernel
theorem dX10_leastOf_96 : decode cX10_leastOf 96 = .ok (.iinc 5 1, 3) := by decide +kernel
theorem dX10_leastOf_99 : decode cX10_leastOf 99 = .ok (.goto (-60), 3) := by decide +kernel
theorem dX10_leastOf_102 : decode cX10_leastOf 102 = .ok (.iload 4, 2) := by decide +kernel
theorem dX10_leastOf_104 : decode cX10_leastOf 104 = .ok (.ireturn, 1) := by decide +kernel
theorem dX10_partnerIn_0 : decode cX10_partnerIn 0 = .ok (.iload_n 1, 1) := by decide +kernel
theorem dX10_partnerIn_1 : decode cX10_partnerIn 1 = .ok (.invokestatic 209, 3) := by decide +kernel
theorem dX10_partnerIn_4 : decode cX10_partnerIn 4 = .ok (.istore_n 2, 1) := by decide +kernel
theorem dX10_partnerIn_5 : decode cX10_partnerIn 5 = .ok (.iload_n 1, 1) := by decide +kernel
theorem dX10_partnerIn_6 : decode cX10_partnerIn 6 = .ok (.iconst 1, 1) := by decide +kernel
theorem dX10_partnerIn_7 : decode cX10_partnerIn 7 = .ok (.iload_n 2, 1) := by decide +kernel
theorem dX10_partnerIn_8 : decode cX10_partnerIn 8 = .ok (.ishl, 1) := by decide +kernel
theorem dX10_partnerIn_9 : decode cX10_partnerIn 9 = .ok (.iconst (-1), 1) := by decide +kernel
theorem dX10_partnerIn_10 : decode cX10_partnerIn 10 = .ok (.ixor, 1) := by decide +kernel
theorem dX10_partnerIn_11 : decode cX10_partnerIn 11 = .ok (.iand, 1) := by decide +kernel
theorem dX10_partnerIn_12 : decode cX10_partnerIn 12 = .ok (.istore_n 3, 1) := by decide +kernel
theorem dX10_partnerIn_13 : decode cX10_partnerIn 13 = .ok (.iload_n 1, 1) := by decide +kernel
theorem dX10_partnerIn_14 : decode cX10_partnerIn 14 = .ok (.invokestatic 140, 3) := by decide +kernel
theorem dX10_partnerIn_17 : decode cX10_partnerIn 17 = .ok (.iconst 2, 1) := by decide +kernel
theorem dX10_partnerIn_18 : decode cX10_partnerIn 18 = .ok (.irem, 1) := by decide +kernel
theorem dX10_partnerIn_19 : decode cX10_partnerIn 19 = .ok (.iconst 1, 1) := by decide +kernel
theorem dX10_partnerIn_20 : decode cX10_partnerIn 20 = .ok (.if_icmp .ne 20, 3) := by decide +kernel
theorem dX10_partnerIn_23 : decode cX10_partnerIn 23 = .ok (.aload_n 0, 1) := by decide +kernel
theorem dX10_partnerIn_24 : decode cX10_partnerIn 24 = .ok (.getfield 38, 3) := by decide +kernel
theorem dX10_partnerIn_27 : decode cX10_partnerIn 27 = .ok (.iload_n 3, 1) := by decide +kernel
theorem dX10_partnerIn_28 : decode cX10_partnerIn 28 = .ok (.iaload, 1) := by decide +kernel
theorem dX10_partnerIn_29 : decode cX10_partnerIn 29 = .ok (.aload_n 0, 1) := by decide +kernel
theorem dX10_partnerIn_30 : decode cX10_partnerIn 30 = .ok (.getfield 38, 3) := by decide +kernel
theorem dX10_partnerIn_33 : decode cX10_partnerIn 33 = .ok (.iload_n 1, 1) := by decide +kernel
theorem dX10_partnerIn_34 : decode cX10_partnerIn 34 = .ok (.iaload, 1) := by decide +kernel
theorem dX10_partnerIn_35 : decode cX10_partnerIn 35 = .ok (.if_icmp .ne 5, 3) := by decide +kernel
theorem dX10_partnerIn_38 : decode cX10_partnerIn 38 = .ok (.iconst (-1), 1) := by decide +kernel
theorem dX10_partnerIn_39 : decode cX10_partnerIn 39 = .ok (.ireturn, 1) := by decide +kernel
theorem dX10_partnerIn_40 : decode cX10_partnerIn 40 = .ok (.iconst 0, 1) := by decide +kernel
theorem dX10_partnerIn_41 : decode cX10_partnerIn 41 = .ok (.istore 4, 2) := by decide +kernel
theorem dX10_partnerIn_43 : decode cX10_partnerIn 43 = .ok (.iload_n 3, 1) := by decide +kernel
theorem dX10_partnerIn_44 : decode cX10_partnerIn 44 = .ok (.iload 4, 2) := by decide +kernel
theorem dX10_partnerIn_46 : decode cX10_partnerIn 46 = .ok (.invokestatic 122, 3) := by decide +kernel
theorem dX10_partnerIn_49 : decode cX10_partnerIn 49 = .ok (.ifCond .eq 33, 3) := by decide +kernel
theorem dX10_partnerIn_52 : decode cX10_partnerIn 52 = .ok (.aload_n 0, 1) := by decide +kernel
theorem dX10_partnerIn_53 : decode cX10_partnerIn 53 = .ok (.getfield 38, 3) := by decide +kernel
theorem dX10_partnerIn_56 : decode cX10_partnerIn 56 = .ok (.iload_n 3, 1) := by decide +kernel
theorem dX10_partnerIn_57 : decode cX10_partnerIn 57 = .ok (.iconst 1, 1) := by decide +kernel
theorem dX10_partnerIn_58 : decode cX10_partnerIn 58 = .ok (.iload 4, 2) := by decide +kernel
theorem dX10_partnerIn_60 : decode cX10_partnerIn 60 = .ok (.ishl, 1) := by decide +kernel
theorem dX10_partnerIn_61 : decode cX10_partnerIn 61 = .ok (.iconst (-1), 1) := by decide +kernel
theorem dX10_partnerIn_62 : decode cX10_partnerIn 62 = .ok (.ixor, 1) := by decide +kernel
theorem dX10_partnerIn_63 : decode cX10_partnerIn 63 = .ok (.iand, 1) := by decide +kernel
theorem dX10_partnerIn_64 : decode cX10_partnerIn 64 = .ok (.iaload, 1) := by decide +kernel
theorem dX10_partnerIn_65 : decode cX10_partnerIn 65 = .ok (.aload_n 0, 1) := by decide +kernel
theorem dX10_partnerIn_66 : decode cX10_partnerIn 66 = .ok (.iload_n 2, 1) := by decide +kernel
theorem dX10_partnerIn_67 : decode cX10_partnerIn 67 = .ok (.iload 4, 2) := by decide +kernel
theorem dX10_partnerIn_69 : decode cX10_partnerIn 69 = .ok (.invokevirtual 212, 3) := by decide +kernel
theorem dX10_partnerIn_72 : decode cX10_partnerIn 72 = .ok (.iadd, 1) := by decide +kernel
theorem dX10_partnerIn_73 : decode cX10_partnerIn 73 = .ok (.aload_n 0, 1) := by decide +kernel
theorem dX10_partnerIn_74 : decode cX10_partnerIn 74 = .ok (.getfield 38, 3) := by decide +kernel
theorem dX10_partnerIn_77 : decode cX10_partnerIn 77 = .ok (.iload_n 1, 1) := by decide +kernel
theorem dX10_partnerIn_78 : decode cX10_partnerIn 78 = .ok (.iaload, 1) := by decide +kernel
theorem dX10_partnerIn_79 : decode cX10_partnerIn 79 = .ok (.if_icmp .eq 9, 3) := by decide +kernel
theorem dX10_partnerIn_82 : decode cX10_partnerIn 82 = .ok (.iinc 4 1, 3) := by decide +kernel
theorem dX10_partnerIn_85 : decode cX10_partnerIn 85 = .ok (.goto (-42), 3) := by decide +kernel
theorem dX10_partnerIn_88 : decode cX10_partnerIn 88 = .ok (.iload 4, 2) := by decide +kernel
theorem dX10_partnerIn_90 : decode cX10_partnerIn 90 = .ok (.ireturn, 1) := by decide +kernel
theorem dX10_layTwos_0 : decode cX10_layTwos 0 = .ok (.iconst 1, 1) := by decide +kernel
theorem dX10_layTwos_1 : decode cX10_layTwos 1 = .ok (.aload_n 0, 1) := by decide +kernel
theorem dX10_layTwos_2 : decode cX10_layTwos 2 = .ok (.getfield 101, 3) := by decide +kernel
theorem dX10_layTwos_5 : decode cX10_layTwos 5 = .ok (.ishl, 1) := by decide +kernel
theorem dX10_layTwos_6 : decode cX10_layTwos 6 = .ok (.iconst 1, 1) := by decide +kernel
theorem dX10_layTwos_7 : decode cX10_layTwos 7 = .ok (.isub, 1) := by decide +kernel
theorem dX10_layTwos_8 : decode cX10_layTwos 8 = .ok (.istore_n 1, 1) := by decide +kernel
theorem dX10_layTwos_9 : decode cX10_layTwos 9 = .ok (.aload_n 0, 1) := by decide +kernel
theorem dX10_layTwos_10 : decode cX10_layTwos 10 = .ok (.getfield 38, 3) := by decide +kernel
theorem dX10_layTwos_13 : decode cX10_layTwos 13 = .ok (.iconst 0, 1) := by decide +kernel
theorem dX10_layTwos_14 : decode cX10_layTwos 14 = .ok (.iconst 0, 1) := by decide +kernel
theorem dX10_layTwos_15 : decode cX10_layTwos 15 = .ok (.iastore, 1) := by decide +kernel
theorem dX10_layTwos_16 : decode cX10_layTwos 16 = .ok (.iconst 1, 1) := by decide +kernel
theorem dX10_layTwos_17 : decode cX10_layTwos 17 = .ok (.istore_n 2, 1) := by decide +kernel
theorem dX10_layTwos_18 : decode cX10_layTwos 18 = .ok (.iload_n 2, 1) := by decide +kernel
theorem dX10_layTwos_19 : decode cX10_layTwos 19 = .ok (.iload_n 1, 1) := by decide +kernel
theorem dX10_layTwos_20 : decode cX10_layTwos 20 = .ok (.if_icmp .gt 20, 3) := by decide +kernel
theorem dX10_layTwos_23 : decode cX10_layTwos 23 = .ok (.aload_n 0, 1) := by decide +kernel
theorem dX10_layTwos_24 : decode cX10_layTwos 24 = .ok (.getfield 38, 3) := by decide +kernel
theorem dX10_layTwos_27 : decode cX10_layTwos 27 = .ok (.iload_n 2, 1) := by decide +kernel
theorem dX10_layTwos_28 : decode cX10_layTwos 28 = .ok (.aload_n 0, 1) := by decide +kernel
theorem dX10_layTwos_29 : decode cX10_layTwos 29 = .ok (.iload_n 2, 1) := by decide +kernel
theorem dX10_layTwos_30 : decode cX10_layTwos 30 = .ok (.invokevirtual 215, 3) := by decide +kernel
theorem dX10_layTwos_33 : decode cX10_layTwos 33 = .ok (.iastore, 1) := by decide +kernel
theorem dX10_layTwos_34 : decode cX10_layTwos 34 = .ok (.iinc 2 1, 3) := by decide +kernel
theorem dX10_layTwos_37 : decode cX10_layTwos 37 = .ok (.goto (-19), 3) := by decide +kernel
theorem dX10_layTwos_40 : decode cX10_layTwos 40 = .ok (.iconst 0, 1) := by decide +kernel
theorem dX10_layTwos_41 : decode cX10_layTwos 41 = .ok (.istore_n 2, 1) := by decide +kernel
theorem dX10_layTwos_42 : decode cX10_layTwos 42 = .ok (.iload_n 2, 1) := by decide +kernel
theorem dX10_layTwos_43 : decode cX10_layTwos 43 = .ok (.bipush 6, 2) := by decide +kernel
theorem dX10_layTwos_45 : decode cX10_layTwos 45 = .ok (.if_icmp .ge 16, 3) := by decide +kernel
theorem dX10_layTwos_48 : decode cX10_layTwos 48 = .ok (.aload_n 0, 1) := by decide +kernel
theorem dX10_layTwos_49 : decode cX10_layTwos 49 = .ok (.getfield 41, 3) := by decide +kernel
theorem dX10_layTwos_52 : decode cX10_layTwos 52 = .ok (.iload_n 2, 1) := by decide +kernel
theorem dX10_layTwos_53 : decode cX10_layTwos 53 = .ok (.iconst (-1), 1) := by decide +kernel
theorem dX10_layTwos_54 : decode cX10_layTwos 54 = .ok (.iastore, 1) := by decide +kernel
theorem dX10_layTwos_55 : decode cX10_layTwos 55 = .ok (.iinc 2 1, 3) := by decide +kernel
theorem dX10_layTwos_58 : decode cX10_layTwos 58 = .ok (.goto (-16), 3) := by decide +kernel
theorem dX10_layTwos_61 : decode cX10_layTwos 61 = .ok (.iload_n 1, 1) := by decide +kernel
theorem dX10_layTwos_62 : decode cX10_layTwos 62 = .ok (.istore_n 2, 1) := by decide +kernel
theorem dX10_layTwos_63 : decode cX10_layTwos 63 = .ok (.iload_n 2, 1) := by decide +kernel
theorem dX10_layTwos_64 : decode cX10_layTwos 64 = .ok (.ifCond .eq 57, 3) := by decide +kernel
theorem dX10_layTwos_67 : decode cX10_layTwos 67 = .ok (.iload_n 2, 1) := by decide +kernel
theorem dX10_layTwos_68 : decode cX10_layTwos 68 = .ok (.invokestatic 209, 3) := by decide +kernel
theorem dX10_layTwos_71 : decode cX10_layTwos 71 = .ok (.istore_n 3, 1) := by decide +kernel
theorem dX10_layTwos_72 : decode cX10_layTwos 72 = .ok (.aload_n 0, 1) := by decide +kernel
theorem dX10_layTwos_73 : decode cX10_layTwos 73 = .ok (.iload_n 2, 1) := by decide +kernel
theorem dX10_layTwos_74 : decode cX10_layTwos 74 = .ok (.invokevirtual 218, 3) := by decide +kernel
theorem dX10_layTwos_77 : decode cX10_layTwos 77 = .ok (.istore 4, 2) := by decide +kernel
theorem dX10_layTwos_79 : decode cX10_layTwos 79 = .ok (.iload_n 2, 1) := by decide +kernel
theorem dX10_layTwos_80 : decode cX10_layTwos 80 = .ok (.iconst 1, 1) := by decide +kernel
theorem dX10_layTwos_81 : decode cX10_layTwos 81 = .ok (.iload_n 3, 1) := by decide +kernel
theorem dX10_layTwos_82 : decode cX10_layTwos 82 = .ok (.ishl, 1) := by decide +kernel
theorem dX10_layTwos_83 : decode cX10_layTwos 83 = .ok (.iconst (-1), 1) := by decide +kernel
theorem dX10_layTwos_84 : decode cX10_layTwos 84 = .ok (.ixor, 1) := by decide +kernel
theorem dX10_layTwos_85 : decode cX10_layTwos 85 = .ok (.iand, 1) := by decide +kernel
theorem dX10_layTwos_86 : decode cX10_layTwos 86 = .ok (.istore_n 2, 1) := by decide +kernel
theorem dX10_layTwos_87 : decode cX10_layTwos 87 = .ok (.iload 4, 2) := by decide +kernel
theorem dX10_layTwos_89 : decode cX10_layTwos 89 = .ok (.iconst (-1), 1) := by decide +kernel
theorem dX10_layTwos_90 : decode cX10_layTwos 90 = .ok (.if_icmp .eq 28, 3) := by decide +kernel
theorem dX10_layTwos_93 : decode cX10_layTwos 93 = .ok (.aload_n 0, 1) := by decide +kernel
theorem dX10_layTwos_94 : decode cX10_layTwos 94 = .ok (.getfield 41, 3) := by decide +kernel
theorem dX10_layTwos_97 : decode cX10_layTwos 97 = .ok (.iload_n 3, 1) := by decide +kernel
theorem dX10_layTwos_98 : decode cX10_layTwos 98 = .ok (.iload 4, 2) := by decide +kernel
theorem dX10_layTwos_100 : decode cX10_layTwos 100 = .ok (.iastore, 1) := by decide +kernel
theorem dX10_layTwos_101 : decode cX10_layTwos 101 = .ok (.aload_n 0, 1) := by decide +kernel
theorem dX10_layTwos_102 : decode cX10_layTwos 102 = .ok (.getfield 41, 3) := by decide +kernel
theorem dX10_layTwos_105 : decode cX10_layTwos 105 = .ok (.iload 4, 2) := by decide +kernel
theorem dX10_layTwos_107 : decode cX10_layTwos 107 = .ok (.iload_n 3, 1) := by decide +kernel
theorem dX10_layTwos_108 : decode cX10_layTwos 108 = .ok (.iastore, 1) := by decide +kernel
theorem dX10_layTwos_109 : decode cX10_layTwos 109 = .ok (.iload_n 2, 1) := by decide +kernel
theorem dX10_layTwos_110 : decode cX10_layTwos 110 = .ok (.iconst 1, 1) := by decide +kernel
theorem dX10_layTwos_111 : decode cX10_layTwos 111 = .ok (.iload 4, 2) := by decide +kernel
theorem dX10_layTwos_113 : decode cX10_layTwos 113 = .ok (.ishl, 1) := by decide +kernel
theorem dX10_layTwos_114 : decode cX10_layTwos 114 = .ok (.iconst (-1), 1) := by decide +kernel
theorem dX10_layTwos_115 : decode cX10_layTwos 115 = .ok (.ixor, 1) := by decide +kernel
theorem dX10_layTwos_116 : decode cX10_layTwos 116 = .ok (.iand, 1) := by decide +kernel
theorem dX10_layTwos_117 : decode cX10_layTwos 117 = .ok (.istore_n 2, 1) := by decide +kernel
theorem dX10_layTwos_118 : decode cX10_layTwos 118 = .ok (.goto (-55), 3) := by decide +kernel
theorem dX10_layTwos_121 : decode cX10_layTwos 121 = .ok (.aload_n 0, 1) := by decide +kernel
theorem dX10_layTwos_122 : decode cX10_layTwos 122 = .ok (.getfield 38, 3) := by decide +kernel
theorem dX10_layTwos_125 : decode cX10_layTwos 125 = .ok (.iload_n 1, 1) := by decide +kernel
theorem dX10_layTwos_126 : decode cX10_layTwos 126 = .ok (.iaload, 1) := by decide +kernel
theorem dX10_layTwos_127 : decode cX10_layTwos 127 = .ok (.ireturn, 1) := by decide +kernel
theorem dX10_twos_0 : decode cX10_twos 0 = .ok (.iload_n 1, 1) := by decide +kernel
theorem dX10_twos_1 : decode cX10_twos 1 = .ok (.ifCond .eq 17, 3) := by decide +kernel
theorem dX10_twos_4 : decode cX10_twos 4 = .ok (.iload_n 1, 1) := by decide +kernel
theorem dX10_twos_5 : decode cX10_twos 5 = .ok (.bipush 10, 2) := by decide +kernel
theorem dX10_twos_7 : decode cX10_twos 7 = .ok (.bipush 15, 2) := by decide +kernel
theorem dX10_twos_9 : decode cX10_twos 9 = .ok (.invokestatic 71, 3) := by decide +kernel
theorem dX10_twos_12 : decode cX10_twos 12 = .ok (.ifCond .ne 6, 3) := by decide +kernel
theorem dX10_twos_15 : decode cX10_twos 15 = .ok (.bipush (-102), 2) := by decide +kernel
theorem dX10_twos_17 : decode cX10_twos 17 = .ok (.ireturn, 1) := by decide +kernel
theorem dX10_twos_18 : decode cX10_twos 18 = .ok (.aload_n 0, 1) := by decide +kernel
theorem dX10_twos_19 : decode cX10_twos 19 = .ok (.getfield 101, 3) := by decide +kernel
theorem dX10_twos_22 : decode cX10_twos 22 = .ok (.ifCond .ne 6, 3) := by decide +kernel
theorem dX10_twos_25 : decode cX10_twos 25 = .ok (.bipush (-103), 2) := by decide +kernel
theorem dX10_twos_27 : decode cX10_twos 27 = .ok (.ireturn, 1) := by decide +kernel
theorem dX10_twos_28 : decode cX10_twos 28 = .ok (.aload_n 0, 1) := by decide +kernel
theorem dX10_twos_29 : decode cX10_twos 29 = .ok (.invokevirtual 221, 3) := by decide +kernel
theorem dX10_twos_32 : decode cX10_twos 32 = .ok (.istore_n 2, 1) := by decide +kernel
theorem dX10_twos_33 : decode cX10_twos 33 = .ok (.iload_n 1, 1) := by decide +kernel
theorem dX10_twos_34 : decode cX10_twos 34 = .ok (.ifCond .ne 7, 3) := by decide +kernel
theorem dX10_twos_37 : decode cX10_twos 37 = .ok (.iload_n 2, 1) := by decide +kernel
theorem dX10_twos_38 : decode cX10_twos 38 = .ok (.goto 12, 3) := by decide +kernel
theorem dX10_twos_41 : decode cX10_twos 41 = .ok (.aload_n 0, 1) := by decide +kernel
theorem dX10_twos_42 : decode cX10_twos 42 = .ok (.getfield 41, 3) := by decide +kernel
theorem dX10_twos_45 : decode cX10_twos 45 = .ok (.iload_n 1, 1) := by decide +kernel
theorem dX10_twos_46 : decode cX10_twos 46 = .ok (.bipush 10, 2) := by decide +kernel
theorem dX10_twos_48 : decode cX10_twos 48 = .ok (.isub, 1) := by decide +kernel
theorem dX10_twos_49 : decode cX10_twos 49 = .ok (.iaload, 1) := by decide +kernel
theorem dX10_twos_50 : decode cX10_twos 50 = .ok (.ireturn, 1) := by decide +kernel
theorem dX10_patchHouse_0 : decode cX10_patchHouse 0 = .ok (.iconst 0, 1) := by decide +kernel
theorem dX10_patchHouse_1 : decode cX10_patchHouse 1 = .ok (.istore_n 3, 1) := by decide +kernel
theorem dX10_patchHouse_2 : decode cX10_patchHouse 2 = .ok (.iload_n 3, 1) := by decide +kernel
theorem dX10_patchHouse_3 : decode cX10_patchHouse 3 = .ok (.bipush 49, 2) := by decide +kernel
theorem dX10_patchHouse_5 : decode cX10_patchHouse 5 = .ok (.if_icmp .ge 17, 3) := by decide +kernel
theorem dX10_patchHouse_8 : decode cX10_patchHouse 8 = .ok (.aload_n 0, 1) := by decide +kernel
theorem dX10_patchHouse_9 : decode cX10_patchHouse 9 = .ok (.getfield 47, 3) := by decide +kernel
theorem dX10_patchHouse_12 : decode cX10_patchHouse 12 = .ok (.iload_n 3, 1) := by decide +kernel
theorem dX10_patchHouse_13 : decode cX10_patchHouse 13 = .ok (.ldc 189, 2) := by decide +kernel
theorem dX10_patchHouse_15 : decode cX10_patchHouse 15 = .ok (.iastore, 1) := by decide +kernel
theorem dX10_patchHouse_16 : decode cX10_patchHouse 16 = .ok (.iinc 3 1, 3) := by decide +kernel
theorem dX10_patchHouse_19 : decode cX10_patchHouse 19 = .ok (.goto (-17), 3) := by decide +kernel
theorem dX10_patchHouse_22 : decode cX10_patchHouse 22 = .ok (.iconst 0, 1) := by decide +kernel
theorem dX10_patchHouse_23 : decode cX10_patchHouse 23 = .ok (.istore_n 3, 1) := by decide +kernel
theorem dX10_patchHouse_24 : decode cX10_patchHouse 24 = .ok (.iload_n 3, 1) := by decide +kernel
theorem dX10_patchHouse_25 : decode cX10_patchHouse 25 = .ok (.bipush 49, 2) := by decide +kernel
theorem dX10_patchHouse_27 : decode cX10_patchHouse 27 = .ok (.if_icmp .ge 136, 3) := by decide +kernel
theorem dX10_patchHouse_30 : decode cX10_patchHouse 30 = .ok (.aload_n 0, 1) := by decide +kernel
theorem dX10_patchHouse_31 : decode cX10_patchHouse 31 = .ok (.getfield 44, 3) := by decide +kernel
theorem dX10_patchHouse_34 : decode cX10_patchHouse 34 = .ok (.iload_n 3, 1) := by decide +kernel
theorem dX10_patchHouse_35 : decode cX10_patchHouse 35 = .ok (.iaload, 1) := by decide +kernel
theorem dX10_patchHouse_36 : decode cX10_patchHouse 36 = .ok (.ldc 189, 2) := by decide +kernel
theorem dX10_patchHouse_38 : decode cX10_patchHouse 38 = .ok (.if_icmp .ge 119, 3) := by decide +kernel
theorem dX10_patchHouse_41 : decode cX10_patchHouse 41 = .ok (.iload_n 2, 1) := by decide +kernel
theorem dX10_patchHouse_42 : decode cX10_patchHouse 42 = .ok (.iconst 2, 1) := by decide +kernel
theorem dX10_patchHouse_43 : decode cX10_patchHouse 43 = .ok (.iload_n 3, 1) := by decide +kernel
theorem dX10_patchHouse_44 : decode cX10_patchHouse 44 = .ok (.bipush 7, 2) := by decide +kernel
theorem dX10_patchHouse_46 : decode cX10_patchHouse 46 = .ok (.idiv, 1) := by decide +kernel
theorem dX10_patchHouse_47 : decode cX10_patchHouse 47 = .ok (.imul, 1) := by decide +kernel
theorem dX10_patchHouse_48 : decode cX10_patchHouse 48 = .ok (.isub, 1) := by decide +kernel
theorem dX10_patchHouse_49 : decode cX10_patchHouse 49 = .ok (.istore 4, 2) := by decide +kernel
theorem dX10_patchHouse_51 : decode cX10_patchHouse 51 = .ok (.iconst 0, 1) := by decide +kernel
theorem dX10_patchHouse_52 : decode cX10_patchHouse 52 = .ok (.istore 5, 2) := by decide +kernel
theorem dX10_patchHouse_54 : decode cX10_patchHouse 54 = .ok (.aload_n 0, 1) := by decide +kernel
theorem dX10_patchHouse_55 : decode cX10_patchHouse 55 = .ok (.getfield 13, 3) := by decide +kernel
theorem dX10_patchHouse_58 : decode cX10_patchHouse 58 = .ok (.iload_n 1, 1) := by decide +kernel
theorem dX10_patchHouse_59 : decode cX10_patchHouse 59 = .ok (.iaload, 1) := by decide +kernel
theorem dX10_patchHouse_60 : decode cX10_patchHouse 60 = .ok (.iload 5, 2) := by decide +kernel
theorem dX10_patchHouse_62 : decode cX10_patchHouse 62 = .ok (.iadd, 1) := by decide +kernel
theorem dX10_patchHouse_63 : decode cX10_patchHouse 63 = .ok (.bipush 20, 2) := by decide +kernel
theorem dX10_patchHouse_65 : decode cX10_patchHouse 65 = .ok (.if_icmp .gt 92, 3) := by decide +kernel
theorem dX10_patchHouse_68 : decode cX10_patchHouse 68 = .ok (.aload_n 0, 1) := by decide +kernel
theorem dX10_patchHouse_69 : decode cX10_patchHouse 69 = .ok (.getfield 13, 3) := by decide +kernel
theorem dX10_patchHouse_72 : decode cX10_patchHouse 72 = .ok (.iload_n 1, 1) := by decide +kernel
theorem dX10_patchHouse_73 : decode cX10_patchHouse 73 = .ok (.iaload, 1) := by decide +kernel
theorem dX10_patchHouse_74 : decode cX10_patchHouse 74 = .ok (.iload 5, 2) := by decide +kernel
theorem dX10_patchHouse_76 : decode cX10_patchHouse 76 = .ok (.iadd, 1) := by decide +kernel
theorem dX10_patchHouse_77 : decode cX10_patchHouse 77 = .ok (.istore 6, 2) := by decide +kernel
theorem dX10_patchHouse_79 : decode cX10_patchHouse 79 = .ok (.iload_n 3, 1) := by decide +kernel
theorem dX10_patchHouse_80 : decode cX10_patchHouse 80 = .ok (.iload 6, 2) := by decide +kernel
theorem dX10_patchHouse_82 : decode cX10_patchHouse 82 = .ok (.bipush 10, 2) := by decide +kernel
theorem dX10_patchHouse_84 : decode cX10_patchHouse 84 = .ok (.if_icmp .lt 8, 3) := by decide +kernel
theorem dX10_patchHouse_87 : decode cX10_patchHouse 87 = .ok (.bipush 7, 2) := by decide +kernel
theorem dX10_patchHouse_89 : decode cX10_patchHouse 89 = .ok (.goto 4, 3) := by decide +kernel
theorem dX10_patchHouse_92 : decode cX10_patchHouse 92 = .ok (.iconst 0, 1) := by decide +kernel
theorem dX10_patchHouse_93 : decode cX10_patchHouse 93 = .ok (.iadd, 1) := by decide +kernel
theorem dX10_patchHouse_94 : decode cX10_patchHouse 94 = .ok (.iload 6, 2) := by decide +kernel
theorem dX10_patchHouse_96 : decode cX10_patchHouse 96 = .ok (.iload 4, 2) := by decide +kernel
theorem dX10_patchHouse_98 : decode cX10_patchHouse 98 = .ok (.if_icmp .ge 7, 3) := by decide +kernel
theorem dX10_patchHouse_101 : decode cX10_patchHouse 101 = .ok (.iconst 1, 1) := by decide +kernel
theorem dX10_patchHouse_102 : decode cX10_patchHouse 102 = .ok (.goto 4, 3) := by decide +kernel
theorem dX10_patchHouse_105 : decode cX10_patchHouse 105 = .ok (.iconst 0, 1) := by decide +kernel
theorem dX10_patchHouse_106 : decode cX10_patchHouse 106 = .ok (.iadd, 1) := by decide +kernel
theorem dX10_patchHouse_107 : decode cX10_patchHouse 107 = .ok (.istore 7, 2) := by decide +kernel
theorem dX10_patchHouse_109 : decode cX10_patchHouse 109 = .ok (.aload_n 0, 1) := by decide +kernel
theorem dX10_patchHouse_110 : decode cX10_patchHouse 110 = .ok (.getfield 44, 3) := by decide +kernel
theorem dX10_patchHouse_113 : decode cX10_patchHouse 113 = .ok (.iload_n 3, 1) := by decide +kernel
theorem dX10_patchHouse_114 : decode cX10_patchHouse 114 = .ok (.iaload, 1) := by decide +kernel
theorem dX10_patchHouse_115 : decode cX10_patchHouse 115 = .ok (.iload 5, 2) := by decide +kernel
theorem dX10_patchHouse_117 : decode cX10_patchHouse 117 = .ok (.iadd, 1) := by decide +kernel
theorem dX10_patchHouse_118 : decode cX10_patchHouse 118 = .ok (.istore 8, 2) := by decide +kernel
theorem dX10_patchHouse_120 : decode cX10_patchHouse 120 = .ok (.aload_n 0, 1) := by decide +kernel
theorem dX10_patchHouse_121 : decode cX10_patchHouse 121 = .ok (.getfield 47, 3) := by decide +kernel
theorem dX10_patchHouse_124 : decode cX10_patchHouse 124 = .ok (.iload 7, 2) := by decide +kernel
theorem dX10_patchHouse_126 : decode cX10_patchHouse 126 = .ok (.iload 8, 2) := by decide +kernel
theorem dX10_patchHouse_128 : decode cX10_patchHouse 128 = .ok (.aload_n 0, 1) := by decide +kernel
theorem dX10_patchHouse_129 : decode cX10_patchHouse 129 = .ok (.getfield 47, 3) := by decide +kernel
theorem dX10_patchHouse_132 : decode cX10_patchHouse 132 = .ok (.iload 7, 2) := by decide +kernel
theorem dX10_patchHouse_134 : decode cX10_patchHouse 134 = .ok (.iaload, 1) := by decide +kernel
theorem dX10_patchHouse_135 : decode cX10_patchHouse 135 = .ok (.if_icmp .ge 8, 3) := by decide +kernel
theorem dX10_patchHouse_138 : decode cX10_patchHouse 138 = .ok (.iload 8, 2) := by decide +kernel
theorem dX10_patchHouse_140 : decode cX10_patchHouse 140 = .ok (.goto 10, 3) := by decide +kernel
theorem dX10_patchHouse_143 : decode cX10_patchHouse 143 = .ok (.aload_n 0, 1) := by decide +kernel
theorem dX10_patchHouse_144 : decode cX10_patchHouse 144 = .ok (.getfield 47, 3) := by decide +kernel
theorem dX10_patchHouse_147 : decode cX10_patchHouse 147 = .ok (.iload 7, 2) := by decide +kernel
theorem dX10_patchHouse_149 : decode cX10_patchHouse 149 = .ok (.iaload, 1) := by decide +kernel
theorem dX10_patchHouse_150 : decode cX10_patchHouse 150 = .ok (.iastore, 1) := by decide +kernel
theorem dX10_patchHouse_151 : decode cX10_patchHouse 151 = .ok (.iinc 5 1, 3) := by decide +kernel
theorem dX10_patchHouse_154 : decode cX10_patchHouse 154 = .ok (.goto (-100), 3) := by decide +kernel
theorem dX10_patchHouse_157 : decode cX10_patchHouse 157 = .ok (.iinc 3 1, 3) := by decide +kernel
theorem dX10_patchHouse_160 : decode cX10_patchHouse 160 = .ok (.goto (-136), 3) := by decide +kernel
theorem dX10_patchHouse_163 : decode cX10_patchHouse 163 = .ok (.iconst 0, 1) := by decide +kernel
theorem dX10_patchHouse_164 : decode cX10_patchHouse 164 = .ok (.istore_n 3, 1) := by decide +kernel
theorem dX10_patchHouse_165 : decode cX10_patchHouse 165 = .ok (.iload_n 3, 1) := by decide +kernel
theorem dX10_patchHouse_166 : decode cX10_patchHouse 166 = .ok (.bipush 49, 2) := by decide +kernel
theorem dX10_patchHouse_168 : decode cX10_patchHouse 168 = .ok (.if_icmp .ge 21, 3) := by decide +kernel
theorem dX10_patchHouse_171 : decode cX10_patchHouse 171 = .ok (.aload_n 0, 1) := by decide +kernel
theorem dX10_patchHouse_172 : decode cX10_patchHouse 172 = .ok (.getfield 44, 3) := by decide +kernel
theorem dX10_patchHouse_175 : decode cX10_patchHouse 175 = .ok (.iload_n 3, 1) := by decide +kernel
theorem dX10_patchHouse_176 : decode cX10_patchHouse 176 = .ok (.aload_n 0, 1) := by decide +kernel
theorem dX10_patchHouse_177 : decode cX10_patchHouse 177 = .ok (.getfield 47, 3) := by decide +kernel
theorem dX10_patchHouse_180 : decode cX10_patchHouse 180 = .ok (.iload_n 3, 1) := by decide +kernel
theorem dX10_patchHouse_181 : decode cX10_patchHouse 181 = .ok (.iaload, 1) := by decide +kernel
theorem dX10_patchHouse_182 : decode cX10_patchHouse 182 = .ok (.iastore, 1) := by decide +kernel
theorem dX10_patchHouse_183 : decode cX10_patchHouse 183 = .ok (.iinc 3 1, 3) := by decide +kernel
theorem dX10_patchHouse_186 : decode cX10_patchHouse 186 = .ok (.goto (-21), 3) := by decide +kernel
theorem dX10_patchHouse_189 : decode cX10_patchHouse 189 = .ok (.return_, 1) := by decide +kernel
theorem dX10_patchNow_0 : decode cX10_patchNow 0 = .ok (.iconst 0, 1) := by decide +kernel
theorem dX10_patchNow_1 : decode cX10_patchNow 1 = .ok (.istore 4, 2) := by decide +kernel
theorem dX10_patchNow_3 : decode cX10_patchNow 3 = .ok (.iload 4, 2) := by decide +kernel
theorem dX10_patchNow_5 : decode cX10_patchNow 5 = .ok (.bipush 49, 2) := by decide +kernel
theorem dX10_patchNow_7 : decode cX10_patchNow 7 = .ok (.if_icmp .ge 27, 3) := by decide +kernel
theorem dX10_patchNow_10 : decode cX10_patchNow 10 = .ok (.aload_n 0, 1) := by decide +kernel
theorem dX10_patchNow_11 : decode cX10_patchNow 11 = .ok (.getfield 44, 3) := by decide +kernel
theorem dX10_patchNow_14 : decode cX10_patchNow 14 = .ok (.iload 4, 2) := by decide +kernel
theorem dX10_patchNow_16 : decode cX10_patchNow 16 = .ok (.iload 4, 2) := by decide +kernel
theorem dX10_patchNow_18 : decode cX10_patchNow 18 = .ok (.ifCond .ne 7, 3) := by decide +kernel
theorem dX10_patchNow_21 : decode cX10_patchNow 21 = .ok (.iconst 0, 1) := by decide +kernel
theorem dX10_patchNow_22 : decode cX10_patchNow 22 = .ok (.goto 5, 3) := by decide +kernel
theorem dX10_patchNow_25 : decode cX10_patchNow 25 = .ok (.ldc 189, 2) := by decide +kernel
theorem dX10_patchNow_27 : decode cX10_patchNow 27 = .ok (.iastore, 1) := by decide +kernel
theorem dX10_patchNow_28 : decode cX10_patchNow 28 = .ok (.iinc 4 1, 3) := by decide +kernel
theorem dX10_patchNow_31 : decode cX10_patchNow 31 = .ok (.goto (-28), 3) := by decide +kernel
theorem dX10_patchNow_34 : decode cX10_patchNow 34 = .ok (.iconst 0, 1) := by decide +kernel
theorem dX10_patchNow_35 : decode cX10_patchNow 35 = .ok (.istore 4, 2) := by decide +kernel
theorem dX10_patchNow_37 : decode cX10_patchNow 37 = .ok (.iload 4, 2) := by decide +kernel
theorem dX10_patchNow_39 : decode cX10_patchNow 39 = .ok (.aload_n 0, 1) := by decide +kernel
theorem dX10_patchNow_40 : decode cX10_patchNow 40 = .ok (.getfield 101, 3) := by decide +kernel
theorem dX10_patchNow_43 : decode cX10_patchNow 43 = .ok (.if_icmp .ge 16, 3) := by decide +kernel
theorem dX10_patchNow_46 : decode cX10_patchNow 46 = .ok (.aload_n 0, 1) := by decide +kernel
theorem dX10_patchNow_47 : decode cX10_patchNow 47 = .ok (.iload 4, 2) := by decide +kernel
theorem dX10_patchNow_49 : decode cX10_patchNow 49 = .ok (.iload_n 1, 1) := by decide +kernel
theorem dX10_patchNow_50 : decode cX10_patchNow 50 = .ok (.invokevirtual 224, 3) := by decide +kernel
theorem dX10_patchNow_53 : decode cX10_patchNow 53 = .ok (.iinc 4 1, 3) := by decide +kernel
theorem dX10_patchNow_56 : decode cX10_patchNow 56 = .ok (.goto (-19), 3) := by decide +kernel
theorem dX10_patchNow_59 : decode cX10_patchNow 59 = .ok (.iconst 0, 1) := by decide +kernel
theorem dX10_patchNow_60 : decode cX10_patchNow 60 = .ok (.istore 4, 2) := by decide +kernel
theorem dX10_patchNow_62 : decode cX10_patchNow 62 = .ok (.ldc 189, 2) := by decide +kernel
theorem dX10_patchNow_64 : decode cX10_patchNow 64 = .ok (.istore 5, 2) := by decide +kernel
theorem dX10_patchNow_66 : decode cX10_patchNow 66 = .ok (.iload 5, 2) := by decide +kernel
theorem dX10_patchNow_68 : decode cX10_patchNow 68 = .ok (.iload_n 2, 1) := by decide +kernel
theorem dX10_patchNow_69 : decode cX10_patchNow 69 = .ok (.if_icmp .le 56, 3) := by decide +kernel
theorem dX10_patchNow_72 : decode cX10_patchNow 72 = .ok (.iconst 0, 1) := by decide +kernel
theorem dX10_patchNow_73 : decode cX10_patchNow 73 = .ok (.istore 6, 2) := by decide +kernel
theorem dX10_patchNow_75 : decode cX10_patchNow 75 = .ok (.iload 6, 2) := by decide +kernel
theorem dX10_patchNow_77 : decode cX10_patchNow 77 = .ok (.bipush 7, 2) := by decide +kernel
theorem dX10_patchNow_79 : decode cX10_patchNow 79 = .ok (.if_icmp .ge 40, 3) := by decide +kernel
theorem dX10_patchNow_82 : decode cX10_patchNow 82 = .ok (.aload_n 0, 1) := by decide +kernel
theorem dX10_patchNow_83 : decode cX10_patchNow 83 = .ok (.getfield 44, 3) := by decide +kernel
theorem dX10_patchNow_86 : decode cX10_patchNow 86 = .ok (.bipush 7, 2) := by decide +kernel
theorem dX10_patchNow_88 : decode cX10_patchNow 88 = .ok (.iload 6, 2) := by decide +kernel
theorem dX10_patchNow_90 : decode cX10_patchNow 90 = .ok (.imul, 1) := by decide +kernel
theorem dX10_patchNow_91 : decode cX10_patchNow 91 = .ok (.iload 4, 2) := by decide +kernel
theorem dX10_patchNow_93 : decode cX10_patchNow 93 = .ok (.iadd, 1) := by decide +kernel
theorem dX10_patchNow_94 : decode cX10_patchNow 94 = .ok (.iaload, 1) := by decide +kernel
theorem dX10_patchNow_95 : decode cX10_patchNow 95 = .ok (.istore 7, 2) := by decide +kernel
theorem dX10_patchNow_97 : decode cX10_patchNow 97 = .ok (.iload 7, 2) := by decide +kernel
theorem dX10_patchNow_99 : decode cX10_patchNow 99 = .ok (.iload 5, 2) := by decide +kernel
theorem dX10_patchNow_101 : decode cX10_patchNow 101 = .ok (.if_icmp .ge 8, 3) := by decide +kernel
theorem dX10_patchNow_104 : decode cX10_patchNow 104 = .ok (.iload 7, 2) := by decide +kernel
theorem dX10_patchNow_106 : decode cX10_patchNow 106 = .ok (.goto 5, 3) := by decide +kernel
theorem dX10_patchNow_109 : decode cX10_patchNow 109 = .ok (.iload 5, 2) := by decide +kernel
theorem dX10_patchNow_111 : decode cX10_patchNow 111 = .ok (.istore 5, 2) := by decide +kernel
theorem dX10_patchNow_113 : decode cX10_patchNow 113 = .ok (.iinc 6 1, 3) := by decide +kernel
theorem dX10_patchNow_116 : decode cX10_patchNow 116 = .ok (.goto (-41), 3) := by decide +kernel
theorem dX10_patchNow_119 : decode cX10_patchNow 119 = .ok (.iinc 4 1, 3) := by decide +kernel
theorem dX10_patchNow_122 : decode cX10_patchNow 122 = .ok (.goto (-56), 3) := by decide +kernel
theorem dX10_patchNow_125 : decode cX10_patchNow 125 = .ok (.iload_n 3, 1) := by decide +kernel
theorem dX10_patchNow_126 : decode cX10_patchNow 126 = .ok (.ifCond .ne 10, 3) := by decide +kernel
theorem dX10_patchNow_129 : decode cX10_patchNow 129 = .ok (.iload 4, 2) := by decide +kernel
theorem dX10_patchNow_131 : decode cX10_patchNow 131 = .ok (.iconst 1, 1) := by decide +kernel
theorem dX10_patchNow_132 : decode cX10_patchNow 132 = .ok (.isub, 1) := by decide +kernel
theorem dX10_patchNow_133 : decode cX10_patchNow 133 = .ok (.goto 5, 3) := by decide +kernel
theorem dX10_patchNow_136 : decode cX10_patchNow 136 = .ok (.iload 5, 2) := by decide +kernel
theorem dX10_patchNow_138 : decode cX10_patchNow 138 = .ok (.ireturn, 1) := by decide +kernel
theorem dX10_patch_0 : decode cX10_patch 0 = .ok (.iload_n 1, 1) := by decide +kernel
theorem dX10_patch_1 : decode cX10_patch 1 = .ok (.invokestatic 155, 3) := by decide +kernel
theorem dX10_patch_4 : decode cX10_patch 4 = .ok (.ifCond .eq 22, 3) := by decide +kernel
theorem dX10_patch_7 : decode cX10_patch 7 = .ok (.iload_n 2, 1) := by decide +kernel
theorem dX10_patch_8 : decode cX10_patch 8 = .ok (.iconst 0, 1) := by decide +kernel
theorem dX10_patch_9 : decode cX10_patch 9 = .ok (.bipush 30, 2) := by decide +kernel
theorem dX10_patch_11 : decode cX10_patch 11 = .ok (.invokestatic 71, 3) := by decide +kernel
theorem dX10_patch_14 : decode cX10_patch 14 = .ok (.ifCond .eq 12, 3) := by decide +kernel
theorem dX10_patch_17 : decode cX10_patch 17 = .ok (.iload_n 3, 1) := by decide +kernel
theorem dX10_patch_18 : decode cX10_patch 18 = .ok (.iconst 0, 1) := by decide +kernel
theorem dX10_patch_19 : decode cX10_patch 19 = .ok (.iconst 1, 1) := by decide +kernel
theorem dX10_patch_20 : decode cX10_patch 20 = .ok (.invokestatic 71, 3) := by decide +kernel
theorem dX10_patch_23 : decode cX10_patch 23 = .ok (.ifCond .ne 6, 3) := by decide +kernel
theorem dX10_patch_26 : decode cX10_patch 26 = .ok (.bipush (-102), 2) := by decide +kernel
theorem dX10_patch_28 : decode cX10_patch 28 = .ok (.ireturn, 1) := by decide +kernel
theorem dX10_patch_29 : decode cX10_patch 29 = .ok (.aload_n 0, 1) := by decide +kernel
theorem dX10_patch_30 : decode cX10_patch 30 = .ok (.getfield 101, 3) := by decide +kernel
theorem dX10_patch_33 : decode cX10_patch 33 = .ok (.ifCond .ne 8, 3) := by decide +kernel
theorem dX10_patch_36 : decode cX10_patch 36 = .ok (.bipush (-103), 2) := by decide +kernel
theorem dX10_patch_38 : decode cX10_patch 38 = .ok (.goto 10, 3) := by decide +kernel
theorem dX10_patch_41 : decode cX10_patch 41 = .ok (.aload_n 0, 1) := by decide +kernel
theorem dX10_patch_42 : decode cX10_patch 42 = .ok (.iload_n 1, 1) := by decide +kernel
theorem dX10_patch_43 : decode cX10_patch 43 = .ok (.iload_n 2, 1) := by decide +kernel
theorem dX10_patch_44 : decode cX10_patch 44 = .ok (.iload_n 3, 1) := by decide +kernel
theorem dX10_patch_45 : decode cX10_patch 45 = .ok (.invokevirtual 227, 3) := by decide +kernel
theorem dX10_patch_48 : decode cX10_patch 48 = .ok (.ireturn, 1) := by decide +kernel
theorem dX10_oddsNow_0 : decode cX10_oddsNow 0 = .ok (.aload_n 0, 1) := by decide +kernel
theorem dX10_oddsNow_1 : decode cX10_oddsNow 1 = .ok (.invokevirtual 180, 3) := by decide +kernel
theorem dX10_oddsNow_4 : decode cX10_oddsNow 4 = .ok (.iconst 1, 1) := by decide +kernel
theorem dX10_oddsNow_5 : decode cX10_oddsNow 5 = .ok (.istore 4, 2) := by decide +kernel
theorem dX10_oddsNow_7 : decode cX10_oddsNow 7 = .ok (.iconst 1, 1) := by decide +kernel
theorem dX10_oddsNow_8 : decode cX10_oddsNow 8 = .ok (.istore 5, 2) := by decide +kernel
theorem dX10_oddsNow_10 : decode cX10_oddsNow 10 = .ok (.iconst 0, 1) := by decide +kernel
theorem dX10_oddsNow_11 : decode cX10_oddsNow 11 = .ok (.istore 6, 2) := by decide +kernel
theorem dX10_oddsNow_13 : decode cX10_oddsNow 13 = .ok (.iload 6, 2) := by decide +kernel
theorem dX10_oddsNow_15 : decode cX10_oddsNow 15 = .ok (.iload_n 2, 1) := by decide +kernel
theorem dX10_oddsNow_16 : decode cX10_oddsNow 16 = .ok (.if_icmp .ge 69, 3) := by decide +kernel
theorem dX10_oddsNow_19 : decode cX10_oddsNow 19 = .ok (.aload_n 0, 1) := by decide +kernel
theorem dX10_oddsNow_20 : decode cX10_oddsNow 20 = .ok (.invokevirtual 158, 3) := by decide +kernel
theorem dX10_oddsNow_23 : decode cX10_oddsNow 23 = .ok (.iconst 0, 1) := by decide +kernel
theorem dX10_oddsNow_24 : decode cX10_oddsNow 24 = .ok (.istore 7, 2) := by decide +kernel
theorem dX10_oddsNow_26 : decode cX10_oddsNow 26 = .ok (.iconst 0, 1) := by decide +kernel
theorem dX10_oddsNow_27 : decode cX10_oddsNow 27 = .ok (.istore 8, 2) := by decide +kernel
theorem dX10_oddsNow_29 : decode cX10_oddsNow 29 = .ok (.iload 8, 2) := by decide +kernel
theorem dX10_oddsNow_31 : decode cX10_oddsNow 31 = .ok (.bipush 10, 2) := by decide +kernel
theorem dX10_oddsNow_33 : decode cX10_oddsNow 33 = .ok (.if_icmp .ge 32, 3) := by decide +kernel
theorem dX10_oddsNow_36 : decode cX10_oddsNow 36 = .ok (.iload 7, 2) := by decide +kernel
theorem dX10_oddsNow_38 : decode cX10_oddsNow 38 = .ok (.aload_n 0, 1) := by decide +kernel
theorem dX10_oddsNow_39 : decode cX10_oddsNow 39 = .ok (.iload 8, 2) := by decide +kernel
theorem dX10_oddsNow_41 : decode cX10_oddsNow 41 = .ok (.invokevirtual 137, 3) := by decide +kernel
theorem dX10_oddsNow_44 : decode cX10_oddsNow 44 = .ok (.iload_n 1, 1) := by decide +kernel
theorem dX10_oddsNow_45 : decode cX10_oddsNow 45 = .ok (.invokestatic 122, 3) := by decide +kernel
theorem dX10_oddsNow_48 : decode cX10_oddsNow 48 = .ok (.ifCond .eq 7, 3) := by decide +kernel
theorem dX10_oddsNow_51 : decode cX10_oddsNow 51 = .ok (.iconst 0, 1) := by decide +kernel
theorem dX10_oddsNow_52 : decode cX10_oddsNow 52 = .ok (.goto 4, 3) := by decide +kernel
theorem dX10_oddsNow_55 : decode cX10_oddsNow 55 = .ok (.iconst 1, 1) := by decide +kernel
theorem dX10_oddsNow_56 : decode cX10_oddsNow 56 = .ok (.iadd, 1) := by decide +kernel
theorem dX10_oddsNow_57 : decode cX10_oddsNow 57 = .ok (.istore 7, 2) := by decide +kernel
theorem dX10_oddsNow_59 : decode cX10_oddsNow 59 = .ok (.iinc 8 1, 3) := by decide +kernel
theorem dX10_oddsNow_62 : decode cX10_oddsNow 62 = .ok (.goto (-33), 3) := by decide +kernel
theorem dX10_oddsNow_65 : decode cX10_oddsNow 65 = .ok (.iload 4, 2) := by decide +kernel
theorem dX10_oddsNow_67 : decode cX10_oddsNow 67 = .ok (.iload 7, 2) := by decide +kernel
theorem dX10_oddsNow_69 : decode cX10_oddsNow 69 = .ok (.imul, 1) := by decide +kernel
theorem dX10_oddsNow_70 : decode cX10_oddsNow 70 = .ok (.istore 4, 2) := by decide +kernel
theorem dX10_oddsNow_72 : decode cX10_oddsNow 72 = .ok (.iload 5, 2) := by decide +kernel
theorem dX10_oddsNow_74 : decode cX10_oddsNow 74 = .ok (.bipush 10, 2) := by decide +kernel
theorem dX10_oddsNow_76 : decode cX10_oddsNow 76 = .ok (.imul, 1) := by decide +kernel
theorem dX10_oddsNow_77 : decode cX10_oddsNow 77 = .ok (.istore 5, 2) := by decide +kernel
theorem dX10_oddsNow_79 : decode cX10_oddsNow 79 = .ok (.iinc 6 1, 3) := by decide +kernel
theorem dX10_oddsNow_82 : decode cX10_oddsNow 82 = .ok (.goto (-69), 3) := by decide +kernel
theorem dX10_oddsNow_85 : decode cX10_oddsNow 85 = .ok (.aload_n 0, 1) := by decide +kernel
theorem dX10_oddsNow_86 : decode cX10_oddsNow 86 = .ok (.invokevirtual 183, 3) := by decide +kernel
theorem dX10_oddsNow_89 : decode cX10_oddsNow 89 = .ok (.iload 4, 2) := by decide +kernel
theorem dX10_oddsNow_91 : decode cX10_oddsNow 91 = .ok (.iload 5, 2) := by decide +kernel
theorem dX10_oddsNow_93 : decode cX10_oddsNow 93 = .ok (.invokestatic 231, 3) := by decide +kernel
theorem dX10_oddsNow_96 : decode cX10_oddsNow 96 = .ok (.istore 6, 2) := by decide +kernel
theorem dX10_oddsNow_98 : decode cX10_oddsNow 98 = .ok (.iload_n 3, 1) := by decide +kernel
theorem dX10_oddsNow_99 : decode cX10_oddsNow 99 = .ok (.ifCond .ne 11, 3) := by decide +kernel
theorem dX10_oddsNow_102 : decode cX10_oddsNow 102 = .ok (.iload 4, 2) := by decide +kernel
theorem dX10_oddsNow_104 : decode cX10_oddsNow 104 = .ok (.iload 6, 2) := by decide +kernel
theorem dX10_oddsNow_106 : decode cX10_oddsNow 106 = .ok (.idiv, 1) := by decide +kernel
theorem dX10_oddsNow_107 : decode cX10_oddsNow 107 = .ok (.goto 8, 3) := by decide +kernel
theorem dX10_oddsNow_110 : decode cX10_oddsNow 110 = .ok (.iload 5, 2) := by decide +kernel
theorem dX10_oddsNow_112 : decode cX10_oddsNow 112 = .ok (.iload 6, 2) := by decide +kernel
theorem dX10_oddsNow_114 : decode cX10_oddsNow 114 = .ok (.idiv, 1) := by decide +kernel
theorem dX10_oddsNow_115 : decode cX10_oddsNow 115 = .ok (.ireturn, 1) := by decide +kernel
theorem dX10_odds_0 : decode cX10_odds 0 = .ok (.aload_n 0, 1) := by decide +kernel
theorem dX10_odds_1 : decode cX10_odds 1 = .ok (.iload_n 1, 1) := by decide +kernel
theorem dX10_odds_2 : decode cX10_odds 2 = .ok (.invokevirtual 149, 3) := by decide +kernel
theorem dX10_odds_5 : decode cX10_odds 5 = .ok (.ifCond .ne 6, 3) := by decide +kernel
theorem dX10_odds_8 : decode cX10_odds 8 = .ok (.bipush (-101), 2) := by decide +kernel
theorem dX10_odds_10 : decode cX10_odds 10 = .ok (.ireturn, 1) := by decide +kernel
theorem dX10_odds_11 : decode cX10_odds 11 = .ok (.iload_n 2, 1) := by decide +kernel
theorem dX10_odds_12 : decode cX10_odds 12 = .ok (.iconst 1, 1) := by decide +kernel
theorem dX10_odds_13 : decode cX10_odds 13 = .ok (.bipush 7, 2) := by decide +kernel
theorem dX10_odds_15 : decode cX10_odds 15 = .ok (.invokestatic 71, 3) := by decide +kernel
theorem dX10_odds_18 : decode cX10_odds 18 = .ok (.ifCond .eq 22, 3) := by decide +kernel
theorem dX10_odds_21 : decode cX10_odds 21 = .ok (.iload_n 3, 1) := by decide +kernel
theorem dX10_odds_22 : decode cX10_odds 22 = .ok (.iconst 0, 1) := by decide +kernel
theorem dX10_odds_23 : decode cX10_odds 23 = .ok (.iconst 1, 1) := by decide +kernel
theorem dX10_odds_24 : decode cX10_odds 24 = .ok (.invokestatic 71, 3) := by decide +kernel
theorem dX10_odds_27 : decode cX10_odds 27 = .ok (.ifCond .eq 13, 3) := by decide +kernel
theorem dX10_odds_30 : decode cX10_odds 30 = .ok (.aload_n 0, 1) := by decide +kernel
theorem dX10_odds_31 : decode cX10_odds 31 = .ok (.iload_n 1, 1) := by decide +kernel
theorem dX10_odds_32 : decode cX10_odds 32 = .ok (.iload_n 2, 1) := by decide +kernel
theorem dX10_odds_33 : decode cX10_odds 33 = .ok (.iload_n 3, 1) := by decide +kernel
theorem dX10_odds_34 : decode cX10_odds 34 = .ok (.invokevirtual 234, 3) := by decide +kernel
theorem dX10_odds_37 : decode cX10_odds 37 = .ok (.goto 5, 3) := by decide +kernel
theorem dX10_odds_40 : decode cX10_odds 40 = .ok (.bipush (-102), 2) := by decide +kernel
theorem dX10_odds_42 : decode cX10_odds 42 = .ok (.ireturn, 1) := by decide +kernel
theorem dX10_see_0 : decode cX10_see 0 = .ok (.aload_n 0, 1) := by decide +kernel
theorem dX10_see_1 : decode cX10_see 1 = .ok (.iload_n 1, 1) := by decide +kernel
theorem dX10_see_2 : decode cX10_see 2 = .ok (.invokevirtual 149, 3) := by decide +kernel
theorem dX10_see_5 : decode cX10_see 5 = .ok (.ifCond .ne 6, 3) := by decide +kernel
theorem dX10_see_8 : decode cX10_see 8 = .ok (.bipush (-101), 2) := by decide +kernel
theorem dX10_see_10 : decode cX10_see 10 = .ok (.ireturn, 1) := by decide +kernel
theorem dX10_see_11 : decode cX10_see 11 = .ok (.iload_n 2, 1) := by decide +kernel
theorem dX10_see_12 : decode cX10_see 12 = .ok (.iconst 1, 1) := by decide +kernel
theorem dX10_see_13 : decode cX10_see 13 = .ok (.bipush 9, 2) := by decide +kernel
theorem dX10_see_15 : decode cX10_see 15 = .ok (.invokestatic 71, 3) := by decide +kernel
theorem dX10_see_18 : decode cX10_see 18 = .ok (.ifCond .eq 13, 3) := by decide +kernel
theorem dX10_see_21 : decode cX10_see 21 = .ok (.iload_n 3, 1) := by decide +kernel
theorem dX10_see_22 : decode cX10_see 22 = .ok (.iconst 0, 1) := by decide +kernel
theorem dX10_see_23 : decode cX10_see 23 = .ok (.bipush 20, 2) := by decide +kernel
theorem dX10_see_25 : decode cX10_see 25 = .ok (.invokestatic 71, 3) := by decide +kernel
theorem dX10_see_28 : decode cX10_see 28 = .ok (.ifCond .ne 6, 3) := by decide +kernel
theorem dX10_see_31 : decode cX10_see 31 = .ok (.bipush (-102), 2) := by decide +kernel
theorem dX10_see_33 : decode cX10_see 33 = .ok (.ireturn, 1) := by decide +kernel
theorem dX10_see_34 : decode cX10_see 34 = .ok (.aload_n 0, 1) := by decide +kernel
theorem dX10_see_35 : decode cX10_see 35 = .ok (.getfield 116, 3) := by decide +kernel
theorem dX10_see_38 : decode cX10_see 38 = .ok (.bipush 6, 2) := by decide +kernel
theorem dX10_see_40 : decode cX10_see 40 = .ok (.if_icmp .ne 6, 3) := by decide +kernel
theorem dX10_see_43 : decode cX10_see 43 = .ok (.bipush (-104), 2) := by decide +kernel
theorem dX10_see_45 : decode cX10_see 45 = .ok (.ireturn, 1) := by decide +kernel
theorem dX10_see_46 : decode cX10_see 46 = .ok (.aload_n 0, 1) := by decide +kernel
theorem dX10_see_47 : decode cX10_see 47 = .ok (.getfield 19, 3) := by decide +kernel
theorem dX10_see_50 : decode cX10_see 50 = .ok (.aload_n 0, 1) := by decide +kernel
theorem dX10_see_51 : decode cX10_see 51 = .ok (.getfield 116, 3) := by decide +kernel
theorem dX10_see_54 : decode cX10_see 54 = .ok (.iload_n 1, 1) := by decide +kernel
theorem dX10_see_55 : decode cX10_see 55 = .ok (.iastore, 1) := by decide +kernel
theorem dX10_see_56 : decode cX10_see 56 = .ok (.aload_n 0, 1) := by decide +kernel
theorem dX10_see_57 : decode cX10_see 57 = .ok (.getfield 22, 3) := by decide +kernel
theorem dX10_see_60 : decode cX10_see 60 = .ok (.aload_n 0, 1) := by decide +kernel
theorem dX10_see_61 : decode cX10_see 61 = .ok (.getfield 116, 3) := by decide +kernel
theorem dX10_see_64 : decode cX10_see 64 = .ok (.iload_n 2, 1) := by decide +kernel
theorem dX10_see_65 : decode cX10_see 65 = .ok (.iastore, 1) := by decide +kernel
theorem dX10_see_66 : decode cX10_see 66 = .ok (.aload_n 0, 1) := by decide +kernel
theorem dX10_see_67 : decode cX10_see 67 = .ok (.getfield 25, 3) := by decide +kernel
theorem dX10_see_70 : decode cX10_see 70 = .ok (.aload_n 0, 1) := by decide +kernel
theorem dX10_see_71 : decode cX10_see 71 = .ok (.getfield 116, 3) := by decide +kernel
theorem dX10_see_74 : decode cX10_see 74 = .ok (.iload_n 3, 1) := by decide +kernel
theorem dX10_see_75 : decode cX10_see 75 = .ok (.iastore, 1) := by decide +kernel
theorem dX10_see_76 : decode cX10_see 76 = .ok (.aload_n 0, 1) := by decide +kernel
theorem dX10_see_77 : decode cX10_see 77 = .ok (.dup, 1) := by decide +kernel
theorem dX10_see_78 : decode cX10_see 78 = .ok (.getfield 116, 3) := by decide +kernel
theorem dX10_see_81 : decode cX10_see 81 = .ok (.iconst 1, 1) := by decide +kernel
theorem dX10_see_82 : decode cX10_see 82 = .ok (.iadd, 1) := by decide +kernel
theorem dX10_see_83 : decode cX10_see 83 = .ok (.putfield 116, 3) := by decide +kernel
theorem dX10_see_86 : decode cX10_see 86 = .ok (.aload_n 0, 1) := by decide +kernel
theorem dX10_see_87 : decode cX10_see 87 = .ok (.getfield 116, 3) := by decide +kernel
theorem dX10_see_90 : decode cX10_see 90 = .ok (.ireturn, 1) := by decide +kernel
theorem dX10_forget_0 : decode cX10_forget 0 = .ok (.aload_n 0, 1) := by decide +kernel
theorem dX10_forget_1 : decode cX10_forget 1 = .ok (.getfield 116, 3) := by decide +kernel
theorem dX10_forget_4 : decode cX10_forget 4 = .ok (.istore_n 1, 1) := by decide +kernel
theorem dX10_forget_5 : decode cX10_forget 5 = .ok (.aload_n 0, 1) := by decide +kernel
theorem dX10_forget_6 : decode cX10_forget 6 = .ok (.iconst 0, 1) := by decide +kernel
theorem dX10_forget_7 : decode cX10_forget 7 = .ok (.putfield 116, 3) := by decide +kernel
theorem dX10_forget_10 : decode cX10_forget 10 = .ok (.iload_n 1, 1) := by decide +kernel
theorem dX10_forget_11 : decode cX10_forget 11 = .ok (.ireturn, 1) := by decide +kernel
theorem dX10_reedBehind_0 : decode cX10_reedBehind 0 = .ok (.aload_n 0, 1) := by decide +kernel
theorem dX10_reedBehind_1 : decode cX10_reedBehind 1 = .ok (.getfield 13, 3) := by decide +kernel
theorem dX10_reedBehind_4 : decode cX10_reedBehind 4 = .ok (.iload_n 1, 1) := by decide +kernel
theorem dX10_reedBehind_5 : decode cX10_reedBehind 5 = .ok (.iaload, 1) := by decide +kernel
theorem dX10_reedBehind_6 : decode cX10_reedBehind 6 = .ok (.istore 4, 2) := by decide +kernel
theorem dX10_reedBehind_8 : decode cX10_reedBehind 8 = .ok (.iconst 0, 1) := by decide +kernel
theorem dX10_reedBehind_9 : decode cX10_reedBehind 9 = .ok (.istore 5, 2) := by decide +kernel
theorem dX10_reedBehind_11 : decode cX10_reedBehind 11 = .ok (.iload 5, 2) := by decide +kernel
theorem dX10_reedBehind_13 : decode cX10_reedBehind 13 = .ok (.iload_n 3, 1) := by decide +kernel
theorem dX10_reedBehind_14 : decode cX10_reedBehind 14 = .ok (.if_icmp .ge 53, 3) := by decide +kernel
theorem dX10_reedBehind_17 : decode cX10_reedBehind 17 = .ok (.aload_n 0, 1) := by decide +kernel
theorem dX10_reedBehind_18 : decode cX10_reedBehind 18 = .ok (.getfield 7, 3) := by decide +kernel
theorem dX10_reedBehind_21 : decode cX10_reedBehind 21 = .ok (.iload_n 1, 1) := by decide +kernel
theorem dX10_reedBehind_22 : decode cX10_reedBehind 22 = .ok (.iaload, 1) := by decide +kernel
theorem dX10_reedBehind_23 : decode cX10_reedBehind 23 = .ok (.iload 4, 2) := by decide +kernel
theorem dX10_reedBehind_25 : decode cX10_reedBehind 25 = .ok (.iload_n 2, 1) := by decide +kernel
theorem dX10_reedBehind_26 : decode cX10_reedBehind 26 = .ok (.iload 5, 2) := by decide +kernel
theorem dX10_reedBehind_28 : decode cX10_reedBehind 28 = .ok (.ifCond .ne 18, 3) := by decide +kernel
theorem dX10_reedBehind_31 : decode cX10_reedBehind 31 = .ok (.aload_n 0, 1) := by decide +kernel
theorem dX10_reedBehind_32 : decode cX10_reedBehind 32 = .ok (.getfield 104, 3) := by decide +kernel
theorem dX10_reedBehind_35 : decode cX10_reedBehind 35 = .ok (.iload_n 1, 1) := by decide +kernel
theorem dX10_reedBehind_36 : decode cX10_reedBehind 36 = .ok (.invokestatic 122, 3) := by decide +kernel
theorem dX10_reedBehind_39 : decode cX10_reedBehind 39 = .ok (.ifCond .eq 7, 3) := by decide +kernel
theorem dX10_reedBehind_42 : decode cX10_reedBehind 42 = .ok (.iconst 1, 1) := by decide +kernel
theorem dX10_reedBehind_43 : decode cX10_reedBehind 43 = .ok (.goto 4, 3) := by decide +kernel
theorem dX10_reedBehind_46 : decode cX10_reedBehind 46 = .ok (.iconst 0, 1) := by decide +kernel
theorem dX10_reedBehind_47 : decode cX10_reedBehind 47 = .ok (.aload_n 0, 1) := by decide +kernel
theorem dX10_reedBehind_48 : decode cX10_reedBehind 48 = .ok (.getfield 107, 3) := by decide +kernel
theorem dX10_reedBehind_51 : decode cX10_reedBehind 51 = .ok (.iconst 1, 1) := by decide +kernel
theorem dX10_reedBehind_52 : decode cX10_reedBehind 52 = .ok (.iadd, 1) := by decide +kernel
theorem dX10_reedBehind_53 : decode cX10_reedBehind 53 = .ok (.iload 5, 2) := by decide +kernel
theorem dX10_reedBehind_55 : decode cX10_reedBehind 55 = .ok (.iadd, 1) := by decide +kernel
theorem dX10_reedBehind_56 : decode cX10_reedBehind 56 = .ok (.invokestatic 126, 3) := by decide +kernel
theorem dX10_reedBehind_59 : decode cX10_reedBehind 59 = .ok (.istore 4, 2) := by decide +kernel
theorem dX10_reedBehind_61 : decode cX10_reedBehind 61 = .ok (.iinc 5 1, 3) := by decide +kernel
theorem dX10_reedBehind_64 : decode cX10_reedBehind 64 = .ok (.goto (-53), 3) := by decide +kernel
theorem dX10_reedBehind_67 : decode cX10_reedBehind 67 = .ok (.iload 4, 2) := by decide +kernel
theorem dX10_reedBehind_69 : decode cX10_reedBehind 69 = .ok (.ireturn, 1) := by decide +kernel
theorem dX10_worriesOf_0 : decode cX10_worriesOf 0 = .ok (.iconst 0, 1) := by decide +kernel
theorem dX10_worriesOf_1 : decode cX10_worriesOf 1 = .ok (.istore_n 2, 1) := by decide +kernel
theorem dX10_worriesOf_2 : decode cX10_worriesOf 2 = .ok (.iconst 0, 1) := by decide +kernel
theorem dX10_worriesOf_3 : decode cX10_worriesOf 3 = .ok (.istore_n 3, 1) := by decide +kernel
theorem dX10_worriesOf_4 : decode cX10_worriesOf 4 = .ok (.iload_n 3, 1) := by decide +kernel
theorem dX10_worriesOf_5 : decode cX10_worriesOf 5 = .ok (.bipush 9, 2) := by decide +kernel
theorem dX10_worriesOf_7 : decode cX10_worriesOf 7 = .ok (.if_icmp .gt 91, 3) := by decide +kernel
theorem dX10_worriesOf_10 : decode cX10_worriesOf 10 = .ok (.iconst 1, 1) := by decide +kernel
theorem dX10_worriesOf_11 : decode cX10_worriesOf 11 = .ok (.istore 4, 2) := by decide +kernel
theorem dX10_worriesOf_13 : decode cX10_worriesOf 13 = .ok (.iconst 0, 1) := by decide +kernel
theorem dX10_worriesOf_14 : decode cX10_worriesOf 14 = .ok (.istore 5, 2) := by decide +kernel
theorem dX10_worriesOf_16 : decode cX10_worriesOf 16 = .ok (.iload 5, 2) := by decide +kernel
theorem dX10_worriesOf_18 : decode cX10_worriesOf 18 = .ok (.aload_n 0, 1) := by decide +kernel
theorem dX10_worriesOf_19 : decode cX10_worriesOf 19 = .ok (.getfield 116, 3) := by decide +kernel
theorem dX10_worriesOf_22 : decode cX10_worriesOf 22 = .ok (.if_icmp .ge 55, 3) := by decide +kernel
theorem dX10_worriesOf_25 : decode cX10_worriesOf 25 = .ok (.iload 4, 2) := by decide +kernel
theorem dX10_worriesOf_27 : decode cX10_worriesOf 27 = .ok (.ifCond .eq 41, 3) := by decide +kernel
theorem dX10_worriesOf_30 : decode cX10_worriesOf 30 = .ok (.aload_n 0, 1) := by decide +kernel
theorem dX10_worriesOf_31 : decode cX10_worriesOf 31 = .ok (.getfield 19, 3) := by decide +kernel
theorem dX10_worriesOf_34 : decode cX10_worriesOf 34 = .ok (.iload 5, 2) := by decide +kernel
theorem dX10_worriesOf_36 : decode cX10_worriesOf 36 = .ok (.iaload, 1) := by decide +kernel
theorem dX10_worriesOf_37 : decode cX10_worriesOf 37 = .ok (.iload_n 1, 1) := by decide +kernel
theorem dX10_worriesOf_38 : decode cX10_worriesOf 38 = .ok (.if_icmp .ne 26, 3) := by decide +kernel
theorem dX10_worriesOf_41 : decode cX10_worriesOf 41 = .ok (.aload_n 0, 1) := by decide +kernel
theorem dX10_worriesOf_42 : decode cX10_worriesOf 42 = .ok (.iload_n 1, 1) := by decide +kernel
theorem dX10_worriesOf_43 : decode cX10_worriesOf 43 = .ok (.iload_n 3, 1) := by decide +kernel
theorem dX10_worriesOf_44 : decode cX10_worriesOf 44 = .ok (.aload_n 0, 1) := by decide +kernel
theorem dX10_worriesOf_45 : decode cX10_worriesOf 45 = .ok (.getfield 22, 3) := by decide +kernel
theorem dX10_worriesOf_48 : decode cX10_worriesOf 48 = .ok (.iload 5, 2) := by decide +kernel
theorem dX10_worriesOf_50 : decode cX10_worriesOf 50 = .ok (.iaload, 1) := by decide +kernel
theorem dX10_worriesOf_51 : decode cX10_worriesOf 51 = .ok (.invokevirtual 237, 3) := by decide +kernel
theorem dX10_worriesOf_54 : decode cX10_worriesOf 54 = .ok (.aload_n 0, 1) := by decide +kernel
theorem dX10_worriesOf_55 : decode cX10_worriesOf 55 = .ok (.getfield 25, 3) := by decide +kernel
theorem dX10_worriesOf_58 : decode cX10_worriesOf 58 = .ok (.iload 5, 2) := by decide +kernel
theorem dX10_worriesOf_60 : decode cX10_worriesOf 60 = .ok (.iaload, 1) := by decide +kernel
theorem dX10_worriesOf_61 : decode cX10_worriesOf 61 = .ok (.if_icmp .ne 7, 3) := by decide +kernel
theorem dX10_worriesOf_64 : decode cX10_worriesOf 64 = .ok (.iconst 1, 1) := by decide +kernel
theorem dX10_worriesOf_65 : decode cX10_worriesOf 65 = .ok (.goto 4, 3) := by decide +kernel
theorem dX10_worriesOf_68 : decode cX10_worriesOf 68 = .ok (.iconst 0, 1) := by decide +kernel
theorem dX10_worriesOf_69 : decode cX10_worriesOf 69 = .ok (.istore 4, 2) := by decide +kernel
theorem dX10_worriesOf_71 : decode cX10_worriesOf 71 = .ok (.iinc 5 1, 3) := by decide +kernel
theorem dX10_worriesOf_74 : decode cX10_worriesOf 74 = .ok (.goto (-58), 3) := by decide +kernel
theorem dX10_worriesOf_77 : decode cX10_worriesOf 77 = .ok (.iload_n 2, 1) := by decide +kernel
theorem dX10_worriesOf_78 : decode cX10_worriesOf 78 = .ok (.iload 4, 2) := by decide +kernel
theorem dX10_worriesOf_80 : decode cX10_worriesOf 80 = .ok (.ifCond .eq 9, 3) := by decide +kernel
theorem dX10_worriesOf_83 : decode cX10_worriesOf 83 = .ok (.iconst 1, 1) := by decide +kernel
theorem dX10_worriesOf_84 : decode cX10_worriesOf 84 = .ok (.iload_n 3, 1) := by decide +kernel
theorem dX10_worriesOf_85 : decode cX10_worriesOf 85 = .ok (.ishl, 1) := by decide +kernel
theorem dX10_worriesOf_86 : decode cX10_worriesOf 86 = .ok (.goto 4, 3) := by decide +kernel
theorem dX10_worriesOf_89 : decode cX10_worriesOf 89 = .ok (.iconst 0, 1) := by decide +kernel
theorem dX10_worriesOf_90 : decode cX10_worriesOf 90 = .ok (.ior, 1) := by decide +kernel
theorem dX10_worriesOf_91 : decode cX10_worriesOf 91 = .ok (.istore_n 2, 1) := by decide +kernel
theorem dX10_worriesOf_92 : decode cX10_worriesOf 92 = .ok (.iinc 3 1, 3) := by decide +kernel
theorem dX10_worriesOf_95 : decode cX10_worriesOf 95 = .ok (.goto (-91), 3) := by decide +kernel
theorem dX10_worriesOf_98 : decode cX10_worriesOf 98 = .ok (.iload_n 2, 1) := by decide +kernel
theorem dX10_worriesOf_99 : decode cX10_worriesOf 99 = .ok (.ireturn, 1) := by decide +kernel
theorem dX10_worstBy_0 : decode cX10_worstBy 0 = .ok (.iconst 0, 1) := by decide +kernel
theorem dX10_worstBy_1 : decode cX10_worstBy 1 = .ok (.istore 4, 2) := by decide +kernel
theorem dX10_worstBy_3 : decode cX10_worstBy 3 = .ok (.iload 4, 2) := by decide +kernel
theorem dX10_worstBy_5 : decode cX10_worstBy 5 = .ok (.bipush 20, 2) := by decide +kernel
theorem dX10_worstBy_7 : decode cX10_worstBy 7 = .ok (.if_icmp .gt 17, 3) := by decide +kernel
theorem dX10_worstBy_10 : decode cX10_worstBy 10 = .ok (.aload_n 0, 1) := by decide +kernel
theorem dX10_worstBy_11 : decode cX10_worstBy 11 = .ok (.getfield 50, 3) := by decide +kernel
theorem dX10_worstBy_14 : decode cX10_worstBy 14 = .ok (.iload 4, 2) := by decide +kernel
theorem dX10_worstBy_16 : decode cX10_worstBy 16 = .ok (.iconst 0, 1) := by decide +kernel
theorem dX10_worstBy_17 : decode cX10_worstBy 17 = .ok (.iastore, 1) := by decide +kernel
theorem dX10_worstBy_18 : decode cX10_worstBy 18 = .ok (.iinc 4 1, 3) := by decide +kernel
theorem dX10_worstBy_21 : decode cX10_worstBy 21 = .ok (.goto (-18), 3) := by decide +kernel
theorem dX10_worstBy_24 : decode cX10_worstBy 24 = .ok (.iconst 0, 1) := by decide +kernel
theorem dX10_worstBy_25 : decode cX10_worstBy 25 = .ok (.istore 4, 2) := by decide +kernel
theorem dX10_worstBy_27 : decode cX10_worstBy 27 = .ok (.iconst 0, 1) := by decide +kernel
theorem dX10_worstBy_28 : decode cX10_worstBy 28 = .ok (.istore 5, 2) := by decide +kernel
theorem dX10_worstBy_30 : decode cX10_worstBy 30 = .ok (.iload 5, 2) := by decide +kernel
theorem dX10_worstBy_32 : decode cX10_worstBy 32 = .ok (.bipush 9, 2) := by decide +kernel
theorem dX10_worstBy_34 : decode cX10_worstBy 34 = .ok (.if_icmp .gt 65, 3) := by decide +kernel
theorem dX10_worstBy_37 : decode cX10_worstBy 37 = .ok (.iload_n 2, 1) := by decide +kernel
theorem dX10_worstBy_38 : decode cX10_worstBy 38 = .ok (.iload 5, 2) := by decide +kernel
theorem dX10_worstBy_40 : decode cX10_worstBy 40 = .ok (.invokestatic 122, 3) := by decide +kernel
theorem dX10_worstBy_43 : decode cX10_worstBy 43 = .ok (.ifCond .eq 50, 3) := by decide +kernel
theorem dX10_worstBy_46 : decode cX10_worstBy 46 = .ok (.aload_n 0, 1) := by decide +kernel
theorem dX10_worstBy_47 : decode cX10_worstBy 47 = .ok (.iload_n 1, 1) := by decide +kernel
theorem dX10_worstBy_48 : decode cX10_worstBy 48 = .ok (.iload 5, 2) := by decide +kernel
theorem dX10_worstBy_50 : decode cX10_worstBy 50 = .ok (.iload_n 3, 1) := by decide +kernel
theorem dX10_worstBy_51 : decode cX10_worstBy 51 = .ok (.invokevirtual 237, 3) := by decide +kernel
theorem dX10_worstBy_54 : decode cX10_worstBy 54 = .ok (.istore 6, 2) := by decide +kernel
theorem dX10_worstBy_56 : decode cX10_worstBy 56 = .ok (.aload_n 0, 1) := by decide +kernel
theorem dX10_worstBy_57 : decode cX10_worstBy 57 = .ok (.getfield 50, 3) := by decide +kernel
theorem dX10_worstBy_60 : decode cX10_worstBy 60 = .ok (.iload 6, 2) := by decide +kernel
theorem dX10_worstBy_62 : decode cX10_worstBy 62 = .ok (.dup2, 1) := by decide +kernel
theorem dX10_worstBy_63 : decode cX10_worstBy 63 = .ok (.iaload, 1) := by decide +kernel
theorem dX10_worstBy_64 : decode cX10_worstBy 64 = .ok (.iconst 1, 1) := by decide +kernel
theorem dX10_worstBy_65 : decode cX10_worstBy 65 = .ok (.iadd, 1) := by decide +kernel
theorem dX10_worstBy_66 : decode cX10_worstBy 66 = .ok (.iastore, 1) := by decide +kernel
theorem dX10_worstBy_67 : decode cX10_worstBy 67 = .ok (.aload_n 0, 1) := by decide +kernel
theorem dX10_worstBy_68 : decode cX10_worstBy 68 = .ok (.getfield 50, 3) := by decide +kernel
theorem dX10_worstBy_71 : decode cX10_worstBy 71 = .ok (.iload 6, 2) := by decide +kernel
theorem dX10_worstBy_73 : decode cX10_worstBy 73 = .ok (.iaload, 1) := by decide +kernel
theorem dX10_worstBy_74 : decode cX10_worstBy 74 = .ok (.iload 4, 2) := by decide +kernel
theorem dX10_worstBy_76 : decode cX10_worstBy 76 = .ok (.if_icmp .le 13, 3) := by decide +kernel
theorem dX10_worstBy_79 : decode cX10_worstBy 79 = .ok (.aload_n 0, 1) := by decide +kernel
theorem dX10_worstBy_80 : decode cX10_worstBy 80 = .ok (.getfield 50, 3) := by decide +kernel
theorem dX10_worstBy_83 : decode cX10_worstBy 83 = .ok (.iload 6, 2) := by decide +kernel
theorem dX10_worstBy_85 : decode cX10_worstBy 85 = .ok (.iaload, 1) := by decide +kernel
theorem dX10_worstBy_86 : decode cX10_worstBy 86 = .ok (.goto 5, 3) := by decide +kernel
theorem dX10_worstBy_89 : decode cX10_worstBy 89 = .ok (.iload 4, 2) := by decide +kernel
theorem dX10_worstBy_91 : decode cX10_worstBy 91 = .ok (.istore 4, 2) := by decide +kernel
theorem dX10_worstBy_93 : decode cX10_worstBy 93 = .ok (.iinc 5 1, 3) := by decide +kernel
theorem dX10_worstBy_96 : decode cX10_worstBy 96 = .ok (.goto (-66), 3) := by decide +kernel
theorem dX10_worstBy_99 : decode cX10_worstBy 99 = .ok (.iload 4, 2) := by decide +kernel
theorem dX10_worstBy_101 : decode cX10_worstBy 101 = .ok (.ireturn, 1) := by decide +kernel
theorem dX10_lookFor_0 : decode cX10_lookFor 0 = .ok (.aload_n 0, 1) := by decide +kernel
theorem dX10_lookFor_1 : decode cX10_lookFor 1 = .ok (.iload_n 1, 1) := by decide +kernel
theorem dX10_lookFor_2 : decode cX10_lookFor 2 = .ok (.invokevirtual 143, 3) := by decide +kernel
theorem dX10_lookFor_5 : decode cX10_lookFor 5 = .ok (.istore_n 2, 1) := by decide +kernel
theorem dX10_lookFor_6 : decode cX10_lookFor 6 = .ok (.iconst (-1), 1) := by decide +kernel
theorem dX10_lookFor_7 : decode cX10_lookFor 7 = .ok (.istore_n 3, 1) := by decide +kernel
theorem dX10_lookFor_8 : decode cX10_lookFor 8 = .ok (.ldc 189, 2) := by decide +kernel
theorem dX10_lookFor_10 : decode cX10_lookFor 10 = .ok (.istore 4, 2) := by decide +kernel
theorem dX10_lookFor_12 : decode cX10_lookFor 12 = .ok (.iconst 1, 1) := by decide +kernel
theorem dX10_lookFor_13 : decode cX10_lookFor 13 = .ok (.istore 5, 2) := by decide +kernel
theorem dX10_lookFor_15 : decode cX10_lookFor 15 = .ok (.iload 5, 2) := by decide +kernel
theorem dX10_lookFor_17 : decode cX10_lookFor 17 = .ok (.bipush 9, 2) := by decide +kernel
theorem dX10_lookFor_19 : decode cX10_lookFor 19 = .ok (.if_icmp .gt 53, 3) := by decide +kernel
theorem dX10_lookFor_22 : decode cX10_lookFor 22 = .ok (.iload_n 2, 1) := by decide +kernel
theorem dX10_lookFor_23 : decode cX10_lookFor 23 = .ok (.ifCond .eq 49, 3) := by decide +kernel
theorem dX10_lookFor_26 : decode cX10_lookFor 26 = .ok (.aload_n 0, 1) := by decide +kernel
theorem dX10_lookFor_27 : decode cX10_lookFor 27 = .ok (.iload_n 1, 1) := by decide +kernel
theorem dX10_lookFor_28 : decode cX10_lookFor 28 = .ok (.iload_n 2, 1) := by decide +kernel
theorem dX10_lookFor_29 : decode cX10_lookFor 29 = .ok (.iload 5, 2) := by decide +kernel
theorem dX10_lookFor_31 : decode cX10_lookFor 31 = .ok (.invokevirtual 240, 3) := by decide +kernel
theorem dX10_lookFor_34 : decode cX10_lookFor 34 = .ok (.istore 6, 2) := by decide +kernel
theorem dX10_lookFor_36 : decode cX10_lookFor 36 = .ok (.iload 6, 2) := by decide +kernel
theorem dX10_lookFor_38 : decode cX10_lookFor 38 = .ok (.iload 4, 2) := by decide +kernel
theorem dX10_lookFor_40 : decode cX10_lookFor 40 = .ok (.if_icmp .ge 8, 3) := by decide +kernel
theorem dX10_lookFor_43 : decode cX10_lookFor 43 = .ok (.iload 5, 2) := by decide +kernel
theorem dX10_lookFor_45 : decode cX10_lookFor 45 = .ok (.goto 4, 3) := by decide +kernel
theorem dX10_lookFor_48 : decode cX10_lookFor 48 = .ok (.iload_n 3, 1) := by decide +kernel
theorem dX10_lookFor_49 : decode cX10_lookFor 49 = .ok (.istore_n 3, 1) := by decide +kernel
theorem dX10_lookFor_50 : decode cX10_lookFor 50 = .ok (.iload 6, 2) := by decide +kernel
theorem dX10_lookFor_52 : decode cX10_lookFor 52 = .ok (.iload 4, 2) := by decide +kernel
theorem dX10_lookFor_54 : decode cX10_lookFor 54 = .ok (.if_icmp .ge 8, 3) := by decide +kernel
theorem dX10_lookFor_57 : decode cX10_lookFor 57 = .ok (.iload 6, 2) := by decide +kernel
theorem dX10_lookFor_59 : decode cX10_lookFor 59 = .ok (.goto 5, 3) := by decide +kernel
theorem dX10_lookFor_62 : decode cX10_lookFor 62 = .ok (.iload 4, 2) := by decide +kernel
theorem dX10_lookFor_64 : decode cX10_lookFor 64 = .ok (.istore 4, 2) := by decide +kernel
theorem dX10_lookFor_66 : decode cX10_lookFor 66 = .ok (.iinc 5 1, 3) := by decide +kernel
theorem dX10_lookFor_69 : decode cX10_lookFor 69 = .ok (.goto (-54), 3) := by decide +kernel
theorem dX10_lookFor_72 : decode cX10_lookFor 72 = .ok (.iload_n 3, 1) := by decide +kernel
theorem dX10_lookFor_73 : decode cX10_lookFor 73 = .ok (.ireturn, 1) := by decide +kernel
theorem dX10_draw_0 : decode cX10_draw 0 = .ok (.aload_n 0, 1) := by decide +kernel
theorem dX10_draw_1 : decode cX10_draw 1 = .ok (.ldc2_w 243, 3) := by decide +kernel
theorem dX10_draw_4 : decode cX10_draw 4 = .ok (.aload_n 0, 1) := by decide +kernel
theorem dX10_draw_5 : decode cX10_draw 5 = .ok (.getfield 245, 3) := by decide +kernel
theorem dX10_draw_8 : decode cX10_draw 8 = .ok (.lmul, 1) := by decide +kernel
theorem dX10_draw_9 : decode cX10_draw 9 = .ok (.ldc2_w 249, 3) := by decide +kernel
theorem dX10_draw_12 : decode cX10_draw 12 = .ok (.ladd, 1) := by decide +kernel
theorem dX10_draw_13 : decode cX10_draw 13 = .ok (.ldc2_w 251, 3) := by decide +kernel
theorem dX10_draw_16 : decode cX10_draw 16 = .ok (.land, 1) := by decide +kernel
theorem dX10_draw_17 : decode cX10_draw 17 = .ok (.putfield 245, 3) := by decide +kernel
theorem dX10_draw_20 : decode cX10_draw 20 = .ok (.aload_n 0, 1) := by decide +kernel
theorem dX10_draw_21 : decode cX10_draw 21 = .ok (.getfield 245, 3) := by decide +kernel
theorem dX10_draw_24 : decode cX10_draw 24 = .ok (.ldc2_w 253, 3) := by decide +kernel
theorem dX10_draw_27 : decode cX10_draw 27 = .ok (.ldiv, 1) := by decide +kernel
theorem dX10_draw_28 : decode cX10_draw 28 = .ok (.iload_n 1, 1) := by decide +kernel
theorem dX10_draw_29 : decode cX10_draw 29 = .ok (.i2l, 1) := by decide +kernel
theorem dX10_draw_30 : decode cX10_draw 30 = .ok (.lrem, 1) := by decide +kernel
theorem dX10_draw_31 : decode cX10_draw 31 = .ok (.l2i, 1) := by decide +kernel
theorem dX10_draw_32 : decode cX10_draw 32 = .ok (.ireturn, 1) := by decide +kernel
theorem dX10_agesNow_0 : decode cX10_agesNow 0 = .ok (.aload_n 0, 1) := by decide +kernel
theorem dX10_agesNow_1 : decode cX10_agesNow 1 = .ok (.invokevirtual 180, 3) := by decide +kernel
theorem dX10_agesNow_4 : decode cX10_agesNow 4 = .ok (.aload_n 0, 1) := by decide +kernel
theorem dX10_agesNow_5 : decode cX10_agesNow 5 = .ok (.iload_n 2, 1) := by decide +kernel
theorem dX10_agesNow_6 : decode cX10_agesNow 6 = .ok (.i2l, 1) := by decide +kernel
theorem dX10_agesNow_7 : decode cX10_agesNow 7 = .ok (.putfield 245, 3) := by decide +kernel
theorem dX10_agesNow_10 : decode cX10_agesNow 10 = .ok (.iconst 0, 1) := by decide +kernel
theorem dX10_agesNow_11 : decode cX10_agesNow 11 = .ok (.istore 4, 2) := by decide +kernel
theorem dX10_agesNow_13 : decode cX10_agesNow 13 = .ok (.iconst 0, 1) := by decide +kernel
theorem dX10_agesNow_14 : decode cX10_agesNow 14 = .ok (.istore 5, 2) := by decide +kernel
theorem dX10_agesNow_16 : decode cX10_agesNow 16 = .ok (.iload 5, 2) := by decide +kernel
theorem dX10_agesNow_18 : decode cX10_agesNow 18 = .ok (.iload_n 1, 1) := by decide +kernel
theorem dX10_agesNow_19 : decode cX10_agesNow 19 = .ok (.if_icmp .ge 70, 3) := by decide +kernel
theorem dX10_agesNow_22 : decode cX10_agesNow 22 = .ok (.aload_n 0, 1) := by decide +kernel
theorem dX10_agesNow_23 : decode cX10_agesNow 23 = .ok (.aload_n 0, 1) := by decide +kernel
theorem dX10_agesNow_24 : decode cX10_agesNow 24 = .ok (.getfield 101, 3) := by decide +kernel
theorem dX10_agesNow_27 : decode cX10_agesNow 27 = .ok (.invokevirtual 255, 3) := by decide +kernel
theorem dX10_agesNow_30 : decode cX10_agesNow 30 = .ok (.istore 6, 2) := by decide +kernel
theorem dX10_agesNow_32 : decode cX10_agesNow 32 = .ok (.aload_n 0, 1) := by decide +kernel
theorem dX10_agesNow_33 : decode cX10_agesNow 33 = .ok (.iconst 2, 1) := by decide +kernel
theorem dX10_agesNow_34 : decode cX10_agesNow 34 = .ok (.invokevirtual 255, 3) := by decide +kernel
theorem dX10_agesNow_37 : decode cX10_agesNow 37 = .ok (.ifCond .ne 12, 3) := by decide +kernel
theorem dX10_agesNow_40 : decode cX10_agesNow 40 = .ok (.aload_n 0, 1) := by decide +kernel
theorem dX10_agesNow_41 : decode cX10_agesNow 41 = .ok (.iload 6, 2) := by decide +kernel
theorem dX10_agesNow_43 : decode cX10_agesNow 43 = .ok (.invokevirtual 164, 3) := by decide +kernel
theorem dX10_agesNow_46 : decode cX10_agesNow 46 = .ok (.goto 18, 3) := by decide +kernel
theorem dX10_agesNow_49 : decode cX10_agesNow 49 = .ok (.aload_n 0, 1) := by decide +kernel
theorem dX10_agesNow_50 : decode cX10_agesNow 50 = .ok (.iload 6, 2) := by decide +kernel
theorem dX10_agesNow_52 : decode cX10_agesNow 52 = .ok (.invokevirtual 168, 3) := by decide +kernel
theorem dX10_agesNow_55 : decode cX10_agesNow 55 = .ok (.ifCond .eq 9, 3) := by decide +kernel
theorem dX10_agesNow_58 : decode cX10_agesNow 58 = .ok (.aload_n 0, 1) := by decide +kernel
theorem dX10_agesNow_59 : decode cX10_agesNow 59 = .ok (.iload 6, 2) := by decide +kernel
theorem dX10_agesNow_61 : decode cX10_agesNow 61 = .ok (.invokevirtual 171, 3) := by decide +kernel
theorem dX10_agesNow_64 : decode cX10_agesNow 64 = .ok (.aload_n 0, 1) := by decide +kernel
theorem dX10_agesNow_65 : decode cX10_agesNow 65 = .ok (.invokevirtual 158, 3) := by decide +kernel
theorem dX10_agesNow_68 : decode cX10_agesNow 68 = .ok (.iload 4, 2) := by decide +kernel
theorem dX10_agesNow_70 : decode cX10_agesNow 70 = .ok (.aload_n 0, 1) := by decide +kernel
theorem dX10_agesNow_71 : decode cX10_agesNow 71 = .ok (.aload_n 0, 1) := by decide +kernel
theorem dX10_agesNow_72 : decode cX10_agesNow 72 = .ok (.bipush 16, 2) := by decide +kernel
theorem dX10_agesNow_74 : decode cX10_agesNow 74 = .ok (.invokevirtual 255, 3) := by decide +kernel
theorem dX10_agesNow_77 : decode cX10_agesNow 77 = .ok (.invokevirtual 161, 3) := by decide +kernel
theorem dX10_agesNow_80 : decode cX10_agesNow 80 = .ok (.iadd, 1) := by decide +kernel
theorem dX10_agesNow_81 : decode cX10_agesNow 81 = .ok (.istore 4, 2) := by decide +kernel
theorem dX10_agesNow_83 : decode cX10_agesNow 83 = .ok (.iinc 5 1, 3) := by decide +kernel
theorem dX10_agesNow_86 : decode cX10_agesNow 86 = .ok (.goto (-70), 3) := by decide +kernel
theorem dX10_agesNow_89 : decode cX10_agesNow 89 = .ok (.aload_n 0, 1) := by decide +kernel
theorem dX10_agesNow_90 : decode cX10_agesNow 90 = .ok (.invokevirtual 196, 3) := by decide +kernel
theorem dX10_agesNow_93 : decode cX10_agesNow 93 = .ok (.istore 5, 2) := by decide +kernel
theorem dX10_agesNow_95 : decode cX10_agesNow 95 = .ok (.aload_n 0, 1) := by decide +kernel
theorem dX10_agesNow_96 : decode cX10_agesNow 96 = .ok (.invokevirtual 183, 3) := by decide +kernel
theorem dX10_agesNow_99 : decode cX10_agesNow 99 = .ok (.iload_n 3, 1) := by decide +kernel
theorem dX10_agesNow_100 : decode cX10_agesNow 100 = .ok (.ifCond .ne 8, 3) := by decide +kernel
theorem dX10_agesNow_103 : decode cX10_agesNow 103 = .ok (.iload 4, 2) := by decide +kernel
theorem dX10_agesNow_105 : decode cX10_agesNow 105 = .ok (.goto 18, 3) := by decide +kernel
theorem dX10_agesNow_108 : decode cX10_agesNow 108 = .ok (.iload_n 3, 1) := by decide +kernel
theorem dX10_agesNow_109 : decode cX10_agesNow 109 = .ok (.iconst 1, 1) := by decide +kernel
theorem dX10_agesNow_110 : decode cX10_agesNow 110 = .ok (.if_icmp .ne 8, 3) := by decide +kernel
theorem dX10_agesNow_113 : decode cX10_agesNow 113 = .ok (.iload 5, 2) := by decide +kernel
theorem dX10_agesNow_115 : decode cX10_agesNow 115 = .ok (.goto 8, 3) := by decide +kernel
theorem dX10_agesNow_118 : decode cX10_agesNow 118 = .ok (.aload_n 0, 1) := by decide +kernel
theorem dX10_agesNow_119 : decode cX10_agesNow 119 = .ok (.getfield 245, 3) := by decide +kernel
theorem dX10_agesNow_122 : decode cX10_agesNow 122 = .ok (.l2i, 1) := by decide +kernel
theorem dX10_agesNow_123 : decode cX10_agesNow 123 = .ok (.ireturn, 1) := by decide +kernel
theorem dX10_ages_0 : decode cX10_ages 0 = .ok (.iload_n 1, 1) := by decide +kernel
theorem dX10_ages_1 : decode cX10_ages 1 = .ok (.iconst 1, 1) := by decide +kernel
theorem dX10_ages_2 : decode cX10_ages 2 = .ok (.bipush 60, 2) := by decide +kernel
theorem dX10_ages_4 : decode cX10_ages 4 = .ok (.invokestatic 71, 3) := by decide +kernel
theorem dX10_ages_7 : decode cX10_ages 7 = .ok (.ifCond .eq 16, 3) := by decide +kernel
theorem dX10_ages_10 : decode cX10_ages 10 = .ok (.iload_n 2, 1) := by decide +kernel
theorem dX10_ages_11 : decode cX10_ages 11 = .ok (.ifCond .lt 12, 3) := by decide +kernel
theorem dX10_ages_14 : decode cX10_ages 14 = .ok (.iload_n 3, 1) := by decide +kernel
theorem dX10_ages_15 : decode cX10_ages 15 = .ok (.iconst 0, 1) := by decide +kernel
theorem dX10_ages_16 : decode cX10_ages 16 = .ok (.iconst 2, 1) := by decide +kernel
theorem dX10_ages_17 : decode cX10_ages 17 = .ok (.invokestatic 71, 3) := by decide +kernel
theorem dX10_ages_20 : decode cX10_ages 20 = .ok (.ifCond .ne 6, 3) := by decide +kernel
theorem dX10_ages_23 : decode cX10_ages 23 = .ok (.bipush (-102), 2) := by decide +kernel
theorem dX10_ages_25 : decode cX10_ages 25 = .ok (.ireturn, 1) := by decide +kernel
theorem dX10_ages_26 : decode cX10_ages 26 = .ok (.aload_n 0, 1) := by decide +kernel
theorem dX10_ages_27 : decode cX10_ages 27 = .ok (.getfield 101, 3) := by decide +kernel
theorem dX10_ages_30 : decode cX10_ages 30 = .ok (.ifCond .ne 8, 3) := by decide +kernel
theorem dX10_ages_33 : decode cX10_ages 33 = .ok (.bipush (-103), 2) := by decide +kernel
theorem dX10_ages_35 : decode cX10_ages 35 = .ok (.goto 10, 3) := by decide +kernel
theorem dX10_ages_38 : decode cX10_ages 38 = .ok (.aload_n 0, 1) := by decide +kernel
theorem dX10_ages_39 : decode cX10_ages 39 = .ok (.iload_n 1, 1) := by decide +kernel
theorem dX10_ages_40 : decode cX10_ages 40 = .ok (.iload_n 2, 1) := by decide +kernel
theorem dX10_ages_41 : decode cX10_ages 41 = .ok (.iload_n 3, 1) := by decide +kernel
theorem dX10_ages_42 : decode cX10_ages 42 = .ok (.invokevirtual 258, 3) := by decide +kernel
theorem dX10_ages_45 : decode cX10_ages 45 = .ok (.ireturn, 1) := by decide +kernel
theorem dX10_image_0 : decode cX10_image 0 = .ok (.aload_n 0, 1) := by decide +kernel
theorem dX10_image_1 : decode cX10_image 1 = .ok (.getfield 101, 3) := by decide +kernel
theorem dX10_image_4 : decode cX10_image 4 = .ok (.ifCond .ne 6, 3) := by decide +kernel
theorem dX10_image_7 : decode cX10_image 7 = .ok (.bipush (-103), 2) := by decide +kernel
theorem dX10_image_9 : decode cX10_image 9 = .ok (.ireturn, 1) := by decide +kernel
theorem dX10_image_10 : decode cX10_image 10 = .ok (.aload_n 0, 1) := by decide +kernel
theorem dX10_image_11 : decode cX10_image 11 = .ok (.iconst 1, 1) := by decide +kernel
theorem dX10_image_12 : decode cX10_image 12 = .ok (.putfield 261, 3) := by decide +kernel
theorem dX10_image_15 : decode cX10_image 15 = .ok (.aload_n 0, 1) := by decide +kernel
theorem dX10_image_16 : decode cX10_image 16 = .ok (.aload_n 0, 1) := by decide +kernel
theorem dX10_image_17 : decode cX10_image 17 = .ok (.getfield 113, 3) := by decide +kernel
theorem dX10_image_20 : decode cX10_image 20 = .ok (.putfield 264, 3) := by decide +kernel
theorem dX10_image_23 : decode cX10_image 23 = .ok (.aload_n 0, 1) := by decide +kernel
theorem dX10_image_24 : decode cX10_image 24 = .ok (.aload_n 0, 1) := by decide +kernel
theorem dX10_image_25 : decode cX10_image 25 = .ok (.getfield 104, 3) := by decide +kernel
theorem dX10_image_28 : decode cX10_image 28 = .ok (.putfield 267, 3) := by decide +kernel
theorem dX10_image_31 : decode cX10_image 31 = .ok (.aload_n 0, 1) := by decide +kernel
theorem dX10_image_32 : decode cX10_image 32 = .ok (.aload_n 0, 1) := by decide +kernel
theorem dX10_image_33 : decode cX10_image 33 = .ok (.getfield 107, 3) := by decide +kernel
theorem dX10_image_36 : decode cX10_image 36 = .ok (.putfield 270, 3) := by decide +kernel
theorem dX10_image_39 : decode cX10_image 39 = .ok (.aload_n 0, 1) := by decide +kernel
theorem dX10_image_40 : decode cX10_image 40 = .ok (.aload_n 0, 1) := by decide +kernel
theorem dX10_image_41 : decode cX10_image 41 = .ok (.getfield 110, 3) := by decide +kernel
theorem dX10_image_44 : decode cX10_image 44 = .ok (.putfield 273, 3) := by decide +kernel
theorem dX10_image_47 : decode cX10_image 47 = .ok (.aload_n 0, 1) := by decide +kernel
theorem dX10_image_48 : decode cX10_image 48 = .ok (.aload_n 0, 1) := by decide +kernel
theorem dX10_image_49 : decode cX10_image 49 = .ok (.getfield 116, 3) := by decide +kernel
theorem dX10_image_52 : decode cX10_image 52 = .ok (.putfield 276, 3) := by decide +kernel
theorem dX10_image_55 : decode cX10_image 55 = .ok (.iconst 0, 1) := by decide +kernel
theorem dX10_image_56 : decode cX10_image 56 = .ok (.istore_n 1, 1) := by decide +kernel
theorem dX10_image_57 : decode cX10_image 57 = .ok (.iload_n 1, 1) := by decide +kernel
theorem dX10_image_58 : decode cX10_image 58 = .ok (.bipush 6, 2) := by decide +kernel
theorem dX10_image_60 : decode cX10_image 60 = .ok (.if_icmp .ge 81, 3) := by decide +kernel
theorem dX10_image_63 : decode cX10_image 63 = .ok (.aload_n 0, 1) := by decide +kernel
theorem dX10_image_64 : decode cX10_image 64 = .ok (.getfield 53, 3) := by decide +kernel
theorem dX10_image_67 : decode cX10_image 67 = .ok (.iload_n 1, 1) := by decide +kernel
theorem dX10_image_68 : decode cX10_image 68 = .ok (.aload_n 0, 1) := by decide +kernel
theorem dX10_image_69 : decode cX10_image 69 = .ok (.getfield 7, 3) := by decide +kernel
theorem dX10_image_72 : decode cX10_image 72 = .ok (.iload_n 1, 1) := by decide +kernel
theorem dX10_image_73 : decode cX10_image 73 = .ok (.iaload, 1) := by decide +kernel
theorem dX10_image_74 : decode cX10_image 74 = .ok (.iastore, 1) := by decide +kernel
theorem dX10_image_75 : decode cX10_image 75 = .ok (.aload_n 0, 1) := by decide +kernel
theorem dX10_image_76 : decode cX10_image 76 = .ok (.getfield 56, 3) := by decide +kernel
theorem dX10_image_79 : decode cX10_image 79 = .ok (.iload_n 1, 1) := by decide +kernel
theorem dX10_image_80 : decode cX10_image 80 = .ok (.aload_n 0, 1) := by decide +kernel
theorem dX10_image_81 : decode cX10_image 81 = .ok (.getfield 13, 3) := by decide +kernel
theorem dX10_image_84 : decode cX10_image 84 = .ok (.iload_n 1, 1) := by decide +kernel
theorem dX10_image_85 : decode cX10_image 85 = .ok (.iaload, 1) := by decide +kernel
theorem dX10_image_86 : decode cX10_image 86 = .ok (.iastore, 1) := by decide +kernel
theorem dX10_image_87 : decode cX10_image 87 = .ok (.aload_n 0, 1) := by decide +kernel
theorem dX10_image_88 : decode cX10_image 88 = .ok (.getfield 59, 3) := by decide +kernel
theorem dX10_image_91 : decode cX10_image 91 = .ok (.iload_n 1, 1) := by decide +kernel
theorem dX10_image_92 : decode cX10_image 92 = .ok (.aload_n 0, 1) := by decide +kernel
theorem dX10_image_93 : decode cX10_image 93 = .ok (.getfield 16, 3) := by decide +kernel
theorem dX10_image_96 : decode cX10_image 96 = .ok (.iload_n 1, 1) := by decide +kernel
theorem dX10_image_97 : decode cX10_image 97 = .ok (.iaload, 1) := by decide +kernel
theorem dX10_image_98 : decode cX10_image 98 = .ok (.iastore, 1) := by decide +kernel
theorem dX10_image_99 : decode cX10_image 99 = .ok (.aload_n 0, 1) := by decide +kernel
theorem dX10_image_100 : decode cX10_image 100 = .ok (.getfield 62, 3) := by decide +kernel
theorem dX10_image_103 : decode cX10_image 103 = .ok (.iload_n 1, 1) := by decide +kernel
theorem dX10_image_104 : decode cX10_image 104 = .ok (.aload_n 0, 1) := by decide +kernel
theorem dX10_image_105 : decode cX10_image 105 = .ok (.getfield 19, 3) := by decide +kernel
theorem dX10_image_108 : decode cX10_image 108 = .ok (.iload_n 1, 1) := by decide +kernel
theorem dX10_image_109 : decode cX10_image 109 = .ok (.iaload, 1) := by decide +kernel
theorem dX10_image_110 : decode cX10_image 110 = .ok (.iastore, 1) := by decide +kernel
theorem dX10_image_111 : decode cX10_image 111 = .ok (.aload_n 0, 1) := by decide +kernel
theorem dX10_image_112 : decode cX10_image 112 = .ok (.getfield 65, 3) := by decide +kernel
theorem dX10_image_115 : decode cX10_image 115 = .ok (.iload_n 1, 1) := by decide +kernel
theorem dX10_image_116 : decode cX10_image 116 = .ok (.aload_n 0, 1) := by decide +kernel
theorem dX10_image_117 : decode cX10_image 117 = .ok (.getfield 22, 3) := by decide +kernel
theorem dX10_image_120 : decode cX10_image 120 = .ok (.iload_n 1, 1) := by decide +kernel
theorem dX10_image_121 : decode cX10_image 121 = .ok (.iaload, 1) := by decide +kernel
theorem dX10_image_122 : decode cX10_image 122 = .ok (.iastore, 1) := by decide +kernel
theorem dX10_image_123 : decode cX10_image 123 = .ok (.aload_n 0, 1) := by decide +kernel
theorem dX10_image_124 : decode cX10_image 124 = .ok (.getfield 68, 3) := by decide +kernel
theorem dX10_image_127 : decode cX10_image 127 = .ok (.iload_n 1, 1) := by decide +kernel
theorem dX10_image_128 : decode cX10_image 128 = .ok (.aload_n 0, 1) := by decide +kernel
theorem dX10_image_129 : decode cX10_image 129 = .ok (.getfield 25, 3) := by decide +kernel
theorem dX10_image_132 : decode cX10_image 132 = .ok (.iload_n 1, 1) := by decide +kernel
theorem dX10_image_133 : decode cX10_image 133 = .ok (.iaload, 1) := by decide +kernel
theorem dX10_image_134 : decode cX10_image 134 = .ok (.iastore, 1) := by decide +kernel
theorem dX10_image_135 : decode cX10_image 135 = .ok (.iinc 1 1, 3) := by decide +kernel
theorem dX10_image_138 : decode cX10_image 138 = .ok (.goto (-81), 3) := by decide +kernel
theorem dX10_image_141 : decode cX10_image 141 = .ok (.aload_n 0, 1) := by decide +kernel
theorem dX10_image_142 : decode cX10_image 142 = .ok (.getfield 107, 3) := by decide +kernel
theorem dX10_image_145 : decode cX10_image 145 = .ok (.ireturn, 1) := by decide +kernel
theorem dX10_restore_0 : decode cX10_restore 0 = .ok (.aload_n 0, 1) := by decide +kernel
theorem dX10_restore_1 : decode cX10_restore 1 = .ok (.getfield 261, 3) := by decide +kernel
theorem dX10_restore_4 : decode cX10_restore 4 = .ok (.ifCond .eq 14, 3) := by decide +kernel
theorem dX10_restore_7 : decode cX10_restore 7 = .ok (.aload_n 0, 1) := by decide +kernel
theorem dX10_restore_8 : decode cX10_restore 8 = .ok (.getfield 264, 3) := by decide +kernel
theorem dX10_restore_11 : decode cX10_restore 11 = .ok (.aload_n 0, 1) := by decide +kernel
theorem dX10_restore_12 : decode cX10_restore 12 = .ok (.getfield 113, 3) := by decide +kernel
theorem dX10_restore_15 : decode cX10_restore 15 = .ok (.if_icmp .eq 6, 3) := by decide +kernel
theorem dX10_restore_18 : decode cX10_restore 18 = .ok (.bipush (-103), 2) := by decide +kernel
theorem dX10_restore_20 : decode cX10_restore 20 = .ok (.ireturn, 1) := by decide +kernel
theorem dX10_restore_21 : decode cX10_restore 21 = .ok (.aload_n 0, 1) := by decide +kernel
theorem dX10_restore_22 : decode cX10_restore 22 = .ok (.aload_n 0, 1) := by decide +kernel
theorem dX10_restore_23 : decode cX10_restore 23 = .ok (.getfield 267, 3) := by decide +kernel
theorem dX10_restore_26 : decode cX10_restore 26 = .ok (.putfield 104, 3) := by decide +kernel
theorem dX10_restore_29 : decode cX10_restore 29 = .ok (.aload_n 0, 1) := by decide +kernel
theorem dX10_restore_30 : decode cX10_restore 30 = .ok (.aload_n 0, 1) := by decide +kernel
theorem dX10_restore_31 : decode cX10_restore 31 = .ok (.getfield 270, 3) := by decide +kernel
theorem dX10_restore_34 : decode cX10_restore 34 = .ok (.putfield 107, 3) := by decide +kernel
theorem dX10_restore_37 : decode cX10_restore 37 = .ok (.aload_n 0, 1) := by decide +kernel
theorem dX10_restore_38 : decode cX10_restore 38 = .ok (.aload_n 0, 1) := by decide +kernel
theorem dX10_restore_39 : decode cX10_restore 39 = .ok (.getfield 273, 3) := by decide +kernel
theorem dX10_restore_42 : decode cX10_restore 42 = .ok (.putfield 110, 3) := by decide +kernel
theorem dX10_restore_45 : decode cX10_restore 45 = .ok (.aload_n 0, 1) := by decide +kernel
theorem dX10_restore_46 : decode cX10_restore 46 = .ok (.aload_n 0, 1) := by decide +kernel
theorem dX10_restore_47 : decode cX10_restore 47 = .ok (.getfield 276, 3) := by decide +kernel
theorem dX10_restore_50 : decode cX10_restore 50 = .ok (.putfield 116, 3) := by decide +kernel
theorem dX10_restore_53 : decode cX10_restore 53 = .ok (.iconst 0, 1) := by decide +kernel
theorem dX10_restore_54 : decode cX10_restore 54 = .ok (.istore_n 1, 1) := by decide +kernel
theorem dX10_restore_55 : decode cX10_restore 55 = .ok (.iload_n 1, 1) := by decide +kernel
theorem dX10_restore_56 : decode cX10_restore 56 = .ok (.bipush 6, 2) := by decide +kernel
theorem dX10_restore_58 : decode cX10_restore 58 = .ok (.if_icmp .ge 81, 3) := by decide +kernel
theorem dX10_restore_61 : decode cX10_restore 61 = .ok (.aload_n 0, 1) := by decide +kernel
theorem dX10_restore_62 : decode cX10_restore 62 = .ok (.getfield 7, 3) := by decide +kernel
theorem dX10_restore_65 : decode cX10_restore 65 = .ok (.iload_n 1, 1) := by decide +kernel
theorem dX10_restore_66 : decode cX10_restore 66 = .ok (.aload_n 0, 1) := by decide +kernel
theorem dX10_restore_67 : decode cX10_restore 67 = .ok (.getfield 53, 3) := by decide +kernel
theorem dX10_restore_70 : decode cX10_restore 70 = .ok (.iload_n 1, 1) := by decide +kernel
theorem dX10_restore_71 : decode cX10_restore 71 = .ok (.iaload, 1) := by decide +kernel
theorem dX10_restore_72 : decode cX10_restore 72 = .ok (.iastore, 1) := by decide +kernel
theorem dX10_restore_73 : decode cX10_restore 73 = .ok (.aload_n 0, 1) := by decide +kernel
theorem dX10_restore_74 : decode cX10_restore 74 = .ok (.getfield 13, 3) := by decide +kernel
theorem dX10_restore_77 : decode cX10_restore 77 = .ok (.iload_n 1, 1) := by decide +kernel
theorem dX10_restore_78 : decode cX10_restore 78 = .ok (.aload_n 0, 1) := by decide +kernel
theorem dX10_restore_79 : decode cX10_restore 79 = .ok (.getfield 56, 3) := by decide +kernel
theorem dX10_restore_82 : decode cX10_restore 82 = .ok (.iload_n 1, 1) := by decide +kernel
theorem dX10_restore_83 : decode cX10_restore 83 = .ok (.iaload, 1) := by decide +kernel
theorem dX10_restore_84 : decode cX10_restore 84 = .ok (.iastore, 1) := by decide +kernel
theorem dX10_restore_85 : decode cX10_restore 85 = .ok (.aload_n 0, 1) := by decide +kernel
theorem dX10_restore_86 : decode cX10_restore 86 = .ok (.getfield 16, 3) := by decide +kernel
theorem dX10_restore_89 : decode cX10_restore 89 = .ok (.iload_n 1, 1) := by decide +kernel
theorem dX10_restore_90 : decode cX10_restore 90 = .ok (.aload_n 0, 1) := by decide +kernel
theorem dX10_restore_91 : decode cX10_restore 91 = .ok (.getfield 59, 3) := by decide +kernel
theorem dX10_restore_94 : decode cX10_restore 94 = .ok (.iload_n 1, 1) := by decide +kernel
theorem dX10_restore_95 : decode cX10_restore 95 = .ok (.iaload, 1) := by decide +kernel
theorem dX10_restore_96 : decode cX10_restore 96 = .ok (.iastore, 1) := by decide +kernel
theorem dX10_restore_97 : decode cX10_restore 97 = .ok (.aload_n 0, 1) := by decide +kernel
end
section
theorem dX10_restore_98 : decode cX10_restore 98 = .ok (.getfield 19, 3) := by decide +kernel
theorem dX10_restore_101 : decode cX10_restore 101 = .ok (.iload_n 1, 1) := by decide +kernel
theorem dX10_restore_102 : decode cX10_restore 102 = .ok (.aload_n 0, 1) := by decide +kernel
theorem dX10_restore_103 : decode cX10_restore 103 = .ok (.getfield 62, 3) := by decide +kernel
theorem dX10_restore_106 : decode cX10_restore 106 = .ok (.iload_n 1, 1) := by decide +kernel
theorem dX10_restore_107 : decode cX10_restore 107 = .ok (.iaload, 1) := by decide +kernel
theorem dX10_restore_108 : decode cX10_restore 108 = .ok (.iastore, 1) := by decide +kernel
theorem dX10_restore_109 : decode cX10_restore 109 = .ok (.aload_n 0, 1) := by decide +kernel
theorem dX10_restore_110 : decode cX10_restore 110 = .ok (.getfield 22, 3) := by decide +kernel
theorem dX10_restore_113 : decode cX10_restore 113 = .ok (.iload_n 1, 1) := by decide +kernel
theorem dX10_restore_114 : decode cX10_restore 114 = .ok (.aload_n 0, 1) := by decide +kernel
theorem dX10_restore_115 : decode cX10_restore 115 = .ok (.getfield 65, 3) := by decide +kernel
theorem dX10_restore_118 : decode cX10_restore 118 = .ok (.iload_n 1, 1) := by decide +kernel
theorem dX10_restore_119 : decode cX10_restore 119 = .ok (.iaload, 1) := by decide +kernel
theorem dX10_restore_120 : decode cX10_restore 120 = .ok (.iastore, 1) := by decide +kernel
theorem dX10_restore_121 : decode cX10_restore 121 = .ok (.aload_n 0, 1) := by decide +kernel
theorem dX10_restore_122 : decode cX10_restore 122 = .ok (.getfield 25, 3) := by decide +kernel
theorem dX10_restore_125 : decode cX10_restore 125 = .ok (.iload_n 1, 1) := by decide +kernel
theorem dX10_restore_126 : decode cX10_restore 126 = .ok (.aload_n 0, 1) := by decide +kernel
theorem dX10_restore_127 : decode cX10_restore 127 = .ok (.getfield 68, 3) := by decide +kernel
theorem dX10_restore_130 : decode cX10_restore 130 = .ok (.iload_n 1, 1) := by decide +kernel
theorem dX10_restore_131 : decode cX10_restore 131 = .ok (.iaload, 1) := by decide +kernel
theorem dX10_restore_132 : decode cX10_restore 132 = .ok (.iastore, 1) := by decide +kernel
theorem dX10_restore_133 : decode cX10_restore 133 = .ok (.iinc 1 1, 3) := by decide +kernel
theorem dX10_restore_136 : decode cX10_restore 136 = .ok (.goto (-81), 3) := by decide +kernel
theorem dX10_restore_139 : decode cX10_restore 139 = .ok (.aload_n 0, 1) := by decide +kernel
theorem dX10_restore_140 : decode cX10_restore 140 = .ok (.getfield 107, 3) := by decide +kernel
theorem dX10_restore_143 : decode cX10_restore 143 = .ok (.ireturn, 1) := by decide +kernel
theorem dX10_worryAll_0 : decode cX10_worryAll 0 = .ok (.iconst 0, 1) := by decide +kernel
theorem dX10_worryAll_1 : decode cX10_worryAll 1 = .ok (.istore_n 1, 1) := by decide +kernel
theorem dX10_worryAll_2 : decode cX10_worryAll 2 = .ok (.iconst 0, 1) := by decide +kernel
theorem dX10_worryAll_3 : decode cX10_worryAll 3 = .ok (.istore_n 2, 1) := by decide +kernel
theorem dX10_worryAll_4 : decode cX10_worryAll 4 = .ok (.iload_n 2, 1) := by decide +kernel
theorem dX10_worryAll_5 : decode cX10_worryAll 5 = .ok (.aload_n 0, 1) := by decide +kernel
theorem dX10_worryAll_6 : decode cX10_worryAll 6 = .ok (.getfield 101, 3) := by decide +kernel
theorem dX10_worryAll_9 : decode cX10_worryAll 9 = .ok (.if_icmp .ge 18, 3) := by decide +kernel
theorem dX10_worryAll_12 : decode cX10_worryAll 12 = .ok (.iload_n 1, 1) := by decide +kernel
theorem dX10_worryAll_13 : decode cX10_worryAll 13 = .ok (.aload_n 0, 1) := by decide +kernel
theorem dX10_worryAll_14 : decode cX10_worryAll 14 = .ok (.getfield 16, 3) := by decide +kernel
theorem dX10_worryAll_17 : decode cX10_worryAll 17 = .ok (.iload_n 2, 1) := by decide +kernel
theorem dX10_worryAll_18 : decode cX10_worryAll 18 = .ok (.iaload, 1) := by decide +kernel
theorem dX10_worryAll_19 : decode cX10_worryAll 19 = .ok (.iadd, 1) := by decide +kernel
theorem dX10_worryAll_20 : decode cX10_worryAll 20 = .ok (.istore_n 1, 1) := by decide +kernel
theorem dX10_worryAll_21 : decode cX10_worryAll 21 = .ok (.iinc 2 1, 3) := by decide +kernel
theorem dX10_worryAll_24 : decode cX10_worryAll 24 = .ok (.goto (-20), 3) := by decide +kernel
theorem dX10_worryAll_27 : decode cX10_worryAll 27 = .ok (.iload_n 1, 1) := by decide +kernel
theorem dX10_worryAll_28 : decode cX10_worryAll 28 = .ok (.ireturn, 1) := by decide +kernel
theorem dX10_thick_0 : decode cX10_thick 0 = .ok (.iconst 0, 1) := by decide +kernel
theorem dX10_thick_1 : decode cX10_thick 1 = .ok (.istore_n 1, 1) := by decide +kernel
theorem dX10_thick_2 : decode cX10_thick 2 = .ok (.iconst 0, 1) := by decide +kernel
theorem dX10_thick_3 : decode cX10_thick 3 = .ok (.istore_n 2, 1) := by decide +kernel
theorem dX10_thick_4 : decode cX10_thick 4 = .ok (.iload_n 2, 1) := by decide +kernel
theorem dX10_thick_5 : decode cX10_thick 5 = .ok (.aload_n 0, 1) := by decide +kernel
theorem dX10_thick_6 : decode cX10_thick 6 = .ok (.getfield 101, 3) := by decide +kernel
theorem dX10_thick_9 : decode cX10_thick 9 = .ok (.if_icmp .ge 28, 3) := by decide +kernel
theorem dX10_thick_12 : decode cX10_thick 12 = .ok (.iload_n 1, 1) := by decide +kernel
theorem dX10_thick_13 : decode cX10_thick 13 = .ok (.aload_n 0, 1) := by decide +kernel
theorem dX10_thick_14 : decode cX10_thick 14 = .ok (.getfield 13, 3) := by decide +kernel
theorem dX10_thick_17 : decode cX10_thick 17 = .ok (.iload_n 2, 1) := by decide +kernel
theorem dX10_thick_18 : decode cX10_thick 18 = .ok (.iaload, 1) := by decide +kernel
theorem dX10_thick_19 : decode cX10_thick 19 = .ok (.bipush 10, 2) := by decide +kernel
theorem dX10_thick_21 : decode cX10_thick 21 = .ok (.if_icmp .lt 7, 3) := by decide +kernel
theorem dX10_thick_24 : decode cX10_thick 24 = .ok (.iconst 1, 1) := by decide +kernel
theorem dX10_thick_25 : decode cX10_thick 25 = .ok (.goto 4, 3) := by decide +kernel
theorem dX10_thick_28 : decode cX10_thick 28 = .ok (.iconst 0, 1) := by decide +kernel
theorem dX10_thick_29 : decode cX10_thick 29 = .ok (.iadd, 1) := by decide +kernel
theorem dX10_thick_30 : decode cX10_thick 30 = .ok (.istore_n 1, 1) := by decide +kernel
theorem dX10_thick_31 : decode cX10_thick 31 = .ok (.iinc 2 1, 3) := by decide +kernel
theorem dX10_thick_34 : decode cX10_thick 34 = .ok (.goto (-30), 3) := by decide +kernel
theorem dX10_thick_37 : decode cX10_thick 37 = .ok (.iload_n 1, 1) := by decide +kernel
theorem dX10_thick_38 : decode cX10_thick 38 = .ok (.ireturn, 1) := by decide +kernel
theorem dX10_howMany_0 : decode cX10_howMany 0 = .ok (.iload_n 1, 1) := by decide +kernel
theorem dX10_howMany_1 : decode cX10_howMany 1 = .ok (.tableswitch 108 0 9 #[55, 60, 65, 70, 78, 83, 88, 93, 98, 103], 55) := by decide +kernel
theorem dX10_howMany_56 : decode cX10_howMany 56 = .ok (.aload_n 0, 1) := by decide +kernel
theorem dX10_howMany_57 : decode cX10_howMany 57 = .ok (.getfield 101, 3) := by decide +kernel
theorem dX10_howMany_60 : decode cX10_howMany 60 = .ok (.ireturn, 1) := by decide +kernel
theorem dX10_howMany_61 : decode cX10_howMany 61 = .ok (.aload_n 0, 1) := by decide +kernel
theorem dX10_howMany_62 : decode cX10_howMany 62 = .ok (.invokevirtual 196, 3) := by decide +kernel
theorem dX10_howMany_65 : decode cX10_howMany 65 = .ok (.ireturn, 1) := by decide +kernel
theorem dX10_howMany_66 : decode cX10_howMany 66 = .ok (.aload_n 0, 1) := by decide +kernel
theorem dX10_howMany_67 : decode cX10_howMany 67 = .ok (.invokevirtual 279, 3) := by decide +kernel
theorem dX10_howMany_70 : decode cX10_howMany 70 = .ok (.ireturn, 1) := by decide +kernel
theorem dX10_howMany_71 : decode cX10_howMany 71 = .ok (.aload_n 0, 1) := by decide +kernel
theorem dX10_howMany_72 : decode cX10_howMany 72 = .ok (.getfield 104, 3) := by decide +kernel
theorem dX10_howMany_75 : decode cX10_howMany 75 = .ok (.invokestatic 140, 3) := by decide +kernel
theorem dX10_howMany_78 : decode cX10_howMany 78 = .ok (.ireturn, 1) := by decide +kernel
theorem dX10_howMany_79 : decode cX10_howMany 79 = .ok (.aload_n 0, 1) := by decide +kernel
theorem dX10_howMany_80 : decode cX10_howMany 80 = .ok (.invokevirtual 282, 3) := by decide +kernel
theorem dX10_howMany_83 : decode cX10_howMany 83 = .ok (.ireturn, 1) := by decide +kernel
theorem dX10_howMany_84 : decode cX10_howMany 84 = .ok (.aload_n 0, 1) := by decide +kernel
theorem dX10_howMany_85 : decode cX10_howMany 85 = .ok (.getfield 107, 3) := by decide +kernel
theorem dX10_howMany_88 : decode cX10_howMany 88 = .ok (.ireturn, 1) := by decide +kernel
theorem dX10_howMany_89 : decode cX10_howMany 89 = .ok (.aload_n 0, 1) := by decide +kernel
theorem dX10_howMany_90 : decode cX10_howMany 90 = .ok (.getfield 110, 3) := by decide +kernel
theorem dX10_howMany_93 : decode cX10_howMany 93 = .ok (.ireturn, 1) := by decide +kernel
theorem dX10_howMany_94 : decode cX10_howMany 94 = .ok (.aload_n 0, 1) := by decide +kernel
theorem dX10_howMany_95 : decode cX10_howMany 95 = .ok (.getfield 116, 3) := by decide +kernel
theorem dX10_howMany_98 : decode cX10_howMany 98 = .ok (.ireturn, 1) := by decide +kernel
theorem dX10_howMany_99 : decode cX10_howMany 99 = .ok (.aload_n 0, 1) := by decide +kernel
theorem dX10_howMany_100 : decode cX10_howMany 100 = .ok (.getfield 75, 3) := by decide +kernel
theorem dX10_howMany_103 : decode cX10_howMany 103 = .ok (.ireturn, 1) := by decide +kernel
theorem dX10_howMany_104 : decode cX10_howMany 104 = .ok (.aload_n 0, 1) := by decide +kernel
theorem dX10_howMany_105 : decode cX10_howMany 105 = .ok (.getfield 113, 3) := by decide +kernel
theorem dX10_howMany_108 : decode cX10_howMany 108 = .ok (.ireturn, 1) := by decide +kernel
theorem dX10_howMany_109 : decode cX10_howMany 109 = .ok (.bipush (-102), 2) := by decide +kernel
theorem dX10_howMany_111 : decode cX10_howMany 111 = .ok (.ireturn, 1) := by decide +kernel
theorem dX10_count_0 : decode cX10_count 0 = .ok (.aload_n 0, 1) := by decide +kernel
theorem dX10_count_1 : decode cX10_count 1 = .ok (.iload_n 1, 1) := by decide +kernel
theorem dX10_count_2 : decode cX10_count 2 = .ok (.invokevirtual 285, 3) := by decide +kernel
theorem dX10_count_5 : decode cX10_count 5 = .ok (.ireturn, 1) := by decide +kernel
theorem dX10_mix_0 : decode cX10_mix 0 = .ok (.aload_n 0, 1) := by decide +kernel
theorem dX10_mix_1 : decode cX10_mix 1 = .ok (.ldc2_w 288, 3) := by decide +kernel
theorem dX10_mix_4 : decode cX10_mix 4 = .ok (.aload_n 0, 1) := by decide +kernel
theorem dX10_mix_5 : decode cX10_mix 5 = .ok (.getfield 290, 3) := by decide +kernel
theorem dX10_mix_8 : decode cX10_mix 8 = .ok (.lmul, 1) := by decide +kernel
theorem dX10_mix_9 : decode cX10_mix 9 = .ok (.lload_n 1, 1) := by decide +kernel
theorem dX10_mix_10 : decode cX10_mix 10 = .ok (.ladd, 1) := by decide +kernel
theorem dX10_mix_11 : decode cX10_mix 11 = .ok (.putfield 290, 3) := by decide +kernel
theorem dX10_mix_14 : decode cX10_mix 14 = .ok (.return_, 1) := by decide +kernel
theorem dX10_mixHouse_0 : decode cX10_mixHouse 0 = .ok (.iconst 0, 1) := by decide +kernel
theorem dX10_mixHouse_1 : decode cX10_mixHouse 1 = .ok (.istore_n 2, 1) := by decide +kernel
theorem dX10_mixHouse_2 : decode cX10_mixHouse 2 = .ok (.iload_n 2, 1) := by decide +kernel
theorem dX10_mixHouse_3 : decode cX10_mixHouse 3 = .ok (.bipush 7, 2) := by decide +kernel
theorem dX10_mixHouse_5 : decode cX10_mixHouse 5 = .ok (.if_icmp .ge 20, 3) := by decide +kernel
theorem dX10_mixHouse_8 : decode cX10_mixHouse 8 = .ok (.aload_n 0, 1) := by decide +kernel
theorem dX10_mixHouse_9 : decode cX10_mixHouse 9 = .ok (.aload_n 0, 1) := by decide +kernel
theorem dX10_mixHouse_10 : decode cX10_mixHouse 10 = .ok (.iload_n 1, 1) := by decide +kernel
theorem dX10_mixHouse_11 : decode cX10_mixHouse 11 = .ok (.iload_n 2, 1) := by decide +kernel
theorem dX10_mixHouse_12 : decode cX10_mixHouse 12 = .ok (.invokevirtual 152, 3) := by decide +kernel
theorem dX10_mixHouse_15 : decode cX10_mixHouse 15 = .ok (.i2l, 1) := by decide +kernel
theorem dX10_mixHouse_16 : decode cX10_mixHouse 16 = .ok (.invokevirtual 293, 3) := by decide +kernel
theorem dX10_mixHouse_19 : decode cX10_mixHouse 19 = .ok (.iinc 2 1, 3) := by decide +kernel
theorem dX10_mixHouse_22 : decode cX10_mixHouse 22 = .ok (.goto (-20), 3) := by decide +kernel
theorem dX10_mixHouse_25 : decode cX10_mixHouse 25 = .ok (.aload_n 0, 1) := by decide +kernel
theorem dX10_mixHouse_26 : decode cX10_mixHouse 26 = .ok (.aload_n 0, 1) := by decide +kernel
theorem dX10_mixHouse_27 : decode cX10_mixHouse 27 = .ok (.iload_n 1, 1) := by decide +kernel
theorem dX10_mixHouse_28 : decode cX10_mixHouse 28 = .ok (.bipush 12, 2) := by decide +kernel
theorem dX10_mixHouse_30 : decode cX10_mixHouse 30 = .ok (.invokevirtual 133, 3) := by decide +kernel
theorem dX10_mixHouse_33 : decode cX10_mixHouse 33 = .ok (.i2l, 1) := by decide +kernel
theorem dX10_mixHouse_34 : decode cX10_mixHouse 34 = .ok (.invokevirtual 293, 3) := by decide +kernel
theorem dX10_mixHouse_37 : decode cX10_mixHouse 37 = .ok (.aload_n 0, 1) := by decide +kernel
theorem dX10_mixHouse_38 : decode cX10_mixHouse 38 = .ok (.aload_n 0, 1) := by decide +kernel
theorem dX10_mixHouse_39 : decode cX10_mixHouse 39 = .ok (.iload_n 1, 1) := by decide +kernel
theorem dX10_mixHouse_40 : decode cX10_mixHouse 40 = .ok (.bipush 8, 2) := by decide +kernel
theorem dX10_mixHouse_42 : decode cX10_mixHouse 42 = .ok (.invokevirtual 186, 3) := by decide +kernel
theorem dX10_mixHouse_45 : decode cX10_mixHouse 45 = .ok (.i2l, 1) := by decide +kernel
theorem dX10_mixHouse_46 : decode cX10_mixHouse 46 = .ok (.invokevirtual 293, 3) := by decide +kernel
theorem dX10_mixHouse_49 : decode cX10_mixHouse 49 = .ok (.aload_n 0, 1) := by decide +kernel
theorem dX10_mixHouse_50 : decode cX10_mixHouse 50 = .ok (.aload_n 0, 1) := by decide +kernel
theorem dX10_mixHouse_51 : decode cX10_mixHouse 51 = .ok (.iload_n 1, 1) := by decide +kernel
theorem dX10_mixHouse_52 : decode cX10_mixHouse 52 = .ok (.iconst 4, 1) := by decide +kernel
theorem dX10_mixHouse_53 : decode cX10_mixHouse 53 = .ok (.iconst 0, 1) := by decide +kernel
theorem dX10_mixHouse_54 : decode cX10_mixHouse 54 = .ok (.invokevirtual 234, 3) := by decide +kernel
theorem dX10_mixHouse_57 : decode cX10_mixHouse 57 = .ok (.i2l, 1) := by decide +kernel
theorem dX10_mixHouse_58 : decode cX10_mixHouse 58 = .ok (.invokevirtual 293, 3) := by decide +kernel
theorem dX10_mixHouse_61 : decode cX10_mixHouse 61 = .ok (.aload_n 0, 1) := by decide +kernel
theorem dX10_mixHouse_62 : decode cX10_mixHouse 62 = .ok (.aload_n 0, 1) := by decide +kernel
theorem dX10_mixHouse_63 : decode cX10_mixHouse 63 = .ok (.iload_n 1, 1) := by decide +kernel
theorem dX10_mixHouse_64 : decode cX10_mixHouse 64 = .ok (.iconst 4, 1) := by decide +kernel
theorem dX10_mixHouse_65 : decode cX10_mixHouse 65 = .ok (.iconst 1, 1) := by decide +kernel
theorem dX10_mixHouse_66 : decode cX10_mixHouse 66 = .ok (.invokevirtual 234, 3) := by decide +kernel
theorem dX10_mixHouse_69 : decode cX10_mixHouse 69 = .ok (.i2l, 1) := by decide +kernel
theorem dX10_mixHouse_70 : decode cX10_mixHouse 70 = .ok (.invokevirtual 293, 3) := by decide +kernel
theorem dX10_mixHouse_73 : decode cX10_mixHouse 73 = .ok (.return_, 1) := by decide +kernel
theorem dX10_mixLane_0 : decode cX10_mixLane 0 = .ok (.aload_n 0, 1) := by decide +kernel
theorem dX10_mixLane_1 : decode cX10_mixLane 1 = .ok (.aload_n 0, 1) := by decide +kernel
theorem dX10_mixLane_2 : decode cX10_mixLane 2 = .ok (.bipush 9, 2) := by decide +kernel
theorem dX10_mixLane_4 : decode cX10_mixLane 4 = .ok (.invokevirtual 137, 3) := by decide +kernel
theorem dX10_mixLane_7 : decode cX10_mixLane 7 = .ok (.i2l, 1) := by decide +kernel
theorem dX10_mixLane_8 : decode cX10_mixLane 8 = .ok (.invokevirtual 293, 3) := by decide +kernel
theorem dX10_mixLane_11 : decode cX10_mixLane 11 = .ok (.aload_n 0, 1) := by decide +kernel
theorem dX10_mixLane_12 : decode cX10_mixLane 12 = .ok (.iconst 2, 1) := by decide +kernel
theorem dX10_mixLane_13 : decode cX10_mixLane 13 = .ok (.bipush 9, 2) := by decide +kernel
theorem dX10_mixLane_15 : decode cX10_mixLane 15 = .ok (.invokevirtual 202, 3) := by decide +kernel
theorem dX10_mixLane_18 : decode cX10_mixLane 18 = .ok (.aload_n 0, 1) := by decide +kernel
theorem dX10_mixLane_19 : decode cX10_mixLane 19 = .ok (.aload_n 0, 1) := by decide +kernel
theorem dX10_mixLane_20 : decode cX10_mixLane 20 = .ok (.iconst 2, 1) := by decide +kernel
theorem dX10_mixLane_21 : decode cX10_mixLane 21 = .ok (.iconst 0, 1) := by decide +kernel
theorem dX10_mixLane_22 : decode cX10_mixLane 22 = .ok (.invokevirtual 206, 3) := by decide +kernel
theorem dX10_mixLane_25 : decode cX10_mixLane 25 = .ok (.i2l, 1) := by decide +kernel
theorem dX10_mixLane_26 : decode cX10_mixLane 26 = .ok (.invokevirtual 293, 3) := by decide +kernel
theorem dX10_mixLane_29 : decode cX10_mixLane 29 = .ok (.aload_n 0, 1) := by decide +kernel
theorem dX10_mixLane_30 : decode cX10_mixLane 30 = .ok (.aload_n 0, 1) := by decide +kernel
theorem dX10_mixLane_31 : decode cX10_mixLane 31 = .ok (.iconst 2, 1) := by decide +kernel
theorem dX10_mixLane_32 : decode cX10_mixLane 32 = .ok (.iconst 1, 1) := by decide +kernel
theorem dX10_mixLane_33 : decode cX10_mixLane 33 = .ok (.invokevirtual 206, 3) := by decide +kernel
theorem dX10_mixLane_36 : decode cX10_mixLane 36 = .ok (.i2l, 1) := by decide +kernel
theorem dX10_mixLane_37 : decode cX10_mixLane 37 = .ok (.invokevirtual 293, 3) := by decide +kernel
theorem dX10_mixLane_40 : decode cX10_mixLane 40 = .ok (.aload_n 0, 1) := by decide +kernel
theorem dX10_mixLane_41 : decode cX10_mixLane 41 = .ok (.aload_n 0, 1) := by decide +kernel
theorem dX10_mixLane_42 : decode cX10_mixLane 42 = .ok (.iconst 2, 1) := by decide +kernel
theorem dX10_mixLane_43 : decode cX10_mixLane 43 = .ok (.bipush 10, 2) := by decide +kernel
theorem dX10_mixLane_45 : decode cX10_mixLane 45 = .ok (.invokevirtual 206, 3) := by decide +kernel
theorem dX10_mixLane_48 : decode cX10_mixLane 48 = .ok (.i2l, 1) := by decide +kernel
theorem dX10_mixLane_49 : decode cX10_mixLane 49 = .ok (.invokevirtual 293, 3) := by decide +kernel
theorem dX10_mixLane_52 : decode cX10_mixLane 52 = .ok (.aload_n 0, 1) := by decide +kernel
theorem dX10_mixLane_53 : decode cX10_mixLane 53 = .ok (.aload_n 0, 1) := by decide +kernel
theorem dX10_mixLane_54 : decode cX10_mixLane 54 = .ok (.iconst 2, 1) := by decide +kernel
theorem dX10_mixLane_55 : decode cX10_mixLane 55 = .ok (.bipush 11, 2) := by decide +kernel
theorem dX10_mixLane_57 : decode cX10_mixLane 57 = .ok (.invokevirtual 206, 3) := by decide +kernel
theorem dX10_mixLane_60 : decode cX10_mixLane 60 = .ok (.i2l, 1) := by decide +kernel
theorem dX10_mixLane_61 : decode cX10_mixLane 61 = .ok (.invokevirtual 293, 3) := by decide +kernel
theorem dX10_mixLane_64 : decode cX10_mixLane 64 = .ok (.aload_n 0, 1) := by decide +kernel
theorem dX10_mixLane_65 : decode cX10_mixLane 65 = .ok (.aload_n 0, 1) := by decide +kernel
theorem dX10_mixLane_66 : decode cX10_mixLane 66 = .ok (.invokevirtual 221, 3) := by decide +kernel
theorem dX10_mixLane_69 : decode cX10_mixLane 69 = .ok (.i2l, 1) := by decide +kernel
theorem dX10_mixLane_70 : decode cX10_mixLane 70 = .ok (.invokevirtual 293, 3) := by decide +kernel
theorem dX10_mixLane_73 : decode cX10_mixLane 73 = .ok (.iconst 0, 1) := by decide +kernel
theorem dX10_mixLane_74 : decode cX10_mixLane 74 = .ok (.istore_n 1, 1) := by decide +kernel
theorem dX10_mixLane_75 : decode cX10_mixLane 75 = .ok (.iload_n 1, 1) := by decide +kernel
theorem dX10_mixLane_76 : decode cX10_mixLane 76 = .ok (.bipush 6, 2) := by decide +kernel
theorem dX10_mixLane_78 : decode cX10_mixLane 78 = .ok (.if_icmp .ge 20, 3) := by decide +kernel
theorem dX10_mixLane_81 : decode cX10_mixLane 81 = .ok (.aload_n 0, 1) := by decide +kernel
theorem dX10_mixLane_82 : decode cX10_mixLane 82 = .ok (.aload_n 0, 1) := by decide +kernel
theorem dX10_mixLane_83 : decode cX10_mixLane 83 = .ok (.getfield 41, 3) := by decide +kernel
theorem dX10_mixLane_86 : decode cX10_mixLane 86 = .ok (.iload_n 1, 1) := by decide +kernel
theorem dX10_mixLane_87 : decode cX10_mixLane 87 = .ok (.iaload, 1) := by decide +kernel
theorem dX10_mixLane_88 : decode cX10_mixLane 88 = .ok (.i2l, 1) := by decide +kernel
theorem dX10_mixLane_89 : decode cX10_mixLane 89 = .ok (.invokevirtual 293, 3) := by decide +kernel
theorem dX10_mixLane_92 : decode cX10_mixLane 92 = .ok (.iinc 1 1, 3) := by decide +kernel
theorem dX10_mixLane_95 : decode cX10_mixLane 95 = .ok (.goto (-20), 3) := by decide +kernel
theorem dX10_mixLane_98 : decode cX10_mixLane 98 = .ok (.aload_n 0, 1) := by decide +kernel
theorem dX10_mixLane_99 : decode cX10_mixLane 99 = .ok (.aload_n 0, 1) := by decide +kernel
theorem dX10_mixLane_100 : decode cX10_mixLane 100 = .ok (.bipush 12, 2) := by decide +kernel
theorem dX10_mixLane_102 : decode cX10_mixLane 102 = .ok (.bipush 9, 2) := by decide +kernel
theorem dX10_mixLane_104 : decode cX10_mixLane 104 = .ok (.iconst 0, 1) := by decide +kernel
theorem dX10_mixLane_105 : decode cX10_mixLane 105 = .ok (.invokevirtual 227, 3) := by decide +kernel
theorem dX10_mixLane_108 : decode cX10_mixLane 108 = .ok (.i2l, 1) := by decide +kernel
theorem dX10_mixLane_109 : decode cX10_mixLane 109 = .ok (.invokevirtual 293, 3) := by decide +kernel
theorem dX10_mixLane_112 : decode cX10_mixLane 112 = .ok (.aload_n 0, 1) := by decide +kernel
theorem dX10_mixLane_113 : decode cX10_mixLane 113 = .ok (.aload_n 0, 1) := by decide +kernel
theorem dX10_mixLane_114 : decode cX10_mixLane 114 = .ok (.bipush 12, 2) := by decide +kernel
theorem dX10_mixLane_116 : decode cX10_mixLane 116 = .ok (.bipush 9, 2) := by decide +kernel
theorem dX10_mixLane_118 : decode cX10_mixLane 118 = .ok (.iconst 1, 1) := by decide +kernel
theorem dX10_mixLane_119 : decode cX10_mixLane 119 = .ok (.invokevirtual 227, 3) := by decide +kernel
theorem dX10_mixLane_122 : decode cX10_mixLane 122 = .ok (.i2l, 1) := by decide +kernel
theorem dX10_mixLane_123 : decode cX10_mixLane 123 = .ok (.invokevirtual 293, 3) := by decide +kernel
theorem dX10_mixLane_126 : decode cX10_mixLane 126 = .ok (.return_, 1) := by decide +kernel
theorem dX10_digest_0 : decode cX10_digest 0 = .ok (.aload_n 0, 1) := by decide +kernel
theorem dX10_digest_1 : decode cX10_digest 1 = .ok (.ldc2_w 297, 3) := by decide +kernel
theorem dX10_digest_4 : decode cX10_digest 4 = .ok (.putfield 290, 3) := by decide +kernel
theorem dX10_digest_7 : decode cX10_digest 7 = .ok (.iconst 0, 1) := by decide +kernel
theorem dX10_digest_8 : decode cX10_digest 8 = .ok (.istore_n 1, 1) := by decide +kernel
theorem dX10_digest_9 : decode cX10_digest 9 = .ok (.iload_n 1, 1) := by decide +kernel
theorem dX10_digest_10 : decode cX10_digest 10 = .ok (.aload_n 0, 1) := by decide +kernel
theorem dX10_digest_11 : decode cX10_digest 11 = .ok (.getfield 101, 3) := by decide +kernel
theorem dX10_digest_14 : decode cX10_digest 14 = .ok (.if_icmp .ge 14, 3) := by decide +kernel
theorem dX10_digest_17 : decode cX10_digest 17 = .ok (.aload_n 0, 1) := by decide +kernel
theorem dX10_digest_18 : decode cX10_digest 18 = .ok (.iload_n 1, 1) := by decide +kernel
theorem dX10_digest_19 : decode cX10_digest 19 = .ok (.invokevirtual 299, 3) := by decide +kernel
theorem dX10_digest_22 : decode cX10_digest 22 = .ok (.iinc 1 1, 3) := by decide +kernel
theorem dX10_digest_25 : decode cX10_digest 25 = .ok (.goto (-16), 3) := by decide +kernel
theorem dX10_digest_28 : decode cX10_digest 28 = .ok (.aload_n 0, 1) := by decide +kernel
theorem dX10_digest_29 : decode cX10_digest 29 = .ok (.getfield 101, 3) := by decide +kernel
theorem dX10_digest_32 : decode cX10_digest 32 = .ok (.ifCond .le 7, 3) := by decide +kernel
theorem dX10_digest_35 : decode cX10_digest 35 = .ok (.aload_n 0, 1) := by decide +kernel
theorem dX10_digest_36 : decode cX10_digest 36 = .ok (.invokevirtual 302, 3) := by decide +kernel
theorem dX10_digest_39 : decode cX10_digest 39 = .ok (.iconst 0, 1) := by decide +kernel
theorem dX10_digest_40 : decode cX10_digest 40 = .ok (.istore_n 1, 1) := by decide +kernel
theorem dX10_digest_41 : decode cX10_digest 41 = .ok (.iload_n 1, 1) := by decide +kernel
theorem dX10_digest_42 : decode cX10_digest 42 = .ok (.aload_n 0, 1) := by decide +kernel
theorem dX10_digest_43 : decode cX10_digest 43 = .ok (.getfield 75, 3) := by decide +kernel
theorem dX10_digest_46 : decode cX10_digest 46 = .ok (.if_icmp .ge 20, 3) := by decide +kernel
theorem dX10_digest_49 : decode cX10_digest 49 = .ok (.aload_n 0, 1) := by decide +kernel
theorem dX10_digest_50 : decode cX10_digest 50 = .ok (.aload_n 0, 1) := by decide +kernel
theorem dX10_digest_51 : decode cX10_digest 51 = .ok (.getfield 28, 3) := by decide +kernel
theorem dX10_digest_54 : decode cX10_digest 54 = .ok (.iload_n 1, 1) := by decide +kernel
theorem dX10_digest_55 : decode cX10_digest 55 = .ok (.baload, 1) := by decide +kernel
theorem dX10_digest_56 : decode cX10_digest 56 = .ok (.i2l, 1) := by decide +kernel
theorem dX10_digest_57 : decode cX10_digest 57 = .ok (.invokevirtual 293, 3) := by decide +kernel
theorem dX10_digest_60 : decode cX10_digest 60 = .ok (.iinc 1 1, 3) := by decide +kernel
theorem dX10_digest_63 : decode cX10_digest 63 = .ok (.goto (-22), 3) := by decide +kernel
theorem dX10_digest_66 : decode cX10_digest 66 = .ok (.iconst 0, 1) := by decide +kernel
theorem dX10_digest_67 : decode cX10_digest 67 = .ok (.istore_n 1, 1) := by decide +kernel
theorem dX10_digest_68 : decode cX10_digest 68 = .ok (.iload_n 1, 1) := by decide +kernel
theorem dX10_digest_69 : decode cX10_digest 69 = .ok (.bipush 10, 2) := by decide +kernel
theorem dX10_digest_71 : decode cX10_digest 71 = .ok (.if_icmp .ge 19, 3) := by decide +kernel
theorem dX10_digest_74 : decode cX10_digest 74 = .ok (.aload_n 0, 1) := by decide +kernel
theorem dX10_digest_75 : decode cX10_digest 75 = .ok (.aload_n 0, 1) := by decide +kernel
theorem dX10_digest_76 : decode cX10_digest 76 = .ok (.iload_n 1, 1) := by decide +kernel
theorem dX10_digest_77 : decode cX10_digest 77 = .ok (.invokevirtual 285, 3) := by decide +kernel
theorem dX10_digest_80 : decode cX10_digest 80 = .ok (.i2l, 1) := by decide +kernel
theorem dX10_digest_81 : decode cX10_digest 81 = .ok (.invokevirtual 293, 3) := by decide +kernel
theorem dX10_digest_84 : decode cX10_digest 84 = .ok (.iinc 1 1, 3) := by decide +kernel
theorem dX10_digest_87 : decode cX10_digest 87 = .ok (.goto (-19), 3) := by decide +kernel
theorem dX10_digest_90 : decode cX10_digest 90 = .ok (.aload_n 0, 1) := by decide +kernel
theorem dX10_digest_91 : decode cX10_digest 91 = .ok (.getfield 290, 3) := by decide +kernel
theorem dX10_digest_94 : decode cX10_digest 94 = .ok (.lreturn, 1) := by decide +kernel
theorem dJ6_bitCount_0f7a4_0 : decode cJ6_bitCount_0f7a4 0 = .ok (.iload_n 0, 1) := by decide +kernel
theorem dJ6_bitCount_0f7a4_1 : decode cJ6_bitCount_0f7a4 1 = .ok (.iload_n 0, 1) := by decide +kernel
theorem dJ6_bitCount_0f7a4_2 : decode cJ6_bitCount_0f7a4 2 = .ok (.iconst 1, 1) := by decide +kernel
theorem dJ6_bitCount_0f7a4_3 : decode cJ6_bitCount_0f7a4 3 = .ok (.iushr, 1) := by decide +kernel
theorem dJ6_bitCount_0f7a4_4 : decode cJ6_bitCount_0f7a4 4 = .ok (.ldc_w 265, 3) := by decide +kernel
theorem dJ6_bitCount_0f7a4_7 : decode cJ6_bitCount_0f7a4 7 = .ok (.iand, 1) := by decide +kernel
theorem dJ6_bitCount_0f7a4_8 : decode cJ6_bitCount_0f7a4 8 = .ok (.isub, 1) := by decide +kernel
theorem dJ6_bitCount_0f7a4_9 : decode cJ6_bitCount_0f7a4 9 = .ok (.istore_n 0, 1) := by decide +kernel
theorem dJ6_bitCount_0f7a4_10 : decode cJ6_bitCount_0f7a4 10 = .ok (.iload_n 0, 1) := by decide +kernel
theorem dJ6_bitCount_0f7a4_11 : decode cJ6_bitCount_0f7a4 11 = .ok (.ldc_w 266, 3) := by decide +kernel
theorem dJ6_bitCount_0f7a4_14 : decode cJ6_bitCount_0f7a4 14 = .ok (.iand, 1) := by decide +kernel
theorem dJ6_bitCount_0f7a4_15 : decode cJ6_bitCount_0f7a4 15 = .ok (.iload_n 0, 1) := by decide +kernel
theorem dJ6_bitCount_0f7a4_16 : decode cJ6_bitCount_0f7a4 16 = .ok (.iconst 2, 1) := by decide +kernel
theorem dJ6_bitCount_0f7a4_17 : decode cJ6_bitCount_0f7a4 17 = .ok (.iushr, 1) := by decide +kernel
theorem dJ6_bitCount_0f7a4_18 : decode cJ6_bitCount_0f7a4 18 = .ok (.ldc_w 266, 3) := by decide +kernel
theorem dJ6_bitCount_0f7a4_21 : decode cJ6_bitCount_0f7a4 21 = .ok (.iand, 1) := by decide +kernel
theorem dJ6_bitCount_0f7a4_22 : decode cJ6_bitCount_0f7a4 22 = .ok (.iadd, 1) := by decide +kernel
theorem dJ6_bitCount_0f7a4_23 : decode cJ6_bitCount_0f7a4 23 = .ok (.istore_n 0, 1) := by decide +kernel
theorem dJ6_bitCount_0f7a4_24 : decode cJ6_bitCount_0f7a4 24 = .ok (.iload_n 0, 1) := by decide +kernel
theorem dJ6_bitCount_0f7a4_25 : decode cJ6_bitCount_0f7a4 25 = .ok (.iload_n 0, 1) := by decide +kernel
theorem dJ6_bitCount_0f7a4_26 : decode cJ6_bitCount_0f7a4 26 = .ok (.iconst 4, 1) := by decide +kernel
theorem dJ6_bitCount_0f7a4_27 : decode cJ6_bitCount_0f7a4 27 = .ok (.iushr, 1) := by decide +kernel
theorem dJ6_bitCount_0f7a4_28 : decode cJ6_bitCount_0f7a4 28 = .ok (.iadd, 1) := by decide +kernel
theorem dJ6_bitCount_0f7a4_29 : decode cJ6_bitCount_0f7a4 29 = .ok (.ldc_w 267, 3) := by decide +kernel
theorem dJ6_bitCount_0f7a4_32 : decode cJ6_bitCount_0f7a4 32 = .ok (.iand, 1) := by decide +kernel
theorem dJ6_bitCount_0f7a4_33 : decode cJ6_bitCount_0f7a4 33 = .ok (.istore_n 0, 1) := by decide +kernel
theorem dJ6_bitCount_0f7a4_34 : decode cJ6_bitCount_0f7a4 34 = .ok (.iload_n 0, 1) := by decide +kernel
theorem dJ6_bitCount_0f7a4_35 : decode cJ6_bitCount_0f7a4 35 = .ok (.iload_n 0, 1) := by decide +kernel
theorem dJ6_bitCount_0f7a4_36 : decode cJ6_bitCount_0f7a4 36 = .ok (.bipush 8, 2) := by decide +kernel
theorem dJ6_bitCount_0f7a4_38 : decode cJ6_bitCount_0f7a4 38 = .ok (.iushr, 1) := by decide +kernel
theorem dJ6_bitCount_0f7a4_39 : decode cJ6_bitCount_0f7a4 39 = .ok (.iadd, 1) := by decide +kernel
theorem dJ6_bitCount_0f7a4_40 : decode cJ6_bitCount_0f7a4 40 = .ok (.istore_n 0, 1) := by decide +kernel
theorem dJ6_bitCount_0f7a4_41 : decode cJ6_bitCount_0f7a4 41 = .ok (.iload_n 0, 1) := by decide +kernel
theorem dJ6_bitCount_0f7a4_42 : decode cJ6_bitCount_0f7a4 42 = .ok (.iload_n 0, 1) := by decide +kernel
theorem dJ6_bitCount_0f7a4_43 : decode cJ6_bitCount_0f7a4 43 = .ok (.bipush 16, 2) := by decide +kernel
theorem dJ6_bitCount_0f7a4_45 : decode cJ6_bitCount_0f7a4 45 = .ok (.iushr, 1) := by decide +kernel
theorem dJ6_bitCount_0f7a4_46 : decode cJ6_bitCount_0f7a4 46 = .ok (.iadd, 1) := by decide +kernel
theorem dJ6_bitCount_0f7a4_47 : decode cJ6_bitCount_0f7a4 47 = .ok (.istore_n 0, 1) := by decide +kernel
theorem dJ6_bitCount_0f7a4_48 : decode cJ6_bitCount_0f7a4 48 = .ok (.iload_n 0, 1) := by decide +kernel
theorem dJ6_bitCount_0f7a4_49 : decode cJ6_bitCount_0f7a4 49 = .ok (.bipush 63, 2) := by decide +kernel
theorem dJ6_bitCount_0f7a4_51 : decode cJ6_bitCount_0f7a4 51 = .ok (.iand, 1) := by decide +kernel
theorem dJ6_bitCount_0f7a4_52 : decode cJ6_bitCount_0f7a4 52 = .ok (.ireturn, 1) := by decide +kernel
theorem dL_law_0 : decode cL_law 0 = .ok (.new 7, 3) := by decide +kernel
theorem dL_law_3 : decode cL_law 3 = .ok (.dup, 1) := by decide +kernel
theorem dL_law_4 : decode cL_law 4 = .ok (.invokespecial 9, 3) := by decide +kernel
theorem dL_law_7 : decode cL_law 7 = .ok (.astore_n 1, 1) := by decide +kernel
theorem dL_law_8 : decode cL_law 8 = .ok (.new 10, 3) := by decide +kernel
theorem dL_law_11 : decode cL_law 11 = .ok (.dup, 1) := by decide +kernel
theorem dL_law_12 : decode cL_law 12 = .ok (.invokespecial 12, 3) := by decide +kernel
theorem dL_law_15 : decode cL_law 15 = .ok (.astore_n 2, 1) := by decide +kernel
theorem dL_law_16 : decode cL_law 16 = .ok (.iconst 0, 1) := by decide +kernel
theorem dL_law_17 : decode cL_law 17 = .ok (.istore_n 3, 1) := by decide +kernel
theorem dL_law_18 : decode cL_law 18 = .ok (.iload_n 3, 1) := by decide +kernel
theorem dL_law_19 : decode cL_law 19 = .ok (.aload_n 0, 1) := by decide +kernel
theorem dL_law_20 : decode cL_law 20 = .ok (.arraylength, 1) := by decide +kernel
theorem dL_law_21 : decode cL_law 21 = .ok (.iconst 4, 1) := by decide +kernel
theorem dL_law_22 : decode cL_law 22 = .ok (.isub, 1) := by decide +kernel
theorem dL_law_23 : decode cL_law 23 = .ok (.if_icmp .gt 787, 3) := by decide +kernel
theorem dL_law_26 : decode cL_law 26 = .ok (.aload_n 0, 1) := by decide +kernel
theorem dL_law_27 : decode cL_law 27 = .ok (.iload_n 3, 1) := by decide +kernel
theorem dL_law_28 : decode cL_law 28 = .ok (.iaload, 1) := by decide +kernel
theorem dL_law_29 : decode cL_law 29 = .ok (.bipush 31, 2) := by decide +kernel
theorem dL_law_31 : decode cL_law 31 = .ok (.iand, 1) := by decide +kernel
theorem dL_law_32 : decode cL_law 32 = .ok (.tableswitch 772 0 24 #[116, 139, 152, 165, 178, 211, 244, 277, 300, 313, 336, 359, 382, 425, 458, 501, 524, 567, 610, 653, 666, 709, 722, 735, 758], 116) := by decide +kernel
theorem dL_law_148 : decode cL_law 148 = .ok (.aload_n 1, 1) := by decide +kernel
theorem dL_law_149 : decode cL_law 149 = .ok (.aload_n 0, 1) := by decide +kernel
theorem dL_law_150 : decode cL_law 150 = .ok (.iload_n 3, 1) := by decide +kernel
theorem dL_law_151 : decode cL_law 151 = .ok (.iconst 1, 1) := by decide +kernel
theorem dL_law_152 : decode cL_law 152 = .ok (.iadd, 1) := by decide +kernel
theorem dL_law_153 : decode cL_law 153 = .ok (.iaload, 1) := by decide +kernel
theorem dL_law_154 : decode cL_law 154 = .ok (.invokevirtual 13, 3) := by decide +kernel
theorem dL_law_157 : decode cL_law 157 = .ok (.aload_n 2, 1) := by decide +kernel
theorem dL_law_158 : decode cL_law 158 = .ok (.aload_n 0, 1) := by decide +kernel
theorem dL_law_159 : decode cL_law 159 = .ok (.iload_n 3, 1) := by decide +kernel
theorem dL_law_160 : decode cL_law 160 = .ok (.iconst 1, 1) := by decide +kernel
theorem dL_law_161 : decode cL_law 161 = .ok (.iadd, 1) := by decide +kernel
theorem dL_law_162 : decode cL_law 162 = .ok (.iaload, 1) := by decide +kernel
theorem dL_law_163 : decode cL_law 163 = .ok (.invokevirtual 17, 3) := by decide +kernel
theorem dL_law_166 : decode cL_law 166 = .ok (.if_icmp .eq 638, 3) := by decide +kernel
theorem dL_law_169 : decode cL_law 169 = .ok (.iconst 0, 1) := by decide +kernel
theorem dL_law_170 : decode cL_law 170 = .ok (.ireturn, 1) := by decide +kernel
theorem dL_law_171 : decode cL_law 171 = .ok (.aload_n 1, 1) := by decide +kernel
theorem dL_law_172 : decode cL_law 172 = .ok (.invokevirtual 18, 3) := by decide +kernel
theorem dL_law_175 : decode cL_law 175 = .ok (.aload_n 2, 1) := by decide +kernel
theorem dL_law_176 : decode cL_law 176 = .ok (.invokevirtual 22, 3) := by decide +kernel
theorem dL_law_179 : decode cL_law 179 = .ok (.if_icmp .eq 625, 3) := by decide +kernel
theorem dL_law_182 : decode cL_law 182 = .ok (.iconst 0, 1) := by decide +kernel
theorem dL_law_183 : decode cL_law 183 = .ok (.ireturn, 1) := by decide +kernel
theorem dL_law_184 : decode cL_law 184 = .ok (.aload_n 1, 1) := by decide +kernel
theorem dL_law_185 : decode cL_law 185 = .ok (.invokevirtual 23, 3) := by decide +kernel
theorem dL_law_188 : decode cL_law 188 = .ok (.aload_n 2, 1) := by decide +kernel
theorem dL_law_189 : decode cL_law 189 = .ok (.invokevirtual 26, 3) := by decide +kernel
theorem dL_law_192 : decode cL_law 192 = .ok (.if_icmp .eq 612, 3) := by decide +kernel
theorem dL_law_195 : decode cL_law 195 = .ok (.iconst 0, 1) := by decide +kernel
theorem dL_law_196 : decode cL_law 196 = .ok (.ireturn, 1) := by decide +kernel
theorem dL_law_197 : decode cL_law 197 = .ok (.aload_n 1, 1) := by decide +kernel
theorem dL_law_198 : decode cL_law 198 = .ok (.invokevirtual 27, 3) := by decide +kernel
theorem dL_law_201 : decode cL_law 201 = .ok (.aload_n 2, 1) := by decide +kernel
theorem dL_law_202 : decode cL_law 202 = .ok (.invokevirtual 30, 3) := by decide +kernel
theorem dL_law_205 : decode cL_law 205 = .ok (.if_icmp .eq 599, 3) := by decide +kernel
theorem dL_law_208 : decode cL_law 208 = .ok (.iconst 0, 1) := by decide +kernel
theorem dL_law_209 : decode cL_law 209 = .ok (.ireturn, 1) := by decide +kernel
theorem dL_law_210 : decode cL_law 210 = .ok (.aload_n 1, 1) := by decide +kernel
theorem dL_law_211 : decode cL_law 211 = .ok (.aload_n 0, 1) := by decide +kernel
theorem dL_law_212 : decode cL_law 212 = .ok (.iload_n 3, 1) := by decide +kernel
theorem dL_law_213 : decode cL_law 213 = .ok (.iconst 1, 1) := by decide +kernel
theorem dL_law_214 : decode cL_law 214 = .ok (.iadd, 1) := by decide +kernel
theorem dL_law_215 : decode cL_law 215 = .ok (.iaload, 1) := by decide +kernel
theorem dL_law_216 : decode cL_law 216 = .ok (.aload_n 0, 1) := by decide +kernel
theorem dL_law_217 : decode cL_law 217 = .ok (.iload_n 3, 1) := by decide +kernel
theorem dL_law_218 : decode cL_law 218 = .ok (.iconst 2, 1) := by decide +kernel
theorem dL_law_219 : decode cL_law 219 = .ok (.iadd, 1) := by decide +kernel
theorem dL_law_220 : decode cL_law 220 = .ok (.iaload, 1) := by decide +kernel
theorem dL_law_221 : decode cL_law 221 = .ok (.invokevirtual 31, 3) := by decide +kernel
theorem dL_law_224 : decode cL_law 224 = .ok (.aload_n 2, 1) := by decide +kernel
theorem dL_law_225 : decode cL_law 225 = .ok (.aload_n 0, 1) := by decide +kernel
theorem dL_law_226 : decode cL_law 226 = .ok (.iload_n 3, 1) := by decide +kernel
theorem dL_law_227 : decode cL_law 227 = .ok (.iconst 1, 1) := by decide +kernel
theorem dL_law_228 : decode cL_law 228 = .ok (.iadd, 1) := by decide +kernel
theorem dL_law_229 : decode cL_law 229 = .ok (.iaload, 1) := by decide +kernel
theorem dL_law_230 : decode cL_law 230 = .ok (.aload_n 0, 1) := by decide +kernel
theorem dL_law_231 : decode cL_law 231 = .ok (.iload_n 3, 1) := by decide +kernel
theorem dL_law_232 : decode cL_law 232 = .ok (.iconst 2, 1) := by decide +kernel
theorem dL_law_233 : decode cL_law 233 = .ok (.iadd, 1) := by decide +kernel
theorem dL_law_234 : decode cL_law 234 = .ok (.iaload, 1) := by decide +kernel
theorem dL_law_235 : decode cL_law 235 = .ok (.invokevirtual 35, 3) := by decide +kernel
theorem dL_law_238 : decode cL_law 238 = .ok (.if_icmp .eq 566, 3) := by decide +kernel
theorem dL_law_241 : decode cL_law 241 = .ok (.iconst 0, 1) := by decide +kernel
theorem dL_law_242 : decode cL_law 242 = .ok (.ireturn, 1) := by decide +kernel
theorem dL_law_243 : decode cL_law 243 = .ok (.aload_n 1, 1) := by decide +kernel
theorem dL_law_244 : decode cL_law 244 = .ok (.aload_n 0, 1) := by decide +kernel
theorem dL_law_245 : decode cL_law 245 = .ok (.iload_n 3, 1) := by decide +kernel
theorem dL_law_246 : decode cL_law 246 = .ok (.iconst 1, 1) := by decide +kernel
theorem dL_law_247 : decode cL_law 247 = .ok (.iadd, 1) := by decide +kernel
theorem dL_law_248 : decode cL_law 248 = .ok (.iaload, 1) := by decide +kernel
theorem dL_law_249 : decode cL_law 249 = .ok (.aload_n 0, 1) := by decide +kernel
theorem dL_law_250 : decode cL_law 250 = .ok (.iload_n 3, 1) := by decide +kernel
theorem dL_law_251 : decode cL_law 251 = .ok (.iconst 2, 1) := by decide +kernel
theorem dL_law_252 : decode cL_law 252 = .ok (.iadd, 1) := by decide +kernel
theorem dL_law_253 : decode cL_law 253 = .ok (.iaload, 1) := by decide +kernel
theorem dL_law_254 : decode cL_law 254 = .ok (.invokevirtual 36, 3) := by decide +kernel
theorem dL_law_257 : decode cL_law 257 = .ok (.aload_n 2, 1) := by decide +kernel
theorem dL_law_258 : decode cL_law 258 = .ok (.aload_n 0, 1) := by decide +kernel
theorem dL_law_259 : decode cL_law 259 = .ok (.iload_n 3, 1) := by decide +kernel
theorem dL_law_260 : decode cL_law 260 = .ok (.iconst 1, 1) := by decide +kernel
theorem dL_law_261 : decode cL_law 261 = .ok (.iadd, 1) := by decide +kernel
theorem dL_law_262 : decode cL_law 262 = .ok (.iaload, 1) := by decide +kernel
theorem dL_law_263 : decode cL_law 263 = .ok (.aload_n 0, 1) := by decide +kernel
theorem dL_law_264 : decode cL_law 264 = .ok (.iload_n 3, 1) := by decide +kernel
theorem dL_law_265 : decode cL_law 265 = .ok (.iconst 2, 1) := by decide +kernel
theorem dL_law_266 : decode cL_law 266 = .ok (.iadd, 1) := by decide +kernel
theorem dL_law_267 : decode cL_law 267 = .ok (.iaload, 1) := by decide +kernel
theorem dL_law_268 : decode cL_law 268 = .ok (.invokevirtual 39, 3) := by decide +kernel
theorem dL_law_271 : decode cL_law 271 = .ok (.if_icmp .eq 533, 3) := by decide +kernel
theorem dL_law_274 : decode cL_law 274 = .ok (.iconst 0, 1) := by decide +kernel
theorem dL_law_275 : decode cL_law 275 = .ok (.ireturn, 1) := by decide +kernel
theorem dL_law_276 : decode cL_law 276 = .ok (.aload_n 1, 1) := by decide +kernel
theorem dL_law_277 : decode cL_law 277 = .ok (.aload_n 0, 1) := by decide +kernel
theorem dL_law_278 : decode cL_law 278 = .ok (.iload_n 3, 1) := by decide +kernel
theorem dL_law_279 : decode cL_law 279 = .ok (.iconst 1, 1) := by decide +kernel
theorem dL_law_280 : decode cL_law 280 = .ok (.iadd, 1) := by decide +kernel
theorem dL_law_281 : decode cL_law 281 = .ok (.iaload, 1) := by decide +kernel
theorem dL_law_282 : decode cL_law 282 = .ok (.aload_n 0, 1) := by decide +kernel
theorem dL_law_283 : decode cL_law 283 = .ok (.iload_n 3, 1) := by decide +kernel
theorem dL_law_284 : decode cL_law 284 = .ok (.iconst 2, 1) := by decide +kernel
theorem dL_law_285 : decode cL_law 285 = .ok (.iadd, 1) := by decide +kernel
theorem dL_law_286 : decode cL_law 286 = .ok (.iaload, 1) := by decide +kernel
theorem dL_law_287 : decode cL_law 287 = .ok (.invokevirtual 40, 3) := by decide +kernel
theorem dL_law_290 : decode cL_law 290 = .ok (.aload_n 2, 1) := by decide +kernel
theorem dL_law_291 : decode cL_law 291 = .ok (.aload_n 0, 1) := by decide +kernel
theorem dL_law_292 : decode cL_law 292 = .ok (.iload_n 3, 1) := by decide +kernel
theorem dL_law_293 : decode cL_law 293 = .ok (.iconst 1, 1) := by decide +kernel
theorem dL_law_294 : decode cL_law 294 = .ok (.iadd, 1) := by decide +kernel
theorem dL_law_295 : decode cL_law 295 = .ok (.iaload, 1) := by decide +kernel
theorem dL_law_296 : decode cL_law 296 = .ok (.aload_n 0, 1) := by decide +kernel
theorem dL_law_297 : decode cL_law 297 = .ok (.iload_n 3, 1) := by decide +kernel
theorem dL_law_298 : decode cL_law 298 = .ok (.iconst 2, 1) := by decide +kernel
theorem dL_law_299 : decode cL_law 299 = .ok (.iadd, 1) := by decide +kernel
theorem dL_law_300 : decode cL_law 300 = .ok (.iaload, 1) := by decide +kernel
theorem dL_law_301 : decode cL_law 301 = .ok (.invokevirtual 43, 3) := by decide +kernel
theorem dL_law_304 : decode cL_law 304 = .ok (.if_icmp .eq 500, 3) := by decide +kernel
theorem dL_law_307 : decode cL_law 307 = .ok (.iconst 0, 1) := by decide +kernel
theorem dL_law_308 : decode cL_law 308 = .ok (.ireturn, 1) := by decide +kernel
theorem dL_law_309 : decode cL_law 309 = .ok (.aload_n 1, 1) := by decide +kernel
theorem dL_law_310 : decode cL_law 310 = .ok (.aload_n 0, 1) := by decide +kernel
theorem dL_law_311 : decode cL_law 311 = .ok (.iload_n 3, 1) := by decide +kernel
theorem dL_law_312 : decode cL_law 312 = .ok (.iconst 1, 1) := by decide +kernel
theorem dL_law_313 : decode cL_law 313 = .ok (.iadd, 1) := by decide +kernel
theorem dL_law_314 : decode cL_law 314 = .ok (.iaload, 1) := by decide +kernel
theorem dL_law_315 : decode cL_law 315 = .ok (.invokevirtual 44, 3) := by decide +kernel
theorem dL_law_318 : decode cL_law 318 = .ok (.aload_n 2, 1) := by decide +kernel
theorem dL_law_319 : decode cL_law 319 = .ok (.aload_n 0, 1) := by decide +kernel
theorem dL_law_320 : decode cL_law 320 = .ok (.iload_n 3, 1) := by decide +kernel
theorem dL_law_321 : decode cL_law 321 = .ok (.iconst 1, 1) := by decide +kernel
theorem dL_law_322 : decode cL_law 322 = .ok (.iadd, 1) := by decide +kernel
theorem dL_law_323 : decode cL_law 323 = .ok (.iaload, 1) := by decide +kernel
theorem dL_law_324 : decode cL_law 324 = .ok (.invokevirtual 47, 3) := by decide +kernel
theorem dL_law_327 : decode cL_law 327 = .ok (.if_icmp .eq 477, 3) := by decide +kernel
theorem dL_law_330 : decode cL_law 330 = .ok (.iconst 0, 1) := by decide +kernel
theorem dL_law_331 : decode cL_law 331 = .ok (.ireturn, 1) := by decide +kernel
theorem dL_law_332 : decode cL_law 332 = .ok (.aload_n 1, 1) := by decide +kernel
theorem dL_law_333 : decode cL_law 333 = .ok (.invokevirtual 48, 3) := by decide +kernel
theorem dL_law_336 : decode cL_law 336 = .ok (.aload_n 2, 1) := by decide +kernel
theorem dL_law_337 : decode cL_law 337 = .ok (.invokevirtual 51, 3) := by decide +kernel
theorem dL_law_340 : decode cL_law 340 = .ok (.if_icmp .eq 464, 3) := by decide +kernel
theorem dL_law_343 : decode cL_law 343 = .ok (.iconst 0, 1) := by decide +kernel
theorem dL_law_344 : decode cL_law 344 = .ok (.ireturn, 1) := by decide +kernel
theorem dL_law_345 : decode cL_law 345 = .ok (.aload_n 1, 1) := by decide +kernel
theorem dL_law_346 : decode cL_law 346 = .ok (.aload_n 0, 1) := by decide +kernel
theorem dL_law_347 : decode cL_law 347 = .ok (.iload_n 3, 1) := by decide +kernel
theorem dL_law_348 : decode cL_law 348 = .ok (.iconst 1, 1) := by decide +kernel
theorem dL_law_349 : decode cL_law 349 = .ok (.iadd, 1) := by decide +kernel
theorem dL_law_350 : decode cL_law 350 = .ok (.iaload, 1) := by decide +kernel
theorem dL_law_351 : decode cL_law 351 = .ok (.invokevirtual 52, 3) := by decide +kernel
theorem dL_law_354 : decode cL_law 354 = .ok (.aload_n 2, 1) := by decide +kernel
theorem dL_law_355 : decode cL_law 355 = .ok (.aload_n 0, 1) := by decide +kernel
theorem dL_law_356 : decode cL_law 356 = .ok (.iload_n 3, 1) := by decide +kernel
theorem dL_law_357 : decode cL_law 357 = .ok (.iconst 1, 1) := by decide +kernel
theorem dL_law_358 : decode cL_law 358 = .ok (.iadd, 1) := by decide +kernel
theorem dL_law_359 : decode cL_law 359 = .ok (.iaload, 1) := by decide +kernel
theorem dL_law_360 : decode cL_law 360 = .ok (.invokevirtual 55, 3) := by decide +kernel
theorem dL_law_363 : decode cL_law 363 = .ok (.if_icmp .eq 441, 3) := by decide +kernel
theorem dL_law_366 : decode cL_law 366 = .ok (.iconst 0, 1) := by decide +kernel
theorem dL_law_367 : decode cL_law 367 = .ok (.ireturn, 1) := by decide +kernel
theorem dL_law_368 : decode cL_law 368 = .ok (.aload_n 1, 1) := by decide +kernel
theorem dL_law_369 : decode cL_law 369 = .ok (.aload_n 0, 1) := by decide +kernel
theorem dL_law_370 : decode cL_law 370 = .ok (.iload_n 3, 1) := by decide +kernel
theorem dL_law_371 : decode cL_law 371 = .ok (.iconst 1, 1) := by decide +kernel
theorem dL_law_372 : decode cL_law 372 = .ok (.iadd, 1) := by decide +kernel
theorem dL_law_373 : decode cL_law 373 = .ok (.iaload, 1) := by decide +kernel
theorem dL_law_374 : decode cL_law 374 = .ok (.invokevirtual 56, 3) := by decide +kernel
theorem dL_law_377 : decode cL_law 377 = .ok (.aload_n 2, 1) := by decide +kernel
theorem dL_law_378 : decode cL_law 378 = .ok (.aload_n 0, 1) := by decide +kernel
theorem dL_law_379 : decode cL_law 379 = .ok (.iload_n 3, 1) := by decide +kernel
theorem dL_law_380 : decode cL_law 380 = .ok (.iconst 1, 1) := by decide +kernel
theorem dL_law_381 : decode cL_law 381 = .ok (.iadd, 1) := by decide +kernel
theorem dL_law_382 : decode cL_law 382 = .ok (.iaload, 1) := by decide +kernel
theorem dL_law_383 : decode cL_law 383 = .ok (.invokevirtual 59, 3) := by decide +kernel
theorem dL_law_386 : decode cL_law 386 = .ok (.if_icmp .eq 418, 3) := by decide +kernel
theorem dL_law_389 : decode cL_law 389 = .ok (.iconst 0, 1) := by decide +kernel
theorem dL_law_390 : decode cL_law 390 = .ok (.ireturn, 1) := by decide +kernel
theorem dL_law_391 : decode cL_law 391 = .ok (.aload_n 1, 1) := by decide +kernel
theorem dL_law_392 : decode cL_law 392 = .ok (.aload_n 0, 1) := by decide +kernel
theorem dL_law_393 : decode cL_law 393 = .ok (.iload_n 3, 1) := by decide +kernel
theorem dL_law_394 : decode cL_law 394 = .ok (.iconst 1, 1) := by decide +kernel
theorem dL_law_395 : decode cL_law 395 = .ok (.iadd, 1) := by decide +kernel
theorem dL_law_396 : decode cL_law 396 = .ok (.iaload, 1) := by decide +kernel
theorem dL_law_397 : decode cL_law 397 = .ok (.invokevirtual 60, 3) := by decide +kernel
theorem dL_law_400 : decode cL_law 400 = .ok (.aload_n 2, 1) := by decide +kernel
theorem dL_law_401 : decode cL_law 401 = .ok (.aload_n 0, 1) := by decide +kernel
theorem dL_law_402 : decode cL_law 402 = .ok (.iload_n 3, 1) := by decide +kernel
theorem dL_law_403 : decode cL_law 403 = .ok (.iconst 1, 1) := by decide +kernel
theorem dL_law_404 : decode cL_law 404 = .ok (.iadd, 1) := by decide +kernel
theorem dL_law_405 : decode cL_law 405 = .ok (.iaload, 1) := by decide +kernel
theorem dL_law_406 : decode cL_law 406 = .ok (.invokevirtual 63, 3) := by decide +kernel
theorem dL_law_409 : decode cL_law 409 = .ok (.if_icmp .eq 395, 3) := by decide +kernel
theorem dL_law_412 : decode cL_law 412 = .ok (.iconst 0, 1) := by decide +kernel
theorem dL_law_413 : decode cL_law 413 = .ok (.ireturn, 1) := by decide +kernel
theorem dL_law_414 : decode cL_law 414 = .ok (.aload_n 1, 1) := by decide +kernel
theorem dL_law_415 : decode cL_law 415 = .ok (.aload_n 0, 1) := by decide +kernel
theorem dL_law_416 : decode cL_law 416 = .ok (.iload_n 3, 1) := by decide +kernel
theorem dL_law_417 : decode cL_law 417 = .ok (.iconst 1, 1) := by decide +kernel
theorem dL_law_418 : decode cL_law 418 = .ok (.iadd, 1) := by decide +kernel
theorem dL_law_419 : decode cL_law 419 = .ok (.iaload, 1) := by decide +kernel
theorem dL_law_420 : decode cL_law 420 = .ok (.aload_n 0, 1) := by decide +kernel
theorem dL_law_421 : decode cL_law 421 = .ok (.iload_n 3, 1) := by decide +kernel
theorem dL_law_422 : decode cL_law 422 = .ok (.iconst 2, 1) := by decide +kernel
theorem dL_law_423 : decode cL_law 423 = .ok (.iadd, 1) := by decide +kernel
theorem dL_law_424 : decode cL_law 424 = .ok (.iaload, 1) := by decide +kernel
theorem dL_law_425 : decode cL_law 425 = .ok (.aload_n 0, 1) := by decide +kernel
theorem dL_law_426 : decode cL_law 426 = .ok (.iload_n 3, 1) := by decide +kernel
theorem dL_law_427 : decode cL_law 427 = .ok (.iconst 3, 1) := by decide +kernel
theorem dL_law_428 : decode cL_law 428 = .ok (.iadd, 1) := by decide +kernel
theorem dL_law_429 : decode cL_law 429 = .ok (.iaload, 1) := by decide +kernel
theorem dL_law_430 : decode cL_law 430 = .ok (.invokevirtual 64, 3) := by decide +kernel
theorem dL_law_433 : decode cL_law 433 = .ok (.aload_n 2, 1) := by decide +kernel
theorem dL_law_434 : decode cL_law 434 = .ok (.aload_n 0, 1) := by decide +kernel
theorem dL_law_435 : decode cL_law 435 = .ok (.iload_n 3, 1) := by decide +kernel
theorem dL_law_436 : decode cL_law 436 = .ok (.iconst 1, 1) := by decide +kernel
theorem dL_law_437 : decode cL_law 437 = .ok (.iadd, 1) := by decide +kernel
theorem dL_law_438 : decode cL_law 438 = .ok (.iaload, 1) := by decide +kernel
theorem dL_law_439 : decode cL_law 439 = .ok (.aload_n 0, 1) := by decide +kernel
theorem dL_law_440 : decode cL_law 440 = .ok (.iload_n 3, 1) := by decide +kernel
theorem dL_law_441 : decode cL_law 441 = .ok (.iconst 2, 1) := by decide +kernel
theorem dL_law_442 : decode cL_law 442 = .ok (.iadd, 1) := by decide +kernel
theorem dL_law_443 : decode cL_law 443 = .ok (.iaload, 1) := by decide +kernel
theorem dL_law_444 : decode cL_law 444 = .ok (.aload_n 0, 1) := by decide +kernel
theorem dL_law_445 : decode cL_law 445 = .ok (.iload_n 3, 1) := by decide +kernel
theorem dL_law_446 : decode cL_law 446 = .ok (.iconst 3, 1) := by decide +kernel
theorem dL_law_447 : decode cL_law 447 = .ok (.iadd, 1) := by decide +kernel
theorem dL_law_448 : decode cL_law 448 = .ok (.iaload, 1) := by decide +kernel
theorem dL_law_449 : decode cL_law 449 = .ok (.invokevirtual 68, 3) := by decide +kernel
theorem dL_law_452 : decode cL_law 452 = .ok (.if_icmp .eq 352, 3) := by decide +kernel
theorem dL_law_455 : decode cL_law 455 = .ok (.iconst 0, 1) := by decide +kernel
theorem dL_law_456 : decode cL_law 456 = .ok (.ireturn, 1) := by decide +kernel
theorem dL_law_457 : decode cL_law 457 = .ok (.aload_n 1, 1) := by decide +kernel
theorem dL_law_458 : decode cL_law 458 = .ok (.aload_n 0, 1) := by decide +kernel
theorem dL_law_459 : decode cL_law 459 = .ok (.iload_n 3, 1) := by decide +kernel
theorem dL_law_460 : decode cL_law 460 = .ok (.iconst 1, 1) := by decide +kernel
theorem dL_law_461 : decode cL_law 461 = .ok (.iadd, 1) := by decide +kernel
theorem dL_law_462 : decode cL_law 462 = .ok (.iaload, 1) := by decide +kernel
theorem dL_law_463 : decode cL_law 463 = .ok (.aload_n 0, 1) := by decide +kernel
theorem dL_law_464 : decode cL_law 464 = .ok (.iload_n 3, 1) := by decide +kernel
theorem dL_law_465 : decode cL_law 465 = .ok (.iconst 2, 1) := by decide +kernel
theorem dL_law_466 : decode cL_law 466 = .ok (.iadd, 1) := by decide +kernel
theorem dL_law_467 : decode cL_law 467 = .ok (.iaload, 1) := by decide +kernel
theorem dL_law_468 : decode cL_law 468 = .ok (.invokevirtual 69, 3) := by decide +kernel
theorem dL_law_471 : decode cL_law 471 = .ok (.aload_n 2, 1) := by decide +kernel
theorem dL_law_472 : decode cL_law 472 = .ok (.aload_n 0, 1) := by decide +kernel
theorem dL_law_473 : decode cL_law 473 = .ok (.iload_n 3, 1) := by decide +kernel
theorem dL_law_474 : decode cL_law 474 = .ok (.iconst 1, 1) := by decide +kernel
theorem dL_law_475 : decode cL_law 475 = .ok (.iadd, 1) := by decide +kernel
theorem dL_law_476 : decode cL_law 476 = .ok (.iaload, 1) := by decide +kernel
theorem dL_law_477 : decode cL_law 477 = .ok (.aload_n 0, 1) := by decide +kernel
theorem dL_law_478 : decode cL_law 478 = .ok (.iload_n 3, 1) := by decide +kernel
theorem dL_law_479 : decode cL_law 479 = .ok (.iconst 2, 1) := by decide +kernel
theorem dL_law_480 : decode cL_law 480 = .ok (.iadd, 1) := by decide +kernel
theorem dL_law_481 : decode cL_law 481 = .ok (.iaload, 1) := by decide +kernel
theorem dL_law_482 : decode cL_law 482 = .ok (.invokevirtual 72, 3) := by decide +kernel
theorem dL_law_485 : decode cL_law 485 = .ok (.if_icmp .eq 319, 3) := by decide +kernel
theorem dL_law_488 : decode cL_law 488 = .ok (.iconst 0, 1) := by decide +kernel
theorem dL_law_489 : decode cL_law 489 = .ok (.ireturn, 1) := by decide +kernel
theorem dL_law_490 : decode cL_law 490 = .ok (.aload_n 1, 1) := by decide +kernel
theorem dL_law_491 : decode cL_law 491 = .ok (.aload_n 0, 1) := by decide +kernel
theorem dL_law_492 : decode cL_law 492 = .ok (.iload_n 3, 1) := by decide +kernel
theorem dL_law_493 : decode cL_law 493 = .ok (.iconst 1, 1) := by decide +kernel
theorem dL_law_494 : decode cL_law 494 = .ok (.iadd, 1) := by decide +kernel
theorem dL_law_495 : decode cL_law 495 = .ok (.iaload, 1) := by decide +kernel
theorem dL_law_496 : decode cL_law 496 = .ok (.aload_n 0, 1) := by decide +kernel
theorem dL_law_497 : decode cL_law 497 = .ok (.iload_n 3, 1) := by decide +kernel
theorem dL_law_498 : decode cL_law 498 = .ok (.iconst 2, 1) := by decide +kernel
theorem dL_law_499 : decode cL_law 499 = .ok (.iadd, 1) := by decide +kernel
theorem dL_law_500 : decode cL_law 500 = .ok (.iaload, 1) := by decide +kernel
theorem dL_law_501 : decode cL_law 501 = .ok (.aload_n 0, 1) := by decide +kernel
theorem dL_law_502 : decode cL_law 502 = .ok (.iload_n 3, 1) := by decide +kernel
theorem dL_law_503 : decode cL_law 503 = .ok (.iconst 3, 1) := by decide +kernel
theorem dL_law_504 : decode cL_law 504 = .ok (.iadd, 1) := by decide +kernel
theorem dL_law_505 : decode cL_law 505 = .ok (.iaload, 1) := by decide +kernel
theorem dL_law_506 : decode cL_law 506 = .ok (.invokevirtual 73, 3) := by decide +kernel
theorem dL_law_509 : decode cL_law 509 = .ok (.aload_n 2, 1) := by decide +kernel
theorem dL_law_510 : decode cL_law 510 = .ok (.aload_n 0, 1) := by decide +kernel
theorem dL_law_511 : decode cL_law 511 = .ok (.iload_n 3, 1) := by decide +kernel
theorem dL_law_512 : decode cL_law 512 = .ok (.iconst 1, 1) := by decide +kernel
theorem dL_law_513 : decode cL_law 513 = .ok (.iadd, 1) := by decide +kernel
theorem dL_law_514 : decode cL_law 514 = .ok (.iaload, 1) := by decide +kernel
theorem dL_law_515 : decode cL_law 515 = .ok (.aload_n 0, 1) := by decide +kernel
theorem dL_law_516 : decode cL_law 516 = .ok (.iload_n 3, 1) := by decide +kernel
theorem dL_law_517 : decode cL_law 517 = .ok (.iconst 2, 1) := by decide +kernel
theorem dL_law_518 : decode cL_law 518 = .ok (.iadd, 1) := by decide +kernel
theorem dL_law_519 : decode cL_law 519 = .ok (.iaload, 1) := by decide +kernel
theorem dL_law_520 : decode cL_law 520 = .ok (.aload_n 0, 1) := by decide +kernel
theorem dL_law_521 : decode cL_law 521 = .ok (.iload_n 3, 1) := by decide +kernel
theorem dL_law_522 : decode cL_law 522 = .ok (.iconst 3, 1) := by decide +kernel
theorem dL_law_523 : decode cL_law 523 = .ok (.iadd, 1) := by decide +kernel
theorem dL_law_524 : decode cL_law 524 = .ok (.iaload, 1) := by decide +kernel
theorem dL_law_525 : decode cL_law 525 = .ok (.invokevirtual 76, 3) := by decide +kernel
theorem dL_law_528 : decode cL_law 528 = .ok (.if_icmp .eq 276, 3) := by decide +kernel
theorem dL_law_531 : decode cL_law 531 = .ok (.iconst 0, 1) := by decide +kernel
theorem dL_law_532 : decode cL_law 532 = .ok (.ireturn, 1) := by decide +kernel
theorem dL_law_533 : decode cL_law 533 = .ok (.aload_n 1, 1) := by decide +kernel
theorem dL_law_534 : decode cL_law 534 = .ok (.aload_n 0, 1) := by decide +kernel
theorem dL_law_535 : decode cL_law 535 = .ok (.iload_n 3, 1) := by decide +kernel
theorem dL_law_536 : decode cL_law 536 = .ok (.iconst 1, 1) := by decide +kernel
theorem dL_law_537 : decode cL_law 537 = .ok (.iadd, 1) := by decide +kernel
theorem dL_law_538 : decode cL_law 538 = .ok (.iaload, 1) := by decide +kernel
theorem dL_law_539 : decode cL_law 539 = .ok (.invokevirtual 77, 3) := by decide +kernel
theorem dL_law_542 : decode cL_law 542 = .ok (.aload_n 2, 1) := by decide +kernel
theorem dL_law_543 : decode cL_law 543 = .ok (.aload_n 0, 1) := by decide +kernel
theorem dL_law_544 : decode cL_law 544 = .ok (.iload_n 3, 1) := by decide +kernel
theorem dL_law_545 : decode cL_law 545 = .ok (.iconst 1, 1) := by decide +kernel
theorem dL_law_546 : decode cL_law 546 = .ok (.iadd, 1) := by decide +kernel
theorem dL_law_547 : decode cL_law 547 = .ok (.iaload, 1) := by decide +kernel
theorem dL_law_548 : decode cL_law 548 = .ok (.invokevirtual 80, 3) := by decide +kernel
theorem dL_law_551 : decode cL_law 551 = .ok (.if_icmp .eq 253, 3) := by decide +kernel
theorem dL_law_554 : decode cL_law 554 = .ok (.iconst 0, 1) := by decide +kernel
theorem dL_law_555 : decode cL_law 555 = .ok (.ireturn, 1) := by decide +kernel
theorem dL_law_556 : decode cL_law 556 = .ok (.aload_n 1, 1) := by decide +kernel
theorem dL_law_557 : decode cL_law 557 = .ok (.aload_n 0, 1) := by decide +kernel
theorem dL_law_558 : decode cL_law 558 = .ok (.iload_n 3, 1) := by decide +kernel
theorem dL_law_559 : decode cL_law 559 = .ok (.iconst 1, 1) := by decide +kernel
theorem dL_law_560 : decode cL_law 560 = .ok (.iadd, 1) := by decide +kernel
theorem dL_law_561 : decode cL_law 561 = .ok (.iaload, 1) := by decide +kernel
theorem dL_law_562 : decode cL_law 562 = .ok (.aload_n 0, 1) := by decide +kernel
theorem dL_law_563 : decode cL_law 563 = .ok (.iload_n 3, 1) := by decide +kernel
theorem dL_law_564 : decode cL_law 564 = .ok (.iconst 2, 1) := by decide +kernel
theorem dL_law_565 : decode cL_law 565 = .ok (.iadd, 1) := by decide +kernel
theorem dL_law_566 : decode cL_law 566 = .ok (.iaload, 1) := by decide +kernel
theorem dL_law_567 : decode cL_law 567 = .ok (.aload_n 0, 1) := by decide +kernel
theorem dL_law_568 : decode cL_law 568 = .ok (.iload_n 3, 1) := by decide +kernel
theorem dL_law_569 : decode cL_law 569 = .ok (.iconst 3, 1) := by decide +kernel
theorem dL_law_570 : decode cL_law 570 = .ok (.iadd, 1) := by decide +kernel
theorem dL_law_571 : decode cL_law 571 = .ok (.iaload, 1) := by decide +kernel
theorem dL_law_572 : decode cL_law 572 = .ok (.invokevirtual 81, 3) := by decide +kernel
theorem dL_law_575 : decode cL_law 575 = .ok (.aload_n 2, 1) := by decide +kernel
theorem dL_law_576 : decode cL_law 576 = .ok (.aload_n 0, 1) := by decide +kernel
theorem dL_law_577 : decode cL_law 577 = .ok (.iload_n 3, 1) := by decide +kernel
theorem dL_law_578 : decode cL_law 578 = .ok (.iconst 1, 1) := by decide +kernel
theorem dL_law_579 : decode cL_law 579 = .ok (.iadd, 1) := by decide +kernel
theorem dL_law_580 : decode cL_law 580 = .ok (.iaload, 1) := by decide +kernel
theorem dL_law_581 : decode cL_law 581 = .ok (.aload_n 0, 1) := by decide +kernel
theorem dL_law_582 : decode cL_law 582 = .ok (.iload_n 3, 1) := by decide +kernel
theorem dL_law_583 : decode cL_law 583 = .ok (.iconst 2, 1) := by decide +kernel
theorem dL_law_584 : decode cL_law 584 = .ok (.iadd, 1) := by decide +kernel
theorem dL_law_585 : decode cL_law 585 = .ok (.iaload, 1) := by decide +kernel
theorem dL_law_586 : decode cL_law 586 = .ok (.aload_n 0, 1) := by decide +kernel
theorem dL_law_587 : decode cL_law 587 = .ok (.iload_n 3, 1) := by decide +kernel
theorem dL_law_588 : decode cL_law 588 = .ok (.iconst 3, 1) := by decide +kernel
theorem dL_law_589 : decode cL_law 589 = .ok (.iadd, 1) := by decide +kernel
theorem dL_law_590 : decode cL_law 590 = .ok (.iaload, 1) := by decide +kernel
theorem dL_law_591 : decode cL_law 591 = .ok (.invokevirtual 84, 3) := by decide +kernel
theorem dL_law_594 : decode cL_law 594 = .ok (.if_icmp .eq 210, 3) := by decide +kernel
theorem dL_law_597 : decode cL_law 597 = .ok (.iconst 0, 1) := by decide +kernel
theorem dL_law_598 : decode cL_law 598 = .ok (.ireturn, 1) := by decide +kernel
theorem dL_law_599 : decode cL_law 599 = .ok (.aload_n 1, 1) := by decide +kernel
theorem dL_law_600 : decode cL_law 600 = .ok (.aload_n 0, 1) := by decide +kernel
theorem dL_law_601 : decode cL_law 601 = .ok (.iload_n 3, 1) := by decide +kernel
theorem dL_law_602 : decode cL_law 602 = .ok (.iconst 1, 1) := by decide +kernel
theorem dL_law_603 : decode cL_law 603 = .ok (.iadd, 1) := by decide +kernel
theorem dL_law_604 : decode cL_law 604 = .ok (.iaload, 1) := by decide +kernel
theorem dL_law_605 : decode cL_law 605 = .ok (.aload_n 0, 1) := by decide +kernel
theorem dL_law_606 : decode cL_law 606 = .ok (.iload_n 3, 1) := by decide +kernel
theorem dL_law_607 : decode cL_law 607 = .ok (.iconst 2, 1) := by decide +kernel
theorem dL_law_608 : decode cL_law 608 = .ok (.iadd, 1) := by decide +kernel
theorem dL_law_609 : decode cL_law 609 = .ok (.iaload, 1) := by decide +kernel
theorem dL_law_610 : decode cL_law 610 = .ok (.aload_n 0, 1) := by decide +kernel
theorem dL_law_611 : decode cL_law 611 = .ok (.iload_n 3, 1) := by decide +kernel
theorem dL_law_612 : decode cL_law 612 = .ok (.iconst 3, 1) := by decide +kernel
theorem dL_law_613 : decode cL_law 613 = .ok (.iadd, 1) := by decide +kernel
theorem dL_law_614 : decode cL_law 614 = .ok (.iaload, 1) := by decide +kernel
theorem dL_law_615 : decode cL_law 615 = .ok (.invokevirtual 85, 3) := by decide +kernel
theorem dL_law_618 : decode cL_law 618 = .ok (.aload_n 2, 1) := by decide +kernel
theorem dL_law_619 : decode cL_law 619 = .ok (.aload_n 0, 1) := by decide +kernel
theorem dL_law_620 : decode cL_law 620 = .ok (.iload_n 3, 1) := by decide +kernel
theorem dL_law_621 : decode cL_law 621 = .ok (.iconst 1, 1) := by decide +kernel
theorem dL_law_622 : decode cL_law 622 = .ok (.iadd, 1) := by decide +kernel
theorem dL_law_623 : decode cL_law 623 = .ok (.iaload, 1) := by decide +kernel
theorem dL_law_624 : decode cL_law 624 = .ok (.aload_n 0, 1) := by decide +kernel
theorem dL_law_625 : decode cL_law 625 = .ok (.iload_n 3, 1) := by decide +kernel
theorem dL_law_626 : decode cL_law 626 = .ok (.iconst 2, 1) := by decide +kernel
theorem dL_law_627 : decode cL_law 627 = .ok (.iadd, 1) := by decide +kernel
theorem dL_law_628 : decode cL_law 628 = .ok (.iaload, 1) := by decide +kernel
theorem dL_law_629 : decode cL_law 629 = .ok (.aload_n 0, 1) := by decide +kernel
theorem dL_law_630 : decode cL_law 630 = .ok (.iload_n 3, 1) := by decide +kernel
theorem dL_law_631 : decode cL_law 631 = .ok (.iconst 3, 1) := by decide +kernel
theorem dL_law_632 : decode cL_law 632 = .ok (.iadd, 1) := by decide +kernel
theorem dL_law_633 : decode cL_law 633 = .ok (.iaload, 1) := by decide +kernel
theorem dL_law_634 : decode cL_law 634 = .ok (.invokevirtual 88, 3) := by decide +kernel
theorem dL_law_637 : decode cL_law 637 = .ok (.if_icmp .eq 167, 3) := by decide +kernel
theorem dL_law_640 : decode cL_law 640 = .ok (.iconst 0, 1) := by decide +kernel
theorem dL_law_641 : decode cL_law 641 = .ok (.ireturn, 1) := by decide +kernel
theorem dL_law_642 : decode cL_law 642 = .ok (.aload_n 1, 1) := by decide +kernel
theorem dL_law_643 : decode cL_law 643 = .ok (.aload_n 0, 1) := by decide +kernel
theorem dL_law_644 : decode cL_law 644 = .ok (.iload_n 3, 1) := by decide +kernel
theorem dL_law_645 : decode cL_law 645 = .ok (.iconst 1, 1) := by decide +kernel
theorem dL_law_646 : decode cL_law 646 = .ok (.iadd, 1) := by decide +kernel
theorem dL_law_647 : decode cL_law 647 = .ok (.iaload, 1) := by decide +kernel
theorem dL_law_648 : decode cL_law 648 = .ok (.aload_n 0, 1) := by decide +kernel
theorem dL_law_649 : decode cL_law 649 = .ok (.iload_n 3, 1) := by decide +kernel
theorem dL_law_650 : decode cL_law 650 = .ok (.iconst 2, 1) := by decide +kernel
theorem dL_law_651 : decode cL_law 651 = .ok (.iadd, 1) := by decide +kernel
theorem dL_law_652 : decode cL_law 652 = .ok (.iaload, 1) := by decide +kernel
theorem dL_law_653 : decode cL_law 653 = .ok (.aload_n 0, 1) := by decide +kernel
theorem dL_law_654 : decode cL_law 654 = .ok (.iload_n 3, 1) := by decide +kernel
theorem dL_law_655 : decode cL_law 655 = .ok (.iconst 3, 1) := by decide +kernel
theorem dL_law_656 : decode cL_law 656 = .ok (.iadd, 1) := by decide +kernel
theorem dL_law_657 : decode cL_law 657 = .ok (.iaload, 1) := by decide +kernel
theorem dL_law_658 : decode cL_law 658 = .ok (.invokevirtual 89, 3) := by decide +kernel
theorem dL_law_661 : decode cL_law 661 = .ok (.aload_n 2, 1) := by decide +kernel
theorem dL_law_662 : decode cL_law 662 = .ok (.aload_n 0, 1) := by decide +kernel
theorem dL_law_663 : decode cL_law 663 = .ok (.iload_n 3, 1) := by decide +kernel
theorem dL_law_664 : decode cL_law 664 = .ok (.iconst 1, 1) := by decide +kernel
theorem dL_law_665 : decode cL_law 665 = .ok (.iadd, 1) := by decide +kernel
theorem dL_law_666 : decode cL_law 666 = .ok (.iaload, 1) := by decide +kernel
theorem dL_law_667 : decode cL_law 667 = .ok (.aload_n 0, 1) := by decide +kernel
theorem dL_law_668 : decode cL_law 668 = .ok (.iload_n 3, 1) := by decide +kernel
theorem dL_law_669 : decode cL_law 669 = .ok (.iconst 2, 1) := by decide +kernel
theorem dL_law_670 : decode cL_law 670 = .ok (.iadd, 1) := by decide +kernel
theorem dL_law_671 : decode cL_law 671 = .ok (.iaload, 1) := by decide +kernel
theorem dL_law_672 : decode cL_law 672 = .ok (.aload_n 0, 1) := by decide +kernel
theorem dL_law_673 : decode cL_law 673 = .ok (.iload_n 3, 1) := by decide +kernel
theorem dL_law_674 : decode cL_law 674 = .ok (.iconst 3, 1) := by decide +kernel
theorem dL_law_675 : decode cL_law 675 = .ok (.iadd, 1) := by decide +kernel
theorem dL_law_676 : decode cL_law 676 = .ok (.iaload, 1) := by decide +kernel
theorem dL_law_677 : decode cL_law 677 = .ok (.invokevirtual 92, 3) := by decide +kernel
theorem dL_law_680 : decode cL_law 680 = .ok (.if_icmp .eq 124, 3) := by decide +kernel
theorem dL_law_683 : decode cL_law 683 = .ok (.iconst 0, 1) := by decide +kernel
theorem dL_law_684 : decode cL_law 684 = .ok (.ireturn, 1) := by decide +kernel
theorem dL_law_685 : decode cL_law 685 = .ok (.aload_n 1, 1) := by decide +kernel
theorem dL_law_686 : decode cL_law 686 = .ok (.invokevirtual 93, 3) := by decide +kernel
theorem dL_law_689 : decode cL_law 689 = .ok (.aload_n 2, 1) := by decide +kernel
theorem dL_law_690 : decode cL_law 690 = .ok (.invokevirtual 96, 3) := by decide +kernel
theorem dL_law_693 : decode cL_law 693 = .ok (.if_icmp .eq 111, 3) := by decide +kernel
theorem dL_law_696 : decode cL_law 696 = .ok (.iconst 0, 1) := by decide +kernel
theorem dL_law_697 : decode cL_law 697 = .ok (.ireturn, 1) := by decide +kernel
theorem dL_law_698 : decode cL_law 698 = .ok (.aload_n 1, 1) := by decide +kernel
theorem dL_law_699 : decode cL_law 699 = .ok (.aload_n 0, 1) := by decide +kernel
theorem dL_law_700 : decode cL_law 700 = .ok (.iload_n 3, 1) := by decide +kernel
theorem dL_law_701 : decode cL_law 701 = .ok (.iconst 1, 1) := by decide +kernel
theorem dL_law_702 : decode cL_law 702 = .ok (.iadd, 1) := by decide +kernel
theorem dL_law_703 : decode cL_law 703 = .ok (.iaload, 1) := by decide +kernel
theorem dL_law_704 : decode cL_law 704 = .ok (.aload_n 0, 1) := by decide +kernel
theorem dL_law_705 : decode cL_law 705 = .ok (.iload_n 3, 1) := by decide +kernel
theorem dL_law_706 : decode cL_law 706 = .ok (.iconst 2, 1) := by decide +kernel
theorem dL_law_707 : decode cL_law 707 = .ok (.iadd, 1) := by decide +kernel
theorem dL_law_708 : decode cL_law 708 = .ok (.iaload, 1) := by decide +kernel
theorem dL_law_709 : decode cL_law 709 = .ok (.aload_n 0, 1) := by decide +kernel
theorem dL_law_710 : decode cL_law 710 = .ok (.iload_n 3, 1) := by decide +kernel
theorem dL_law_711 : decode cL_law 711 = .ok (.iconst 3, 1) := by decide +kernel
theorem dL_law_712 : decode cL_law 712 = .ok (.iadd, 1) := by decide +kernel
theorem dL_law_713 : decode cL_law 713 = .ok (.iaload, 1) := by decide +kernel
theorem dL_law_714 : decode cL_law 714 = .ok (.invokevirtual 97, 3) := by decide +kernel
theorem dL_law_717 : decode cL_law 717 = .ok (.aload_n 2, 1) := by decide +kernel
theorem dL_law_718 : decode cL_law 718 = .ok (.aload_n 0, 1) := by decide +kernel
theorem dL_law_719 : decode cL_law 719 = .ok (.iload_n 3, 1) := by decide +kernel
theorem dL_law_720 : decode cL_law 720 = .ok (.iconst 1, 1) := by decide +kernel
theorem dL_law_721 : decode cL_law 721 = .ok (.iadd, 1) := by decide +kernel
theorem dL_law_722 : decode cL_law 722 = .ok (.iaload, 1) := by decide +kernel
theorem dL_law_723 : decode cL_law 723 = .ok (.aload_n 0, 1) := by decide +kernel
theorem dL_law_724 : decode cL_law 724 = .ok (.iload_n 3, 1) := by decide +kernel
theorem dL_law_725 : decode cL_law 725 = .ok (.iconst 2, 1) := by decide +kernel
theorem dL_law_726 : decode cL_law 726 = .ok (.iadd, 1) := by decide +kernel
theorem dL_law_727 : decode cL_law 727 = .ok (.iaload, 1) := by decide +kernel
theorem dL_law_728 : decode cL_law 728 = .ok (.aload_n 0, 1) := by decide +kernel
theorem dL_law_729 : decode cL_law 729 = .ok (.iload_n 3, 1) := by decide +kernel
theorem dL_law_730 : decode cL_law 730 = .ok (.iconst 3, 1) := by decide +kernel
theorem dL_law_731 : decode cL_law 731 = .ok (.iadd, 1) := by decide +kernel
theorem dL_law_732 : decode cL_law 732 = .ok (.iaload, 1) := by decide +kernel
theorem dL_law_733 : decode cL_law 733 = .ok (.invokevirtual 100, 3) := by decide +kernel
theorem dL_law_736 : decode cL_law 736 = .ok (.if_icmp .eq 68, 3) := by decide +kernel
theorem dL_law_739 : decode cL_law 739 = .ok (.iconst 0, 1) := by decide +kernel
theorem dL_law_740 : decode cL_law 740 = .ok (.ireturn, 1) := by decide +kernel
theorem dL_law_741 : decode cL_law 741 = .ok (.aload_n 1, 1) := by decide +kernel
theorem dL_law_742 : decode cL_law 742 = .ok (.invokevirtual 101, 3) := by decide +kernel
theorem dL_law_745 : decode cL_law 745 = .ok (.aload_n 2, 1) := by decide +kernel
theorem dL_law_746 : decode cL_law 746 = .ok (.invokevirtual 104, 3) := by decide +kernel
theorem dL_law_749 : decode cL_law 749 = .ok (.if_icmp .eq 55, 3) := by decide +kernel
theorem dL_law_752 : decode cL_law 752 = .ok (.iconst 0, 1) := by decide +kernel
theorem dL_law_753 : decode cL_law 753 = .ok (.ireturn, 1) := by decide +kernel
theorem dL_law_754 : decode cL_law 754 = .ok (.aload_n 1, 1) := by decide +kernel
theorem dL_law_755 : decode cL_law 755 = .ok (.invokevirtual 105, 3) := by decide +kernel
theorem dL_law_758 : decode cL_law 758 = .ok (.aload_n 2, 1) := by decide +kernel
theorem dL_law_759 : decode cL_law 759 = .ok (.invokevirtual 108, 3) := by decide +kernel
theorem dL_law_762 : decode cL_law 762 = .ok (.if_icmp .eq 42, 3) := by decide +kernel
theorem dL_law_765 : decode cL_law 765 = .ok (.iconst 0, 1) := by decide +kernel
theorem dL_law_766 : decode cL_law 766 = .ok (.ireturn, 1) := by decide +kernel
theorem dL_law_767 : decode cL_law 767 = .ok (.aload_n 1, 1) := by decide +kernel
theorem dL_law_768 : decode cL_law 768 = .ok (.aload_n 0, 1) := by decide +kernel
theorem dL_law_769 : decode cL_law 769 = .ok (.iload_n 3, 1) := by decide +kernel
theorem dL_law_770 : decode cL_law 770 = .ok (.iconst 1, 1) := by decide +kernel
theorem dL_law_771 : decode cL_law 771 = .ok (.iadd, 1) := by decide +kernel
theorem dL_law_772 : decode cL_law 772 = .ok (.iaload, 1) := by decide +kernel
theorem dL_law_773 : decode cL_law 773 = .ok (.invokevirtual 109, 3) := by decide +kernel
theorem dL_law_776 : decode cL_law 776 = .ok (.aload_n 2, 1) := by decide +kernel
theorem dL_law_777 : decode cL_law 777 = .ok (.aload_n 0, 1) := by decide +kernel
theorem dL_law_778 : decode cL_law 778 = .ok (.iload_n 3, 1) := by decide +kernel
theorem dL_law_779 : decode cL_law 779 = .ok (.iconst 1, 1) := by decide +kernel
theorem dL_law_780 : decode cL_law 780 = .ok (.iadd, 1) := by decide +kernel
theorem dL_law_781 : decode cL_law 781 = .ok (.iaload, 1) := by decide +kernel
theorem dL_law_782 : decode cL_law 782 = .ok (.invokevirtual 112, 3) := by decide +kernel
theorem dL_law_785 : decode cL_law 785 = .ok (.if_icmp .eq 19, 3) := by decide +kernel
theorem dL_law_788 : decode cL_law 788 = .ok (.iconst 0, 1) := by decide +kernel
theorem dL_law_789 : decode cL_law 789 = .ok (.ireturn, 1) := by decide +kernel
theorem dL_law_790 : decode cL_law 790 = .ok (.aload_n 1, 1) := by decide +kernel
theorem dL_law_791 : decode cL_law 791 = .ok (.invokevirtual 113, 3) := by decide +kernel
theorem dL_law_794 : decode cL_law 794 = .ok (.aload_n 2, 1) := by decide +kernel
theorem dL_law_795 : decode cL_law 795 = .ok (.invokevirtual 117, 3) := by decide +kernel
theorem dL_law_798 : decode cL_law 798 = .ok (.lcmp, 1) := by decide +kernel
theorem dL_law_799 : decode cL_law 799 = .ok (.ifCond .eq 5, 3) := by decide +kernel
theorem dL_law_802 : decode cL_law 802 = .ok (.iconst 0, 1) := by decide +kernel
theorem dL_law_803 : decode cL_law 803 = .ok (.ireturn, 1) := by decide +kernel
theorem dL_law_804 : decode cL_law 804 = .ok (.iinc 3 4, 3) := by decide +kernel
theorem dL_law_807 : decode cL_law 807 = .ok (.goto (-789), 3) := by decide +kernel
theorem dL_law_810 : decode cL_law 810 = .ok (.iconst 1, 1) := by decide +kernel
theorem dL_law_811 : decode cL_law 811 = .ok (.ireturn, 1) := by decide +kernel
end
section
/-! ints as Int, a memory as a function, one world of numbered objects -/
abbrev zMem : Type := Nat → Nat → Int
def zI (x : Int) : Int32 := Int32.ofInt x
def zJ (x : Int) : Int64 := Int64.ofInt x
abbrev zR (x : Int) : Prop := -2147483648 ≤ x ∧ x < 2147483648
def zU (σ : zMem) (o k : Nat) (v : Int) : zMem := fun a b => if a = o ∧ b = k then v else σ a b
theorem zI_toInt {x : Int} (h : zR x) : (zI x).toInt = x := Int32.toInt_ofInt_of_le (by omega) (by omega)
theorem zI_lt {a b : Int} (ha : zR a) (hb : zR b) : zI a < zI b ↔ a < b := by rw [Int32.lt_iff_toInt_lt, zI_toInt ha, zI_toInt hb]
theorem zI_le {a b : Int} (ha : zR a) (hb : zR b) : zI a ≤ zI b ↔ a ≤ b := by rw [Int32.le_iff_toInt_le, zI_toInt ha, zI_toInt hb]
theorem zI_eq {a b : Int} (ha : zR a) (hb : zR b) : zI a = zI b ↔ a = b := by
  constructor
  · intro h
    have h2 := congrArg Int32.toInt h
    rwa [zI_toInt ha, zI_toInt hb] at h2
  · intro h; rw [h]
theorem zI_0 : zI 0 = 0 := by decide +kernel
theorem zR_0 : zR 0 := by omega
theorem zI_add (a b : Int) : zI a + zI b = zI (a + b) := (Int32.ofInt_add a b).symm
theorem zI_sub (a b : Int) : zI a - zI b = zI (a - b) := (Int32.ofInt_sub a b).symm
theorem zI_mul (a b : Int) : zI a * zI b = zI (a * b) := (Int32.ofInt_mul a b).symm
theorem zI_of (x : Int32) : zI x.toInt = x := Int32.ofInt_toInt x
theorem zR_of (x : Int32) : zR x.toInt := ⟨by have := Int32.le_toInt x; omega, by have := Int32.toInt_lt x; omega⟩
theorem zI_ge0 {a : Int} (ha : zR a) : 0 ≤ zI a ↔ 0 ≤ a := by rw [← zI_0, zI_le zR_0 ha]
theorem zI_lt0 {a : Int} (ha : zR a) : zI a < 0 ↔ a < 0 := by rw [← zI_0, zI_lt ha zR_0]
theorem zI_le0 {a : Int} (ha : zR a) : zI a ≤ 0 ↔ a ≤ 0 := by rw [← zI_0, zI_le ha zR_0]
theorem zI_eq0 {a : Int} (ha : zR a) : zI a = 0 ↔ a = 0 := by rw [← zI_0, zI_eq ha zR_0]
theorem zI_div {a b : Int} (ha : 0 ≤ a) (ha2 : a < 2147483648) (hb : 0 < b) (hb2 : b < 2147483648) : zI a / zI b = zI (a / b) := by
  have h1 : (zI a).toInt = a := zI_toInt (by omega)
  have h2 : (zI b).toInt = b := zI_toInt (by omega)
  have h3 : (zI a / zI b).toInt = a / b := by
    rw [Int32.toInt_div_of_ne_right _ _ (by intro h; have := congrArg Int32.toInt h; rw [h2] at this; revert this; have : (-1 : Int32).toInt = -1 := by decide +kernel
                                            rw [this]; omega), h1, h2, Int.tdiv_eq_ediv_of_nonneg ha]
  rw [← Int32.ofInt_toInt (zI a / zI b), h3]
  rfl
theorem zI_rem {a b : Int} (ha : 0 ≤ a) (ha2 : a < 2147483648) (hb : 0 < b) (hb2 : b < 2147483648) : zI a - zI a / zI b * zI b = zI (a % b) := by
  rw [zI_div ha ha2 hb hb2, zI_mul, zI_sub, Int.emod_def, Int.mul_comm]
theorem zI_nat {i : Nat} (h : i < 2147483648) : (zI (i : Int)).toNatClampNeg = i := by
  show (zI (i : Int)).toInt.toNat = i
  rw [zI_toInt (by omega)]
  omega
theorem zI_in {i n : Nat} (h : i < n) (hn : n < 2147483648) : vp_in (zI (i : Int)) n := by
  intro q
  rcases q with q | q
  · rw [zI_lt0 (by omega)] at q; omega
  · rw [zI_nat (by omega)] at q; omega
theorem zJ_toInt {x : Int} (h : -9223372036854775808 ≤ x) (h2 : x < 9223372036854775808) : (zJ x).toInt = x := Int64.toInt_ofInt_of_le (by omega) (by omega)
theorem zJ_add (a b : Int) : zJ a + zJ b = zJ (a + b) := (Int64.ofInt_add a b).symm
theorem zJ_sub (a b : Int) : zJ a - zJ b = zJ (a - b) := (Int64.ofInt_sub a b).symm
theorem zJ_mul (a b : Int) : zJ a * zJ b = zJ (a * b) := (Int64.ofInt_mul a b).symm
theorem zJ_0 : zJ 0 = 0 := by decide +kernel
theorem zJ_i2l {x : Int} (h : zR x) : (zI x).toInt64 = zJ x := by
  rw [← Int64.ofInt_toInt (zI x).toInt64, Int32.toInt_toInt64, zI_toInt h]
  rfl
theorem zJ_l2i {x : Int} (h : zR x) : (zJ x).toInt32 = zI x := by
  rw [← Int32.ofInt_toInt (zJ x).toInt32, Int64.toInt_toInt32, zJ_toInt (by omega) (by omega)]
  unfold zI
  congr 1
  rw [Int.bmod_eq_of_le (by omega) (by omega)]
theorem zJ_div {a b : Int} (ha : 0 ≤ a) (ha2 : a < 9223372036854775808) (hb : 0 < b) (hb2 : b < 9223372036854775808) : zJ a / zJ b = zJ (a / b) := by
  have h1 : (zJ a).toInt = a := zJ_toInt (by omega) ha2
  have h2 : (zJ b).toInt = b := zJ_toInt (by omega) hb2
  have h3 : (zJ a / zJ b).toInt = a / b := by
    rw [Int64.toInt_div_of_ne_right _ _ (by intro h; have := congrArg Int64.toInt h; rw [h2] at this; revert this; have : (-1 : Int64).toInt = -1 := by decide +kernel
                                            rw [this]; omega), h1, h2, Int.tdiv_eq_ediv_of_nonneg ha]
  rw [← Int64.ofInt_toInt (zJ a / zJ b), h3]
  rfl
theorem zJ_rem {a b : Int} (ha : 0 ≤ a) (ha2 : a < 9223372036854775808) (hb : 0 < b) (hb2 : b < 9223372036854775808) : zJ a - zJ a / zJ b * zJ b = zJ (a % b) := by
  rw [zJ_div ha ha2 hb hb2, zJ_mul, zJ_sub, Int.emod_def, Int.mul_comm]
theorem zJ_ne0 {b : Int} (hb : 0 < b) (hb2 : b < 9223372036854775808) : ¬ zJ b = 0 := by
  intro h
  have h1 := congrArg Int64.toInt h
  rw [zJ_toInt (by omega) hb2, Int64.toInt_zero] at h1
  omega
theorem zI_ne0 {b : Int} (hb : 0 < b) (hb2 : b < 2147483648) : ¬ zI b = 0 := by rw [zI_eq0 (by omega)]; omega
/-! the objects: their kinds, lengths, fields -/
def zLn : List Nat := [1, 6, 11, 6, 11, 6, 11, 6, 11]
def zSg : List Nat := [8, 6, 11, 6, 11, 6, 11]
def zkL : List Nat := [9] ++ [2, 6, 11] ++ zLn ++ zSg ++ zLn ++ zSg ++ zLn ++ [7, 6, 11, 6, 11] ++ [5, 13] ++ zLn ++ zLn ++ zLn ++ zLn ++ zLn ++ [6, 11, 6, 11] ++ [3, 6, 11, 6, 11] ++ [4] ++ [0] ++ [10, 11, 11, 11, 11, 11, 11, 12, 11, 11, 11, 11, 11, 11, 11, 11, 11, 11, 11, 11, 11]
def zLz : List Nat := [0, 0, 6, 0, 6, 0, 6, 0, 6]
def zSz : List Nat := [0, 0, 6, 0, 6, 0, 6]
def zlL : List Nat := [0] ++ [0, 0, 26] ++ zLz ++ zSz ++ zLz ++ zSz ++ zLz ++ [0, 0, 100, 0, 21] ++ [0, 5] ++ zLz ++ zLz ++ zLz ++ zLz ++ zLz ++ [0, 4, 0, 4] ++ [0, 0, 6, 0, 6] ++ [0] ++ [0] ++ [0, 6, 6, 6, 6, 6, 6, 26, 6, 6, 64, 6, 49, 49, 21, 6, 6, 6, 6, 6, 6]
def zT : Nat := 129
theorem zkL_len : zkL.length = 129 ∧ zlL.length = 129 := by decide +kernel
def zk (o : Nat) : Nat := zkL.getD o 99
def zl (o : Nat) : Nat := zlL.getD o 0
/-- fields of a kind: 0 int, 1 long, 2 boolean, d + 2 a reference to the object d places on -/
def zt (c : Nat) : List Nat := match c with
  | 0 => [1]
  | 1 => [3, 5, 7, 9, 0, 0, 0]
  | 2 => [3, 0]
  | 3 => [3, 5, 0]
  | 4 => [0, 0, 0, 0]
  | 5 => [3, 49, 51, 0, 0, 0, 0]
  | 6 => [3]
  | 7 => [3, 5]
  | 8 => [3, 5, 7, 0]
  | 9 => [3, 6, 15, 22, 31, 38, 47, 52, 103, 108, 109, 2, 0]
  | 10 => [0, 0, 3, 4, 5, 0, 0, 0, 0, 6, 7, 8, 0, 9, 2, 0, 10, 11, 0, 0, 0, 0, 0, 12, 13, 14, 15, 16, 1, 2, 0, 0, 0, 0, 0, 17, 18, 19, 20, 21, 22, 1]
  | _ => []
def zv (B o t : Nat) (x : Int) : Value := match t with
  | 0 => .int (zI x)
  | 1 => .long (zJ x)
  | 2 => .int (zI x)
  | t + 3 => if x = 0 then .null else .ref (B + (o + (t + 1)))
abbrev zGt : Type := Nat × va_G × (ClassId × ClassId × ClassId) × ((Nat → Nat) × (Nat → Nat))
abbrev zB (G : zGt) : Nat := G.1
abbrev zD (G : zGt) : va_G := G.2.1
abbrev zA (G : zGt) : Nat → Prop := fun q => zB G ≤ q
abbrev zty (G : zGt) : List (ClassId × FieldType) := [(G.2.2.1.1, .int), (G.2.2.1.2.1, .byte), (G.2.2.1.2.2, .object RX1)]
def zF (G : zGt) (σ : zMem) (o : Nat) : List Value := (List.range (zt (zk o)).length).map (fun k => zv (zB G) o ((zt (zk o)).getD k 0) (σ o k))
def zE (G : zGt) (σ : zMem) (o : Nat) : va_E :=
  if zk o < 11 then .inr (zk o, zF G σ o)
  else if zk o = 11 then .inl (G.2.2.1.1, zl o, .inl (fun i => zI (σ o i)))
  else if zk o = 12 then .inl (G.2.2.1.2.1, zl o, .inl (fun i => zI (σ o i)))
  else .inl (G.2.2.1.2.2, zl o, .inr (.inr (.inr (.inr (fun i => if σ o i = 0 then none else some (zB G + (o + (1 + 9 * i))))))))
def zw (G : zGt) (T : Nat) (σ : zMem) : va_W := (List.range T).map (fun o => (zB G + o, zE G σ o))
theorem zw_get {G : zGt} {T : Nat} {σ : zMem} {o : Nat} (h : o < T) : (zw G T σ)[o]? = some (zB G + o, zE G σ o) := by simp [zw, h]
theorem zF_get {G : zGt} {σ : zMem} {o k t : Nat} (h : (zt (zk o))[k]? = some t) : (zF G σ o)[k]? = some (zv (zB G) o t (σ o k)) := by
  have hl := (List.getElem?_eq_some_iff.mp h).1
  have h2 := (List.getElem?_eq_some_iff.mp h).2
  simp [zF, hl, h2]
theorem zE_congr {G : zGt} {σ σ' : zMem} {o : Nat} (h : σ' o = σ o) : zE G σ' o = zE G σ o := by
  unfold zE zF
  rw [h]
theorem zw_set {G : zGt} {T : Nat} {σ σ' : zMem} {o : Nat} (h : o < T) (hs : ∀ a, a ≠ o → σ' a = σ a) : (zw G T σ).set o (zB G + o, zE G σ' o) = zw G T σ' := by
  apply List.ext_getElem?
  intro k
  rw [List.getElem?_set]
  by_cases hk : o = k
  · subst hk
    simp [zw, h]
  · rw [if_neg hk]
    by_cases hkT : k < T
    · rw [zw_get hkT, zw_get hkT, zE_congr (hs k (Ne.symm hk))]
    · simp [zw, hkT]
theorem zw_push {G : zGt} {T : Nat} {σ : zMem} : zw G T σ ++ [(zB G + T, zE G σ T)] = zw G (T + 1) σ := by simp [zw, List.range_succ]
theorem zw_len {G : zGt} {T : Nat} {σ : zMem} {k : Nat} {q : Nat × va_E} (h : (zw G T σ)[k]? = some q) : k < T ∧ q = (zB G + k, zE G σ k) := by
  have hl := (List.getElem?_eq_some_iff.mp h).1
  have hk : k < T := by simpa [zw] using hl
  rw [zw_get hk] at h
  exact ⟨hk, (Option.some.inj h).symm⟩
theorem zw_D {G : zGt} {T : Nat} {σ : zMem} : va_D (zA G) (zw G T σ) := by
  refine ⟨fun i j p q hi hj he => ?_, fun k q hk => ?_⟩
  · obtain ⟨-, rfl⟩ := zw_len hi
    obtain ⟨-, rfl⟩ := zw_len hj
    dsimp only at he
    omega
  · obtain ⟨-, rfl⟩ := zw_len hk
    exact Nat.le_add_right _ _
/-! what the tables say, at every state -/
def zTW (U : State) : Prop := (∀ w ∈ lw_tbl, goodWord w = true → ∀ a, w.before a U = true) ∧ (∀ o i r n d h, Cond.fieldLinkNest o i r n d h ∈ lw_tbl → va_Nw (.fieldLinkNest o i r n d h) U) ∧ (∀ o i x h, Cond.methodLinkNest o i x h ∈ lw_tbl → va_Nw (.methodLinkNest o i x h) U)
theorem zTW.warm {s U : State} (hW : s.WarmedH U.vm) (h : zTW s) : zTW U :=
  ⟨fun w hw hg a => word_at (args := #[]) hW (good_of_word hg) (h.1 w hw hg #[]), fun o i r n d k hw => va_Nw.warmF hW (h.2.1 o i r n d k hw), fun o i x k hw => va_Nw.warmM hW (h.2.2 o i x k hw)⟩
def zS (G : zGt) (U : State) (H : Heap) : Prop := va_K (zD G) vwCl (zty G) U ∧ va_AO RX1 U ∧ zTW U ∧ vk_R RX2 43 "hwoyt" (G.2.2.2.1 0) U ∧ vk_S 1 [5] [[104, 119, 111, 121, 116]] G.2.2.2.1 G.2.2.2.2 (zA G) U H
theorem zS.warm {G : zGt} {s U : State} {H : Heap} (hW : s.WarmedH U.vm) (h : zS G s H) : zS G U H :=
  ⟨va_K.moved hW.alike h.1, va_AO.moved hW.alike h.2.1, h.2.2.1.warm hW, vk_R.warm hW h.2.2.2.1, vk_S.moved hW.alike h.2.2.2.2⟩
theorem zS.kept {G : zGt} {U : State} {H H1 : Heap} (hq : ∀ a : Nat, a < H.size → ¬ zA G a → H1[a]? = H[a]?) (h : zS G U H) : zS G U H1 := ⟨h.1, h.2.1, h.2.2.1, h.2.2.2.1, vk_S.kept h.2.2.2.2 hq⟩
/-- references are set (where the world is complete), numbers are in their ranges -/
def zBu (c : Bool) (σ : zMem) : Prop := (c = true → ∀ o k, 3 ≤ (zt (zk o)).getD k 0 ∨ zk o = 13 → σ o k ≠ 0) ∧ ∀ o k, ¬ (zt (zk o)).getD k 0 = 1 → zR (σ o k)
abbrev zXt : Type := Program × Launch × Env × Room × State × MethodId × Array Value × List Frame × Method × Code × (State → Prop)
/-- the judgement: from this place of the method, over any heap that holds the memory -/
def zg (G : zGt) (X : zXt) (c : Bool) (nL T ce sl pc : Nat) (lv : List (Nat × Value)) (st : List Value) (σ : zMem) : Prop :=
  ∀ (H : Heap) (locs : List Loc) (ls : Array Slot), H.size = zB G + T → va_P (zD G) vwCl (zw G T σ) H → va_S (zA G) X.2.2.2.2.1.heap H locs → lv_has ls nL lv → zBu c σ →
    W X.1 X.2.1 X.2.2.1 X.2.2.2.1 X.2.2.2.2.1 X.2.2.2.2.2.1 X.2.2.2.2.2.2.1 X.2.2.2.2.2.2.2.1 X.2.2.2.2.2.2.2.2.1 X.2.2.2.2.2.2.2.2.2.1 H locs ce sl X.2.2.2.2.2.2.2.2.2.2 (F0 X.2.2.2.2.2.1 pc ls st)
def zQ (G : zGt) (c : Bool) (T : Nat) (post : Option Value → zMem → Prop) : Array Value → State → Outcome → State → Prop := fun _ st oc t =>
  ∃ (v : Option Value) (σ : zMem), oc = .returned v ∧ post v σ ∧ zBu c σ ∧ t.heap.size = zB G + T ∧ va_P (zD G) vwCl (zw G T σ) t.heap ∧ ∀ q : Nat, q < st.heap.size → ¬ zA G q → t.heap[q]? = st.heap[q]?
def zP (G : zGt) (c : Bool) (T : Nat) (σ : zMem) (U : State) : Prop := zS G U U.heap ∧ zB G ≤ U.heap.size ∧ U.heap.size = zB G + T ∧ va_P (zD G) vwCl (zw G T σ) U.heap ∧ zBu c σ
/-- a contract -/
def zM (l : Launch) (G : zGt) (y : MethodName) (cc : ByteArray) (nL : Nat) (ret : Option FieldType) (c : Bool) (fr lo mc ms T T1 : Nat) (av : List Value) (σ : zMem) (post : Option Value → zMem → Prop) : Prop :=
  Met l y [.code y cc nL ret] { frames := fr, cells := mc, slots := ms, locals := lo } (va_Pc av (zP G c T σ)) (zQ G c T1 post) mc ms (zA G)
def zC (G : zGt) (X : zXt) (cc : ByteArray) (nL : Nat) (own : String) (ret : Option FieldType) (c : Bool) (fr lo mc ms T1 : Nat) (post : Option Value → zMem → Prop) (isI : Bool) (l : Launch) : Prop :=
  X.1.tables.exec = Jvm.exec ∧ X.2.2.2.2.2.2.2.2.2.1.code = cc ∧ X.2.2.2.2.2.2.2.2.2.1.maxLocals = nL ∧ X.2.2.2.2.1.vm.findClass own = some X.2.2.2.2.2.1.cls ∧ zS G X.2.2.2.2.1 X.2.2.2.2.1.heap ∧ zB G ≤ X.2.2.2.2.1.heap.size ∧
  X.2.2.2.2.2.2.2.2.1.locks = false ∧ X.2.2.2.2.2.2.2.2.1.sig.returnType = ret ∧ X.2.2.2.1 = { frames := fr, cells := mc, slots := ms, locals := lo } ∧
  X.2.2.2.2.2.2.2.2.2.2 = MQ X.2.2.2.2.2.2.2.1 (zQ G c T1 post) X.2.2.2.2.2.2.1 X.2.2.2.2.1 mc ms (zA G) ∧ (isI = true → X.2.2.2.2.2.2.2.2.1.name = "<init>") ∧ X.2.1 = l
theorem zTW.same {u U : State} (h : u.vm = U.vm) (hz : zTW u) : zTW U := zTW.warm (by rw [← h]; exact State.WarmedH.refl u) hz
theorem zP.blind {G : zGt} {c : Bool} {T : Nat} {σ : zMem} {av : List Value} : FrameBlind (va_Pc av (zP G c T σ)) := by
  rintro a U g mk ⟨h1, ⟨k1, k2, k3, k4, k5⟩, h2, h3, h4, h5⟩
  exact ⟨h1, ⟨va_K.moved (u := U) (U := U.calling g mk a) (Vm.Alike.refl U.vm) k1, va_AO.moved (u := U) (U := U.calling g mk a) (Vm.Alike.refl U.vm) k2, zTW.same (u := U) rfl k3, vk_R.same (u := U) rfl k4, vk_S.moved (u := U) (U := U.calling g mk a) (Vm.Alike.refl U.vm) k5⟩, h2, h3, h4, h5⟩
theorem zM.of {l : Launch} {G : zGt} {y : MethodName} {cc : ByteArray} {nL : Nat} {ret : Option FieldType} {c : Bool} {fr lo mc ms T T1 : Nat} {av : List Value} {σ : zMem} {post : Option Value → zMem → Prop} {lv0 : List (Nat × Value)} (hy : plainName y.cls = true) (hn : (lg_sl av).length ≤ nL) (hlv : lv_args 0 av = lv0)
    (body : ∀ X : zXt, zC G X cc nL y.cls ret c fr lo mc ms T1 post (y.name == "<init>") l → zg G X c nL T 0 0 0 lv0 [] σ) : zM l G y cc nL ret c fr lo mc ms T T1 av σ post := by
  refine Met.ofW (cc := cc) (maxL := nL) (ret := ret) hy rfl ?_
  rintro p e s m args below meth co s₁ B hml ⟨rfl, h1, h2, h3, h4, h5⟩
  have hC : zC G (p, l, e, (headSpec [Cond.code y cc nL ret] { frames := fr, cells := mc, slots := ms, locals := lo }).room, s, m, av.toArray, below, meth, co, MQ below (zQ G c T1 post) av.toArray s mc ms (zA G)) cc nL y.cls ret c fr lo mc ms T1 post (y.name == "<init>") l :=
    ⟨B.exec, B.bytes, hml, findClass_of_methodNamed B.named, h1, h2, B.notSynchronized, B.returns, rfl, rfl, fun h => by rw [(name_of_methodNamed B.named B.method).1]; exact beq_iff_eq.mp h, rfl⟩
  have hl := lv_entry av (n := nL) hn
  rw [lg_entry_eq]
  rw [hlv] at hl
  exact body _ hC s.heap [] _ h3 h4 va_S.rf hl h5
end
section
theorem zI_gt0 {a : Int} (ha : zR a) : 0 < zI a ↔ 0 < a := by rw [← zI_0, zI_lt zR_0 ha]
section ZR
variable {G : zGt} {X : zXt} {c : Bool} {nL T ce sl pc fr lo mc ms T1 : Nat} {lv : List (Nat × Value)} {st : List Value} {σ : zMem} {cc : ByteArray} {own : String} {ret : Option FieldType} {post : Option Value → zMem → Prop} {isI : Bool} {l : Launch}
theorem z_iload_n (C : zC G X cc nL own ret c fr lo mc ms T1 post isI l) {k : Fin 4} {i : Nat} {x : Int32} (hd : decode cc pc = .ok (.iload_n k, 1)) (hi : (k : Nat) = i) (j : Nat) (hj : lv[j]? = some (i, .int x)) (kk : zg G X c nL T ce sl (pc + 1) lv (.int x :: st) σ) : zg G X c nL T ce sl pc lv (st) σ := fun H locs ls hz hP hS hl hb => lv_iload_n C.1 C.2.1 hd hi (lv_at hl j hj) (kk H locs ls hz hP hS hl hb)
theorem z_iload (C : zC G X cc nL own ret c fr lo mc ms T1 post isI l) {i : Nat} {x : Int32} (hd : decode cc pc = .ok (.iload i, 2)) (j : Nat) (hj : lv[j]? = some (i, .int x)) (kk : zg G X c nL T ce sl (pc + 2) lv (.int x :: st) σ) : zg G X c nL T ce sl pc lv (st) σ := fun H locs ls hz hP hS hl hb => lv_iload C.1 C.2.1 hd (lv_at hl j hj) (kk H locs ls hz hP hS hl hb)
theorem z_lload_n (C : zC G X cc nL own ret c fr lo mc ms T1 post isI l) {k : Fin 4} {i : Nat} {x : Int64} (hd : decode cc pc = .ok (.lload_n k, 1)) (hi : (k : Nat) = i) (j : Nat) (hj : lv[j]? = some (i, .long x)) (kk : zg G X c nL T ce sl (pc + 1) lv (.long x :: st) σ) : zg G X c nL T ce sl pc lv (st) σ := fun H locs ls hz hP hS hl hb => lv_lload_n C.1 C.2.1 hd hi (lv_at hl j hj) (kk H locs ls hz hP hS hl hb)
theorem z_lload (C : zC G X cc nL own ret c fr lo mc ms T1 post isI l) {i : Nat} {x : Int64} (hd : decode cc pc = .ok (.lload i, 2)) (j : Nat) (hj : lv[j]? = some (i, .long x)) (kk : zg G X c nL T ce sl (pc + 2) lv (.long x :: st) σ) : zg G X c nL T ce sl pc lv (st) σ := fun H locs ls hz hP hS hl hb => lv_lload C.1 C.2.1 hd (lv_at hl j hj) (kk H locs ls hz hP hS hl hb)
theorem z_aload_n (C : zC G X cc nL own ret c fr lo mc ms T1 post isI l) {k : Fin 4} {i : Nat} {x : Nat} (hd : decode cc pc = .ok (.aload_n k, 1)) (hi : (k : Nat) = i) (j : Nat) (hj : lv[j]? = some (i, .ref x)) (kk : zg G X c nL T ce sl (pc + 1) lv (.ref x :: st) σ) : zg G X c nL T ce sl pc lv (st) σ := fun H locs ls hz hP hS hl hb => lv_aload_n C.1 C.2.1 hd hi (lv_at hl j hj) (kk H locs ls hz hP hS hl hb)
theorem z_aload (C : zC G X cc nL own ret c fr lo mc ms T1 post isI l) {i : Nat} {x : Nat} (hd : decode cc pc = .ok (.aload i, 2)) (j : Nat) (hj : lv[j]? = some (i, .ref x)) (kk : zg G X c nL T ce sl (pc + 2) lv (.ref x :: st) σ) : zg G X c nL T ce sl pc lv (st) σ := fun H locs ls hz hP hS hl hb => lv_aload C.1 C.2.1 hd (lv_at hl j hj) (kk H locs ls hz hP hS hl hb)
theorem z_istore_n (C : zC G X cc nL own ret c fr lo mc ms T1 post isI l) {k : Fin 4} {i : Nat} {x : Int32} {lv' : List (Nat × Value)} (hd : decode cc pc = .ok (.istore_n k, 1)) (hi : (k : Nat) = i) (hn : i < nL) (hlv : (i, Value.int x) :: lv.filter (fun q => !(q.1 == i) && !(q.1 + 1 == i && q.2.category == 2)) = lv') (kk : zg G X c nL T ce sl (pc + 1) lv' (st) σ) : zg G X c nL T ce sl pc lv (.int x :: st) σ := fun H locs ls hz hP hS hl hb => lv_istore_n C.1 C.2.1 hd hi hl hn hlv (fun ls hl => (kk H locs ls hz hP hS hl hb))
theorem z_istore (C : zC G X cc nL own ret c fr lo mc ms T1 post isI l) {i : Nat} {x : Int32} {lv' : List (Nat × Value)} (hd : decode cc pc = .ok (.istore i, 2)) (hn : i < nL) (hlv : (i, Value.int x) :: lv.filter (fun q => !(q.1 == i) && !(q.1 + 1 == i && q.2.category == 2)) = lv') (kk : zg G X c nL T ce sl (pc + 2) lv' (st) σ) : zg G X c nL T ce sl pc lv (.int x :: st) σ := fun H locs ls hz hP hS hl hb => lv_istore C.1 C.2.1 hd hl hn hlv (fun ls hl => (kk H locs ls hz hP hS hl hb))
theorem z_astore_n (C : zC G X cc nL own ret c fr lo mc ms T1 post isI l) {k : Fin 4} {i : Nat} {x : Nat} {lv' : List (Nat × Value)} (hd : decode cc pc = .ok (.astore_n k, 1)) (hi : (k : Nat) = i) (hn : i < nL) (hlv : (i, Value.ref x) :: lv.filter (fun q => !(q.1 == i) && !(q.1 + 1 == i && q.2.category == 2)) = lv') (kk : zg G X c nL T ce sl (pc + 1) lv' (st) σ) : zg G X c nL T ce sl pc lv (.ref x :: st) σ := fun H locs ls hz hP hS hl hb => lv_astore_n C.1 C.2.1 hd hi hl hn hlv (fun ls hl => (kk H locs ls hz hP hS hl hb))
theorem z_astore (C : zC G X cc nL own ret c fr lo mc ms T1 post isI l) {i : Nat} {x : Nat} {lv' : List (Nat × Value)} (hd : decode cc pc = .ok (.astore i, 2)) (hn : i < nL) (hlv : (i, Value.ref x) :: lv.filter (fun q => !(q.1 == i) && !(q.1 + 1 == i && q.2.category == 2)) = lv') (kk : zg G X c nL T ce sl (pc + 2) lv' (st) σ) : zg G X c nL T ce sl pc lv (.ref x :: st) σ := fun H locs ls hz hP hS hl hb => lv_astore C.1 C.2.1 hd hl hn hlv (fun ls hl => (kk H locs ls hz hP hS hl hb))
theorem z_lstore_n (C : zC G X cc nL own ret c fr lo mc ms T1 post isI l) {k : Fin 4} {i : Nat} {x : Int64} {lv' : List (Nat × Value)} (hd : decode cc pc = .ok (.lstore_n k, 1)) (hi : (k : Nat) = i) (hn : i + 1 < nL) (hlv : (i, Value.long x) :: lv.filter (fun q => !(q.1 == i) && (!(q.1 == i + 1) && !(q.1 + 1 == i && q.2.category == 2))) = lv') (kk : zg G X c nL T ce sl (pc + 1) lv' (st) σ) : zg G X c nL T ce sl pc lv (.long x :: st) σ := fun H locs ls hz hP hS hl hb => lv_lstore_n C.1 C.2.1 hd hi hl hn hlv (fun ls hl => (kk H locs ls hz hP hS hl hb))
theorem z_lstore (C : zC G X cc nL own ret c fr lo mc ms T1 post isI l) {i : Nat} {x : Int64} {lv' : List (Nat × Value)} (hd : decode cc pc = .ok (.lstore i, 2)) (hn : i + 1 < nL) (hlv : (i, Value.long x) :: lv.filter (fun q => !(q.1 == i) && (!(q.1 == i + 1) && !(q.1 + 1 == i && q.2.category == 2))) = lv') (kk : zg G X c nL T ce sl (pc + 2) lv' (st) σ) : zg G X c nL T ce sl pc lv (.long x :: st) σ := fun H locs ls hz hP hS hl hb => lv_lstore C.1 C.2.1 hd hl hn hlv (fun ls hl => (kk H locs ls hz hP hS hl hb))
theorem z_iinc (C : zC G X cc nL own ret c fr lo mc ms T1 post isI l) {i : Nat} {n a : Int} {lv' : List (Nat × Value)} (hd : decode cc pc = .ok (.iinc i n, 3)) (j : Nat) (hj : lv[j]? = some (i, .int (zI a))) (hn : i < nL) (hlv : (i, Value.int (zI (a + n))) :: lv.filter (fun q => !(q.1 == i) && !(q.1 + 1 == i && q.2.category == 2)) = lv') (kk : zg G X c nL T ce sl (pc + 3) lv' (st) σ) : zg G X c nL T ce sl pc lv (st) σ := fun H locs ls hz hP hS hl hb => lv_iinc C.1 C.2.1 hd hl hj (zI_add a n) hn hlv (fun ls hl => (kk H locs ls hz hP hS hl hb))
theorem z_iconst (C : zC G X cc nL own ret c fr lo mc ms T1 post isI l) {n : Int} (hd : decode cc pc = .ok (.iconst n, 1)) (kk : zg G X c nL T ce sl (pc + 1) lv (.int (zI n) :: st) σ) : zg G X c nL T ce sl pc lv (st) σ := fun H locs ls hz hP hS hl hb => lv_iconst C.1 C.2.1 hd rfl (kk H locs ls hz hP hS hl hb)
theorem z_bipush (C : zC G X cc nL own ret c fr lo mc ms T1 post isI l) {n : Int} (hd : decode cc pc = .ok (.bipush n, 2)) (hv : (Int8.ofInt n).toInt32 = zI n) (kk : zg G X c nL T ce sl (pc + 2) lv (.int (zI n) :: st) σ) : zg G X c nL T ce sl pc lv (st) σ := fun H locs ls hz hP hS hl hb => lv_bipush C.1 C.2.1 hd hv (kk H locs ls hz hP hS hl hb)
theorem z_sipush (C : zC G X cc nL own ret c fr lo mc ms T1 post isI l) {n : Int} (hd : decode cc pc = .ok (.sipush n, 3)) (hv : (Int16.ofInt n).toInt32 = zI n) (kk : zg G X c nL T ce sl (pc + 3) lv (.int (zI n) :: st) σ) : zg G X c nL T ce sl pc lv (st) σ := fun H locs ls hz hP hS hl hb => lv_sipush C.1 C.2.1 hd hv (kk H locs ls hz hP hS hl hb)
theorem z_ldc (C : zC G X cc nL own ret c fr lo mc ms T1 post isI l) {n : Int} {v : Int32} {index : Nat} (hd : decode cc pc = .ok (.ldc index, 2)) (hw : Cond.constant own index v ∈ lw_tbl ∧ goodWord (Cond.constant own index v) = true) (hv : v = zI n) (kk : zg G X c nL T ce sl (pc + 2) lv (.int (zI n) :: st) σ) : zg G X c nL T ce sl pc lv (st) σ := fun H locs ls hz hP hS hl hb => lv_ldc C.1 C.2.1 C.2.2.2.1 (C.2.2.2.2.1.2.2.1.1 _ hw.1 hw.2 _) hd (by rw [hv]; exact kk H locs ls hz hP hS hl hb)
theorem z_ldc2 (C : zC G X cc nL own ret c fr lo mc ms T1 post isI l) {n : Int} {v : Int64} {index : Nat} (hd : decode cc pc = .ok (.ldc2_w index, 3)) (hw : Cond.constantLong own index v ∈ lw_tbl ∧ goodWord (Cond.constantLong own index v) = true) (hv : v = zJ n) (kk : zg G X c nL T ce sl (pc + 3) lv (.long (zJ n) :: st) σ) : zg G X c nL T ce sl pc lv (st) σ := fun H locs ls hz hP hS hl hb => lv_ldc2 C.1 C.2.1 C.2.2.2.1 (C.2.2.2.2.1.2.2.1.1 _ hw.1 hw.2 _) hd (by rw [hv]; exact kk H locs ls hz hP hS hl hb)
theorem z_null (C : zC G X cc nL own ret c fr lo mc ms T1 post isI l)  (hd : decode cc pc = .ok (.aconst_null, 1)) (kk : zg G X c nL T ce sl (pc + 1) lv (.null :: st) σ) : zg G X c nL T ce sl pc lv (st) σ := fun H locs ls hz hP hS hl hb => lv_null C.1 C.2.1 hd (kk H locs ls hz hP hS hl hb)
theorem z_dup (C : zC G X cc nL own ret c fr lo mc ms T1 post isI l) {va : Value} (hd : decode cc pc = .ok (.dup, 1)) (hva : va.category = 1) (kk : zg G X c nL T ce sl (pc + 1) lv (va :: va :: st) σ) : zg G X c nL T ce sl pc lv (va :: st) σ := fun H locs ls hz hP hS hl hb => lv_dup C.1 C.2.1 hd hva (kk H locs ls hz hP hS hl hb)
theorem z_dup2 (C : zC G X cc nL own ret c fr lo mc ms T1 post isI l) {va vb : Value} (hd : decode cc pc = .ok (.dup2, 1)) (hva : va.category = 1) (hvb : vb.category = 1) (kk : zg G X c nL T ce sl (pc + 1) lv (va :: vb :: va :: vb :: st) σ) : zg G X c nL T ce sl pc lv (va :: vb :: st) σ := fun H locs ls hz hP hS hl hb => lv_dup2_11 C.1 C.2.1 hd hva hvb (kk H locs ls hz hP hS hl hb)
theorem z_pop (C : zC G X cc nL own ret c fr lo mc ms T1 post isI l) {va : Value} (hd : decode cc pc = .ok (.pop, 1)) (hva : va.category = 1) (kk : zg G X c nL T ce sl (pc + 1) lv (st) σ) : zg G X c nL T ce sl pc lv (va :: st) σ := fun H locs ls hz hP hS hl hb => lv_pop C.1 C.2.1 hd hva (kk H locs ls hz hP hS hl hb)
theorem z_iadd (C : zC G X cc nL own ret c fr lo mc ms T1 post isI l) {a b : Int} (hd : decode cc pc = .ok (.iadd, 1)) (kk : zg G X c nL T ce sl (pc + 1) lv (.int (zI (a + b)) :: st) σ) : zg G X c nL T ce sl pc lv (.int (zI b) :: .int (zI a) :: st) σ := fun H locs ls hz hP hS hl hb => lv_iadd C.1 C.2.1 hd (by rw [zI_add]; exact kk H locs ls hz hP hS hl hb)
theorem z_isub (C : zC G X cc nL own ret c fr lo mc ms T1 post isI l) {a b : Int} (hd : decode cc pc = .ok (.isub, 1)) (kk : zg G X c nL T ce sl (pc + 1) lv (.int (zI (a - b)) :: st) σ) : zg G X c nL T ce sl pc lv (.int (zI b) :: .int (zI a) :: st) σ := fun H locs ls hz hP hS hl hb => lv_isub C.1 C.2.1 hd (by rw [zI_sub]; exact kk H locs ls hz hP hS hl hb)
theorem z_imul (C : zC G X cc nL own ret c fr lo mc ms T1 post isI l) {a b : Int} (hd : decode cc pc = .ok (.imul, 1)) (kk : zg G X c nL T ce sl (pc + 1) lv (.int (zI (a * b)) :: st) σ) : zg G X c nL T ce sl pc lv (.int (zI b) :: .int (zI a) :: st) σ := fun H locs ls hz hP hS hl hb => lv_imul C.1 C.2.1 hd (by rw [zI_mul]; exact kk H locs ls hz hP hS hl hb)
theorem z_ineg (C : zC G X cc nL own ret c fr lo mc ms T1 post isI l) {a : Int} (hd : decode cc pc = .ok (.ineg, 1)) (kk : zg G X c nL T ce sl (pc + 1) lv (.int (zI (-a)) :: st) σ) : zg G X c nL T ce sl pc lv (.int (zI a) :: st) σ := fun H locs ls hz hP hS hl hb => lv_ineg C.1 C.2.1 hd (by rw [show -zI a = zI (-a) from (Int32.ofInt_neg a).symm]; exact kk H locs ls hz hP hS hl hb)
theorem z_idiv (C : zC G X cc nL own ret c fr lo mc ms T1 post isI l) {a b : Int} (hd : decode cc pc = .ok (.idiv, 1)) (h : (0 ≤ a ∧ a < 2147483648) ∧ 0 < b ∧ b < 2147483648) (kk : zg G X c nL T ce sl (pc + 1) lv (.int (zI (a / b)) :: st) σ) : zg G X c nL T ce sl pc lv (.int (zI b) :: .int (zI a) :: st) σ := fun H locs ls hz hP hS hl hb => lv_idiv C.1 C.2.1 hd (zI_ne0 h.2.1 h.2.2) (by rw [zI_div h.1.1 h.1.2 h.2.1 h.2.2]; exact kk H locs ls hz hP hS hl hb)
theorem z_irem (C : zC G X cc nL own ret c fr lo mc ms T1 post isI l) {a b : Int} (hd : decode cc pc = .ok (.irem, 1)) (h : (0 ≤ a ∧ a < 2147483648) ∧ 0 < b ∧ b < 2147483648) (kk : zg G X c nL T ce sl (pc + 1) lv (.int (zI (a % b)) :: st) σ) : zg G X c nL T ce sl pc lv (.int (zI b) :: .int (zI a) :: st) σ := fun H locs ls hz hP hS hl hb => lv_irem C.1 C.2.1 hd (zI_ne0 h.2.1 h.2.2) (by rw [zI_rem h.1.1 h.1.2 h.2.1 h.2.2]; exact kk H locs ls hz hP hS hl hb)
theorem z_iand (C : zC G X cc nL own ret c fr lo mc ms T1 post isI l) {x y : Int32} {r : Int} (hd : decode cc pc = .ok (.iand, 1)) (hv : x &&& y = zI r) (kk : zg G X c nL T ce sl (pc + 1) lv (.int (zI r) :: st) σ) : zg G X c nL T ce sl pc lv (.int y :: .int x :: st) σ := fun H locs ls hz hP hS hl hb => lv_iand C.1 C.2.1 hd (by rw [hv]; exact kk H locs ls hz hP hS hl hb)
theorem z_ior (C : zC G X cc nL own ret c fr lo mc ms T1 post isI l) {x y : Int32} {r : Int} (hd : decode cc pc = .ok (.ior, 1)) (hv : x ||| y = zI r) (kk : zg G X c nL T ce sl (pc + 1) lv (.int (zI r) :: st) σ) : zg G X c nL T ce sl pc lv (.int y :: .int x :: st) σ := fun H locs ls hz hP hS hl hb => lv_ior C.1 C.2.1 hd (by rw [hv]; exact kk H locs ls hz hP hS hl hb)
theorem z_ixor (C : zC G X cc nL own ret c fr lo mc ms T1 post isI l) {x y : Int32} {r : Int} (hd : decode cc pc = .ok (.ixor, 1)) (hv : x ^^^ y = zI r) (kk : zg G X c nL T ce sl (pc + 1) lv (.int (zI r) :: st) σ) : zg G X c nL T ce sl pc lv (.int y :: .int x :: st) σ := fun H locs ls hz hP hS hl hb => lv_ixor C.1 C.2.1 hd (by rw [hv]; exact kk H locs ls hz hP hS hl hb)
theorem z_ishl (C : zC G X cc nL own ret c fr lo mc ms T1 post isI l) {x y : Int32} {r : Int} (hd : decode cc pc = .ok (.ishl, 1)) (hv : x <<< (y &&& 31) = zI r) (kk : zg G X c nL T ce sl (pc + 1) lv (.int (zI r) :: st) σ) : zg G X c nL T ce sl pc lv (.int y :: .int x :: st) σ := fun H locs ls hz hP hS hl hb => lv_ishl C.1 C.2.1 hd (by rw [hv]; exact kk H locs ls hz hP hS hl hb)
theorem z_ishr (C : zC G X cc nL own ret c fr lo mc ms T1 post isI l) {x y : Int32} {r : Int} (hd : decode cc pc = .ok (.ishr, 1)) (hv : x >>> (y &&& 31) = zI r) (kk : zg G X c nL T ce sl (pc + 1) lv (.int (zI r) :: st) σ) : zg G X c nL T ce sl pc lv (.int y :: .int x :: st) σ := fun H locs ls hz hP hS hl hb => lv_ishr C.1 C.2.1 hd (by rw [hv]; exact kk H locs ls hz hP hS hl hb)
theorem z_iushr (C : zC G X cc nL own ret c fr lo mc ms T1 post isI l) {x y v : Int32} (hd : decode cc pc = .ok (.iushr, 1)) (hv : (x.toUInt32 >>> (y.toUInt32 &&& Int32.toUInt32 31)).toInt32 = v) (kk : zg G X c nL T ce sl (pc + 1) lv (.int v :: st) σ) : zg G X c nL T ce sl pc lv (.int y :: .int x :: st) σ := fun H locs ls hz hP hS hl hb => lv_iushr C.1 C.2.1 hd hv (kk H locs ls hz hP hS hl hb)
theorem z_ladd (C : zC G X cc nL own ret c fr lo mc ms T1 post isI l) {a b : Int} (hd : decode cc pc = .ok (.ladd, 1)) (kk : zg G X c nL T ce sl (pc + 1) lv (.long (zJ (a + b)) :: st) σ) : zg G X c nL T ce sl pc lv (.long (zJ b) :: .long (zJ a) :: st) σ := fun H locs ls hz hP hS hl hb => lv_ladd C.1 C.2.1 hd (by rw [zJ_add]; exact kk H locs ls hz hP hS hl hb)
theorem z_lmul (C : zC G X cc nL own ret c fr lo mc ms T1 post isI l) {a b : Int} (hd : decode cc pc = .ok (.lmul, 1)) (kk : zg G X c nL T ce sl (pc + 1) lv (.long (zJ (a * b)) :: st) σ) : zg G X c nL T ce sl pc lv (.long (zJ b) :: .long (zJ a) :: st) σ := fun H locs ls hz hP hS hl hb => lv_lmul C.1 C.2.1 hd (by rw [zJ_mul]; exact kk H locs ls hz hP hS hl hb)
theorem z_ldiv (C : zC G X cc nL own ret c fr lo mc ms T1 post isI l) {a b : Int} (hd : decode cc pc = .ok (.ldiv, 1)) (h : (0 ≤ a ∧ a < 9223372036854775808) ∧ 0 < b ∧ b < 9223372036854775808) (kk : zg G X c nL T ce sl (pc + 1) lv (.long (zJ (a / b)) :: st) σ) : zg G X c nL T ce sl pc lv (.long (zJ b) :: .long (zJ a) :: st) σ := fun H locs ls hz hP hS hl hb => lv_ldiv C.1 C.2.1 hd (zJ_ne0 h.2.1 h.2.2) (by rw [zJ_div h.1.1 h.1.2 h.2.1 h.2.2]; exact kk H locs ls hz hP hS hl hb)
theorem z_lrem (C : zC G X cc nL own ret c fr lo mc ms T1 post isI l) {a b : Int} (hd : decode cc pc = .ok (.lrem, 1)) (h : (0 ≤ a ∧ a < 9223372036854775808) ∧ 0 < b ∧ b < 9223372036854775808) (kk : zg G X c nL T ce sl (pc + 1) lv (.long (zJ (a % b)) :: st) σ) : zg G X c nL T ce sl pc lv (.long (zJ b) :: .long (zJ a) :: st) σ := fun H locs ls hz hP hS hl hb => lv_lrem C.1 C.2.1 hd (zJ_ne0 h.2.1 h.2.2) (by rw [zJ_rem h.1.1 h.1.2 h.2.1 h.2.2]; exact kk H locs ls hz hP hS hl hb)
theorem z_land (C : zC G X cc nL own ret c fr lo mc ms T1 post isI l) {x y : Int64} {r : Int} (hd : decode cc pc = .ok (.land, 1)) (hv : x &&& y = zJ r) (kk : zg G X c nL T ce sl (pc + 1) lv (.long (zJ r) :: st) σ) : zg G X c nL T ce sl pc lv (.long y :: .long x :: st) σ := fun H locs ls hz hP hS hl hb => lv_land C.1 C.2.1 hd (by rw [hv]; exact kk H locs ls hz hP hS hl hb)
theorem z_i2l (C : zC G X cc nL own ret c fr lo mc ms T1 post isI l) {a : Int} (hd : decode cc pc = .ok (.i2l, 1)) (h : zR a) (kk : zg G X c nL T ce sl (pc + 1) lv (.long (zJ a) :: st) σ) : zg G X c nL T ce sl pc lv (.int (zI a) :: st) σ := fun H locs ls hz hP hS hl hb => lv_i2l C.1 C.2.1 hd (zJ_i2l h) (kk H locs ls hz hP hS hl hb)
theorem z_l2i (C : zC G X cc nL own ret c fr lo mc ms T1 post isI l) {a : Int} (hd : decode cc pc = .ok (.l2i, 1)) (h : zR a) (kk : zg G X c nL T ce sl (pc + 1) lv (.int (zI a) :: st) σ) : zg G X c nL T ce sl pc lv (.long (zJ a) :: st) σ := fun H locs ls hz hP hS hl hb => lv_l2i C.1 C.2.1 hd (zJ_l2i h) (kk H locs ls hz hP hS hl hb)
theorem z_i2b (C : zC G X cc nL own ret c fr lo mc ms T1 post isI l) {a : Int} (hd : decode cc pc = .ok (.i2b, 1)) (h : (zI a).toInt8.toInt32 = zI a) (kk : zg G X c nL T ce sl (pc + 1) lv (.int (zI a) :: st) σ) : zg G X c nL T ce sl pc lv (.int (zI a) :: st) σ := fun H locs ls hz hP hS hl hb => lv_i2b C.1 C.2.1 hd h (kk H locs ls hz hP hS hl hb)
theorem z_lcmp (C : zC G X cc nL own ret c fr lo mc ms T1 post isI l) {x y : Int64} (hd : decode cc pc = .ok (.lcmp, 1)) (kk : zg G X c nL T ce sl (pc + 1) lv (.int (lg_cmp x y) :: st) σ) : zg G X c nL T ce sl pc lv (.long y :: .long x :: st) σ := fun H locs ls hz hP hS hl hb => W.lcmp C.1 C.2.1 hd (kk H locs ls hz hP hS hl hb)
theorem z_if_eq (C : zC G X cc nL own ret c fr lo mc ms T1 post isI l) {a : Int} {off : Int} {tgt : Nat} (hd : decode cc pc = .ok (.ifCond .eq off, 3)) (ht : (pc : Int) + off = (tgt : Int)) (ha : zR a) (kt : a = 0 → zg G X c nL T ce sl tgt lv (st) σ) (kf : ¬ a = 0 → zg G X c nL T ce sl (pc + 3) lv (st) σ) : zg G X c nL T ce sl pc lv (.int (zI a) :: st) σ := fun H locs ls hz hP hS hl hb => lv_if_eq C.1 C.2.1 hd ht (fun h => (kt ((zI_eq0 ha).mp h)) H locs ls hz hP hS hl hb) (fun h => (kf (fun q => h ((zI_eq0 ha).mpr q))) H locs ls hz hP hS hl hb)
theorem z_icmp_eq (C : zC G X cc nL own ret c fr lo mc ms T1 post isI l) {a b : Int} {off : Int} {tgt : Nat} (hd : decode cc pc = .ok (.if_icmp .eq off, 3)) (ht : (pc : Int) + off = (tgt : Int)) (ha : zR a ∧ zR b) (kt : a = b → zg G X c nL T ce sl tgt lv (st) σ) (kf : ¬ a = b → zg G X c nL T ce sl (pc + 3) lv (st) σ) : zg G X c nL T ce sl pc lv (.int (zI b) :: .int (zI a) :: st) σ := fun H locs ls hz hP hS hl hb => lv_icmp_eq C.1 C.2.1 hd ht (fun h => (kt ((zI_eq ha.1 ha.2).mp h)) H locs ls hz hP hS hl hb) (fun h => (kf (fun q => h ((zI_eq ha.1 ha.2).mpr q))) H locs ls hz hP hS hl hb)
theorem z_if_ne (C : zC G X cc nL own ret c fr lo mc ms T1 post isI l) {a : Int} {off : Int} {tgt : Nat} (hd : decode cc pc = .ok (.ifCond .ne off, 3)) (ht : (pc : Int) + off = (tgt : Int)) (ha : zR a) (kt : ¬ a = 0 → zg G X c nL T ce sl tgt lv (st) σ) (kf : a = 0 → zg G X c nL T ce sl (pc + 3) lv (st) σ) : zg G X c nL T ce sl pc lv (.int (zI a) :: st) σ := fun H locs ls hz hP hS hl hb => lv_if_ne C.1 C.2.1 hd ht (fun h => (kt (fun q => h ((zI_eq0 ha).mpr q))) H locs ls hz hP hS hl hb) (fun h => (kf ((zI_eq0 ha).mp h)) H locs ls hz hP hS hl hb)
theorem z_icmp_ne (C : zC G X cc nL own ret c fr lo mc ms T1 post isI l) {a b : Int} {off : Int} {tgt : Nat} (hd : decode cc pc = .ok (.if_icmp .ne off, 3)) (ht : (pc : Int) + off = (tgt : Int)) (ha : zR a ∧ zR b) (kt : ¬ a = b → zg G X c nL T ce sl tgt lv (st) σ) (kf : a = b → zg G X c nL T ce sl (pc + 3) lv (st) σ) : zg G X c nL T ce sl pc lv (.int (zI b) :: .int (zI a) :: st) σ := fun H locs ls hz hP hS hl hb => lv_icmp_ne C.1 C.2.1 hd ht (fun h => (kt (fun q => h ((zI_eq ha.1 ha.2).mpr q))) H locs ls hz hP hS hl hb) (fun h => (kf ((zI_eq ha.1 ha.2).mp h)) H locs ls hz hP hS hl hb)
theorem z_if_lt (C : zC G X cc nL own ret c fr lo mc ms T1 post isI l) {a : Int} {off : Int} {tgt : Nat} (hd : decode cc pc = .ok (.ifCond .lt off, 3)) (ht : (pc : Int) + off = (tgt : Int)) (ha : zR a) (kt : a < 0 → zg G X c nL T ce sl tgt lv (st) σ) (kf : ¬ a < 0 → zg G X c nL T ce sl (pc + 3) lv (st) σ) : zg G X c nL T ce sl pc lv (.int (zI a) :: st) σ := fun H locs ls hz hP hS hl hb => lv_if_lt C.1 C.2.1 hd ht (fun h => (kt ((zI_lt0 ha).mp h)) H locs ls hz hP hS hl hb) (fun h => (kf (fun q => h ((zI_lt0 ha).mpr q))) H locs ls hz hP hS hl hb)
theorem z_icmp_lt (C : zC G X cc nL own ret c fr lo mc ms T1 post isI l) {a b : Int} {off : Int} {tgt : Nat} (hd : decode cc pc = .ok (.if_icmp .lt off, 3)) (ht : (pc : Int) + off = (tgt : Int)) (ha : zR a ∧ zR b) (kt : a < b → zg G X c nL T ce sl tgt lv (st) σ) (kf : ¬ a < b → zg G X c nL T ce sl (pc + 3) lv (st) σ) : zg G X c nL T ce sl pc lv (.int (zI b) :: .int (zI a) :: st) σ := fun H locs ls hz hP hS hl hb => lv_icmp_lt C.1 C.2.1 hd ht (fun h => (kt ((zI_lt ha.1 ha.2).mp h)) H locs ls hz hP hS hl hb) (fun h => (kf (fun q => h ((zI_lt ha.1 ha.2).mpr q))) H locs ls hz hP hS hl hb)
theorem z_if_ge (C : zC G X cc nL own ret c fr lo mc ms T1 post isI l) {a : Int} {off : Int} {tgt : Nat} (hd : decode cc pc = .ok (.ifCond .ge off, 3)) (ht : (pc : Int) + off = (tgt : Int)) (ha : zR a) (kt : 0 ≤ a → zg G X c nL T ce sl tgt lv (st) σ) (kf : ¬ 0 ≤ a → zg G X c nL T ce sl (pc + 3) lv (st) σ) : zg G X c nL T ce sl pc lv (.int (zI a) :: st) σ := fun H locs ls hz hP hS hl hb => lv_if_ge C.1 C.2.1 hd ht (fun h => (kt ((zI_ge0 ha).mp h)) H locs ls hz hP hS hl hb) (fun h => (kf (fun q => h ((zI_ge0 ha).mpr q))) H locs ls hz hP hS hl hb)
theorem z_icmp_ge (C : zC G X cc nL own ret c fr lo mc ms T1 post isI l) {a b : Int} {off : Int} {tgt : Nat} (hd : decode cc pc = .ok (.if_icmp .ge off, 3)) (ht : (pc : Int) + off = (tgt : Int)) (ha : zR a ∧ zR b) (kt : b ≤ a → zg G X c nL T ce sl tgt lv (st) σ) (kf : ¬ b ≤ a → zg G X c nL T ce sl (pc + 3) lv (st) σ) : zg G X c nL T ce sl pc lv (.int (zI b) :: .int (zI a) :: st) σ := fun H locs ls hz hP hS hl hb => lv_icmp_ge C.1 C.2.1 hd ht (fun h => (kt ((zI_le ha.2 ha.1).mp h)) H locs ls hz hP hS hl hb) (fun h => (kf (fun q => h ((zI_le ha.2 ha.1).mpr q))) H locs ls hz hP hS hl hb)
theorem z_if_gt (C : zC G X cc nL own ret c fr lo mc ms T1 post isI l) {a : Int} {off : Int} {tgt : Nat} (hd : decode cc pc = .ok (.ifCond .gt off, 3)) (ht : (pc : Int) + off = (tgt : Int)) (ha : zR a) (kt : 0 < a → zg G X c nL T ce sl tgt lv (st) σ) (kf : ¬ 0 < a → zg G X c nL T ce sl (pc + 3) lv (st) σ) : zg G X c nL T ce sl pc lv (.int (zI a) :: st) σ := fun H locs ls hz hP hS hl hb => lv_if_gt C.1 C.2.1 hd ht (fun h => (kt ((zI_gt0 ha).mp h)) H locs ls hz hP hS hl hb) (fun h => (kf (fun q => h ((zI_gt0 ha).mpr q))) H locs ls hz hP hS hl hb)
theorem z_icmp_gt (C : zC G X cc nL own ret c fr lo mc ms T1 post isI l) {a b : Int} {off : Int} {tgt : Nat} (hd : decode cc pc = .ok (.if_icmp .gt off, 3)) (ht : (pc : Int) + off = (tgt : Int)) (ha : zR a ∧ zR b) (kt : b < a → zg G X c nL T ce sl tgt lv (st) σ) (kf : ¬ b < a → zg G X c nL T ce sl (pc + 3) lv (st) σ) : zg G X c nL T ce sl pc lv (.int (zI b) :: .int (zI a) :: st) σ := fun H locs ls hz hP hS hl hb => lv_icmp_gt C.1 C.2.1 hd ht (fun h => (kt ((zI_lt ha.2 ha.1).mp h)) H locs ls hz hP hS hl hb) (fun h => (kf (fun q => h ((zI_lt ha.2 ha.1).mpr q))) H locs ls hz hP hS hl hb)
theorem z_if_le (C : zC G X cc nL own ret c fr lo mc ms T1 post isI l) {a : Int} {off : Int} {tgt : Nat} (hd : decode cc pc = .ok (.ifCond .le off, 3)) (ht : (pc : Int) + off = (tgt : Int)) (ha : zR a) (kt : a ≤ 0 → zg G X c nL T ce sl tgt lv (st) σ) (kf : ¬ a ≤ 0 → zg G X c nL T ce sl (pc + 3) lv (st) σ) : zg G X c nL T ce sl pc lv (.int (zI a) :: st) σ := fun H locs ls hz hP hS hl hb => lv_if_le C.1 C.2.1 hd ht (fun h => (kt ((zI_le0 ha).mp h)) H locs ls hz hP hS hl hb) (fun h => (kf (fun q => h ((zI_le0 ha).mpr q))) H locs ls hz hP hS hl hb)
theorem z_icmp_le (C : zC G X cc nL own ret c fr lo mc ms T1 post isI l) {a b : Int} {off : Int} {tgt : Nat} (hd : decode cc pc = .ok (.if_icmp .le off, 3)) (ht : (pc : Int) + off = (tgt : Int)) (ha : zR a ∧ zR b) (kt : a ≤ b → zg G X c nL T ce sl tgt lv (st) σ) (kf : ¬ a ≤ b → zg G X c nL T ce sl (pc + 3) lv (st) σ) : zg G X c nL T ce sl pc lv (.int (zI b) :: .int (zI a) :: st) σ := fun H locs ls hz hP hS hl hb => lv_icmp_le C.1 C.2.1 hd ht (fun h => (kt ((zI_le ha.1 ha.2).mp h)) H locs ls hz hP hS hl hb) (fun h => (kf (fun q => h ((zI_le ha.1 ha.2).mpr q))) H locs ls hz hP hS hl hb)
theorem z_goto (C : zC G X cc nL own ret c fr lo mc ms T1 post isI l) {off : Int} {tgt : Nat} (hd : decode cc pc = .ok (.goto off, 3)) (ht : (pc : Int) + off = (tgt : Int)) (kk : zg G X c nL T ce sl tgt lv (st) σ) : zg G X c nL T ce sl pc lv (st) σ := fun H locs ls hz hP hS hl hb => lv_goto C.1 C.2.1 hd ht (kk H locs ls hz hP hS hl hb)
theorem z_ifnonnull (C : zC G X cc nL own ret c fr lo mc ms T1 post isI l) {x : Nat} {off : Int} {tgt : Nat} (hd : decode cc pc = .ok (.ifnonnull off, 3)) (ht : (pc : Int) + off = (tgt : Int)) (kk : zg G X c nL T ce sl tgt lv (st) σ) : zg G X c nL T ce sl pc lv (.ref x :: st) σ := fun H locs ls hz hP hS hl hb => lv_ifnonnull C.1 C.2.1 hd ht (kk H locs ls hz hP hS hl hb)
theorem z_ifnull (C : zC G X cc nL own ret c fr lo mc ms T1 post isI l) {x : Nat} {off : Int} (hd : decode cc pc = .ok (.ifnull off, 3)) (kk : zg G X c nL T ce sl (pc + 3) lv (st) σ) : zg G X c nL T ce sl pc lv (.ref x :: st) σ := fun H locs ls hz hP hS hl hb => lv_ifnull C.1 C.2.1 hd (kk H locs ls hz hP hS hl hb)
theorem z_tableIn (C : zC G X cc nL own ret c fr lo mc ms T1 post isI l) {a dflt lo hi off : Int} {offs : Array Int} {len tgt : Nat} (hd : decode cc pc = .ok (.tableswitch dflt lo hi offs, len)) (ha : zR a) (h1 : ¬ a < lo) (h2 : ¬ hi < a) (ho : offs[(a - lo).toNat]? = some off) (ht : (pc : Int) + off = (tgt : Int)) (kk : zg G X c nL T ce sl tgt lv (st) σ) : zg G X c nL T ce sl pc lv (.int (zI a) :: st) σ := fun H locs ls hz hP hS hl hb => lv_tableIn C.1 C.2.1 hd (by rw [zI_toInt ha]; exact h1) (by rw [zI_toInt ha]; exact h2) (by rw [zI_toInt ha]; exact ho) ht (kk H locs ls hz hP hS hl hb)
theorem z_tableOut (C : zC G X cc nL own ret c fr lo mc ms T1 post isI l) {a dflt lo hi : Int} {offs : Array Int} {len tgt : Nat} (hd : decode cc pc = .ok (.tableswitch dflt lo hi offs, len)) (ha : zR a) (h1 : a < lo ∨ hi < a) (ht : (pc : Int) + dflt = (tgt : Int)) (kk : zg G X c nL T ce sl tgt lv (st) σ) : zg G X c nL T ce sl pc lv (.int (zI a) :: st) σ := fun H locs ls hz hP hS hl hb => lv_tableOut C.1 C.2.1 hd (by rw [zI_toInt ha]; exact h1) ht (kk H locs ls hz hP hS hl hb)
theorem z_lookup (C : zC G X cc nL own ret c fr lo mc ms T1 post isI l) {a dflt off : Int} {ps : Array (Int × Int)} {len tgt : Nat} (hd : decode cc pc = .ok (.lookupswitch dflt ps, len)) (ha : zR a) (hp : (ps.toList.zip (ps.toList.drop 1)).all (fun (a, next) => a.1 < next.1) = true) (ho : Op.lookupswitch.offset ps.toList dflt a = off) (ht : (pc : Int) + off = (tgt : Int)) (kk : zg G X c nL T ce sl tgt lv (st) σ) : zg G X c nL T ce sl pc lv (.int (zI a) :: st) σ := fun H locs ls hz hP hS hl hb => lv_lookup C.1 C.2.1 hd hp (by rw [zI_toInt ha]; exact ho) ht (kk H locs ls hz hP hS hl hb)
end ZR
end
section
abbrev zin (w : Cond) : Prop := w ∈ lw_tbl ∧ goodWord w = true
/-- the classes by number -/
def zq (c : Nat) : vw_C := vwCl.getD c (RX0, TX0, 1)
theorem zq_at {c : Nat} (h : c < 11) : vwCl[c]? = some (zq c) := by
  have hl : c < vwCl.length := h
  simp [zq, List.getD_eq_getElem?_getD, List.getElem?_eq_getElem hl]
set_option maxRecDepth 100000 in
theorem zcl_w : ∀ q ∈ vwCl, ∀ w ∈ u_ws q.1 q.2.1 q.2.2, w ∈ lw_tbl ∧ goodWord w = true := by decide +kernel
theorem zcl_in {c : Nat} (h : c < 11) : ∀ w ∈ u_ws (zq c).1 (zq c).2.1 (zq c).2.2, zin w := zcl_w _ (List.mem_of_getElem? (zq_at h))
theorem zTW.use {U : State} (h : zTW U) {w : Cond} (hw : zin w) (a : Array Value) : w.before a U = true := h.1 w hw.1 hw.2 a
/-- a field's kind and its class's own row agree -/
def zchk (c : Nat) : Bool := (List.range (zq c).2.2).all (fun k => decide (((zq c).2.1 k).1 = (zq c).1) && (match (zt c).getD k 99, parseFieldDescriptor ((zq c).2.1 k).2.2.1 with
  | 0, some .int => !((zq c).2.1 k).2.2.2
  | 1, some .long => !((zq c).2.1 k).2.2.2
  | 2, some .boolean => !((zq c).2.1 k).2.2.2
  | t + 3, some (.object _) => ((zq c).2.1 k).2.2.2
  | t + 3, some (.array _) => ((zq c).2.1 k).2.2.2
  | _, _ => false)) && decide ((zt c).length = (zq c).2.2)
set_option maxRecDepth 100000 in
theorem zchk_ok : ∀ c, c < 11 → zchk c = true := by decide +kernel
theorem zchk_at {c k : Nat} (h : c < 11) (hk : k < (zq c).2.2) : ((zq c).2.1 k).1 = (zq c).1 ∧ (match (zt c).getD k 99, parseFieldDescriptor ((zq c).2.1 k).2.2.1 with
  | 0, some .int => !((zq c).2.1 k).2.2.2
  | 1, some .long => !((zq c).2.1 k).2.2.2
  | 2, some .boolean => !((zq c).2.1 k).2.2.2
  | t + 3, some (.object _) => ((zq c).2.1 k).2.2.2
  | t + 3, some (.array _) => ((zq c).2.1 k).2.2.2
  | _, _ => false) = true := by
  have h1 := zchk_ok c h
  unfold zchk at h1
  rw [Bool.and_eq_true, List.all_eq_true] at h1
  have h2 := h1.1 k (List.mem_range.mpr hk)
  rw [Bool.and_eq_true, decide_eq_true_eq] at h2
  exact h2
theorem zchk_len {c : Nat} (h : c < 11) : (zt c).length = (zq c).2.2 := by
  have h1 := zchk_ok c h
  unfold zchk at h1
  rw [Bool.and_eq_true, decide_eq_true_eq] at h1
  exact h1.2
theorem zty_ok {c : Nat} (h : c < 11) : ∃ ty : Nat → FieldType, ∀ k, k < (zq c).2.2 → parseFieldDescriptor ((zq c).2.1 k).2.2.1 = some (ty k) := by
  refine ⟨fun k => (parseFieldDescriptor ((zq c).2.1 k).2.2.1).getD .int, fun k hk => ?_⟩
  have h2 := (zchk_at h hk).2
  cases hp : parseFieldDescriptor ((zq c).2.1 k).2.2.1 with
  | none => rw [hp] at h2; simp at h2
  | some t => show some t = some ((parseFieldDescriptor ((zq c).2.1 k).2.2.1).getD .int); rw [hp]; rfl
theorem znm_ok : ∀ c, c < 11 → ∀ a, a < (zq c).2.2 → ∀ b, b < (zq c).2.2 → a ≠ b → ((zq c).2.1 a).2.1 ≠ ((zq c).2.1 b).2.1 := by decide +kernel
/-- a field's place in a pool: class, place, kind -/
def zfl (own : String) (index c k t : Nat) : Prop := c < 11 ∧ k < (zq c).2.2 ∧ (zt c)[k]? = some t ∧ (zin (.fieldLink own index ((zq c).2.1 k).1 ((zq c).2.1 k).2.1 ((zq c).2.1 k).2.2.1) ∨ Cond.fieldLinkNest own index ((zq c).2.1 k).1 ((zq c).2.1 k).2.1 ((zq c).2.1 k).2.2.1 RX9 ∈ lw_tbl)
theorem zw_obj {G : zGt} {T : Nat} {σ : zMem} {o ci : Nat} (h : o < T) (hk : zk o = ci) (hc : ci < 11) : (zw G T σ)[o]? = some (zB G + o, .inr (ci, zF G σ o)) := by
  rw [zw_get h, zE, if_pos (by omega), hk]
theorem zw_arr {G : zGt} {T : Nat} {σ : zMem} {o : Nat} (h : o < T) (hk : zk o = 11) : (zw G T σ)[o]? = some (zB G + o, .inl (G.2.2.1.1, zl o, .inl (fun i => zI (σ o i)))) := by
  rw [zw_get h, zE, if_neg (by omega), if_pos hk]
theorem zw_byt {G : zGt} {T : Nat} {σ : zMem} {o : Nat} (h : o < T) (hk : zk o = 12) : (zw G T σ)[o]? = some (zB G + o, .inl (G.2.2.1.2.1, zl o, .inl (fun i => zI (σ o i)))) := by
  rw [zw_get h, zE, if_neg (by omega), if_neg (by omega), if_pos hk]
theorem zw_ref {G : zGt} {T : Nat} {σ : zMem} {o : Nat} (h : o < T) (hk : zk o = 13) : (zw G T σ)[o]? = some (zB G + o, .inl (G.2.2.1.2.2, zl o, .inr (.inr (.inr (.inr (fun i => if σ o i = 0 then none else some (zB G + (o + (1 + 9 * i))))))))) := by
  rw [zw_get h, zE, if_neg (by omega), if_neg (by omega), if_neg (by omega)]
theorem zU_ne {σ : zMem} {o k a : Nat} {v : Int} (h : a ≠ o) : zU σ o k v a = σ a := by
  funext b
  simp [zU, h]
theorem zF_set {G : zGt} {σ : zMem} {o k t : Nat} {x : Int} (h : (zt (zk o))[k]? = some t) : (zF G σ o).set k (zv (zB G) o t x) = zF G (zU σ o k x) o := by
  have hl := (List.getElem?_eq_some_iff.mp h).1
  have h2 := (List.getElem?_eq_some_iff.mp h).2
  apply List.ext_getElem?
  intro j
  rw [List.getElem?_set]
  by_cases hj : k = j
  · subst hj
    simp [zF, hl, h2, zU]
  · rw [if_neg hj]
    simp only [zF, List.getElem?_map]
    by_cases hjl : j < (zt (zk o)).length
    · simp [hjl, zU, Ne.symm hj]
    · simp [hjl]
theorem zw_put {G : zGt} {T : Nat} {σ : zMem} {o ci k t : Nat} {x : Int} (h : o < T) (hk : zk o = ci) (hc : ci < 11) (ht : (zt ci)[k]? = some t) : (zw G T σ).set o (zB G + o, .inr (ci, (zF G σ o).set k (zv (zB G) o t x))) = zw G T (zU σ o k x) := by
  subst hk
  rw [zF_set ht]
  have h1 : zE G (zU σ o k x) o = .inr (zk o, zF G (zU σ o k x) o) := by rw [zE, if_pos hc]
  rw [← h1]
  exact zw_set h (fun a ha => zU_ne ha)
theorem zBu.putI {c : Bool} {σ : zMem} {o k : Nat} {v : Int} (h : zBu c σ) (h1 : c = true → ¬ (3 ≤ (zt (zk o)).getD k 0 ∨ zk o = 13)) (h2 : ¬ (zt (zk o)).getD k 0 = 1 → zR v) : zBu c (zU σ o k v) := by
  refine ⟨fun hc a b hab => ?_, fun a b hab => ?_⟩
  · unfold zU
    split
    · rename_i h3
      obtain ⟨rfl, rfl⟩ := h3
      exact absurd hab (h1 hc)
    · exact h.1 hc a b hab
  · unfold zU
    split
    · rename_i h3
      obtain ⟨rfl, rfl⟩ := h3
      exact h2 hab
    · exact h.2 a b hab
theorem zl_le (o : Nat) : zl o ≤ 100 := by
  unfold zl
  by_cases h : o < 129
  · have : ∀ o, o < 129 → zlL.getD o 0 ≤ 100 := by decide +kernel
    exact this o h
  · rw [List.getD_eq_getElem?_getD, List.getElem?_eq_none (by rw [zkL_len.2]; omega)]
    decide
theorem zt_getD {c k t : Nat} (h : (zt c)[k]? = some t) (d : Nat) : (zt c).getD k d = t := by rw [List.getD_eq_getElem?_getD, h]; rfl
section ZH
variable {G : zGt} {X : zXt} {c : Bool} {nL T ce sl pc fr lo mc ms T1 : Nat} {lv : List (Nat × Value)} {st : List Value} {σ : zMem} {cc : ByteArray} {own : String} {ret : Option FieldType} {post : Option Value → zMem → Prop} {isI : Bool} {l : Launch}
theorem z_get (C : zC G X cc nL own ret c fr lo mc ms T1 post isI l) {index ci k t o : Nat} (hf : zfl own index ci k t) (hd : decode cc pc = .ok (.getfield index, 3)) (hk : zk o = ci) (ho : o < T)
    (kk : zBu c σ → zg G X c nL T ce sl (pc + 3) lv (zv (zB G) o t (σ o k) :: st) σ) : zg G X c nL T ce sl pc lv (.ref (zB G + o) :: st) σ := fun H locs ls hz hP hS hl hb => by
  obtain ⟨h1, h2, h3, h4⟩ := hf
  have hts : ∀ w ∈ u_ws (zq ci).1 (zq ci).2.1 (zq ci).2.2, w.before X.2.2.2.2.2.2.1 X.2.2.2.2.1 = true := fun w hw => C.2.2.2.2.1.2.2.1.use (zcl_in h1 w hw) _
  have h5 : (zF G σ o)[k]? = some (zv (zB G) o t (σ o k)) := zF_get (by rw [hk]; exact h3)
  rcases h4 with h4 | h4
  · exact va_get C.1 C.2.1 hts (fun w h => h) C.2.2.2.1 C.2.2.2.2.1.1 hP o (zw_obj ho hk h1) (zq_at h1) k h2 (C.2.2.2.2.1.2.2.1.use h4 _) (fun x h => h) h5 hd (kk hb H locs ls hz hP hS hl hb)
  · exact va_getN C.1 C.2.1 hts (fun w h => h) C.2.2.2.1 C.2.2.2.2.1.1 hP o (zw_obj ho hk h1) (zq_at h1) k h2 (va_Nw.use rfl (C.2.2.2.2.1.2.2.1.2.1 _ _ _ _ _ _ h4)) (fun x h => h) h5 hd (kk hb H locs ls hz hP hS hl hb)
theorem z_getI (C : zC G X cc nL own ret c fr lo mc ms T1 post isI l) {index ci k o : Nat} (hf : zfl own index ci k 0) (hd : decode cc pc = .ok (.getfield index, 3)) (hk : zk o = ci) (ho : o < T)
    (kk : zR (σ o k) → zg G X c nL T ce sl (pc + 3) lv (.int (zI (σ o k)) :: st) σ) : zg G X c nL T ce sl pc lv (.ref (zB G + o) :: st) σ :=
  z_get C hf hd hk ho (fun hb => kk (hb.2 o k (by rw [hk, zt_getD hf.2.2.1]; decide)))
theorem z_getZ (C : zC G X cc nL own ret c fr lo mc ms T1 post isI l) {index ci k o : Nat} (hf : zfl own index ci k 2) (hd : decode cc pc = .ok (.getfield index, 3)) (hk : zk o = ci) (ho : o < T)
    (kk : zR (σ o k) → zg G X c nL T ce sl (pc + 3) lv (.int (zI (σ o k)) :: st) σ) : zg G X c nL T ce sl pc lv (.ref (zB G + o) :: st) σ :=
  z_get C hf hd hk ho (fun hb => kk (hb.2 o k (by rw [hk, zt_getD hf.2.2.1]; decide)))
theorem z_getJ (C : zC G X cc nL own ret c fr lo mc ms T1 post isI l) {index ci k o : Nat} (hf : zfl own index ci k 1) (hd : decode cc pc = .ok (.getfield index, 3)) (hk : zk o = ci) (ho : o < T)
    (kk : zg G X c nL T ce sl (pc + 3) lv (.long (zJ (σ o k)) :: st) σ) : zg G X c nL T ce sl pc lv (.ref (zB G + o) :: st) σ :=
  z_get C hf hd hk ho (fun hb => kk)
/-- a reference that is set; d is its kind less 3 -/
theorem z_getR (C : zC G X cc nL own ret c fr lo mc ms T1 post isI l) {index ci k o d : Nat} (o' : Nat) (hf : zfl own index ci k (d + 3)) (hd : decode cc pc = .ok (.getfield index, 3)) (hk : zk o = ci) (ho : o < T) (ho' : o + (d + 1) = o') (hc : c = true ∨ σ o k ≠ 0)
    (kk : zg G X c nL T ce sl (pc + 3) lv (.ref (zB G + o') :: st) σ) : zg G X c nL T ce sl pc lv (.ref (zB G + o) :: st) σ :=
  z_get C hf hd hk ho (fun hb => by
    have hne : σ o k ≠ 0 := by
      rcases hc with hc | hc
      · exact hb.1 hc o k (Or.inl (by rw [hk, zt_getD hf.2.2.1]; omega))
      · exact hc
    rw [show zv (zB G) o (d + 3) (σ o k) = .ref (zB G + o') by simp [zv, hne, ← ho']]
    exact kk)
theorem z_put (C : zC G X cc nL own ret c fr lo mc ms T1 post isI l) {index ci k t o : Nat} {x : Int} (hf : zfl own index ci k t) (ht : t < 3) (hd : decode cc pc = .ok (.putfield index, 3)) (hk : zk o = ci) (ho : o < T) {ty : FieldType} (hty : parseFieldDescriptor ((zq ci).2.1 k).2.2.1 = some ty) (hfin : ((zq ci).2.1 k).2.2.2 = false) (hn : narrow ty (zv (zB G) o t x) = zv (zB G) o t x) (hfit : fits ty (zv (zB G) o t x) = true) (hx : t ≠ 1 → zR x)
    (kk : zg G X c nL T ce sl (pc + 3) lv st (zU σ o k x)) : zg G X c nL T ce sl pc lv (zv (zB G) o t x :: .ref (zB G + o) :: st) σ := fun H locs ls hz hP hS hl hb => by
  obtain ⟨h1, h2, h3, h4⟩ := hf
  have hts : ∀ w ∈ u_ws (zq ci).1 (zq ci).2.1 (zq ci).2.2, w.before X.2.2.2.2.2.2.1 X.2.2.2.2.1 = true := fun w hw => C.2.2.2.2.1.2.2.1.use (zcl_in h1 w hw) _
  obtain ⟨ty0, hty0⟩ := zty_ok h1
  have hlen : k < (zF G σ o).length := by simp [zF, hk]; exact (List.getElem?_eq_some_iff.mp h3).1
  have hbu : zBu c (zU σ o k x) := hb.putI (fun _ => by
    have h6 := zchk_at h1 h2
    have h7 := zt_getD h3 0
    rw [hk, h7]; omega) (fun h => hx (by rw [hk, zt_getD h3] at h; exact h))
  have fin : ∀ (H1 : Heap) (locs1 : List Loc), va_P (zD G) vwCl ((zw G T σ).set o (zB G + o, .inr (ci, (zF G σ o).set k (zv (zB G) o t x)))) H1 → va_D (zA G) ((zw G T σ).set o (zB G + o, .inr (ci, (zF G σ o).set k (zv (zB G) o t x)))) → va_S (zA G) X.2.2.2.2.1.heap H1 locs1 → H1.size = H.size →
      W X.1 X.2.1 X.2.2.1 X.2.2.2.1 X.2.2.2.2.1 X.2.2.2.2.2.1 X.2.2.2.2.2.2.1 X.2.2.2.2.2.2.2.1 X.2.2.2.2.2.2.2.2.1 X.2.2.2.2.2.2.2.2.2.1 H1 locs1 ce sl X.2.2.2.2.2.2.2.2.2.2 (F0 X.2.2.2.2.2.1 (pc + 3) ls st) := by
    intro H1 locs1 hP1 _ hS1 hz1
    rw [zw_put ho hk h1 h3] at hP1
    exact kk H1 locs1 ls (hz1.trans hz) hP1 hS1 hl hbu
  have hap := va_apart (own := own) hts (fun w h => h) ty0 hty0 (znm_ok ci h1) C.2.2.2.2.1.1 (zq_at h1)
  obtain ⟨r, g1, cell, q1, q2, q3, q4⟩ := hP o _ (zw_obj ho hk h1)
  have hr : r = zq ci := Option.some.inj (g1.symm.trans (zq_at h1))
  subst hr
  obtain ⟨hS', hfc, kC, hkC, hkind⟩ := C.2.2.2.2.1.1.1 ci _ (zq_at h1)
  obtain ⟨cf, kf, fi, f, hi, hsl⟩ := hS' k h2
  have hlay := hts _ (u_in_lay h2)
  unfold u_lay at hlay
  rw [if_neg (by rw [hfin]; decide)] at hlay
  have hst := (u_facts hfc hkC (u_lays hts (fun w h => h) h2) hi).1
  have h6 := u_store hfc hkC hkind hlay hi hty hn hfit
  have he := zw_obj (G := G) (σ := σ) ho hk h1
  have fin2 : ∀ H' : Heap, H'[zB G + o]? = some (cell.setSlot f.slot (zv (zB G) o t x)) → H'.size = H.size → (∀ q, q ≠ zB G + o → H'[q]? = H[q]?) →
      W X.1 X.2.1 X.2.2.1 X.2.2.2.1 X.2.2.2.2.1 X.2.2.2.2.2.1 X.2.2.2.2.2.2.1 X.2.2.2.2.2.2.2.1 X.2.2.2.2.2.2.2.2.1 X.2.2.2.2.2.2.2.2.2.1 H' (locs ++ [⟨zB G + o, f.slot⟩]) ce sl X.2.2.2.2.2.2.2.2.2.2 (F0 X.2.2.2.2.2.1 (pc + 3) ls st) := by
    intro H' e1 e2 e3
    rw [hsl] at e1 ⊢
    exact fin H' _ (hP.set zw_D he ⟨_, zq_at h1, t_OB.to (V := updV (vp_V (zF G σ o)) k (zv (zB G) o t x)) ⟨_, e1, q2, q3, t_set q4 hap h2 _⟩ (fun j _ => vp_updV_set hlen _ j)⟩ e3) (zw_D.set he) (hS.put e2 e3 (Nat.le_add_right _ _)) e2
  rcases h4 with h4 | h4
  · exact W.putK C.1 C.2.1 (f := f) ⟨C.2.2.2.1, C.2.2.2.2.1.2.2.1.use h4 _, ⟨_, _, _, hi⟩, hst⟩ (by rw [q2]; exact h6) q1 q3 (by rw [hsl]; exact k2_hasslot (q4 k h2)) rfl rfl hd fin2
  · exact va_WputK C.1 C.2.1 (f := f) C.2.2.2.1 (va_Nw.use rfl (C.2.2.2.2.1.2.2.1.2.1 _ _ _ _ _ _ h4)) hi hst (by rw [q2]; exact h6) q1 q3 (by rw [hsl]; exact k2_hasslot (q4 k h2)) rfl rfl hd fin2
theorem zchk_0 {ci k : Nat} (h : ci < 11) (hk : k < (zq ci).2.2) (ht : (zt ci)[k]? = some 0) : parseFieldDescriptor ((zq ci).2.1 k).2.2.1 = some .int ∧ ((zq ci).2.1 k).2.2.2 = false := by
  have h2 := (zchk_at h hk).2
  rw [zt_getD ht] at h2
  cases hp : parseFieldDescriptor ((zq ci).2.1 k).2.2.1 with
  | none => rw [hp] at h2; simp at h2
  | some t => rw [hp] at h2; cases t <;> simp at h2; exact ⟨rfl, h2⟩
theorem zchk_1 {ci k : Nat} (h : ci < 11) (hk : k < (zq ci).2.2) (ht : (zt ci)[k]? = some 1) : parseFieldDescriptor ((zq ci).2.1 k).2.2.1 = some .long ∧ ((zq ci).2.1 k).2.2.2 = false := by
  have h2 := (zchk_at h hk).2
  rw [zt_getD ht] at h2
  cases hp : parseFieldDescriptor ((zq ci).2.1 k).2.2.1 with
  | none => rw [hp] at h2; simp at h2
  | some t => rw [hp] at h2; cases t <;> simp at h2; exact ⟨rfl, h2⟩
theorem zchk_2 {ci k : Nat} (h : ci < 11) (hk : k < (zq ci).2.2) (ht : (zt ci)[k]? = some 2) : parseFieldDescriptor ((zq ci).2.1 k).2.2.1 = some .boolean ∧ ((zq ci).2.1 k).2.2.2 = false := by
  have h2 := (zchk_at h hk).2
  rw [zt_getD ht] at h2
  cases hp : parseFieldDescriptor ((zq ci).2.1 k).2.2.1 with
  | none => rw [hp] at h2; simp at h2
  | some t => rw [hp] at h2; cases t <;> simp at h2; exact ⟨rfl, h2⟩
theorem z_putI (C : zC G X cc nL own ret c fr lo mc ms T1 post isI l) {index ci k o : Nat} {x : Int} (hf : zfl own index ci k 0) (hd : decode cc pc = .ok (.putfield index, 3)) (hk : zk o = ci) (ho : o < T) (hx : zR x)
    (kk : zg G X c nL T ce sl (pc + 3) lv st (zU σ o k x)) : zg G X c nL T ce sl pc lv (.int (zI x) :: .ref (zB G + o) :: st) σ :=
  z_put C (t := 0) (x := x) hf (by decide) hd hk ho (zchk_0 hf.1 hf.2.1 hf.2.2.1).1 (zchk_0 hf.1 hf.2.1 hf.2.2.1).2 rfl rfl (fun _ => hx) kk
theorem z_putZ (C : zC G X cc nL own ret c fr lo mc ms T1 post isI l) {index ci k o : Nat} {x : Int} (hf : zfl own index ci k 2) (hd : decode cc pc = .ok (.putfield index, 3)) (hk : zk o = ci) (ho : o < T) (hx : x = 0 ∨ x = 1)
    (kk : zg G X c nL T ce sl (pc + 3) lv st (zU σ o k x)) : zg G X c nL T ce sl pc lv (.int (zI x) :: .ref (zB G + o) :: st) σ :=
  z_put C (t := 2) (x := x) hf (by decide) hd hk ho (zchk_2 hf.1 hf.2.1 hf.2.2.1).1 (zchk_2 hf.1 hf.2.1 hf.2.2.1).2 (by show narrow .boolean (.int (zI x)) = .int (zI x); rcases hx with rfl | rfl <;> decide +kernel) (by show fits .boolean (.int (zI x)) = true; rcases hx with rfl | rfl <;> decide +kernel) (fun _ => by omega) kk
theorem z_putJ (C : zC G X cc nL own ret c fr lo mc ms T1 post isI l) {index ci k o : Nat} {x : Int} (hf : zfl own index ci k 1) (hd : decode cc pc = .ok (.putfield index, 3)) (hk : zk o = ci) (ho : o < T)
    (kk : zg G X c nL T ce sl (pc + 3) lv st (zU σ o k x)) : zg G X c nL T ce sl pc lv (.long (zJ x) :: .ref (zB G + o) :: st) σ :=
  z_put C (t := 1) (x := x) hf (by decide) hd hk ho (zchk_1 hf.1 hf.2.1 hf.2.2.1).1 (zchk_1 hf.1 hf.2.1 hf.2.2.1).2 rfl rfl (fun h => absurd rfl h) kk
end ZH
end
section
theorem zw_store {G : zGt} {T : Nat} {σ : zMem} {o i : Nat} {x : Int} (h : o < T) (hk : zk o = 11) : (zw G T σ).set o (zB G + o, .inl (G.2.2.1.1, zl o, .inl (upd (fun j => zI (σ o j)) i (zI x)))) = zw G T (zU σ o i x) := by
  have h1 : zE G (zU σ o i x) o = .inl (G.2.2.1.1, zl o, .inl (upd (fun j => zI (σ o j)) i (zI x))) := by
    rw [zE, if_neg (by omega), if_pos hk]
    congr 3
    have h2 : (fun j => zI (zU σ o i x o j)) = upd (fun j => zI (σ o j)) i (zI x) := by
      funext j
      by_cases hj : j = i
      · subst hj; simp [zU, upd]
      · simp [zU, upd, hj]
    rw [h2]
  rw [← h1]
  exact zw_set h (fun a ha => zU_ne ha)
theorem zw_storeB {G : zGt} {T : Nat} {σ : zMem} {o i : Nat} {x : Int} (h : o < T) (hk : zk o = 12) : (zw G T σ).set o (zB G + o, .inl (G.2.2.1.2.1, zl o, .inl (upd (fun j => zI (σ o j)) i (zI x)))) = zw G T (zU σ o i x) := by
  have h1 : zE G (zU σ o i x) o = .inl (G.2.2.1.2.1, zl o, .inl (upd (fun j => zI (σ o j)) i (zI x))) := by
    rw [zE, if_neg (by omega), if_neg (by omega), if_pos hk]
    congr 3
    have h2 : (fun j => zI (zU σ o i x o j)) = upd (fun j => zI (σ o j)) i (zI x) := by
      funext j
      by_cases hj : j = i
      · subst hj; simp [zU, upd]
      · simp [zU, upd, hj]
    rw [h2]
  rw [← h1]
  exact zw_set h (fun a ha => zU_ne ha)
theorem zt_big {k : Nat} (h : 11 ≤ k) (i : Nat) (d : Nat) : (zt k).getD i d = d := by
  have : zt k = [] := by
    unfold zt
    split <;> first | omega | rfl
  rw [this]; rfl
theorem zBu.arr {c : Bool} {σ : zMem} (h : zBu c σ) {o i : Nat} (hk : zk o = 11 ∨ zk o = 12) : zR (σ o i) := h.2 o i (by rw [zt_big (by omega)]; decide)
theorem zBu.store {c : Bool} {σ : zMem} {o i : Nat} {v : Int} (h : zBu c σ) (hk : zk o = 11 ∨ zk o = 12) (hv : zR v) : zBu c (zU σ o i v) :=
  h.putI (fun _ => by rw [zt_big (by omega)]; omega) (fun _ => hv)
/-- what a method of ours gives: an int, nothing, a long -/
def zPi (p : Int → zMem → Prop) : Option Value → zMem → Prop := fun v σ => ∃ r : Int, v = some (.int (zI r)) ∧ zR r ∧ p r σ
def zPv (p : zMem → Prop) : Option Value → zMem → Prop := fun v σ => v = none ∧ p σ
def zPl (p : Int → zMem → Prop) : Option Value → zMem → Prop := fun v σ => ∃ r : Int, v = some (.long (zJ r)) ∧ p r σ
def zPr (G : zGt) (p : Nat → zMem → Prop) : Option Value → zMem → Prop := fun v σ => ∃ o : Nat, v = some (.ref (zB G + o)) ∧ p o σ
/-- a method link of a pool -/
def zml (own : String) (index : Nat) (y : MethodName) : Prop := zin (.methodLink own index y) ∨ Cond.methodLinkNest own index y RX9 ∈ lw_tbl
def zny (y : MethodName) (n : Nat) : Prop := y.cls ≠ "java/lang/invoke/MethodHandle" ∧ y.cls ≠ "java/lang/invoke/VarHandle" ∧ (parseMethodDescriptor y.desc).map (fun d => d.parameters.length) = some n
/-- a method of an instance, of class number ci -/
def zcv (y : MethodName) (ci : Nat) (cc : ByteArray) (nL : Nat) (ret : Option FieldType) (n : Nat) : Prop := (ci < 11 ∧ (zq ci).1 = y.cls) ∧ zin (.code y cc nL ret) ∧ zin (.initialized y.cls) ∧ zin (.instanceMethod y) ∧ zin (.selects y.cls y y) ∧ zny y n
def zcs (y : MethodName) (cc : ByteArray) (nL : Nat) (ret : Option FieldType) (n : Nat) : Prop := zin (.code y cc nL ret) ∧ zin (.initialized y.cls) ∧ zin (.static y) ∧ zny y n
def zci (y : MethodName) (ci : Nat) (cc : ByteArray) (nL n : Nat) : Prop := (ci < 11 ∧ (zq ci).1 = y.cls) ∧ zin (.code y cc nL none) ∧ zin (.initialized y.cls) ∧ zin (.instanceMethod y) ∧ y.name = "<init>" ∧ zny y n
theorem zny.sig {y : MethodName} {n : Nat} (h : zny y n) : ∀ sig, parseMethodDescriptor y.desc = some sig → n = sig.parameters.length := by
  intro sig hs
  have h2 := h.2.2
  rw [hs] at h2
  exact (Option.some.inj h2).symm
section ZCALL
variable {G : zGt} {X : zXt} {c : Bool} {nL T ce sl pc fr lo mc ms T1 : Nat} {lv : List (Nat × Value)} {st : List Value} {σ : zMem} {cc : ByteArray} {own : String} {ret : Option FieldType} {post : Option Value → zMem → Prop} {isI : Bool} {l : Launch}
theorem z_iaload (C : zC G X cc nL own ret c fr lo mc ms T1 post isI l) {o : Nat} {a : Int} (i : Nat) (hd : decode cc pc = .ok (.iaload, 1)) (hk : zk o = 11) (ho : o < T) (hi : a = i) (hin : i < zl o)
    (kk : zR (σ o i) → zg G X c nL T ce sl (pc + 1) lv (.int (zI (σ o i)) :: st) σ) : zg G X c nL T ce sl pc lv (.int (zI a) :: .ref (zB G + o) :: st) σ := fun H locs ls hz hP hS hl hb => by
  subst hi
  have hl2 := zl_le o
  refine va_iald C.1 C.2.1 C.2.2.2.2.1.1 hP o 0 (zw_arr ho hk) rfl (zI_in hin (by omega)) hd ?_
  rw [zI_nat (by omega)]
  exact kk (hb.arr (Or.inl hk)) H locs ls hz hP hS hl hb
theorem z_baload (C : zC G X cc nL own ret c fr lo mc ms T1 post isI l) {o : Nat} {a : Int} (i : Nat) (hd : decode cc pc = .ok (.baload, 1)) (hk : zk o = 12) (ho : o < T) (hi : a = i) (hin : i < zl o)
    (kk : zR (σ o i) → zg G X c nL T ce sl (pc + 1) lv (.int (zI (σ o i)) :: st) σ) : zg G X c nL T ce sl pc lv (.int (zI a) :: .ref (zB G + o) :: st) σ := fun H locs ls hz hP hS hl hb => by
  subst hi
  have hl2 := zl_le o
  refine va_bald C.1 C.2.1 C.2.2.2.2.1.1 hP o 1 (zw_byt ho hk) rfl (zI_in hin (by omega)) hd ?_
  rw [zI_nat (by omega)]
  exact kk (hb.arr (Or.inr hk)) H locs ls hz hP hS hl hb
theorem z_aaload (C : zC G X cc nL own ret c fr lo mc ms T1 post isI l) {o : Nat} {a : Int} (i o' : Nat) (hd : decode cc pc = .ok (.aaload, 1)) (hk : zk o = 13) (ho : o < T) (hi : a = i) (hin : i < zl o) (ho' : o + (1 + 9 * i) = o') (hc : c = true ∨ σ o i ≠ 0)
    (kk : zg G X c nL T ce sl (pc + 1) lv (.ref (zB G + o') :: st) σ) : zg G X c nL T ce sl pc lv (.int (zI a) :: .ref (zB G + o) :: st) σ := fun H locs ls hz hP hS hl hb => by
  subst hi
  have hl2 := zl_le o
  have hne : σ o i ≠ 0 := by
    rcases hc with hc | hc
    · exact hb.1 hc o i (Or.inr hk)
    · exact hc
  refine va_aldq C.1 C.2.1 C.2.2.2.2.1.1 hP o 2 (zw_ref ho hk) rfl (zI_in hin (by omega)) hd ?_
  rw [zI_nat (by omega), if_neg hne, ho']
  exact kk H locs ls hz hP hS hl hb
theorem z_iastore (C : zC G X cc nL own ret c fr lo mc ms T1 post isI l) {o : Nat} {a x : Int} (i : Nat) (hd : decode cc pc = .ok (.iastore, 1)) (hk : zk o = 11) (ho : o < T) (hi : a = i) (hin : i < zl o) (hx : zR x)
    (kk : zg G X c nL T ce sl (pc + 1) lv st (zU σ o i x)) : zg G X c nL T ce sl pc lv (.int (zI x) :: .int (zI a) :: .ref (zB G + o) :: st) σ := fun H locs ls hz hP hS hl hb => by
  subst hi
  have hl2 := zl_le o
  have hlt : i < 2147483648 := by omega
  have ha := zw_arr (G := G) (σ := σ) ho hk
  refine W.iast C.1 C.2.1 (hP o _ ha) ((C.2.2.2.2.1.1.2 0 _ rfl).1 (zl o) (fun j => .int (zI (σ o j)))) (fun q => by cases q) (by show ¬ (zI (i : Int) < 0 ∨ (arrV _ _ _).slots.size ≤ _); rw [arrV_size]; exact zI_in (n := zl o) hin (by omega)) rfl rfl hd fun H1 e z oq => ?_
  rw [zI_nat hlt] at e ⊢
  have h1 : va_P (zD G) vwCl (zw G T (zU σ o i x)) H1 := by
    rw [← zw_store ho hk]
    refine hP.set zw_D ha ?_ oq
    show H1[_]? = some (vp_cell _ _)
    rw [e]
    rw [vp_cell_i, vp_cell_i, arrV_store]
    congr 2
    funext q
    by_cases hq : q = i
    · subst hq
      simp [updV, upd]
    · simp [updV, upd, hq]
  exact kk H1 _ ls (z.trans hz) h1 (hS.put z oq (Nat.le_add_right _ _)) hl (hb.store (Or.inl hk) hx)
theorem z_bastore (C : zC G X cc nL own ret c fr lo mc ms T1 post isI l) {o : Nat} {a x : Int} (i : Nat) (hd : decode cc pc = .ok (.bastore, 1)) (hk : zk o = 12) (ho : o < T) (hi : a = i) (hin : i < zl o) (hx : zR x) (hn : narrow .byte (.int (zI x)) = .int (zI x))
    (kk : zg G X c nL T ce sl (pc + 1) lv st (zU σ o i x)) : zg G X c nL T ce sl pc lv (.int (zI x) :: .int (zI a) :: .ref (zB G + o) :: st) σ := fun H locs ls hz hP hS hl hb => by
  subst hi
  have hl2 := zl_le o
  have hlt : i < 2147483648 := by omega
  have ha := zw_byt (G := G) (σ := σ) ho hk
  refine W.bast C.1 C.2.1 (hP o _ ha) ((C.2.2.2.2.1.1.2 1 _ rfl).1 (zl o) (fun j => .int (zI (σ o j)))) (fun q => by cases q) (by show ¬ (zI (i : Int) < 0 ∨ (arrV _ _ _).slots.size ≤ _); rw [arrV_size]; exact zI_in (n := zl o) hin (by omega)) rfl rfl hd fun H1 e z oq => ?_
  rw [zI_nat hlt] at e ⊢
  have h1 : va_P (zD G) vwCl (zw G T (zU σ o i x)) H1 := by
    rw [← zw_storeB ho hk]
    refine hP.set zw_D ha ?_ oq
    show H1[_]? = some (vp_cell _ _)
    rw [e]
    rw [vp_cell_i, vp_cell_i, arrV_store]
    congr 2
    funext q
    by_cases hq : q = i
    · subst hq
      simp [updV, upd]
      exact hn
    · simp [updV, upd, hq]
  exact kk H1 _ ls (z.trans hz) h1 (hS.put z oq (Nat.le_add_right _ _)) hl (hb.store (Or.inr hk) hx)
theorem z_alen (C : zC G X cc nL own ret c fr lo mc ms T1 post isI l) {o : Nat} {n : Int} (hd : decode cc pc = .ok (.arraylength, 1)) (hk : zk o = 11 ∨ zk o = 13) (ho : o < T) (hn : n = zl o)
    (kk : zg G X c nL T ce sl (pc + 1) lv (.int (zI n) :: st) σ) : zg G X c nL T ce sl pc lv (.ref (zB G + o) :: st) σ := fun H locs ls hz hP hS hl hb => by
  subst hn
  rcases hk with hk | hk
  · exact va_alen C.1 C.2.1 C.2.2.2.2.1.1 hP o 0 (zw_arr ho hk) (ty := .int) rfl Int32.ofInt_eq_ofNat.symm hd (kk H locs ls hz hP hS hl hb)
  · exact va_alen C.1 C.2.1 C.2.2.2.2.1.1 hP o 2 (zw_ref ho hk) (ty := .object RX1) rfl Int32.ofInt_eq_ofNat.symm hd (kk H locs ls hz hP hS hl hb)
/-- behind a call -/
theorem z_after {mcy msy Ty : Nat} {H : Heap} {locs : List Loc} {ls : Array Slot} {a : Array Value} {rest : List Value} {posty : Option Value → zMem → Prop} (hz : H.size = zB G + T) (hS : va_S (zA G) X.2.2.2.2.1.heap H locs) (hl : lv_has ls nL lv) (hle : T ≤ Ty)
    (hr : va_Run X.1 X.2.1 X.2.2.1 X.2.2.2.1 X.2.2.2.2.1 X.2.2.2.2.2.1 X.2.2.2.2.2.2.1 X.2.2.2.2.2.2.2.1 X.2.2.2.2.2.2.2.2.1 X.2.2.2.2.2.2.2.2.2.1 H locs ce sl mcy msy (F0 X.2.2.2.2.2.1 pc ls st) rest (zQ G c Ty posty a) (zA G))
    (kk : ∀ (v : Option Value) (τ : zMem), posty v τ → zg G X c nL Ty (ce + mcy) (sl + msy) (pc + 3) lv (v.toList ++ rest) τ) :
    W X.1 X.2.1 X.2.2.1 X.2.2.2.1 X.2.2.2.2.1 X.2.2.2.2.2.1 X.2.2.2.2.2.2.1 X.2.2.2.2.2.2.2.1 X.2.2.2.2.2.2.2.2.1 X.2.2.2.2.2.2.2.2.2.1 H locs ce sl X.2.2.2.2.2.2.2.2.2.2 (F0 X.2.2.2.2.2.1 pc ls st) := by
  intro U hU S
  obtain ⟨v, st₀, t, T', L, h0, X', hL, e1, e2, ⟨v', τ, hv, hp, hbu, hsz, hPt, hkeep⟩, stp⟩ := hr U hU S
  cases hv
  rw [h0] at hkeep
  have hS' : va_S (zA G) X.2.2.2.2.1.heap t.heap (locs ++ L) := by
    refine ⟨by rw [hsz]; have := hS.1; rw [hz] at this; omega, fun q h1 h2 => ?_, fun q hq => ?_⟩
    · rw [hkeep q (Nat.lt_of_lt_of_le h1 hS.1) h2]
      exact hS.2.1 q h1 h2
    · rcases List.mem_append.mp hq with h | h
      · exact hS.2.2 q h
      · exact hL q h
  obtain ⟨t2, a1, b1⟩ := kk v τ hp t.heap (locs ++ L) ls hsz hPt hS' hl hbu T' e1 X'
  exact ⟨t2, stp t2 a1, b1⟩
theorem z_pre (C : zC G X cc nL own ret c fr lo mc ms T1 post isI l) {H : Heap} {locs : List Loc} (hz : H.size = zB G + T) (hP : va_P (zD G) vwCl (zw G T σ) H) (hS : va_S (zA G) X.2.2.2.2.1.heap H locs) (hb : zBu c σ) {U : State} (hU : U.heap = H) (hW : X.2.2.2.2.1.WarmedH U.vm) : zP G c T σ U := by
  refine ⟨?_, by rw [hU]; exact Nat.le_trans C.2.2.2.2.2.1 hS.1, by rw [hU]; exact hz, by rw [hU]; exact hP, hb⟩
  rw [hU]
  exact (C.2.2.2.2.1.warm hW).kept hS.2.1
/-- invokevirtual -/
theorem z_V (C : zC G X cc nL own ret c fr lo mc ms T1 post isI l) {y : MethodName} {ccy : ByteArray} {nLy : Nat} {rety : Option FieldType} {fry loy mcy msy Ty n ci o index : Nat} {av As rest : List Value} {posty : Option Value → zMem → Prop}
    (hM : zM l G y ccy nLy rety c fry loy mcy msy T Ty av σ posty) (hl : zml own index y) (hy : zcv y ci ccy nLy rety n) (hd : decode cc pc = .ok (.invokevirtual index, 3)) (hk : zk o = ci) (ho : o < T) (hav : av = .ref (zB G + o) :: As) (hst : st = As.reverse ++ .ref (zB G + o) :: rest) (hn : As.length = n) (hW : (rest.map fun v => v.category).sum ≤ 8) (hR : (fry + 1 ≤ fr ∧ 8 + (nLy + 11) + loy ≤ lo) ∧ ce + mcy ≤ mc ∧ sl + msy ≤ ms) (hle : T ≤ Ty)
    (kk : ∀ (v : Option Value) (τ : zMem), posty v τ → zg G X c nL Ty (ce + mcy) (sl + msy) (pc + 3) lv (v.toList ++ rest) τ) : zg G X c nL T ce sl pc lv st σ := fun H locs ls hz hP hS hl0 hb => by
  obtain ⟨⟨hci, hcn⟩, w1, w2, w3, w4, hny⟩ := hy
  subst hk
  have hTW := C.2.2.2.2.1.2.2.1
  have hMet : Met X.2.1 y [.code y ccy nLy rety] { frames := fry, cells := mcy, slots := msy, locals := loy } (va_Pc av (zP G c T σ)) (zQ G c Ty posty) mcy msy (zA G) := by
    rw [C.2.2.2.2.2.2.2.2.2.2.2]; exact hM
  have hRR := C.2.2.2.2.2.2.2.2.1
  have hws : ∀ w ∈ [Cond.code y ccy nLy rety], ∀ (a' : Array Value) (U : State), X.2.2.2.2.1.WarmedH U.vm → w.before a' U = true := fun w hw a' U hWU => by
    rw [List.mem_singleton] at hw; subst hw
    exact word_at (args := #[]) hWU (good_of_word w1.2) (hTW.use w1 _)
  refine z_after (a := (Value.ref (zB G + o) :: As).toArray) (rest := rest) hz hS hl0 hle ?_ kk
  have hp : PreV X.2.2.2.2.1 H (zq (zk o)).1 (zB G + o) (va_Pc av (zP G c T σ)) As := ⟨zP.blind, va_recv C.2.2.2.2.1.1 hP (zq_at hci) (zw_obj ho rfl hci), fun U hU hWU => ⟨by rw [hav], z_pre C hz hP hS hb hU hWU⟩⟩
  rcases hl with hl | hl
  · refine va_runV (Ts := []) (n := n) (C := (zq (zk o)).1) ⟨C.1, C.2.1, C.2.2.1, C.2.2.2.1, fun w hw => by cases hw⟩ hMet ⟨⟨rfl, rfl, by rw [hRR]; exact hR.1.1, by rw [hRR]; exact hR.1.2, hws, List.mem_cons_self, hTW.use w1 _, hTW.use w2 _, ⟨hny.1, hny.2.1⟩, hny.sig, hTW.use hl _⟩, hTW.use w3 _, by rw [hcn]; exact hTW.use w4 _⟩ hp rfl hn hl0.1 hst (by show 2 * 0 + _ ≤ 8; omega) hd (by rw [hRR]; exact hR.2)
  · refine va_runVN (Ts := []) (n := n) (C := (zq (zk o)).1) ⟨C.1, C.2.1, C.2.2.1, C.2.2.2.1, fun w hw => by cases hw⟩ hMet ⟨⟨⟨rfl, rfl, by rw [hRR]; exact hR.1.1, by rw [hRR]; exact hR.1.2, hws, List.mem_cons_self⟩, hTW.use w1 _, hTW.use w2 _, ⟨hny.1, hny.2.1⟩, hny.sig, va_Nw.use rfl (hTW.2.2 _ _ _ _ hl)⟩, hTW.use w3 _, by rw [hcn]; exact hTW.use w4 _⟩ hp rfl hn hl0.1 hst (by show 2 * 0 + _ ≤ 8; omega) hd (by rw [hRR]; exact hR.2)
/-- invokestatic -/
theorem z_S (C : zC G X cc nL own ret c fr lo mc ms T1 post isI l) {y : MethodName} {ccy : ByteArray} {nLy : Nat} {rety : Option FieldType} {fry loy mcy msy Ty n index : Nat} {av rest : List Value} {posty : Option Value → zMem → Prop}
    (hM : zM l G y ccy nLy rety c fry loy mcy msy T Ty av σ posty) (hl : zml own index y) (hy : zcs y ccy nLy rety n) (hd : decode cc pc = .ok (.invokestatic index, 3)) (hst : st = av.reverse ++ rest) (hn : av.length = n) (hW : (rest.map fun v => v.category).sum ≤ 8) (hR : (fry + 1 ≤ fr ∧ 8 + (nLy + 11) + loy ≤ lo) ∧ ce + mcy ≤ mc ∧ sl + msy ≤ ms) (hle : T ≤ Ty)
    (kk : ∀ (v : Option Value) (τ : zMem), posty v τ → zg G X c nL Ty (ce + mcy) (sl + msy) (pc + 3) lv (v.toList ++ rest) τ) : zg G X c nL T ce sl pc lv st σ := fun H locs ls hz hP hS hl0 hb => by
  obtain ⟨w1, w2, w3, hny⟩ := hy
  have hTW := C.2.2.2.2.1.2.2.1
  have hMet : Met X.2.1 y [.code y ccy nLy rety] { frames := fry, cells := mcy, slots := msy, locals := loy } (va_Pc av (zP G c T σ)) (zQ G c Ty posty) mcy msy (zA G) := by
    rw [C.2.2.2.2.2.2.2.2.2.2.2]; exact hM
  have hRR := C.2.2.2.2.2.2.2.2.1
  have hws : ∀ w ∈ [Cond.code y ccy nLy rety], ∀ (a' : Array Value) (U : State), X.2.2.2.2.1.WarmedH U.vm → w.before a' U = true := fun w hw a' U hWU => by
    rw [List.mem_singleton] at hw; subst hw
    exact word_at (args := #[]) hWU (good_of_word w1.2) (hTW.use w1 _)
  refine z_after (a := av.toArray) (rest := rest) hz hS hl0 hle ?_ kk
  have hp : PreS X.2.2.2.2.1 H (va_Pc av (zP G c T σ)) av := ⟨zP.blind, fun U hU hWU => ⟨rfl, z_pre C hz hP hS hb hU hWU⟩⟩
  rcases hl with hl | hl
  · exact va_runS (Ts := []) (n := n) ⟨C.1, C.2.1, C.2.2.1, C.2.2.2.1, fun w hw => by cases hw⟩ hMet ⟨⟨rfl, rfl, by rw [hRR]; exact hR.1.1, by rw [hRR]; exact hR.1.2, hws, List.mem_cons_self, hTW.use w1 _, hTW.use w2 _, ⟨hny.1, hny.2.1⟩, hny.sig, hTW.use hl _⟩, hTW.use w3 _⟩ hp rfl hn hl0.1 hst (by show 2 * 0 + _ ≤ 8; omega) hd (by rw [hRR]; exact hR.2)
  · exact va_runSN (Ts := []) (n := n) ⟨C.1, C.2.1, C.2.2.1, C.2.2.2.1, fun w hw => by cases hw⟩ hMet ⟨⟨⟨rfl, rfl, by rw [hRR]; exact hR.1.1, by rw [hRR]; exact hR.1.2, hws, List.mem_cons_self⟩, hTW.use w1 _, hTW.use w2 _, ⟨hny.1, hny.2.1⟩, hny.sig, va_Nw.use rfl (hTW.2.2 _ _ _ _ hl)⟩, hTW.use w3 _, trivial⟩ hp rfl hn hl0.1 hst (by show 2 * 0 + _ ≤ 8; omega) hd (by rw [hRR]; exact hR.2)
/-- invokespecial of a constructor -/
theorem z_I (C : zC G X cc nL own ret c fr lo mc ms T1 post isI l) {y : MethodName} {ccy : ByteArray} {nLy : Nat} {fry loy mcy msy Ty n ci o index : Nat} {av As rest : List Value} {posty : Option Value → zMem → Prop}
    (hM : zM l G y ccy nLy none c fry loy mcy msy T Ty av σ posty) (hl : zml own index y) (hy : zci y ci ccy nLy n) (hd : decode cc pc = .ok (.invokespecial index, 3)) (hav : av = .ref (zB G + o) :: As) (hst : st = As.reverse ++ .ref (zB G + o) :: rest) (hn : As.length = n) (hW : (rest.map fun v => v.category).sum ≤ 8) (hR : (fry + 1 ≤ fr ∧ 8 + (nLy + 11) + loy ≤ lo) ∧ ce + mcy ≤ mc ∧ sl + msy ≤ ms) (hle : T ≤ Ty)
    (kk : ∀ (v : Option Value) (τ : zMem), posty v τ → zg G X c nL Ty (ce + mcy) (sl + msy) (pc + 3) lv (v.toList ++ rest) τ) : zg G X c nL T ce sl pc lv st σ := fun H locs ls hz hP hS hl0 hb => by
  obtain ⟨⟨hci, hcn⟩, w1, w2, w3, w4, hny⟩ := hy
  have hTW := C.2.2.2.2.1.2.2.1
  have hMet : Met X.2.1 y [.code y ccy nLy none] { frames := fry, cells := mcy, slots := msy, locals := loy } (va_Pc av (zP G c T σ)) (zQ G c Ty posty) mcy msy (zA G) := by
    rw [C.2.2.2.2.2.2.2.2.2.2.2]; exact hM
  have hRR := C.2.2.2.2.2.2.2.2.1
  have hws : ∀ w ∈ [Cond.code y ccy nLy none], ∀ (a' : Array Value) (U : State), X.2.2.2.2.1.WarmedH U.vm → w.before a' U = true := fun w hw a' U hWU => by
    rw [List.mem_singleton] at hw; subst hw
    exact word_at (args := #[]) hWU (good_of_word w1.2) (hTW.use w1 _)
  refine z_after (a := (Value.ref (zB G + o) :: As).toArray) (rest := rest) hz hS hl0 hle ?_ kk
  have hp : PreS X.2.2.2.2.1 H (va_Pc av (zP G c T σ)) (.ref (zB G + o) :: As) := ⟨zP.blind, fun U hU hWU => ⟨by rw [hav], z_pre C hz hP hS hb hU hWU⟩⟩
  rcases hl with hl | hl
  · exact va_runI (Ts := []) (n := n) ⟨C.1, C.2.1, C.2.2.1, C.2.2.2.1, fun w hw => by cases hw⟩ hMet ⟨⟨rfl, rfl, by rw [hRR]; exact hR.1.1, by rw [hRR]; exact hR.1.2, hws, List.mem_cons_self, hTW.use w1 _, hTW.use w2 _, ⟨hny.1, hny.2.1⟩, hny.sig, hTW.use hl _⟩, w4, hTW.use w3 _⟩ hp rfl hn hl0.1 hst (by show 2 * 0 + _ ≤ 8; omega) hd (by rw [hRR]; exact hR.2)
  · exact va_runIN (Ts := []) (n := n) ⟨C.1, C.2.1, C.2.2.1, C.2.2.2.1, fun w hw => by cases hw⟩ hMet ⟨⟨⟨rfl, rfl, by rw [hRR]; exact hR.1.1, by rw [hRR]; exact hR.1.2, hws, List.mem_cons_self⟩, hTW.use w1 _, hTW.use w2 _, ⟨hny.1, hny.2.1⟩, hny.sig, va_Nw.use rfl (hTW.2.2 _ _ _ _ hl)⟩, w4, hTW.use w3 _⟩ hp rfl hn hl0.1 hst (by show 2 * 0 + _ ≤ 8; omega) hd (by rw [hRR]; exact hR.2)
/-- returns -/
theorem z_end (C : zC G X cc nL own ret c fr lo mc ms T1 post isI l) {H : Heap} {locs : List Loc} (hz : H.size = zB G + T1) (hP : va_P (zD G) vwCl (zw G T1 σ) H) (hS : va_S (zA G) X.2.2.2.2.1.heap H locs) (hb : zBu c σ) {v : Option Value} (hp : post v σ) : ∀ t : State, t.heap = H → X.2.2.2.2.1.WarmedH t.vm → zQ G c T1 post X.2.2.2.2.2.2.1 X.2.2.2.2.1 (.returned v) t := by
  intro t ht _
  exact ⟨v, σ, rfl, hp, hb, by rw [ht]; exact hz, by rw [ht]; exact hP, by rw [ht]; exact hS.2.1⟩
theorem z_iret (C : zC G X cc nL own (some .int) c fr lo ce sl T post isI l) {a : Int} (hd : decode cc pc = .ok (.ireturn, 1)) (hp : post (some (.int (zI a))) σ) : zg G X c nL T ce sl pc lv [.int (zI a)] σ := fun H locs ls hz hP hS hl hb => by
  rw [C.2.2.2.2.2.2.2.2.2.1]
  exact W.iret C.1 C.2.1 C.2.2.2.2.2.2.2.1 (z_end C hz hP hS hb hp) hS.2.2 hd C.2.2.2.2.2.2.1
theorem z_zret (C : zC G X cc nL own (some .boolean) c fr lo ce sl T post isI l) {a : Int} (hd : decode cc pc = .ok (.ireturn, 1)) (ha : a = 0 ∨ a = 1) (hp : post (some (.int (zI a))) σ) : zg G X c nL T ce sl pc lv [.int (zI a)] σ := fun H locs ls hz hP hS hl hb => by
  rw [C.2.2.2.2.2.2.2.2.2.1]
  exact W.zret C.1 C.2.1 C.2.2.2.2.2.2.2.1 (by rcases ha with rfl | rfl <;> decide +kernel) (z_end C hz hP hS hb hp) hS.2.2 hd C.2.2.2.2.2.2.1
theorem z_lret (C : zC G X cc nL own (some .long) c fr lo ce sl T post isI l) {a : Int} (hd : decode cc pc = .ok (.lreturn, 1)) (hp : post (some (.long (zJ a))) σ) : zg G X c nL T ce sl pc lv [.long (zJ a)] σ := fun H locs ls hz hP hS hl hb => by
  rw [C.2.2.2.2.2.2.2.2.2.1]
  exact W.lret C.1 C.2.1 C.2.2.2.2.2.2.2.1 (z_end C hz hP hS hb hp) hS.2.2 hd C.2.2.2.2.2.2.1
theorem z_aret {nm : String} (C : zC G X cc nL own (some (.object nm)) c fr lo ce sl T post isI l) {o : Nat} (hd : decode cc pc = .ok (.areturn, 1)) (hp : post (some (.ref (zB G + o))) σ) : zg G X c nL T ce sl pc lv [.ref (zB G + o)] σ := fun H locs ls hz hP hS hl hb => by
  rw [C.2.2.2.2.2.2.2.2.2.1]
  exact W.aret C.1 C.2.1 C.2.2.2.2.2.2.2.1 (Or.inl ⟨_, rfl⟩) (Or.inr ⟨_, rfl⟩) (z_end C hz hP hS hb hp) hS.2.2 hd C.2.2.2.2.2.2.1
theorem z_vret (C : zC G X cc nL own none c fr lo ce sl T post isI l) (hd : decode cc pc = .ok (.return_, 1)) (hp : post none σ) : zg G X c nL T ce sl pc lv [] σ := fun H locs ls hz hP hS hl hb => by
  rw [C.2.2.2.2.2.2.2.2.2.1]
  exact W.vret C.1 C.2.1 C.2.2.2.2.2.2.2.1 (z_end C hz hP hS hb hp) hS.2.2 hd C.2.2.2.2.2.2.1
/-- Math -/
theorem z_max (C : zC G X cc nL own ret c fr lo mc ms T1 post isI l) {a b : Int} {index : Nat} (hl0 : zin (.methodLink own index Lib.Math.max.name)) (hw : zin (.static Lib.Math.max.name) ∧ zin (.initialized "java/lang/Math") ∧ zin (.code Lib.Math.max.name Lib.Math.max.code 2 (some .int))) (hd : decode cc pc = .ok (.invokestatic index, 3)) (hR : (1 ≤ fr ∧ (st.map fun v => v.category).sum + 13 ≤ lo) ∧ ce ≤ mc ∧ sl ≤ ms) (ha : zR a ∧ zR b)
    (kk : zg G X c nL T ce sl (pc + 3) lv (.int (zI (if a < b then b else a)) :: st) σ) : zg G X c nL T ce sl pc lv (.int (zI b) :: .int (zI a) :: st) σ := fun H locs ls hz hP hS hl hb => by
  have hRR := C.2.2.2.2.2.2.2.2.1
  have hTW := C.2.2.2.2.1.2.2.1
  refine va_mmax C.1 C.2.1 (by rw [C.2.2.1]; exact hl.1.symm) C.2.2.2.1 (hTW.use hl0 _) (hTW.use hw.1 _) (hTW.use hw.2.1 _) (hTW.use hw.2.2 _) (by rw [hRR]; exact hR.1.1) (by rw [hRR]; exact hR.1.2) (by rw [hRR]; exact hR.2.1) (by rw [hRR]; exact hR.2.2) hd ?_
  rw [show (if zI a < zI b then zI b else zI a) = zI (if a < b then b else a) by by_cases h : a < b <;> simp [h, zI_lt ha.1 ha.2]]
  exact kk H locs ls hz hP hS hl hb
theorem z_min (C : zC G X cc nL own ret c fr lo mc ms T1 post isI l) {a b : Int} {index : Nat} (hl0 : zin (.methodLink own index Lib.Math.min.name)) (hw : zin (.static Lib.Math.min.name) ∧ zin (.initialized "java/lang/Math") ∧ zin (.code Lib.Math.min.name Lib.Math.min.code 2 (some .int))) (hd : decode cc pc = .ok (.invokestatic index, 3)) (hR : (1 ≤ fr ∧ (st.map fun v => v.category).sum + 13 ≤ lo) ∧ ce ≤ mc ∧ sl ≤ ms) (ha : zR a ∧ zR b)
    (kk : zg G X c nL T ce sl (pc + 3) lv (.int (zI (if b < a then b else a)) :: st) σ) : zg G X c nL T ce sl pc lv (.int (zI b) :: .int (zI a) :: st) σ := fun H locs ls hz hP hS hl hb => by
  have hRR := C.2.2.2.2.2.2.2.2.1
  have hTW := C.2.2.2.2.1.2.2.1
  refine va_mmin C.1 C.2.1 (by rw [C.2.2.1]; exact hl.1.symm) C.2.2.2.1 (hTW.use hl0 _) (hTW.use hw.1 _) (hTW.use hw.2.1 _) (hTW.use hw.2.2 _) (by rw [hRR]; exact hR.1.1) (by rw [hRR]; exact hR.1.2) (by rw [hRR]; exact hR.2.1) (by rw [hRR]; exact hR.2.2) hd ?_
  rw [show (if zI b < zI a then zI b else zI a) = zI (if b < a then b else a) by by_cases h : b < a <;> simp [h, zI_lt ha.2 ha.1]]
  exact kk H locs ls hz hP hS hl hb
theorem z_abs (C : zC G X cc nL own ret c fr lo mc ms T1 post isI l) {a : Int} {index : Nat} (hl0 : zin (.methodLink own index Lib.Math.abs.name)) (hw : zin (.static Lib.Math.abs.name) ∧ zin (.initialized "java/lang/Math") ∧ zin (.code Lib.Math.abs.name Lib.Math.abs.code 1 (some .int))) (hd : decode cc pc = .ok (.invokestatic index, 3)) (hR : (1 ≤ fr ∧ (st.map fun v => v.category).sum + 13 ≤ lo) ∧ ce ≤ mc ∧ sl ≤ ms) (ha : zR a)
    (kk : zg G X c nL T ce sl (pc + 3) lv (.int (zI (if 0 ≤ a then a else 0 - a)) :: st) σ) : zg G X c nL T ce sl pc lv (.int (zI a) :: st) σ := fun H locs ls hz hP hS hl hb => by
  have hRR := C.2.2.2.2.2.2.2.2.1
  have hTW := C.2.2.2.2.1.2.2.1
  refine va_mabs C.1 C.2.1 (by rw [C.2.2.1]; exact hl.1.symm) C.2.2.2.1 (hTW.use hl0 _) (hTW.use hw.1 _) (hTW.use hw.2.1 _) (hTW.use hw.2.2 _) (by rw [hRR]; exact hR.1.1) (by rw [hRR]; exact hR.1.2) (by rw [hRR]; exact hR.2.1) (by rw [hRR]; exact hR.2.2) hd ?_
  have h1 : (if 0 ≤ zI a then zI a else 0 - zI a) = zI (if 0 ≤ a then a else 0 - a) := by
    by_cases h : 0 ≤ a
    · rw [if_pos ((zI_ge0 ha).mpr h), if_pos h]
    · rw [if_neg (fun q => h ((zI_ge0 ha).mp q)), if_neg h, ← zI_sub, zI_0]
  rw [h1]
  exact kk H locs ls hz hP hS hl hb
end ZCALL
end
section
abbrev zRow (r n : Nat) : Prop := zk r = 6 ∧ zk (r + 1) = 11 ∧ zl (r + 1) = n ∧ r + 1 < 129
abbrev zLane (o : Nat) : Prop := zk o = 1 ∧ zRow (o + 1) 6 ∧ zRow (o + 3) 6 ∧ zRow (o + 5) 6 ∧ zRow (o + 7) 6 ∧ o + 8 < 129
/-- a contract of a method that makes nothing, of rank k, over the complete world -/
abbrev zN (l : Launch) (G : zGt) (y : MethodName) (cc : ByteArray) (nL : Nat) (ret : Option FieldType) (k : Nat) (av : List Value) (σ : zMem) (post : Option Value → zMem → Prop) : Prop := zM l G y cc nL ret true k (64 * k) 0 0 129 129 av σ post
section ZN
variable {G : zGt} {X : zXt} {nL pc k ky : Nat} {lv : List (Nat × Value)} {st : List Value} {σ : zMem} {cc : ByteArray} {own : String} {ret : Option FieldType} {post : Option Value → zMem → Prop} {isI : Bool} {l : Launch}
theorem z_sub (C : zC G X cc nL own ret true k (64 * k) 0 0 129 post isI l) {lv' : List (Nat × Value)} (ks : List Nat) (h : lv_pick lv ks = lv') (kk : zg G X true nL 129 0 0 pc lv' st σ) : zg G X true nL 129 0 0 pc lv st σ := fun H locs ls hz hP hS hl hb => kk H locs ls hz hP hS (lv_sub hl ks h) hb
theorem z_room {nLy : Nat} (h : ky + 1 ≤ k ∧ nLy ≤ 45) : (ky + 1 ≤ k ∧ 8 + (nLy + 11) + 64 * ky ≤ 64 * k) ∧ 0 + 0 ≤ 0 ∧ 0 + 0 ≤ 0 := by omega
theorem z_Vi (C : zC G X cc nL own ret true k (64 * k) 0 0 129 post isI l) {y : MethodName} {ccy : ByteArray} {nLy : Nat} {rety : Option FieldType} {n ci o index : Nat} {av As rest : List Value} {p : Int → zMem → Prop}
    (hM : zN l G y ccy nLy rety ky av σ (zPi p)) (hl : zml own index y) (hy : zcv y ci ccy nLy rety n) (hd : decode cc pc = .ok (.invokevirtual index, 3)) (hk : zk o = ci) (ho : o < 129) (hav : av = .ref (zB G + o) :: As) (hst : st = As.reverse ++ .ref (zB G + o) :: rest) (hn : As.length = n) (hW : (rest.map fun v => v.category).sum ≤ 8) (hR : ky + 1 ≤ k ∧ nLy ≤ 45)
    (kk : ∀ (r : Int) (τ : zMem), zR r → p r τ → zg G X true nL 129 0 0 (pc + 3) lv (.int (zI r) :: rest) τ) : zg G X true nL 129 0 0 pc lv st σ :=
  z_V C hM hl hy hd hk ho hav hst hn hW (z_room hR) (Nat.le_refl _) (fun v τ hq => by obtain ⟨r, rfl, h1, h2⟩ := hq; exact kk r τ h1 h2)
theorem z_Vv (C : zC G X cc nL own ret true k (64 * k) 0 0 129 post isI l) {y : MethodName} {ccy : ByteArray} {nLy : Nat} {rety : Option FieldType} {n ci o index : Nat} {av As rest : List Value} {p : zMem → Prop}
    (hM : zN l G y ccy nLy rety ky av σ (zPv p)) (hl : zml own index y) (hy : zcv y ci ccy nLy rety n) (hd : decode cc pc = .ok (.invokevirtual index, 3)) (hk : zk o = ci) (ho : o < 129) (hav : av = .ref (zB G + o) :: As) (hst : st = As.reverse ++ .ref (zB G + o) :: rest) (hn : As.length = n) (hW : (rest.map fun v => v.category).sum ≤ 8) (hR : ky + 1 ≤ k ∧ nLy ≤ 45)
    (kk : ∀ (τ : zMem), p τ → zg G X true nL 129 0 0 (pc + 3) lv rest τ) : zg G X true nL 129 0 0 pc lv st σ :=
  z_V C hM hl hy hd hk ho hav hst hn hW (z_room hR) (Nat.le_refl _) (fun v τ hq => by obtain ⟨rfl, h2⟩ := hq; exact kk τ h2)
theorem z_Vl (C : zC G X cc nL own ret true k (64 * k) 0 0 129 post isI l) {y : MethodName} {ccy : ByteArray} {nLy : Nat} {rety : Option FieldType} {n ci o index : Nat} {av As rest : List Value} {p : Int → zMem → Prop}
    (hM : zN l G y ccy nLy rety ky av σ (zPl p)) (hl : zml own index y) (hy : zcv y ci ccy nLy rety n) (hd : decode cc pc = .ok (.invokevirtual index, 3)) (hk : zk o = ci) (ho : o < 129) (hav : av = .ref (zB G + o) :: As) (hst : st = As.reverse ++ .ref (zB G + o) :: rest) (hn : As.length = n) (hW : (rest.map fun v => v.category).sum ≤ 8) (hR : ky + 1 ≤ k ∧ nLy ≤ 45)
    (kk : ∀ (r : Int) (τ : zMem), p r τ → zg G X true nL 129 0 0 (pc + 3) lv (.long (zJ r) :: rest) τ) : zg G X true nL 129 0 0 pc lv st σ :=
  z_V C hM hl hy hd hk ho hav hst hn hW (z_room hR) (Nat.le_refl _) (fun v τ hq => by obtain ⟨r, rfl, h2⟩ := hq; exact kk r τ h2)
theorem z_Vr (C : zC G X cc nL own ret true k (64 * k) 0 0 129 post isI l) {y : MethodName} {ccy : ByteArray} {nLy : Nat} {rety : Option FieldType} {n ci o index : Nat} {av As rest : List Value} {p : Nat → zMem → Prop}
    (hM : zN l G y ccy nLy rety ky av σ (zPr G p)) (hl : zml own index y) (hy : zcv y ci ccy nLy rety n) (hd : decode cc pc = .ok (.invokevirtual index, 3)) (hk : zk o = ci) (ho : o < 129) (hav : av = .ref (zB G + o) :: As) (hst : st = As.reverse ++ .ref (zB G + o) :: rest) (hn : As.length = n) (hW : (rest.map fun v => v.category).sum ≤ 8) (hR : ky + 1 ≤ k ∧ nLy ≤ 45)
    (kk : ∀ (r : Nat) (τ : zMem), p r τ → zg G X true nL 129 0 0 (pc + 3) lv (.ref (zB G + r) :: rest) τ) : zg G X true nL 129 0 0 pc lv st σ :=
  z_V C hM hl hy hd hk ho hav hst hn hW (z_room hR) (Nat.le_refl _) (fun v τ hq => by obtain ⟨r, rfl, h2⟩ := hq; exact kk r τ h2)
theorem z_Si (C : zC G X cc nL own ret true k (64 * k) 0 0 129 post isI l) {y : MethodName} {ccy : ByteArray} {nLy : Nat} {rety : Option FieldType} {n index : Nat} {av rest : List Value} {p : Int → zMem → Prop}
    (hM : zN l G y ccy nLy rety ky av σ (zPi p)) (hl : zml own index y) (hy : zcs y ccy nLy rety n) (hd : decode cc pc = .ok (.invokestatic index, 3)) (hst : st = av.reverse ++ rest) (hn : av.length = n) (hW : (rest.map fun v => v.category).sum ≤ 8) (hR : ky + 1 ≤ k ∧ nLy ≤ 45)
    (kk : ∀ (r : Int) (τ : zMem), zR r → p r τ → zg G X true nL 129 0 0 (pc + 3) lv (.int (zI r) :: rest) τ) : zg G X true nL 129 0 0 pc lv st σ :=
  z_S C hM hl hy hd hst hn hW (z_room hR) (Nat.le_refl _) (fun v τ hq => by obtain ⟨r, rfl, h1, h2⟩ := hq; exact kk r τ h1 h2)
theorem z_Sl (C : zC G X cc nL own ret true k (64 * k) 0 0 129 post isI l) {y : MethodName} {ccy : ByteArray} {nLy : Nat} {rety : Option FieldType} {n index : Nat} {av rest : List Value} {p : Int → zMem → Prop}
    (hM : zN l G y ccy nLy rety ky av σ (zPl p)) (hl : zml own index y) (hy : zcs y ccy nLy rety n) (hd : decode cc pc = .ok (.invokestatic index, 3)) (hst : st = av.reverse ++ rest) (hn : av.length = n) (hW : (rest.map fun v => v.category).sum ≤ 8) (hR : ky + 1 ≤ k ∧ nLy ≤ 45)
    (kk : ∀ (r : Int) (τ : zMem), p r τ → zg G X true nL 129 0 0 (pc + 3) lv (.long (zJ r) :: rest) τ) : zg G X true nL 129 0 0 pc lv st σ :=
  z_S C hM hl hy hd hst hn hW (z_room hR) (Nat.le_refl _) (fun v τ hq => by obtain ⟨r, rfl, h2⟩ := hq; exact kk r τ h2)
end ZN
section ZE
variable {G : zGt} {X : zXt} {c : Bool} {nL T ce sl pc fr lo mc ms T1 : Nat} {lv : List (Nat × Value)} {st : List Value} {σ : zMem} {cc : ByteArray} {own : String} {ret : Option FieldType} {post : Option Value → zMem → Prop} {isI : Bool} {l : Launch}
theorem z_putIe (C : zC G X cc nL own ret c fr lo mc ms T1 post isI l) {index ci k o : Nat} {x : Int} (hf : zfl own index ci k 0) (hd : decode cc pc = .ok (.putfield index, 3)) (hk : zk o = ci) (ho : o < T) (hx : zR x)
    (kk : ∀ τ : zMem, τ = zU σ o k x → zg G X c nL T ce sl (pc + 3) lv st τ) : zg G X c nL T ce sl pc lv (.int (zI x) :: .ref (zB G + o) :: st) σ := z_putI C hf hd hk ho hx (kk _ rfl)
theorem z_putZe (C : zC G X cc nL own ret c fr lo mc ms T1 post isI l) {index ci k o : Nat} {x : Int} (hf : zfl own index ci k 2) (hd : decode cc pc = .ok (.putfield index, 3)) (hk : zk o = ci) (ho : o < T) (hx : x = 0 ∨ x = 1)
    (kk : ∀ τ : zMem, τ = zU σ o k x → zg G X c nL T ce sl (pc + 3) lv st τ) : zg G X c nL T ce sl pc lv (.int (zI x) :: .ref (zB G + o) :: st) σ := z_putZ C hf hd hk ho hx (kk _ rfl)
theorem z_putJe (C : zC G X cc nL own ret c fr lo mc ms T1 post isI l) {index ci k o : Nat} {x : Int} (hf : zfl own index ci k 1) (hd : decode cc pc = .ok (.putfield index, 3)) (hk : zk o = ci) (ho : o < T)
    (kk : ∀ τ : zMem, τ = zU σ o k x → zg G X c nL T ce sl (pc + 3) lv st τ) : zg G X c nL T ce sl pc lv (.long (zJ x) :: .ref (zB G + o) :: st) σ := z_putJ C hf hd hk ho (kk _ rfl)
theorem z_iastoree (C : zC G X cc nL own ret c fr lo mc ms T1 post isI l) {o : Nat} {a x : Int} (i : Nat) (hd : decode cc pc = .ok (.iastore, 1)) (hk : zk o = 11) (ho : o < T) (hi : a = i) (hin : i < zl o) (hx : zR x)
    (kk : ∀ τ : zMem, τ = zU σ o i x → zg G X c nL T ce sl (pc + 1) lv st τ) : zg G X c nL T ce sl pc lv (.int (zI x) :: .int (zI a) :: .ref (zB G + o) :: st) σ := z_iastore C i hd hk ho hi hin hx (kk _ rfl)
theorem z_bastoree (C : zC G X cc nL own ret c fr lo mc ms T1 post isI l) {o : Nat} {a x : Int} (i : Nat) (hd : decode cc pc = .ok (.bastore, 1)) (hk : zk o = 12) (ho : o < T) (hi : a = i) (hin : i < zl o) (hx : zR x ∧ narrow .byte (.int (zI x)) = .int (zI x))
    (kk : ∀ τ : zMem, τ = zU σ o i x → zg G X c nL T ce sl (pc + 1) lv st τ) : zg G X c nL T ce sl pc lv (.int (zI x) :: .int (zI a) :: .ref (zB G + o) :: st) σ := z_bastore C i hd hk ho hi hin hx.1 hx.2 (kk _ rfl)
end ZE
/-! pure words -/
theorem zU_at {σ : zMem} {o k : Nat} {v : Int} : zU σ o k v o k = v := by simp [zU]
theorem zU_k {σ : zMem} {o k j : Nat} {v : Int} (h : j ≠ k) : zU σ o k v o j = σ o j := by simp [zU, h]
theorem zU_o {σ : zMem} {o k a b : Nat} {v : Int} (h : a ≠ o) : zU σ o k v a b = σ a b := by simp [zU, h]
/-- a block of objects, and what stays outside it -/
def zFr (a b : Nat) (σ τ : zMem) : Prop := ∀ o k, (o < a ∨ b ≤ o) → τ o k = σ o k
theorem zFr.rf {a b : Nat} {σ : zMem} : zFr a b σ σ := fun _ _ _ => rfl
theorem zFr.put {a b : Nat} {σ τ : zMem} (h : zFr a b σ τ) {o k : Nat} {v : Int} (h1 : a ≤ o) (h2 : o < b) : zFr a b σ (zU τ o k v) := fun q j hq => by
  rw [zU_o (by omega)]; exact h q j hq
theorem zFr.tr {a b : Nat} {σ τ υ : zMem} (h : zFr a b σ τ) (h2 : zFr a b τ υ) : zFr a b σ υ := fun q j hq => (h2 q j hq).trans (h q j hq)
theorem zFr.mono {a b a' b' : Nat} {σ τ : zMem} (h : zFr a' b' σ τ) (h1 : a ≤ a') (h2 : b' ≤ b) : zFr a b σ τ := fun q j hq => h q j (by omega)
/-- the sum of the first n -/
def zsum (f : Nat → Int) : Nat → Int
  | 0 => 0
  | n + 1 => zsum f n + f n
theorem zsum_bd {f : Nat → Int} {c : Int} : ∀ {n : Nat}, (∀ i, i < n → 0 ≤ f i ∧ f i ≤ c) → 0 ≤ zsum f n ∧ zsum f n ≤ c * n := by
  intro n
  induction n with
  | zero => intro _; simp [zsum]
  | succ n ih =>
    intro h
    have h1 := ih (fun i hi => h i (by omega))
    have h2 := h n (by omega)
    simp only [zsum]
    have e : c * ((n + 1 : Nat) : Int) = c * n + c := by rw [Int.natCast_succ, Int.mul_add, Int.mul_one]
    omega
theorem zsum_congr {f g : Nat → Int} : ∀ {n : Nat}, (∀ i, i < n → f i = g i) → zsum f n = zsum g n := by
  intro n
  induction n with
  | zero => intro _; rfl
  | succ n ih => intro h; simp only [zsum]; rw [ih (fun i hi => h i (by omega)), h n (by omega)]
end
section
set_option maxRecDepth 100000 in
theorem fl_X9_10 : zfl RX9 10 9 0 3 := ⟨by decide, by decide +kernel, by decide +kernel, Or.inl ⟨List.mem_of_getElem? (i := 282) (by decide +kernel), by decide +kernel⟩⟩
set_option maxRecDepth 100000 in
theorem fl_X9_19 : zfl RX9 19 9 1 6 := ⟨by decide, by decide +kernel, by decide +kernel, Or.inl ⟨List.mem_of_getElem? (i := 283) (by decide +kernel), by decide +kernel⟩⟩
set_option maxRecDepth 100000 in
theorem fl_X9_26 : zfl RX9 26 9 2 15 := ⟨by decide, by decide +kernel, by decide +kernel, Or.inl ⟨List.mem_of_getElem? (i := 284) (by decide +kernel), by decide +kernel⟩⟩
set_option maxRecDepth 100000 in
theorem fl_X9_30 : zfl RX9 30 9 3 22 := ⟨by decide, by decide +kernel, by decide +kernel, Or.inl ⟨List.mem_of_getElem? (i := 285) (by decide +kernel), by decide +kernel⟩⟩
set_option maxRecDepth 100000 in
theorem fl_X9_33 : zfl RX9 33 9 4 31 := ⟨by decide, by decide +kernel, by decide +kernel, Or.inl ⟨List.mem_of_getElem? (i := 286) (by decide +kernel), by decide +kernel⟩⟩
set_option maxRecDepth 100000 in
theorem fl_X9_36 : zfl RX9 36 9 5 38 := ⟨by decide, by decide +kernel, by decide +kernel, Or.inl ⟨List.mem_of_getElem? (i := 287) (by decide +kernel), by decide +kernel⟩⟩
set_option maxRecDepth 100000 in
theorem fl_X9_42 : zfl RX9 42 9 6 47 := ⟨by decide, by decide +kernel, by decide +kernel, Or.inl ⟨List.mem_of_getElem? (i := 288) (by decide +kernel), by decide +kernel⟩⟩
set_option maxRecDepth 100000 in
theorem fl_X9_49 : zfl RX9 49 9 7 52 := ⟨by decide, by decide +kernel, by decide +kernel, Or.inl ⟨List.mem_of_getElem? (i := 289) (by decide +kernel), by decide +kernel⟩⟩
set_option maxRecDepth 100000 in
theorem fl_X9_56 : zfl RX9 56 9 8 103 := ⟨by decide, by decide +kernel, by decide +kernel, Or.inl ⟨List.mem_of_getElem? (i := 290) (by decide +kernel), by decide +kernel⟩⟩
set_option maxRecDepth 100000 in
theorem fl_X9_63 : zfl RX9 63 9 9 108 := ⟨by decide, by decide +kernel, by decide +kernel, Or.inl ⟨List.mem_of_getElem? (i := 291) (by decide +kernel), by decide +kernel⟩⟩
set_option maxRecDepth 100000 in
theorem fl_X9_70 : zfl RX9 70 9 10 109 := ⟨by decide, by decide +kernel, by decide +kernel, Or.inl ⟨List.mem_of_getElem? (i := 292) (by decide +kernel), by decide +kernel⟩⟩
set_option maxRecDepth 100000 in
theorem fl_X9_74 : zfl RX9 74 9 11 2 := ⟨by decide, by decide +kernel, by decide +kernel, Or.inl ⟨List.mem_of_getElem? (i := 293) (by decide +kernel), by decide +kernel⟩⟩
set_option maxRecDepth 100000 in
theorem fl_X9_78 : zfl RX9 78 9 12 0 := ⟨by decide, by decide +kernel, by decide +kernel, Or.inl ⟨List.mem_of_getElem? (i := 294) (by decide +kernel), by decide +kernel⟩⟩
set_option maxRecDepth 100000 in
theorem fl_X9_86 : zfl RX9 86 2 1 0 := ⟨by decide, by decide +kernel, by decide +kernel, Or.inr (List.mem_of_getElem? (i := 101) (by decide +kernel))⟩
set_option maxRecDepth 100000 in
theorem fl_X9_107 : zfl RX9 107 1 4 0 := ⟨by decide, by decide +kernel, by decide +kernel, Or.inr (List.mem_of_getElem? (i := 132) (by decide +kernel))⟩
set_option maxRecDepth 100000 in
theorem fl_X9_122 : zfl RX9 122 8 3 0 := ⟨by decide, by decide +kernel, by decide +kernel, Or.inr (List.mem_of_getElem? (i := 169) (by decide +kernel))⟩
set_option maxRecDepth 100000 in
theorem fl_X9_127 : zfl RX9 127 1 0 3 := ⟨by decide, by decide +kernel, by decide +kernel, Or.inr (List.mem_of_getElem? (i := 117) (by decide +kernel))⟩
set_option maxRecDepth 100000 in
theorem fl_X9_136 : zfl RX9 136 1 1 5 := ⟨by decide, by decide +kernel, by decide +kernel, Or.inr (List.mem_of_getElem? (i := 122) (by decide +kernel))⟩
set_option maxRecDepth 100000 in
theorem fl_X9_139 : zfl RX9 139 1 2 7 := ⟨by decide, by decide +kernel, by decide +kernel, Or.inr (List.mem_of_getElem? (i := 124) (by decide +kernel))⟩
set_option maxRecDepth 100000 in
theorem fl_X9_142 : zfl RX9 142 1 3 9 := ⟨by decide, by decide +kernel, by decide +kernel, Or.inr (List.mem_of_getElem? (i := 127) (by decide +kernel))⟩
set_option maxRecDepth 100000 in
theorem fl_X9_166 : zfl RX9 166 1 5 0 := ⟨by decide, by decide +kernel, by decide +kernel, Or.inr (List.mem_of_getElem? (i := 135) (by decide +kernel))⟩
set_option maxRecDepth 100000 in
theorem fl_X9_172 : zfl RX9 172 1 6 0 := ⟨by decide, by decide +kernel, by decide +kernel, Or.inr (List.mem_of_getElem? (i := 137) (by decide +kernel))⟩
set_option maxRecDepth 100000 in
theorem fl_X9_202 : zfl RX9 202 5 5 0 := ⟨by decide, by decide +kernel, by decide +kernel, Or.inr (List.mem_of_getElem? (i := 212) (by decide +kernel))⟩
set_option maxRecDepth 100000 in
theorem fl_X9_205 : zfl RX9 205 5 6 0 := ⟨by decide, by decide +kernel, by decide +kernel, Or.inr (List.mem_of_getElem? (i := 214) (by decide +kernel))⟩
set_option maxRecDepth 100000 in
theorem fl_X9_208 : zfl RX9 208 5 2 51 := ⟨by decide, by decide +kernel, by decide +kernel, Or.inr (List.mem_of_getElem? (i := 208) (by decide +kernel))⟩
set_option maxRecDepth 100000 in
theorem fl_X9_213 : zfl RX9 213 3 2 0 := ⟨by decide, by decide +kernel, by decide +kernel, Or.inr (List.mem_of_getElem? (i := 242) (by decide +kernel))⟩
set_option maxRecDepth 100000 in
theorem fl_X9_216 : zfl RX9 216 3 1 5 := ⟨by decide, by decide +kernel, by decide +kernel, Or.inr (List.mem_of_getElem? (i := 240) (by decide +kernel))⟩
set_option maxRecDepth 100000 in
theorem fl_X9_218 : zfl RX9 218 4 2 0 := ⟨by decide, by decide +kernel, by decide +kernel, Or.inr (List.mem_of_getElem? (i := 259) (by decide +kernel))⟩
set_option maxRecDepth 100000 in
theorem fl_X9_219 : zfl RX9 219 4 3 0 := ⟨by decide, by decide +kernel, by decide +kernel, Or.inr (List.mem_of_getElem? (i := 261) (by decide +kernel))⟩
set_option maxRecDepth 100000 in
theorem fl_X9_232 : zfl RX9 232 0 0 1 := ⟨by decide, by decide +kernel, by decide +kernel, Or.inr (List.mem_of_getElem? (i := 278) (by decide +kernel))⟩
set_option maxRecDepth 100000 in
theorem fl_X9_276 : zfl RX9 276 2 0 3 := ⟨by decide, by decide +kernel, by decide +kernel, Or.inr (List.mem_of_getElem? (i := 99) (by decide +kernel))⟩
set_option maxRecDepth 100000 in
theorem fl_X0_7 : zfl RX0 7 0 0 1 := ⟨by decide, by decide +kernel, by decide +kernel, Or.inl ⟨List.mem_of_getElem? (i := 277) (by decide +kernel), by decide +kernel⟩⟩
set_option maxRecDepth 100000 in
theorem fl_X1_14 : zfl RX1 14 1 0 3 := ⟨by decide, by decide +kernel, by decide +kernel, Or.inl ⟨List.mem_of_getElem? (i := 115) (by decide +kernel), by decide +kernel⟩⟩
set_option maxRecDepth 100000 in
theorem fl_X1_20 : zfl RX1 20 1 1 5 := ⟨by decide, by decide +kernel, by decide +kernel, Or.inl ⟨List.mem_of_getElem? (i := 118) (by decide +kernel), by decide +kernel⟩⟩
set_option maxRecDepth 100000 in
theorem fl_X1_23 : zfl RX1 23 1 2 7 := ⟨by decide, by decide +kernel, by decide +kernel, Or.inl ⟨List.mem_of_getElem? (i := 123) (by decide +kernel), by decide +kernel⟩⟩
set_option maxRecDepth 100000 in
theorem fl_X1_26 : zfl RX1 26 1 3 9 := ⟨by decide, by decide +kernel, by decide +kernel, Or.inl ⟨List.mem_of_getElem? (i := 125) (by decide +kernel), by decide +kernel⟩⟩
set_option maxRecDepth 100000 in
theorem fl_X1_29 : zfl RX1 29 1 4 0 := ⟨by decide, by decide +kernel, by decide +kernel, Or.inl ⟨List.mem_of_getElem? (i := 128) (by decide +kernel), by decide +kernel⟩⟩
set_option maxRecDepth 100000 in
theorem fl_X1_33 : zfl RX1 33 1 5 0 := ⟨by decide, by decide +kernel, by decide +kernel, Or.inl ⟨List.mem_of_getElem? (i := 133) (by decide +kernel), by decide +kernel⟩⟩
set_option maxRecDepth 100000 in
theorem fl_X1_36 : zfl RX1 36 1 6 0 := ⟨by decide, by decide +kernel, by decide +kernel, Or.inl ⟨List.mem_of_getElem? (i := 136) (by decide +kernel), by decide +kernel⟩⟩
set_option maxRecDepth 100000 in
theorem fl_X2_16 : zfl RX2 16 2 0 3 := ⟨by decide, by decide +kernel, by decide +kernel, Or.inl ⟨List.mem_of_getElem? (i := 98) (by decide +kernel), by decide +kernel⟩⟩
set_option maxRecDepth 100000 in
theorem fl_X2_20 : zfl RX2 20 2 1 0 := ⟨by decide, by decide +kernel, by decide +kernel, Or.inl ⟨List.mem_of_getElem? (i := 100) (by decide +kernel), by decide +kernel⟩⟩
set_option maxRecDepth 100000 in
theorem fl_X3_14 : zfl RX3 14 3 0 3 := ⟨by decide, by decide +kernel, by decide +kernel, Or.inl ⟨List.mem_of_getElem? (i := 238) (by decide +kernel), by decide +kernel⟩⟩
set_option maxRecDepth 100000 in
theorem fl_X3_20 : zfl RX3 20 3 1 5 := ⟨by decide, by decide +kernel, by decide +kernel, Or.inl ⟨List.mem_of_getElem? (i := 239) (by decide +kernel), by decide +kernel⟩⟩
set_option maxRecDepth 100000 in
theorem fl_X3_23 : zfl RX3 23 3 2 0 := ⟨by decide, by decide +kernel, by decide +kernel, Or.inl ⟨List.mem_of_getElem? (i := 241) (by decide +kernel), by decide +kernel⟩⟩
set_option maxRecDepth 100000 in
theorem fl_X3_30 : zfl RX3 30 1 4 0 := ⟨by decide, by decide +kernel, by decide +kernel, Or.inr (List.mem_of_getElem? (i := 129) (by decide +kernel))⟩
set_option maxRecDepth 100000 in
theorem fl_X3_62 : zfl RX3 62 1 1 5 := ⟨by decide, by decide +kernel, by decide +kernel, Or.inr (List.mem_of_getElem? (i := 121) (by decide +kernel))⟩
set_option maxRecDepth 100000 in
theorem fl_X4_9 : zfl RX4 9 4 2 0 := ⟨by decide, by decide +kernel, by decide +kernel, Or.inl ⟨List.mem_of_getElem? (i := 258) (by decide +kernel), by decide +kernel⟩⟩
set_option maxRecDepth 100000 in
theorem fl_X4_15 : zfl RX4 15 4 3 0 := ⟨by decide, by decide +kernel, by decide +kernel, Or.inl ⟨List.mem_of_getElem? (i := 260) (by decide +kernel), by decide +kernel⟩⟩
set_option maxRecDepth 100000 in
theorem fl_X4_18 : zfl RX4 18 4 0 0 := ⟨by decide, by decide +kernel, by decide +kernel, Or.inl ⟨List.mem_of_getElem? (i := 256) (by decide +kernel), by decide +kernel⟩⟩
set_option maxRecDepth 100000 in
theorem fl_X4_21 : zfl RX4 21 4 1 0 := ⟨by decide, by decide +kernel, by decide +kernel, Or.inl ⟨List.mem_of_getElem? (i := 257) (by decide +kernel), by decide +kernel⟩⟩
set_option maxRecDepth 100000 in
theorem fl_X4_28 : zfl RX4 28 1 4 0 := ⟨by decide, by decide +kernel, by decide +kernel, Or.inr (List.mem_of_getElem? (i := 130) (by decide +kernel))⟩
set_option maxRecDepth 100000 in
theorem fl_X4_37 : zfl RX4 37 1 1 5 := ⟨by decide, by decide +kernel, by decide +kernel, Or.inr (List.mem_of_getElem? (i := 119) (by decide +kernel))⟩
set_option maxRecDepth 100000 in
theorem fl_X5_11 : zfl RX5 11 5 0 3 := ⟨by decide, by decide +kernel, by decide +kernel, Or.inl ⟨List.mem_of_getElem? (i := 205) (by decide +kernel), by decide +kernel⟩⟩
set_option maxRecDepth 100000 in
theorem fl_X5_23 : zfl RX5 23 5 1 49 := ⟨by decide, by decide +kernel, by decide +kernel, Or.inl ⟨List.mem_of_getElem? (i := 206) (by decide +kernel), by decide +kernel⟩⟩
set_option maxRecDepth 100000 in
theorem fl_X5_27 : zfl RX5 27 5 2 51 := ⟨by decide, by decide +kernel, by decide +kernel, Or.inl ⟨List.mem_of_getElem? (i := 207) (by decide +kernel), by decide +kernel⟩⟩
set_option maxRecDepth 100000 in
theorem fl_X5_30 : zfl RX5 30 5 3 0 := ⟨by decide, by decide +kernel, by decide +kernel, Or.inl ⟨List.mem_of_getElem? (i := 209) (by decide +kernel), by decide +kernel⟩⟩
set_option maxRecDepth 100000 in
theorem fl_X5_34 : zfl RX5 34 5 4 0 := ⟨by decide, by decide +kernel, by decide +kernel, Or.inl ⟨List.mem_of_getElem? (i := 210) (by decide +kernel), by decide +kernel⟩⟩
set_option maxRecDepth 100000 in
theorem fl_X5_37 : zfl RX5 37 5 5 0 := ⟨by decide, by decide +kernel, by decide +kernel, Or.inl ⟨List.mem_of_getElem? (i := 211) (by decide +kernel), by decide +kernel⟩⟩
set_option maxRecDepth 100000 in
theorem fl_X5_40 : zfl RX5 40 5 6 0 := ⟨by decide, by decide +kernel, by decide +kernel, Or.inl ⟨List.mem_of_getElem? (i := 213) (by decide +kernel), by decide +kernel⟩⟩
set_option maxRecDepth 100000 in
theorem fl_X5_58 : zfl RX5 58 1 4 0 := ⟨by decide, by decide +kernel, by decide +kernel, Or.inr (List.mem_of_getElem? (i := 131) (by decide +kernel))⟩
set_option maxRecDepth 100000 in
theorem fl_X6_7 : zfl RX6 7 6 0 3 := ⟨by decide, by decide +kernel, by decide +kernel, Or.inl ⟨List.mem_of_getElem? (i := 93) (by decide +kernel), by decide +kernel⟩⟩
set_option maxRecDepth 100000 in
theorem fl_X7_16 : zfl RX7 16 7 0 3 := ⟨by decide, by decide +kernel, by decide +kernel, Or.inl ⟨List.mem_of_getElem? (i := 187) (by decide +kernel), by decide +kernel⟩⟩
set_option maxRecDepth 100000 in
theorem fl_X7_20 : zfl RX7 20 7 1 5 := ⟨by decide, by decide +kernel, by decide +kernel, Or.inl ⟨List.mem_of_getElem? (i := 188) (by decide +kernel), by decide +kernel⟩⟩
set_option maxRecDepth 100000 in
theorem fl_X7_39 : zfl RX7 39 1 0 3 := ⟨by decide, by decide +kernel, by decide +kernel, Or.inr (List.mem_of_getElem? (i := 116) (by decide +kernel))⟩
set_option maxRecDepth 100000 in
theorem fl_X7_48 : zfl RX7 48 1 1 5 := ⟨by decide, by decide +kernel, by decide +kernel, Or.inr (List.mem_of_getElem? (i := 120) (by decide +kernel))⟩
set_option maxRecDepth 100000 in
theorem fl_X7_51 : zfl RX7 51 1 3 9 := ⟨by decide, by decide +kernel, by decide +kernel, Or.inr (List.mem_of_getElem? (i := 126) (by decide +kernel))⟩
set_option maxRecDepth 100000 in
theorem fl_X7_54 : zfl RX7 54 1 5 0 := ⟨by decide, by decide +kernel, by decide +kernel, Or.inr (List.mem_of_getElem? (i := 134) (by decide +kernel))⟩
set_option maxRecDepth 100000 in
theorem fl_X7_66 : zfl RX7 66 8 3 0 := ⟨by decide, by decide +kernel, by decide +kernel, Or.inr (List.mem_of_getElem? (i := 168) (by decide +kernel))⟩
set_option maxRecDepth 100000 in
theorem fl_X7_71 : zfl RX7 71 8 1 5 := ⟨by decide, by decide +kernel, by decide +kernel, Or.inr (List.mem_of_getElem? (i := 164) (by decide +kernel))⟩
set_option maxRecDepth 100000 in
theorem fl_X7_74 : zfl RX7 74 8 0 3 := ⟨by decide, by decide +kernel, by decide +kernel, Or.inr (List.mem_of_getElem? (i := 162) (by decide +kernel))⟩
set_option maxRecDepth 100000 in
theorem fl_X7_77 : zfl RX7 77 8 2 7 := ⟨by decide, by decide +kernel, by decide +kernel, Or.inr (List.mem_of_getElem? (i := 166) (by decide +kernel))⟩
set_option maxRecDepth 100000 in
theorem fl_X8_14 : zfl RX8 14 8 0 3 := ⟨by decide, by decide +kernel, by decide +kernel, Or.inl ⟨List.mem_of_getElem? (i := 161) (by decide +kernel), by decide +kernel⟩⟩
set_option maxRecDepth 100000 in
theorem fl_X8_20 : zfl RX8 20 8 1 5 := ⟨by decide, by decide +kernel, by decide +kernel, Or.inl ⟨List.mem_of_getElem? (i := 163) (by decide +kernel), by decide +kernel⟩⟩
set_option maxRecDepth 100000 in
theorem fl_X8_23 : zfl RX8 23 8 2 7 := ⟨by decide, by decide +kernel, by decide +kernel, Or.inl ⟨List.mem_of_getElem? (i := 165) (by decide +kernel), by decide +kernel⟩⟩
set_option maxRecDepth 100000 in
theorem fl_X8_26 : zfl RX8 26 8 3 0 := ⟨by decide, by decide +kernel, by decide +kernel, Or.inl ⟨List.mem_of_getElem? (i := 167) (by decide +kernel), by decide +kernel⟩⟩
set_option maxRecDepth 100000 in
theorem fl_X10_7 : zfl RX10 7 10 2 3 := ⟨by decide, by decide +kernel, by decide +kernel, Or.inl ⟨List.mem_of_getElem? (i := 782) (by decide +kernel), by decide +kernel⟩⟩
set_option maxRecDepth 100000 in
theorem fl_X10_13 : zfl RX10 13 10 3 4 := ⟨by decide, by decide +kernel, by decide +kernel, Or.inl ⟨List.mem_of_getElem? (i := 783) (by decide +kernel), by decide +kernel⟩⟩
set_option maxRecDepth 100000 in
theorem fl_X10_16 : zfl RX10 16 10 4 5 := ⟨by decide, by decide +kernel, by decide +kernel, Or.inl ⟨List.mem_of_getElem? (i := 784) (by decide +kernel), by decide +kernel⟩⟩
set_option maxRecDepth 100000 in
theorem fl_X10_19 : zfl RX10 19 10 9 6 := ⟨by decide, by decide +kernel, by decide +kernel, Or.inl ⟨List.mem_of_getElem? (i := 789) (by decide +kernel), by decide +kernel⟩⟩
set_option maxRecDepth 100000 in
theorem fl_X10_22 : zfl RX10 22 10 10 7 := ⟨by decide, by decide +kernel, by decide +kernel, Or.inl ⟨List.mem_of_getElem? (i := 790) (by decide +kernel), by decide +kernel⟩⟩
set_option maxRecDepth 100000 in
theorem fl_X10_25 : zfl RX10 25 10 11 8 := ⟨by decide, by decide +kernel, by decide +kernel, Or.inl ⟨List.mem_of_getElem? (i := 791) (by decide +kernel), by decide +kernel⟩⟩
set_option maxRecDepth 100000 in
theorem fl_X10_28 : zfl RX10 28 10 13 9 := ⟨by decide, by decide +kernel, by decide +kernel, Or.inl ⟨List.mem_of_getElem? (i := 793) (by decide +kernel), by decide +kernel⟩⟩
set_option maxRecDepth 100000 in
theorem fl_X10_32 : zfl RX10 32 10 16 10 := ⟨by decide, by decide +kernel, by decide +kernel, Or.inl ⟨List.mem_of_getElem? (i := 796) (by decide +kernel), by decide +kernel⟩⟩
set_option maxRecDepth 100000 in
theorem fl_X10_35 : zfl RX10 35 10 17 11 := ⟨by decide, by decide +kernel, by decide +kernel, Or.inl ⟨List.mem_of_getElem? (i := 797) (by decide +kernel), by decide +kernel⟩⟩
set_option maxRecDepth 100000 in
theorem fl_X10_38 : zfl RX10 38 10 23 12 := ⟨by decide, by decide +kernel, by decide +kernel, Or.inl ⟨List.mem_of_getElem? (i := 803) (by decide +kernel), by decide +kernel⟩⟩
set_option maxRecDepth 100000 in
theorem fl_X10_41 : zfl RX10 41 10 24 13 := ⟨by decide, by decide +kernel, by decide +kernel, Or.inl ⟨List.mem_of_getElem? (i := 804) (by decide +kernel), by decide +kernel⟩⟩
set_option maxRecDepth 100000 in
theorem fl_X10_44 : zfl RX10 44 10 25 14 := ⟨by decide, by decide +kernel, by decide +kernel, Or.inl ⟨List.mem_of_getElem? (i := 805) (by decide +kernel), by decide +kernel⟩⟩
set_option maxRecDepth 100000 in
theorem fl_X10_47 : zfl RX10 47 10 26 15 := ⟨by decide, by decide +kernel, by decide +kernel, Or.inl ⟨List.mem_of_getElem? (i := 806) (by decide +kernel), by decide +kernel⟩⟩
set_option maxRecDepth 100000 in
theorem fl_X10_50 : zfl RX10 50 10 27 16 := ⟨by decide, by decide +kernel, by decide +kernel, Or.inl ⟨List.mem_of_getElem? (i := 807) (by decide +kernel), by decide +kernel⟩⟩
set_option maxRecDepth 100000 in
theorem fl_X10_53 : zfl RX10 53 10 35 17 := ⟨by decide, by decide +kernel, by decide +kernel, Or.inl ⟨List.mem_of_getElem? (i := 815) (by decide +kernel), by decide +kernel⟩⟩
set_option maxRecDepth 100000 in
theorem fl_X10_56 : zfl RX10 56 10 36 18 := ⟨by decide, by decide +kernel, by decide +kernel, Or.inl ⟨List.mem_of_getElem? (i := 816) (by decide +kernel), by decide +kernel⟩⟩
set_option maxRecDepth 100000 in
theorem fl_X10_59 : zfl RX10 59 10 37 19 := ⟨by decide, by decide +kernel, by decide +kernel, Or.inl ⟨List.mem_of_getElem? (i := 817) (by decide +kernel), by decide +kernel⟩⟩
set_option maxRecDepth 100000 in
theorem fl_X10_62 : zfl RX10 62 10 38 20 := ⟨by decide, by decide +kernel, by decide +kernel, Or.inl ⟨List.mem_of_getElem? (i := 818) (by decide +kernel), by decide +kernel⟩⟩
set_option maxRecDepth 100000 in
theorem fl_X10_65 : zfl RX10 65 10 39 21 := ⟨by decide, by decide +kernel, by decide +kernel, Or.inl ⟨List.mem_of_getElem? (i := 819) (by decide +kernel), by decide +kernel⟩⟩
set_option maxRecDepth 100000 in
theorem fl_X10_68 : zfl RX10 68 10 40 22 := ⟨by decide, by decide +kernel, by decide +kernel, Or.inl ⟨List.mem_of_getElem? (i := 820) (by decide +kernel), by decide +kernel⟩⟩
set_option maxRecDepth 100000 in
theorem fl_X10_75 : zfl RX10 75 10 12 0 := ⟨by decide, by decide +kernel, by decide +kernel, Or.inl ⟨List.mem_of_getElem? (i := 792) (by decide +kernel), by decide +kernel⟩⟩
set_option maxRecDepth 100000 in
theorem fl_X10_83 : zfl RX10 83 10 14 2 := ⟨by decide, by decide +kernel, by decide +kernel, Or.inl ⟨List.mem_of_getElem? (i := 794) (by decide +kernel), by decide +kernel⟩⟩
set_option maxRecDepth 100000 in
theorem fl_X10_87 : zfl RX10 87 10 15 0 := ⟨by decide, by decide +kernel, by decide +kernel, Or.inl ⟨List.mem_of_getElem? (i := 795) (by decide +kernel), by decide +kernel⟩⟩
set_option maxRecDepth 100000 in
theorem fl_X10_101 : zfl RX10 101 10 1 0 := ⟨by decide, by decide +kernel, by decide +kernel, Or.inl ⟨List.mem_of_getElem? (i := 781) (by decide +kernel), by decide +kernel⟩⟩
set_option maxRecDepth 100000 in
theorem fl_X10_104 : zfl RX10 104 10 5 0 := ⟨by decide, by decide +kernel, by decide +kernel, Or.inl ⟨List.mem_of_getElem? (i := 785) (by decide +kernel), by decide +kernel⟩⟩
set_option maxRecDepth 100000 in
theorem fl_X10_107 : zfl RX10 107 10 6 0 := ⟨by decide, by decide +kernel, by decide +kernel, Or.inl ⟨List.mem_of_getElem? (i := 786) (by decide +kernel), by decide +kernel⟩⟩
set_option maxRecDepth 100000 in
theorem fl_X10_110 : zfl RX10 110 10 7 0 := ⟨by decide, by decide +kernel, by decide +kernel, Or.inl ⟨List.mem_of_getElem? (i := 787) (by decide +kernel), by decide +kernel⟩⟩
set_option maxRecDepth 100000 in
theorem fl_X10_113 : zfl RX10 113 10 0 0 := ⟨by decide, by decide +kernel, by decide +kernel, Or.inl ⟨List.mem_of_getElem? (i := 780) (by decide +kernel), by decide +kernel⟩⟩
set_option maxRecDepth 100000 in
theorem fl_X10_116 : zfl RX10 116 10 8 0 := ⟨by decide, by decide +kernel, by decide +kernel, Or.inl ⟨List.mem_of_getElem? (i := 788) (by decide +kernel), by decide +kernel⟩⟩
set_option maxRecDepth 100000 in
theorem fl_X10_174 : zfl RX10 174 10 18 0 := ⟨by decide, by decide +kernel, by decide +kernel, Or.inl ⟨List.mem_of_getElem? (i := 798) (by decide +kernel), by decide +kernel⟩⟩
set_option maxRecDepth 100000 in
theorem fl_X10_177 : zfl RX10 177 10 19 0 := ⟨by decide, by decide +kernel, by decide +kernel, Or.inl ⟨List.mem_of_getElem? (i := 799) (by decide +kernel), by decide +kernel⟩⟩
set_option maxRecDepth 100000 in
theorem fl_X10_190 : zfl RX10 190 10 20 0 := ⟨by decide, by decide +kernel, by decide +kernel, Or.inl ⟨List.mem_of_getElem? (i := 800) (by decide +kernel), by decide +kernel⟩⟩
set_option maxRecDepth 100000 in
theorem fl_X10_193 : zfl RX10 193 10 21 0 := ⟨by decide, by decide +kernel, by decide +kernel, Or.inl ⟨List.mem_of_getElem? (i := 801) (by decide +kernel), by decide +kernel⟩⟩
set_option maxRecDepth 100000 in
theorem fl_X10_199 : zfl RX10 199 10 22 0 := ⟨by decide, by decide +kernel, by decide +kernel, Or.inl ⟨List.mem_of_getElem? (i := 802) (by decide +kernel), by decide +kernel⟩⟩
set_option maxRecDepth 100000 in
theorem fl_X10_245 : zfl RX10 245 10 28 1 := ⟨by decide, by decide +kernel, by decide +kernel, Or.inl ⟨List.mem_of_getElem? (i := 808) (by decide +kernel), by decide +kernel⟩⟩
set_option maxRecDepth 100000 in
theorem fl_X10_261 : zfl RX10 261 10 29 2 := ⟨by decide, by decide +kernel, by decide +kernel, Or.inl ⟨List.mem_of_getElem? (i := 809) (by decide +kernel), by decide +kernel⟩⟩
set_option maxRecDepth 100000 in
theorem fl_X10_264 : zfl RX10 264 10 30 0 := ⟨by decide, by decide +kernel, by decide +kernel, Or.inl ⟨List.mem_of_getElem? (i := 810) (by decide +kernel), by decide +kernel⟩⟩
set_option maxRecDepth 100000 in
theorem fl_X10_267 : zfl RX10 267 10 31 0 := ⟨by decide, by decide +kernel, by decide +kernel, Or.inl ⟨List.mem_of_getElem? (i := 811) (by decide +kernel), by decide +kernel⟩⟩
set_option maxRecDepth 100000 in
theorem fl_X10_270 : zfl RX10 270 10 32 0 := ⟨by decide, by decide +kernel, by decide +kernel, Or.inl ⟨List.mem_of_getElem? (i := 812) (by decide +kernel), by decide +kernel⟩⟩
set_option maxRecDepth 100000 in
theorem fl_X10_273 : zfl RX10 273 10 33 0 := ⟨by decide, by decide +kernel, by decide +kernel, Or.inl ⟨List.mem_of_getElem? (i := 813) (by decide +kernel), by decide +kernel⟩⟩
set_option maxRecDepth 100000 in
theorem fl_X10_276 : zfl RX10 276 10 34 0 := ⟨by decide, by decide +kernel, by decide +kernel, Or.inl ⟨List.mem_of_getElem? (i := 814) (by decide +kernel), by decide +kernel⟩⟩
set_option maxRecDepth 100000 in
theorem fl_X10_290 : zfl RX10 290 10 41 1 := ⟨by decide, by decide +kernel, by decide +kernel, Or.inl ⟨List.mem_of_getElem? (i := 821) (by decide +kernel), by decide +kernel⟩⟩
set_option maxRecDepth 100000 in
theorem ml_X9_9 : zml RX9 9 yX2_init := Or.inl ⟨List.mem_of_getElem? (i := 83) (by decide +kernel), by decide +kernel⟩
set_option maxRecDepth 100000 in
theorem ml_X9_18 : zml RX9 18 yX1_init := Or.inl ⟨List.mem_of_getElem? (i := 109) (by decide +kernel), by decide +kernel⟩
set_option maxRecDepth 100000 in
theorem ml_X9_25 : zml RX9 25 yX8_init := Or.inl ⟨List.mem_of_getElem? (i := 155) (by decide +kernel), by decide +kernel⟩
set_option maxRecDepth 100000 in
theorem ml_X9_41 : zml RX9 41 yX7_init := Or.inl ⟨List.mem_of_getElem? (i := 181) (by decide +kernel), by decide +kernel⟩
set_option maxRecDepth 100000 in
theorem ml_X9_48 : zml RX9 48 yX5_init := Or.inl ⟨List.mem_of_getElem? (i := 196) (by decide +kernel), by decide +kernel⟩
set_option maxRecDepth 100000 in
theorem ml_X9_55 : zml RX9 55 yX3_init := Or.inl ⟨List.mem_of_getElem? (i := 232) (by decide +kernel), by decide +kernel⟩
set_option maxRecDepth 100000 in
theorem ml_X9_62 : zml RX9 62 yX4_init := Or.inl ⟨List.mem_of_getElem? (i := 252) (by decide +kernel), by decide +kernel⟩
set_option maxRecDepth 100000 in
theorem ml_X9_69 : zml RX9 69 yX0_init := Or.inl ⟨List.mem_of_getElem? (i := 273) (by decide +kernel), by decide +kernel⟩
set_option maxRecDepth 100000 in
theorem ml_X9_82 : zml RX9 82 yX9_within := Or.inl ⟨List.mem_of_getElem? (i := 326) (by decide +kernel), by decide +kernel⟩
set_option maxRecDepth 100000 in
theorem ml_X9_89 : zml RX9 89 yX2_add := Or.inl ⟨List.mem_of_getElem? (i := 329) (by decide +kernel), by decide +kernel⟩
set_option maxRecDepth 100000 in
theorem ml_X9_93 : zml RX9 93 yX2_firstFault := Or.inl ⟨List.mem_of_getElem? (i := 345) (by decide +kernel), by decide +kernel⟩
set_option maxRecDepth 100000 in
theorem ml_X9_97 : zml RX9 97 yX2_isLane := Or.inl ⟨List.mem_of_getElem? (i := 413) (by decide +kernel), by decide +kernel⟩
set_option maxRecDepth 100000 in
theorem ml_X9_101 : zml RX9 101 yX2_housesTold := Or.inl ⟨List.mem_of_getElem? (i := 418) (by decide +kernel), by decide +kernel⟩
set_option maxRecDepth 100000 in
theorem ml_X9_104 : zml RX9 104 yX1_begin := Or.inl ⟨List.mem_of_getElem? (i := 422) (by decide +kernel), by decide +kernel⟩
set_option maxRecDepth 100000 in
theorem ml_X9_108 : zml RX9 108 yX2_kindTold := Or.inl ⟨List.mem_of_getElem? (i := 432) (by decide +kernel), by decide +kernel⟩
set_option maxRecDepth 100000 in
theorem ml_X9_112 : zml RX9 112 yX2_reedTold := Or.inl ⟨List.mem_of_getElem? (i := 436) (by decide +kernel), by decide +kernel⟩
set_option maxRecDepth 100000 in
theorem ml_X9_115 : zml RX9 115 yX2_worryTold := Or.inl ⟨List.mem_of_getElem? (i := 440) (by decide +kernel), by decide +kernel⟩
set_option maxRecDepth 100000 in
theorem ml_X9_118 : zml RX9 118 yX1_settle := Or.inl ⟨List.mem_of_getElem? (i := 444) (by decide +kernel), by decide +kernel⟩
set_option maxRecDepth 100000 in
theorem ml_X9_123 : zml RX9 123 yX1_has := Or.inl ⟨List.mem_of_getElem? (i := 453) (by decide +kernel), by decide +kernel⟩
set_option maxRecDepth 100000 in
theorem ml_X9_131 : zml RX9 131 yX6_at := Or.inl ⟨List.mem_of_getElem? (i := 457) (by decide +kernel), by decide +kernel⟩
set_option maxRecDepth 100000 in
theorem ml_X9_145 : zml RX9 145 yX1_reedBehindYear := Or.inl ⟨List.mem_of_getElem? (i := 458) (by decide +kernel), by decide +kernel⟩
set_option maxRecDepth 100000 in
theorem ml_X9_148 : zml RX9 148 yX7_worriesLeft := Or.inl ⟨List.mem_of_getElem? (i := 466) (by decide +kernel), by decide +kernel⟩
set_option maxRecDepth 100000 in
theorem ml_X9_152 : zml RX9 152 yX7_whenToLook := Or.inl ⟨List.mem_of_getElem? (i := 481) (by decide +kernel), by decide +kernel⟩
set_option maxRecDepth 100000 in
theorem ml_X9_155 : zml RX9 155 yX9_isOfKind := Or.inl ⟨List.mem_of_getElem? (i := 499) (by decide +kernel), by decide +kernel⟩
set_option maxRecDepth 100000 in
theorem ml_X9_159 : zml RX9 159 yX1_reachOf := Or.inl ⟨List.mem_of_getElem? (i := 506) (by decide +kernel), by decide +kernel⟩
set_option maxRecDepth 100000 in
theorem ml_X9_163 : zml RX9 163 yX1_wetBits := Or.inl ⟨List.mem_of_getElem? (i := 517) (by decide +kernel), by decide +kernel⟩
set_option maxRecDepth 100000 in
theorem ml_X9_169 : zml RX9 169 yX1_passYear := Or.inl ⟨List.mem_of_getElem? (i := 525) (by decide +kernel), by decide +kernel⟩
set_option maxRecDepth 100000 in
theorem ml_X9_175 : zml RX9 175 yX1_rainOn := Or.inl ⟨List.mem_of_getElem? (i := 533) (by decide +kernel), by decide +kernel⟩
set_option maxRecDepth 100000 in
theorem ml_X9_178 : zml RX9 178 yX1_cheerUp := Or.inl ⟨List.mem_of_getElem? (i := 542) (by decide +kernel), by decide +kernel⟩
set_option maxRecDepth 100000 in
theorem ml_X9_181 : zml RX9 181 yX1_canBeCombed := Or.inl ⟨List.mem_of_getElem? (i := 550) (by decide +kernel), by decide +kernel⟩
set_option maxRecDepth 100000 in
theorem ml_X9_184 : zml RX9 184 yX1_combOut := Or.inl ⟨List.mem_of_getElem? (i := 554) (by decide +kernel), by decide +kernel⟩
set_option maxRecDepth 100000 in
theorem ml_X9_187 : zml RX9 187 yX6_put := Or.inl ⟨List.mem_of_getElem? (i := 562) (by decide +kernel), by decide +kernel⟩
set_option maxRecDepth 100000 in
theorem ml_X9_191 : zml RX9 191 yX1_take := Or.inl ⟨List.mem_of_getElem? (i := 567) (by decide +kernel), by decide +kernel⟩
set_option maxRecDepth 100000 in
theorem ml_X9_195 : zml RX9 195 yX1_isWet := Or.inl ⟨List.mem_of_getElem? (i := 575) (by decide +kernel), by decide +kernel⟩
set_option maxRecDepth 100000 in
theorem ml_X9_198 : zml RX9 198 yX5_search := Or.inl ⟨List.mem_of_getElem? (i := 584) (by decide +kernel), by decide +kernel⟩
set_option maxRecDepth 100000 in
theorem ml_X9_211 : zml RX9 211 yX3_search := Or.inl ⟨List.mem_of_getElem? (i := 628) (by decide +kernel), by decide +kernel⟩
set_option maxRecDepth 100000 in
theorem ml_X9_217 : zml RX9 217 yX4_search := Or.inl ⟨List.mem_of_getElem? (i := 663) (by decide +kernel), by decide +kernel⟩
set_option maxRecDepth 100000 in
theorem ml_X9_222 : zml RX9 222 yX1_rainsBorne := Or.inl ⟨List.mem_of_getElem? (i := 685) (by decide +kernel), by decide +kernel⟩
set_option maxRecDepth 100000 in
theorem ml_X9_225 : zml RX9 225 yX9_inLowestTerms := Or.inl ⟨List.mem_of_getElem? (i := 690) (by decide +kernel), by decide +kernel⟩
set_option maxRecDepth 100000 in
theorem ml_X9_229 : zml RX9 229 yX8_add := Or.inl ⟨List.mem_of_getElem? (i := 697) (by decide +kernel), by decide +kernel⟩
set_option maxRecDepth 100000 in
theorem ml_X9_236 : zml RX9 236 yX9_oneAge := Or.inl ⟨List.mem_of_getElem? (i := 710) (by decide +kernel), by decide +kernel⟩
set_option maxRecDepth 100000 in
theorem ml_X9_239 : zml RX9 239 yX1_reedOfAll := Or.inl ⟨List.mem_of_getElem? (i := 722) (by decide +kernel), by decide +kernel⟩
set_option maxRecDepth 100000 in
theorem ml_X9_242 : zml RX9 242 yX8_take := Or.inl ⟨List.mem_of_getElem? (i := 727) (by decide +kernel), by decide +kernel⟩
set_option maxRecDepth 100000 in
theorem ml_X9_245 : zml RX9 245 yX1_worryOfAll := Or.inl ⟨List.mem_of_getElem? (i := 740) (by decide +kernel), by decide +kernel⟩
set_option maxRecDepth 100000 in
theorem ml_X9_248 : zml RX9 248 yX1_howManyCombed := Or.inl ⟨List.mem_of_getElem? (i := 744) (by decide +kernel), by decide +kernel⟩
set_option maxRecDepth 100000 in
theorem ml_X9_251 : zml RX9 251 yX1_howManyShelter := Or.inl ⟨List.mem_of_getElem? (i := 748) (by decide +kernel), by decide +kernel⟩
set_option maxRecDepth 100000 in
theorem ml_X9_256 : zml RX9 256 yX9_mixHouse := Or.inl ⟨List.mem_of_getElem? (i := 757) (by decide +kernel), by decide +kernel⟩
set_option maxRecDepth 100000 in
theorem ml_X9_260 : zml RX9 260 yX9_wet := Or.inl ⟨List.mem_of_getElem? (i := 769) (by decide +kernel), by decide +kernel⟩
set_option maxRecDepth 100000 in
theorem ml_X9_263 : zml RX9 263 yX9_mix := Or.inl ⟨List.mem_of_getElem? (i := 762) (by decide +kernel), by decide +kernel⟩
set_option maxRecDepth 100000 in
theorem ml_X9_267 : zml RX9 267 yX9_plan := Or.inl ⟨List.mem_of_getElem? (i := 770) (by decide +kernel), by decide +kernel⟩
set_option maxRecDepth 100000 in
theorem ml_X9_270 : zml RX9 270 yX9_twos := Or.inl ⟨List.mem_of_getElem? (i := 771) (by decide +kernel), by decide +kernel⟩
set_option maxRecDepth 100000 in
theorem ml_X9_273 : zml RX9 273 yX9_patch := Or.inl ⟨List.mem_of_getElem? (i := 772) (by decide +kernel), by decide +kernel⟩
set_option maxRecDepth 100000 in
theorem ml_X9_279 : zml RX9 279 yX9_count := Or.inl ⟨List.mem_of_getElem? (i := 773) (by decide +kernel), by decide +kernel⟩
set_option maxRecDepth 100000 in
theorem ml_X9_282 : zml RX9 282 yX9_house := Or.inl ⟨List.mem_of_getElem? (i := 761) (by decide +kernel), by decide +kernel⟩
set_option maxRecDepth 100000 in
theorem ml_X9_285 : zml RX9 285 yX9_reaches := Or.inl ⟨List.mem_of_getElem? (i := 766) (by decide +kernel), by decide +kernel⟩
set_option maxRecDepth 100000 in
theorem ml_X9_288 : zml RX9 288 yX9_dry := Or.inl ⟨List.mem_of_getElem? (i := 767) (by decide +kernel), by decide +kernel⟩
set_option maxRecDepth 100000 in
theorem ml_X9_291 : zml RX9 291 yX9_odds := Or.inl ⟨List.mem_of_getElem? (i := 768) (by decide +kernel), by decide +kernel⟩
set_option maxRecDepth 100000 in
theorem ml_X9_296 : zml RX9 296 yX0_next := Or.inl ⟨List.mem_of_getElem? (i := 714) (by decide +kernel), by decide +kernel⟩
end
section
set_option maxRecDepth 100000 in
theorem ml_X1_11 : zml RX1 11 yX6_init := Or.inl ⟨List.mem_of_getElem? (i := 114) (by decide +kernel), by decide +kernel⟩
set_option maxRecDepth 100000 in
theorem ml_X1_39 : zin (.methodLink RX1 39 Lib.Math.min.name) := by decide +kernel
set_option maxRecDepth 100000 in
theorem ml_X1_45 : zin (.methodLink RX1 45 Lib.Math.max.name) := by decide +kernel
set_option maxRecDepth 100000 in
theorem ml_X1_48 : zml RX1 48 yX6_put := Or.inl ⟨List.mem_of_getElem? (i := 448) (by decide +kernel), by decide +kernel⟩
set_option maxRecDepth 100000 in
theorem ml_X1_52 : zml RX1 52 yX6_take := Or.inl ⟨List.mem_of_getElem? (i := 571) (by decide +kernel), by decide +kernel⟩
set_option maxRecDepth 100000 in
theorem ml_X1_56 : zml RX1 56 yX6_at := Or.inl ⟨List.mem_of_getElem? (i := 462) (by decide +kernel), by decide +kernel⟩
set_option maxRecDepth 100000 in
theorem ml_X1_60 : zml RX1 60 yX9_grown := Or.inr (List.mem_of_getElem? (i := 463) (by decide +kernel))
set_option maxRecDepth 100000 in
theorem ml_X1_64 : zml RX1 64 yX9_rainBehind := Or.inr (List.mem_of_getElem? (i := 510) (by decide +kernel))
set_option maxRecDepth 100000 in
theorem ml_X1_67 : zml RX1 67 yX1_reachOf := Or.inl ⟨List.mem_of_getElem? (i := 579) (by decide +kernel), by decide +kernel⟩
set_option maxRecDepth 100000 in
theorem ml_X1_70 : zml RX1 70 yX1_wetBits := Or.inl ⟨List.mem_of_getElem? (i := 537) (by decide +kernel), by decide +kernel⟩
set_option maxRecDepth 100000 in
theorem ml_X1_73 : zml RX1 73 yX1_isWet := Or.inl ⟨List.mem_of_getElem? (i := 689) (by decide +kernel), by decide +kernel⟩
set_option maxRecDepth 100000 in
theorem ml_X1_77 : zml RX1 77 yX6_sumOfFirst := Or.inl ⟨List.mem_of_getElem? (i := 612) (by decide +kernel), by decide +kernel⟩
set_option maxRecDepth 100000 in
theorem ml_X2_13 : zml RX2 13 yX6_init := Or.inl ⟨List.mem_of_getElem? (i := 89) (by decide +kernel), by decide +kernel⟩
set_option maxRecDepth 100000 in
theorem ml_X2_24 : zml RX2 24 yX6_put := Or.inl ⟨List.mem_of_getElem? (i := 333) (by decide +kernel), by decide +kernel⟩
set_option maxRecDepth 100000 in
theorem ml_X2_28 : zml RX2 28 yX6_at := Or.inl ⟨List.mem_of_getElem? (i := 349) (by decide +kernel), by decide +kernel⟩
set_option maxRecDepth 100000 in
theorem ml_X2_32 : zml RX2 32 yX2_mayStand := Or.inl ⟨List.mem_of_getElem? (i := 353) (by decide +kernel), by decide +kernel⟩
set_option maxRecDepth 100000 in
theorem ml_X2_36 : zml RX2 36 yX2_firstFault := Or.inl ⟨List.mem_of_getElem? (i := 417) (by decide +kernel), by decide +kernel⟩
set_option maxRecDepth 100000 in
theorem ml_X2_40 : zml RX2 40 yX2_kindOf := Or.inl ⟨List.mem_of_getElem? (i := 356) (by decide +kernel), by decide +kernel⟩
set_option maxRecDepth 100000 in
theorem ml_X3_11 : zml RX3 11 yX6_init := Or.inl ⟨List.mem_of_getElem? (i := 237) (by decide +kernel), by decide +kernel⟩
set_option maxRecDepth 100000 in
theorem ml_X3_27 : zml RX3 27 yX6_fill := Or.inl ⟨List.mem_of_getElem? (i := 632) (by decide +kernel), by decide +kernel⟩
set_option maxRecDepth 100000 in
theorem ml_X3_35 : zml RX3 35 yX6_put := Or.inl ⟨List.mem_of_getElem? (i := 633) (by decide +kernel), by decide +kernel⟩
set_option maxRecDepth 100000 in
theorem ml_X3_39 : zml RX3 39 yX3_pairFrom := Or.inl ⟨List.mem_of_getElem? (i := 634) (by decide +kernel), by decide +kernel⟩
set_option maxRecDepth 100000 in
theorem ml_X3_43 : zml RX3 43 yX3_firstFree := Or.inl ⟨List.mem_of_getElem? (i := 638) (by decide +kernel), by decide +kernel⟩
set_option maxRecDepth 100000 in
theorem ml_X3_47 : zml RX3 47 yX3_weigh := Or.inl ⟨List.mem_of_getElem? (i := 643) (by decide +kernel), by decide +kernel⟩
set_option maxRecDepth 100000 in
theorem ml_X3_50 : zml RX3 50 yX3_leave := Or.inl ⟨List.mem_of_getElem? (i := 648) (by decide +kernel), by decide +kernel⟩
set_option maxRecDepth 100000 in
theorem ml_X3_54 : zml RX3 54 yX6_at := Or.inl ⟨List.mem_of_getElem? (i := 642) (by decide +kernel), by decide +kernel⟩
set_option maxRecDepth 100000 in
theorem ml_X3_58 : zml RX3 58 yX3_couple := Or.inl ⟨List.mem_of_getElem? (i := 652) (by decide +kernel), by decide +kernel⟩
set_option maxRecDepth 100000 in
theorem ml_X3_65 : zin (.methodLink RX3 65 Lib.Math.abs.name) := by decide +kernel
set_option maxRecDepth 100000 in
theorem ml_X3_70 : zml RX3 70 yX6_take := Or.inl ⟨List.mem_of_getElem? (i := 647) (by decide +kernel), by decide +kernel⟩
set_option maxRecDepth 100000 in
theorem ml_X4_24 : zml RX4 24 yX4_putOnFrom := Or.inl ⟨List.mem_of_getElem? (i := 667) (by decide +kernel), by decide +kernel⟩
set_option maxRecDepth 100000 in
theorem ml_X4_33 : zml RX4 33 yX4_weigh := Or.inl ⟨List.mem_of_getElem? (i := 671) (by decide +kernel), by decide +kernel⟩
set_option maxRecDepth 100000 in
theorem ml_X4_41 : zml RX4 41 yX6_at := Or.inl ⟨List.mem_of_getElem? (i := 675) (by decide +kernel), by decide +kernel⟩
set_option maxRecDepth 100000 in
theorem ml_X4_47 : zml RX4 47 yX9_rainBehind := Or.inr (List.mem_of_getElem? (i := 676) (by decide +kernel))
set_option maxRecDepth 100000 in
theorem ml_X4_51 : zml RX4 51 yX4_raise := Or.inl ⟨List.mem_of_getElem? (i := 677) (by decide +kernel), by decide +kernel⟩
set_option maxRecDepth 100000 in
theorem ml_X5_17 : zml RX5 17 yX1_init := Or.inl ⟨List.mem_of_getElem? (i := 202) (by decide +kernel), by decide +kernel⟩
set_option maxRecDepth 100000 in
theorem ml_X5_20 : zml RX5 20 yX6_init := Or.inl ⟨List.mem_of_getElem? (i := 204) (by decide +kernel), by decide +kernel⟩
set_option maxRecDepth 100000 in
theorem ml_X5_43 : zml RX5 43 yX5_stepAt := Or.inl ⟨List.mem_of_getElem? (i := 588) (by decide +kernel), by decide +kernel⟩
set_option maxRecDepth 100000 in
theorem ml_X5_47 : zml RX5 47 yX1_take := Or.inl ⟨List.mem_of_getElem? (i := 592) (by decide +kernel), by decide +kernel⟩
set_option maxRecDepth 100000 in
theorem ml_X5_51 : zml RX5 51 yX5_goOn := Or.inl ⟨List.mem_of_getElem? (i := 593) (by decide +kernel), by decide +kernel⟩
set_option maxRecDepth 100000 in
theorem ml_X5_55 : zml RX5 55 yX5_weigh := Or.inl ⟨List.mem_of_getElem? (i := 597) (by decide +kernel), by decide +kernel⟩
set_option maxRecDepth 100000 in
theorem ml_X5_61 : zml RX5 61 yX5_cheerAndGoOn := Or.inl ⟨List.mem_of_getElem? (i := 617) (by decide +kernel), by decide +kernel⟩
set_option maxRecDepth 100000 in
theorem ml_X5_65 : zml RX5 65 yX1_cheerUp := Or.inl ⟨List.mem_of_getElem? (i := 621) (by decide +kernel), by decide +kernel⟩
set_option maxRecDepth 100000 in
theorem ml_X5_68 : zml RX5 68 yX1_passYear := Or.inl ⟨List.mem_of_getElem? (i := 622) (by decide +kernel), by decide +kernel⟩
set_option maxRecDepth 100000 in
theorem ml_X5_71 : zml RX5 71 yX6_put := Or.inl ⟨List.mem_of_getElem? (i := 623) (by decide +kernel), by decide +kernel⟩
set_option maxRecDepth 100000 in
theorem ml_X5_75 : zml RX5 75 yX1_wetBits := Or.inl ⟨List.mem_of_getElem? (i := 601) (by decide +kernel), by decide +kernel⟩
set_option maxRecDepth 100000 in
theorem ml_X5_79 : zml RX5 79 yJ6_bitCount_0f7a4 := Or.inl ⟨List.mem_of_getElem? (i := 602) (by decide +kernel), by decide +kernel⟩
set_option maxRecDepth 100000 in
theorem ml_X5_84 : zml RX5 84 yX1_reedOfAll := Or.inl ⟨List.mem_of_getElem? (i := 608) (by decide +kernel), by decide +kernel⟩
set_option maxRecDepth 100000 in
theorem ml_X5_88 : zml RX5 88 yX6_take := Or.inl ⟨List.mem_of_getElem? (i := 616) (by decide +kernel), by decide +kernel⟩
set_option maxRecDepth 100000 in
theorem ml_X7_13 : zml RX7 13 yX6_init := Or.inl ⟨List.mem_of_getElem? (i := 186) (by decide +kernel), by decide +kernel⟩
set_option maxRecDepth 100000 in
theorem ml_X7_23 : zml RX7 23 yX7_foresee := Or.inl ⟨List.mem_of_getElem? (i := 470) (by decide +kernel), by decide +kernel⟩
set_option maxRecDepth 100000 in
theorem ml_X7_27 : zml RX7 27 yX7_fits := Or.inl ⟨List.mem_of_getElem? (i := 477) (by decide +kernel), by decide +kernel⟩
set_option maxRecDepth 100000 in
theorem ml_X7_31 : zml RX7 31 yX7_worriesLeft := Or.inl ⟨List.mem_of_getElem? (i := 485) (by decide +kernel), by decide +kernel⟩
set_option maxRecDepth 100000 in
theorem ml_X7_35 : zml RX7 35 yX7_mostLeft := Or.inl ⟨List.mem_of_getElem? (i := 486) (by decide +kernel), by decide +kernel⟩
set_option maxRecDepth 100000 in
theorem ml_X7_44 : zml RX7 44 yX6_at := Or.inl ⟨List.mem_of_getElem? (i := 474) (by decide +kernel), by decide +kernel⟩
set_option maxRecDepth 100000 in
theorem ml_X7_58 : zml RX7 58 yX9_grown := Or.inr (List.mem_of_getElem? (i := 475) (by decide +kernel))
set_option maxRecDepth 100000 in
theorem ml_X7_62 : zml RX7 62 yX6_put := Or.inl ⟨List.mem_of_getElem? (i := 476) (by decide +kernel), by decide +kernel⟩
set_option maxRecDepth 100000 in
theorem ml_X7_78 : zml RX7 78 yX6_fill := Or.inl ⟨List.mem_of_getElem? (i := 490) (by decide +kernel), by decide +kernel⟩
set_option maxRecDepth 100000 in
theorem ml_X7_81 : zin (.methodLink RX7 81 Lib.Math.max.name) := by decide +kernel
set_option maxRecDepth 100000 in
theorem ml_X8_11 : zml RX8 11 yX6_init := Or.inl ⟨List.mem_of_getElem? (i := 160) (by decide +kernel), by decide +kernel⟩
set_option maxRecDepth 100000 in
theorem ml_X8_30 : zml RX8 30 yX6_put := Or.inl ⟨List.mem_of_getElem? (i := 701) (by decide +kernel), by decide +kernel⟩
set_option maxRecDepth 100000 in
theorem ml_X8_34 : zml RX8 34 yX6_take := Or.inl ⟨List.mem_of_getElem? (i := 731) (by decide +kernel), by decide +kernel⟩
set_option maxRecDepth 100000 in
theorem ml_X10_71 : zml RX10 71 yX10_within := Or.inl ⟨List.mem_of_getElem? (i := 911) (by decide +kernel), by decide +kernel⟩
set_option maxRecDepth 100000 in
theorem ml_X10_79 : zml RX10 79 yX10_at := Or.inl ⟨List.mem_of_getElem? (i := 926) (by decide +kernel), by decide +kernel⟩
set_option maxRecDepth 100000 in
theorem ml_X10_90 : zml RX10 90 yX10_kindBy := Or.inl ⟨List.mem_of_getElem? (i := 930) (by decide +kernel), by decide +kernel⟩
set_option maxRecDepth 100000 in
theorem ml_X10_93 : zml RX10 93 yX10_isFigure := Or.inl ⟨List.mem_of_getElem? (i := 933) (by decide +kernel), by decide +kernel⟩
set_option maxRecDepth 100000 in
theorem ml_X10_97 : zml RX10 97 yX10_read := Or.inl ⟨List.mem_of_getElem? (i := 922) (by decide +kernel), by decide +kernel⟩
set_option maxRecDepth 100000 in
theorem ml_X10_119 : zml RX10 119 yX10_held := Or.inl ⟨List.mem_of_getElem? (i := 963) (by decide +kernel), by decide +kernel⟩
set_option maxRecDepth 100000 in
theorem ml_X10_122 : zml RX10 122 yX10_isIn := Or.inl ⟨List.mem_of_getElem? (i := 953) (by decide +kernel), by decide +kernel⟩
set_option maxRecDepth 100000 in
theorem ml_X10_126 : zml RX10 126 yX10_grown := Or.inl ⟨List.mem_of_getElem? (i := 960) (by decide +kernel), by decide +kernel⟩
set_option maxRecDepth 100000 in
theorem ml_X10_130 : zml RX10 130 yX10_grownOf := Or.inl ⟨List.mem_of_getElem? (i := 956) (by decide +kernel), by decide +kernel⟩
set_option maxRecDepth 100000 in
theorem ml_X10_133 : zml RX10 133 yX10_reachesTo := Or.inl ⟨List.mem_of_getElem? (i := 994) (by decide +kernel), by decide +kernel⟩
set_option maxRecDepth 100000 in
theorem ml_X10_137 : zml RX10 137 yX10_wetBy := Or.inl ⟨List.mem_of_getElem? (i := 1002) (by decide +kernel), by decide +kernel⟩
set_option maxRecDepth 100000 in
theorem ml_X10_140 : zml RX10 140 yX10_size := Or.inl ⟨List.mem_of_getElem? (i := 1022) (by decide +kernel), by decide +kernel⟩
set_option maxRecDepth 100000 in
theorem ml_X10_143 : zml RX10 143 yX10_worriesOf := Or.inl ⟨List.mem_of_getElem? (i := 966) (by decide +kernel), by decide +kernel⟩
set_option maxRecDepth 100000 in
theorem ml_X10_146 : zml RX10 146 yX10_lookFor := Or.inl ⟨List.mem_of_getElem? (i := 974) (by decide +kernel), by decide +kernel⟩
set_option maxRecDepth 100000 in
theorem ml_X10_149 : zml RX10 149 yX10_isHouse := Or.inl ⟨List.mem_of_getElem? (i := 945) (by decide +kernel), by decide +kernel⟩
set_option maxRecDepth 100000 in
theorem ml_X10_152 : zml RX10 152 yX10_houseNow := Or.inl ⟨List.mem_of_getElem? (i := 949) (by decide +kernel), by decide +kernel⟩
set_option maxRecDepth 100000 in
theorem ml_X10_155 : zml RX10 155 yX10_isRain := Or.inl ⟨List.mem_of_getElem? (i := 991) (by decide +kernel), by decide +kernel⟩
set_option maxRecDepth 100000 in
theorem ml_X10_158 : zml RX10 158 yX10_goYear := Or.inl ⟨List.mem_of_getElem? (i := 1010) (by decide +kernel), by decide +kernel⟩
set_option maxRecDepth 100000 in
theorem ml_X10_161 : zml RX10 161 yX10_goRain := Or.inl ⟨List.mem_of_getElem? (i := 1018) (by decide +kernel), by decide +kernel⟩
set_option maxRecDepth 100000 in
theorem ml_X10_164 : zml RX10 164 yX10_goCheer := Or.inl ⟨List.mem_of_getElem? (i := 1029) (by decide +kernel), by decide +kernel⟩
set_option maxRecDepth 100000 in
theorem ml_X10_168 : zml RX10 168 yX10_mayComb := Or.inl ⟨List.mem_of_getElem? (i := 1037) (by decide +kernel), by decide +kernel⟩
set_option maxRecDepth 100000 in
theorem ml_X10_171 : zml RX10 171 yX10_goComb := Or.inl ⟨List.mem_of_getElem? (i := 1041) (by decide +kernel), by decide +kernel⟩
set_option maxRecDepth 100000 in
theorem ml_X10_180 : zml RX10 180 yX10_save := Or.inl ⟨List.mem_of_getElem? (i := 1057) (by decide +kernel), by decide +kernel⟩
set_option maxRecDepth 100000 in
theorem ml_X10_183 : zml RX10 183 yX10_load := Or.inl ⟨List.mem_of_getElem? (i := 1061) (by decide +kernel), by decide +kernel⟩
set_option maxRecDepth 100000 in
theorem ml_X10_186 : zml RX10 186 yX10_dryNow := Or.inl ⟨List.mem_of_getElem? (i := 1053) (by decide +kernel), by decide +kernel⟩
set_option maxRecDepth 100000 in
theorem ml_X10_196 : zml RX10 196 yX10_reedAll := Or.inl ⟨List.mem_of_getElem? (i := 1073) (by decide +kernel), by decide +kernel⟩
set_option maxRecDepth 100000 in
theorem ml_X10_202 : zml RX10 202 yX10_layPlan := Or.inl ⟨List.mem_of_getElem? (i := 1069) (by decide +kernel), by decide +kernel⟩
set_option maxRecDepth 100000 in
theorem ml_X10_206 : zml RX10 206 yX10_planNow := Or.inl ⟨List.mem_of_getElem? (i := 1077) (by decide +kernel), by decide +kernel⟩
set_option maxRecDepth 100000 in
theorem ml_X10_209 : zml RX10 209 yX10_lowest := Or.inl ⟨List.mem_of_getElem? (i := 1093) (by decide +kernel), by decide +kernel⟩
set_option maxRecDepth 100000 in
theorem ml_X10_212 : zml RX10 212 yX10_apart := Or.inl ⟨List.mem_of_getElem? (i := 1096) (by decide +kernel), by decide +kernel⟩
set_option maxRecDepth 100000 in
theorem ml_X10_215 : zml RX10 215 yX10_leastOf := Or.inl ⟨List.mem_of_getElem? (i := 1089) (by decide +kernel), by decide +kernel⟩
set_option maxRecDepth 100000 in
theorem ml_X10_218 : zml RX10 218 yX10_partnerIn := Or.inl ⟨List.mem_of_getElem? (i := 1100) (by decide +kernel), by decide +kernel⟩
set_option maxRecDepth 100000 in
theorem ml_X10_221 : zml RX10 221 yX10_layTwos := Or.inl ⟨List.mem_of_getElem? (i := 1085) (by decide +kernel), by decide +kernel⟩
set_option maxRecDepth 100000 in
theorem ml_X10_224 : zml RX10 224 yX10_patchHouse := Or.inl ⟨List.mem_of_getElem? (i := 1112) (by decide +kernel), by decide +kernel⟩
set_option maxRecDepth 100000 in
theorem ml_X10_227 : zml RX10 227 yX10_patchNow := Or.inl ⟨List.mem_of_getElem? (i := 1108) (by decide +kernel), by decide +kernel⟩
set_option maxRecDepth 100000 in
theorem ml_X10_231 : zml RX10 231 yX10_divisor := Or.inl ⟨List.mem_of_getElem? (i := 1124) (by decide +kernel), by decide +kernel⟩
set_option maxRecDepth 100000 in
theorem ml_X10_234 : zml RX10 234 yX10_oddsNow := Or.inl ⟨List.mem_of_getElem? (i := 1120) (by decide +kernel), by decide +kernel⟩
set_option maxRecDepth 100000 in
theorem ml_X10_237 : zml RX10 237 yX10_reedBehind := Or.inl ⟨List.mem_of_getElem? (i := 970) (by decide +kernel), by decide +kernel⟩
set_option maxRecDepth 100000 in
theorem ml_X10_240 : zml RX10 240 yX10_worstBy := Or.inl ⟨List.mem_of_getElem? (i := 979) (by decide +kernel), by decide +kernel⟩
set_option maxRecDepth 100000 in
theorem ml_X10_255 : zml RX10 255 yX10_draw := Or.inl ⟨List.mem_of_getElem? (i := 1143) (by decide +kernel), by decide +kernel⟩
set_option maxRecDepth 100000 in
theorem ml_X10_258 : zml RX10 258 yX10_agesNow := Or.inl ⟨List.mem_of_getElem? (i := 1139) (by decide +kernel), by decide +kernel⟩
set_option maxRecDepth 100000 in
theorem ml_X10_279 : zml RX10 279 yX10_worryAll := Or.inl ⟨List.mem_of_getElem? (i := 1167) (by decide +kernel), by decide +kernel⟩
set_option maxRecDepth 100000 in
theorem ml_X10_282 : zml RX10 282 yX10_thick := Or.inl ⟨List.mem_of_getElem? (i := 1171) (by decide +kernel), by decide +kernel⟩
set_option maxRecDepth 100000 in
theorem ml_X10_285 : zml RX10 285 yX10_howMany := Or.inl ⟨List.mem_of_getElem? (i := 1163) (by decide +kernel), by decide +kernel⟩
set_option maxRecDepth 100000 in
theorem ml_X10_293 : zml RX10 293 yX10_mix := Or.inl ⟨List.mem_of_getElem? (i := 1184) (by decide +kernel), by decide +kernel⟩
set_option maxRecDepth 100000 in
theorem ml_X10_299 : zml RX10 299 yX10_mixHouse := Or.inl ⟨List.mem_of_getElem? (i := 1180) (by decide +kernel), by decide +kernel⟩
set_option maxRecDepth 100000 in
theorem ml_X10_302 : zml RX10 302 yX10_mixLane := Or.inl ⟨List.mem_of_getElem? (i := 1189) (by decide +kernel), by decide +kernel⟩
set_option maxRecDepth 100000 in
theorem ml_L_9 : zml RL 9 yX9_init := Or.inl ⟨List.mem_of_getElem? (i := 75) (by decide +kernel), by decide +kernel⟩
set_option maxRecDepth 100000 in
theorem ml_L_12 : zml RL 12 yX10_init := Or.inl ⟨List.mem_of_getElem? (i := 776) (by decide +kernel), by decide +kernel⟩
set_option maxRecDepth 100000 in
theorem ml_L_13 : zml RL 13 yX9_letter := Or.inl ⟨List.mem_of_getElem? (i := 322) (by decide +kernel), by decide +kernel⟩
set_option maxRecDepth 100000 in
theorem ml_L_17 : zml RL 17 yX10_letter := Or.inl ⟨List.mem_of_getElem? (i := 907) (by decide +kernel), by decide +kernel⟩
set_option maxRecDepth 100000 in
theorem ml_L_18 : zml RL 18 yX9_blank := Or.inl ⟨List.mem_of_getElem? (i := 337) (by decide +kernel), by decide +kernel⟩
set_option maxRecDepth 100000 in
theorem ml_L_22 : zml RL 22 yX10_blank := Or.inl ⟨List.mem_of_getElem? (i := 914) (by decide +kernel), by decide +kernel⟩
set_option maxRecDepth 100000 in
theorem ml_L_23 : zml RL 23 yX9_fault := Or.inl ⟨List.mem_of_getElem? (i := 341) (by decide +kernel), by decide +kernel⟩
set_option maxRecDepth 100000 in
theorem ml_L_26 : zml RL 26 yX10_fault := Or.inl ⟨List.mem_of_getElem? (i := 918) (by decide +kernel), by decide +kernel⟩
set_option maxRecDepth 100000 in
theorem ml_L_27 : zml RL 27 yX9_lane := Or.inl ⟨List.mem_of_getElem? (i := 409) (by decide +kernel), by decide +kernel⟩
set_option maxRecDepth 100000 in
theorem ml_L_30 : zml RL 30 yX10_lane := Or.inl ⟨List.mem_of_getElem? (i := 937) (by decide +kernel), by decide +kernel⟩
set_option maxRecDepth 100000 in
theorem ml_L_31 : zml RL 31 yX9_house := Or.inl ⟨List.mem_of_getElem? (i := 449) (by decide +kernel), by decide +kernel⟩
set_option maxRecDepth 100000 in
theorem ml_L_35 : zml RL 35 yX10_house := Or.inl ⟨List.mem_of_getElem? (i := 941) (by decide +kernel), by decide +kernel⟩
set_option maxRecDepth 100000 in
theorem ml_L_36 : zml RL 36 yX9_as := Or.inl ⟨List.mem_of_getElem? (i := 495) (by decide +kernel), by decide +kernel⟩
set_option maxRecDepth 100000 in
theorem ml_L_39 : zml RL 39 yX10_as := Or.inl ⟨List.mem_of_getElem? (i := 983) (by decide +kernel), by decide +kernel⟩
set_option maxRecDepth 100000 in
theorem ml_L_40 : zml RL 40 yX9_reaches := Or.inl ⟨List.mem_of_getElem? (i := 502) (by decide +kernel), by decide +kernel⟩
set_option maxRecDepth 100000 in
theorem ml_L_43 : zml RL 43 yX10_reaches := Or.inl ⟨List.mem_of_getElem? (i := 987) (by decide +kernel), by decide +kernel⟩
set_option maxRecDepth 100000 in
theorem ml_L_44 : zml RL 44 yX9_wet := Or.inl ⟨List.mem_of_getElem? (i := 513) (by decide +kernel), by decide +kernel⟩
set_option maxRecDepth 100000 in
theorem ml_L_47 : zml RL 47 yX10_wet := Or.inl ⟨List.mem_of_getElem? (i := 998) (by decide +kernel), by decide +kernel⟩
set_option maxRecDepth 100000 in
theorem ml_L_48 : zml RL 48 yX9_year := Or.inl ⟨List.mem_of_getElem? (i := 521) (by decide +kernel), by decide +kernel⟩
set_option maxRecDepth 100000 in
theorem ml_L_51 : zml RL 51 yX10_year := Or.inl ⟨List.mem_of_getElem? (i := 1006) (by decide +kernel), by decide +kernel⟩
set_option maxRecDepth 100000 in
theorem ml_L_52 : zml RL 52 yX9_rain := Or.inl ⟨List.mem_of_getElem? (i := 529) (by decide +kernel), by decide +kernel⟩
set_option maxRecDepth 100000 in
theorem ml_L_55 : zml RL 55 yX10_rain := Or.inl ⟨List.mem_of_getElem? (i := 1014) (by decide +kernel), by decide +kernel⟩
set_option maxRecDepth 100000 in
theorem ml_L_56 : zml RL 56 yX9_cheer := Or.inl ⟨List.mem_of_getElem? (i := 538) (by decide +kernel), by decide +kernel⟩
set_option maxRecDepth 100000 in
theorem ml_L_59 : zml RL 59 yX10_cheer := Or.inl ⟨List.mem_of_getElem? (i := 1025) (by decide +kernel), by decide +kernel⟩
set_option maxRecDepth 100000 in
theorem ml_L_60 : zml RL 60 yX9_comb := Or.inl ⟨List.mem_of_getElem? (i := 546) (by decide +kernel), by decide +kernel⟩
set_option maxRecDepth 100000 in
theorem ml_L_63 : zml RL 63 yX10_comb := Or.inl ⟨List.mem_of_getElem? (i := 1033) (by decide +kernel), by decide +kernel⟩
set_option maxRecDepth 100000 in
theorem ml_L_64 : zml RL 64 yX9_move := Or.inl ⟨List.mem_of_getElem? (i := 558) (by decide +kernel), by decide +kernel⟩
set_option maxRecDepth 100000 in
theorem ml_L_68 : zml RL 68 yX10_move := Or.inl ⟨List.mem_of_getElem? (i := 1045) (by decide +kernel), by decide +kernel⟩
set_option maxRecDepth 100000 in
theorem ml_L_69 : zml RL 69 yX9_dry := Or.inl ⟨List.mem_of_getElem? (i := 563) (by decide +kernel), by decide +kernel⟩
set_option maxRecDepth 100000 in
theorem ml_L_72 : zml RL 72 yX10_dry := Or.inl ⟨List.mem_of_getElem? (i := 1049) (by decide +kernel), by decide +kernel⟩
set_option maxRecDepth 100000 in
theorem ml_L_73 : zml RL 73 yX9_plan := Or.inl ⟨List.mem_of_getElem? (i := 580) (by decide +kernel), by decide +kernel⟩
set_option maxRecDepth 100000 in
theorem ml_L_76 : zml RL 76 yX10_plan := Or.inl ⟨List.mem_of_getElem? (i := 1065) (by decide +kernel), by decide +kernel⟩
set_option maxRecDepth 100000 in
theorem ml_L_77 : zml RL 77 yX9_twos := Or.inl ⟨List.mem_of_getElem? (i := 624) (by decide +kernel), by decide +kernel⟩
set_option maxRecDepth 100000 in
theorem ml_L_80 : zml RL 80 yX10_twos := Or.inl ⟨List.mem_of_getElem? (i := 1081) (by decide +kernel), by decide +kernel⟩
set_option maxRecDepth 100000 in
theorem ml_L_81 : zml RL 81 yX9_patch := Or.inl ⟨List.mem_of_getElem? (i := 659) (by decide +kernel), by decide +kernel⟩
set_option maxRecDepth 100000 in
theorem ml_L_84 : zml RL 84 yX10_patch := Or.inl ⟨List.mem_of_getElem? (i := 1104) (by decide +kernel), by decide +kernel⟩
set_option maxRecDepth 100000 in
theorem ml_L_85 : zml RL 85 yX9_odds := Or.inl ⟨List.mem_of_getElem? (i := 681) (by decide +kernel), by decide +kernel⟩
set_option maxRecDepth 100000 in
theorem ml_L_88 : zml RL 88 yX10_odds := Or.inl ⟨List.mem_of_getElem? (i := 1116) (by decide +kernel), by decide +kernel⟩
set_option maxRecDepth 100000 in
theorem ml_L_89 : zml RL 89 yX9_see := Or.inl ⟨List.mem_of_getElem? (i := 693) (by decide +kernel), by decide +kernel⟩
set_option maxRecDepth 100000 in
theorem ml_L_92 : zml RL 92 yX10_see := Or.inl ⟨List.mem_of_getElem? (i := 1127) (by decide +kernel), by decide +kernel⟩
set_option maxRecDepth 100000 in
theorem ml_L_93 : zml RL 93 yX9_forget := Or.inl ⟨List.mem_of_getElem? (i := 702) (by decide +kernel), by decide +kernel⟩
set_option maxRecDepth 100000 in
theorem ml_L_96 : zml RL 96 yX10_forget := Or.inl ⟨List.mem_of_getElem? (i := 1131) (by decide +kernel), by decide +kernel⟩
set_option maxRecDepth 100000 in
theorem ml_L_97 : zml RL 97 yX9_ages := Or.inl ⟨List.mem_of_getElem? (i := 706) (by decide +kernel), by decide +kernel⟩
set_option maxRecDepth 100000 in
theorem ml_L_100 : zml RL 100 yX10_ages := Or.inl ⟨List.mem_of_getElem? (i := 1135) (by decide +kernel), by decide +kernel⟩
set_option maxRecDepth 100000 in
theorem ml_L_101 : zml RL 101 yX9_image := Or.inl ⟨List.mem_of_getElem? (i := 723) (by decide +kernel), by decide +kernel⟩
set_option maxRecDepth 100000 in
theorem ml_L_104 : zml RL 104 yX10_image := Or.inl ⟨List.mem_of_getElem? (i := 1151) (by decide +kernel), by decide +kernel⟩
set_option maxRecDepth 100000 in
theorem ml_L_105 : zml RL 105 yX9_restore := Or.inl ⟨List.mem_of_getElem? (i := 732) (by decide +kernel), by decide +kernel⟩
set_option maxRecDepth 100000 in
theorem ml_L_108 : zml RL 108 yX10_restore := Or.inl ⟨List.mem_of_getElem? (i := 1155) (by decide +kernel), by decide +kernel⟩
set_option maxRecDepth 100000 in
theorem ml_L_109 : zml RL 109 yX9_count := Or.inl ⟨List.mem_of_getElem? (i := 736) (by decide +kernel), by decide +kernel⟩
set_option maxRecDepth 100000 in
theorem ml_L_112 : zml RL 112 yX10_count := Or.inl ⟨List.mem_of_getElem? (i := 1159) (by decide +kernel), by decide +kernel⟩
set_option maxRecDepth 100000 in
theorem ml_L_113 : zml RL 113 yX9_digest := Or.inl ⟨List.mem_of_getElem? (i := 752) (by decide +kernel), by decide +kernel⟩
set_option maxRecDepth 100000 in
theorem ml_L_117 : zml RL 117 yX10_digest := Or.inl ⟨List.mem_of_getElem? (i := 1175) (by decide +kernel), by decide +kernel⟩
set_option maxRecDepth 100000 in
theorem yi_X9_init : zci yX9_init 9 cX9_init 1 0 := ⟨⟨by decide, by decide +kernel⟩, ⟨List.mem_of_getElem? (i := 77) (by decide +kernel), by decide +kernel⟩, ⟨List.mem_of_getElem? (i := 56) (by decide +kernel), by decide +kernel⟩, ⟨List.mem_of_getElem? (i := 76) (by decide +kernel), by decide +kernel⟩, rfl, ⟨by decide +kernel, by decide +kernel, by decide +kernel⟩⟩
set_option maxRecDepth 100000 in
theorem yw_X9_ages : zcv yX9_ages 9 cX9_ages 6 (some .int) 3 := ⟨⟨by decide, by decide +kernel⟩, ⟨List.mem_of_getElem? (i := 709) (by decide +kernel), by decide +kernel⟩, ⟨List.mem_of_getElem? (i := 56) (by decide +kernel), by decide +kernel⟩, ⟨List.mem_of_getElem? (i := 707) (by decide +kernel), by decide +kernel⟩, ⟨List.mem_of_getElem? (i := 708) (by decide +kernel), by decide +kernel⟩, ⟨by decide +kernel, by decide +kernel, by decide +kernel⟩⟩
set_option maxRecDepth 100000 in
theorem yw_X9_as : zcv yX9_as 9 cX9_as 3 (some .int) 2 := ⟨⟨by decide, by decide +kernel⟩, ⟨List.mem_of_getElem? (i := 498) (by decide +kernel), by decide +kernel⟩, ⟨List.mem_of_getElem? (i := 56) (by decide +kernel), by decide +kernel⟩, ⟨List.mem_of_getElem? (i := 496) (by decide +kernel), by decide +kernel⟩, ⟨List.mem_of_getElem? (i := 497) (by decide +kernel), by decide +kernel⟩, ⟨by decide +kernel, by decide +kernel, by decide +kernel⟩⟩
set_option maxRecDepth 100000 in
theorem yw_X9_blank : zcv yX9_blank 9 cX9_blank 2 (some .int) 0 := ⟨⟨by decide, by decide +kernel⟩, ⟨List.mem_of_getElem? (i := 340) (by decide +kernel), by decide +kernel⟩, ⟨List.mem_of_getElem? (i := 56) (by decide +kernel), by decide +kernel⟩, ⟨List.mem_of_getElem? (i := 338) (by decide +kernel), by decide +kernel⟩, ⟨List.mem_of_getElem? (i := 339) (by decide +kernel), by decide +kernel⟩, ⟨by decide +kernel, by decide +kernel, by decide +kernel⟩⟩
set_option maxRecDepth 100000 in
theorem yw_X9_cheer : zcv yX9_cheer 9 cX9_cheer 2 (some .int) 1 := ⟨⟨by decide, by decide +kernel⟩, ⟨List.mem_of_getElem? (i := 541) (by decide +kernel), by decide +kernel⟩, ⟨List.mem_of_getElem? (i := 56) (by decide +kernel), by decide +kernel⟩, ⟨List.mem_of_getElem? (i := 539) (by decide +kernel), by decide +kernel⟩, ⟨List.mem_of_getElem? (i := 540) (by decide +kernel), by decide +kernel⟩, ⟨by decide +kernel, by decide +kernel, by decide +kernel⟩⟩
set_option maxRecDepth 100000 in
theorem yw_X9_comb : zcv yX9_comb 9 cX9_comb 2 (some .int) 1 := ⟨⟨by decide, by decide +kernel⟩, ⟨List.mem_of_getElem? (i := 549) (by decide +kernel), by decide +kernel⟩, ⟨List.mem_of_getElem? (i := 56) (by decide +kernel), by decide +kernel⟩, ⟨List.mem_of_getElem? (i := 547) (by decide +kernel), by decide +kernel⟩, ⟨List.mem_of_getElem? (i := 548) (by decide +kernel), by decide +kernel⟩, ⟨by decide +kernel, by decide +kernel, by decide +kernel⟩⟩
set_option maxRecDepth 100000 in
theorem yw_X9_count : zcv yX9_count 9 cX9_count 2 (some .int) 1 := ⟨⟨by decide, by decide +kernel⟩, ⟨List.mem_of_getElem? (i := 739) (by decide +kernel), by decide +kernel⟩, ⟨List.mem_of_getElem? (i := 56) (by decide +kernel), by decide +kernel⟩, ⟨List.mem_of_getElem? (i := 737) (by decide +kernel), by decide +kernel⟩, ⟨List.mem_of_getElem? (i := 738) (by decide +kernel), by decide +kernel⟩, ⟨by decide +kernel, by decide +kernel, by decide +kernel⟩⟩
set_option maxRecDepth 100000 in
theorem yw_X9_digest : zcv yX9_digest 9 cX9_digest 4 (some .long) 0 := ⟨⟨by decide, by decide +kernel⟩, ⟨List.mem_of_getElem? (i := 755) (by decide +kernel), by decide +kernel⟩, ⟨List.mem_of_getElem? (i := 56) (by decide +kernel), by decide +kernel⟩, ⟨List.mem_of_getElem? (i := 753) (by decide +kernel), by decide +kernel⟩, ⟨List.mem_of_getElem? (i := 754) (by decide +kernel), by decide +kernel⟩, ⟨by decide +kernel, by decide +kernel, by decide +kernel⟩⟩
set_option maxRecDepth 100000 in
theorem yw_X9_dry : zcv yX9_dry 9 cX9_dry 4 (some .int) 2 := ⟨⟨by decide, by decide +kernel⟩, ⟨List.mem_of_getElem? (i := 566) (by decide +kernel), by decide +kernel⟩, ⟨List.mem_of_getElem? (i := 56) (by decide +kernel), by decide +kernel⟩, ⟨List.mem_of_getElem? (i := 564) (by decide +kernel), by decide +kernel⟩, ⟨List.mem_of_getElem? (i := 565) (by decide +kernel), by decide +kernel⟩, ⟨by decide +kernel, by decide +kernel, by decide +kernel⟩⟩
set_option maxRecDepth 100000 in
theorem yw_X9_fault : zcv yX9_fault 9 cX9_fault 1 (some .int) 0 := ⟨⟨by decide, by decide +kernel⟩, ⟨List.mem_of_getElem? (i := 344) (by decide +kernel), by decide +kernel⟩, ⟨List.mem_of_getElem? (i := 56) (by decide +kernel), by decide +kernel⟩, ⟨List.mem_of_getElem? (i := 342) (by decide +kernel), by decide +kernel⟩, ⟨List.mem_of_getElem? (i := 343) (by decide +kernel), by decide +kernel⟩, ⟨by decide +kernel, by decide +kernel, by decide +kernel⟩⟩
set_option maxRecDepth 100000 in
theorem yw_X9_forget : zcv yX9_forget 9 cX9_forget 2 (some .int) 0 := ⟨⟨by decide, by decide +kernel⟩, ⟨List.mem_of_getElem? (i := 705) (by decide +kernel), by decide +kernel⟩, ⟨List.mem_of_getElem? (i := 56) (by decide +kernel), by decide +kernel⟩, ⟨List.mem_of_getElem? (i := 703) (by decide +kernel), by decide +kernel⟩, ⟨List.mem_of_getElem? (i := 704) (by decide +kernel), by decide +kernel⟩, ⟨by decide +kernel, by decide +kernel, by decide +kernel⟩⟩
set_option maxRecDepth 100000 in
theorem ys_X9_grown : zcs yX9_grown cX9_grown 8 (some .int) 5 := ⟨⟨List.mem_of_getElem? (i := 465) (by decide +kernel), by decide +kernel⟩, ⟨List.mem_of_getElem? (i := 56) (by decide +kernel), by decide +kernel⟩, ⟨List.mem_of_getElem? (i := 464) (by decide +kernel), by decide +kernel⟩, ⟨by decide +kernel, by decide +kernel, by decide +kernel⟩⟩
set_option maxRecDepth 100000 in
theorem yw_X9_house : zcv yX9_house 9 cX9_house 3 (some .int) 2 := ⟨⟨by decide, by decide +kernel⟩, ⟨List.mem_of_getElem? (i := 452) (by decide +kernel), by decide +kernel⟩, ⟨List.mem_of_getElem? (i := 56) (by decide +kernel), by decide +kernel⟩, ⟨List.mem_of_getElem? (i := 450) (by decide +kernel), by decide +kernel⟩, ⟨List.mem_of_getElem? (i := 451) (by decide +kernel), by decide +kernel⟩, ⟨by decide +kernel, by decide +kernel, by decide +kernel⟩⟩
set_option maxRecDepth 100000 in
theorem yw_X9_image : zcv yX9_image 9 cX9_image 1 (some .int) 0 := ⟨⟨by decide, by decide +kernel⟩, ⟨List.mem_of_getElem? (i := 726) (by decide +kernel), by decide +kernel⟩, ⟨List.mem_of_getElem? (i := 56) (by decide +kernel), by decide +kernel⟩, ⟨List.mem_of_getElem? (i := 724) (by decide +kernel), by decide +kernel⟩, ⟨List.mem_of_getElem? (i := 725) (by decide +kernel), by decide +kernel⟩, ⟨by decide +kernel, by decide +kernel, by decide +kernel⟩⟩
set_option maxRecDepth 100000 in
theorem ys_X9_inLowestTerms : zcs yX9_inLowestTerms cX9_inLowestTerms 6 (some .int) 3 := ⟨⟨List.mem_of_getElem? (i := 692) (by decide +kernel), by decide +kernel⟩, ⟨List.mem_of_getElem? (i := 56) (by decide +kernel), by decide +kernel⟩, ⟨List.mem_of_getElem? (i := 691) (by decide +kernel), by decide +kernel⟩, ⟨by decide +kernel, by decide +kernel, by decide +kernel⟩⟩
end
section
set_option maxRecDepth 100000 in
theorem ys_X9_isOfKind : zcs yX9_isOfKind cX9_isOfKind 2 (some .boolean) 2 := ⟨⟨List.mem_of_getElem? (i := 501) (by decide +kernel), by decide +kernel⟩, ⟨List.mem_of_getElem? (i := 56) (by decide +kernel), by decide +kernel⟩, ⟨List.mem_of_getElem? (i := 500) (by decide +kernel), by decide +kernel⟩, ⟨by decide +kernel, by decide +kernel, by decide +kernel⟩⟩
set_option maxRecDepth 100000 in
theorem yw_X9_lane : zcv yX9_lane 9 cX9_lane 2 (some .int) 0 := ⟨⟨by decide, by decide +kernel⟩, ⟨List.mem_of_getElem? (i := 412) (by decide +kernel), by decide +kernel⟩, ⟨List.mem_of_getElem? (i := 56) (by decide +kernel), by decide +kernel⟩, ⟨List.mem_of_getElem? (i := 410) (by decide +kernel), by decide +kernel⟩, ⟨List.mem_of_getElem? (i := 411) (by decide +kernel), by decide +kernel⟩, ⟨by decide +kernel, by decide +kernel, by decide +kernel⟩⟩
set_option maxRecDepth 100000 in
theorem yw_X9_letter : zcv yX9_letter 9 cX9_letter 2 (some .int) 1 := ⟨⟨by decide, by decide +kernel⟩, ⟨List.mem_of_getElem? (i := 325) (by decide +kernel), by decide +kernel⟩, ⟨List.mem_of_getElem? (i := 56) (by decide +kernel), by decide +kernel⟩, ⟨List.mem_of_getElem? (i := 323) (by decide +kernel), by decide +kernel⟩, ⟨List.mem_of_getElem? (i := 324) (by decide +kernel), by decide +kernel⟩, ⟨by decide +kernel, by decide +kernel, by decide +kernel⟩⟩
set_option maxRecDepth 100000 in
theorem ys_X9_mix : zcs yX9_mix cX9_mix 4 (some .long) 2 := ⟨⟨List.mem_of_getElem? (i := 764) (by decide +kernel), by decide +kernel⟩, ⟨List.mem_of_getElem? (i := 56) (by decide +kernel), by decide +kernel⟩, ⟨List.mem_of_getElem? (i := 763) (by decide +kernel), by decide +kernel⟩, ⟨by decide +kernel, by decide +kernel, by decide +kernel⟩⟩
set_option maxRecDepth 100000 in
theorem yw_X9_mixHouse : zcv yX9_mixHouse 9 cX9_mixHouse 7 (some .long) 2 := ⟨⟨by decide, by decide +kernel⟩, ⟨List.mem_of_getElem? (i := 760) (by decide +kernel), by decide +kernel⟩, ⟨List.mem_of_getElem? (i := 56) (by decide +kernel), by decide +kernel⟩, ⟨List.mem_of_getElem? (i := 759) (by decide +kernel), by decide +kernel⟩, ⟨List.mem_of_getElem? (i := 16) (by decide +kernel), by decide +kernel⟩, ⟨by decide +kernel, by decide +kernel, by decide +kernel⟩⟩
set_option maxRecDepth 100000 in
theorem yw_X9_move : zcv yX9_move 9 cX9_move 5 (some .int) 3 := ⟨⟨by decide, by decide +kernel⟩, ⟨List.mem_of_getElem? (i := 561) (by decide +kernel), by decide +kernel⟩, ⟨List.mem_of_getElem? (i := 56) (by decide +kernel), by decide +kernel⟩, ⟨List.mem_of_getElem? (i := 559) (by decide +kernel), by decide +kernel⟩, ⟨List.mem_of_getElem? (i := 560) (by decide +kernel), by decide +kernel⟩, ⟨by decide +kernel, by decide +kernel, by decide +kernel⟩⟩
set_option maxRecDepth 100000 in
theorem yw_X9_odds : zcv yX9_odds 9 cX9_odds 7 (some .int) 3 := ⟨⟨by decide, by decide +kernel⟩, ⟨List.mem_of_getElem? (i := 684) (by decide +kernel), by decide +kernel⟩, ⟨List.mem_of_getElem? (i := 56) (by decide +kernel), by decide +kernel⟩, ⟨List.mem_of_getElem? (i := 682) (by decide +kernel), by decide +kernel⟩, ⟨List.mem_of_getElem? (i := 683) (by decide +kernel), by decide +kernel⟩, ⟨by decide +kernel, by decide +kernel, by decide +kernel⟩⟩
set_option maxRecDepth 100000 in
theorem yw_X9_oneAge : zcv yX9_oneAge 9 cX9_oneAge 2 (some .int) 0 := ⟨⟨by decide, by decide +kernel⟩, ⟨List.mem_of_getElem? (i := 713) (by decide +kernel), by decide +kernel⟩, ⟨List.mem_of_getElem? (i := 56) (by decide +kernel), by decide +kernel⟩, ⟨List.mem_of_getElem? (i := 712) (by decide +kernel), by decide +kernel⟩, ⟨List.mem_of_getElem? (i := 15) (by decide +kernel), by decide +kernel⟩, ⟨by decide +kernel, by decide +kernel, by decide +kernel⟩⟩
set_option maxRecDepth 100000 in
theorem yw_X9_patch : zcv yX9_patch 9 cX9_patch 4 (some .int) 3 := ⟨⟨by decide, by decide +kernel⟩, ⟨List.mem_of_getElem? (i := 662) (by decide +kernel), by decide +kernel⟩, ⟨List.mem_of_getElem? (i := 56) (by decide +kernel), by decide +kernel⟩, ⟨List.mem_of_getElem? (i := 660) (by decide +kernel), by decide +kernel⟩, ⟨List.mem_of_getElem? (i := 661) (by decide +kernel), by decide +kernel⟩, ⟨by decide +kernel, by decide +kernel, by decide +kernel⟩⟩
set_option maxRecDepth 100000 in
theorem yw_X9_plan : zcv yX9_plan 9 cX9_plan 5 (some .int) 3 := ⟨⟨by decide, by decide +kernel⟩, ⟨List.mem_of_getElem? (i := 583) (by decide +kernel), by decide +kernel⟩, ⟨List.mem_of_getElem? (i := 56) (by decide +kernel), by decide +kernel⟩, ⟨List.mem_of_getElem? (i := 581) (by decide +kernel), by decide +kernel⟩, ⟨List.mem_of_getElem? (i := 582) (by decide +kernel), by decide +kernel⟩, ⟨by decide +kernel, by decide +kernel, by decide +kernel⟩⟩
set_option maxRecDepth 100000 in
theorem yw_X9_rain : zcv yX9_rain 9 cX9_rain 2 (some .int) 1 := ⟨⟨by decide, by decide +kernel⟩, ⟨List.mem_of_getElem? (i := 532) (by decide +kernel), by decide +kernel⟩, ⟨List.mem_of_getElem? (i := 56) (by decide +kernel), by decide +kernel⟩, ⟨List.mem_of_getElem? (i := 530) (by decide +kernel), by decide +kernel⟩, ⟨List.mem_of_getElem? (i := 531) (by decide +kernel), by decide +kernel⟩, ⟨by decide +kernel, by decide +kernel, by decide +kernel⟩⟩
set_option maxRecDepth 100000 in
theorem ys_X9_rainBehind : zcs yX9_rainBehind cX9_rainBehind 3 (some .int) 2 := ⟨⟨List.mem_of_getElem? (i := 512) (by decide +kernel), by decide +kernel⟩, ⟨List.mem_of_getElem? (i := 56) (by decide +kernel), by decide +kernel⟩, ⟨List.mem_of_getElem? (i := 511) (by decide +kernel), by decide +kernel⟩, ⟨by decide +kernel, by decide +kernel, by decide +kernel⟩⟩
set_option maxRecDepth 100000 in
theorem yw_X9_reaches : zcv yX9_reaches 9 cX9_reaches 3 (some .int) 2 := ⟨⟨by decide, by decide +kernel⟩, ⟨List.mem_of_getElem? (i := 505) (by decide +kernel), by decide +kernel⟩, ⟨List.mem_of_getElem? (i := 56) (by decide +kernel), by decide +kernel⟩, ⟨List.mem_of_getElem? (i := 503) (by decide +kernel), by decide +kernel⟩, ⟨List.mem_of_getElem? (i := 504) (by decide +kernel), by decide +kernel⟩, ⟨by decide +kernel, by decide +kernel, by decide +kernel⟩⟩
set_option maxRecDepth 100000 in
theorem yw_X9_restore : zcv yX9_restore 9 cX9_restore 1 (some .int) 0 := ⟨⟨by decide, by decide +kernel⟩, ⟨List.mem_of_getElem? (i := 735) (by decide +kernel), by decide +kernel⟩, ⟨List.mem_of_getElem? (i := 56) (by decide +kernel), by decide +kernel⟩, ⟨List.mem_of_getElem? (i := 733) (by decide +kernel), by decide +kernel⟩, ⟨List.mem_of_getElem? (i := 734) (by decide +kernel), by decide +kernel⟩, ⟨by decide +kernel, by decide +kernel, by decide +kernel⟩⟩
set_option maxRecDepth 100000 in
theorem yw_X9_see : zcv yX9_see 9 cX9_see 4 (some .int) 3 := ⟨⟨by decide, by decide +kernel⟩, ⟨List.mem_of_getElem? (i := 696) (by decide +kernel), by decide +kernel⟩, ⟨List.mem_of_getElem? (i := 56) (by decide +kernel), by decide +kernel⟩, ⟨List.mem_of_getElem? (i := 694) (by decide +kernel), by decide +kernel⟩, ⟨List.mem_of_getElem? (i := 695) (by decide +kernel), by decide +kernel⟩, ⟨by decide +kernel, by decide +kernel, by decide +kernel⟩⟩
set_option maxRecDepth 100000 in
theorem yw_X9_twos : zcv yX9_twos 9 cX9_twos 2 (some .int) 1 := ⟨⟨by decide, by decide +kernel⟩, ⟨List.mem_of_getElem? (i := 627) (by decide +kernel), by decide +kernel⟩, ⟨List.mem_of_getElem? (i := 56) (by decide +kernel), by decide +kernel⟩, ⟨List.mem_of_getElem? (i := 625) (by decide +kernel), by decide +kernel⟩, ⟨List.mem_of_getElem? (i := 626) (by decide +kernel), by decide +kernel⟩, ⟨by decide +kernel, by decide +kernel, by decide +kernel⟩⟩
set_option maxRecDepth 100000 in
theorem yw_X9_wet : zcv yX9_wet 9 cX9_wet 2 (some .int) 1 := ⟨⟨by decide, by decide +kernel⟩, ⟨List.mem_of_getElem? (i := 516) (by decide +kernel), by decide +kernel⟩, ⟨List.mem_of_getElem? (i := 56) (by decide +kernel), by decide +kernel⟩, ⟨List.mem_of_getElem? (i := 514) (by decide +kernel), by decide +kernel⟩, ⟨List.mem_of_getElem? (i := 515) (by decide +kernel), by decide +kernel⟩, ⟨by decide +kernel, by decide +kernel, by decide +kernel⟩⟩
set_option maxRecDepth 100000 in
theorem ys_X9_within : zcs yX9_within cX9_within 3 (some .boolean) 3 := ⟨⟨List.mem_of_getElem? (i := 328) (by decide +kernel), by decide +kernel⟩, ⟨List.mem_of_getElem? (i := 56) (by decide +kernel), by decide +kernel⟩, ⟨List.mem_of_getElem? (i := 327) (by decide +kernel), by decide +kernel⟩, ⟨by decide +kernel, by decide +kernel, by decide +kernel⟩⟩
set_option maxRecDepth 100000 in
theorem yw_X9_year : zcv yX9_year 9 cX9_year 1 (some .int) 0 := ⟨⟨by decide, by decide +kernel⟩, ⟨List.mem_of_getElem? (i := 524) (by decide +kernel), by decide +kernel⟩, ⟨List.mem_of_getElem? (i := 56) (by decide +kernel), by decide +kernel⟩, ⟨List.mem_of_getElem? (i := 522) (by decide +kernel), by decide +kernel⟩, ⟨List.mem_of_getElem? (i := 523) (by decide +kernel), by decide +kernel⟩, ⟨by decide +kernel, by decide +kernel, by decide +kernel⟩⟩
set_option maxRecDepth 100000 in
theorem yi_X0_init : zci yX0_init 0 cX0_init 1 0 := ⟨⟨by decide, by decide +kernel⟩, ⟨List.mem_of_getElem? (i := 275) (by decide +kernel), by decide +kernel⟩, ⟨List.mem_of_getElem? (i := 65) (by decide +kernel), by decide +kernel⟩, ⟨List.mem_of_getElem? (i := 274) (by decide +kernel), by decide +kernel⟩, rfl, ⟨by decide +kernel, by decide +kernel, by decide +kernel⟩⟩
set_option maxRecDepth 100000 in
theorem yw_X0_next : zcv yX0_next 0 cX0_next 2 (some .int) 1 := ⟨⟨by decide, by decide +kernel⟩, ⟨List.mem_of_getElem? (i := 717) (by decide +kernel), by decide +kernel⟩, ⟨List.mem_of_getElem? (i := 65) (by decide +kernel), by decide +kernel⟩, ⟨List.mem_of_getElem? (i := 715) (by decide +kernel), by decide +kernel⟩, ⟨List.mem_of_getElem? (i := 716) (by decide +kernel), by decide +kernel⟩, ⟨by decide +kernel, by decide +kernel, by decide +kernel⟩⟩
set_option maxRecDepth 100000 in
theorem yi_X1_init : zci yX1_init 1 cX1_init 1 0 := ⟨⟨by decide, by decide +kernel⟩, ⟨List.mem_of_getElem? (i := 111) (by decide +kernel), by decide +kernel⟩, ⟨List.mem_of_getElem? (i := 59) (by decide +kernel), by decide +kernel⟩, ⟨List.mem_of_getElem? (i := 110) (by decide +kernel), by decide +kernel⟩, rfl, ⟨by decide +kernel, by decide +kernel, by decide +kernel⟩⟩
set_option maxRecDepth 100000 in
theorem yw_X1_begin : zcv yX1_begin 1 cX1_begin 2 (none) 1 := ⟨⟨by decide, by decide +kernel⟩, ⟨List.mem_of_getElem? (i := 425) (by decide +kernel), by decide +kernel⟩, ⟨List.mem_of_getElem? (i := 59) (by decide +kernel), by decide +kernel⟩, ⟨List.mem_of_getElem? (i := 423) (by decide +kernel), by decide +kernel⟩, ⟨List.mem_of_getElem? (i := 424) (by decide +kernel), by decide +kernel⟩, ⟨by decide +kernel, by decide +kernel, by decide +kernel⟩⟩
set_option maxRecDepth 100000 in
theorem yw_X1_canBeCombed : zcv yX1_canBeCombed 1 cX1_canBeCombed 2 (some .boolean) 1 := ⟨⟨by decide, by decide +kernel⟩, ⟨List.mem_of_getElem? (i := 553) (by decide +kernel), by decide +kernel⟩, ⟨List.mem_of_getElem? (i := 59) (by decide +kernel), by decide +kernel⟩, ⟨List.mem_of_getElem? (i := 551) (by decide +kernel), by decide +kernel⟩, ⟨List.mem_of_getElem? (i := 552) (by decide +kernel), by decide +kernel⟩, ⟨by decide +kernel, by decide +kernel, by decide +kernel⟩⟩
set_option maxRecDepth 100000 in
theorem yw_X1_cheerUp : zcv yX1_cheerUp 1 cX1_cheerUp 2 (none) 1 := ⟨⟨by decide, by decide +kernel⟩, ⟨List.mem_of_getElem? (i := 545) (by decide +kernel), by decide +kernel⟩, ⟨List.mem_of_getElem? (i := 59) (by decide +kernel), by decide +kernel⟩, ⟨List.mem_of_getElem? (i := 543) (by decide +kernel), by decide +kernel⟩, ⟨List.mem_of_getElem? (i := 544) (by decide +kernel), by decide +kernel⟩, ⟨by decide +kernel, by decide +kernel, by decide +kernel⟩⟩
set_option maxRecDepth 100000 in
theorem yw_X1_combOut : zcv yX1_combOut 1 cX1_combOut 2 (none) 1 := ⟨⟨by decide, by decide +kernel⟩, ⟨List.mem_of_getElem? (i := 557) (by decide +kernel), by decide +kernel⟩, ⟨List.mem_of_getElem? (i := 59) (by decide +kernel), by decide +kernel⟩, ⟨List.mem_of_getElem? (i := 555) (by decide +kernel), by decide +kernel⟩, ⟨List.mem_of_getElem? (i := 556) (by decide +kernel), by decide +kernel⟩, ⟨by decide +kernel, by decide +kernel, by decide +kernel⟩⟩
set_option maxRecDepth 100000 in
theorem yw_X1_has : zcv yX1_has 1 cX1_has 2 (some .boolean) 1 := ⟨⟨by decide, by decide +kernel⟩, ⟨List.mem_of_getElem? (i := 456) (by decide +kernel), by decide +kernel⟩, ⟨List.mem_of_getElem? (i := 59) (by decide +kernel), by decide +kernel⟩, ⟨List.mem_of_getElem? (i := 454) (by decide +kernel), by decide +kernel⟩, ⟨List.mem_of_getElem? (i := 455) (by decide +kernel), by decide +kernel⟩, ⟨by decide +kernel, by decide +kernel, by decide +kernel⟩⟩
set_option maxRecDepth 100000 in
theorem yw_X1_howManyCombed : zcv yX1_howManyCombed 1 cX1_howManyCombed 1 (some .int) 0 := ⟨⟨by decide, by decide +kernel⟩, ⟨List.mem_of_getElem? (i := 747) (by decide +kernel), by decide +kernel⟩, ⟨List.mem_of_getElem? (i := 59) (by decide +kernel), by decide +kernel⟩, ⟨List.mem_of_getElem? (i := 745) (by decide +kernel), by decide +kernel⟩, ⟨List.mem_of_getElem? (i := 746) (by decide +kernel), by decide +kernel⟩, ⟨by decide +kernel, by decide +kernel, by decide +kernel⟩⟩
set_option maxRecDepth 100000 in
theorem yw_X1_howManyShelter : zcv yX1_howManyShelter 1 cX1_howManyShelter 3 (some .int) 0 := ⟨⟨by decide, by decide +kernel⟩, ⟨List.mem_of_getElem? (i := 751) (by decide +kernel), by decide +kernel⟩, ⟨List.mem_of_getElem? (i := 59) (by decide +kernel), by decide +kernel⟩, ⟨List.mem_of_getElem? (i := 749) (by decide +kernel), by decide +kernel⟩, ⟨List.mem_of_getElem? (i := 750) (by decide +kernel), by decide +kernel⟩, ⟨by decide +kernel, by decide +kernel, by decide +kernel⟩⟩
set_option maxRecDepth 100000 in
theorem yw_X1_isWet : zcv yX1_isWet 1 cX1_isWet 3 (some .boolean) 2 := ⟨⟨by decide, by decide +kernel⟩, ⟨List.mem_of_getElem? (i := 578) (by decide +kernel), by decide +kernel⟩, ⟨List.mem_of_getElem? (i := 59) (by decide +kernel), by decide +kernel⟩, ⟨List.mem_of_getElem? (i := 576) (by decide +kernel), by decide +kernel⟩, ⟨List.mem_of_getElem? (i := 577) (by decide +kernel), by decide +kernel⟩, ⟨by decide +kernel, by decide +kernel, by decide +kernel⟩⟩
set_option maxRecDepth 100000 in
theorem yw_X1_passYear : zcv yX1_passYear 1 cX1_passYear 2 (none) 0 := ⟨⟨by decide, by decide +kernel⟩, ⟨List.mem_of_getElem? (i := 528) (by decide +kernel), by decide +kernel⟩, ⟨List.mem_of_getElem? (i := 59) (by decide +kernel), by decide +kernel⟩, ⟨List.mem_of_getElem? (i := 526) (by decide +kernel), by decide +kernel⟩, ⟨List.mem_of_getElem? (i := 527) (by decide +kernel), by decide +kernel⟩, ⟨by decide +kernel, by decide +kernel, by decide +kernel⟩⟩
set_option maxRecDepth 100000 in
theorem yw_X1_rainOn : zcv yX1_rainOn 1 cX1_rainOn 5 (some .int) 1 := ⟨⟨by decide, by decide +kernel⟩, ⟨List.mem_of_getElem? (i := 536) (by decide +kernel), by decide +kernel⟩, ⟨List.mem_of_getElem? (i := 59) (by decide +kernel), by decide +kernel⟩, ⟨List.mem_of_getElem? (i := 534) (by decide +kernel), by decide +kernel⟩, ⟨List.mem_of_getElem? (i := 535) (by decide +kernel), by decide +kernel⟩, ⟨by decide +kernel, by decide +kernel, by decide +kernel⟩⟩
set_option maxRecDepth 100000 in
theorem yw_X1_rainsBorne : zcv yX1_rainsBorne 1 cX1_rainsBorne 4 (some .int) 1 := ⟨⟨by decide, by decide +kernel⟩, ⟨List.mem_of_getElem? (i := 688) (by decide +kernel), by decide +kernel⟩, ⟨List.mem_of_getElem? (i := 59) (by decide +kernel), by decide +kernel⟩, ⟨List.mem_of_getElem? (i := 686) (by decide +kernel), by decide +kernel⟩, ⟨List.mem_of_getElem? (i := 687) (by decide +kernel), by decide +kernel⟩, ⟨by decide +kernel, by decide +kernel, by decide +kernel⟩⟩
set_option maxRecDepth 100000 in
theorem yw_X1_reachOf : zcv yX1_reachOf 1 cX1_reachOf 5 (some .int) 2 := ⟨⟨by decide, by decide +kernel⟩, ⟨List.mem_of_getElem? (i := 509) (by decide +kernel), by decide +kernel⟩, ⟨List.mem_of_getElem? (i := 59) (by decide +kernel), by decide +kernel⟩, ⟨List.mem_of_getElem? (i := 507) (by decide +kernel), by decide +kernel⟩, ⟨List.mem_of_getElem? (i := 508) (by decide +kernel), by decide +kernel⟩, ⟨by decide +kernel, by decide +kernel, by decide +kernel⟩⟩
set_option maxRecDepth 100000 in
theorem yw_X1_reedBehindYear : zcv yX1_reedBehindYear 1 cX1_reedBehindYear 2 (some .int) 1 := ⟨⟨by decide, by decide +kernel⟩, ⟨List.mem_of_getElem? (i := 461) (by decide +kernel), by decide +kernel⟩, ⟨List.mem_of_getElem? (i := 59) (by decide +kernel), by decide +kernel⟩, ⟨List.mem_of_getElem? (i := 459) (by decide +kernel), by decide +kernel⟩, ⟨List.mem_of_getElem? (i := 460) (by decide +kernel), by decide +kernel⟩, ⟨by decide +kernel, by decide +kernel, by decide +kernel⟩⟩
set_option maxRecDepth 100000 in
theorem yw_X1_reedOfAll : zcv yX1_reedOfAll 1 cX1_reedOfAll 1 (some .int) 0 := ⟨⟨by decide, by decide +kernel⟩, ⟨List.mem_of_getElem? (i := 611) (by decide +kernel), by decide +kernel⟩, ⟨List.mem_of_getElem? (i := 59) (by decide +kernel), by decide +kernel⟩, ⟨List.mem_of_getElem? (i := 609) (by decide +kernel), by decide +kernel⟩, ⟨List.mem_of_getElem? (i := 610) (by decide +kernel), by decide +kernel⟩, ⟨by decide +kernel, by decide +kernel, by decide +kernel⟩⟩
set_option maxRecDepth 100000 in
theorem yw_X1_settle : zcv yX1_settle 1 cX1_settle 5 (none) 4 := ⟨⟨by decide, by decide +kernel⟩, ⟨List.mem_of_getElem? (i := 447) (by decide +kernel), by decide +kernel⟩, ⟨List.mem_of_getElem? (i := 59) (by decide +kernel), by decide +kernel⟩, ⟨List.mem_of_getElem? (i := 445) (by decide +kernel), by decide +kernel⟩, ⟨List.mem_of_getElem? (i := 446) (by decide +kernel), by decide +kernel⟩, ⟨by decide +kernel, by decide +kernel, by decide +kernel⟩⟩
set_option maxRecDepth 100000 in
theorem yw_X1_take : zcv yX1_take 1 cX1_take 2 (none) 1 := ⟨⟨by decide, by decide +kernel⟩, ⟨List.mem_of_getElem? (i := 570) (by decide +kernel), by decide +kernel⟩, ⟨List.mem_of_getElem? (i := 59) (by decide +kernel), by decide +kernel⟩, ⟨List.mem_of_getElem? (i := 568) (by decide +kernel), by decide +kernel⟩, ⟨List.mem_of_getElem? (i := 569) (by decide +kernel), by decide +kernel⟩, ⟨by decide +kernel, by decide +kernel, by decide +kernel⟩⟩
set_option maxRecDepth 100000 in
theorem yw_X1_wetBits : zcv yX1_wetBits 1 cX1_wetBits 6 (some .int) 1 := ⟨⟨by decide, by decide +kernel⟩, ⟨List.mem_of_getElem? (i := 520) (by decide +kernel), by decide +kernel⟩, ⟨List.mem_of_getElem? (i := 59) (by decide +kernel), by decide +kernel⟩, ⟨List.mem_of_getElem? (i := 518) (by decide +kernel), by decide +kernel⟩, ⟨List.mem_of_getElem? (i := 519) (by decide +kernel), by decide +kernel⟩, ⟨by decide +kernel, by decide +kernel, by decide +kernel⟩⟩
set_option maxRecDepth 100000 in
theorem yw_X1_worryOfAll : zcv yX1_worryOfAll 1 cX1_worryOfAll 1 (some .int) 0 := ⟨⟨by decide, by decide +kernel⟩, ⟨List.mem_of_getElem? (i := 743) (by decide +kernel), by decide +kernel⟩, ⟨List.mem_of_getElem? (i := 59) (by decide +kernel), by decide +kernel⟩, ⟨List.mem_of_getElem? (i := 741) (by decide +kernel), by decide +kernel⟩, ⟨List.mem_of_getElem? (i := 742) (by decide +kernel), by decide +kernel⟩, ⟨by decide +kernel, by decide +kernel, by decide +kernel⟩⟩
set_option maxRecDepth 100000 in
theorem yi_X2_init : zci yX2_init 2 cX2_init 1 0 := ⟨⟨by decide, by decide +kernel⟩, ⟨List.mem_of_getElem? (i := 85) (by decide +kernel), by decide +kernel⟩, ⟨List.mem_of_getElem? (i := 57) (by decide +kernel), by decide +kernel⟩, ⟨List.mem_of_getElem? (i := 84) (by decide +kernel), by decide +kernel⟩, rfl, ⟨by decide +kernel, by decide +kernel, by decide +kernel⟩⟩
set_option maxRecDepth 100000 in
theorem yw_X2_add : zcv yX2_add 2 cX2_add 2 (none) 1 := ⟨⟨by decide, by decide +kernel⟩, ⟨List.mem_of_getElem? (i := 332) (by decide +kernel), by decide +kernel⟩, ⟨List.mem_of_getElem? (i := 57) (by decide +kernel), by decide +kernel⟩, ⟨List.mem_of_getElem? (i := 330) (by decide +kernel), by decide +kernel⟩, ⟨List.mem_of_getElem? (i := 331) (by decide +kernel), by decide +kernel⟩, ⟨by decide +kernel, by decide +kernel, by decide +kernel⟩⟩
set_option maxRecDepth 100000 in
theorem yw_X2_firstFault : zcv yX2_firstFault 2 cX2_firstFault 2 (some .int) 0 := ⟨⟨by decide, by decide +kernel⟩, ⟨List.mem_of_getElem? (i := 348) (by decide +kernel), by decide +kernel⟩, ⟨List.mem_of_getElem? (i := 57) (by decide +kernel), by decide +kernel⟩, ⟨List.mem_of_getElem? (i := 346) (by decide +kernel), by decide +kernel⟩, ⟨List.mem_of_getElem? (i := 347) (by decide +kernel), by decide +kernel⟩, ⟨by decide +kernel, by decide +kernel, by decide +kernel⟩⟩
set_option maxRecDepth 100000 in
theorem yw_X2_housesTold : zcv yX2_housesTold 2 cX2_housesTold 1 (some .int) 0 := ⟨⟨by decide, by decide +kernel⟩, ⟨List.mem_of_getElem? (i := 421) (by decide +kernel), by decide +kernel⟩, ⟨List.mem_of_getElem? (i := 57) (by decide +kernel), by decide +kernel⟩, ⟨List.mem_of_getElem? (i := 419) (by decide +kernel), by decide +kernel⟩, ⟨List.mem_of_getElem? (i := 420) (by decide +kernel), by decide +kernel⟩, ⟨by decide +kernel, by decide +kernel, by decide +kernel⟩⟩
set_option maxRecDepth 100000 in
theorem yw_X2_isLane : zcv yX2_isLane 2 cX2_isLane 1 (some .boolean) 0 := ⟨⟨by decide, by decide +kernel⟩, ⟨List.mem_of_getElem? (i := 416) (by decide +kernel), by decide +kernel⟩, ⟨List.mem_of_getElem? (i := 57) (by decide +kernel), by decide +kernel⟩, ⟨List.mem_of_getElem? (i := 414) (by decide +kernel), by decide +kernel⟩, ⟨List.mem_of_getElem? (i := 415) (by decide +kernel), by decide +kernel⟩, ⟨by decide +kernel, by decide +kernel, by decide +kernel⟩⟩
set_option maxRecDepth 100000 in
theorem ys_X2_kindOf : zcs yX2_kindOf cX2_kindOf 2 (some .int) 1 := ⟨⟨List.mem_of_getElem? (i := 358) (by decide +kernel), by decide +kernel⟩, ⟨List.mem_of_getElem? (i := 57) (by decide +kernel), by decide +kernel⟩, ⟨List.mem_of_getElem? (i := 357) (by decide +kernel), by decide +kernel⟩, ⟨by decide +kernel, by decide +kernel, by decide +kernel⟩⟩
set_option maxRecDepth 100000 in
theorem yw_X2_kindTold : zcv yX2_kindTold 2 cX2_kindTold 2 (some .int) 1 := ⟨⟨by decide, by decide +kernel⟩, ⟨List.mem_of_getElem? (i := 435) (by decide +kernel), by decide +kernel⟩, ⟨List.mem_of_getElem? (i := 57) (by decide +kernel), by decide +kernel⟩, ⟨List.mem_of_getElem? (i := 433) (by decide +kernel), by decide +kernel⟩, ⟨List.mem_of_getElem? (i := 434) (by decide +kernel), by decide +kernel⟩, ⟨by decide +kernel, by decide +kernel, by decide +kernel⟩⟩
set_option maxRecDepth 100000 in
theorem ys_X2_mayStand : zcs yX2_mayStand cX2_mayStand 2 (some .boolean) 2 := ⟨⟨List.mem_of_getElem? (i := 355) (by decide +kernel), by decide +kernel⟩, ⟨List.mem_of_getElem? (i := 57) (by decide +kernel), by decide +kernel⟩, ⟨List.mem_of_getElem? (i := 354) (by decide +kernel), by decide +kernel⟩, ⟨by decide +kernel, by decide +kernel, by decide +kernel⟩⟩
set_option maxRecDepth 100000 in
theorem yw_X2_reedTold : zcv yX2_reedTold 2 cX2_reedTold 2 (some .int) 1 := ⟨⟨by decide, by decide +kernel⟩, ⟨List.mem_of_getElem? (i := 439) (by decide +kernel), by decide +kernel⟩, ⟨List.mem_of_getElem? (i := 57) (by decide +kernel), by decide +kernel⟩, ⟨List.mem_of_getElem? (i := 437) (by decide +kernel), by decide +kernel⟩, ⟨List.mem_of_getElem? (i := 438) (by decide +kernel), by decide +kernel⟩, ⟨by decide +kernel, by decide +kernel, by decide +kernel⟩⟩
set_option maxRecDepth 100000 in
theorem yw_X2_worryTold : zcv yX2_worryTold 2 cX2_worryTold 2 (some .int) 1 := ⟨⟨by decide, by decide +kernel⟩, ⟨List.mem_of_getElem? (i := 443) (by decide +kernel), by decide +kernel⟩, ⟨List.mem_of_getElem? (i := 57) (by decide +kernel), by decide +kernel⟩, ⟨List.mem_of_getElem? (i := 441) (by decide +kernel), by decide +kernel⟩, ⟨List.mem_of_getElem? (i := 442) (by decide +kernel), by decide +kernel⟩, ⟨by decide +kernel, by decide +kernel, by decide +kernel⟩⟩
set_option maxRecDepth 100000 in
theorem yi_X3_init : zci yX3_init 3 cX3_init 1 0 := ⟨⟨by decide, by decide +kernel⟩, ⟨List.mem_of_getElem? (i := 234) (by decide +kernel), by decide +kernel⟩, ⟨List.mem_of_getElem? (i := 63) (by decide +kernel), by decide +kernel⟩, ⟨List.mem_of_getElem? (i := 233) (by decide +kernel), by decide +kernel⟩, rfl, ⟨by decide +kernel, by decide +kernel, by decide +kernel⟩⟩
set_option maxRecDepth 100000 in
theorem yw_X3_couple : zcv yX3_couple 3 cX3_couple 7 (none) 5 := ⟨⟨by decide, by decide +kernel⟩, ⟨List.mem_of_getElem? (i := 655) (by decide +kernel), by decide +kernel⟩, ⟨List.mem_of_getElem? (i := 63) (by decide +kernel), by decide +kernel⟩, ⟨List.mem_of_getElem? (i := 654) (by decide +kernel), by decide +kernel⟩, ⟨List.mem_of_getElem? (i := 11) (by decide +kernel), by decide +kernel⟩, ⟨by decide +kernel, by decide +kernel, by decide +kernel⟩⟩
set_option maxRecDepth 100000 in
theorem yw_X3_firstFree : zcv yX3_firstFree 3 cX3_firstFree 4 (some .int) 2 := ⟨⟨by decide, by decide +kernel⟩, ⟨List.mem_of_getElem? (i := 641) (by decide +kernel), by decide +kernel⟩, ⟨List.mem_of_getElem? (i := 63) (by decide +kernel), by decide +kernel⟩, ⟨List.mem_of_getElem? (i := 640) (by decide +kernel), by decide +kernel⟩, ⟨List.mem_of_getElem? (i := 8) (by decide +kernel), by decide +kernel⟩, ⟨by decide +kernel, by decide +kernel, by decide +kernel⟩⟩
set_option maxRecDepth 100000 in
theorem yw_X3_leave : zcv yX3_leave 3 cX3_leave 4 (none) 3 := ⟨⟨by decide, by decide +kernel⟩, ⟨List.mem_of_getElem? (i := 651) (by decide +kernel), by decide +kernel⟩, ⟨List.mem_of_getElem? (i := 63) (by decide +kernel), by decide +kernel⟩, ⟨List.mem_of_getElem? (i := 650) (by decide +kernel), by decide +kernel⟩, ⟨List.mem_of_getElem? (i := 10) (by decide +kernel), by decide +kernel⟩, ⟨by decide +kernel, by decide +kernel, by decide +kernel⟩⟩
set_option maxRecDepth 100000 in
theorem yw_X3_pairFrom : zcv yX3_pairFrom 3 cX3_pairFrom 7 (none) 4 := ⟨⟨by decide, by decide +kernel⟩, ⟨List.mem_of_getElem? (i := 637) (by decide +kernel), by decide +kernel⟩, ⟨List.mem_of_getElem? (i := 63) (by decide +kernel), by decide +kernel⟩, ⟨List.mem_of_getElem? (i := 636) (by decide +kernel), by decide +kernel⟩, ⟨List.mem_of_getElem? (i := 7) (by decide +kernel), by decide +kernel⟩, ⟨by decide +kernel, by decide +kernel, by decide +kernel⟩⟩
set_option maxRecDepth 100000 in
theorem yw_X3_search : zcv yX3_search 3 cX3_search 3 (none) 1 := ⟨⟨by decide, by decide +kernel⟩, ⟨List.mem_of_getElem? (i := 631) (by decide +kernel), by decide +kernel⟩, ⟨List.mem_of_getElem? (i := 63) (by decide +kernel), by decide +kernel⟩, ⟨List.mem_of_getElem? (i := 629) (by decide +kernel), by decide +kernel⟩, ⟨List.mem_of_getElem? (i := 630) (by decide +kernel), by decide +kernel⟩, ⟨by decide +kernel, by decide +kernel, by decide +kernel⟩⟩
set_option maxRecDepth 100000 in
theorem yw_X3_weigh : zcv yX3_weigh 3 cX3_weigh 2 (none) 1 := ⟨⟨by decide, by decide +kernel⟩, ⟨List.mem_of_getElem? (i := 646) (by decide +kernel), by decide +kernel⟩, ⟨List.mem_of_getElem? (i := 63) (by decide +kernel), by decide +kernel⟩, ⟨List.mem_of_getElem? (i := 645) (by decide +kernel), by decide +kernel⟩, ⟨List.mem_of_getElem? (i := 9) (by decide +kernel), by decide +kernel⟩, ⟨by decide +kernel, by decide +kernel, by decide +kernel⟩⟩
set_option maxRecDepth 100000 in
theorem yi_X4_init : zci yX4_init 4 cX4_init 1 0 := ⟨⟨by decide, by decide +kernel⟩, ⟨List.mem_of_getElem? (i := 254) (by decide +kernel), by decide +kernel⟩, ⟨List.mem_of_getElem? (i := 64) (by decide +kernel), by decide +kernel⟩, ⟨List.mem_of_getElem? (i := 253) (by decide +kernel), by decide +kernel⟩, rfl, ⟨by decide +kernel, by decide +kernel, by decide +kernel⟩⟩
set_option maxRecDepth 100000 in
theorem yw_X4_putOnFrom : zcv yX4_putOnFrom 4 cX4_putOnFrom 8 (none) 5 := ⟨⟨by decide, by decide +kernel⟩, ⟨List.mem_of_getElem? (i := 670) (by decide +kernel), by decide +kernel⟩, ⟨List.mem_of_getElem? (i := 64) (by decide +kernel), by decide +kernel⟩, ⟨List.mem_of_getElem? (i := 669) (by decide +kernel), by decide +kernel⟩, ⟨List.mem_of_getElem? (i := 12) (by decide +kernel), by decide +kernel⟩, ⟨by decide +kernel, by decide +kernel, by decide +kernel⟩⟩
set_option maxRecDepth 100000 in
theorem yw_X4_raise : zcv yX4_raise 4 cX4_raise 10 (none) 6 := ⟨⟨by decide, by decide +kernel⟩, ⟨List.mem_of_getElem? (i := 680) (by decide +kernel), by decide +kernel⟩, ⟨List.mem_of_getElem? (i := 64) (by decide +kernel), by decide +kernel⟩, ⟨List.mem_of_getElem? (i := 679) (by decide +kernel), by decide +kernel⟩, ⟨List.mem_of_getElem? (i := 14) (by decide +kernel), by decide +kernel⟩, ⟨by decide +kernel, by decide +kernel, by decide +kernel⟩⟩
set_option maxRecDepth 100000 in
theorem yw_X4_search : zcv yX4_search 4 cX4_search 4 (none) 3 := ⟨⟨by decide, by decide +kernel⟩, ⟨List.mem_of_getElem? (i := 666) (by decide +kernel), by decide +kernel⟩, ⟨List.mem_of_getElem? (i := 64) (by decide +kernel), by decide +kernel⟩, ⟨List.mem_of_getElem? (i := 664) (by decide +kernel), by decide +kernel⟩, ⟨List.mem_of_getElem? (i := 665) (by decide +kernel), by decide +kernel⟩, ⟨by decide +kernel, by decide +kernel, by decide +kernel⟩⟩
set_option maxRecDepth 100000 in
theorem yw_X4_weigh : zcv yX4_weigh 4 cX4_weigh 3 (none) 2 := ⟨⟨by decide, by decide +kernel⟩, ⟨List.mem_of_getElem? (i := 674) (by decide +kernel), by decide +kernel⟩, ⟨List.mem_of_getElem? (i := 64) (by decide +kernel), by decide +kernel⟩, ⟨List.mem_of_getElem? (i := 673) (by decide +kernel), by decide +kernel⟩, ⟨List.mem_of_getElem? (i := 13) (by decide +kernel), by decide +kernel⟩, ⟨by decide +kernel, by decide +kernel, by decide +kernel⟩⟩
set_option maxRecDepth 100000 in
theorem yi_X5_init : zci yX5_init 5 cX5_init 2 0 := ⟨⟨by decide, by decide +kernel⟩, ⟨List.mem_of_getElem? (i := 198) (by decide +kernel), by decide +kernel⟩, ⟨List.mem_of_getElem? (i := 62) (by decide +kernel), by decide +kernel⟩, ⟨List.mem_of_getElem? (i := 197) (by decide +kernel), by decide +kernel⟩, rfl, ⟨by decide +kernel, by decide +kernel, by decide +kernel⟩⟩
set_option maxRecDepth 100000 in
theorem yw_X5_cheerAndGoOn : zcv yX5_cheerAndGoOn 5 cX5_cheerAndGoOn 5 (none) 3 := ⟨⟨by decide, by decide +kernel⟩, ⟨List.mem_of_getElem? (i := 620) (by decide +kernel), by decide +kernel⟩, ⟨List.mem_of_getElem? (i := 62) (by decide +kernel), by decide +kernel⟩, ⟨List.mem_of_getElem? (i := 619) (by decide +kernel), by decide +kernel⟩, ⟨List.mem_of_getElem? (i := 6) (by decide +kernel), by decide +kernel⟩, ⟨by decide +kernel, by decide +kernel, by decide +kernel⟩⟩
set_option maxRecDepth 100000 in
theorem yw_X5_goOn : zcv yX5_goOn 5 cX5_goOn 4 (none) 2 := ⟨⟨by decide, by decide +kernel⟩, ⟨List.mem_of_getElem? (i := 596) (by decide +kernel), by decide +kernel⟩, ⟨List.mem_of_getElem? (i := 62) (by decide +kernel), by decide +kernel⟩, ⟨List.mem_of_getElem? (i := 595) (by decide +kernel), by decide +kernel⟩, ⟨List.mem_of_getElem? (i := 4) (by decide +kernel), by decide +kernel⟩, ⟨by decide +kernel, by decide +kernel, by decide +kernel⟩⟩
set_option maxRecDepth 100000 in
theorem yw_X5_search : zcv yX5_search 5 cX5_search 5 (none) 3 := ⟨⟨by decide, by decide +kernel⟩, ⟨List.mem_of_getElem? (i := 587) (by decide +kernel), by decide +kernel⟩, ⟨List.mem_of_getElem? (i := 62) (by decide +kernel), by decide +kernel⟩, ⟨List.mem_of_getElem? (i := 585) (by decide +kernel), by decide +kernel⟩, ⟨List.mem_of_getElem? (i := 586) (by decide +kernel), by decide +kernel⟩, ⟨by decide +kernel, by decide +kernel, by decide +kernel⟩⟩
set_option maxRecDepth 100000 in
theorem yw_X5_stepAt : zcv yX5_stepAt 5 cX5_stepAt 2 (some (.object "ThatchLane$Lane")) 1 := ⟨⟨by decide, by decide +kernel⟩, ⟨List.mem_of_getElem? (i := 591) (by decide +kernel), by decide +kernel⟩, ⟨List.mem_of_getElem? (i := 62) (by decide +kernel), by decide +kernel⟩, ⟨List.mem_of_getElem? (i := 590) (by decide +kernel), by decide +kernel⟩, ⟨List.mem_of_getElem? (i := 3) (by decide +kernel), by decide +kernel⟩, ⟨by decide +kernel, by decide +kernel, by decide +kernel⟩⟩
set_option maxRecDepth 100000 in
theorem yw_X5_weigh : zcv yX5_weigh 5 cX5_weigh 4 (none) 1 := ⟨⟨by decide, by decide +kernel⟩, ⟨List.mem_of_getElem? (i := 600) (by decide +kernel), by decide +kernel⟩, ⟨List.mem_of_getElem? (i := 62) (by decide +kernel), by decide +kernel⟩, ⟨List.mem_of_getElem? (i := 599) (by decide +kernel), by decide +kernel⟩, ⟨List.mem_of_getElem? (i := 5) (by decide +kernel), by decide +kernel⟩, ⟨by decide +kernel, by decide +kernel, by decide +kernel⟩⟩
set_option maxRecDepth 100000 in
theorem yi_X6_init : zci yX6_init 6 cX6_init 2 1 := ⟨⟨by decide, by decide +kernel⟩, ⟨List.mem_of_getElem? (i := 91) (by decide +kernel), by decide +kernel⟩, ⟨List.mem_of_getElem? (i := 58) (by decide +kernel), by decide +kernel⟩, ⟨List.mem_of_getElem? (i := 90) (by decide +kernel), by decide +kernel⟩, rfl, ⟨by decide +kernel, by decide +kernel, by decide +kernel⟩⟩
set_option maxRecDepth 100000 in
theorem yw_X6_at : zcv yX6_at 6 cX6_at 2 (some .int) 1 := ⟨⟨by decide, by decide +kernel⟩, ⟨List.mem_of_getElem? (i := 352) (by decide +kernel), by decide +kernel⟩, ⟨List.mem_of_getElem? (i := 58) (by decide +kernel), by decide +kernel⟩, ⟨List.mem_of_getElem? (i := 350) (by decide +kernel), by decide +kernel⟩, ⟨List.mem_of_getElem? (i := 351) (by decide +kernel), by decide +kernel⟩, ⟨by decide +kernel, by decide +kernel, by decide +kernel⟩⟩
set_option maxRecDepth 100000 in
theorem yw_X6_fill : zcv yX6_fill 6 cX6_fill 3 (none) 1 := ⟨⟨by decide, by decide +kernel⟩, ⟨List.mem_of_getElem? (i := 493) (by decide +kernel), by decide +kernel⟩, ⟨List.mem_of_getElem? (i := 58) (by decide +kernel), by decide +kernel⟩, ⟨List.mem_of_getElem? (i := 491) (by decide +kernel), by decide +kernel⟩, ⟨List.mem_of_getElem? (i := 492) (by decide +kernel), by decide +kernel⟩, ⟨by decide +kernel, by decide +kernel, by decide +kernel⟩⟩
set_option maxRecDepth 100000 in
theorem yw_X6_put : zcv yX6_put 6 cX6_put 3 (none) 2 := ⟨⟨by decide, by decide +kernel⟩, ⟨List.mem_of_getElem? (i := 336) (by decide +kernel), by decide +kernel⟩, ⟨List.mem_of_getElem? (i := 58) (by decide +kernel), by decide +kernel⟩, ⟨List.mem_of_getElem? (i := 334) (by decide +kernel), by decide +kernel⟩, ⟨List.mem_of_getElem? (i := 335) (by decide +kernel), by decide +kernel⟩, ⟨by decide +kernel, by decide +kernel, by decide +kernel⟩⟩
set_option maxRecDepth 100000 in
theorem yw_X6_sumOfFirst : zcv yX6_sumOfFirst 6 cX6_sumOfFirst 4 (some .int) 1 := ⟨⟨by decide, by decide +kernel⟩, ⟨List.mem_of_getElem? (i := 615) (by decide +kernel), by decide +kernel⟩, ⟨List.mem_of_getElem? (i := 58) (by decide +kernel), by decide +kernel⟩, ⟨List.mem_of_getElem? (i := 613) (by decide +kernel), by decide +kernel⟩, ⟨List.mem_of_getElem? (i := 614) (by decide +kernel), by decide +kernel⟩, ⟨by decide +kernel, by decide +kernel, by decide +kernel⟩⟩
set_option maxRecDepth 100000 in
theorem yw_X6_take : zcv yX6_take 6 cX6_take 3 (none) 1 := ⟨⟨by decide, by decide +kernel⟩, ⟨List.mem_of_getElem? (i := 574) (by decide +kernel), by decide +kernel⟩, ⟨List.mem_of_getElem? (i := 58) (by decide +kernel), by decide +kernel⟩, ⟨List.mem_of_getElem? (i := 572) (by decide +kernel), by decide +kernel⟩, ⟨List.mem_of_getElem? (i := 573) (by decide +kernel), by decide +kernel⟩, ⟨by decide +kernel, by decide +kernel, by decide +kernel⟩⟩
set_option maxRecDepth 100000 in
theorem yi_X7_init : zci yX7_init 7 cX7_init 1 0 := ⟨⟨by decide, by decide +kernel⟩, ⟨List.mem_of_getElem? (i := 183) (by decide +kernel), by decide +kernel⟩, ⟨List.mem_of_getElem? (i := 61) (by decide +kernel), by decide +kernel⟩, ⟨List.mem_of_getElem? (i := 182) (by decide +kernel), by decide +kernel⟩, rfl, ⟨by decide +kernel, by decide +kernel, by decide +kernel⟩⟩
set_option maxRecDepth 100000 in
theorem yw_X7_fits : zcv yX7_fits 7 cX7_fits 6 (some .boolean) 3 := ⟨⟨by decide, by decide +kernel⟩, ⟨List.mem_of_getElem? (i := 480) (by decide +kernel), by decide +kernel⟩, ⟨List.mem_of_getElem? (i := 61) (by decide +kernel), by decide +kernel⟩, ⟨List.mem_of_getElem? (i := 479) (by decide +kernel), by decide +kernel⟩, ⟨List.mem_of_getElem? (i := 1) (by decide +kernel), by decide +kernel⟩, ⟨by decide +kernel, by decide +kernel, by decide +kernel⟩⟩
set_option maxRecDepth 100000 in
theorem yw_X7_foresee : zcv yX7_foresee 7 cX7_foresee 8 (none) 2 := ⟨⟨by decide, by decide +kernel⟩, ⟨List.mem_of_getElem? (i := 473) (by decide +kernel), by decide +kernel⟩, ⟨List.mem_of_getElem? (i := 61) (by decide +kernel), by decide +kernel⟩, ⟨List.mem_of_getElem? (i := 472) (by decide +kernel), by decide +kernel⟩, ⟨List.mem_of_getElem? (i := 0) (by decide +kernel), by decide +kernel⟩, ⟨by decide +kernel, by decide +kernel, by decide +kernel⟩⟩
set_option maxRecDepth 100000 in
theorem yw_X7_mostLeft : zcv yX7_mostLeft 7 cX7_mostLeft 6 (some .int) 2 := ⟨⟨by decide, by decide +kernel⟩, ⟨List.mem_of_getElem? (i := 489) (by decide +kernel), by decide +kernel⟩, ⟨List.mem_of_getElem? (i := 61) (by decide +kernel), by decide +kernel⟩, ⟨List.mem_of_getElem? (i := 488) (by decide +kernel), by decide +kernel⟩, ⟨List.mem_of_getElem? (i := 2) (by decide +kernel), by decide +kernel⟩, ⟨by decide +kernel, by decide +kernel, by decide +kernel⟩⟩
set_option maxRecDepth 100000 in
theorem yw_X7_whenToLook : zcv yX7_whenToLook 7 cX7_whenToLook 9 (some .int) 3 := ⟨⟨by decide, by decide +kernel⟩, ⟨List.mem_of_getElem? (i := 484) (by decide +kernel), by decide +kernel⟩, ⟨List.mem_of_getElem? (i := 61) (by decide +kernel), by decide +kernel⟩, ⟨List.mem_of_getElem? (i := 482) (by decide +kernel), by decide +kernel⟩, ⟨List.mem_of_getElem? (i := 483) (by decide +kernel), by decide +kernel⟩, ⟨by decide +kernel, by decide +kernel, by decide +kernel⟩⟩
set_option maxRecDepth 100000 in
theorem yw_X7_worriesLeft : zcv yX7_worriesLeft 7 cX7_worriesLeft 6 (some .int) 3 := ⟨⟨by decide, by decide +kernel⟩, ⟨List.mem_of_getElem? (i := 469) (by decide +kernel), by decide +kernel⟩, ⟨List.mem_of_getElem? (i := 61) (by decide +kernel), by decide +kernel⟩, ⟨List.mem_of_getElem? (i := 467) (by decide +kernel), by decide +kernel⟩, ⟨List.mem_of_getElem? (i := 468) (by decide +kernel), by decide +kernel⟩, ⟨by decide +kernel, by decide +kernel, by decide +kernel⟩⟩
set_option maxRecDepth 100000 in
theorem yi_X8_init : zci yX8_init 8 cX8_init 1 0 := ⟨⟨by decide, by decide +kernel⟩, ⟨List.mem_of_getElem? (i := 157) (by decide +kernel), by decide +kernel⟩, ⟨List.mem_of_getElem? (i := 60) (by decide +kernel), by decide +kernel⟩, ⟨List.mem_of_getElem? (i := 156) (by decide +kernel), by decide +kernel⟩, rfl, ⟨by decide +kernel, by decide +kernel, by decide +kernel⟩⟩
set_option maxRecDepth 100000 in
theorem yw_X8_add : zcv yX8_add 8 cX8_add 4 (none) 3 := ⟨⟨by decide, by decide +kernel⟩, ⟨List.mem_of_getElem? (i := 700) (by decide +kernel), by decide +kernel⟩, ⟨List.mem_of_getElem? (i := 60) (by decide +kernel), by decide +kernel⟩, ⟨List.mem_of_getElem? (i := 698) (by decide +kernel), by decide +kernel⟩, ⟨List.mem_of_getElem? (i := 699) (by decide +kernel), by decide +kernel⟩, ⟨by decide +kernel, by decide +kernel, by decide +kernel⟩⟩
set_option maxRecDepth 100000 in
theorem yw_X8_take : zcv yX8_take 8 cX8_take 2 (none) 1 := ⟨⟨by decide, by decide +kernel⟩, ⟨List.mem_of_getElem? (i := 730) (by decide +kernel), by decide +kernel⟩, ⟨List.mem_of_getElem? (i := 60) (by decide +kernel), by decide +kernel⟩, ⟨List.mem_of_getElem? (i := 728) (by decide +kernel), by decide +kernel⟩, ⟨List.mem_of_getElem? (i := 729) (by decide +kernel), by decide +kernel⟩, ⟨by decide +kernel, by decide +kernel, by decide +kernel⟩⟩
set_option maxRecDepth 100000 in
theorem yi_X10_init : zci yX10_init 10 cX10_init 1 0 := ⟨⟨by decide, by decide +kernel⟩, ⟨List.mem_of_getElem? (i := 778) (by decide +kernel), by decide +kernel⟩, ⟨List.mem_of_getElem? (i := 66) (by decide +kernel), by decide +kernel⟩, ⟨List.mem_of_getElem? (i := 777) (by decide +kernel), by decide +kernel⟩, rfl, ⟨by decide +kernel, by decide +kernel, by decide +kernel⟩⟩
set_option maxRecDepth 100000 in
theorem yw_X10_ages : zcv yX10_ages 10 cX10_ages 4 (some .int) 3 := ⟨⟨by decide, by decide +kernel⟩, ⟨List.mem_of_getElem? (i := 1138) (by decide +kernel), by decide +kernel⟩, ⟨List.mem_of_getElem? (i := 66) (by decide +kernel), by decide +kernel⟩, ⟨List.mem_of_getElem? (i := 1136) (by decide +kernel), by decide +kernel⟩, ⟨List.mem_of_getElem? (i := 1137) (by decide +kernel), by decide +kernel⟩, ⟨by decide +kernel, by decide +kernel, by decide +kernel⟩⟩
set_option maxRecDepth 100000 in
theorem yw_X10_agesNow : zcv yX10_agesNow 10 cX10_agesNow 7 (some .int) 3 := ⟨⟨by decide, by decide +kernel⟩, ⟨List.mem_of_getElem? (i := 1142) (by decide +kernel), by decide +kernel⟩, ⟨List.mem_of_getElem? (i := 66) (by decide +kernel), by decide +kernel⟩, ⟨List.mem_of_getElem? (i := 1141) (by decide +kernel), by decide +kernel⟩, ⟨List.mem_of_getElem? (i := 47) (by decide +kernel), by decide +kernel⟩, ⟨by decide +kernel, by decide +kernel, by decide +kernel⟩⟩
set_option maxRecDepth 100000 in
theorem yw_X10_apart : zcv yX10_apart 10 cX10_apart 4 (some .int) 2 := ⟨⟨by decide, by decide +kernel⟩, ⟨List.mem_of_getElem? (i := 1099) (by decide +kernel), by decide +kernel⟩, ⟨List.mem_of_getElem? (i := 66) (by decide +kernel), by decide +kernel⟩, ⟨List.mem_of_getElem? (i := 1098) (by decide +kernel), by decide +kernel⟩, ⟨List.mem_of_getElem? (i := 42) (by decide +kernel), by decide +kernel⟩, ⟨by decide +kernel, by decide +kernel, by decide +kernel⟩⟩
set_option maxRecDepth 100000 in
theorem yw_X10_as : zcv yX10_as 10 cX10_as 4 (some .int) 2 := ⟨⟨by decide, by decide +kernel⟩, ⟨List.mem_of_getElem? (i := 986) (by decide +kernel), by decide +kernel⟩, ⟨List.mem_of_getElem? (i := 66) (by decide +kernel), by decide +kernel⟩, ⟨List.mem_of_getElem? (i := 984) (by decide +kernel), by decide +kernel⟩, ⟨List.mem_of_getElem? (i := 985) (by decide +kernel), by decide +kernel⟩, ⟨by decide +kernel, by decide +kernel, by decide +kernel⟩⟩
set_option maxRecDepth 100000 in
theorem yw_X10_at : zcv yX10_at 10 cX10_at 2 (some .int) 1 := ⟨⟨by decide, by decide +kernel⟩, ⟨List.mem_of_getElem? (i := 929) (by decide +kernel), by decide +kernel⟩, ⟨List.mem_of_getElem? (i := 66) (by decide +kernel), by decide +kernel⟩, ⟨List.mem_of_getElem? (i := 928) (by decide +kernel), by decide +kernel⟩, ⟨List.mem_of_getElem? (i := 18) (by decide +kernel), by decide +kernel⟩, ⟨by decide +kernel, by decide +kernel, by decide +kernel⟩⟩
set_option maxRecDepth 100000 in
theorem yw_X10_blank : zcv yX10_blank 10 cX10_blank 2 (some .int) 0 := ⟨⟨by decide, by decide +kernel⟩, ⟨List.mem_of_getElem? (i := 917) (by decide +kernel), by decide +kernel⟩, ⟨List.mem_of_getElem? (i := 66) (by decide +kernel), by decide +kernel⟩, ⟨List.mem_of_getElem? (i := 915) (by decide +kernel), by decide +kernel⟩, ⟨List.mem_of_getElem? (i := 916) (by decide +kernel), by decide +kernel⟩, ⟨by decide +kernel, by decide +kernel, by decide +kernel⟩⟩
set_option maxRecDepth 100000 in
theorem yw_X10_cheer : zcv yX10_cheer 10 cX10_cheer 2 (some .int) 1 := ⟨⟨by decide, by decide +kernel⟩, ⟨List.mem_of_getElem? (i := 1028) (by decide +kernel), by decide +kernel⟩, ⟨List.mem_of_getElem? (i := 66) (by decide +kernel), by decide +kernel⟩, ⟨List.mem_of_getElem? (i := 1026) (by decide +kernel), by decide +kernel⟩, ⟨List.mem_of_getElem? (i := 1027) (by decide +kernel), by decide +kernel⟩, ⟨by decide +kernel, by decide +kernel, by decide +kernel⟩⟩
set_option maxRecDepth 100000 in
theorem yw_X10_comb : zcv yX10_comb 10 cX10_comb 2 (some .int) 1 := ⟨⟨by decide, by decide +kernel⟩, ⟨List.mem_of_getElem? (i := 1036) (by decide +kernel), by decide +kernel⟩, ⟨List.mem_of_getElem? (i := 66) (by decide +kernel), by decide +kernel⟩, ⟨List.mem_of_getElem? (i := 1034) (by decide +kernel), by decide +kernel⟩, ⟨List.mem_of_getElem? (i := 1035) (by decide +kernel), by decide +kernel⟩, ⟨by decide +kernel, by decide +kernel, by decide +kernel⟩⟩
set_option maxRecDepth 100000 in
theorem yw_X10_count : zcv yX10_count 10 cX10_count 2 (some .int) 1 := ⟨⟨by decide, by decide +kernel⟩, ⟨List.mem_of_getElem? (i := 1162) (by decide +kernel), by decide +kernel⟩, ⟨List.mem_of_getElem? (i := 66) (by decide +kernel), by decide +kernel⟩, ⟨List.mem_of_getElem? (i := 1160) (by decide +kernel), by decide +kernel⟩, ⟨List.mem_of_getElem? (i := 1161) (by decide +kernel), by decide +kernel⟩, ⟨by decide +kernel, by decide +kernel, by decide +kernel⟩⟩
set_option maxRecDepth 100000 in
theorem yw_X10_digest : zcv yX10_digest 10 cX10_digest 2 (some .long) 0 := ⟨⟨by decide, by decide +kernel⟩, ⟨List.mem_of_getElem? (i := 1178) (by decide +kernel), by decide +kernel⟩, ⟨List.mem_of_getElem? (i := 66) (by decide +kernel), by decide +kernel⟩, ⟨List.mem_of_getElem? (i := 1176) (by decide +kernel), by decide +kernel⟩, ⟨List.mem_of_getElem? (i := 1177) (by decide +kernel), by decide +kernel⟩, ⟨by decide +kernel, by decide +kernel, by decide +kernel⟩⟩
set_option maxRecDepth 100000 in
theorem ys_X10_divisor : zcs yX10_divisor cX10_divisor 5 (some .int) 2 := ⟨⟨List.mem_of_getElem? (i := 1126) (by decide +kernel), by decide +kernel⟩, ⟨List.mem_of_getElem? (i := 66) (by decide +kernel), by decide +kernel⟩, ⟨List.mem_of_getElem? (i := 1125) (by decide +kernel), by decide +kernel⟩, ⟨by decide +kernel, by decide +kernel, by decide +kernel⟩⟩
set_option maxRecDepth 100000 in
theorem yw_X10_draw : zcv yX10_draw 10 cX10_draw 2 (some .int) 1 := ⟨⟨by decide, by decide +kernel⟩, ⟨List.mem_of_getElem? (i := 1146) (by decide +kernel), by decide +kernel⟩, ⟨List.mem_of_getElem? (i := 66) (by decide +kernel), by decide +kernel⟩, ⟨List.mem_of_getElem? (i := 1145) (by decide +kernel), by decide +kernel⟩, ⟨List.mem_of_getElem? (i := 48) (by decide +kernel), by decide +kernel⟩, ⟨by decide +kernel, by decide +kernel, by decide +kernel⟩⟩
set_option maxRecDepth 100000 in
theorem yw_X10_dry : zcv yX10_dry 10 cX10_dry 3 (some .int) 2 := ⟨⟨by decide, by decide +kernel⟩, ⟨List.mem_of_getElem? (i := 1052) (by decide +kernel), by decide +kernel⟩, ⟨List.mem_of_getElem? (i := 66) (by decide +kernel), by decide +kernel⟩, ⟨List.mem_of_getElem? (i := 1050) (by decide +kernel), by decide +kernel⟩, ⟨List.mem_of_getElem? (i := 1051) (by decide +kernel), by decide +kernel⟩, ⟨by decide +kernel, by decide +kernel, by decide +kernel⟩⟩
set_option maxRecDepth 100000 in
theorem yw_X10_dryNow : zcv yX10_dryNow 10 cX10_dryNow 4 (some .int) 2 := ⟨⟨by decide, by decide +kernel⟩, ⟨List.mem_of_getElem? (i := 1056) (by decide +kernel), by decide +kernel⟩, ⟨List.mem_of_getElem? (i := 66) (by decide +kernel), by decide +kernel⟩, ⟨List.mem_of_getElem? (i := 1055) (by decide +kernel), by decide +kernel⟩, ⟨List.mem_of_getElem? (i := 34) (by decide +kernel), by decide +kernel⟩, ⟨by decide +kernel, by decide +kernel, by decide +kernel⟩⟩
set_option maxRecDepth 100000 in
theorem yw_X10_fault : zcv yX10_fault 10 cX10_fault 1 (some .int) 0 := ⟨⟨by decide, by decide +kernel⟩, ⟨List.mem_of_getElem? (i := 921) (by decide +kernel), by decide +kernel⟩, ⟨List.mem_of_getElem? (i := 66) (by decide +kernel), by decide +kernel⟩, ⟨List.mem_of_getElem? (i := 919) (by decide +kernel), by decide +kernel⟩, ⟨List.mem_of_getElem? (i := 920) (by decide +kernel), by decide +kernel⟩, ⟨by decide +kernel, by decide +kernel, by decide +kernel⟩⟩
set_option maxRecDepth 100000 in
theorem yw_X10_forget : zcv yX10_forget 10 cX10_forget 2 (some .int) 0 := ⟨⟨by decide, by decide +kernel⟩, ⟨List.mem_of_getElem? (i := 1134) (by decide +kernel), by decide +kernel⟩, ⟨List.mem_of_getElem? (i := 66) (by decide +kernel), by decide +kernel⟩, ⟨List.mem_of_getElem? (i := 1132) (by decide +kernel), by decide +kernel⟩, ⟨List.mem_of_getElem? (i := 1133) (by decide +kernel), by decide +kernel⟩, ⟨by decide +kernel, by decide +kernel, by decide +kernel⟩⟩
set_option maxRecDepth 100000 in
theorem yw_X10_goCheer : zcv yX10_goCheer 10 cX10_goCheer 2 (none) 1 := ⟨⟨by decide, by decide +kernel⟩, ⟨List.mem_of_getElem? (i := 1032) (by decide +kernel), by decide +kernel⟩, ⟨List.mem_of_getElem? (i := 66) (by decide +kernel), by decide +kernel⟩, ⟨List.mem_of_getElem? (i := 1031) (by decide +kernel), by decide +kernel⟩, ⟨List.mem_of_getElem? (i := 31) (by decide +kernel), by decide +kernel⟩, ⟨by decide +kernel, by decide +kernel, by decide +kernel⟩⟩
set_option maxRecDepth 100000 in
theorem yw_X10_goComb : zcv yX10_goComb 10 cX10_goComb 2 (none) 1 := ⟨⟨by decide, by decide +kernel⟩, ⟨List.mem_of_getElem? (i := 1044) (by decide +kernel), by decide +kernel⟩, ⟨List.mem_of_getElem? (i := 66) (by decide +kernel), by decide +kernel⟩, ⟨List.mem_of_getElem? (i := 1043) (by decide +kernel), by decide +kernel⟩, ⟨List.mem_of_getElem? (i := 33) (by decide +kernel), by decide +kernel⟩, ⟨by decide +kernel, by decide +kernel, by decide +kernel⟩⟩
set_option maxRecDepth 100000 in
theorem yw_X10_goRain : zcv yX10_goRain 10 cX10_goRain 4 (some .int) 1 := ⟨⟨by decide, by decide +kernel⟩, ⟨List.mem_of_getElem? (i := 1021) (by decide +kernel), by decide +kernel⟩, ⟨List.mem_of_getElem? (i := 66) (by decide +kernel), by decide +kernel⟩, ⟨List.mem_of_getElem? (i := 1020) (by decide +kernel), by decide +kernel⟩, ⟨List.mem_of_getElem? (i := 30) (by decide +kernel), by decide +kernel⟩, ⟨by decide +kernel, by decide +kernel, by decide +kernel⟩⟩
set_option maxRecDepth 100000 in
theorem yw_X10_goYear : zcv yX10_goYear 10 cX10_goYear 2 (none) 0 := ⟨⟨by decide, by decide +kernel⟩, ⟨List.mem_of_getElem? (i := 1013) (by decide +kernel), by decide +kernel⟩, ⟨List.mem_of_getElem? (i := 66) (by decide +kernel), by decide +kernel⟩, ⟨List.mem_of_getElem? (i := 1012) (by decide +kernel), by decide +kernel⟩, ⟨List.mem_of_getElem? (i := 29) (by decide +kernel), by decide +kernel⟩, ⟨by decide +kernel, by decide +kernel, by decide +kernel⟩⟩
set_option maxRecDepth 100000 in
theorem ys_X10_grown : zcs yX10_grown cX10_grown 6 (some .int) 5 := ⟨⟨List.mem_of_getElem? (i := 962) (by decide +kernel), by decide +kernel⟩, ⟨List.mem_of_getElem? (i := 66) (by decide +kernel), by decide +kernel⟩, ⟨List.mem_of_getElem? (i := 961) (by decide +kernel), by decide +kernel⟩, ⟨by decide +kernel, by decide +kernel, by decide +kernel⟩⟩
set_option maxRecDepth 100000 in
theorem yw_X10_grownOf : zcv yX10_grownOf 10 cX10_grownOf 2 (some .int) 1 := ⟨⟨by decide, by decide +kernel⟩, ⟨List.mem_of_getElem? (i := 959) (by decide +kernel), by decide +kernel⟩, ⟨List.mem_of_getElem? (i := 66) (by decide +kernel), by decide +kernel⟩, ⟨List.mem_of_getElem? (i := 958) (by decide +kernel), by decide +kernel⟩, ⟨List.mem_of_getElem? (i := 22) (by decide +kernel), by decide +kernel⟩, ⟨by decide +kernel, by decide +kernel, by decide +kernel⟩⟩
set_option maxRecDepth 100000 in
theorem ys_X10_held : zcs yX10_held cX10_held 1 (some .int) 1 := ⟨⟨List.mem_of_getElem? (i := 965) (by decide +kernel), by decide +kernel⟩, ⟨List.mem_of_getElem? (i := 66) (by decide +kernel), by decide +kernel⟩, ⟨List.mem_of_getElem? (i := 964) (by decide +kernel), by decide +kernel⟩, ⟨by decide +kernel, by decide +kernel, by decide +kernel⟩⟩
set_option maxRecDepth 100000 in
theorem yw_X10_house : zcv yX10_house 10 cX10_house 3 (some .int) 2 := ⟨⟨by decide, by decide +kernel⟩, ⟨List.mem_of_getElem? (i := 944) (by decide +kernel), by decide +kernel⟩, ⟨List.mem_of_getElem? (i := 66) (by decide +kernel), by decide +kernel⟩, ⟨List.mem_of_getElem? (i := 942) (by decide +kernel), by decide +kernel⟩, ⟨List.mem_of_getElem? (i := 943) (by decide +kernel), by decide +kernel⟩, ⟨by decide +kernel, by decide +kernel, by decide +kernel⟩⟩
set_option maxRecDepth 100000 in
theorem yw_X10_houseNow : zcv yX10_houseNow 10 cX10_houseNow 3 (some .int) 2 := ⟨⟨by decide, by decide +kernel⟩, ⟨List.mem_of_getElem? (i := 952) (by decide +kernel), by decide +kernel⟩, ⟨List.mem_of_getElem? (i := 66) (by decide +kernel), by decide +kernel⟩, ⟨List.mem_of_getElem? (i := 951) (by decide +kernel), by decide +kernel⟩, ⟨List.mem_of_getElem? (i := 21) (by decide +kernel), by decide +kernel⟩, ⟨by decide +kernel, by decide +kernel, by decide +kernel⟩⟩
set_option maxRecDepth 100000 in
theorem yw_X10_howMany : zcv yX10_howMany 10 cX10_howMany 2 (some .int) 1 := ⟨⟨by decide, by decide +kernel⟩, ⟨List.mem_of_getElem? (i := 1166) (by decide +kernel), by decide +kernel⟩, ⟨List.mem_of_getElem? (i := 66) (by decide +kernel), by decide +kernel⟩, ⟨List.mem_of_getElem? (i := 1165) (by decide +kernel), by decide +kernel⟩, ⟨List.mem_of_getElem? (i := 49) (by decide +kernel), by decide +kernel⟩, ⟨by decide +kernel, by decide +kernel, by decide +kernel⟩⟩
set_option maxRecDepth 100000 in
theorem yw_X10_image : zcv yX10_image 10 cX10_image 2 (some .int) 0 := ⟨⟨by decide, by decide +kernel⟩, ⟨List.mem_of_getElem? (i := 1154) (by decide +kernel), by decide +kernel⟩, ⟨List.mem_of_getElem? (i := 66) (by decide +kernel), by decide +kernel⟩, ⟨List.mem_of_getElem? (i := 1152) (by decide +kernel), by decide +kernel⟩, ⟨List.mem_of_getElem? (i := 1153) (by decide +kernel), by decide +kernel⟩, ⟨by decide +kernel, by decide +kernel, by decide +kernel⟩⟩
set_option maxRecDepth 100000 in
theorem yw_X10_isFigure : zcv yX10_isFigure 10 cX10_isFigure 2 (some .boolean) 1 := ⟨⟨by decide, by decide +kernel⟩, ⟨List.mem_of_getElem? (i := 936) (by decide +kernel), by decide +kernel⟩, ⟨List.mem_of_getElem? (i := 66) (by decide +kernel), by decide +kernel⟩, ⟨List.mem_of_getElem? (i := 935) (by decide +kernel), by decide +kernel⟩, ⟨List.mem_of_getElem? (i := 19) (by decide +kernel), by decide +kernel⟩, ⟨by decide +kernel, by decide +kernel, by decide +kernel⟩⟩
set_option maxRecDepth 100000 in
theorem yw_X10_isHouse : zcv yX10_isHouse 10 cX10_isHouse 2 (some .boolean) 1 := ⟨⟨by decide, by decide +kernel⟩, ⟨List.mem_of_getElem? (i := 948) (by decide +kernel), by decide +kernel⟩, ⟨List.mem_of_getElem? (i := 66) (by decide +kernel), by decide +kernel⟩, ⟨List.mem_of_getElem? (i := 947) (by decide +kernel), by decide +kernel⟩, ⟨List.mem_of_getElem? (i := 20) (by decide +kernel), by decide +kernel⟩, ⟨by decide +kernel, by decide +kernel, by decide +kernel⟩⟩
set_option maxRecDepth 100000 in
theorem ys_X10_isIn : zcs yX10_isIn cX10_isIn 2 (some .boolean) 2 := ⟨⟨List.mem_of_getElem? (i := 955) (by decide +kernel), by decide +kernel⟩, ⟨List.mem_of_getElem? (i := 66) (by decide +kernel), by decide +kernel⟩, ⟨List.mem_of_getElem? (i := 954) (by decide +kernel), by decide +kernel⟩, ⟨by decide +kernel, by decide +kernel, by decide +kernel⟩⟩
set_option maxRecDepth 100000 in
theorem ys_X10_isRain : zcs yX10_isRain cX10_isRain 1 (some .boolean) 1 := ⟨⟨List.mem_of_getElem? (i := 993) (by decide +kernel), by decide +kernel⟩, ⟨List.mem_of_getElem? (i := 66) (by decide +kernel), by decide +kernel⟩, ⟨List.mem_of_getElem? (i := 992) (by decide +kernel), by decide +kernel⟩, ⟨by decide +kernel, by decide +kernel, by decide +kernel⟩⟩
set_option maxRecDepth 100000 in
theorem ys_X10_kindBy : zcs yX10_kindBy cX10_kindBy 1 (some .int) 1 := ⟨⟨List.mem_of_getElem? (i := 932) (by decide +kernel), by decide +kernel⟩, ⟨List.mem_of_getElem? (i := 66) (by decide +kernel), by decide +kernel⟩, ⟨List.mem_of_getElem? (i := 931) (by decide +kernel), by decide +kernel⟩, ⟨by decide +kernel, by decide +kernel, by decide +kernel⟩⟩
set_option maxRecDepth 100000 in
theorem yw_X10_lane : zcv yX10_lane 10 cX10_lane 2 (some .int) 0 := ⟨⟨by decide, by decide +kernel⟩, ⟨List.mem_of_getElem? (i := 940) (by decide +kernel), by decide +kernel⟩, ⟨List.mem_of_getElem? (i := 66) (by decide +kernel), by decide +kernel⟩, ⟨List.mem_of_getElem? (i := 938) (by decide +kernel), by decide +kernel⟩, ⟨List.mem_of_getElem? (i := 939) (by decide +kernel), by decide +kernel⟩, ⟨by decide +kernel, by decide +kernel, by decide +kernel⟩⟩
set_option maxRecDepth 100000 in
theorem yw_X10_layPlan : zcv yX10_layPlan 10 cX10_layPlan 8 (none) 2 := ⟨⟨by decide, by decide +kernel⟩, ⟨List.mem_of_getElem? (i := 1072) (by decide +kernel), by decide +kernel⟩, ⟨List.mem_of_getElem? (i := 66) (by decide +kernel), by decide +kernel⟩, ⟨List.mem_of_getElem? (i := 1071) (by decide +kernel), by decide +kernel⟩, ⟨List.mem_of_getElem? (i := 37) (by decide +kernel), by decide +kernel⟩, ⟨by decide +kernel, by decide +kernel, by decide +kernel⟩⟩
set_option maxRecDepth 100000 in
theorem yw_X10_layTwos : zcv yX10_layTwos 10 cX10_layTwos 5 (some .int) 0 := ⟨⟨by decide, by decide +kernel⟩, ⟨List.mem_of_getElem? (i := 1088) (by decide +kernel), by decide +kernel⟩, ⟨List.mem_of_getElem? (i := 66) (by decide +kernel), by decide +kernel⟩, ⟨List.mem_of_getElem? (i := 1087) (by decide +kernel), by decide +kernel⟩, ⟨List.mem_of_getElem? (i := 40) (by decide +kernel), by decide +kernel⟩, ⟨by decide +kernel, by decide +kernel, by decide +kernel⟩⟩
set_option maxRecDepth 100000 in
theorem yw_X10_leastOf : zcv yX10_leastOf 10 cX10_leastOf 7 (some .int) 1 := ⟨⟨by decide, by decide +kernel⟩, ⟨List.mem_of_getElem? (i := 1092) (by decide +kernel), by decide +kernel⟩, ⟨List.mem_of_getElem? (i := 66) (by decide +kernel), by decide +kernel⟩, ⟨List.mem_of_getElem? (i := 1091) (by decide +kernel), by decide +kernel⟩, ⟨List.mem_of_getElem? (i := 41) (by decide +kernel), by decide +kernel⟩, ⟨by decide +kernel, by decide +kernel, by decide +kernel⟩⟩
set_option maxRecDepth 100000 in
theorem yw_X10_letter : zcv yX10_letter 10 cX10_letter 2 (some .int) 1 := ⟨⟨by decide, by decide +kernel⟩, ⟨List.mem_of_getElem? (i := 910) (by decide +kernel), by decide +kernel⟩, ⟨List.mem_of_getElem? (i := 66) (by decide +kernel), by decide +kernel⟩, ⟨List.mem_of_getElem? (i := 908) (by decide +kernel), by decide +kernel⟩, ⟨List.mem_of_getElem? (i := 909) (by decide +kernel), by decide +kernel⟩, ⟨by decide +kernel, by decide +kernel, by decide +kernel⟩⟩
set_option maxRecDepth 100000 in
theorem yw_X10_load : zcv yX10_load 10 cX10_load 2 (none) 0 := ⟨⟨by decide, by decide +kernel⟩, ⟨List.mem_of_getElem? (i := 1064) (by decide +kernel), by decide +kernel⟩, ⟨List.mem_of_getElem? (i := 66) (by decide +kernel), by decide +kernel⟩, ⟨List.mem_of_getElem? (i := 1063) (by decide +kernel), by decide +kernel⟩, ⟨List.mem_of_getElem? (i := 36) (by decide +kernel), by decide +kernel⟩, ⟨by decide +kernel, by decide +kernel, by decide +kernel⟩⟩
set_option maxRecDepth 100000 in
theorem yw_X10_lookFor : zcv yX10_lookFor 10 cX10_lookFor 7 (some .int) 1 := ⟨⟨by decide, by decide +kernel⟩, ⟨List.mem_of_getElem? (i := 977) (by decide +kernel), by decide +kernel⟩, ⟨List.mem_of_getElem? (i := 66) (by decide +kernel), by decide +kernel⟩, ⟨List.mem_of_getElem? (i := 976) (by decide +kernel), by decide +kernel⟩, ⟨List.mem_of_getElem? (i := 25) (by decide +kernel), by decide +kernel⟩, ⟨by decide +kernel, by decide +kernel, by decide +kernel⟩⟩
set_option maxRecDepth 100000 in
theorem ys_X10_lowest : zcs yX10_lowest cX10_lowest 2 (some .int) 1 := ⟨⟨List.mem_of_getElem? (i := 1095) (by decide +kernel), by decide +kernel⟩, ⟨List.mem_of_getElem? (i := 66) (by decide +kernel), by decide +kernel⟩, ⟨List.mem_of_getElem? (i := 1094) (by decide +kernel), by decide +kernel⟩, ⟨by decide +kernel, by decide +kernel, by decide +kernel⟩⟩
set_option maxRecDepth 100000 in
theorem yw_X10_mayComb : zcv yX10_mayComb 10 cX10_mayComb 2 (some .boolean) 1 := ⟨⟨by decide, by decide +kernel⟩, ⟨List.mem_of_getElem? (i := 1040) (by decide +kernel), by decide +kernel⟩, ⟨List.mem_of_getElem? (i := 66) (by decide +kernel), by decide +kernel⟩, ⟨List.mem_of_getElem? (i := 1039) (by decide +kernel), by decide +kernel⟩, ⟨List.mem_of_getElem? (i := 32) (by decide +kernel), by decide +kernel⟩, ⟨by decide +kernel, by decide +kernel, by decide +kernel⟩⟩
set_option maxRecDepth 100000 in
theorem yw_X10_mix : zcv yX10_mix 10 cX10_mix 3 (none) 1 := ⟨⟨by decide, by decide +kernel⟩, ⟨List.mem_of_getElem? (i := 1187) (by decide +kernel), by decide +kernel⟩, ⟨List.mem_of_getElem? (i := 66) (by decide +kernel), by decide +kernel⟩, ⟨List.mem_of_getElem? (i := 1186) (by decide +kernel), by decide +kernel⟩, ⟨List.mem_of_getElem? (i := 53) (by decide +kernel), by decide +kernel⟩, ⟨by decide +kernel, by decide +kernel, by decide +kernel⟩⟩
set_option maxRecDepth 100000 in
theorem yw_X10_mixHouse : zcv yX10_mixHouse 10 cX10_mixHouse 3 (none) 1 := ⟨⟨by decide, by decide +kernel⟩, ⟨List.mem_of_getElem? (i := 1183) (by decide +kernel), by decide +kernel⟩, ⟨List.mem_of_getElem? (i := 66) (by decide +kernel), by decide +kernel⟩, ⟨List.mem_of_getElem? (i := 1182) (by decide +kernel), by decide +kernel⟩, ⟨List.mem_of_getElem? (i := 52) (by decide +kernel), by decide +kernel⟩, ⟨by decide +kernel, by decide +kernel, by decide +kernel⟩⟩
set_option maxRecDepth 100000 in
theorem yw_X10_mixLane : zcv yX10_mixLane 10 cX10_mixLane 2 (none) 0 := ⟨⟨by decide, by decide +kernel⟩, ⟨List.mem_of_getElem? (i := 1192) (by decide +kernel), by decide +kernel⟩, ⟨List.mem_of_getElem? (i := 66) (by decide +kernel), by decide +kernel⟩, ⟨List.mem_of_getElem? (i := 1191) (by decide +kernel), by decide +kernel⟩, ⟨List.mem_of_getElem? (i := 54) (by decide +kernel), by decide +kernel⟩, ⟨by decide +kernel, by decide +kernel, by decide +kernel⟩⟩
set_option maxRecDepth 100000 in
theorem yw_X10_move : zcv yX10_move 10 cX10_move 5 (some .int) 3 := ⟨⟨by decide, by decide +kernel⟩, ⟨List.mem_of_getElem? (i := 1048) (by decide +kernel), by decide +kernel⟩, ⟨List.mem_of_getElem? (i := 66) (by decide +kernel), by decide +kernel⟩, ⟨List.mem_of_getElem? (i := 1046) (by decide +kernel), by decide +kernel⟩, ⟨List.mem_of_getElem? (i := 1047) (by decide +kernel), by decide +kernel⟩, ⟨by decide +kernel, by decide +kernel, by decide +kernel⟩⟩
set_option maxRecDepth 100000 in
theorem yw_X10_odds : zcv yX10_odds 10 cX10_odds 4 (some .int) 3 := ⟨⟨by decide, by decide +kernel⟩, ⟨List.mem_of_getElem? (i := 1119) (by decide +kernel), by decide +kernel⟩, ⟨List.mem_of_getElem? (i := 66) (by decide +kernel), by decide +kernel⟩, ⟨List.mem_of_getElem? (i := 1117) (by decide +kernel), by decide +kernel⟩, ⟨List.mem_of_getElem? (i := 1118) (by decide +kernel), by decide +kernel⟩, ⟨by decide +kernel, by decide +kernel, by decide +kernel⟩⟩
set_option maxRecDepth 100000 in
theorem yw_X10_oddsNow : zcv yX10_oddsNow 10 cX10_oddsNow 9 (some .int) 3 := ⟨⟨by decide, by decide +kernel⟩, ⟨List.mem_of_getElem? (i := 1123) (by decide +kernel), by decide +kernel⟩, ⟨List.mem_of_getElem? (i := 66) (by decide +kernel), by decide +kernel⟩, ⟨List.mem_of_getElem? (i := 1122) (by decide +kernel), by decide +kernel⟩, ⟨List.mem_of_getElem? (i := 46) (by decide +kernel), by decide +kernel⟩, ⟨by decide +kernel, by decide +kernel, by decide +kernel⟩⟩
set_option maxRecDepth 100000 in
theorem yw_X10_partnerIn : zcv yX10_partnerIn 10 cX10_partnerIn 5 (some .int) 1 := ⟨⟨by decide, by decide +kernel⟩, ⟨List.mem_of_getElem? (i := 1103) (by decide +kernel), by decide +kernel⟩, ⟨List.mem_of_getElem? (i := 66) (by decide +kernel), by decide +kernel⟩, ⟨List.mem_of_getElem? (i := 1102) (by decide +kernel), by decide +kernel⟩, ⟨List.mem_of_getElem? (i := 43) (by decide +kernel), by decide +kernel⟩, ⟨by decide +kernel, by decide +kernel, by decide +kernel⟩⟩
set_option maxRecDepth 100000 in
theorem yw_X10_patch : zcv yX10_patch 10 cX10_patch 4 (some .int) 3 := ⟨⟨by decide, by decide +kernel⟩, ⟨List.mem_of_getElem? (i := 1107) (by decide +kernel), by decide +kernel⟩, ⟨List.mem_of_getElem? (i := 66) (by decide +kernel), by decide +kernel⟩, ⟨List.mem_of_getElem? (i := 1105) (by decide +kernel), by decide +kernel⟩, ⟨List.mem_of_getElem? (i := 1106) (by decide +kernel), by decide +kernel⟩, ⟨by decide +kernel, by decide +kernel, by decide +kernel⟩⟩
set_option maxRecDepth 100000 in
theorem yw_X10_patchHouse : zcv yX10_patchHouse 10 cX10_patchHouse 9 (none) 2 := ⟨⟨by decide, by decide +kernel⟩, ⟨List.mem_of_getElem? (i := 1115) (by decide +kernel), by decide +kernel⟩, ⟨List.mem_of_getElem? (i := 66) (by decide +kernel), by decide +kernel⟩, ⟨List.mem_of_getElem? (i := 1114) (by decide +kernel), by decide +kernel⟩, ⟨List.mem_of_getElem? (i := 45) (by decide +kernel), by decide +kernel⟩, ⟨by decide +kernel, by decide +kernel, by decide +kernel⟩⟩
set_option maxRecDepth 100000 in
theorem yw_X10_patchNow : zcv yX10_patchNow 10 cX10_patchNow 8 (some .int) 3 := ⟨⟨by decide, by decide +kernel⟩, ⟨List.mem_of_getElem? (i := 1111) (by decide +kernel), by decide +kernel⟩, ⟨List.mem_of_getElem? (i := 66) (by decide +kernel), by decide +kernel⟩, ⟨List.mem_of_getElem? (i := 1110) (by decide +kernel), by decide +kernel⟩, ⟨List.mem_of_getElem? (i := 44) (by decide +kernel), by decide +kernel⟩, ⟨by decide +kernel, by decide +kernel, by decide +kernel⟩⟩
set_option maxRecDepth 100000 in
theorem yw_X10_plan : zcv yX10_plan 10 cX10_plan 4 (some .int) 3 := ⟨⟨by decide, by decide +kernel⟩, ⟨List.mem_of_getElem? (i := 1068) (by decide +kernel), by decide +kernel⟩, ⟨List.mem_of_getElem? (i := 66) (by decide +kernel), by decide +kernel⟩, ⟨List.mem_of_getElem? (i := 1066) (by decide +kernel), by decide +kernel⟩, ⟨List.mem_of_getElem? (i := 1067) (by decide +kernel), by decide +kernel⟩, ⟨by decide +kernel, by decide +kernel, by decide +kernel⟩⟩
set_option maxRecDepth 100000 in
theorem yw_X10_planNow : zcv yX10_planNow 10 cX10_planNow 5 (some .int) 2 := ⟨⟨by decide, by decide +kernel⟩, ⟨List.mem_of_getElem? (i := 1080) (by decide +kernel), by decide +kernel⟩, ⟨List.mem_of_getElem? (i := 66) (by decide +kernel), by decide +kernel⟩, ⟨List.mem_of_getElem? (i := 1079) (by decide +kernel), by decide +kernel⟩, ⟨List.mem_of_getElem? (i := 39) (by decide +kernel), by decide +kernel⟩, ⟨by decide +kernel, by decide +kernel, by decide +kernel⟩⟩
set_option maxRecDepth 100000 in
theorem yw_X10_rain : zcv yX10_rain 10 cX10_rain 3 (some .int) 1 := ⟨⟨by decide, by decide +kernel⟩, ⟨List.mem_of_getElem? (i := 1017) (by decide +kernel), by decide +kernel⟩, ⟨List.mem_of_getElem? (i := 66) (by decide +kernel), by decide +kernel⟩, ⟨List.mem_of_getElem? (i := 1015) (by decide +kernel), by decide +kernel⟩, ⟨List.mem_of_getElem? (i := 1016) (by decide +kernel), by decide +kernel⟩, ⟨by decide +kernel, by decide +kernel, by decide +kernel⟩⟩
set_option maxRecDepth 100000 in
theorem yw_X10_reaches : zcv yX10_reaches 10 cX10_reaches 3 (some .int) 2 := ⟨⟨by decide, by decide +kernel⟩, ⟨List.mem_of_getElem? (i := 990) (by decide +kernel), by decide +kernel⟩, ⟨List.mem_of_getElem? (i := 66) (by decide +kernel), by decide +kernel⟩, ⟨List.mem_of_getElem? (i := 988) (by decide +kernel), by decide +kernel⟩, ⟨List.mem_of_getElem? (i := 989) (by decide +kernel), by decide +kernel⟩, ⟨by decide +kernel, by decide +kernel, by decide +kernel⟩⟩
set_option maxRecDepth 100000 in
theorem yw_X10_reachesTo : zcv yX10_reachesTo 10 cX10_reachesTo 5 (some .int) 2 := ⟨⟨by decide, by decide +kernel⟩, ⟨List.mem_of_getElem? (i := 997) (by decide +kernel), by decide +kernel⟩, ⟨List.mem_of_getElem? (i := 66) (by decide +kernel), by decide +kernel⟩, ⟨List.mem_of_getElem? (i := 996) (by decide +kernel), by decide +kernel⟩, ⟨List.mem_of_getElem? (i := 27) (by decide +kernel), by decide +kernel⟩, ⟨by decide +kernel, by decide +kernel, by decide +kernel⟩⟩
set_option maxRecDepth 100000 in
theorem yw_X10_read : zcv yX10_read 10 cX10_read 2 (some .int) 0 := ⟨⟨by decide, by decide +kernel⟩, ⟨List.mem_of_getElem? (i := 925) (by decide +kernel), by decide +kernel⟩, ⟨List.mem_of_getElem? (i := 66) (by decide +kernel), by decide +kernel⟩, ⟨List.mem_of_getElem? (i := 924) (by decide +kernel), by decide +kernel⟩, ⟨List.mem_of_getElem? (i := 17) (by decide +kernel), by decide +kernel⟩, ⟨by decide +kernel, by decide +kernel, by decide +kernel⟩⟩
set_option maxRecDepth 100000 in
theorem yw_X10_reedAll : zcv yX10_reedAll 10 cX10_reedAll 3 (some .int) 0 := ⟨⟨by decide, by decide +kernel⟩, ⟨List.mem_of_getElem? (i := 1076) (by decide +kernel), by decide +kernel⟩, ⟨List.mem_of_getElem? (i := 66) (by decide +kernel), by decide +kernel⟩, ⟨List.mem_of_getElem? (i := 1075) (by decide +kernel), by decide +kernel⟩, ⟨List.mem_of_getElem? (i := 38) (by decide +kernel), by decide +kernel⟩, ⟨by decide +kernel, by decide +kernel, by decide +kernel⟩⟩
set_option maxRecDepth 100000 in
theorem yw_X10_reedBehind : zcv yX10_reedBehind 10 cX10_reedBehind 6 (some .int) 3 := ⟨⟨by decide, by decide +kernel⟩, ⟨List.mem_of_getElem? (i := 973) (by decide +kernel), by decide +kernel⟩, ⟨List.mem_of_getElem? (i := 66) (by decide +kernel), by decide +kernel⟩, ⟨List.mem_of_getElem? (i := 972) (by decide +kernel), by decide +kernel⟩, ⟨List.mem_of_getElem? (i := 24) (by decide +kernel), by decide +kernel⟩, ⟨by decide +kernel, by decide +kernel, by decide +kernel⟩⟩
set_option maxRecDepth 100000 in
theorem yw_X10_restore : zcv yX10_restore 10 cX10_restore 2 (some .int) 0 := ⟨⟨by decide, by decide +kernel⟩, ⟨List.mem_of_getElem? (i := 1158) (by decide +kernel), by decide +kernel⟩, ⟨List.mem_of_getElem? (i := 66) (by decide +kernel), by decide +kernel⟩, ⟨List.mem_of_getElem? (i := 1156) (by decide +kernel), by decide +kernel⟩, ⟨List.mem_of_getElem? (i := 1157) (by decide +kernel), by decide +kernel⟩, ⟨by decide +kernel, by decide +kernel, by decide +kernel⟩⟩
set_option maxRecDepth 100000 in
theorem yw_X10_save : zcv yX10_save 10 cX10_save 2 (none) 0 := ⟨⟨by decide, by decide +kernel⟩, ⟨List.mem_of_getElem? (i := 1060) (by decide +kernel), by decide +kernel⟩, ⟨List.mem_of_getElem? (i := 66) (by decide +kernel), by decide +kernel⟩, ⟨List.mem_of_getElem? (i := 1059) (by decide +kernel), by decide +kernel⟩, ⟨List.mem_of_getElem? (i := 35) (by decide +kernel), by decide +kernel⟩, ⟨by decide +kernel, by decide +kernel, by decide +kernel⟩⟩
set_option maxRecDepth 100000 in
theorem yw_X10_see : zcv yX10_see 10 cX10_see 4 (some .int) 3 := ⟨⟨by decide, by decide +kernel⟩, ⟨List.mem_of_getElem? (i := 1130) (by decide +kernel), by decide +kernel⟩, ⟨List.mem_of_getElem? (i := 66) (by decide +kernel), by decide +kernel⟩, ⟨List.mem_of_getElem? (i := 1128) (by decide +kernel), by decide +kernel⟩, ⟨List.mem_of_getElem? (i := 1129) (by decide +kernel), by decide +kernel⟩, ⟨by decide +kernel, by decide +kernel, by decide +kernel⟩⟩
set_option maxRecDepth 100000 in
theorem ys_X10_size : zcs yX10_size cX10_size 3 (some .int) 1 := ⟨⟨List.mem_of_getElem? (i := 1024) (by decide +kernel), by decide +kernel⟩, ⟨List.mem_of_getElem? (i := 66) (by decide +kernel), by decide +kernel⟩, ⟨List.mem_of_getElem? (i := 1023) (by decide +kernel), by decide +kernel⟩, ⟨by decide +kernel, by decide +kernel, by decide +kernel⟩⟩
set_option maxRecDepth 100000 in
theorem yw_X10_thick : zcv yX10_thick 10 cX10_thick 3 (some .int) 0 := ⟨⟨by decide, by decide +kernel⟩, ⟨List.mem_of_getElem? (i := 1174) (by decide +kernel), by decide +kernel⟩, ⟨List.mem_of_getElem? (i := 66) (by decide +kernel), by decide +kernel⟩, ⟨List.mem_of_getElem? (i := 1173) (by decide +kernel), by decide +kernel⟩, ⟨List.mem_of_getElem? (i := 51) (by decide +kernel), by decide +kernel⟩, ⟨by decide +kernel, by decide +kernel, by decide +kernel⟩⟩
set_option maxRecDepth 100000 in
theorem yw_X10_twos : zcv yX10_twos 10 cX10_twos 3 (some .int) 1 := ⟨⟨by decide, by decide +kernel⟩, ⟨List.mem_of_getElem? (i := 1084) (by decide +kernel), by decide +kernel⟩, ⟨List.mem_of_getElem? (i := 66) (by decide +kernel), by decide +kernel⟩, ⟨List.mem_of_getElem? (i := 1082) (by decide +kernel), by decide +kernel⟩, ⟨List.mem_of_getElem? (i := 1083) (by decide +kernel), by decide +kernel⟩, ⟨by decide +kernel, by decide +kernel, by decide +kernel⟩⟩
set_option maxRecDepth 100000 in
theorem yw_X10_wet : zcv yX10_wet 10 cX10_wet 2 (some .int) 1 := ⟨⟨by decide, by decide +kernel⟩, ⟨List.mem_of_getElem? (i := 1001) (by decide +kernel), by decide +kernel⟩, ⟨List.mem_of_getElem? (i := 66) (by decide +kernel), by decide +kernel⟩, ⟨List.mem_of_getElem? (i := 999) (by decide +kernel), by decide +kernel⟩, ⟨List.mem_of_getElem? (i := 1000) (by decide +kernel), by decide +kernel⟩, ⟨by decide +kernel, by decide +kernel, by decide +kernel⟩⟩
set_option maxRecDepth 100000 in
theorem yw_X10_wetBy : zcv yX10_wetBy 10 cX10_wetBy 4 (some .int) 1 := ⟨⟨by decide, by decide +kernel⟩, ⟨List.mem_of_getElem? (i := 1005) (by decide +kernel), by decide +kernel⟩, ⟨List.mem_of_getElem? (i := 66) (by decide +kernel), by decide +kernel⟩, ⟨List.mem_of_getElem? (i := 1004) (by decide +kernel), by decide +kernel⟩, ⟨List.mem_of_getElem? (i := 28) (by decide +kernel), by decide +kernel⟩, ⟨by decide +kernel, by decide +kernel, by decide +kernel⟩⟩
set_option maxRecDepth 100000 in
theorem ys_X10_within : zcs yX10_within cX10_within 3 (some .boolean) 3 := ⟨⟨List.mem_of_getElem? (i := 913) (by decide +kernel), by decide +kernel⟩, ⟨List.mem_of_getElem? (i := 66) (by decide +kernel), by decide +kernel⟩, ⟨List.mem_of_getElem? (i := 912) (by decide +kernel), by decide +kernel⟩, ⟨by decide +kernel, by decide +kernel, by decide +kernel⟩⟩
set_option maxRecDepth 100000 in
theorem yw_X10_worriesOf : zcv yX10_worriesOf 10 cX10_worriesOf 6 (some .int) 1 := ⟨⟨by decide, by decide +kernel⟩, ⟨List.mem_of_getElem? (i := 969) (by decide +kernel), by decide +kernel⟩, ⟨List.mem_of_getElem? (i := 66) (by decide +kernel), by decide +kernel⟩, ⟨List.mem_of_getElem? (i := 968) (by decide +kernel), by decide +kernel⟩, ⟨List.mem_of_getElem? (i := 23) (by decide +kernel), by decide +kernel⟩, ⟨by decide +kernel, by decide +kernel, by decide +kernel⟩⟩
set_option maxRecDepth 100000 in
theorem yw_X10_worryAll : zcv yX10_worryAll 10 cX10_worryAll 3 (some .int) 0 := ⟨⟨by decide, by decide +kernel⟩, ⟨List.mem_of_getElem? (i := 1170) (by decide +kernel), by decide +kernel⟩, ⟨List.mem_of_getElem? (i := 66) (by decide +kernel), by decide +kernel⟩, ⟨List.mem_of_getElem? (i := 1169) (by decide +kernel), by decide +kernel⟩, ⟨List.mem_of_getElem? (i := 50) (by decide +kernel), by decide +kernel⟩, ⟨by decide +kernel, by decide +kernel, by decide +kernel⟩⟩
set_option maxRecDepth 100000 in
theorem yw_X10_worstBy : zcv yX10_worstBy 10 cX10_worstBy 7 (some .int) 3 := ⟨⟨by decide, by decide +kernel⟩, ⟨List.mem_of_getElem? (i := 982) (by decide +kernel), by decide +kernel⟩, ⟨List.mem_of_getElem? (i := 66) (by decide +kernel), by decide +kernel⟩, ⟨List.mem_of_getElem? (i := 981) (by decide +kernel), by decide +kernel⟩, ⟨List.mem_of_getElem? (i := 26) (by decide +kernel), by decide +kernel⟩, ⟨by decide +kernel, by decide +kernel, by decide +kernel⟩⟩
set_option maxRecDepth 100000 in
theorem yw_X10_year : zcv yX10_year 10 cX10_year 1 (some .int) 0 := ⟨⟨by decide, by decide +kernel⟩, ⟨List.mem_of_getElem? (i := 1009) (by decide +kernel), by decide +kernel⟩, ⟨List.mem_of_getElem? (i := 66) (by decide +kernel), by decide +kernel⟩, ⟨List.mem_of_getElem? (i := 1007) (by decide +kernel), by decide +kernel⟩, ⟨List.mem_of_getElem? (i := 1008) (by decide +kernel), by decide +kernel⟩, ⟨by decide +kernel, by decide +kernel, by decide +kernel⟩⟩
set_option maxRecDepth 100000 in
theorem ys_J6_bitCount_0f7a4 : zcs yJ6_bitCount_0f7a4 cJ6_bitCount_0f7a4 1 (some .int) 1 := ⟨⟨List.mem_of_getElem? (i := 604) (by decide +kernel), by decide +kernel⟩, ⟨List.mem_of_getElem? (i := 72) (by decide +kernel), by decide +kernel⟩, ⟨List.mem_of_getElem? (i := 603) (by decide +kernel), by decide +kernel⟩, ⟨by decide +kernel, by decide +kernel, by decide +kernel⟩⟩
set_option maxRecDepth 100000 in
theorem jw_max : zin (.static Lib.Math.max.name) ∧ zin (.initialized "java/lang/Math") ∧ zin (.code Lib.Math.max.name Lib.Math.max.code 2 (some .int)) := by decide +kernel
set_option maxRecDepth 100000 in
theorem jw_min : zin (.static Lib.Math.min.name) ∧ zin (.initialized "java/lang/Math") ∧ zin (.code Lib.Math.min.name Lib.Math.min.code 2 (some .int)) := by decide +kernel
set_option maxRecDepth 100000 in
theorem jw_abs : zin (.static Lib.Math.abs.name) ∧ zin (.initialized "java/lang/Math") ∧ zin (.code Lib.Math.abs.name Lib.Math.abs.code 1 (some .int)) := by decide +kernel
set_option maxRecDepth 100000 in
theorem cw_X9_254 : zin (.constantLong RX9 254 (1259)) := by decide +kernel
set_option maxRecDepth 100000 in
theorem cw_X9_294 : zin (.constantLong RX9 294 (31)) := by decide +kernel
set_option maxRecDepth 100000 in
theorem cw_X0_13 : zin (.constantLong RX0 13 (1103515245)) := by decide +kernel
set_option maxRecDepth 100000 in
theorem cw_X0_15 : zin (.constantLong RX0 15 (12345)) := by decide +kernel
set_option maxRecDepth 100000 in
theorem cw_X0_17 : zin (.constantLong RX0 17 (2147483648)) := by decide +kernel
set_option maxRecDepth 100000 in
theorem cw_X0_19 : zin (.constantLong RX0 19 (65536)) := by decide +kernel
set_option maxRecDepth 100000 in
theorem cw_X10_189 : zin (.constant RX10 189 (268435456)) := by decide +kernel
set_option maxRecDepth 100000 in
theorem cw_X10_243 : zin (.constantLong RX10 243 (1103515245)) := by decide +kernel
set_option maxRecDepth 100000 in
theorem cw_X10_249 : zin (.constantLong RX10 249 (12345)) := by decide +kernel
set_option maxRecDepth 100000 in
theorem cw_X10_251 : zin (.constantLong RX10 251 (2147483647)) := by decide +kernel
set_option maxRecDepth 100000 in
theorem cw_X10_253 : zin (.constantLong RX10 253 (65536)) := by decide +kernel
set_option maxRecDepth 100000 in
theorem cw_X10_288 : zin (.constantLong RX10 288 (31)) := by decide +kernel
set_option maxRecDepth 100000 in
theorem cw_X10_297 : zin (.constantLong RX10 297 (1259)) := by decide +kernel
end
section
set_option maxHeartbeats 4000000 in
set_option maxRecDepth 100000 in
theorem c_X6_at (l : Launch) (G : zGt) (σ : zMem) (r n i : Nat) (p : Int) (hr : zRow r n) (hp : p = i) (hi : i < n) : zN l G yX6_at cX6_at 2 (some .int) 0 [.ref (zB G + r), .int (zI p)] σ (zPi (fun x τ => x = σ (r + 1) i ∧ σ = τ)) := by
  obtain ⟨k0, k1, k2, k3⟩ := hr
  refine zM.of (lv0 := [(0, _), (1, _)]) (by decide) (Nat.le_of_ble_eq_true rfl) rfl (fun X C => ?_)
  have hl := zl_le (r + 1)
  refine z_iload_n (pc := 0) C dX6_at_0 rfl 1 rfl ?_
  refine z_if_lt (pc := 1) (tgt := 22) C dX6_at_1 (by decide) (by omega) (fun c1 => by exfalso; omega) (fun c1 => ?_)
  refine z_iload_n (pc := 4) C dX6_at_4 rfl 1 rfl ?_
  refine z_aload_n (pc := 5) C dX6_at_5 rfl 0 rfl ?_
  refine z_getR (pc := 6) C (r + 1) fl_X6_7 dX6_at_6 (by first | rfl | assumption) (by omega) rfl (Or.inl rfl) ?_
  refine z_alen (pc := 9) (n := (n : Int)) C dX6_at_9 (by first | exact Or.inl rfl | exact Or.inl (by assumption) | exact Or.inr rfl) (by omega) (by omega) ?_
  refine z_icmp_ge (pc := 10) (tgt := 22) C dX6_at_10 (by decide) ⟨by omega, by omega⟩ (fun c10 => by exfalso; omega) (fun c10 => ?_)
  refine z_aload_n (pc := 13) C dX6_at_13 rfl 0 rfl ?_
  refine z_getR (pc := 14) C (r + 1) fl_X6_7 dX6_at_14 (by first | rfl | assumption) (by omega) rfl (Or.inl rfl) ?_
  refine z_iload_n (pc := 17) C dX6_at_17 rfl 1 rfl ?_
  refine z_iaload (pc := 18) C (i) dX6_at_18 (by first | rfl | assumption) (by omega) hp (by omega) (fun g18 => ?_)
  refine z_goto (pc := 19) (tgt := 23) C dX6_at_19 (by decide) ?_
  refine z_iret (pc := 23) C dX6_at_23 ?_
  exact ⟨_, rfl, g18, rfl, rfl⟩
set_option maxHeartbeats 4000000 in
set_option maxRecDepth 100000 in
theorem c_X6_put (l : Launch) (G : zGt) (σ : zMem) (r n i : Nat) (p x : Int) (hr : zRow r n) (hp : p = i) (hi : i < n) (hx : zR x) : zN l G yX6_put cX6_put 3 (none) 0 [.ref (zB G + r), .int (zI p), .int (zI x)] σ (zPv (fun τ => τ = zU σ (r + 1) i x)) := by
  obtain ⟨k0, k1, k2, k3⟩ := hr
  refine zM.of (lv0 := [(0, _), (1, _), (2, _)]) (by decide) (Nat.le_of_ble_eq_true rfl) rfl (fun X C => ?_)
  have hl := zl_le (r + 1)
  refine z_iload_n (pc := 0) C dX6_put_0 rfl 1 rfl ?_
  refine z_if_lt (pc := 1) (tgt := 20) C dX6_put_1 (by decide) (by omega) (fun c1 => by exfalso; omega) (fun c1 => ?_)
  refine z_iload_n (pc := 4) C dX6_put_4 rfl 1 rfl ?_
  refine z_aload_n (pc := 5) C dX6_put_5 rfl 0 rfl ?_
  refine z_getR (pc := 6) C (r + 1) fl_X6_7 dX6_put_6 (by first | rfl | assumption) (by omega) rfl (Or.inl rfl) ?_
  refine z_alen (pc := 9) (n := (n : Int)) C dX6_put_9 (by first | exact Or.inl rfl | exact Or.inl (by assumption) | exact Or.inr rfl) (by omega) (by omega) ?_
  refine z_icmp_ge (pc := 10) (tgt := 20) C dX6_put_10 (by decide) ⟨by omega, by omega⟩ (fun c10 => by exfalso; omega) (fun c10 => ?_)
  refine z_aload_n (pc := 13) C dX6_put_13 rfl 0 rfl ?_
  refine z_getR (pc := 14) C (r + 1) fl_X6_7 dX6_put_14 (by first | rfl | assumption) (by omega) rfl (Or.inl rfl) ?_
  refine z_iload_n (pc := 17) C dX6_put_17 rfl 1 rfl ?_
  refine z_iload_n (pc := 18) C dX6_put_18 rfl 2 rfl ?_
  refine z_iastoree (pc := 19) C (i) dX6_put_19 (by first | rfl | assumption) (by omega) hp (by omega) (by omega) (fun m19 em19 => ?_)
  refine z_vret (pc := 20) C dX6_put_20 ?_
  exact ⟨rfl, em19⟩
set_option maxHeartbeats 4000000 in
set_option maxRecDepth 100000 in
theorem c_X6_fill (l : Launch) (G : zGt) (σ : zMem) (r n : Nat) (x : Int) (hr : zRow r n) (hx : zR x) : zN l G yX6_fill cX6_fill 3 (none) 0 [.ref (zB G + r), .int (zI x)] σ (zPv (fun τ => ∀ a k, τ a k = if a = r + 1 ∧ k < n then x else σ a k)) := by
  obtain ⟨k0, k1, k2, k3⟩ := hr
  refine zM.of (lv0 := [(0, _), (1, _)]) (by decide) (Nat.le_of_ble_eq_true rfl) rfl (fun X C => ?_)
  have hl := zl_le (r + 1)
  have L2 : ∀ (fuel : Nat) (i : Nat) (τ : zMem), n - i < fuel → (i ≤ n ∧ ∀ a k, τ a k = if a = r + 1 ∧ k < i then x else σ a k) → zg G X true 3 129 0 0 2 [(0, .ref (zB G + r)), (1, .int (zI x)), (2, .int (zI (i : Int)))] [] τ := by
    intro fuel
    induction fuel with
    | zero => intro i τ hm; exact absurd hm (Nat.not_lt_zero _)
    | succ fuel ih =>
      intro i τ hm hinv
      obtain ⟨h1, h2⟩ := hinv
      refine z_iload_n (pc := 2) C dX6_fill_2 rfl 2 rfl ?_
      refine z_aload_n (pc := 3) C dX6_fill_3 rfl 0 rfl ?_
      refine z_getR (pc := 4) C (r + 1) fl_X6_7 dX6_fill_4 (by first | rfl | assumption) (by omega) rfl (Or.inl rfl) ?_
      refine z_alen (pc := 7) (n := (n : Int)) C dX6_fill_7 (by first | exact Or.inl rfl | exact Or.inl (by assumption) | exact Or.inr rfl) (by omega) (by omega) ?_
      refine z_icmp_ge (pc := 8) (tgt := 24) C dX6_fill_8 (by decide) ⟨by omega, by omega⟩ (fun c8 => ?_) (fun c8 => ?_)
      · refine z_vret (pc := 24) C dX6_fill_24 ?_
        exact ⟨rfl, fun a k => by rw [h2 a k, show i = n by omega]⟩
      · refine z_aload_n (pc := 11) C dX6_fill_11 rfl 0 rfl ?_
        refine z_getR (pc := 12) C (r + 1) fl_X6_7 dX6_fill_12 (by first | rfl | assumption) (by omega) rfl (Or.inl rfl) ?_
        refine z_iload_n (pc := 15) C dX6_fill_15 rfl 2 rfl ?_
        refine z_iload_n (pc := 16) C dX6_fill_16 rfl 1 rfl ?_
        refine z_iastoree (pc := 17) C (_) dX6_fill_17 (by first | rfl | assumption) (by omega) rfl (by omega) (by omega) (fun m17 em17 => ?_)
        refine z_iinc (pc := 18) (lv' := [(2, _), (0, _), (1, _)]) C dX6_fill_18 2 rfl (by decide) rfl ?_
        refine z_goto (pc := 21) (tgt := 2) C dX6_fill_21 (by decide) ?_
        refine z_sub C [1, 2, 0] rfl ?_
        exact ih (i + 1) _ (by omega) ⟨by omega, fun a k => by rw [em17]; unfold zU; rw [h2 a k]; by_cases e1 : a = r + 1 <;> by_cases e2 : k = i <;> by_cases e3 : k < i <;> simp [e1, e2, e3] <;> omega⟩
  refine z_iconst (pc := 0) C dX6_fill_0 ?_
  refine z_istore_n (pc := 1) (lv' := [(2, _), (0, _), (1, _)]) C dX6_fill_1 rfl (by decide) rfl ?_
  refine z_sub C [1, 2, 0] rfl ?_
  exact L2 _ 0 σ (Nat.lt_succ_self _) ⟨by omega, fun a k => by simp⟩
set_option maxHeartbeats 4000000 in
set_option maxRecDepth 100000 in
theorem c_X6_take (l : Launch) (G : zGt) (σ : zMem) (r n r2 : Nat) (hr : zRow r n) (hr2 : zRow r2 n) (hne : r ≠ r2) : zN l G yX6_take cX6_take 3 (none) 0 [.ref (zB G + r), .ref (zB G + r2)] σ (zPv (fun τ => ∀ a k, τ a k = if a = r + 1 ∧ k < n then σ (r2 + 1) k else σ a k)) := by
  obtain ⟨k0, k1, k2, k3⟩ := hr
  obtain ⟨j0, j1, j2, j3⟩ := hr2
  refine zM.of (lv0 := [(0, _), (1, _)]) (by decide) (Nat.le_of_ble_eq_true rfl) rfl (fun X C => ?_)
  have hl := zl_le (r + 1)
  have L2 : ∀ (fuel : Nat) (i : Nat) (τ : zMem), n - i < fuel → (i ≤ n ∧ ∀ a k, τ a k = if a = r + 1 ∧ k < i then σ (r2 + 1) k else σ a k) → zg G X true 3 129 0 0 2 [(0, .ref (zB G + r)), (1, .ref (zB G + r2)), (2, .int (zI (i : Int)))] [] τ := by
    intro fuel
    induction fuel with
    | zero => intro i τ hm; exact absurd hm (Nat.not_lt_zero _)
    | succ fuel ih =>
      intro i τ hm hinv
      obtain ⟨h1, h2⟩ := hinv
      refine z_iload_n (pc := 2) C dX6_take_2 rfl 2 rfl ?_
      refine z_aload_n (pc := 3) C dX6_take_3 rfl 0 rfl ?_
      refine z_getR (pc := 4) C (r + 1) fl_X6_7 dX6_take_4 (by first | rfl | assumption) (by omega) rfl (Or.inl rfl) ?_
      refine z_alen (pc := 7) (n := (n : Int)) C dX6_take_7 (by first | exact Or.inl rfl | exact Or.inl (by assumption) | exact Or.inr rfl) (by omega) (by omega) ?_
      refine z_icmp_ge (pc := 8) (tgt := 38) C dX6_take_8 (by decide) ⟨by omega, by omega⟩ (fun c8 => ?_) (fun c8 => ?_)
      · refine z_vret (pc := 38) C dX6_take_38 ?_
        exact ⟨rfl, fun a k => by rw [h2 a k, show i = n by omega]⟩
      · refine z_iload_n (pc := 11) C dX6_take_11 rfl 2 rfl ?_
        refine z_aload_n (pc := 12) C dX6_take_12 rfl 1 rfl ?_
        refine z_getR (pc := 13) C (r2 + 1) fl_X6_7 dX6_take_13 (by first | rfl | assumption) (by omega) rfl (Or.inl rfl) ?_
        refine z_alen (pc := 16) (n := (n : Int)) C dX6_take_16 (by first | exact Or.inl rfl | exact Or.inl (by assumption) | exact Or.inr rfl) (by omega) (by omega) ?_
        refine z_icmp_ge (pc := 17) (tgt := 38) C dX6_take_17 (by decide) ⟨by omega, by omega⟩ (fun c17 => by exfalso; omega) (fun c17 => ?_)
        refine z_aload_n (pc := 20) C dX6_take_20 rfl 0 rfl ?_
        refine z_getR (pc := 21) C (r + 1) fl_X6_7 dX6_take_21 (by first | rfl | assumption) (by omega) rfl (Or.inl rfl) ?_
        refine z_iload_n (pc := 24) C dX6_take_24 rfl 2 rfl ?_
        refine z_aload_n (pc := 25) C dX6_take_25 rfl 1 rfl ?_
        refine z_getR (pc := 26) C (r2 + 1) fl_X6_7 dX6_take_26 (by first | rfl | assumption) (by omega) rfl (Or.inl rfl) ?_
        refine z_iload_n (pc := 29) C dX6_take_29 rfl 2 rfl ?_
        refine z_iaload (pc := 30) C (i) dX6_take_30 (by first | rfl | assumption) (by omega) rfl (by omega) (fun g30 => ?_)
        refine z_iastoree (pc := 31) C (i) dX6_take_31 (by first | rfl | assumption) (by omega) rfl (by omega) (by omega) (fun m31 em31 => ?_)
        refine z_iinc (pc := 32) (lv' := [(2, _), (0, _), (1, _)]) C dX6_take_32 2 rfl (by decide) rfl ?_
        refine z_goto (pc := 35) (tgt := 2) C dX6_take_35 (by decide) ?_
        refine z_sub C [1, 2, 0] rfl ?_
        exact ih (i + 1) _ (by omega) ⟨by omega, fun a k => by rw [em31]; unfold zU; rw [h2 a k, h2 (r2 + 1) i, if_neg (by omega : ¬ (r2 + 1 = r + 1 ∧ i < i))]; by_cases e1 : a = r + 1 <;> by_cases e2 : k = i <;> by_cases e3 : k < i <;> simp [e1, e2, e3] <;> omega⟩
  refine z_iconst (pc := 0) C dX6_take_0 ?_
  refine z_istore_n (pc := 1) (lv' := [(2, _), (0, _), (1, _)]) C dX6_take_1 rfl (by decide) rfl ?_
  refine z_sub C [1, 2, 0] rfl ?_
  exact L2 _ 0 σ (Nat.lt_succ_self _) ⟨by omega, fun a k => by simp⟩
set_option maxHeartbeats 4000000 in
set_option maxRecDepth 100000 in
theorem c_X6_sumOfFirst (l : Launch) (G : zGt) (σ : zMem) (r n m : Nat) (p : Int) (hr : zRow r n) (hp : p = m) (hm : m ≤ n) (hb : ∀ i, i < m → 0 ≤ σ (r + 1) i ∧ σ (r + 1) i ≤ 1000) : zN l G yX6_sumOfFirst cX6_sumOfFirst 4 (some .int) 0 [.ref (zB G + r), .int (zI p)] σ (zPi (fun x τ => x = zsum (σ (r + 1)) m ∧ σ = τ)) := by
  obtain ⟨k0, k1, k2, k3⟩ := hr
  refine zM.of (lv0 := [(0, _), (1, _)]) (by decide) (Nat.le_of_ble_eq_true rfl) rfl (fun X C => ?_)
  have hl := zl_le (r + 1)
  have L4 : ∀ (fuel : Nat) (i : Nat), m - i < fuel → (i ≤ m) → zg G X true 4 129 0 0 4 [(0, .ref (zB G + r)), (1, .int (zI p)), (2, .int (zI (zsum (σ (r + 1)) i))), (3, .int (zI (i : Int)))] [] σ := by
    intro fuel
    induction fuel with
    | zero => intro i hm; exact absurd hm (Nat.not_lt_zero _)
    | succ fuel ih =>
      intro i hm hinv
      obtain h1 := hinv
      refine z_iload_n (pc := 4) C dX6_sumOfFirst_4 rfl 3 rfl ?_
      refine z_iload_n (pc := 5) C dX6_sumOfFirst_5 rfl 1 rfl ?_
      refine z_icmp_ge (pc := 6) (tgt := 33) C dX6_sumOfFirst_6 (by decide) ⟨by omega, by omega⟩ (fun c6 => ?_) (fun c6 => ?_)
      · refine z_iload_n (pc := 33) C dX6_sumOfFirst_33 rfl 2 rfl ?_
        refine z_iret (pc := 34) C dX6_sumOfFirst_34 ?_
        obtain rfl : i = m := by omega
        have h3 := zsum_bd (f := σ (r + 1)) (c := 1000) (n := i) hb
        exact ⟨_, rfl, by omega, rfl, rfl⟩
      · refine z_iload_n (pc := 9) C dX6_sumOfFirst_9 rfl 3 rfl ?_
        refine z_aload_n (pc := 10) C dX6_sumOfFirst_10 rfl 0 rfl ?_
        refine z_getR (pc := 11) C (r + 1) fl_X6_7 dX6_sumOfFirst_11 (by first | rfl | assumption) (by omega) rfl (Or.inl rfl) ?_
        refine z_alen (pc := 14) (n := (n : Int)) C dX6_sumOfFirst_14 (by first | exact Or.inl rfl | exact Or.inl (by assumption) | exact Or.inr rfl) (by omega) (by omega) ?_
        refine z_icmp_ge (pc := 15) (tgt := 33) C dX6_sumOfFirst_15 (by decide) ⟨by omega, by omega⟩ (fun c15 => by exfalso; omega) (fun c15 => ?_)
        refine z_iload_n (pc := 18) C dX6_sumOfFirst_18 rfl 2 rfl ?_
        refine z_aload_n (pc := 19) C dX6_sumOfFirst_19 rfl 0 rfl ?_
        refine z_getR (pc := 20) C (r + 1) fl_X6_7 dX6_sumOfFirst_20 (by first | rfl | assumption) (by omega) rfl (Or.inl rfl) ?_
        refine z_iload_n (pc := 23) C dX6_sumOfFirst_23 rfl 3 rfl ?_
        refine z_iaload (pc := 24) C (_) dX6_sumOfFirst_24 (by first | rfl | assumption) (by omega) rfl (by omega) (fun g24 => ?_)
        refine z_iadd (pc := 25) C dX6_sumOfFirst_25 ?_
        refine z_istore_n (pc := 26) (lv' := [(2, _), (0, _), (1, _), (3, _)]) C dX6_sumOfFirst_26 rfl (by decide) rfl ?_
        refine z_iinc (pc := 27) (lv' := [(3, _), (2, _), (0, _), (1, _)]) C dX6_sumOfFirst_27 3 rfl (by decide) rfl ?_
        refine z_goto (pc := 30) (tgt := 4) C dX6_sumOfFirst_30 (by decide) ?_
        refine z_sub C [2, 3, 1, 0] rfl ?_
        exact ih (i + 1) (by omega) (by omega)
  refine z_iconst (pc := 0) C dX6_sumOfFirst_0 ?_
  refine z_istore_n (pc := 1) (lv' := [(2, _), (0, _), (1, _)]) C dX6_sumOfFirst_1 rfl (by decide) rfl ?_
  refine z_iconst (pc := 2) C dX6_sumOfFirst_2 ?_
  refine z_istore_n (pc := 3) (lv' := [(3, _), (2, _), (0, _), (1, _)]) C dX6_sumOfFirst_3 rfl (by decide) rfl ?_
  refine z_sub C [2, 3, 1, 0] rfl ?_
  exact L4 _ 0 (Nat.lt_succ_self _) (by omega)
end
section
/-! pure words on a lane: kinds K, reed R, worry V, combed E of the houses below n -/
def zgr (k r v e y : Int) : Int :=
  if r + (if k = 1 then 0 else if k = 4 then (if y % 2 = 0 then 0 else -1) else if k = 2 then 1 - v / 3 - 2 else if k = 3 then 1 - v / 3 + 1 else 1 - v / 3) + 3 * e < 0 then 0
  else if 20 < r + (if k = 1 then 0 else if k = 4 then (if y % 2 = 0 then 0 else -1) else if k = 2 then 1 - v / 3 - 2 else if k = 3 then 1 - v / 3 + 1 else 1 - v / 3) + 3 * e then 20
  else r + (if k = 1 then 0 else if k = 4 then (if y % 2 = 0 then 0 else -1) else if k = 2 then 1 - v / 3 - 2 else if k = 3 then 1 - v / 3 + 1 else 1 - v / 3) + 3 * e
theorem zgr_bd (k r v e y : Int) : 0 ≤ zgr k r v e y ∧ zgr k r v e y ≤ 20 := by
  unfold zgr
  generalize r + (if k = 1 then 0 else if k = 4 then (if y % 2 = 0 then 0 else -1) else if k = 2 then 1 - v / 3 - 2 else if k = 3 then 1 - v / 3 + 1 else 1 - v / 3) + 3 * e = x
  by_cases h1 : x < 0
  · simp [h1]
  · by_cases h2 : 20 < x
    · simp [h1, h2]
    · rw [if_neg h1, if_neg h2]; omega
/-- houses of ten reed or more -/
def zsh (R : Nat → Int) : Nat → Int
  | 0 => 0
  | h + 1 => zsh R h + (if 10 ≤ R h then 1 else 0)
theorem zsh_bd (R : Nat → Int) : ∀ n, 0 ≤ zsh R n ∧ zsh R n ≤ n := by
  intro n
  induction n with
  | zero => simp [zsh]
  | succ n ih => simp only [zsh]; split <;> omega
def zrb (rain s : Int) : Int := if rain - 2 * s < 0 then 0 else rain - 2 * s
theorem zrb_bd {rain s : Int} (h : 0 ≤ rain ∧ rain ≤ 1000) (h2 : 0 ≤ s ∧ s ≤ 1000) : 0 ≤ zrb rain s ∧ zrb rain s ≤ rain := by unfold zrb; split <;> omega
/-- 1 where a house is wet by so much rain -/
def zwp (R : Nat → Int) (rain : Int) (h : Nat) : Int := if R h < zrb rain (zsh R h) then 1 else 0
theorem zwp_bd (R : Nat → Int) (rain : Int) (h : Nat) : 0 ≤ zwp R rain h ∧ zwp R rain h ≤ 1 := by unfold zwp; split <;> omega
/-- numbers by their bits -/
def zbs (p : Nat → Int) : Nat → Int
  | 0 => 0
  | h + 1 => zbs p h + p h * 2 ^ h
theorem zpow_pos (n : Nat) : (0 : Int) < 2 ^ n := by
  induction n with
  | zero => decide
  | succ n ih => rw [Int.pow_succ]; omega
theorem zbs_bd {p : Nat → Int} (hp : ∀ i, 0 ≤ p i ∧ p i ≤ 1) : ∀ n, 0 ≤ zbs p n ∧ zbs p n < 2 ^ n := by
  intro n
  induction n with
  | zero => simp [zbs]
  | succ n ih =>
    simp only [zbs, Int.pow_succ]
    have h1 := hp n
    have h2 := zpow_pos n
    rcases (show p n = 0 ∨ p n = 1 by omega) with h | h <;> rw [h] <;> omega
theorem zbs_bit {p : Nat → Int} (hp : ∀ i, 0 ≤ p i ∧ p i ≤ 1) : ∀ n h, h < n → zbs p n / 2 ^ h % 2 = p h := by
  intro n
  induction n with
  | zero => intro h hh; omega
  | succ n ih =>
    intro h hh
    simp only [zbs]
    have h2 := zpow_pos h
    by_cases hn : h = n
    · subst hn
      rw [Int.add_mul_ediv_right _ _ (by omega), Int.ediv_eq_zero_of_lt (zbs_bd hp h).1 (zbs_bd hp h).2]
      have := hp h
      omega
    · have hlt : h < n := by omega
      obtain ⟨d, hd⟩ : ∃ d, n = h + 1 + d := ⟨n - h - 1, by omega⟩
      have e : p n * 2 ^ n = p n * 2 ^ d * 2 * 2 ^ h := by
        rw [hd, Int.pow_add, Int.pow_succ, Int.mul_comm (2 ^ h * 2) (2 ^ d), Int.mul_assoc, Int.mul_assoc, Int.mul_comm (2 ^ h) 2]
      rw [e, Int.add_mul_ediv_right _ _ (by omega)]
      have h3 := ih h hlt
      omega
theorem zbs_congr {p q : Nat → Int} : ∀ {n : Nat}, (∀ i, i < n → p i = q i) → zbs p n = zbs q n := by
  intro n
  induction n with
  | zero => intro _; rfl
  | succ n ih => intro h; simp only [zbs]; rw [ih (fun i hi => h i (by omega)), h n (by omega)]
set_option maxRecDepth 100000 in
theorem zshl_n : ∀ h : Nat, h < 12 → zI 1 <<< (zI (h : Int) &&& 31) = zI (2 ^ h) := by decide +kernel
set_option maxRecDepth 100000 in
theorem zor_n : ∀ h : Nat, h < 11 → ∀ b : Nat, b < 2 ^ h → zI (b : Int) ||| zI (2 ^ h) = zI ((b : Int) + 2 ^ h) := by decide +kernel
theorem zor_i {h : Nat} {b : Int} (hh : h < 11) (h0 : 0 ≤ b) (h1 : b < 2 ^ h) : zI b ||| zI (2 ^ h) = zI (b + 2 ^ h) := by
  obtain ⟨m, rfl⟩ := Int.eq_ofNat_of_zero_le h0
  exact zor_n h hh m (by have : ((m : Nat) : Int) < ((2 ^ h : Nat) : Int) := by rw [Int.natCast_pow]; exact h1
                         exact Int.ofNat_lt.mp this)
set_option maxRecDepth 100000 in
theorem zshr_n : ∀ h : Nat, h < 10 → ∀ b : Nat, b < 1024 → zI (b : Int) >>> (zI (h : Int) &&& 31) = zI ((b : Int) / 2 ^ h) := by decide +kernel
theorem zshr_i {h : Nat} {b : Int} (hh : h < 10) (h0 : 0 ≤ b) (h1 : b < 1024) : zI b >>> (zI (h : Int) &&& 31) = zI (b / 2 ^ h) := by
  obtain ⟨m, rfl⟩ := Int.eq_ofNat_of_zero_le h0
  exact zshr_n h hh m (by omega)
set_option maxRecDepth 100000 in
theorem zand1_n : ∀ b : Nat, b < 1024 → zI (b : Int) &&& zI 1 = zI ((b : Int) % 2) := by decide +kernel
theorem zand1_i {b : Int} (h0 : 0 ≤ b) (h1 : b < 1024) : zI b &&& zI 1 = zI (b % 2) := by
  obtain ⟨m, rfl⟩ := Int.eq_ofNat_of_zero_le h0
  exact zand1_n m (by omega)
theorem zdiv_bd {b : Int} (h : Nat) (h0 : 0 ≤ b) (h1 : b < 1024) : 0 ≤ b / 2 ^ h ∧ b / 2 ^ h < 1024 := by
  have h2 := zpow_pos h
  refine ⟨Int.ediv_nonneg h0 (by omega), ?_⟩
  have := Int.ediv_le_self (b := (2 : Int) ^ h) h0
  omega
def zup (f : Nat → Int) (i : Nat) (v : Int) : Nat → Int := fun j => if j = i then v else f j
/-! the cells of a lane -/
def zLa (σ : zMem) (o n : Nat) (y w : Int) (K R V E : Nat → Int) : Prop := σ o 4 = n ∧ σ o 5 = y ∧ σ o 6 = w ∧ ∀ i, i < n → σ (o + 2) i = K i ∧ σ (o + 4) i = R i ∧ σ (o + 6) i = V i ∧ σ (o + 8) i = E i
abbrev zLr (K R V E : Nat → Int) : Prop := ∀ i, (0 ≤ K i ∧ K i ≤ 4) ∧ (0 ≤ R i ∧ R i ≤ 20) ∧ (0 ≤ V i ∧ V i ≤ 9) ∧ 0 ≤ E i ∧ E i ≤ 1
theorem zLa.ext {σ : zMem} {o n : Nat} {y w y' w' : Int} {K R V E K' R' V' E' : Nat → Int} (h : zLa σ o n y w K R V E) (hy : y = y') (hw : w = w') (he : ∀ i, i < n → K i = K' i ∧ R i = R' i ∧ V i = V' i ∧ E i = E' i) : zLa σ o n y' w' K' R' V' E' := by
  subst hy; subst hw
  refine ⟨h.1, h.2.1, h.2.2.1, fun i hi => ?_⟩
  obtain ⟨a, b, c, d⟩ := h.2.2.2 i hi
  obtain ⟨a', b', c', d'⟩ := he i hi
  exact ⟨a.trans a', b.trans b', c.trans c', d.trans d'⟩
theorem zLa.putR {σ : zMem} {o n i : Nat} {y w x : Int} {K R V E : Nat → Int} (h : zLa σ o n y w K R V E) : zLa (zU σ (o + 4) i x) o n y w K (zup R i x) V E := by
  refine ⟨by rw [zU_o (by omega)]; exact h.1, by rw [zU_o (by omega)]; exact h.2.1, by rw [zU_o (by omega)]; exact h.2.2.1, fun j hj => ?_⟩
  obtain ⟨a, b, c, d⟩ := h.2.2.2 j hj
  refine ⟨by rw [zU_o (by omega)]; exact a, ?_, by rw [zU_o (by omega)]; exact c, by rw [zU_o (by omega)]; exact d⟩
  unfold zup
  by_cases e : j = i
  · rw [e, zU_at, if_pos rfl]
  · rw [zU_k e, if_neg e]; exact b
theorem zLa.putV {σ : zMem} {o n i : Nat} {y w x : Int} {K R V E : Nat → Int} (h : zLa σ o n y w K R V E) : zLa (zU σ (o + 6) i x) o n y w K R (zup V i x) E := by
  refine ⟨by rw [zU_o (by omega)]; exact h.1, by rw [zU_o (by omega)]; exact h.2.1, by rw [zU_o (by omega)]; exact h.2.2.1, fun j hj => ?_⟩
  obtain ⟨a, b, c, d⟩ := h.2.2.2 j hj
  refine ⟨by rw [zU_o (by omega)]; exact a, by rw [zU_o (by omega)]; exact b, ?_, by rw [zU_o (by omega)]; exact d⟩
  unfold zup
  by_cases e : j = i
  · rw [e, zU_at, if_pos rfl]
  · rw [zU_k e, if_neg e]; exact c
theorem zLa.putE {σ : zMem} {o n i : Nat} {y w x : Int} {K R V E : Nat → Int} (h : zLa σ o n y w K R V E) : zLa (zU σ (o + 8) i x) o n y w K R V (zup E i x) := by
  refine ⟨by rw [zU_o (by omega)]; exact h.1, by rw [zU_o (by omega)]; exact h.2.1, by rw [zU_o (by omega)]; exact h.2.2.1, fun j hj => ?_⟩
  obtain ⟨a, b, c, d⟩ := h.2.2.2 j hj
  refine ⟨by rw [zU_o (by omega)]; exact a, by rw [zU_o (by omega)]; exact b, by rw [zU_o (by omega)]; exact c, ?_⟩
  unfold zup
  by_cases e : j = i
  · rw [e, zU_at, if_pos rfl]
  · rw [zU_k e, if_neg e]; exact d
theorem zLa.putK {σ : zMem} {o n i : Nat} {y w x : Int} {K R V E : Nat → Int} (h : zLa σ o n y w K R V E) : zLa (zU σ (o + 2) i x) o n y w (zup K i x) R V E := by
  refine ⟨by rw [zU_o (by omega)]; exact h.1, by rw [zU_o (by omega)]; exact h.2.1, by rw [zU_o (by omega)]; exact h.2.2.1, fun j hj => ?_⟩
  obtain ⟨a, b, c, d⟩ := h.2.2.2 j hj
  refine ⟨?_, by rw [zU_o (by omega)]; exact b, by rw [zU_o (by omega)]; exact c, by rw [zU_o (by omega)]; exact d⟩
  unfold zup
  by_cases e : j = i
  · rw [e, zU_at, if_pos rfl]
  · rw [zU_k e, if_neg e]; exact a
theorem zLa.putY {σ : zMem} {o n : Nat} {y w x : Int} {K R V E : Nat → Int} (h : zLa σ o n y w K R V E) : zLa (zU σ o 5 x) o n x w K R V E :=
  ⟨by rw [zU_k (by omega)]; exact h.1, zU_at, by rw [zU_k (by omega)]; exact h.2.2.1, fun j hj => by rw [zU_o (by omega), zU_o (by omega), zU_o (by omega), zU_o (by omega)]; exact h.2.2.2 j hj⟩
theorem zLa.putW {σ : zMem} {o n : Nat} {y w x : Int} {K R V E : Nat → Int} (h : zLa σ o n y w K R V E) : zLa (zU σ o 6 x) o n y x K R V E :=
  ⟨by rw [zU_k (by omega)]; exact h.1, by rw [zU_k (by omega)]; exact h.2.1, zU_at, fun j hj => by rw [zU_o (by omega), zU_o (by omega), zU_o (by omega), zU_o (by omega)]; exact h.2.2.2 j hj⟩
theorem zLa.fr {σ τ : zMem} {o n a b : Nat} {y w : Int} {K R V E : Nat → Int} (h : zLa σ o n y w K R V E) (hf : zFr a b σ τ) (hd : o + 9 ≤ a ∨ b ≤ o) : zLa τ o n y w K R V E :=
  ⟨(hf _ _ (by omega)).trans h.1, (hf _ _ (by omega)).trans h.2.1, (hf _ _ (by omega)).trans h.2.2.1, fun j hj => by
    rw [hf (o + 2) j (by omega), hf (o + 4) j (by omega), hf (o + 6) j (by omega), hf (o + 8) j (by omega)]; exact h.2.2.2 j hj⟩
end
