-- ===== PART A: goes FIRST, ahead of the names: the tables' words, and 'selects' of the private methods out of them =====
/-- a private method of a class that the tables say can be made, by its rows of tables_1 -/
def lw_okq (q : MethodName × Nat) : Prop := (q.1.cls ≠ "java/lang/invoke/MethodHandle" ∧ q.1.cls ≠ "java/lang/invoke/VarHandle") ∧ Cond.instantiable q.1.cls q.2 ∈ tables_1 ∧ Cond.privateMethod q.1 ∈ tables_1 ∧ Cond.instanceMethod q.1 ∈ tables_1
theorem lw_p0 : lw_okq (⟨"RingArm", "policyOf", "(I)LRingArm$First;"⟩, 17) := ⟨⟨by decide +kernel, by decide +kernel⟩, List.mem_of_getElem? (i := 16) (by decide +kernel), List.mem_of_getElem? (i := 339) (by decide +kernel), List.mem_of_getElem? (i := 340) (by decide +kernel)⟩
theorem lw_p1 : lw_okq (⟨"RingArm", "hasPlate", "()Z"⟩, 17) := ⟨⟨by decide +kernel, by decide +kernel⟩, List.mem_of_getElem? (i := 16) (by decide +kernel), List.mem_of_getElem? (i := 412) (by decide +kernel), List.mem_of_getElem? (i := 413) (by decide +kernel)⟩
theorem lw_p2 : lw_okq (⟨"RingArm$Things", "share", "(I)I"⟩, 4) := ⟨⟨by decide +kernel, by decide +kernel⟩, List.mem_of_getElem? (i := 133) (by decide +kernel), List.mem_of_getElem? (i := 596) (by decide +kernel), List.mem_of_getElem? (i := 597) (by decide +kernel)⟩
theorem lw_p3 : lw_okq (⟨"RingArm$Sight", "isSo", "(II)Z"⟩, 3) := ⟨⟨by decide +kernel, by decide +kernel⟩, List.mem_of_getElem? (i := 153) (by decide +kernel), List.mem_of_getElem? (i := 647) (by decide +kernel), List.mem_of_getElem? (i := 648) (by decide +kernel)⟩
theorem lw_p4 : lw_okq (⟨"RingArm", "playDays", "(II)I"⟩, 17) := ⟨⟨by decide +kernel, by decide +kernel⟩, List.mem_of_getElem? (i := 16) (by decide +kernel), List.mem_of_getElem? (i := 672) (by decide +kernel), List.mem_of_getElem? (i := 673) (by decide +kernel)⟩
theorem lw_p5 : lw_okq (⟨"RingArm", "mixRings", "(J)J"⟩, 17) := ⟨⟨by decide +kernel, by decide +kernel⟩, List.mem_of_getElem? (i := 16) (by decide +kernel), List.mem_of_getElem? (i := 722) (by decide +kernel), List.mem_of_getElem? (i := 723) (by decide +kernel)⟩
theorem lw_p6 : lw_okq (⟨"RingArm", "mixAsked", "(J)J"⟩, 17) := ⟨⟨by decide +kernel, by decide +kernel⟩, List.mem_of_getElem? (i := 16) (by decide +kernel), List.mem_of_getElem? (i := 731) (by decide +kernel), List.mem_of_getElem? (i := 732) (by decide +kernel)⟩
theorem lw_p7 : lw_okq (⟨"RingArm", "mixChoices", "(J)J"⟩, 17) := ⟨⟨by decide +kernel, by decide +kernel⟩, List.mem_of_getElem? (i := 16) (by decide +kernel), List.mem_of_getElem? (i := 736) (by decide +kernel), List.mem_of_getElem? (i := 737) (by decide +kernel)⟩
theorem lw_p8 : lw_okq (⟨"RingArm", "mixBests", "(J)J"⟩, 17) := ⟨⟨by decide +kernel, by decide +kernel⟩, List.mem_of_getElem? (i := 16) (by decide +kernel), List.mem_of_getElem? (i := 740) (by decide +kernel), List.mem_of_getElem? (i := 741) (by decide +kernel)⟩
theorem lw_p9 : lw_okq (⟨"RingArmModel", "faultOf", "()I"⟩, 41) := ⟨⟨by decide +kernel, by decide +kernel⟩, List.mem_of_getElem? (i := 746) (by decide +kernel), List.mem_of_getElem? (i := 892) (by decide +kernel), List.mem_of_getElem? (i := 893) (by decide +kernel)⟩
theorem lw_p10 : lw_okq (⟨"RingArmModel", "isGood", "(I)Z"⟩, 41) := ⟨⟨by decide +kernel, by decide +kernel⟩, List.mem_of_getElem? (i := 746) (by decide +kernel), List.mem_of_getElem? (i := 896) (by decide +kernel), List.mem_of_getElem? (i := 897) (by decide +kernel)⟩
theorem lw_p11 : lw_okq (⟨"RingArmModel", "isRingLetter", "(I)Z"⟩, 41) := ⟨⟨by decide +kernel, by decide +kernel⟩, List.mem_of_getElem? (i := 746) (by decide +kernel), List.mem_of_getElem? (i := 900) (by decide +kernel), List.mem_of_getElem? (i := 901) (by decide +kernel)⟩
theorem lw_p12 : lw_okq (⟨"RingArmModel", "isRing", "(I)Z"⟩, 41) := ⟨⟨by decide +kernel, by decide +kernel⟩, List.mem_of_getElem? (i := 746) (by decide +kernel), List.mem_of_getElem? (i := 923) (by decide +kernel), List.mem_of_getElem? (i := 924) (by decide +kernel)⟩
theorem lw_p13 : lw_okq (⟨"RingArmModel", "tellRing", "(II)I"⟩, 41) := ⟨⟨by decide +kernel, by decide +kernel⟩, List.mem_of_getElem? (i := 746) (by decide +kernel), List.mem_of_getElem? (i := 927) (by decide +kernel), List.mem_of_getElem? (i := 928) (by decide +kernel)⟩
theorem lw_p14 : lw_okq (⟨"RingArmModel", "lasts", "(I)I"⟩, 41) := ⟨⟨by decide +kernel, by decide +kernel⟩, List.mem_of_getElem? (i := 746) (by decide +kernel), List.mem_of_getElem? (i := 931) (by decide +kernel), List.mem_of_getElem? (i := 932) (by decide +kernel)⟩
theorem lw_p15 : lw_okq (⟨"RingArmModel", "askedOn", "(I)I"⟩, 41) := ⟨⟨by decide +kernel, by decide +kernel⟩, List.mem_of_getElem? (i := 746) (by decide +kernel), List.mem_of_getElem? (i := 935) (by decide +kernel), List.mem_of_getElem? (i := 936) (by decide +kernel)⟩
def lw_privs_1 : List (MethodName × Nat) := [(⟨"RingArm", "policyOf", "(I)LRingArm$First;"⟩, 17), (⟨"RingArm", "hasPlate", "()Z"⟩, 17), (⟨"RingArm$Things", "share", "(I)I"⟩, 4), (⟨"RingArm$Sight", "isSo", "(II)Z"⟩, 3), (⟨"RingArm", "playDays", "(II)I"⟩, 17), (⟨"RingArm", "mixRings", "(J)J"⟩, 17), (⟨"RingArm", "mixAsked", "(J)J"⟩, 17), (⟨"RingArm", "mixChoices", "(J)J"⟩, 17), (⟨"RingArm", "mixBests", "(J)J"⟩, 17), (⟨"RingArmModel", "faultOf", "()I"⟩, 41), (⟨"RingArmModel", "isGood", "(I)Z"⟩, 41), (⟨"RingArmModel", "isRingLetter", "(I)Z"⟩, 41), (⟨"RingArmModel", "isRing", "(I)Z"⟩, 41), (⟨"RingArmModel", "tellRing", "(II)I"⟩, 41), (⟨"RingArmModel", "lasts", "(I)I"⟩, 41), (⟨"RingArmModel", "askedOn", "(I)I"⟩, 41)]
theorem lw_r1 : ∀ q ∈ lw_privs_1, lw_okq q := List.forall_mem_cons.mpr ⟨lw_p0, List.forall_mem_cons.mpr ⟨lw_p1, List.forall_mem_cons.mpr ⟨lw_p2, List.forall_mem_cons.mpr ⟨lw_p3, List.forall_mem_cons.mpr ⟨lw_p4, List.forall_mem_cons.mpr ⟨lw_p5, List.forall_mem_cons.mpr ⟨lw_p6, List.forall_mem_cons.mpr ⟨lw_p7, List.forall_mem_cons.mpr ⟨lw_p8, List.forall_mem_cons.mpr ⟨lw_p9, List.forall_mem_cons.mpr ⟨lw_p10, List.forall_mem_cons.mpr ⟨lw_p11, List.forall_mem_cons.mpr ⟨lw_p12, List.forall_mem_cons.mpr ⟨lw_p13, List.forall_mem_cons.mpr ⟨lw_p14, List.forall_mem_cons.mpr ⟨lw_p15, fun _ h => absurd h List.not_mem_nil⟩⟩⟩⟩⟩⟩⟩⟩⟩⟩⟩⟩⟩⟩⟩⟩
theorem lw_p16 : lw_okq (⟨"RingArmModel", "travel", "(II)I"⟩, 41) := ⟨⟨by decide +kernel, by decide +kernel⟩, List.mem_of_getElem? (i := 746) (by decide +kernel), List.mem_of_getElem? (i := 939) (by decide +kernel), List.mem_of_getElem? (i := 940) (by decide +kernel)⟩
theorem lw_p17 : lw_okq (⟨"RingArmModel", "tellAsked", "(II)I"⟩, 41) := ⟨⟨by decide +kernel, by decide +kernel⟩, List.mem_of_getElem? (i := 746) (by decide +kernel), List.mem_of_getElem? (i := 948) (by decide +kernel), List.mem_of_getElem? (i := 949) (by decide +kernel)⟩
theorem lw_p18 : lw_okq (⟨"RingArmModel", "begin", "()V"⟩, 41) := ⟨⟨by decide +kernel, by decide +kernel⟩, List.mem_of_getElem? (i := 746) (by decide +kernel), List.mem_of_getElem? (i := 952) (by decide +kernel), List.mem_of_getElem? (i := 953) (by decide +kernel)⟩
theorem lw_p19 : lw_okq (⟨"RingArmModel", "doneThen", "(I)I"⟩, 41) := ⟨⟨by decide +kernel, by decide +kernel⟩, List.mem_of_getElem? (i := 746) (by decide +kernel), List.mem_of_getElem? (i := 959) (by decide +kernel), List.mem_of_getElem? (i := 960) (by decide +kernel)⟩
theorem lw_p20 : lw_okq (⟨"RingArmModel", "doneBy", "(IIII)I"⟩, 41) := ⟨⟨by decide +kernel, by decide +kernel⟩, List.mem_of_getElem? (i := 746) (by decide +kernel), List.mem_of_getElem? (i := 963) (by decide +kernel), List.mem_of_getElem? (i := 964) (by decide +kernel)⟩
theorem lw_p21 : lw_okq (⟨"RingArmModel", "lacks", "()Z"⟩, 41) := ⟨⟨by decide +kernel, by decide +kernel⟩, List.mem_of_getElem? (i := 746) (by decide +kernel), List.mem_of_getElem? (i := 972) (by decide +kernel), List.mem_of_getElem? (i := 973) (by decide +kernel)⟩
theorem lw_p22 : lw_okq (⟨"RingArmModel", "nextOf", "()I"⟩, 41) := ⟨⟨by decide +kernel, by decide +kernel⟩, List.mem_of_getElem? (i := 746) (by decide +kernel), List.mem_of_getElem? (i := 980) (by decide +kernel), List.mem_of_getElem? (i := 981) (by decide +kernel)⟩
theorem lw_p23 : lw_okq (⟨"RingArmModel", "nextThen", "(I)I"⟩, 41) := ⟨⟨by decide +kernel, by decide +kernel⟩, List.mem_of_getElem? (i := 746) (by decide +kernel), List.mem_of_getElem? (i := 984) (by decide +kernel), List.mem_of_getElem? (i := 985) (by decide +kernel)⟩
theorem lw_p24 : lw_okq (⟨"RingArmModel", "nearestThen", "(I)I"⟩, 41) := ⟨⟨by decide +kernel, by decide +kernel⟩, List.mem_of_getElem? (i := 746) (by decide +kernel), List.mem_of_getElem? (i := 988) (by decide +kernel), List.mem_of_getElem? (i := 989) (by decide +kernel)⟩
theorem lw_p25 : lw_okq (⟨"RingArmModel", "awayThen", "(II)I"⟩, 41) := ⟨⟨by decide +kernel, by decide +kernel⟩, List.mem_of_getElem? (i := 746) (by decide +kernel), List.mem_of_getElem? (i := 992) (by decide +kernel), List.mem_of_getElem? (i := 993) (by decide +kernel)⟩
theorem lw_p26 : lw_okq (⟨"RingArmModel", "outermostThen", "()I"⟩, 41) := ⟨⟨by decide +kernel, by decide +kernel⟩, List.mem_of_getElem? (i := 746) (by decide +kernel), List.mem_of_getElem? (i := 996) (by decide +kernel), List.mem_of_getElem? (i := 997) (by decide +kernel)⟩
theorem lw_p27 : lw_okq (⟨"RingArmModel", "soonestThen", "()I"⟩, 41) := ⟨⟨by decide +kernel, by decide +kernel⟩, List.mem_of_getElem? (i := 746) (by decide +kernel), List.mem_of_getElem? (i := 1000) (by decide +kernel), List.mem_of_getElem? (i := 1001) (by decide +kernel)⟩
theorem lw_p28 : lw_okq (⟨"RingArmModel", "askThen", "(II)I"⟩, 41) := ⟨⟨by decide +kernel, by decide +kernel⟩, List.mem_of_getElem? (i := 746) (by decide +kernel), List.mem_of_getElem? (i := 1008) (by decide +kernel), List.mem_of_getElem? (i := 1009) (by decide +kernel)⟩
theorem lw_p29 : lw_okq (⟨"RingArmModel", "keep", "()V"⟩, 41) := ⟨⟨by decide +kernel, by decide +kernel⟩, List.mem_of_getElem? (i := 746) (by decide +kernel), List.mem_of_getElem? (i := 1012) (by decide +kernel), List.mem_of_getElem? (i := 1013) (by decide +kernel)⟩
theorem lw_p30 : lw_okq (⟨"RingArmModel", "doneNow", "(I)I"⟩, 41) := ⟨⟨by decide +kernel, by decide +kernel⟩, List.mem_of_getElem? (i := 746) (by decide +kernel), List.mem_of_getElem? (i := 1020) (by decide +kernel), List.mem_of_getElem? (i := 1021) (by decide +kernel)⟩
theorem lw_p31 : lw_okq (⟨"RingArmModel", "goTo", "(I)I"⟩, 41) := ⟨⟨by decide +kernel, by decide +kernel⟩, List.mem_of_getElem? (i := 746) (by decide +kernel), List.mem_of_getElem? (i := 1024) (by decide +kernel), List.mem_of_getElem? (i := 1025) (by decide +kernel)⟩
def lw_privs_2 : List (MethodName × Nat) := [(⟨"RingArmModel", "travel", "(II)I"⟩, 41), (⟨"RingArmModel", "tellAsked", "(II)I"⟩, 41), (⟨"RingArmModel", "begin", "()V"⟩, 41), (⟨"RingArmModel", "doneThen", "(I)I"⟩, 41), (⟨"RingArmModel", "doneBy", "(IIII)I"⟩, 41), (⟨"RingArmModel", "lacks", "()Z"⟩, 41), (⟨"RingArmModel", "nextOf", "()I"⟩, 41), (⟨"RingArmModel", "nextThen", "(I)I"⟩, 41), (⟨"RingArmModel", "nearestThen", "(I)I"⟩, 41), (⟨"RingArmModel", "awayThen", "(II)I"⟩, 41), (⟨"RingArmModel", "outermostThen", "()I"⟩, 41), (⟨"RingArmModel", "soonestThen", "()I"⟩, 41), (⟨"RingArmModel", "askThen", "(II)I"⟩, 41), (⟨"RingArmModel", "keep", "()V"⟩, 41), (⟨"RingArmModel", "doneNow", "(I)I"⟩, 41), (⟨"RingArmModel", "goTo", "(I)I"⟩, 41)]
theorem lw_r2 : ∀ q ∈ lw_privs_2, lw_okq q := List.forall_mem_cons.mpr ⟨lw_p16, List.forall_mem_cons.mpr ⟨lw_p17, List.forall_mem_cons.mpr ⟨lw_p18, List.forall_mem_cons.mpr ⟨lw_p19, List.forall_mem_cons.mpr ⟨lw_p20, List.forall_mem_cons.mpr ⟨lw_p21, List.forall_mem_cons.mpr ⟨lw_p22, List.forall_mem_cons.mpr ⟨lw_p23, List.forall_mem_cons.mpr ⟨lw_p24, List.forall_mem_cons.mpr ⟨lw_p25, List.forall_mem_cons.mpr ⟨lw_p26, List.forall_mem_cons.mpr ⟨lw_p27, List.forall_mem_cons.mpr ⟨lw_p28, List.forall_mem_cons.mpr ⟨lw_p29, List.forall_mem_cons.mpr ⟨lw_p30, List.forall_mem_cons.mpr ⟨lw_p31, fun _ h => absurd h List.not_mem_nil⟩⟩⟩⟩⟩⟩⟩⟩⟩⟩⟩⟩⟩⟩⟩⟩
theorem lw_p32 : lw_okq (⟨"RingArmModel", "runOf", "(II)I"⟩, 41) := ⟨⟨by decide +kernel, by decide +kernel⟩, List.mem_of_getElem? (i := 746) (by decide +kernel), List.mem_of_getElem? (i := 1056) (by decide +kernel), List.mem_of_getElem? (i := 1057) (by decide +kernel)⟩
theorem lw_p33 : lw_okq (⟨"RingArmModel", "leastOf", "(I)I"⟩, 41) := ⟨⟨by decide +kernel, by decide +kernel⟩, List.mem_of_getElem? (i := 746) (by decide +kernel), List.mem_of_getElem? (i := 1066) (by decide +kernel), List.mem_of_getElem? (i := 1067) (by decide +kernel)⟩
theorem lw_p34 : lw_okq (⟨"RingArmModel", "laySoonest", "()V"⟩, 41) := ⟨⟨by decide +kernel, by decide +kernel⟩, List.mem_of_getElem? (i := 746) (by decide +kernel), List.mem_of_getElem? (i := 1070) (by decide +kernel), List.mem_of_getElem? (i := 1071) (by decide +kernel)⟩
theorem lw_p35 : lw_okq (⟨"RingArmModel", "layTried", "(II)V"⟩, 41) := ⟨⟨by decide +kernel, by decide +kernel⟩, List.mem_of_getElem? (i := 746) (by decide +kernel), List.mem_of_getElem? (i := 1075) (by decide +kernel), List.mem_of_getElem? (i := 1076) (by decide +kernel)⟩
theorem lw_p36 : lw_okq (⟨"RingArmModel", "endOfTried", "()I"⟩, 41) := ⟨⟨by decide +kernel, by decide +kernel⟩, List.mem_of_getElem? (i := 746) (by decide +kernel), List.mem_of_getElem? (i := 1082) (by decide +kernel), List.mem_of_getElem? (i := 1083) (by decide +kernel)⟩
theorem lw_p37 : lw_okq (⟨"RingArmModel", "layOf", "(I)I"⟩, 41) := ⟨⟨by decide +kernel, by decide +kernel⟩, List.mem_of_getElem? (i := 746) (by decide +kernel), List.mem_of_getElem? (i := 1096) (by decide +kernel), List.mem_of_getElem? (i := 1097) (by decide +kernel)⟩
theorem lw_p38 : lw_okq (⟨"RingArmModel", "things", "()I"⟩, 41) := ⟨⟨by decide +kernel, by decide +kernel⟩, List.mem_of_getElem? (i := 746) (by decide +kernel), List.mem_of_getElem? (i := 1100) (by decide +kernel), List.mem_of_getElem? (i := 1101) (by decide +kernel)⟩
theorem lw_p39 : lw_okq (⟨"RingArmModel", "priceOfTried", "(I)I"⟩, 41) := ⟨⟨by decide +kernel, by decide +kernel⟩, List.mem_of_getElem? (i := 746) (by decide +kernel), List.mem_of_getElem? (i := 1104) (by decide +kernel), List.mem_of_getElem? (i := 1105) (by decide +kernel)⟩
theorem lw_p40 : lw_okq (⟨"RingArmModel", "behindOf", "(III)I"⟩, 41) := ⟨⟨by decide +kernel, by decide +kernel⟩, List.mem_of_getElem? (i := 746) (by decide +kernel), List.mem_of_getElem? (i := 1113) (by decide +kernel), List.mem_of_getElem? (i := 1114) (by decide +kernel)⟩
theorem lw_p41 : lw_okq (⟨"RingArmModel", "apartOf", "(III)I"⟩, 41) := ⟨⟨by decide +kernel, by decide +kernel⟩, List.mem_of_getElem? (i := 746) (by decide +kernel), List.mem_of_getElem? (i := 1121) (by decide +kernel), List.mem_of_getElem? (i := 1122) (by decide +kernel)⟩
theorem lw_p42 : lw_okq (⟨"RingArmModel", "allBy", "(III)I"⟩, 41) := ⟨⟨by decide +kernel, by decide +kernel⟩, List.mem_of_getElem? (i := 746) (by decide +kernel), List.mem_of_getElem? (i := 1125) (by decide +kernel), List.mem_of_getElem? (i := 1126) (by decide +kernel)⟩
theorem lw_p43 : lw_okq (⟨"RingArmModel", "stepsOf", "()I"⟩, 41) := ⟨⟨by decide +kernel, by decide +kernel⟩, List.mem_of_getElem? (i := 746) (by decide +kernel), List.mem_of_getElem? (i := 1144) (by decide +kernel), List.mem_of_getElem? (i := 1145) (by decide +kernel)⟩
theorem lw_p44 : lw_okq (⟨"RingArmModel", "trialOf", "()I"⟩, 41) := ⟨⟨by decide +kernel, by decide +kernel⟩, List.mem_of_getElem? (i := 746) (by decide +kernel), List.mem_of_getElem? (i := 1153) (by decide +kernel), List.mem_of_getElem? (i := 1154) (by decide +kernel)⟩
theorem lw_p45 : lw_okq (⟨"RingArmModel", "draw", "(I)I"⟩, 41) := ⟨⟨by decide +kernel, by decide +kernel⟩, List.mem_of_getElem? (i := 746) (by decide +kernel), List.mem_of_getElem? (i := 1162) (by decide +kernel), List.mem_of_getElem? (i := 1163) (by decide +kernel)⟩
theorem lw_p46 : lw_okq (⟨"RingArmModel", "countOf", "(I)I"⟩, 41) := ⟨⟨by decide +kernel, by decide +kernel⟩, List.mem_of_getElem? (i := 746) (by decide +kernel), List.mem_of_getElem? (i := 1182) (by decide +kernel), List.mem_of_getElem? (i := 1183) (by decide +kernel)⟩
theorem lw_p47 : lw_okq (⟨"RingArmModel", "placesAll", "()I"⟩, 41) := ⟨⟨by decide +kernel, by decide +kernel⟩, List.mem_of_getElem? (i := 746) (by decide +kernel), List.mem_of_getElem? (i := 1186) (by decide +kernel), List.mem_of_getElem? (i := 1187) (by decide +kernel)⟩
def lw_privs_3 : List (MethodName × Nat) := [(⟨"RingArmModel", "runOf", "(II)I"⟩, 41), (⟨"RingArmModel", "leastOf", "(I)I"⟩, 41), (⟨"RingArmModel", "laySoonest", "()V"⟩, 41), (⟨"RingArmModel", "layTried", "(II)V"⟩, 41), (⟨"RingArmModel", "endOfTried", "()I"⟩, 41), (⟨"RingArmModel", "layOf", "(I)I"⟩, 41), (⟨"RingArmModel", "things", "()I"⟩, 41), (⟨"RingArmModel", "priceOfTried", "(I)I"⟩, 41), (⟨"RingArmModel", "behindOf", "(III)I"⟩, 41), (⟨"RingArmModel", "apartOf", "(III)I"⟩, 41), (⟨"RingArmModel", "allBy", "(III)I"⟩, 41), (⟨"RingArmModel", "stepsOf", "()I"⟩, 41), (⟨"RingArmModel", "trialOf", "()I"⟩, 41), (⟨"RingArmModel", "draw", "(I)I"⟩, 41), (⟨"RingArmModel", "countOf", "(I)I"⟩, 41), (⟨"RingArmModel", "placesAll", "()I"⟩, 41)]
theorem lw_r3 : ∀ q ∈ lw_privs_3, lw_okq q := List.forall_mem_cons.mpr ⟨lw_p32, List.forall_mem_cons.mpr ⟨lw_p33, List.forall_mem_cons.mpr ⟨lw_p34, List.forall_mem_cons.mpr ⟨lw_p35, List.forall_mem_cons.mpr ⟨lw_p36, List.forall_mem_cons.mpr ⟨lw_p37, List.forall_mem_cons.mpr ⟨lw_p38, List.forall_mem_cons.mpr ⟨lw_p39, List.forall_mem_cons.mpr ⟨lw_p40, List.forall_mem_cons.mpr ⟨lw_p41, List.forall_mem_cons.mpr ⟨lw_p42, List.forall_mem_cons.mpr ⟨lw_p43, List.forall_mem_cons.mpr ⟨lw_p44, List.forall_mem_cons.mpr ⟨lw_p45, List.forall_mem_cons.mpr ⟨lw_p46, List.forall_mem_cons.mpr ⟨lw_p47, fun _ h => absurd h List.not_mem_nil⟩⟩⟩⟩⟩⟩⟩⟩⟩⟩⟩⟩⟩⟩⟩⟩
theorem lw_p48 : lw_okq (⟨"RingArmModel", "say", "(J)V"⟩, 41) := ⟨⟨by decide +kernel, by decide +kernel⟩, List.mem_of_getElem? (i := 746) (by decide +kernel), List.mem_of_getElem? (i := 1195) (by decide +kernel), List.mem_of_getElem? (i := 1196) (by decide +kernel)⟩
theorem lw_p49 : lw_okq (⟨"RingArmModel", "sayPlate", "()V"⟩, 41) := ⟨⟨by decide +kernel, by decide +kernel⟩, List.mem_of_getElem? (i := 746) (by decide +kernel), List.mem_of_getElem? (i := 1200) (by decide +kernel), List.mem_of_getElem? (i := 1201) (by decide +kernel)⟩
def lw_privs_4 : List (MethodName × Nat) := [(⟨"RingArmModel", "say", "(J)V"⟩, 41), (⟨"RingArmModel", "sayPlate", "()V"⟩, 41)]
theorem lw_r4 : ∀ q ∈ lw_privs_4, lw_okq q := List.forall_mem_cons.mpr ⟨lw_p48, List.forall_mem_cons.mpr ⟨lw_p49, fun _ h => absurd h List.not_mem_nil⟩⟩
def lw_privs : List (MethodName × Nat) := lw_privs_1 ++ (lw_privs_2 ++ (lw_privs_3 ++ (lw_privs_4)))
def lw_tbl : List Cond := k2_sels lw_privs ++ tables_1
theorem lw_privs_ok : ∀ q ∈ lw_privs, lw_okq q := by
  show ∀ q ∈ lw_privs_1 ++ (lw_privs_2 ++ (lw_privs_3 ++ (lw_privs_4))), lw_okq q
  exact List.forall_mem_append.mpr ⟨lw_r1, List.forall_mem_append.mpr ⟨lw_r2, List.forall_mem_append.mpr ⟨lw_r3, lw_r4⟩⟩⟩
/-- the words of the tables that any method may lean on -/
def r_wg : List Cond := lw_tbl.filter goodWord
theorem r_in {w : Cond} (i : Nat) (h : tables_1[i]? = some w) (hg : goodWord w = true) : w ∈ r_wg := List.mem_filter.mpr ⟨List.mem_append_right _ (List.mem_of_getElem? h), hg⟩
theorem r_inP {w : Cond} (i : Nat) (h : (k2_sels lw_privs)[i]? = some w) (hg : goodWord w = true) : w ∈ r_wg := List.mem_filter.mpr ⟨List.mem_append_left _ (List.mem_of_getElem? h), hg⟩
abbrev r_M : Type := MethodName × ByteArray × Nat × Option FieldType
def r_T0 : u_T := fun k => match k with
  | 0 => ("RingArm$Desk", "disc", "LRingArm$Disc;", true)
  | 1 => ("RingArm$Desk", "rings", "[I", true)
  | 2 => ("RingArm$Desk", "places", "[I", true)
  | 3 => ("RingArm$Desk", "since", "[I", true)
  | 4 => ("RingArm$Desk", "size", "I", false)
  | 5 => ("RingArm$Desk", "tick", "I", false)
  | 6 => ("RingArm$Desk", "ring", "I", false)
  | 7 => ("RingArm$Desk", "inward", "Z", false)
  | _ => ("RingArm$Desk", "waited", "I", false)
def r_T1 : u_T := fun k => match k with
  | 0 => ("RingArm$Disc", "places", "[I", true)
  | 1 => ("RingArm$Disc", "offsets", "[I", true)
  | 2 => ("RingArm$Disc", "lasts", "[I", true)
  | 3 => ("RingArm$Disc", "size", "I", false)
  | 4 => ("RingArm$Disc", "start", "I", false)
  | _ => ("RingArm$Disc", "step", "I", false)
def r_T2 : u_T := fun k => match k with
  | _ => ("", "", "", false)
def r_T3 : u_T := fun k => match k with
  | _ => ("", "", "", false)
def r_T4 : u_T := fun k => match k with
  | 0 => ("RingArm$Orders", "order", "[I", true)
  | 1 => ("RingArm$Orders", "best", "[I", true)
  | 2 => ("RingArm$Orders", "size", "I", false)
  | _ => ("RingArm$Orders", "bestTick", "I", false)
def r_T5 : u_T := fun k => match k with
  | 0 => ("RingArm$Page", "letters", "[I", true)
  | _ => ("RingArm$Page", "size", "I", false)
def r_T6 : u_T := fun k => match k with
  | _ => ("", "", "", false)
def r_T7 : u_T := fun k => match k with
  | 0 => ("RingArm$Sight", "rings", "[I", true)
  | 1 => ("RingArm$Sight", "ticks", "[I", true)
  | _ => ("RingArm$Sight", "size", "I", false)
def r_T8 : u_T := fun k => match k with
  | _ => ("", "", "", false)
def r_T9 : u_T := fun k => match k with
  | _ => ("", "", "", false)
def r_T10 : u_T := fun k => match k with
  | 0 => ("RingArm$Things", "weights", "[I", true)
  | 1 => ("RingArm$Things", "lying", "[I", true)
  | 2 => ("RingArm$Things", "best", "[I", true)
  | _ => ("RingArm$Things", "bestSum", "I", false)
def r_T11 : u_T := fun k => match k with
  | 0 => ("RingArm", "page", "LRingArm$Page;", true)
  | 1 => ("RingArm", "disc", "LRingArm$Disc;", true)
  | 2 => ("RingArm", "desk", "LRingArm$Desk;", true)
  | 3 => ("RingArm", "things", "LRingArm$Things;", true)
  | 4 => ("RingArm", "sight", "LRingArm$Sight;", true)
  | 5 => ("RingArm", "policies", "[LRingArm$First;", true)
  | 6 => ("RingArm", "policy", "LRingArm$First;", false)
  | 7 => ("RingArm", "keptDisc", "LRingArm$Disc;", true)
  | 8 => ("RingArm", "keptDesk", "LRingArm$Desk;", true)
  | 9 => ("RingArm", "keptThings", "LRingArm$Things;", true)
  | 10 => ("RingArm", "keptSight", "LRingArm$Sight;", true)
  | 11 => ("RingArm", "keptPolicy", "LRingArm$First;", false)
  | 12 => ("RingArm", "imageKept", "Z", false)
  | 13 => ("RingArm", "probe", "LRingArm$Desk;", true)
  | 14 => ("RingArm", "orders", "LRingArm$Orders;", true)
  | 15 => ("RingArm", "platesRead", "I", false)
  | _ => ("RingArm", "leastDone", "I", false)
def r_T12 : u_T := fun k => match k with
  | 0 => ("RingArmModel", "page", "[I", true)
  | 1 => ("RingArmModel", "pageMany", "I", false)
  | 2 => ("RingArmModel", "end", "I", false)
  | 3 => ("RingArmModel", "rings", "I", false)
  | 4 => ("RingArmModel", "start", "I", false)
  | 5 => ("RingArmModel", "step", "I", false)
  | 6 => ("RingArmModel", "policy", "I", false)
  | 7 => ("RingArmModel", "tick", "I", false)
  | 8 => ("RingArmModel", "arm", "I", false)
  | 9 => ("RingArmModel", "inward", "I", false)
  | 10 => ("RingArmModel", "askedMany", "I", false)
  | 11 => ("RingArmModel", "platesRead", "I", false)
  | 12 => ("RingArmModel", "places", "[I", true)
  | 13 => ("RingArmModel", "offsets", "[I", true)
  | 14 => ("RingArmModel", "asked", "[I", true)
  | 15 => ("RingArmModel", "tickThen", "I", false)
  | 16 => ("RingArmModel", "armThen", "I", false)
  | 17 => ("RingArmModel", "inwardThen", "I", false)
  | 18 => ("RingArmModel", "manyThen", "I", false)
  | 19 => ("RingArmModel", "askedThen", "[I", true)
  | 20 => ("RingArmModel", "leastDone", "I", false)
  | 21 => ("RingArmModel", "soonest", "[I", true)
  | 22 => ("RingArmModel", "tried", "[I", true)
  | 23 => ("RingArmModel", "weights", "[I", true)
  | 24 => ("RingArmModel", "seenMany", "I", false)
  | 25 => ("RingArmModel", "sights", "[I", true)
  | 26 => ("RingArmModel", "seedNow", "I", false)
  | 27 => ("RingArmModel", "keptPlate", "I", false)
  | 28 => ("RingArmModel", "keptPolicy", "I", false)
  | 29 => ("RingArmModel", "keptStart", "I", false)
  | 30 => ("RingArmModel", "keptStep", "I", false)
  | 31 => ("RingArmModel", "keptTick", "I", false)
  | 32 => ("RingArmModel", "keptArm", "I", false)
  | 33 => ("RingArmModel", "keptInward", "I", false)
  | 34 => ("RingArmModel", "keptMany", "I", false)
  | 35 => ("RingArmModel", "keptSeen", "I", false)
  | 36 => ("RingArmModel", "keptOffsets", "[I", true)
  | 37 => ("RingArmModel", "keptAsked", "[I", true)
  | 38 => ("RingArmModel", "keptWeights", "[I", true)
  | 39 => ("RingArmModel", "keptSights", "[I", true)
  | _ => ("RingArmModel", "hash", "J", false)
abbrev r_cl0 : List vw_C := [("RingArm$Desk", r_T0, 9), ("RingArm$Disc", r_T1, 6), ("RingArm$First", r_T2, 0), ("RingArm$Nearest", r_T3, 0), ("RingArm$Orders", r_T4, 4), ("RingArm$Page", r_T5, 2), ("RingArm$Round", r_T6, 0), ("RingArm$Sight", r_T7, 3), ("RingArm$Soonest", r_T8, 0), ("RingArm$Sweep", r_T9, 0), ("RingArm$Things", r_T10, 4), ("RingArm", r_T11, 17), ("RingArmModel", r_T12, 41)]
theorem goodIn_r0 (ws : List Cond) (ps : List Nat) (hp : ws = ps.filterMap (fun i => tables_1[i]?)) (h : ws.all goodWord = true) : ∀ w ∈ ws, w ∈ r_wg := by
  intro w hw
  have h1 := List.all_eq_true.mp h w hw
  rw [hp] at hw
  obtain ⟨i, -, hi⟩ := List.mem_filterMap.mp hw
  exact r_in i hi h1
theorem r_lay0 : ∀ w ∈ u_ws "RingArm$Desk" r_T0 9, w ∈ r_wg := (goodIn_r0 _ [113, 115, 117, 119, 121, 123, 125, 127, 129] (by decide +kernel) (by decide +kernel))
theorem r_lay1 : ∀ w ∈ u_ws "RingArm$Disc" r_T1 6, w ∈ r_wg := (goodIn_r0 _ [58, 60, 62, 64, 66, 68] (by decide +kernel) (by decide +kernel))
theorem r_lay2 : ∀ w ∈ u_ws "RingArm$First" r_T2 0, w ∈ r_wg := (goodIn_r0 _ [] (by decide +kernel) (by decide +kernel))
theorem r_lay3 : ∀ w ∈ u_ws "RingArm$Nearest" r_T3 0, w ∈ r_wg := (goodIn_r0 _ [] (by decide +kernel) (by decide +kernel))
theorem r_lay4 : ∀ w ∈ u_ws "RingArm$Orders" r_T4 4, w ∈ r_wg := (goodIn_r0 _ [218, 220, 222, 224] (by decide +kernel) (by decide +kernel))
theorem r_lay5 : ∀ w ∈ u_ws "RingArm$Page" r_T5 2, w ∈ r_wg := (goodIn_r0 _ [34, 36] (by decide +kernel) (by decide +kernel))
theorem r_lay6 : ∀ w ∈ u_ws "RingArm$Round" r_T6 0, w ∈ r_wg := (goodIn_r0 _ [] (by decide +kernel) (by decide +kernel))
theorem r_lay7 : ∀ w ∈ u_ws "RingArm$Sight" r_T7 3, w ∈ r_wg := (goodIn_r0 _ [162, 164, 166] (by decide +kernel) (by decide +kernel))
theorem r_lay8 : ∀ w ∈ u_ws "RingArm$Soonest" r_T8 0, w ∈ r_wg := (goodIn_r0 _ [] (by decide +kernel) (by decide +kernel))
theorem r_lay9 : ∀ w ∈ u_ws "RingArm$Sweep" r_T9 0, w ∈ r_wg := (goodIn_r0 _ [] (by decide +kernel) (by decide +kernel))
theorem r_lay10 : ∀ w ∈ u_ws "RingArm$Things" r_T10 4, w ∈ r_wg := (goodIn_r0 _ [143, 145, 147, 149] (by decide +kernel) (by decide +kernel))
theorem r_lay11 : ∀ w ∈ u_ws "RingArm" r_T11 17, w ∈ r_wg := (goodIn_r0 _ [244, 246, 248, 250, 252, 254, 256, 258, 260, 262, 264, 266, 268, 270, 272, 274, 276] (by decide +kernel) (by decide +kernel))
theorem r_lay12 : ∀ w ∈ u_ws "RingArmModel" r_T12 41, w ∈ r_wg := (goodIn_r0 _ [792, 794, 796, 798, 800, 802, 804, 806, 808, 810, 812, 814, 816, 818, 820, 822, 824, 826, 828, 830, 832, 834, 836, 838, 840, 842, 844, 846, 848, 850, 852, 854, 856, 858, 860, 862, 864, 866, 868, 870, 872] (by decide +kernel) (by decide +kernel))
def m_Dk_init : r_M := (⟨"RingArm$Desk", "<init>", "(LRingArm$Disc;)V"⟩, prog_2_method_1_code, 2, none)
def m_Dk_restart : r_M := (⟨"RingArm$Desk", "restart", "()V"⟩, prog_2_method_2_code, 1, none)
def m_Dk_copyFrom : r_M := (⟨"RingArm$Desk", "copyFrom", "(LRingArm$Desk;)V"⟩, prog_2_method_3_code, 2, none)
def m_Dk_has : r_M := (⟨"RingArm$Desk", "has", "(I)Z"⟩, prog_2_method_4_code, 2, some FieldType.boolean)
def m_Dk_bitsOn : r_M := (⟨"RingArm$Desk", "bitsOn", "(I)I"⟩, prog_2_method_5_code, 4, some FieldType.int)
def m_Dk_doneAt : r_M := (⟨"RingArm$Desk", "doneAt", "(I)I"⟩, prog_2_method_6_code, 2, some FieldType.int)
def m_Dk_append : r_M := (⟨"RingArm$Desk", "append", "(II)I"⟩, prog_2_method_7_code, 3, some FieldType.int)
def m_Dk_follow : r_M := (⟨"RingArm$Desk", "follow", "(LRingArm$First;I)V"⟩, prog_2_method_8_code, 3, none)
def m_Dk_followAll : r_M := (⟨"RingArm$Desk", "followAll", "(LRingArm$First;)V"⟩, prog_2_method_9_code, 3, none)
def m_Dk_finish : r_M := (⟨"RingArm$Desk", "finish", "(I)V"⟩, prog_2_method_10_code, 4, none)
def m_Di_init : r_M := (⟨"RingArm$Disc", "<init>", "()V"⟩, prog_3_method_1_code, 1, none)
def m_Di_readFrom : r_M := (⟨"RingArm$Disc", "readFrom", "(LRingArm$Page;)V"⟩, prog_3_method_2_code, 5, none)
def m_Di_copyFrom : r_M := (⟨"RingArm$Disc", "copyFrom", "(LRingArm$Disc;)V"⟩, prog_3_method_3_code, 2, none)
def m_Di_has : r_M := (⟨"RingArm$Disc", "has", "(I)Z"⟩, prog_3_method_4_code, 2, some FieldType.boolean)
def m_Di_allPlaces : r_M := (⟨"RingArm$Disc", "allPlaces", "()I"⟩, prog_3_method_5_code, 3, some FieldType.int)
def m_Di_travel : r_M := (⟨"RingArm$Disc", "travel", "(II)I"⟩, prog_3_method_6_code, 3, some FieldType.int)
def m_Di_doneAt : r_M := (⟨"RingArm$Disc", "doneAt", "(IIII)I"⟩, prog_3_method_7_code, 8, some FieldType.int)
def m_Di_bestGap : r_M := (⟨"RingArm$Disc", "bestGap", "(II)I"⟩, prog_3_method_8_code, 6, some FieldType.int)
def m_Di_gapTicks : r_M := (⟨"RingArm$Disc", "gapTicks", "(III)I"⟩, prog_3_method_9_code, 7, some FieldType.int)
def m_Di_haveNoDivisor : r_M := (⟨"RingArm$Disc", "haveNoDivisor", "(II)Z"⟩, prog_3_method_10_code, 3, some FieldType.boolean)
def m_Fi_init : r_M := (⟨"RingArm$First", "<init>", "()V"⟩, prog_4_method_1_code, 1, none)
def m_Fi_kind : r_M := (⟨"RingArm$First", "kind", "()I"⟩, prog_4_method_2_code, 1, some FieldType.int)
def m_Fi_price : r_M := (⟨"RingArm$First", "price", "(LRingArm$Desk;I)I"⟩, prog_4_method_3_code, 3, some FieldType.int)
def m_Fi_turns : r_M := (⟨"RingArm$First", "turns", "(LRingArm$Desk;I)Z"⟩, prog_4_method_4_code, 3, some FieldType.boolean)
def m_Fi_pick : r_M := (⟨"RingArm$First", "pick", "(LRingArm$Desk;)I"⟩, prog_4_method_5_code, 6, some FieldType.int)
def m_Ne_init : r_M := (⟨"RingArm$Nearest", "<init>", "()V"⟩, prog_5_method_1_code, 1, none)
def m_Ne_kind : r_M := (⟨"RingArm$Nearest", "kind", "()I"⟩, prog_5_method_2_code, 1, some FieldType.int)
def m_Ne_price : r_M := (⟨"RingArm$Nearest", "price", "(LRingArm$Desk;I)I"⟩, prog_5_method_3_code, 3, some FieldType.int)
def m_Or_init : r_M := (⟨"RingArm$Orders", "<init>", "()V"⟩, prog_6_method_1_code, 1, none)
def m_Or_solve : r_M := (⟨"RingArm$Orders", "solve", "(LRingArm$Desk;)V"⟩, prog_6_method_2_code, 2, none)
def m_Or_search : r_M := (⟨"RingArm$Orders", "search", "(LRingArm$Orders;LRingArm$Desk;IIII)V"⟩, prog_6_method_3_code, 9, none)
def m_Pa_init : r_M := (⟨"RingArm$Page", "<init>", "()V"⟩, prog_7_method_1_code, 1, none)
def m_Pa_append : r_M := (⟨"RingArm$Page", "append", "(I)I"⟩, prog_7_method_2_code, 2, some FieldType.int)
def m_Pa_clear : r_M := (⟨"RingArm$Page", "clear", "()I"⟩, prog_7_method_3_code, 2, some FieldType.int)
def m_Pa_firstFault : r_M := (⟨"RingArm$Page", "firstFault", "()I"⟩, prog_7_method_4_code, 4, some FieldType.int)
def m_Pa_isPlate : r_M := (⟨"RingArm$Page", "isPlate", "()Z"⟩, prog_7_method_5_code, 1, some FieldType.boolean)
def m_Pa_ringsEnd : r_M := (⟨"RingArm$Page", "ringsEnd", "()I"⟩, prog_7_method_6_code, 2, some FieldType.int)
def m_Pa_policyKind : r_M := (⟨"RingArm$Page", "policyKind", "()I"⟩, prog_7_method_7_code, 1, some FieldType.int)
def m_Pa_fitsRings : r_M := (⟨"RingArm$Page", "fitsRings", "(II)Z"⟩, prog_7_method_8_code, 2, some FieldType.boolean)
def m_Pa_fitsTail : r_M := (⟨"RingArm$Page", "fitsTail", "(II)Z"⟩, prog_7_method_9_code, 2, some FieldType.boolean)
def m_Pa_placesOf : r_M := (⟨"RingArm$Page", "placesOf", "(I)I"⟩, prog_7_method_10_code, 1, some FieldType.int)
def m_Pa_kindOf : r_M := (⟨"RingArm$Page", "kindOf", "(I)I"⟩, prog_7_method_11_code, 1, some FieldType.int)
def m_Ro_init : r_M := (⟨"RingArm$Round", "<init>", "()V"⟩, prog_8_method_1_code, 1, none)
def m_Ro_kind : r_M := (⟨"RingArm$Round", "kind", "()I"⟩, prog_8_method_2_code, 1, some FieldType.int)
def m_Ro_price : r_M := (⟨"RingArm$Round", "price", "(LRingArm$Desk;I)I"⟩, prog_8_method_3_code, 4, some FieldType.int)
def m_Ro_turns : r_M := (⟨"RingArm$Round", "turns", "(LRingArm$Desk;I)Z"⟩, prog_8_method_4_code, 3, some FieldType.boolean)
def m_Si_init : r_M := (⟨"RingArm$Sight", "<init>", "()V"⟩, prog_9_method_1_code, 1, none)
def m_Si_append : r_M := (⟨"RingArm$Sight", "append", "(II)I"⟩, prog_9_method_2_code, 3, some FieldType.int)
def m_Si_clear : r_M := (⟨"RingArm$Sight", "clear", "()I"⟩, prog_9_method_3_code, 2, some FieldType.int)
def m_Si_copyFrom : r_M := (⟨"RingArm$Sight", "copyFrom", "(LRingArm$Sight;)V"⟩, prog_9_method_4_code, 2, none)
def m_Si_fitting : r_M := (⟨"RingArm$Sight", "fitting", "(I)I"⟩, prog_9_method_5_code, 4, some FieldType.int)
def m_Si_isSo : r_M := (⟨"RingArm$Sight", "isSo", "(II)Z"⟩, prog_9_method_6_code, 4, some FieldType.boolean)
def m_So_init : r_M := (⟨"RingArm$Soonest", "<init>", "()V"⟩, prog_10_method_1_code, 1, none)
def m_So_kind : r_M := (⟨"RingArm$Soonest", "kind", "()I"⟩, prog_10_method_2_code, 1, some FieldType.int)
def m_So_price : r_M := (⟨"RingArm$Soonest", "price", "(LRingArm$Desk;I)I"⟩, prog_10_method_3_code, 3, some FieldType.int)
def m_Sw_init : r_M := (⟨"RingArm$Sweep", "<init>", "()V"⟩, prog_11_method_1_code, 1, none)
def m_Sw_kind : r_M := (⟨"RingArm$Sweep", "kind", "()I"⟩, prog_11_method_2_code, 1, some FieldType.int)
def m_Sw_price : r_M := (⟨"RingArm$Sweep", "price", "(LRingArm$Desk;I)I"⟩, prog_11_method_3_code, 4, some FieldType.int)
def m_Sw_turns : r_M := (⟨"RingArm$Sweep", "turns", "(LRingArm$Desk;I)Z"⟩, prog_11_method_4_code, 3, some FieldType.boolean)
def m_Sw_isAhead : r_M := (⟨"RingArm$Sweep", "isAhead", "(LRingArm$Desk;I)Z"⟩, prog_11_method_5_code, 3, some FieldType.boolean)
def m_Th_init : r_M := (⟨"RingArm$Things", "<init>", "()V"⟩, prog_12_method_1_code, 1, none)
def m_Th_clear : r_M := (⟨"RingArm$Things", "clear", "()V"⟩, prog_12_method_2_code, 2, none)
def m_Th_copyFrom : r_M := (⟨"RingArm$Things", "copyFrom", "(LRingArm$Things;)V"⟩, prog_12_method_3_code, 2, none)
def m_Th_howMany : r_M := (⟨"RingArm$Things", "howMany", "()I"⟩, prog_12_method_4_code, 3, some FieldType.int)
def m_Th_solve : r_M := (⟨"RingArm$Things", "solve", "()V"⟩, prog_12_method_5_code, 1, none)
def m_Th_told : r_M := (⟨"RingArm$Things", "told", "(I)I"⟩, prog_12_method_6_code, 2, some FieldType.int)
def m_Th_search : r_M := (⟨"RingArm$Things", "search", "(LRingArm$Things;IIII)V"⟩, prog_12_method_7_code, 6, none)
def m_Th_share : r_M := (⟨"RingArm$Things", "share", "(I)I"⟩, prog_12_method_8_code, 4, some FieldType.int)
def m_Ra_init : r_M := (⟨"RingArm", "<init>", "()V"⟩, prog_1_method_1_code, 1, none)
def m_Ra_letter : r_M := (⟨"RingArm", "letter", "(I)I"⟩, prog_1_method_2_code, 2, some FieldType.int)
def m_Ra_blank : r_M := (⟨"RingArm", "blank", "()I"⟩, prog_1_method_3_code, 1, some FieldType.int)
def m_Ra_fault : r_M := (⟨"RingArm", "fault", "()I"⟩, prog_1_method_4_code, 1, some FieldType.int)
def m_Ra_plate : r_M := (⟨"RingArm", "plate", "()I"⟩, prog_1_method_5_code, 1, some FieldType.int)
def m_Ra_ring : r_M := (⟨"RingArm", "ring", "(II)I"⟩, prog_1_method_6_code, 3, some FieldType.int)
def m_Ra_asked : r_M := (⟨"RingArm", "asked", "(II)I"⟩, prog_1_method_7_code, 3, some FieldType.int)
def m_Ra_as : r_M := (⟨"RingArm", "as", "(I)I"⟩, prog_1_method_8_code, 2, some FieldType.int)
def m_Ra_next : r_M := (⟨"RingArm", "next", "()I"⟩, prog_1_method_9_code, 1, some FieldType.int)
def m_Ra_ask : r_M := (⟨"RingArm", "ask", "(II)I"⟩, prog_1_method_10_code, 3, some FieldType.int)
def m_Ra_serve : r_M := (⟨"RingArm", "serve", "()I"⟩, prog_1_method_11_code, 2, some FieldType.int)
def m_Ra_read : r_M := (⟨"RingArm", "read", "(I)I"⟩, prog_1_method_12_code, 2, some FieldType.int)
def m_Ra_pass : r_M := (⟨"RingArm", "pass", "(I)I"⟩, prog_1_method_13_code, 2, some FieldType.int)
def m_Ra_choose : r_M := (⟨"RingArm", "choose", "(I)I"⟩, prog_1_method_14_code, 3, some FieldType.int)
def m_Ra_skew : r_M := (⟨"RingArm", "skew", "(II)I"⟩, prog_1_method_15_code, 4, some FieldType.int)
def m_Ra_gear : r_M := (⟨"RingArm", "gear", "(II)I"⟩, prog_1_method_16_code, 4, some FieldType.int)
def m_Ra_run : r_M := (⟨"RingArm", "run", "(II)I"⟩, prog_1_method_17_code, 3, some FieldType.int)
def m_Ra_least : r_M := (⟨"RingArm", "least", "(I)I"⟩, prog_1_method_18_code, 2, some FieldType.int)
def m_Ra_weigh : r_M := (⟨"RingArm", "weigh", "(II)I"⟩, prog_1_method_19_code, 4, some FieldType.int)
def m_Ra_lay : r_M := (⟨"RingArm", "lay", "(I)I"⟩, prog_1_method_20_code, 2, some FieldType.int)
def m_Ra_behind : r_M := (⟨"RingArm", "behind", "(III)I"⟩, prog_1_method_21_code, 7, some FieldType.int)
def m_Ra_apart : r_M := (⟨"RingArm", "apart", "(III)I"⟩, prog_1_method_22_code, 5, some FieldType.int)
def m_Ra_see : r_M := (⟨"RingArm", "see", "(II)I"⟩, prog_1_method_23_code, 3, some FieldType.int)
def m_Ra_forget : r_M := (⟨"RingArm", "forget", "()I"⟩, prog_1_method_24_code, 1, some FieldType.int)
def m_Ra_steps : r_M := (⟨"RingArm", "steps", "()I"⟩, prog_1_method_25_code, 1, some FieldType.int)
def m_Ra_trial : r_M := (⟨"RingArm", "trial", "()I"⟩, prog_1_method_26_code, 1, some FieldType.int)
def m_Ra_days : r_M := (⟨"RingArm", "days", "(III)I"⟩, prog_1_method_27_code, 5, some FieldType.int)
def m_Ra_image : r_M := (⟨"RingArm", "image", "()I"⟩, prog_1_method_28_code, 1, some FieldType.int)
def m_Ra_restore : r_M := (⟨"RingArm", "restore", "()I"⟩, prog_1_method_29_code, 1, some FieldType.int)
def m_Ra_count : r_M := (⟨"RingArm", "count", "(I)I"⟩, prog_1_method_30_code, 2, some FieldType.int)
def m_Ra_digest : r_M := (⟨"RingArm", "digest", "()J"⟩, prog_1_method_31_code, 4, some FieldType.long)
def m_Ra_mixRings : r_M := (⟨"RingArm", "mixRings", "(J)J"⟩, prog_1_method_32_code, 5, some FieldType.long)
def m_Ra_mixAsked : r_M := (⟨"RingArm", "mixAsked", "(J)J"⟩, prog_1_method_33_code, 5, some FieldType.long)
def m_Ra_mixChoices : r_M := (⟨"RingArm", "mixChoices", "(J)J"⟩, prog_1_method_34_code, 4, some FieldType.long)
def m_Ra_mixBests : r_M := (⟨"RingArm", "mixBests", "(J)J"⟩, prog_1_method_35_code, 4, some FieldType.long)
def m_Ra_mix : r_M := (⟨"RingArm", "mix", "(JJ)J"⟩, prog_1_method_36_code, 4, some FieldType.long)
def m_Ra_hasPlate : r_M := (⟨"RingArm", "hasPlate", "()Z"⟩, prog_1_method_37_code, 1, some FieldType.boolean)
def m_Ra_isKind : r_M := (⟨"RingArm", "isKind", "(I)Z"⟩, prog_1_method_38_code, 1, some FieldType.boolean)
def m_Ra_policyOf : r_M := (⟨"RingArm", "policyOf", "(I)LRingArm$First;"⟩, prog_1_method_39_code, 3, some (FieldType.object "RingArm$First"))
def m_Ra_isOf : r_M := (⟨"RingArm", "isOf", "(LRingArm$First;I)Z"⟩, prog_1_method_40_code, 2, some FieldType.boolean)
def m_Ra_playDays : r_M := (⟨"RingArm", "playDays", "(II)I"⟩, prog_1_method_41_code, 6, some FieldType.int)
def m_Ra_nextSeed : r_M := (⟨"RingArm", "nextSeed", "(I)I"⟩, prog_1_method_42_code, 1, some FieldType.int)
def m_Ra_drawn : r_M := (⟨"RingArm", "drawn", "(II)I"⟩, prog_1_method_43_code, 2, some FieldType.int)
def m_Ra_bestTry : r_M := (⟨"RingArm", "bestTry", "(I)I"⟩, prog_1_method_44_code, 5, some FieldType.int)
def m_Ra_worstLeft : r_M := (⟨"RingArm", "worstLeft", "(II)I"⟩, prog_1_method_45_code, 6, some FieldType.int)
def m_Ra_hasBit : r_M := (⟨"RingArm", "hasBit", "(II)Z"⟩, prog_1_method_46_code, 2, some FieldType.boolean)
def m_Ra_at : r_M := (⟨"RingArm", "at", "([II)I"⟩, prog_1_method_47_code, 2, some FieldType.int)
def m_Ra_put : r_M := (⟨"RingArm", "put", "([III)V"⟩, prog_1_method_48_code, 3, none)
def m_Ra_copyRow : r_M := (⟨"RingArm", "copyRow", "([I[I)V"⟩, prog_1_method_49_code, 3, none)
def m_Mo_init : r_M := (⟨"RingArmModel", "<init>", "()V"⟩, prog_14_method_1_code, 1, none)
def m_Mo_in : r_M := (⟨"RingArmModel", "in", "(JJJ)Z"⟩, prog_14_method_2_code, 6, some FieldType.boolean)
def m_Mo_copy : r_M := (⟨"RingArmModel", "copy", "([I[I)V"⟩, prog_14_method_3_code, 3, none)
def m_Mo_letter : r_M := (⟨"RingArmModel", "letter", "(I)I"⟩, prog_14_method_4_code, 2, some FieldType.int)
def m_Mo_blank : r_M := (⟨"RingArmModel", "blank", "()I"⟩, prog_14_method_5_code, 2, some FieldType.int)
def m_Mo_placesBy : r_M := (⟨"RingArmModel", "placesBy", "(I)I"⟩, prog_14_method_6_code, 1, some FieldType.int)
def m_Mo_kindBy : r_M := (⟨"RingArmModel", "kindBy", "(I)I"⟩, prog_14_method_7_code, 1, some FieldType.int)
def m_Mo_isRingLetter : r_M := (⟨"RingArmModel", "isRingLetter", "(I)Z"⟩, prog_14_method_8_code, 3, some FieldType.boolean)
def m_Mo_isGood : r_M := (⟨"RingArmModel", "isGood", "(I)Z"⟩, prog_14_method_9_code, 3, some FieldType.boolean)
def m_Mo_faultOf : r_M := (⟨"RingArmModel", "faultOf", "()I"⟩, prog_14_method_10_code, 2, some FieldType.int)
def m_Mo_fault : r_M := (⟨"RingArmModel", "fault", "()I"⟩, prog_14_method_11_code, 1, some FieldType.int)
def m_Mo_plate : r_M := (⟨"RingArmModel", "plate", "()I"⟩, prog_14_method_12_code, 2, some FieldType.int)
def m_Mo_lacks : r_M := (⟨"RingArmModel", "lacks", "()Z"⟩, prog_14_method_13_code, 1, some FieldType.boolean)
def m_Mo_isRing : r_M := (⟨"RingArmModel", "isRing", "(I)Z"⟩, prog_14_method_14_code, 2, some FieldType.boolean)
def m_Mo_travel : r_M := (⟨"RingArmModel", "travel", "(II)I"⟩, prog_14_method_15_code, 4, some FieldType.int)
def m_Mo_lasts : r_M := (⟨"RingArmModel", "lasts", "(I)I"⟩, prog_14_method_16_code, 2, some FieldType.int)
def m_Mo_doneBy : r_M := (⟨"RingArmModel", "doneBy", "(IIII)I"⟩, prog_14_method_17_code, 8, some FieldType.int)
def m_Mo_begin : r_M := (⟨"RingArmModel", "begin", "()V"⟩, prog_14_method_18_code, 1, none)
def m_Mo_keep : r_M := (⟨"RingArmModel", "keep", "()V"⟩, prog_14_method_19_code, 1, none)
def m_Mo_doneThen : r_M := (⟨"RingArmModel", "doneThen", "(I)I"⟩, prog_14_method_20_code, 2, some FieldType.int)
def m_Mo_awayThen : r_M := (⟨"RingArmModel", "awayThen", "(II)I"⟩, prog_14_method_21_code, 4, some FieldType.int)
def m_Mo_nearestThen : r_M := (⟨"RingArmModel", "nearestThen", "(I)I"⟩, prog_14_method_22_code, 6, some FieldType.int)
def m_Mo_soonestThen : r_M := (⟨"RingArmModel", "soonestThen", "()I"⟩, prog_14_method_23_code, 3, some FieldType.int)
def m_Mo_outermostThen : r_M := (⟨"RingArmModel", "outermostThen", "()I"⟩, prog_14_method_24_code, 3, some FieldType.int)
def m_Mo_nextThen : r_M := (⟨"RingArmModel", "nextThen", "(I)I"⟩, prog_14_method_25_code, 3, some FieldType.int)
def m_Mo_goTo : r_M := (⟨"RingArmModel", "goTo", "(I)I"⟩, prog_14_method_26_code, 4, some FieldType.int)
def m_Mo_askThen : r_M := (⟨"RingArmModel", "askThen", "(II)I"⟩, prog_14_method_27_code, 3, some FieldType.int)
def m_Mo_askedOn : r_M := (⟨"RingArmModel", "askedOn", "(I)I"⟩, prog_14_method_28_code, 4, some FieldType.int)
def m_Mo_tellRing : r_M := (⟨"RingArmModel", "tellRing", "(II)I"⟩, prog_14_method_29_code, 3, some FieldType.int)
def m_Mo_ring : r_M := (⟨"RingArmModel", "ring", "(II)I"⟩, prog_14_method_30_code, 3, some FieldType.int)
def m_Mo_tellAsked : r_M := (⟨"RingArmModel", "tellAsked", "(II)I"⟩, prog_14_method_31_code, 3, some FieldType.int)
def m_Mo_asked : r_M := (⟨"RingArmModel", "asked", "(II)I"⟩, prog_14_method_32_code, 3, some FieldType.int)
def m_Mo_as : r_M := (⟨"RingArmModel", "as", "(I)I"⟩, prog_14_method_33_code, 3, some FieldType.int)
def m_Mo_nextOf : r_M := (⟨"RingArmModel", "nextOf", "()I"⟩, prog_14_method_34_code, 1, some FieldType.int)
def m_Mo_next : r_M := (⟨"RingArmModel", "next", "()I"⟩, prog_14_method_35_code, 1, some FieldType.int)
def m_Mo_ask : r_M := (⟨"RingArmModel", "ask", "(II)I"⟩, prog_14_method_36_code, 3, some FieldType.int)
def m_Mo_doneNow : r_M := (⟨"RingArmModel", "doneNow", "(I)I"⟩, prog_14_method_37_code, 2, some FieldType.int)
def m_Mo_serve : r_M := (⟨"RingArmModel", "serve", "()I"⟩, prog_14_method_38_code, 1, some FieldType.int)
def m_Mo_read : r_M := (⟨"RingArmModel", "read", "(I)I"⟩, prog_14_method_39_code, 2, some FieldType.int)
def m_Mo_pass : r_M := (⟨"RingArmModel", "pass", "(I)I"⟩, prog_14_method_40_code, 2, some FieldType.int)
def m_Mo_choose : r_M := (⟨"RingArmModel", "choose", "(I)I"⟩, prog_14_method_41_code, 3, some FieldType.int)
def m_Mo_skew : r_M := (⟨"RingArmModel", "skew", "(II)I"⟩, prog_14_method_42_code, 4, some FieldType.int)
def m_Mo_gear : r_M := (⟨"RingArmModel", "gear", "(II)I"⟩, prog_14_method_43_code, 4, some FieldType.int)
def m_Mo_runOf : r_M := (⟨"RingArmModel", "runOf", "(II)I"⟩, prog_14_method_44_code, 4, some FieldType.int)
def m_Mo_run : r_M := (⟨"RingArmModel", "run", "(II)I"⟩, prog_14_method_45_code, 3, some FieldType.int)
def m_Mo_laySoonest : r_M := (⟨"RingArmModel", "laySoonest", "()V"⟩, prog_14_method_46_code, 7, none)
def m_Mo_factorial : r_M := (⟨"RingArmModel", "factorial", "(I)I"⟩, prog_14_method_47_code, 3, some FieldType.int)
def m_Mo_layTried : r_M := (⟨"RingArmModel", "layTried", "(II)V"⟩, prog_14_method_48_code, 9, none)
def m_Mo_endOfTried : r_M := (⟨"RingArmModel", "endOfTried", "()I"⟩, prog_14_method_49_code, 5, some FieldType.int)
def m_Mo_leastOf : r_M := (⟨"RingArmModel", "leastOf", "(I)I"⟩, prog_14_method_50_code, 5, some FieldType.int)
def m_Mo_least : r_M := (⟨"RingArmModel", "least", "(I)I"⟩, prog_14_method_51_code, 2, some FieldType.int)
def m_Mo_things : r_M := (⟨"RingArmModel", "things", "()I"⟩, prog_14_method_52_code, 3, some FieldType.int)
def m_Mo_weigh : r_M := (⟨"RingArmModel", "weigh", "(II)I"⟩, prog_14_method_53_code, 4, some FieldType.int)
def m_Mo_priceOfTried : r_M := (⟨"RingArmModel", "priceOfTried", "(I)I"⟩, prog_14_method_54_code, 6, some FieldType.int)
def m_Mo_layOf : r_M := (⟨"RingArmModel", "layOf", "(I)I"⟩, prog_14_method_55_code, 7, some FieldType.int)
def m_Mo_lay : r_M := (⟨"RingArmModel", "lay", "(I)I"⟩, prog_14_method_56_code, 2, some FieldType.int)
def m_Mo_behindOf : r_M := (⟨"RingArmModel", "behindOf", "(III)I"⟩, prog_14_method_57_code, 7, some FieldType.int)
def m_Mo_behind : r_M := (⟨"RingArmModel", "behind", "(III)I"⟩, prog_14_method_58_code, 4, some FieldType.int)
def m_Mo_common : r_M := (⟨"RingArmModel", "common", "(II)I"⟩, prog_14_method_59_code, 5, some FieldType.int)
def m_Mo_allBy : r_M := (⟨"RingArmModel", "allBy", "(III)I"⟩, prog_14_method_60_code, 8, some FieldType.int)
def m_Mo_apartOf : r_M := (⟨"RingArmModel", "apartOf", "(III)I"⟩, prog_14_method_61_code, 8, some FieldType.int)
def m_Mo_apart : r_M := (⟨"RingArmModel", "apart", "(III)I"⟩, prog_14_method_62_code, 4, some FieldType.int)
def m_Mo_see : r_M := (⟨"RingArmModel", "see", "(II)I"⟩, prog_14_method_63_code, 3, some FieldType.int)
def m_Mo_forget : r_M := (⟨"RingArmModel", "forget", "()I"⟩, prog_14_method_64_code, 2, some FieldType.int)
def m_Mo_stepsOf : r_M := (⟨"RingArmModel", "stepsOf", "()I"⟩, prog_14_method_65_code, 5, some FieldType.int)
def m_Mo_steps : r_M := (⟨"RingArmModel", "steps", "()I"⟩, prog_14_method_66_code, 1, some FieldType.int)
def m_Mo_trialOf : r_M := (⟨"RingArmModel", "trialOf", "()I"⟩, prog_14_method_67_code, 9, some FieldType.int)
def m_Mo_trial : r_M := (⟨"RingArmModel", "trial", "()I"⟩, prog_14_method_68_code, 1, some FieldType.int)
def m_Mo_draw : r_M := (⟨"RingArmModel", "draw", "(I)I"⟩, prog_14_method_69_code, 2, some FieldType.int)
def m_Mo_days : r_M := (⟨"RingArmModel", "days", "(III)I"⟩, prog_14_method_70_code, 7, some FieldType.int)
def m_Mo_image : r_M := (⟨"RingArmModel", "image", "()I"⟩, prog_14_method_71_code, 1, some FieldType.int)
def m_Mo_restore : r_M := (⟨"RingArmModel", "restore", "()I"⟩, prog_14_method_72_code, 1, some FieldType.int)
def m_Mo_placesAll : r_M := (⟨"RingArmModel", "placesAll", "()I"⟩, prog_14_method_73_code, 3, some FieldType.int)
def m_Mo_countOf : r_M := (⟨"RingArmModel", "countOf", "(I)I"⟩, prog_14_method_74_code, 2, some FieldType.int)
def m_Mo_count : r_M := (⟨"RingArmModel", "count", "(I)I"⟩, prog_14_method_75_code, 2, some FieldType.int)
def m_Mo_say : r_M := (⟨"RingArmModel", "say", "(J)V"⟩, prog_14_method_76_code, 3, none)
def m_Mo_sayPlate : r_M := (⟨"RingArmModel", "sayPlate", "()V"⟩, prog_14_method_77_code, 2, none)
def m_Mo_digest : r_M := (⟨"RingArmModel", "digest", "()J"⟩, prog_14_method_78_code, 3, some FieldType.long)
def m_Jm_floorMod : r_M := (⟨"java/lang/Math", "floorMod", "(II)I"⟩, prog_15_method_50_code, 3, some FieldType.int)
def m_Jm_abs : r_M := (⟨"java/lang/Math", "abs", "(I)I"⟩, prog_15_method_59_code, 1, some FieldType.int)
def m_Jm_max : r_M := (⟨"java/lang/Math", "max", "(II)I"⟩, prog_15_method_65_code, 2, some FieldType.int)
def m_Jm_min : r_M := (⟨"java/lang/Math", "min", "(II)I"⟩, prog_15_method_69_code, 2, some FieldType.int)
def m_Lw_law : r_M := (⟨"RingArmLaw", "law", "([I)Z"⟩, code, 4, some .boolean)
