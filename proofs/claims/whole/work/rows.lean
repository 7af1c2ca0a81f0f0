section
-- ===== PART A: goes FIRST, ahead of the names: the tables' words, and 'selects' of the private methods out of them =====
/-- a private method of a class that the tables say can be made, by its rows of tables_1 -/
def lw_okq (q : MethodName × Nat) : Prop := (q.1.cls ≠ "java/lang/invoke/MethodHandle" ∧ q.1.cls ≠ "java/lang/invoke/VarHandle") ∧ Cond.instantiable q.1.cls q.2 ∈ tables_1 ∧ Cond.privateMethod q.1 ∈ tables_1 ∧ Cond.instanceMethod q.1 ∈ tables_1
theorem lw_p0 : lw_okq (⟨"RingArm", "policyOf", "(I)LRingArm$First;"⟩, 17) := ⟨⟨by decide +kernel, by decide +kernel⟩, List.mem_of_getElem? (i := 16) (by decide +kernel), List.mem_of_getElem? (i := 339) (by decide +kernel), List.mem_of_getElem? (i := 340) (by decide +kernel)⟩
theorem lw_p1 : lw_okq (⟨"RingArm", "hasPlate", "()Z"⟩, 17) := ⟨⟨by decide +kernel, by decide +kernel⟩, List.mem_of_getElem? (i := 16) (by decide +kernel), List.mem_of_getElem? (i := 412) (by decide +kernel), List.mem_of_getElem? (i := 413) (by decide +kernel)⟩
theorem lw_p2 : lw_okq (⟨"RingArm$Things", "share", "(I)I"⟩, 4) := ⟨⟨by decide +kernel, by decide +kernel⟩, List.mem_of_getElem? (i := 133) (by decide +kernel), List.mem_of_getElem? (i := 596) (by decide +kernel), List.mem_of_getElem? (i := 597) (by decide +kernel)⟩
theorem lw_p3 : lw_okq (⟨"RingArm$Sight", "isSo", "(II)Z"⟩, 3) := ⟨⟨by decide +kernel, by decide +kernel⟩, List.mem_of_getElem? (i := 153) (by decide +kernel), List.mem_of_getElem? (i := 647) (by decide +kernel), List.mem_of_getElem? (i := 648) (by decide +kernel)⟩
theorem lw_p4 : lw_okq (⟨"RingArm", "playDays", "(II)I"⟩, 17) := ⟨⟨by decide +kernel, by decide +kernel⟩, List.mem_of_getElem? (i := 16) (by decide +kernel), List.mem_of_getElem? (i := 672) (by decide +kernel), List.mem_of_getElem? (i := 673) (by decide +kernel)⟩
theorem lw_p5 : lw_okq (⟨"RingArm", "mixRings", "(J)J"⟩, 17) := ⟨⟨by decide +kernel, by decide +kernel⟩, List.mem_of_getElem? (i := 16) (by decide +kernel), List.mem_of_getElem? (i := 722) (by decide +kernel), List.mem_of_getElem? (i := 723) (by decide +kernel)⟩
theorem lw_p6 : lw_okq (⟨"RingArm", "mixAsked", "(J)J"⟩, 17) := ⟨⟨by decide +kernel, by decide +kernel⟩, List.mem_of_getElem? (i := 16) (by decide +kernel), List.mem_of_getElem? (i := 731) (by decide +kernel), List.mem_of_getElem? (i := 732) (by decide +kernel)⟩
theorem lw_p7 : lw_okq (⟨"RingArm", "mixChoices", "(J)J"⟩, 17) := ⟨⟨by decide +kernel, by decide +kernel⟩, List.mem_of_getElem? (i := 16) (by decide +kernel), List.mem_of_getElem? (i := 736) (by decide +kernel), List.mem_of_getElem? (i := 737) (by decide +kernel)⟩
theorem lw_p8 : lw_okq (⟨"RingArm", "mixBests", "(J)J"⟩, 17) := ⟨⟨by decide +kernel, by decide +kernel⟩, List.mem_of_getElem? (i := 16) (by decide +kernel), List.mem_of_getElem? (i := 740) (by decide +kernel), List.mem_of_getElem? (i := 741) (by decide +kernel)⟩
theorem lw_p9 : lw_okq (⟨"RingArmModel", "faultOf", "()I"⟩, 41) := ⟨⟨by decide +kernel, by decide +kernel⟩, List.mem_of_getElem? (i := 746) (by decide +kernel), List.mem_of_getElem? (i := 892) (by decide +kernel), List.mem_of_getElem? (i := 893) (by decide +kernel)⟩
theorem lw_p10 : lw_okq (⟨"RingArmModel", "isGood", "(I)Z"⟩, 41) := ⟨⟨by decide +kernel, by decide +kernel⟩, List.mem_of_getElem? (i := 746) (by decide +kernel), List.mem_of_getElem? (i := 896) (by decide +kernel), List.mem_of_getElem? (i := 897) (by decide +kernel)⟩
theorem lw_p11 : lw_okq (⟨"RingArmModel", "isRingLetter", "(I)Z"⟩, 41) := ⟨⟨by decide +kernel, by decide +kernel⟩, List.mem_of_getElem? (i := 746) (by decide +kernel), List.mem_of_getElem? (i := 900) (by decide +kernel), List.mem_of_getElem? (i := 901) (by decide +kernel)⟩
theorem lw_p12 : lw_okq (⟨"RingArmModel", "isRing", "(I)Z"⟩, 41) := ⟨⟨by decide +kernel, by decide +kernel⟩, List.mem_of_getElem? (i := 746) (by decide +kernel), List.mem_of_getElem? (i := 923) (by decide +kernel), List.mem_of_getElem? (i := 924) (by decide +kernel)⟩
theorem lw_p13 : lw_okq (⟨"RingArmModel", "tellRing", "(II)I"⟩, 41) := ⟨⟨by decide +kernel, by decide +kernel⟩, List.mem_of_getElem? (i := 746) (by decide +kernel), List.mem_of_getElem? (i := 927) (by decide +kernel), List.mem_of_getElem? (i := 928) (by decide +kernel)⟩
theorem lw_p14 : lw_okq (⟨"RingArmModel", "lasts", "(I)I"⟩, 41) := ⟨⟨by decide +kernel, by decide +kernel⟩, List.mem_of_getElem? (i := 746) (by decide +kernel), List.mem_of_getElem? (i := 931) (by decide +kernel), List.mem_of_getElem? (i := 932) (by decide +kernel)⟩
theorem lw_p15 : lw_okq (⟨"RingArmModel", "askedOn", "(I)I"⟩, 41) := ⟨⟨by decide +kernel, by decide +kernel⟩, List.mem_of_getElem? (i := 746) (by decide +kernel), List.mem_of_getElem? (i := 935) (by decide +kernel), List.mem_of_getElem? (i := 936) (by decide +kernel)⟩
def lw_privs_1 : List (MethodName × Nat) := [(⟨"RingArm", "policyOf", "(I)LRingArm$First;"⟩, 17), (⟨"RingArm", "hasPlate", "()Z"⟩, 17), (⟨"RingArm$Things", "share", "(I)I"⟩, 4), (⟨"RingArm$Sight", "isSo", "(II)Z"⟩, 3), (⟨"RingArm", "playDays", "(II)I"⟩, 17), (⟨"RingArm", "mixRings", "(J)J"⟩, 17), (⟨"RingArm", "mixAsked", "(J)J"⟩, 17), (⟨"RingArm", "mixChoices", "(J)J"⟩, 17), (⟨"RingArm", "mixBests", "(J)J"⟩, 17), (⟨"RingArmModel", "faultOf", "()I"⟩, 41), (⟨"RingArmModel", "isGood", "(I)Z"⟩, 41), (⟨"RingArmModel", "isRingLetter", "(I)Z"⟩, 41), (⟨"RingArmModel", "isRing", "(I)Z"⟩, 41), (⟨"RingArmModel", "tellRing", "(II)I"⟩, 41), (⟨"RingArmModel", "lasts", "(I)I"⟩, 41), (⟨"RingArmModel", "askedOn", "(I)I"⟩, 41)]
theorem lw_r1 : ∀ q ∈ lw_privs_1, lw_okq q := List.forall_mem_cons.mpr ⟨lw_p0, List.forall_mem_cons.mpr ⟨lw_p1, List.forall_mem_cons.mpr ⟨lw_p2, List.forall_mem_cons.mpr ⟨lw_p3, List.forall_mem_cons.mpr ⟨lw_p4, List.forall_mem_cons.mpr ⟨lw_p5, List.forall_mem_cons.mpr ⟨lw_p6, List.forall_mem_cons.mpr ⟨lw_p7, List.forall_mem_cons.mpr ⟨lw_p8, List.forall_mem_cons.mpr ⟨lw_p9, List.forall_mem_cons.mpr ⟨lw_p10, List.forall_mem_cons.mpr ⟨lw_p11, List.forall_mem_cons.mpr ⟨lw_p12, List.forall_mem_cons.mpr ⟨lw_p13, List.forall_mem_cons.mpr ⟨lw_p14, List.forall_mem_cons.mpr ⟨lw_p15, fun _ h => absurd h List.not_mem_nil⟩⟩⟩⟩⟩⟩⟩⟩⟩⟩⟩⟩⟩⟩⟩⟩
theorem lw_p16 : lw_okq (⟨"RingArmModel", "travel", "(II)I"⟩, 41) := ⟨⟨by decide +kernel, by decide +kernel⟩, List.mem_of_getElem? (i := 746) (by decide +kernel), List.mem_of_getElem? (i := 939) (by decide +kernel), List.mem_of_getElem? (i := 940) (by decide +kernel)⟩
theorem lw_p17 : lw_okq (⟨"RingArmModel", "tellAsked", "(II)I"⟩, 41) := ⟨⟨by decide +kernel, by decide +kernel⟩, List.mem_of_getElem? (i := 746) (by decide +kernel), List.mem_of_getElem? (i := 948) (by decide +kernel), List.mem_of_getElem? (i := 949) (by decide +kernel)⟩
theorem lw_p18 : lw_okq (⟨"RingArmModel", "begin", "()V"⟩, 41) := ⟨⟨by decide +kernel, by decide +kernel⟩, List.mem_of_getElem? (i := 746) (by decide +kernel), List.mem_of_getElem? (i := 952) (by decide +kernel), List.mem_of_getElem? (i := 953) (by decide +kernel)⟩
theorem lw_p19 : lw_okq (⟨"RingArmModel", "doneThen", "(I)I"⟩, 41) := ⟨⟨by decide +kernel, by decide +kernel⟩, List.mem_of_getElem? (i := 746) (by decide +kernel), List.mem_of_getElem? (i := 959) (by decide +kernel), List.mem_of_getElem? (i := 960) (by decide +kernel)⟩
theorem lw_p20 : lw_okq (⟨"RingArmModel", "doneBy", "(IIII)I"⟩, 41) := ⟨⟨by decide +kernel, by decide +kernel⟩, List.mem_of_getElem? (i := 746) (by decide +kernel), List.mem_of_getElem? (i := 963) (by decide +kernel), List.mem_of_getElem? (i := 964) (by decide +kernel)⟩
theorem lw_p21 : lw_okq (⟨"RingArmModel", "lacks", "()Z"⟩, 41) := ⟨⟨by decide +kernel, by decide +kernel⟩, List.mem_of_getElem? (i := 746) (by decide +kernel), List.mem_of_getElem? (i := 972) (by decide +kernel), List.mem_of_getElem? (i := 973) (by decide +kernel)⟩
theorem lw_p22 : lw_okq (⟨"RingArmModel", "nextOf", "()I"⟩, 41) := ⟨⟨by decide +kernel, by decide +kernel⟩, List.mem_of_getElem? (i := 746) (by decide +kernel), List.mem_of_getElem? (i := 980) (by decide +kernel), List.mem_of_getElem? (i := 981) (by decide +kernel)⟩
theorem lw_p23 : lw_okq (⟨"RingArmModel", "nextThen", "(I)I"⟩, 41) := ⟨⟨by decide +kernel, by decide +kernel⟩, List.mem_of_getElem? (i := 746) (by decide +kernel), List.mem_of_getElem? (i := 984) (by decide +kernel), List.mem_of_getElem? (i := 985) (by decide +kernel)⟩
theorem lw_p24 : lw_okq (⟨"RingArmModel", "nearestThen", "(I)I"⟩, 41) := ⟨⟨by decide +kernel, by decide +kernel⟩, List.mem_of_getElem? (i := 746) (by decide +kernel), List.mem_of_getElem? (i := 988) (by decide +kernel), List.mem_of_getElem? (i := 989) (by decide +kernel)⟩
theorem lw_p25 : lw_okq (⟨"RingArmModel", "awayThen", "(II)I"⟩, 41) := ⟨⟨by decide +kernel, by decide +kernel⟩, List.mem_of_getElem? (i := 746) (by decide +kernel), List.mem_of_getElem? (i := 992) (by decide +kernel), List.mem_of_getElem? (i := 993) (by decide +kernel)⟩
theorem lw_p26 : lw_okq (⟨"RingArmModel", "outermostThen", "()I"⟩, 41) := ⟨⟨by decide +kernel, by decide +kernel⟩, List.mem_of_getElem? (i := 746) (by decide +kernel), List.mem_of_getElem? (i := 996) (by decide +kernel), List.mem_of_getElem? (i := 997) (by decide +kernel)⟩
theorem lw_p27 : lw_okq (⟨"RingArmModel", "soonestThen", "()I"⟩, 41) := ⟨⟨by decide +kernel, by decide +kernel⟩, List.mem_of_getElem? (i := 746) (by decide +kernel), List.mem_of_getElem? (i := 1000) (by decide +kernel), List.mem_of_getElem? (i := 1001) (by decide +kernel)⟩
theorem lw_p28 : lw_okq (⟨"RingArmModel", "askThen", "(II)I"⟩, 41) := ⟨⟨by decide +kernel, by decide +kernel⟩, List.mem_of_getElem? (i := 746) (by decide +kernel), List.mem_of_getElem? (i := 1008) (by decide +kernel), List.mem_of_getElem? (i := 1009) (by decide +kernel)⟩
theorem lw_p29 : lw_okq (⟨"RingArmModel", "keep", "()V"⟩, 41) := ⟨⟨by decide +kernel, by decide +kernel⟩, List.mem_of_getElem? (i := 746) (by decide +kernel), List.mem_of_getElem? (i := 1012) (by decide +kernel), List.mem_of_getElem? (i := 1013) (by decide +kernel)⟩
theorem lw_p30 : lw_okq (⟨"RingArmModel", "doneNow", "(I)I"⟩, 41) := ⟨⟨by decide +kernel, by decide +kernel⟩, List.mem_of_getElem? (i := 746) (by decide +kernel), List.mem_of_getElem? (i := 1020) (by decide +kernel), List.mem_of_getElem? (i := 1021) (by decide +kernel)⟩
theorem lw_p31 : lw_okq (⟨"RingArmModel", "goTo", "(I)I"⟩, 41) := ⟨⟨by decide +kernel, by decide +kernel⟩, List.mem_of_getElem? (i := 746) (by decide +kernel), List.mem_of_getElem? (i := 1024) (by decide +kernel), List.mem_of_getElem? (i := 1025) (by decide +kernel)⟩
def lw_privs_2 : List (MethodName × Nat) := [(⟨"RingArmModel", "travel", "(II)I"⟩, 41), (⟨"RingArmModel", "tellAsked", "(II)I"⟩, 41), (⟨"RingArmModel", "begin", "()V"⟩, 41), (⟨"RingArmModel", "doneThen", "(I)I"⟩, 41), (⟨"RingArmModel", "doneBy", "(IIII)I"⟩, 41), (⟨"RingArmModel", "lacks", "()Z"⟩, 41), (⟨"RingArmModel", "nextOf", "()I"⟩, 41), (⟨"RingArmModel", "nextThen", "(I)I"⟩, 41), (⟨"RingArmModel", "nearestThen", "(I)I"⟩, 41), (⟨"RingArmModel", "awayThen", "(II)I"⟩, 41), (⟨"RingArmModel", "outermostThen", "()I"⟩, 41), (⟨"RingArmModel", "soonestThen", "()I"⟩, 41), (⟨"RingArmModel", "askThen", "(II)I"⟩, 41), (⟨"RingArmModel", "keep", "()V"⟩, 41), (⟨"RingArmModel", "doneNow", "(I)I"⟩, 41), (⟨"RingArmModel", "goTo", "(I)I"⟩, 41)]
theorem lw_r2 : ∀ q ∈ lw_privs_2, lw_okq q := List.forall_mem_cons.mpr ⟨lw_p16, List.forall_mem_cons.mpr ⟨lw_p17, List.forall_mem_cons.mpr ⟨lw_p18, List.forall_mem_cons.mpr ⟨lw_p19, List.forall_mem_cons.mpr ⟨lw_p20, List.forall_mem_cons.mpr ⟨lw_p21, List.forall_mem_cons.mpr ⟨lw_p22, List.forall_mem_cons.mpr ⟨lw_p23, List.forall_mem_cons.mpr ⟨lw_p24, List.forall_mem_cons.mpr ⟨lw_p25, List.forall_mem_cons.mpr ⟨lw_p26, List.forall_mem_cons.mpr ⟨lw_p27, List.forall_mem_cons.mpr ⟨lw_p28, List.forall_mem_cons.mpr ⟨lw_p29, List.forall_mem_cons.mpr ⟨lw_p30, List.forall_mem_cons.mpr ⟨lw_p31, fun _ h => absurd h List.not_mem_nil⟩⟩⟩⟩⟩⟩⟩⟩⟩⟩⟩⟩⟩⟩⟩⟩
theorem lw_p32 : lw_okq (⟨"RingArmModel", "runOf", "(II)I"⟩, 41) := ⟨⟨by decide +kernel, by decide +kernel⟩, List.mem_of_getElem? (i := 746) (by decide +kernel), List.mem_of_getElem? (i := 1056) (by decide +kernel), List.mem_of_getElem? (i := 1057) (by decide +kernel)⟩
theorem lw_p33 : lw_okq (⟨"RingArmModel", "leastOf", "(I)I"⟩, 41) := ⟨⟨by decide +kernel, by decide +kernel⟩, List.mem_of_getElem? (i := 746) (by decide +kernel), List.mem_of_getElem? (i := 1066) (by decide +kernel), List.mem_of_getElem? (i := 1067) (by decide +kernel)⟩
theorem lw_p34 : lw_okq (⟨"RingArmModel", "laySoonest", "()V"⟩, 41) := ⟨⟨by decide +kernel, by decide +kernel⟩, List.mem_of_getElem? (i := 746) (by decide +kernel), List.mem_of_getElem? (i := 1070) (by decide +kernel), List.mem_of_getElem? (i := 1071) (by decide +kernel)⟩
theorem lw_p35 : lw_okq (⟨"RingArmModel", "layTried", "(II)V"⟩, 41) := ⟨⟨by decide +kernel, by decide +kernel⟩, List.mem_of_getElem? (i := 746) (by decide +kernel), List.mem_of_getElem? (i := 1075) (by decide +kernel), List.mem_of_getElem? (i := 1076) (by decide +kernel)⟩
theorem lw_p36 : lw_okq (⟨"RingArmModel", "endOfTried", "()I"⟩, 41) := ⟨⟨by decide +kernel, by decide +kernel⟩, List.mem_of_getElem? (i := 746) (by decide +kernel), List.mem_of_getElem? (i := 1082) (by decide +kernel), List.mem_of_getElem? (i := 1083) (by decide +kernel)⟩
theorem lw_p37 : lw_okq (⟨"RingArmModel", "layOf", "(I)I"⟩, 41) := ⟨⟨by decide +kernel, by decide +kernel⟩, List.mem_of_getElem? (i := 746) (by decide +kernel), List.mem_of_getElem? (i := 1096) (by decide +kernel), List.mem_of_getElem? (i := 1097) (by decide +kernel)⟩
theorem lw_p38 : lw_okq (⟨"RingArmModel", "things", "()I"⟩, 41) := ⟨⟨by decide +kernel, by decide +kernel⟩, List.mem_of_getElem? (i := 746) (by decide +kernel), List.mem_of_getElem? (i := 1100) (by decide +kernel), List.mem_of_getElem? (i := 1101) (by decide +kernel)⟩
theorem lw_p39 : lw_okq (⟨"RingArmModel", "priceOfTried", "(I)I"⟩, 41) := ⟨⟨by decide +kernel, by decide +kernel⟩, List.mem_of_getElem? (i := 746) (by decide +kernel), List.mem_of_getElem? (i := 1104) (by decide +kernel), List.mem_of_getElem? (i := 1105) (by decide +kernel)⟩
theorem lw_p40 : lw_okq (⟨"RingArmModel", "behindOf", "(III)I"⟩, 41) := ⟨⟨by decide +kernel, by decide +kernel⟩, List.mem_of_getElem? (i := 746) (by decide +kernel), List.mem_of_getElem? (i := 1113) (by decide +kernel), List.mem_of_getElem? (i := 1114) (by decide +kernel)⟩
theorem lw_p41 : lw_okq (⟨"RingArmModel", "apartOf", "(III)I"⟩, 41) := ⟨⟨by decide +kernel, by decide +kernel⟩, List.mem_of_getElem? (i := 746) (by decide +kernel), List.mem_of_getElem? (i := 1121) (by decide +kernel), List.mem_of_getElem? (i := 1122) (by decide +kernel)⟩
theorem lw_p42 : lw_okq (⟨"RingArmModel", "allBy", "(III)I"⟩, 41) := ⟨⟨by decide +kernel, by decide +kernel⟩, List.mem_of_getElem? (i := 746) (by decide +kernel), List.mem_of_getElem? (i := 1125) (by decide +kernel), List.mem_of_getElem? (i := 1126) (by decide +kernel)⟩
theorem lw_p43 : lw_okq (⟨"RingArmModel", "stepsOf", "()I"⟩, 41) := ⟨⟨by decide +kernel, by decide +kernel⟩, List.mem_of_getElem? (i := 746) (by decide +kernel), List.mem_of_getElem? (i := 1144) (by decide +kernel), List.mem_of_getElem? (i := 1145) (by decide +kernel)⟩
theorem lw_p44 : lw_okq (⟨"RingArmModel", "trialOf", "()I"⟩, 41) := ⟨⟨by decide +kernel, by decide +kernel⟩, List.mem_of_getElem? (i := 746) (by decide +kernel), List.mem_of_getElem? (i := 1153) (by decide +kernel), List.mem_of_getElem? (i := 1154) (by decide +kernel)⟩
theorem lw_p45 : lw_okq (⟨"RingArmModel", "draw", "(I)I"⟩, 41) := ⟨⟨by decide +kernel, by decide +kernel⟩, List.mem_of_getElem? (i := 746) (by decide +kernel), List.mem_of_getElem? (i := 1162) (by decide +kernel), List.mem_of_getElem? (i := 1163) (by decide +kernel)⟩
theorem lw_p46 : lw_okq (⟨"RingArmModel", "countOf", "(I)I"⟩, 41) := ⟨⟨by decide +kernel, by decide +kernel⟩, List.mem_of_getElem? (i := 746) (by decide +kernel), List.mem_of_getElem? (i := 1182) (by decide +kernel), List.mem_of_getElem? (i := 1183) (by decide +kernel)⟩
theorem lw_p47 : lw_okq (⟨"RingArmModel", "placesAll", "()I"⟩, 41) := ⟨⟨by decide +kernel, by decide +kernel⟩, List.mem_of_getElem? (i := 746) (by decide +kernel), List.mem_of_getElem? (i := 1186) (by decide +kernel), List.mem_of_getElem? (i := 1187) (by decide +kernel)⟩
def lw_privs_3 : List (MethodName × Nat) := [(⟨"RingArmModel", "runOf", "(II)I"⟩, 41), (⟨"RingArmModel", "leastOf", "(I)I"⟩, 41), (⟨"RingArmModel", "laySoonest", "()V"⟩, 41), (⟨"RingArmModel", "layTried", "(II)V"⟩, 41), (⟨"RingArmModel", "endOfTried", "()I"⟩, 41), (⟨"RingArmModel", "layOf", "(I)I"⟩, 41), (⟨"RingArmModel", "things", "()I"⟩, 41), (⟨"RingArmModel", "priceOfTried", "(I)I"⟩, 41), (⟨"RingArmModel", "behindOf", "(III)I"⟩, 41), (⟨"RingArmModel", "apartOf", "(III)I"⟩, 41), (⟨"RingArmModel", "allBy", "(III)I"⟩, 41), (⟨"RingArmModel", "stepsOf", "()I"⟩, 41), (⟨"RingArmModel", "trialOf", "()I"⟩, 41), (⟨"RingArmModel", "draw", "(I)I"⟩, 41), (⟨"RingArmModel", "countOf", "(I)I"⟩, 41), (⟨"RingArmModel", "placesAll", "()I"⟩, 41)]
theorem lw_r3 : ∀ q ∈ lw_privs_3, lw_okq q := List.forall_mem_cons.mpr ⟨lw_p32, List.forall_mem_cons.mpr ⟨lw_p33, List.forall_mem_cons.mpr ⟨lw_p34, List.forall_mem_cons.mpr ⟨lw_p35, List.forall_mem_cons.mpr ⟨lw_p36, List.forall_mem_cons.mpr ⟨lw_p37, List.forall_mem_cons.mpr ⟨lw_p38, List.forall_mem_cons.mpr ⟨lw_p39, List.forall_mem_cons.mpr ⟨lw_p40, List.forall_mem_cons.mpr ⟨lw_p41, List.forall_mem_cons.mpr ⟨lw_p42, List.forall_mem_cons.mpr ⟨lw_p43, List.forall_mem_cons.mpr ⟨lw_p44, List.forall_mem_cons.mpr ⟨lw_p45, List.forall_mem_cons.mpr ⟨lw_p46, List.forall_mem_cons.mpr ⟨lw_p47, fun _ h => absurd h List.not_mem_nil⟩⟩⟩⟩⟩⟩⟩⟩⟩⟩⟩⟩⟩⟩⟩⟩
theorem lw_p48 : lw_okq (⟨"RingArmModel", "say", "(J)V"⟩, 41) := ⟨⟨by decide +kernel, by decide +kernel⟩, List.mem_of_getElem? (i := 746) (by decide +kernel), List.mem_of_getElem? (i := 1195) (by decide +kernel), List.mem_of_getElem? (i := 1196) (by decide +kernel)⟩
theorem lw_p49 : lw_okq (⟨"RingArmModel", "sayPlate", "()V"⟩, 41) := ⟨⟨by decide +kernel, by decide +kernel⟩, List.mem_of_getElem? (i := 746) (by decide +kernel), List.mem_of_getElem? (i := 1200) (by decide +kernel), List.mem_of_getElem? (i := 1201) (by decide +kernel)⟩
def lw_privs_4 : List (MethodName × Nat) := [(⟨"RingArmModel", "say", "(J)V"⟩, 41), (⟨"RingArmModel", "sayPlate", "()V"⟩, 41)]
theorem lw_r4 : ∀ q ∈ lw_privs_4, lw_okq q := List.forall_mem_cons.mpr ⟨lw_p48, List.forall_mem_cons.mpr ⟨lw_p49, fun _ h => absurd h List.not_mem_nil⟩⟩
def lw_privs : List (MethodName × Nat) := lw_privs_1 ++ (lw_privs_2 ++ (lw_privs_3 ++ (lw_privs_4)))
def lw_tbl : List Cond := k2_sels lw_privs ++ tables_1
theorem lw_privs_ok : ∀ q ∈ lw_privs, lw_okq q := by
  show ∀ q ∈ lw_privs_1 ++ (lw_privs_2 ++ (lw_privs_3 ++ (lw_privs_4))), lw_okq q
  exact List.forall_mem_append.mpr ⟨lw_r1, List.forall_mem_append.mpr ⟨lw_r2, List.forall_mem_append.mpr ⟨lw_r3, lw_r4⟩⟩⟩
/-- the words of the tables that any method may lean on -/
def r_wg : List Cond := lw_tbl.filter goodWord
theorem r_in {w : Cond} (i : Nat) (h : tables_1[i]? = some w) (hg : goodWord w = true) : w ∈ r_wg := List.mem_filter.mpr ⟨List.mem_append_right _ (List.mem_of_getElem? h), hg⟩
theorem r_inP {w : Cond} (i : Nat) (h : (k2_sels lw_privs)[i]? = some w) (hg : goodWord w = true) : w ∈ r_wg := List.mem_filter.mpr ⟨List.mem_append_left _ (List.mem_of_getElem? h), hg⟩
abbrev r_M : Type := MethodName × ByteArray × Nat × Option FieldType
def r_T0 : u_T := fun k => match k with
  | 0 => ("RingArm$Desk", "disc", "LRingArm$Disc;", true)
  | 1 => ("RingArm$Desk", "rings", "[I", true)
  | 2 => ("RingArm$Desk", "places", "[I", true)
  | 3 => ("RingArm$Desk", "since", "[I", true)
  | 4 => ("RingArm$Desk", "size", "I", false)
  | 5 => ("RingArm$Desk", "tick", "I", false)
  | 6 => ("RingArm$Desk", "ring", "I", false)
  | 7 => ("RingArm$Desk", "inward", "Z", false)
  | _ => ("RingArm$Desk", "waited", "I", false)
def r_T1 : u_T := fun k => match k with
  | 0 => ("RingArm$Disc", "places", "[I", true)
  | 1 => ("RingArm$Disc", "offsets", "[I", true)
  | 2 => ("RingArm$Disc", "lasts", "[I", true)
  | 3 => ("RingArm$Disc", "size", "I", false)
  | 4 => ("RingArm$Disc", "start", "I", false)
  | _ => ("RingArm$Disc", "step", "I", false)
def r_T2 : u_T := fun k => match k with
  | _ => ("", "", "", false)
def r_T3 : u_T := fun k => match k with
  | _ => ("", "", "", false)
def r_T4 : u_T := fun k => match k with
  | 0 => ("RingArm$Orders", "order", "[I", true)
  | 1 => ("RingArm$Orders", "best", "[I", true)
  | 2 => ("RingArm$Orders", "size", "I", false)
  | _ => ("RingArm$Orders", "bestTick", "I", false)
def r_T5 : u_T := fun k => match k with
  | 0 => ("RingArm$Page", "letters", "[I", true)
  | _ => ("RingArm$Page", "size", "I", false)
def r_T6 : u_T := fun k => match k with
  | _ => ("", "", "", false)
def r_T7 : u_T := fun k => match k with
  | 0 => ("RingArm$Sight", "rings", "[I", true)
  | 1 => ("RingArm$Sight", "ticks", "[I", true)
  | _ => ("RingArm$Sight", "size", "I", false)
def r_T8 : u_T := fun k => match k with
  | _ => ("", "", "", false)
def r_T9 : u_T := fun k => match k with
  | _ => ("", "", "", false)
def r_T10 : u_T := fun k => match k with
  | 0 => ("RingArm$Things", "weights", "[I", true)
  | 1 => ("RingArm$Things", "lying", "[I", true)
  | 2 => ("RingArm$Things", "best", "[I", true)
  | _ => ("RingArm$Things", "bestSum", "I", false)
def r_T11 : u_T := fun k => match k with
  | 0 => ("RingArm", "page", "LRingArm$Page;", true)
  | 1 => ("RingArm", "disc", "LRingArm$Disc;", true)
  | 2 => ("RingArm", "desk", "LRingArm$Desk;", true)
  | 3 => ("RingArm", "things", "LRingArm$Things;", true)
  | 4 => ("RingArm", "sight", "LRingArm$Sight;", true)
  | 5 => ("RingArm", "policies", "[LRingArm$First;", true)
  | 6 => ("RingArm", "policy", "LRingArm$First;", false)
  | 7 => ("RingArm", "keptDisc", "LRingArm$Disc;", true)
  | 8 => ("RingArm", "keptDesk", "LRingArm$Desk;", true)
  | 9 => ("RingArm", "keptThings", "LRingArm$Things;", true)
  | 10 => ("RingArm", "keptSight", "LRingArm$Sight;", true)
  | 11 => ("RingArm", "keptPolicy", "LRingArm$First;", false)
  | 12 => ("RingArm", "imageKept", "Z", false)
  | 13 => ("RingArm", "probe", "LRingArm$Desk;", true)
  | 14 => ("RingArm", "orders", "LRingArm$Orders;", true)
  | 15 => ("RingArm", "platesRead", "I", false)
  | _ => ("RingArm", "leastDone", "I", false)
def r_T12 : u_T := fun k => match k with
  | 0 => ("RingArmModel", "page", "[I", true)
  | 1 => ("RingArmModel", "pageMany", "I", false)
  | 2 => ("RingArmModel", "end", "I", false)
  | 3 => ("RingArmModel", "rings", "I", false)
  | 4 => ("RingArmModel", "start", "I", false)
  | 5 => ("RingArmModel", "step", "I", false)
  | 6 => ("RingArmModel", "policy", "I", false)
  | 7 => ("RingArmModel", "tick", "I", false)
  | 8 => ("RingArmModel", "arm", "I", false)
  | 9 => ("RingArmModel", "inward", "I", false)
  | 10 => ("RingArmModel", "askedMany", "I", false)
  | 11 => ("RingArmModel", "platesRead", "I", false)
  | 12 => ("RingArmModel", "places", "[I", true)
  | 13 => ("RingArmModel", "offsets", "[I", true)
  | 14 => ("RingArmModel", "asked", "[I", true)
  | 15 => ("RingArmModel", "tickThen", "I", false)
  | 16 => ("RingArmModel", "armThen", "I", false)
  | 17 => ("RingArmModel", "inwardThen", "I", false)
  | 18 => ("RingArmModel", "manyThen", "I", false)
  | 19 => ("RingArmModel", "askedThen", "[I", true)
  | 20 => ("RingArmModel", "leastDone", "I", false)
  | 21 => ("RingArmModel", "soonest", "[I", true)
  | 22 => ("RingArmModel", "tried", "[I", true)
  | 23 => ("RingArmModel", "weights", "[I", true)
  | 24 => ("RingArmModel", "seenMany", "I", false)
  | 25 => ("RingArmModel", "sights", "[I", true)
  | 26 => ("RingArmModel", "seedNow", "I", false)
  | 27 => ("RingArmModel", "keptPlate", "I", false)
  | 28 => ("RingArmModel", "keptPolicy", "I", false)
  | 29 => ("RingArmModel", "keptStart", "I", false)
  | 30 => ("RingArmModel", "keptStep", "I", false)
  | 31 => ("RingArmModel", "keptTick", "I", false)
  | 32 => ("RingArmModel", "keptArm", "I", false)
  | 33 => ("RingArmModel", "keptInward", "I", false)
  | 34 => ("RingArmModel", "keptMany", "I", false)
  | 35 => ("RingArmModel", "keptSeen", "I", false)
  | 36 => ("RingArmModel", "keptOffsets", "[I", true)
  | 37 => ("RingArmModel", "keptAsked", "[I", true)
  | 38 => ("RingArmModel", "keptWeights", "[I", true)
  | 39 => ("RingArmModel", "keptSights", "[I", true)
  | _ => ("RingArmModel", "hash", "J", false)
abbrev r_cl0 : List vw_C := [("RingArm$Desk", r_T0, 9), ("RingArm$Disc", r_T1, 6), ("RingArm$First", r_T2, 0), ("RingArm$Nearest", r_T3, 0), ("RingArm$Orders", r_T4, 4), ("RingArm$Page", r_T5, 2), ("RingArm$Round", r_T6, 0), ("RingArm$Sight", r_T7, 3), ("RingArm$Soonest", r_T8, 0), ("RingArm$Sweep", r_T9, 0), ("RingArm$Things", r_T10, 4), ("RingArm", r_T11, 17), ("RingArmModel", r_T12, 41)]
theorem goodIn_r0 (ws : List Cond) (ps : List Nat) (hp : ws = ps.filterMap (fun i => tables_1[i]?)) (h : ws.all goodWord = true) : ∀ w ∈ ws, w ∈ r_wg := by
  intro w hw
  have h1 := List.all_eq_true.mp h w hw
  rw [hp] at hw
  obtain ⟨i, -, hi⟩ := List.mem_filterMap.mp hw
  exact r_in i hi h1
theorem r_lay0 : ∀ w ∈ u_ws "RingArm$Desk" r_T0 9, w ∈ r_wg := (goodIn_r0 _ [113, 115, 117, 119, 121, 123, 125, 127, 129] (by decide +kernel) (by decide +kernel))
theorem r_lay1 : ∀ w ∈ u_ws "RingArm$Disc" r_T1 6, w ∈ r_wg := (goodIn_r0 _ [58, 60, 62, 64, 66, 68] (by decide +kernel) (by decide +kernel))
theorem r_lay2 : ∀ w ∈ u_ws "RingArm$First" r_T2 0, w ∈ r_wg := (goodIn_r0 _ [] (by decide +kernel) (by decide +kernel))
theorem r_lay3 : ∀ w ∈ u_ws "RingArm$Nearest" r_T3 0, w ∈ r_wg := (goodIn_r0 _ [] (by decide +kernel) (by decide +kernel))
theorem r_lay4 : ∀ w ∈ u_ws "RingArm$Orders" r_T4 4, w ∈ r_wg := (goodIn_r0 _ [218, 220, 222, 224] (by decide +kernel) (by decide +kernel))
theorem r_lay5 : ∀ w ∈ u_ws "RingArm$Page" r_T5 2, w ∈ r_wg := (goodIn_r0 _ [34, 36] (by decide +kernel) (by decide +kernel))
theorem r_lay6 : ∀ w ∈ u_ws "RingArm$Round" r_T6 0, w ∈ r_wg := (goodIn_r0 _ [] (by decide +kernel) (by decide +kernel))
theorem r_lay7 : ∀ w ∈ u_ws "RingArm$Sight" r_T7 3, w ∈ r_wg := (goodIn_r0 _ [162, 164, 166] (by decide +kernel) (by decide +kernel))
theorem r_lay8 : ∀ w ∈ u_ws "RingArm$Soonest" r_T8 0, w ∈ r_wg := (goodIn_r0 _ [] (by decide +kernel) (by decide +kernel))
theorem r_lay9 : ∀ w ∈ u_ws "RingArm$Sweep" r_T9 0, w ∈ r_wg := (goodIn_r0 _ [] (by decide +kernel) (by decide +kernel))
theorem r_lay10 : ∀ w ∈ u_ws "RingArm$Things" r_T10 4, w ∈ r_wg := (goodIn_r0 _ [143, 145, 147, 149] (by decide +kernel) (by decide +kernel))
theorem r_lay11 : ∀ w ∈ u_ws "RingArm" r_T11 17, w ∈ r_wg := (goodIn_r0 _ [244, 246, 248, 250, 252, 254, 256, 258, 260, 262, 264, 266, 268, 270, 272, 274, 276] (by decide +kernel) (by decide +kernel))
theorem r_lay12 : ∀ w ∈ u_ws "RingArmModel" r_T12 41, w ∈ r_wg := (goodIn_r0 _ [792, 794, 796, 798, 800, 802, 804, 806, 808, 810, 812, 814, 816, 818, 820, 822, 824, 826, 828, 830, 832, 834, 836, 838, 840, 842, 844, 846, 848, 850, 852, 854, 856, 858, 860, 862, 864, 866, 868, 870, 872] (by decide +kernel) (by decide +kernel))
def m_Dk_init : r_M := (⟨"RingArm$Desk", "<init>", "(LRingArm$Disc;)V"⟩, prog_2_method_1_code, 2, none)
def m_Dk_restart : r_M := (⟨"RingArm$Desk", "restart", "()V"⟩, prog_2_method_2_code, 1, none)
def m_Dk_copyFrom : r_M := (⟨"RingArm$Desk", "copyFrom", "(LRingArm$Desk;)V"⟩, prog_2_method_3_code, 2, none)
def m_Dk_has : r_M := (⟨"RingArm$Desk", "has", "(I)Z"⟩, prog_2_method_4_code, 2, some FieldType.boolean)
def m_Dk_bitsOn : r_M := (⟨"RingArm$Desk", "bitsOn", "(I)I"⟩, prog_2_method_5_code, 4, some FieldType.int)
def m_Dk_doneAt : r_M := (⟨"RingArm$Desk", "doneAt", "(I)I"⟩, prog_2_method_6_code, 2, some FieldType.int)
def m_Dk_append : r_M := (⟨"RingArm$Desk", "append", "(II)I"⟩, prog_2_method_7_code, 3, some FieldType.int)
def m_Dk_follow : r_M := (⟨"RingArm$Desk", "follow", "(LRingArm$First;I)V"⟩, prog_2_method_8_code, 3, none)
def m_Dk_followAll : r_M := (⟨"RingArm$Desk", "followAll", "(LRingArm$First;)V"⟩, prog_2_method_9_code, 3, none)
def m_Dk_finish : r_M := (⟨"RingArm$Desk", "finish", "(I)V"⟩, prog_2_method_10_code, 4, none)
def m_Di_init : r_M := (⟨"RingArm$Disc", "<init>", "()V"⟩, prog_3_method_1_code, 1, none)
def m_Di_readFrom : r_M := (⟨"RingArm$Disc", "readFrom", "(LRingArm$Page;)V"⟩, prog_3_method_2_code, 5, none)
def m_Di_copyFrom : r_M := (⟨"RingArm$Disc", "copyFrom", "(LRingArm$Disc;)V"⟩, prog_3_method_3_code, 2, none)
def m_Di_has : r_M := (⟨"RingArm$Disc", "has", "(I)Z"⟩, prog_3_method_4_code, 2, some FieldType.boolean)
def m_Di_allPlaces : r_M := (⟨"RingArm$Disc", "allPlaces", "()I"⟩, prog_3_method_5_code, 3, some FieldType.int)
def m_Di_travel : r_M := (⟨"RingArm$Disc", "travel", "(II)I"⟩, prog_3_method_6_code, 3, some FieldType.int)
def m_Di_doneAt : r_M := (⟨"RingArm$Disc", "doneAt", "(IIII)I"⟩, prog_3_method_7_code, 8, some FieldType.int)
def m_Di_bestGap : r_M := (⟨"RingArm$Disc", "bestGap", "(II)I"⟩, prog_3_method_8_code, 6, some FieldType.int)
def m_Di_gapTicks : r_M := (⟨"RingArm$Disc", "gapTicks", "(III)I"⟩, prog_3_method_9_code, 7, some FieldType.int)
def m_Di_haveNoDivisor : r_M := (⟨"RingArm$Disc", "haveNoDivisor", "(II)Z"⟩, prog_3_method_10_code, 3, some FieldType.boolean)
def m_Fi_init : r_M := (⟨"RingArm$First", "<init>", "()V"⟩, prog_4_method_1_code, 1, none)
def m_Fi_kind : r_M := (⟨"RingArm$First", "kind", "()I"⟩, prog_4_method_2_code, 1, some FieldType.int)
def m_Fi_price : r_M := (⟨"RingArm$First", "price", "(LRingArm$Desk;I)I"⟩, prog_4_method_3_code, 3, some FieldType.int)
def m_Fi_turns : r_M := (⟨"RingArm$First", "turns", "(LRingArm$Desk;I)Z"⟩, prog_4_method_4_code, 3, some FieldType.boolean)
def m_Fi_pick : r_M := (⟨"RingArm$First", "pick", "(LRingArm$Desk;)I"⟩, prog_4_method_5_code, 6, some FieldType.int)
def m_Ne_init : r_M := (⟨"RingArm$Nearest", "<init>", "()V"⟩, prog_5_method_1_code, 1, none)
def m_Ne_kind : r_M := (⟨"RingArm$Nearest", "kind", "()I"⟩, prog_5_method_2_code, 1, some FieldType.int)
def m_Ne_price : r_M := (⟨"RingArm$Nearest", "price", "(LRingArm$Desk;I)I"⟩, prog_5_method_3_code, 3, some FieldType.int)
def m_Or_init : r_M := (⟨"RingArm$Orders", "<init>", "()V"⟩, prog_6_method_1_code, 1, none)
def m_Or_solve : r_M := (⟨"RingArm$Orders", "solve", "(LRingArm$Desk;)V"⟩, prog_6_method_2_code, 2, none)
def m_Or_search : r_M := (⟨"RingArm$Orders", "search", "(LRingArm$Orders;LRingArm$Desk;IIII)V"⟩, prog_6_method_3_code, 9, none)
def m_Pa_init : r_M := (⟨"RingArm$Page", "<init>", "()V"⟩, prog_7_method_1_code, 1, none)
def m_Pa_append : r_M := (⟨"RingArm$Page", "append", "(I)I"⟩, prog_7_method_2_code, 2, some FieldType.int)
def m_Pa_clear : r_M := (⟨"RingArm$Page", "clear", "()I"⟩, prog_7_method_3_code, 2, some FieldType.int)
def m_Pa_firstFault : r_M := (⟨"RingArm$Page", "firstFault", "()I"⟩, prog_7_method_4_code, 4, some FieldType.int)
def m_Pa_isPlate : r_M := (⟨"RingArm$Page", "isPlate", "()Z"⟩, prog_7_method_5_code, 1, some FieldType.boolean)
def m_Pa_ringsEnd : r_M := (⟨"RingArm$Page", "ringsEnd", "()I"⟩, prog_7_method_6_code, 2, some FieldType.int)
def m_Pa_policyKind : r_M := (⟨"RingArm$Page", "policyKind", "()I"⟩, prog_7_method_7_code, 1, some FieldType.int)
def m_Pa_fitsRings : r_M := (⟨"RingArm$Page", "fitsRings", "(II)Z"⟩, prog_7_method_8_code, 2, some FieldType.boolean)
def m_Pa_fitsTail : r_M := (⟨"RingArm$Page", "fitsTail", "(II)Z"⟩, prog_7_method_9_code, 2, some FieldType.boolean)
def m_Pa_placesOf : r_M := (⟨"RingArm$Page", "placesOf", "(I)I"⟩, prog_7_method_10_code, 1, some FieldType.int)
def m_Pa_kindOf : r_M := (⟨"RingArm$Page", "kindOf", "(I)I"⟩, prog_7_method_11_code, 1, some FieldType.int)
def m_Ro_init : r_M := (⟨"RingArm$Round", "<init>", "()V"⟩, prog_8_method_1_code, 1, none)
def m_Ro_kind : r_M := (⟨"RingArm$Round", "kind", "()I"⟩, prog_8_method_2_code, 1, some FieldType.int)
def m_Ro_price : r_M := (⟨"RingArm$Round", "price", "(LRingArm$Desk;I)I"⟩, prog_8_method_3_code, 4, some FieldType.int)
def m_Ro_turns : r_M := (⟨"RingArm$Round", "turns", "(LRingArm$Desk;I)Z"⟩, prog_8_method_4_code, 3, some FieldType.boolean)
def m_Si_init : r_M := (⟨"RingArm$Sight", "<init>", "()V"⟩, prog_9_method_1_code, 1, none)
def m_Si_append : r_M := (⟨"RingArm$Sight", "append", "(II)I"⟩, prog_9_method_2_code, 3, some FieldType.int)
def m_Si_clear : r_M := (⟨"RingArm$Sight", "clear", "()I"⟩, prog_9_method_3_code, 2, some FieldType.int)
def m_Si_copyFrom : r_M := (⟨"RingArm$Sight", "copyFrom", "(LRingArm$Sight;)V"⟩, prog_9_method_4_code, 2, none)
def m_Si_fitting : r_M := (⟨"RingArm$Sight", "fitting", "(I)I"⟩, prog_9_method_5_code, 4, some FieldType.int)
def m_Si_isSo : r_M := (⟨"RingArm$Sight", "isSo", "(II)Z"⟩, prog_9_method_6_code, 4, some FieldType.boolean)
def m_So_init : r_M := (⟨"RingArm$Soonest", "<init>", "()V"⟩, prog_10_method_1_code, 1, none)
def m_So_kind : r_M := (⟨"RingArm$Soonest", "kind", "()I"⟩, prog_10_method_2_code, 1, some FieldType.int)
def m_So_price : r_M := (⟨"RingArm$Soonest", "price", "(LRingArm$Desk;I)I"⟩, prog_10_method_3_code, 3, some FieldType.int)
def m_Sw_init : r_M := (⟨"RingArm$Sweep", "<init>", "()V"⟩, prog_11_method_1_code, 1, none)
def m_Sw_kind : r_M := (⟨"RingArm$Sweep", "kind", "()I"⟩, prog_11_method_2_code, 1, some FieldType.int)
def m_Sw_price : r_M := (⟨"RingArm$Sweep", "price", "(LRingArm$Desk;I)I"⟩, prog_11_method_3_code, 4, some FieldType.int)
def m_Sw_turns : r_M := (⟨"RingArm$Sweep", "turns", "(LRingArm$Desk;I)Z"⟩, prog_11_method_4_code, 3, some FieldType.boolean)
def m_Sw_isAhead : r_M := (⟨"RingArm$Sweep", "isAhead", "(LRingArm$Desk;I)Z"⟩, prog_11_method_5_code, 3, some FieldType.boolean)
def m_Th_init : r_M := (⟨"RingArm$Things", "<init>", "()V"⟩, prog_12_method_1_code, 1, none)
def m_Th_clear : r_M := (⟨"RingArm$Things", "clear", "()V"⟩, prog_12_method_2_code, 2, none)
def m_Th_copyFrom : r_M := (⟨"RingArm$Things", "copyFrom", "(LRingArm$Things;)V"⟩, prog_12_method_3_code, 2, none)
def m_Th_howMany : r_M := (⟨"RingArm$Things", "howMany", "()I"⟩, prog_12_method_4_code, 3, some FieldType.int)
def m_Th_solve : r_M := (⟨"RingArm$Things", "solve", "()V"⟩, prog_12_method_5_code, 1, none)
def m_Th_told : r_M := (⟨"RingArm$Things", "told", "(I)I"⟩, prog_12_method_6_code, 2, some FieldType.int)
def m_Th_search : r_M := (⟨"RingArm$Things", "search", "(LRingArm$Things;IIII)V"⟩, prog_12_method_7_code, 6, none)
def m_Th_share : r_M := (⟨"RingArm$Things", "share", "(I)I"⟩, prog_12_method_8_code, 4, some FieldType.int)
def m_Ra_init : r_M := (⟨"RingArm", "<init>", "()V"⟩, prog_1_method_1_code, 1, none)
def m_Ra_letter : r_M := (⟨"RingArm", "letter", "(I)I"⟩, prog_1_method_2_code, 2, some FieldType.int)
def m_Ra_blank : r_M := (⟨"RingArm", "blank", "()I"⟩, prog_1_method_3_code, 1, some FieldType.int)
def m_Ra_fault : r_M := (⟨"RingArm", "fault", "()I"⟩, prog_1_method_4_code, 1, some FieldType.int)
def m_Ra_plate : r_M := (⟨"RingArm", "plate", "()I"⟩, prog_1_method_5_code, 1, some FieldType.int)
def m_Ra_ring : r_M := (⟨"RingArm", "ring", "(II)I"⟩, prog_1_method_6_code, 3, some FieldType.int)
def m_Ra_asked : r_M := (⟨"RingArm", "asked", "(II)I"⟩, prog_1_method_7_code, 3, some FieldType.int)
def m_Ra_as : r_M := (⟨"RingArm", "as", "(I)I"⟩, prog_1_method_8_code, 2, some FieldType.int)
def m_Ra_next : r_M := (⟨"RingArm", "next", "()I"⟩, prog_1_method_9_code, 1, some FieldType.int)
def m_Ra_ask : r_M := (⟨"RingArm", "ask", "(II)I"⟩, prog_1_method_10_code, 3, some FieldType.int)
def m_Ra_serve : r_M := (⟨"RingArm", "serve", "()I"⟩, prog_1_method_11_code, 2, some FieldType.int)
def m_Ra_read : r_M := (⟨"RingArm", "read", "(I)I"⟩, prog_1_method_12_code, 2, some FieldType.int)
def m_Ra_pass : r_M := (⟨"RingArm", "pass", "(I)I"⟩, prog_1_method_13_code, 2, some FieldType.int)
def m_Ra_choose : r_M := (⟨"RingArm", "choose", "(I)I"⟩, prog_1_method_14_code, 3, some FieldType.int)
def m_Ra_skew : r_M := (⟨"RingArm", "skew", "(II)I"⟩, prog_1_method_15_code, 4, some FieldType.int)
def m_Ra_gear : r_M := (⟨"RingArm", "gear", "(II)I"⟩, prog_1_method_16_code, 4, some FieldType.int)
def m_Ra_run : r_M := (⟨"RingArm", "run", "(II)I"⟩, prog_1_method_17_code, 3, some FieldType.int)
def m_Ra_least : r_M := (⟨"RingArm", "least", "(I)I"⟩, prog_1_method_18_code, 2, some FieldType.int)
def m_Ra_weigh : r_M := (⟨"RingArm", "weigh", "(II)I"⟩, prog_1_method_19_code, 4, some FieldType.int)
def m_Ra_lay : r_M := (⟨"RingArm", "lay", "(I)I"⟩, prog_1_method_20_code, 2, some FieldType.int)
def m_Ra_behind : r_M := (⟨"RingArm", "behind", "(III)I"⟩, prog_1_method_21_code, 7, some FieldType.int)
def m_Ra_apart : r_M := (⟨"RingArm", "apart", "(III)I"⟩, prog_1_method_22_code, 5, some FieldType.int)
def m_Ra_see : r_M := (⟨"RingArm", "see", "(II)I"⟩, prog_1_method_23_code, 3, some FieldType.int)
def m_Ra_forget : r_M := (⟨"RingArm", "forget", "()I"⟩, prog_1_method_24_code, 1, some FieldType.int)
def m_Ra_steps : r_M := (⟨"RingArm", "steps", "()I"⟩, prog_1_method_25_code, 1, some FieldType.int)
def m_Ra_trial : r_M := (⟨"RingArm", "trial", "()I"⟩, prog_1_method_26_code, 1, some FieldType.int)
def m_Ra_days : r_M := (⟨"RingArm", "days", "(III)I"⟩, prog_1_method_27_code, 5, some FieldType.int)
def m_Ra_image : r_M := (⟨"RingArm", "image", "()I"⟩, prog_1_method_28_code, 1, some FieldType.int)
def m_Ra_restore : r_M := (⟨"RingArm", "restore", "()I"⟩, prog_1_method_29_code, 1, some FieldType.int)
def m_Ra_count : r_M := (⟨"RingArm", "count", "(I)I"⟩, prog_1_method_30_code, 2, some FieldType.int)
def m_Ra_digest : r_M := (⟨"RingArm", "digest", "()J"⟩, prog_1_method_31_code, 4, some FieldType.long)
def m_Ra_mixRings : r_M := (⟨"RingArm", "mixRings", "(J)J"⟩, prog_1_method_32_code, 5, some FieldType.long)
def m_Ra_mixAsked : r_M := (⟨"RingArm", "mixAsked", "(J)J"⟩, prog_1_method_33_code, 5, some FieldType.long)
def m_Ra_mixChoices : r_M := (⟨"RingArm", "mixChoices", "(J)J"⟩, prog_1_method_34_code, 4, some FieldType.long)
def m_Ra_mixBests : r_M := (⟨"RingArm", "mixBests", "(J)J"⟩, prog_1_method_35_code, 4, some FieldType.long)
def m_Ra_mix : r_M := (⟨"RingArm", "mix", "(JJ)J"⟩, prog_1_method_36_code, 4, some FieldType.long)
def m_Ra_hasPlate : r_M := (⟨"RingArm", "hasPlate", "()Z"⟩, prog_1_method_37_code, 1, some FieldType.boolean)
def m_Ra_isKind : r_M := (⟨"RingArm", "isKind", "(I)Z"⟩, prog_1_method_38_code, 1, some FieldType.boolean)
def m_Ra_policyOf : r_M := (⟨"RingArm", "policyOf", "(I)LRingArm$First;"⟩, prog_1_method_39_code, 3, some (FieldType.object "RingArm$First"))
def m_Ra_isOf : r_M := (⟨"RingArm", "isOf", "(LRingArm$First;I)Z"⟩, prog_1_method_40_code, 2, some FieldType.boolean)
def m_Ra_playDays : r_M := (⟨"RingArm", "playDays", "(II)I"⟩, prog_1_method_41_code, 6, some FieldType.int)
def m_Ra_nextSeed : r_M := (⟨"RingArm", "nextSeed", "(I)I"⟩, prog_1_method_42_code, 1, some FieldType.int)
def m_Ra_drawn : r_M := (⟨"RingArm", "drawn", "(II)I"⟩, prog_1_method_43_code, 2, some FieldType.int)
def m_Ra_bestTry : r_M := (⟨"RingArm", "bestTry", "(I)I"⟩, prog_1_method_44_code, 5, some FieldType.int)
def m_Ra_worstLeft : r_M := (⟨"RingArm", "worstLeft", "(II)I"⟩, prog_1_method_45_code, 6, some FieldType.int)
def m_Ra_hasBit : r_M := (⟨"RingArm", "hasBit", "(II)Z"⟩, prog_1_method_46_code, 2, some FieldType.boolean)
def m_Ra_at : r_M := (⟨"RingArm", "at", "([II)I"⟩, prog_1_method_47_code, 2, some FieldType.int)
def m_Ra_put : r_M := (⟨"RingArm", "put", "([III)V"⟩, prog_1_method_48_code, 3, none)
def m_Ra_copyRow : r_M := (⟨"RingArm", "copyRow", "([I[I)V"⟩, prog_1_method_49_code, 3, none)
def m_Mo_init : r_M := (⟨"RingArmModel", "<init>", "()V"⟩, prog_14_method_1_code, 1, none)
def m_Mo_in : r_M := (⟨"RingArmModel", "in", "(JJJ)Z"⟩, prog_14_method_2_code, 6, some FieldType.boolean)
def m_Mo_copy : r_M := (⟨"RingArmModel", "copy", "([I[I)V"⟩, prog_14_method_3_code, 3, none)
def m_Mo_letter : r_M := (⟨"RingArmModel", "letter", "(I)I"⟩, prog_14_method_4_code, 2, some FieldType.int)
def m_Mo_blank : r_M := (⟨"RingArmModel", "blank", "()I"⟩, prog_14_method_5_code, 2, some FieldType.int)
def m_Mo_placesBy : r_M := (⟨"RingArmModel", "placesBy", "(I)I"⟩, prog_14_method_6_code, 1, some FieldType.int)
def m_Mo_kindBy : r_M := (⟨"RingArmModel", "kindBy", "(I)I"⟩, prog_14_method_7_code, 1, some FieldType.int)
def m_Mo_isRingLetter : r_M := (⟨"RingArmModel", "isRingLetter", "(I)Z"⟩, prog_14_method_8_code, 3, some FieldType.boolean)
def m_Mo_isGood : r_M := (⟨"RingArmModel", "isGood", "(I)Z"⟩, prog_14_method_9_code, 3, some FieldType.boolean)
def m_Mo_faultOf : r_M := (⟨"RingArmModel", "faultOf", "()I"⟩, prog_14_method_10_code, 2, some FieldType.int)
def m_Mo_fault : r_M := (⟨"RingArmModel", "fault", "()I"⟩, prog_14_method_11_code, 1, some FieldType.int)
def m_Mo_plate : r_M := (⟨"RingArmModel", "plate", "()I"⟩, prog_14_method_12_code, 2, some FieldType.int)
def m_Mo_lacks : r_M := (⟨"RingArmModel", "lacks", "()Z"⟩, prog_14_method_13_code, 1, some FieldType.boolean)
def m_Mo_isRing : r_M := (⟨"RingArmModel", "isRing", "(I)Z"⟩, prog_14_method_14_code, 2, some FieldType.boolean)
def m_Mo_travel : r_M := (⟨"RingArmModel", "travel", "(II)I"⟩, prog_14_method_15_code, 4, some FieldType.int)
def m_Mo_lasts : r_M := (⟨"RingArmModel", "lasts", "(I)I"⟩, prog_14_method_16_code, 2, some FieldType.int)
def m_Mo_doneBy : r_M := (⟨"RingArmModel", "doneBy", "(IIII)I"⟩, prog_14_method_17_code, 8, some FieldType.int)
def m_Mo_begin : r_M := (⟨"RingArmModel", "begin", "()V"⟩, prog_14_method_18_code, 1, none)
def m_Mo_keep : r_M := (⟨"RingArmModel", "keep", "()V"⟩, prog_14_method_19_code, 1, none)
def m_Mo_doneThen : r_M := (⟨"RingArmModel", "doneThen", "(I)I"⟩, prog_14_method_20_code, 2, some FieldType.int)
def m_Mo_awayThen : r_M := (⟨"RingArmModel", "awayThen", "(II)I"⟩, prog_14_method_21_code, 4, some FieldType.int)
def m_Mo_nearestThen : r_M := (⟨"RingArmModel", "nearestThen", "(I)I"⟩, prog_14_method_22_code, 6, some FieldType.int)
def m_Mo_soonestThen : r_M := (⟨"RingArmModel", "soonestThen", "()I"⟩, prog_14_method_23_code, 3, some FieldType.int)
def m_Mo_outermostThen : r_M := (⟨"RingArmModel", "outermostThen", "()I"⟩, prog_14_method_24_code, 3, some FieldType.int)
def m_Mo_nextThen : r_M := (⟨"RingArmModel", "nextThen", "(I)I"⟩, prog_14_method_25_code, 3, some FieldType.int)
def m_Mo_goTo : r_M := (⟨"RingArmModel", "goTo", "(I)I"⟩, prog_14_method_26_code, 4, some FieldType.int)
def m_Mo_askThen : r_M := (⟨"RingArmModel", "askThen", "(II)I"⟩, prog_14_method_27_code, 3, some FieldType.int)
def m_Mo_askedOn : r_M := (⟨"RingArmModel", "askedOn", "(I)I"⟩, prog_14_method_28_code, 4, some FieldType.int)
def m_Mo_tellRing : r_M := (⟨"RingArmModel", "tellRing", "(II)I"⟩, prog_14_method_29_code, 3, some FieldType.int)
def m_Mo_ring : r_M := (⟨"RingArmModel", "ring", "(II)I"⟩, prog_14_method_30_code, 3, some FieldType.int)
def m_Mo_tellAsked : r_M := (⟨"RingArmModel", "tellAsked", "(II)I"⟩, prog_14_method_31_code, 3, some FieldType.int)
def m_Mo_asked : r_M := (⟨"RingArmModel", "asked", "(II)I"⟩, prog_14_method_32_code, 3, some FieldType.int)
def m_Mo_as : r_M := (⟨"RingArmModel", "as", "(I)I"⟩, prog_14_method_33_code, 3, some FieldType.int)
def m_Mo_nextOf : r_M := (⟨"RingArmModel", "nextOf", "()I"⟩, prog_14_method_34_code, 1, some FieldType.int)
def m_Mo_next : r_M := (⟨"RingArmModel", "next", "()I"⟩, prog_14_method_35_code, 1, some FieldType.int)
def m_Mo_ask : r_M := (⟨"RingArmModel", "ask", "(II)I"⟩, prog_14_method_36_code, 3, some FieldType.int)
def m_Mo_doneNow : r_M := (⟨"RingArmModel", "doneNow", "(I)I"⟩, prog_14_method_37_code, 2, some FieldType.int)
def m_Mo_serve : r_M := (⟨"RingArmModel", "serve", "()I"⟩, prog_14_method_38_code, 1, some FieldType.int)
def m_Mo_read : r_M := (⟨"RingArmModel", "read", "(I)I"⟩, prog_14_method_39_code, 2, some FieldType.int)
def m_Mo_pass : r_M := (⟨"RingArmModel", "pass", "(I)I"⟩, prog_14_method_40_code, 2, some FieldType.int)
def m_Mo_choose : r_M := (⟨"RingArmModel", "choose", "(I)I"⟩, prog_14_method_41_code, 3, some FieldType.int)
def m_Mo_skew : r_M := (⟨"RingArmModel", "skew", "(II)I"⟩, prog_14_method_42_code, 4, some FieldType.int)
def m_Mo_gear : r_M := (⟨"RingArmModel", "gear", "(II)I"⟩, prog_14_method_43_code, 4, some FieldType.int)
def m_Mo_runOf : r_M := (⟨"RingArmModel", "runOf", "(II)I"⟩, prog_14_method_44_code, 4, some FieldType.int)
def m_Mo_run : r_M := (⟨"RingArmModel", "run", "(II)I"⟩, prog_14_method_45_code, 3, some FieldType.int)
def m_Mo_laySoonest : r_M := (⟨"RingArmModel", "laySoonest", "()V"⟩, prog_14_method_46_code, 7, none)
def m_Mo_factorial : r_M := (⟨"RingArmModel", "factorial", "(I)I"⟩, prog_14_method_47_code, 3, some FieldType.int)
def m_Mo_layTried : r_M := (⟨"RingArmModel", "layTried", "(II)V"⟩, prog_14_method_48_code, 9, none)
def m_Mo_endOfTried : r_M := (⟨"RingArmModel", "endOfTried", "()I"⟩, prog_14_method_49_code, 5, some FieldType.int)
def m_Mo_leastOf : r_M := (⟨"RingArmModel", "leastOf", "(I)I"⟩, prog_14_method_50_code, 5, some FieldType.int)
def m_Mo_least : r_M := (⟨"RingArmModel", "least", "(I)I"⟩, prog_14_method_51_code, 2, some FieldType.int)
def m_Mo_things : r_M := (⟨"RingArmModel", "things", "()I"⟩, prog_14_method_52_code, 3, some FieldType.int)
def m_Mo_weigh : r_M := (⟨"RingArmModel", "weigh", "(II)I"⟩, prog_14_method_53_code, 4, some FieldType.int)
def m_Mo_priceOfTried : r_M := (⟨"RingArmModel", "priceOfTried", "(I)I"⟩, prog_14_method_54_code, 6, some FieldType.int)
def m_Mo_layOf : r_M := (⟨"RingArmModel", "layOf", "(I)I"⟩, prog_14_method_55_code, 7, some FieldType.int)
def m_Mo_lay : r_M := (⟨"RingArmModel", "lay", "(I)I"⟩, prog_14_method_56_code, 2, some FieldType.int)
def m_Mo_behindOf : r_M := (⟨"RingArmModel", "behindOf", "(III)I"⟩, prog_14_method_57_code, 7, some FieldType.int)
def m_Mo_behind : r_M := (⟨"RingArmModel", "behind", "(III)I"⟩, prog_14_method_58_code, 4, some FieldType.int)
def m_Mo_common : r_M := (⟨"RingArmModel", "common", "(II)I"⟩, prog_14_method_59_code, 5, some FieldType.int)
def m_Mo_allBy : r_M := (⟨"RingArmModel", "allBy", "(III)I"⟩, prog_14_method_60_code, 8, some FieldType.int)
def m_Mo_apartOf : r_M := (⟨"RingArmModel", "apartOf", "(III)I"⟩, prog_14_method_61_code, 8, some FieldType.int)
def m_Mo_apart : r_M := (⟨"RingArmModel", "apart", "(III)I"⟩, prog_14_method_62_code, 4, some FieldType.int)
def m_Mo_see : r_M := (⟨"RingArmModel", "see", "(II)I"⟩, prog_14_method_63_code, 3, some FieldType.int)
def m_Mo_forget : r_M := (⟨"RingArmModel", "forget", "()I"⟩, prog_14_method_64_code, 2, some FieldType.int)
def m_Mo_stepsOf : r_M := (⟨"RingArmModel", "stepsOf", "()I"⟩, prog_14_method_65_code, 5, some FieldType.int)
def m_Mo_steps : r_M := (⟨"RingArmModel", "steps", "()I"⟩, prog_14_method_66_code, 1, some FieldType.int)
def m_Mo_trialOf : r_M := (⟨"RingArmModel", "trialOf", "()I"⟩, prog_14_method_67_code, 9, some FieldType.int)
def m_Mo_trial : r_M := (⟨"RingArmModel", "trial", "()I"⟩, prog_14_method_68_code, 1, some FieldType.int)
def m_Mo_draw : r_M := (⟨"RingArmModel", "draw", "(I)I"⟩, prog_14_method_69_code, 2, some FieldType.int)
def m_Mo_days : r_M := (⟨"RingArmModel", "days", "(III)I"⟩, prog_14_method_70_code, 7, some FieldType.int)
def m_Mo_image : r_M := (⟨"RingArmModel", "image", "()I"⟩, prog_14_method_71_code, 1, some FieldType.int)
def m_Mo_restore : r_M := (⟨"RingArmModel", "restore", "()I"⟩, prog_14_method_72_code, 1, some FieldType.int)
def m_Mo_placesAll : r_M := (⟨"RingArmModel", "placesAll", "()I"⟩, prog_14_method_73_code, 3, some FieldType.int)
def m_Mo_countOf : r_M := (⟨"RingArmModel", "countOf", "(I)I"⟩, prog_14_method_74_code, 2, some FieldType.int)
def m_Mo_count : r_M := (⟨"RingArmModel", "count", "(I)I"⟩, prog_14_method_75_code, 2, some FieldType.int)
def m_Mo_say : r_M := (⟨"RingArmModel", "say", "(J)V"⟩, prog_14_method_76_code, 3, none)
def m_Mo_sayPlate : r_M := (⟨"RingArmModel", "sayPlate", "()V"⟩, prog_14_method_77_code, 2, none)
def m_Mo_digest : r_M := (⟨"RingArmModel", "digest", "()J"⟩, prog_14_method_78_code, 3, some FieldType.long)
def m_Jm_floorMod : r_M := (⟨"java/lang/Math", "floorMod", "(II)I"⟩, prog_15_method_50_code, 3, some FieldType.int)
def m_Jm_abs : r_M := (⟨"java/lang/Math", "abs", "(I)I"⟩, prog_15_method_59_code, 1, some FieldType.int)
def m_Jm_max : r_M := (⟨"java/lang/Math", "max", "(II)I"⟩, prog_15_method_65_code, 2, some FieldType.int)
def m_Jm_min : r_M := (⟨"java/lang/Math", "min", "(II)I"⟩, prog_15_method_69_code, 2, some FieldType.int)
def m_Lw_law : r_M := (⟨"RingArmLaw", "law", "([I)Z"⟩, code, 4, some .boolean)
end
section
/-! ===== the world: places by their order of making; ints, references (to places) and longs by place and index ===== -/
abbrev r_HI : Type := Nat → Nat → Int32
abbrev r_HR : Type := Nat → Nat → Option Nat
abbrev r_HL : Type := Nat → Nat → Int64
/-- the launch, the first address, the classes' numbers and slots, the two array classes -/
abbrev r_X : Type := Launch × Nat × (Nat → ClassId) × (Nat → Nat → Nat) × ClassId × ClassId
/-- what lies at a place: (0, number of its class), (1, length) an int array, (2, length) an array of First -/
def r_pk (k : Nat) : Nat × Nat := ([(0, 11), (0, 5), (1, 28), (0, 1), (1, 10), (1, 10), (1, 10), (0, 0), (1, 7), (1, 7), (1, 7), (0, 10), (1, 6), (1, 6), (1, 6), (0, 7), (1, 6), (1, 6), (2, 5), (0, 2), (0, 3), (0, 9), (0, 6), (0, 8), (0, 2), (0, 1), (1, 10), (1, 10), (1, 10), (0, 0), (1, 7), (1, 7), (1, 7), (0, 10), (1, 6), (1, 6), (1, 6), (0, 7), (1, 6), (1, 6), (0, 0), (1, 7), (1, 7), (1, 7), (0, 4), (1, 7), (1, 7), (0, 12), (1, 28), (1, 10), (1, 10), (1, 21), (1, 21), (1, 896), (1, 7), (1, 6), (1, 12), (1, 10), (1, 21), (1, 6), (1, 12)] : List (Nat × Nat)).getD k (9, 0)
/-- the kind of a field: 0 a number, 1 a reference, 2 a long, 3 a truth value -/
def r_ft (c j : Nat) : Nat := (([[1, 1, 1, 1, 0, 0, 0, 3, 0], [1, 1, 1, 0, 0, 0], [], [], [1, 1, 0, 0], [1, 0], [], [1, 1, 0], [], [], [1, 1, 1, 0], [1, 1, 1, 1, 1, 1, 1, 1, 1, 1, 1, 1, 3, 1, 1, 0, 0], [1, 0, 0, 0, 0, 0, 0, 0, 0, 0, 0, 0, 1, 1, 1, 0, 0, 0, 0, 1, 0, 1, 1, 1, 0, 1, 0, 0, 0, 0, 0, 0, 0, 0, 0, 0, 1, 1, 1, 1, 2]] : List (List Nat)).getD c []).getD j 9
def r_nf (c : Nat) : Nat := ([9, 6, 0, 0, 4, 2, 0, 3, 0, 0, 4, 17, 41] : List Nat).getD c 0
def r_sz (k : Nat) : Nat := if (r_pk k).1 = 0 then r_nf (r_pk k).2 else (r_pk k).2
def r_tot : Nat → Nat | 0 => 0 | n + 1 => r_tot n + r_sz n
def r_up (h : r_HI) (k j : Nat) (v : Int32) : r_HI := fun a => if a = k then upd (h a) j v else h a
def r_ug (g : r_HR) (k j : Nat) (v : Option Nat) : r_HR := fun a => if a = k then va_up (g a) j v else g a
def r_uz (z : r_HL) (k j : Nat) (v : Int64) : r_HL := fun a => if a = k then vp_updL (z a) j v else z a
def r_fv (b t : Nat) (h : r_HI) (g : r_HR) (z : r_HL) (k j : Nat) : Value := match t with
  | 0 => .int (h k j)
  | 1 => va_rf ((g k j).map (b + ·))
  | 2 => .long (z k j)
  | _ => .int (h k j)
def r_fs (b c : Nat) (h : r_HI) (g : r_HR) (z : r_HL) (k : Nat) : List Value := (List.range (r_nf c)).map (fun j => r_fv b (r_ft c j) h g z k j)
def r_E (G : r_X) (h : r_HI) (g : r_HR) (z : r_HL) (k : Nat) : va_E := match r_pk k with
  | (0, c) => .inr (c, r_fs G.2.1 c h g z k)
  | (1, n) => .inl (G.2.2.2.2.1, n, .inl (h k))
  | (_, n) => .inl (G.2.2.2.2.2, n, .inr (.inr (.inr (.inr (fun j => (g k j).map (G.2.1 + ·))))))
def r_W (G : r_X) (n : Nat) (h : r_HI) (g : r_HR) (z : r_HL) : va_W := (List.range n).map (fun k => (G.2.1 + k, r_E G h g z k))
section
variable {G : r_X} {n k : Nat} {h h' : r_HI} {g g' : r_HR} {z z' : r_HL}
theorem r_W_at (hk : k < n) : (r_W G n h g z)[k]? = some (G.2.1 + k, r_E G h g z k) := by simp [r_W, hk]
theorem r_W_inv {p : Nat × va_E} (e : (r_W G n h g z)[k]? = some p) : k < n ∧ p = (G.2.1 + k, r_E G h g z k) := by
  by_cases hk : k < n
  · rw [r_W_at hk] at e
    exact ⟨hk, (Option.some.inj e).symm⟩
  · have hl : (r_W G n h g z)[k]? = none := by simp [r_W]; omega
    rw [hl] at e
    cases e
theorem r_D : va_D (fun q => G.2.1 ≤ q) (r_W G n h g z) := by
  refine ⟨fun i j p q hi hj e => ?_, fun k q hk => ?_⟩
  · have h1 := (r_W_inv hi).2
    have h2 := (r_W_inv hj).2
    subst h1; subst h2
    exact Nat.add_left_cancel e
  · have h1 := (r_W_inv hk).2
    subst h1
    exact Nat.le_add_right _ _
theorem r_E_eq (h1 : h' k = h k) (h2 : g' k = g k) (h3 : z' k = z k) : r_E G h' g' z' k = r_E G h g z k := by
  simp only [r_E, r_fs, r_fv, h1, h2, h3]
theorem r_W_set {e : va_E} (he : e = r_E G h' g' z' k) (ho : ∀ a, a ≠ k → h' a = h a ∧ g' a = g a ∧ z' a = z a) : (r_W G n h g z).set k (G.2.1 + k, e) = r_W G n h' g' z' := by
  subst he
  apply List.ext_getElem?
  intro i
  by_cases hi : i < n
  · by_cases hik : k = i
    · subst hik
      rw [List.getElem?_set_self (by simp [r_W, hi]), r_W_at hi]
    · rw [List.getElem?_set_ne hik, r_W_at hi, r_W_at hi, r_E_eq (ho i (fun q => hik q.symm)).1 (ho i (fun q => hik q.symm)).2.1 (ho i (fun q => hik q.symm)).2.2]
  · have h1 : ((r_W G n h g z).set k (G.2.1 + k, r_E G h' g' z' k))[i]? = none := by simp [r_W]; omega
    have h2 : (r_W G n h' g' z')[i]? = none := by simp [r_W]; omega
    rw [h1, h2]
theorem r_E_o {c : Nat} (hp : r_pk k = (0, c)) : r_E G h g z k = .inr (c, r_fs G.2.1 c h g z k) := by simp [r_E, hp]
theorem r_E_i {m : Nat} (hp : r_pk k = (1, m)) : r_E G h g z k = .inl (G.2.2.2.2.1, m, .inl (h k)) := by simp [r_E, hp]
theorem r_E_q {m : Nat} (hp : r_pk k = (2, m)) : r_E G h g z k = .inl (G.2.2.2.2.2, m, .inr (.inr (.inr (.inr (fun j => (g k j).map (G.2.1 + ·)))))) := by simp [r_E, hp]
theorem r_fs_at {b c j : Nat} (hj : j < r_nf c) : (r_fs b c h g z k)[j]? = some (r_fv b (r_ft c j) h g z k j) := by simp [r_fs, hj]
theorem r_fs_set {b c j : Nat} {v : Value} (hj : j < r_nf c) (hv : v = r_fv b (r_ft c j) h' g' z' k j) (ho : ∀ i, i ≠ j → r_fv b (r_ft c i) h' g' z' k i = r_fv b (r_ft c i) h g z k i) : (r_fs b c h g z k).set j v = r_fs b c h' g' z' k := by
  subst hv
  apply List.ext_getElem?
  intro i
  by_cases hi : i < r_nf c
  · by_cases hij : j = i
    · subst hij
      rw [List.getElem?_set_self (by simp [r_fs, hi]), r_fs_at hi]
    · rw [List.getElem?_set_ne hij, r_fs_at hi, r_fs_at hi, ho i (fun q => hij q.symm)]
  · have h1 : ((r_fs b c h g z k).set j (r_fv b (r_ft c j) h' g' z' k j))[i]? = none := by simp [r_fs]; omega
    have h2 : (r_fs b c h' g' z' k)[i]? = none := by simp [r_fs]; omega
    rw [h1, h2]
theorem r_up_k {j : Nat} {v : Int32} : r_up h k j v k = upd (h k) j v := by simp [r_up]
theorem r_up_ne {a j : Nat} {v : Int32} (e : a ≠ k) : r_up h k j v a = h a := by simp [r_up, e]
theorem r_ug_k {j : Nat} {v : Option Nat} : r_ug g k j v k = va_up (g k) j v := by simp [r_ug]
theorem r_ug_ne {a j : Nat} {v : Option Nat} (e : a ≠ k) : r_ug g k j v a = g a := by simp [r_ug, e]
theorem r_uz_k {j : Nat} {v : Int64} : r_uz z k j v k = vp_updL (z k) j v := by simp [r_uz]
theorem r_uz_ne {a j : Nat} {v : Int64} (e : a ≠ k) : r_uz z k j v a = z a := by simp [r_uz, e]
theorem r_set_i {c j : Nat} {v : Int32} (hp : r_pk k = (0, c)) (hj : j < r_nf c) (ht : r_ft c j = 0) : (r_W G n h g z).set k (G.2.1 + k, .inr (c, (r_fs G.2.1 c h g z k).set j (.int v))) = r_W G n (r_up h k j v) g z := by
  refine r_W_set ?_ (fun a ha => ⟨r_up_ne ha, rfl, rfl⟩)
  rw [r_E_o hp, r_fs_set (h' := r_up h k j v) (g' := g) (z' := z) hj]
  · simp [r_fv, ht, r_up, upd]
  · intro i hi
    simp only [r_fv, r_up_k]
    simp [upd, hi]
theorem r_set_z {c j : Nat} {v : Int32} (hp : r_pk k = (0, c)) (hj : j < r_nf c) (ht : r_ft c j = 3) : (r_W G n h g z).set k (G.2.1 + k, .inr (c, (r_fs G.2.1 c h g z k).set j (.int v))) = r_W G n (r_up h k j v) g z := by
  refine r_W_set ?_ (fun a ha => ⟨r_up_ne ha, rfl, rfl⟩)
  rw [r_E_o hp, r_fs_set (h' := r_up h k j v) (g' := g) (z' := z) hj]
  · simp [r_fv, ht, r_up, upd]
  · intro i hi
    simp only [r_fv, r_up_k]
    simp [upd, hi]
theorem r_set_r {c j : Nat} {v : Option Nat} (hp : r_pk k = (0, c)) (hj : j < r_nf c) (ht : r_ft c j = 1) : (r_W G n h g z).set k (G.2.1 + k, .inr (c, (r_fs G.2.1 c h g z k).set j (va_rf (v.map (G.2.1 + ·))))) = r_W G n h (r_ug g k j v) z := by
  refine r_W_set ?_ (fun a ha => ⟨rfl, r_ug_ne ha, rfl⟩)
  rw [r_E_o hp, r_fs_set (h' := h) (g' := r_ug g k j v) (z' := z) hj]
  · simp [r_fv, ht, r_ug, va_up]
  · intro i hi
    simp only [r_fv, r_ug_k]
    simp [va_up, hi]
theorem r_set_l {c j : Nat} {v : Int64} (hp : r_pk k = (0, c)) (hj : j < r_nf c) (ht : r_ft c j = 2) : (r_W G n h g z).set k (G.2.1 + k, .inr (c, (r_fs G.2.1 c h g z k).set j (.long v))) = r_W G n h g (r_uz z k j v) := by
  refine r_W_set ?_ (fun a ha => ⟨rfl, rfl, r_uz_ne ha⟩)
  rw [r_E_o hp, r_fs_set (h' := h) (g' := g) (z' := r_uz z k j v) hj]
  · simp [r_fv, ht, r_uz, vp_updL]
  · intro i hi
    simp only [r_fv, r_uz_k]
    simp [vp_updL, hi]
theorem r_set_a {m j : Nat} {v : Int32} (hp : r_pk k = (1, m)) : (r_W G n h g z).set k (G.2.1 + k, .inl (G.2.2.2.2.1, m, .inl (upd (h k) j v))) = r_W G n (r_up h k j v) g z := by
  refine r_W_set ?_ (fun a ha => ⟨r_up_ne ha, rfl, rfl⟩)
  rw [r_E_i hp, r_up_k]
theorem r_set_q {m j : Nat} {v : Option Nat} (hp : r_pk k = (2, m)) : (r_W G n h g z).set k (G.2.1 + k, .inl (G.2.2.2.2.2, m, .inr (.inr (.inr (.inr (va_up (fun j => (g k j).map (G.2.1 + ·)) j (v.map (G.2.1 + ·)))))))) = r_W G n h (r_ug g k j v) z := by
  refine r_W_set ?_ (fun a ha => ⟨rfl, r_ug_ne ha, rfl⟩)
  rw [r_E_q hp]
  refine congrArg (fun f => Sum.inl (G.2.2.2.2.2, m, Sum.inr (Sum.inr (Sum.inr (Sum.inr f))))) (funext fun i => ?_)
  rw [r_ug_k]
  by_cases hi : i = j
  · simp [va_up, hi]
  · simp [va_up, hi]
end
def r_nest : List (String × Nat × MethodName × String) := [("RingArm", 9, ⟨"RingArm$Page", "<init>", "()V"⟩, "RingArm"), ("RingArm", 18, ⟨"RingArm$Disc", "<init>", "()V"⟩, "RingArm"), ("RingArm", 34, ⟨"RingArm$Things", "<init>", "()V"⟩, "RingArm"), ("RingArm", 41, ⟨"RingArm$Sight", "<init>", "()V"⟩, "RingArm"), ("RingArm", 48, ⟨"RingArm$First", "<init>", "()V"⟩, "RingArm"), ("RingArm", 51, ⟨"RingArm$Nearest", "<init>", "()V"⟩, "RingArm"), ("RingArm$Nearest", 3, ⟨"RingArm$First", "<init>", "()V"⟩, "RingArm"), ("RingArm", 54, ⟨"RingArm$Sweep", "<init>", "()V"⟩, "RingArm"), ("RingArm$Sweep", 3, ⟨"RingArm$First", "<init>", "()V"⟩, "RingArm"), ("RingArm", 57, ⟨"RingArm$Round", "<init>", "()V"⟩, "RingArm"), ("RingArm$Round", 3, ⟨"RingArm$Sweep", "<init>", "()V"⟩, "RingArm"), ("RingArm", 60, ⟨"RingArm$Soonest", "<init>", "()V"⟩, "RingArm"), ("RingArm$Soonest", 3, ⟨"RingArm$Nearest", "<init>", "()V"⟩, "RingArm"), ("RingArm", 93, ⟨"RingArm$Orders", "<init>", "()V"⟩, "RingArm"), ("RingArm$Page", 19, ⟨"RingArm", "put", "([III)V"⟩, "RingArm"), ("RingArm$Page", 23, ⟨"RingArm", "at", "([II)I"⟩, "RingArm"), ("RingArm$Disc", 46, ⟨"RingArm", "at", "([II)I"⟩, "RingArm"), ("RingArm$Disc", 54, ⟨"RingArm", "put", "([III)V"⟩, "RingArm"), ("RingArm$Things", 25, ⟨"RingArm", "put", "([III)V"⟩, "RingArm"), ("RingArm$Desk", 46, ⟨"RingArm", "at", "([II)I"⟩, "RingArm"), ("RingArm$Nearest", 15, ⟨"RingArm", "at", "([II)I"⟩, "RingArm"), ("RingArm$Round", 15, ⟨"RingArm", "at", "([II)I"⟩, "RingArm"), ("RingArm$Soonest", 26, ⟨"RingArm", "at", "([II)I"⟩, "RingArm"), ("RingArm$Sweep", 15, ⟨"RingArm", "at", "([II)I"⟩, "RingArm"), ("RingArm$Desk", 56, ⟨"RingArm", "put", "([III)V"⟩, "RingArm"), ("RingArm$Desk", 42, ⟨"RingArm", "copyRow", "([I[I)V"⟩, "RingArm"), ("RingArm$Orders", 45, ⟨"RingArm", "copyRow", "([I[I)V"⟩, "RingArm"), ("RingArm$Orders", 49, ⟨"RingArm", "hasBit", "(II)Z"⟩, "RingArm"), ("RingArm$Orders", 56, ⟨"RingArm", "at", "([II)I"⟩, "RingArm"), ("RingArm$Orders", 60, ⟨"RingArm", "put", "([III)V"⟩, "RingArm"), ("RingArm$Things", 33, ⟨"RingArm", "at", "([II)I"⟩, "RingArm"), ("RingArm$Things", 29, ⟨"RingArm", "copyRow", "([I[I)V"⟩, "RingArm"), ("RingArm$Things", 46, ⟨"RingArm", "hasBit", "(II)Z"⟩, "RingArm"), ("RingArm$Sight", 22, ⟨"RingArm", "put", "([III)V"⟩, "RingArm"), ("RingArm$Sight", 34, ⟨"RingArm", "at", "([II)I"⟩, "RingArm"), ("RingArm$Disc", 58, ⟨"RingArm", "copyRow", "([I[I)V"⟩, "RingArm"), ("RingArm$Sight", 26, ⟨"RingArm", "copyRow", "([I[I)V"⟩, "RingArm")]
def r_cast : List (String × String) := [("RingArm$Soonest", "RingArm$Nearest"), ("RingArm$Round", "RingArm$Sweep"), ("RingArm$Nearest", "RingArm$First"), ("RingArm$Sweep", "RingArm$First"), ("RingArm$Round", "RingArm$First"), ("RingArm$Soonest", "RingArm$First")]
def r_ncast : List (String × String) := [("RingArm$First", "RingArm$Nearest"), ("RingArm$First", "RingArm$Sweep"), ("RingArm$First", "RingArm$Round"), ("RingArm$First", "RingArm$Soonest"), ("RingArm$Nearest", "RingArm$Sweep"), ("RingArm$Nearest", "RingArm$Round"), ("RingArm$Nearest", "RingArm$Soonest"), ("RingArm$Sweep", "RingArm$Nearest"), ("RingArm$Sweep", "RingArm$Round"), ("RingArm$Sweep", "RingArm$Soonest"), ("RingArm$Round", "RingArm$Nearest"), ("RingArm$Round", "RingArm$Soonest"), ("RingArm$Soonest", "RingArm$Sweep"), ("RingArm$Soonest", "RingArm$Round")]
def r_ow (s : State) : Prop := (∀ q ∈ r_nest, va_Nw (.methodLinkNest q.1 q.2.1 q.2.2.1 q.2.2.2) s) ∧ (∀ q ∈ r_cast, va_Nw (.castable q.1 q.2) s) ∧ (∀ q ∈ r_ncast, va_Nc q.1 q.2 s) ∧ va_AO "RingArm$First" s
theorem r_ow.moved {s U : State} (hW : s.WarmedH U.vm) (h : r_ow s) : r_ow U := ⟨fun q hq => va_Nw.warmM hW (h.1 q hq), fun q hq => va_Nw.warmC hW (h.2.1 q hq), fun q hq => va_Nc.moved hW.alike (h.2.2.1 q hq), va_AO.moved hW.alike h.2.2.2⟩
theorem r_ow.same {s U : State} (hv : s.vm = U.vm) (h : r_ow s) : r_ow U := ⟨fun q hq => va_Nw.same rfl hv (h.1 q hq), fun q hq => va_Nw.same rfl hv (h.2.1 q hq), fun q hq => va_Nc.moved (by rw [hv]; exact Vm.Alike.refl _) (h.2.2.1 q hq), va_AO.moved (by rw [hv]; exact Vm.Alike.refl _) h.2.2.2⟩
abbrev r_ty (G : r_X) : List (ClassId × FieldType) := [(G.2.2.2.2.1, .int), (G.2.2.2.2.2, .object "RingArm$First")]
abbrev r_G (G : r_X) : va_G := (G.2.2.1, G.2.2.2.1)
def r_wd (G : r_X) (n : Nat) (h : r_HI) (g : r_HR) (z : r_HL) (U : State) : Prop := U.heap.size = G.2.1 + n ∧ va_P (r_G G) r_cl0 (r_W G n h g z) U.heap ∧ va_K (r_G G) r_cl0 (r_ty G) U
/-- where a method stands: its machine, its code, the words, the classes -/
def r_bs (G : r_X) (M : r_M) (p : Program) (s : State) (m : MethodId) (args : Array Value) (meth : Method) (c : Code) : Prop :=
  p.tables.exec = Jvm.exec ∧ c.code = M.2.1 ∧ c.maxLocals = M.2.2.1 ∧ meth.sig.returnType = M.2.2.2 ∧ meth.locks = false ∧ meth.name = M.1.name ∧ s.vm.findClass M.1.cls = some m.cls ∧ (∀ w ∈ r_wg, w.before args s = true) ∧ r_ow s ∧ G.2.1 ≤ s.heap.size ∧ va_K (r_G G) r_cl0 (r_ty G) s
/-- THE JUDGEMENT: from pc, with locals ls, stack st and the world (n, h, g, z), the machine comes to an end that Z tells -/
def r_T (G : r_X) (M : r_M) (R : Room) (n0 : Nat) (X : State → Prop) (Z : List Frame → Array Value → State → State → Prop) (pc : Nat) (ls : List (Nat × Value)) (st : List Value) (n : Nat) (h : r_HI) (g : r_HR) (z : r_HL) : Prop :=
  ∀ (p : Program) (e : Env) (s : State) (m : MethodId) (args : Array Value) (below : List Frame) (meth : Method) (c : Code) (H : Heap) (locs : List Loc) (cells slots : Nat) (L0 : Array Slot),
    r_bs G M p s m args meth c → X s → H.size = G.2.1 + n → va_P (r_G G) r_cl0 (r_W G n h g z) H → va_S (fun q => G.2.1 ≤ q) s.heap H locs → cells + n0 = n → slots + r_tot n0 = r_tot n → lv_has L0 M.2.2.1 ls →
    W p G.1 e R s m args below meth c H locs cells slots (Z below args s) (F0 m pc L0 st)
abbrev r_F : Type := Option Value → r_HI → r_HR → r_HL → Prop
def r_cQ (G : r_X) (n1 : Nat) (F : r_F) : Array Value → State → Outcome → State → Prop := fun _ st o t => (∃ (v : Option Value) (h : r_HI) (g : r_HR) (z : r_HL), o = .returned v ∧ F v h g z ∧ r_wd G n1 h g z t) ∧ va_F (fun q => G.2.1 ≤ q) st t
def r_rm (d n0 n1 : Nat) : Room := { frames := d, cells := n1 - n0, slots := r_tot n1 - r_tot n0, locals := 60 * d }
/-- a method's end -/
def r_mz (G : r_X) (n0 n1 : Nat) (F : r_F) : List Frame → Array Value → State → State → Prop := fun below args s => MQ below (r_cQ G n1 F) args s (n1 - n0) (r_tot n1 - r_tot n0) (fun q => G.2.1 ≤ q)
/-- A CONTRACT: called with av in the world (n, h, g, z), with room for d frames, the method returns what F tells -/
def r_C (G : r_X) (M : r_M) (d n1 : Nat) (av : List Value) (n : Nat) (h : r_HI) (g : r_HR) (z : r_HL) (F : r_F) : Prop :=
  Met G.1 M.1 (Cond.code M.1 M.2.1 M.2.2.1 M.2.2.2 :: r_wg) (r_rm d n n1) (va_Pc av (fun U => r_wd G n h g z U ∧ r_ow U ∧ G.2.1 ≤ U.heap.size)) (r_cQ G n1 F) (n1 - n) (r_tot n1 - r_tot n) (fun q => G.2.1 ≤ q)
abbrev r_TM (G : r_X) (M : r_M) (d n0 n1 : Nat) (F : r_F) (pc : Nat) (ls : List (Nat × Value)) (st : List Value) (n : Nat) (h : r_HI) (g : r_HR) (z : r_HL) : Prop := r_T G M (r_rm d n0 n1) n0 (fun _ => True) (r_mz G n0 n1 F) pc ls st n h g z
theorem r_tot_le (n k : Nat) : r_tot n ≤ r_tot (n + k) := by
  induction k with
  | zero => exact Nat.le_refl _
  | succ k ih => exact Nat.le_trans ih (Nat.le_add_right _ _)
theorem r_tot_mono {n m : Nat} (h : n ≤ m) : r_tot n ≤ r_tot m := by
  obtain ⟨k, rfl⟩ := Nat.le.dest h
  exact r_tot_le n k
/-- a contract out of a walk of the body -/
theorem r_C_of {G : r_X} {M : r_M} {d n1 : Nat} {av : List Value} {n : Nat} {h : r_HI} {g : r_HR} {z : r_HL} {F : r_F} (hp : plainName M.1.cls = true) (hl : (lg_sl av).length ≤ M.2.2.1)
    (k : r_TM G M d n n1 F 0 (lv_args 0 av) [] n h g z) : r_C G M d n1 av n h g z F := by
  refine Met.ofW (cc := M.2.1) (maxL := M.2.2.1) (ret := M.2.2.2) hp rfl ?_
  intro p e s m args below meth c s₁ B hml hv
  obtain ⟨rfl, ⟨hsz, hP, hK⟩, how, hb0⟩ := hv
  have hts := atoms_spec (ws := Cond.code M.1 M.2.1 M.2.2.1 M.2.2.2 :: r_wg) B.pre
  have hl0 := lv_entry av (n := M.2.2.1) hl
  rw [lg_entry_eq]
  exact k p e s m av.toArray below meth c s.heap [] 0 0 _ ⟨B.exec, B.bytes, hml, B.returns, B.notSynchronized, (name_of_methodNamed B.named B.method).1, findClass_of_methodNamed B.named, fun w hw => hts w (List.mem_cons_of_mem _ hw), how, hb0, hK⟩ trivial hsz hP va_S.rf (Nat.zero_add _) (Nat.zero_add _) hl0
theorem r_pay {s : State} {args : Array Value} {w0 : Cond} (hts : ∀ w ∈ r_wg, w.before args s = true) (h0 : w0 ∈ r_wg) : ∀ w ∈ w0 :: r_wg, ∀ (a' : Array Value) (U : State), s.WarmedH U.vm → w.before a' U = true := by
  intro w hw a' U hW
  have hm : w ∈ r_wg := by
    rcases List.mem_cons.mp hw with rfl | h
    · exact h0
    · exact h
  exact word_at hW (good_of_word (List.mem_filter.mp hm).2) (hts w hm)
section
variable {G : r_X} {M M' : r_M} {R : Room} {n0 n1 : Nat} {X : State → Prop} {Z : List Frame → Array Value → State → State → Prop} {F : r_F} {pc n : Nat} {ls : List (Nat × Value)} {st : List Value} {h : r_HI} {g : r_HR} {z : r_HL}
theorem j_iadd {x y : Int32} (hd : decode M.2.1 pc = .ok (.iadd, 1)) (k : r_T G M R n0 X Z (pc + 1) ls (.int (x + y) :: st) n h g z) : r_T G M R n0 X Z pc ls (.int y :: .int x :: st) n h g z := by
  intro p e s m args below meth c H locs cells slots L0 B hX hz hP hS hc hs hl
  exact lv_iadd B.1 B.2.1 hd (k p e s m args below meth c H locs cells slots L0 B hX hz hP hS hc hs hl)
theorem j_isub {x y : Int32} (hd : decode M.2.1 pc = .ok (.isub, 1)) (k : r_T G M R n0 X Z (pc + 1) ls (.int (x - y) :: st) n h g z) : r_T G M R n0 X Z pc ls (.int y :: .int x :: st) n h g z := by
  intro p e s m args below meth c H locs cells slots L0 B hX hz hP hS hc hs hl
  exact lv_isub B.1 B.2.1 hd (k p e s m args below meth c H locs cells slots L0 B hX hz hP hS hc hs hl)
theorem j_imul {x y : Int32} (hd : decode M.2.1 pc = .ok (.imul, 1)) (k : r_T G M R n0 X Z (pc + 1) ls (.int (x * y) :: st) n h g z) : r_T G M R n0 X Z pc ls (.int y :: .int x :: st) n h g z := by
  intro p e s m args below meth c H locs cells slots L0 B hX hz hP hS hc hs hl
  exact lv_imul B.1 B.2.1 hd (k p e s m args below meth c H locs cells slots L0 B hX hz hP hS hc hs hl)
theorem j_iand {x y : Int32} (hd : decode M.2.1 pc = .ok (.iand, 1)) (k : r_T G M R n0 X Z (pc + 1) ls (.int (x &&& y) :: st) n h g z) : r_T G M R n0 X Z pc ls (.int y :: .int x :: st) n h g z := by
  intro p e s m args below meth c H locs cells slots L0 B hX hz hP hS hc hs hl
  exact lv_iand B.1 B.2.1 hd (k p e s m args below meth c H locs cells slots L0 B hX hz hP hS hc hs hl)
theorem j_ior {x y : Int32} (hd : decode M.2.1 pc = .ok (.ior, 1)) (k : r_T G M R n0 X Z (pc + 1) ls (.int (x ||| y) :: st) n h g z) : r_T G M R n0 X Z pc ls (.int y :: .int x :: st) n h g z := by
  intro p e s m args below meth c H locs cells slots L0 B hX hz hP hS hc hs hl
  exact lv_ior B.1 B.2.1 hd (k p e s m args below meth c H locs cells slots L0 B hX hz hP hS hc hs hl)
theorem j_ixor {x y : Int32} (hd : decode M.2.1 pc = .ok (.ixor, 1)) (k : r_T G M R n0 X Z (pc + 1) ls (.int (x ^^^ y) :: st) n h g z) : r_T G M R n0 X Z pc ls (.int y :: .int x :: st) n h g z := by
  intro p e s m args below meth c H locs cells slots L0 B hX hz hP hS hc hs hl
  exact lv_ixor B.1 B.2.1 hd (k p e s m args below meth c H locs cells slots L0 B hX hz hP hS hc hs hl)
theorem j_ishl {x y : Int32} (hd : decode M.2.1 pc = .ok (.ishl, 1)) (k : r_T G M R n0 X Z (pc + 1) ls (.int (x <<< (y &&& 31)) :: st) n h g z) : r_T G M R n0 X Z pc ls (.int y :: .int x :: st) n h g z := by
  intro p e s m args below meth c H locs cells slots L0 B hX hz hP hS hc hs hl
  exact lv_ishl B.1 B.2.1 hd (k p e s m args below meth c H locs cells slots L0 B hX hz hP hS hc hs hl)
theorem j_ishr {x y : Int32} (hd : decode M.2.1 pc = .ok (.ishr, 1)) (k : r_T G M R n0 X Z (pc + 1) ls (.int (x >>> (y &&& 31)) :: st) n h g z) : r_T G M R n0 X Z pc ls (.int y :: .int x :: st) n h g z := by
  intro p e s m args below meth c H locs cells slots L0 B hX hz hP hS hc hs hl
  exact lv_ishr B.1 B.2.1 hd (k p e s m args below meth c H locs cells slots L0 B hX hz hP hS hc hs hl)
theorem j_idiv {x y : Int32} (hd : decode M.2.1 pc = .ok (.idiv, 1)) (hne : ¬ y = 0) (k : r_T G M R n0 X Z (pc + 1) ls (.int (x / y) :: st) n h g z) : r_T G M R n0 X Z pc ls (.int y :: .int x :: st) n h g z := by
  intro p e s m args below meth c H locs cells slots L0 B hX hz hP hS hc hs hl
  exact lv_idiv B.1 B.2.1 hd hne (k p e s m args below meth c H locs cells slots L0 B hX hz hP hS hc hs hl)
theorem j_irem {x y : Int32} (hd : decode M.2.1 pc = .ok (.irem, 1)) (hne : ¬ y = 0) (k : r_T G M R n0 X Z (pc + 1) ls (.int (x - x / y * y) :: st) n h g z) : r_T G M R n0 X Z pc ls (.int y :: .int x :: st) n h g z := by
  intro p e s m args below meth c H locs cells slots L0 B hX hz hP hS hc hs hl
  exact lv_irem B.1 B.2.1 hd hne (k p e s m args below meth c H locs cells slots L0 B hX hz hP hS hc hs hl)
theorem j_ineg {x : Int32} (hd : decode M.2.1 pc = .ok (.ineg, 1)) (k : r_T G M R n0 X Z (pc + 1) ls (.int (-x) :: st) n h g z) : r_T G M R n0 X Z pc ls (.int x :: st) n h g z := by
  intro p e s m args below meth c H locs cells slots L0 B hX hz hP hS hc hs hl
  exact lv_ineg B.1 B.2.1 hd (k p e s m args below meth c H locs cells slots L0 B hX hz hP hS hc hs hl)
theorem j_ladd {x y : Int64} (hd : decode M.2.1 pc = .ok (.ladd, 1)) (k : r_T G M R n0 X Z (pc + 1) ls (.long (x + y) :: st) n h g z) : r_T G M R n0 X Z pc ls (.long y :: .long x :: st) n h g z := by
  intro p e s m args below meth c H locs cells slots L0 B hX hz hP hS hc hs hl
  exact lv_ladd B.1 B.2.1 hd (k p e s m args below meth c H locs cells slots L0 B hX hz hP hS hc hs hl)
theorem j_lmul {x y : Int64} (hd : decode M.2.1 pc = .ok (.lmul, 1)) (k : r_T G M R n0 X Z (pc + 1) ls (.long (x * y) :: st) n h g z) : r_T G M R n0 X Z pc ls (.long y :: .long x :: st) n h g z := by
  intro p e s m args below meth c H locs cells slots L0 B hX hz hP hS hc hs hl
  exact lv_lmul B.1 B.2.1 hd (k p e s m args below meth c H locs cells slots L0 B hX hz hP hS hc hs hl)
theorem j_land {x y : Int64} (hd : decode M.2.1 pc = .ok (.land, 1)) (k : r_T G M R n0 X Z (pc + 1) ls (.long (x &&& y) :: st) n h g z) : r_T G M R n0 X Z pc ls (.long y :: .long x :: st) n h g z := by
  intro p e s m args below meth c H locs cells slots L0 B hX hz hP hS hc hs hl
  exact lv_land B.1 B.2.1 hd (k p e s m args below meth c H locs cells slots L0 B hX hz hP hS hc hs hl)
theorem j_lcmp {x y : Int64} (hd : decode M.2.1 pc = .ok (.lcmp, 1)) (k : r_T G M R n0 X Z (pc + 1) ls (.int (lg_cmp x y) :: st) n h g z) : r_T G M R n0 X Z pc ls (.long y :: .long x :: st) n h g z := by
  intro p e s m args below meth c H locs cells slots L0 B hX hz hP hS hc hs hl
  exact W.lcmp B.1 B.2.1 hd (k p e s m args below meth c H locs cells slots L0 B hX hz hP hS hc hs hl)
theorem j_i2l {x : Int32} (hd : decode M.2.1 pc = .ok (.i2l, 1)) (k : r_T G M R n0 X Z (pc + 1) ls (.long x.toInt64 :: st) n h g z) : r_T G M R n0 X Z pc ls (.int x :: st) n h g z := by
  intro p e s m args below meth c H locs cells slots L0 B hX hz hP hS hc hs hl
  exact lv_i2l B.1 B.2.1 hd rfl (k p e s m args below meth c H locs cells slots L0 B hX hz hP hS hc hs hl)
theorem j_l2i {x : Int64} (hd : decode M.2.1 pc = .ok (.l2i, 1)) (k : r_T G M R n0 X Z (pc + 1) ls (.int x.toInt32 :: st) n h g z) : r_T G M R n0 X Z pc ls (.long x :: st) n h g z := by
  intro p e s m args below meth c H locs cells slots L0 B hX hz hP hS hc hs hl
  exact lv_l2i B.1 B.2.1 hd rfl (k p e s m args below meth c H locs cells slots L0 B hX hz hP hS hc hs hl)
theorem j_dup {v : Value} (hd : decode M.2.1 pc = .ok (.dup, 1)) (hv : v.category = 1) (k : r_T G M R n0 X Z (pc + 1) ls (v :: v :: st) n h g z) : r_T G M R n0 X Z pc ls (v :: st) n h g z := by
  intro p e s m args below meth c H locs cells slots L0 B hX hz hP hS hc hs hl
  exact lv_dup B.1 B.2.1 hd hv (k p e s m args below meth c H locs cells slots L0 B hX hz hP hS hc hs hl)
theorem j_pop {v : Value} (hd : decode M.2.1 pc = .ok (.pop, 1)) (hv : v.category = 1) (k : r_T G M R n0 X Z (pc + 1) ls (st) n h g z) : r_T G M R n0 X Z pc ls (v :: st) n h g z := by
  intro p e s m args below meth c H locs cells slots L0 B hX hz hP hS hc hs hl
  exact lv_pop B.1 B.2.1 hd hv (k p e s m args below meth c H locs cells slots L0 B hX hz hP hS hc hs hl)
theorem j_iconst {i : Int} {v : Int32} (hd : decode M.2.1 pc = .ok (.iconst i, 1)) (hv : Int32.ofInt i = v) (k : r_T G M R n0 X Z (pc + 1) ls (.int v :: st) n h g z) : r_T G M R n0 X Z pc ls (st) n h g z := by
  intro p e s m args below meth c H locs cells slots L0 B hX hz hP hS hc hs hl
  exact lv_iconst B.1 B.2.1 hd hv (k p e s m args below meth c H locs cells slots L0 B hX hz hP hS hc hs hl)
theorem j_bipush {i : Int} {v : Int32} (hd : decode M.2.1 pc = .ok (.bipush i, 2)) (hv : (Int8.ofInt i).toInt32 = v) (k : r_T G M R n0 X Z (pc + 2) ls (.int v :: st) n h g z) : r_T G M R n0 X Z pc ls (st) n h g z := by
  intro p e s m args below meth c H locs cells slots L0 B hX hz hP hS hc hs hl
  exact lv_bipush B.1 B.2.1 hd hv (k p e s m args below meth c H locs cells slots L0 B hX hz hP hS hc hs hl)
theorem j_sipush {i : Int} {v : Int32} (hd : decode M.2.1 pc = .ok (.sipush i, 3)) (hv : (Int16.ofInt i).toInt32 = v) (k : r_T G M R n0 X Z (pc + 3) ls (.int v :: st) n h g z) : r_T G M R n0 X Z pc ls (st) n h g z := by
  intro p e s m args below meth c H locs cells slots L0 B hX hz hP hS hc hs hl
  exact lv_sipush B.1 B.2.1 hd hv (k p e s m args below meth c H locs cells slots L0 B hX hz hP hS hc hs hl)
theorem j_lconst {i : Fin 2} {v : Int64} (hd : decode M.2.1 pc = .ok (.lconst i, 1)) (hv : Int64.ofNat (i : Nat) = v) (k : r_T G M R n0 X Z (pc + 1) ls (.long v :: st) n h g z) : r_T G M R n0 X Z pc ls (st) n h g z := by
  intro p e s m args below meth c H locs cells slots L0 B hX hz hP hS hc hs hl
  exact lv_lconst B.1 B.2.1 hd hv (k p e s m args below meth c H locs cells slots L0 B hX hz hP hS hc hs hl)
theorem r_look {i : Nat} {v : Value} {L0 : Array Slot} {nL : Nat} (hl : lv_has L0 nL ls) (hv : ls.lookup i = some v) : L0[i]? = some (.val v) := by
  obtain ⟨l1, l2, e, -⟩ := List.lookup_eq_some_iff.mp hv
  exact hl.2.2 (i, v) (by rw [e]; simp)
theorem j_iload_n {q : Fin 4} {i : Nat} {x : Int32} (hd : decode M.2.1 pc = .ok (.iload_n q, 1)) (hi : (q : Nat) = i) (hv : ls.lookup i = some (.int x)) (k : r_T G M R n0 X Z (pc + 1) ls (.int x :: st) n h g z) : r_T G M R n0 X Z pc ls st n h g z := by
  intro p e s m args below meth c H locs cells slots L0 B hX hz hP hS hc hs hl
  exact lv_iload_n B.1 B.2.1 hd hi (r_look hl hv) (k p e s m args below meth c H locs cells slots L0 B hX hz hP hS hc hs hl)
theorem j_iload {i : Nat} {x : Int32} (hd : decode M.2.1 pc = .ok (.iload i, 2)) (hv : ls.lookup i = some (.int x)) (k : r_T G M R n0 X Z (pc + 2) ls (.int x :: st) n h g z) : r_T G M R n0 X Z pc ls st n h g z := by
  intro p e s m args below meth c H locs cells slots L0 B hX hz hP hS hc hs hl
  exact lv_iload B.1 B.2.1 hd (r_look hl hv) (k p e s m args below meth c H locs cells slots L0 B hX hz hP hS hc hs hl)
theorem j_lload_n {q : Fin 4} {i : Nat} {x : Int64} (hd : decode M.2.1 pc = .ok (.lload_n q, 1)) (hi : (q : Nat) = i) (hv : ls.lookup i = some (.long x)) (k : r_T G M R n0 X Z (pc + 1) ls (.long x :: st) n h g z) : r_T G M R n0 X Z pc ls st n h g z := by
  intro p e s m args below meth c H locs cells slots L0 B hX hz hP hS hc hs hl
  exact lv_lload_n B.1 B.2.1 hd hi (r_look hl hv) (k p e s m args below meth c H locs cells slots L0 B hX hz hP hS hc hs hl)
theorem j_lload {i : Nat} {x : Int64} (hd : decode M.2.1 pc = .ok (.lload i, 2)) (hv : ls.lookup i = some (.long x)) (k : r_T G M R n0 X Z (pc + 2) ls (.long x :: st) n h g z) : r_T G M R n0 X Z pc ls st n h g z := by
  intro p e s m args below meth c H locs cells slots L0 B hX hz hP hS hc hs hl
  exact lv_lload B.1 B.2.1 hd (r_look hl hv) (k p e s m args below meth c H locs cells slots L0 B hX hz hP hS hc hs hl)
theorem j_aload_n {q : Fin 4} {i : Nat} {x : Nat} (hd : decode M.2.1 pc = .ok (.aload_n q, 1)) (hi : (q : Nat) = i) (hv : ls.lookup i = some (.ref x)) (k : r_T G M R n0 X Z (pc + 1) ls (.ref x :: st) n h g z) : r_T G M R n0 X Z pc ls st n h g z := by
  intro p e s m args below meth c H locs cells slots L0 B hX hz hP hS hc hs hl
  exact lv_aload_n B.1 B.2.1 hd hi (r_look hl hv) (k p e s m args below meth c H locs cells slots L0 B hX hz hP hS hc hs hl)
theorem j_aload {i : Nat} {x : Nat} (hd : decode M.2.1 pc = .ok (.aload i, 2)) (hv : ls.lookup i = some (.ref x)) (k : r_T G M R n0 X Z (pc + 2) ls (.ref x :: st) n h g z) : r_T G M R n0 X Z pc ls st n h g z := by
  intro p e s m args below meth c H locs cells slots L0 B hX hz hP hS hc hs hl
  exact lv_aload B.1 B.2.1 hd (r_look hl hv) (k p e s m args below meth c H locs cells slots L0 B hX hz hP hS hc hs hl)
/-- a store into the locals -/
def r_st1 (ls : List (Nat × Value)) (i : Nat) (v : Value) : List (Nat × Value) := (i, v) :: ls.filter (fun q => !(q.1 == i) && !(q.1 + 1 == i && q.2.category == 2))
def r_st2 (ls : List (Nat × Value)) (i : Nat) (v : Value) : List (Nat × Value) := (i, v) :: ls.filter (fun q => !(q.1 == i) && (!(q.1 == i + 1) && !(q.1 + 1 == i && q.2.category == 2)))
theorem j_istore_n {q : Fin 4} {i : Nat} {x : Int32} {ls' : List (Nat × Value)} (hd : decode M.2.1 pc = .ok (.istore_n q, 1)) (hi : (q : Nat) = i) (hn : i < M.2.2.1) (he : r_st1 ls i (.int x) = ls') (k : r_T G M R n0 X Z (pc + 1) ls' st n h g z) : r_T G M R n0 X Z pc ls (.int x :: st) n h g z := by
  intro p e s m args below meth c H locs cells slots L0 B hX hz hP hS hc hs hl
  exact lv_istore_n B.1 B.2.1 hd hi hl hn he (fun L1 hl => k p e s m args below meth c H locs cells slots L1 B hX hz hP hS hc hs hl)
theorem j_istore {i : Nat} {x : Int32} {ls' : List (Nat × Value)} (hd : decode M.2.1 pc = .ok (.istore i, 2)) (hn : i < M.2.2.1) (he : r_st1 ls i (.int x) = ls') (k : r_T G M R n0 X Z (pc + 2) ls' st n h g z) : r_T G M R n0 X Z pc ls (.int x :: st) n h g z := by
  intro p e s m args below meth c H locs cells slots L0 B hX hz hP hS hc hs hl
  exact lv_istore B.1 B.2.1 hd hl hn he (fun L1 hl => k p e s m args below meth c H locs cells slots L1 B hX hz hP hS hc hs hl)
theorem j_lstore_n {q : Fin 4} {i : Nat} {x : Int64} {ls' : List (Nat × Value)} (hd : decode M.2.1 pc = .ok (.lstore_n q, 1)) (hi : (q : Nat) = i) (hn : i + 1 < M.2.2.1) (he : r_st2 ls i (.long x) = ls') (k : r_T G M R n0 X Z (pc + 1) ls' st n h g z) : r_T G M R n0 X Z pc ls (.long x :: st) n h g z := by
  intro p e s m args below meth c H locs cells slots L0 B hX hz hP hS hc hs hl
  exact lv_lstore_n B.1 B.2.1 hd hi hl hn he (fun L1 hl => k p e s m args below meth c H locs cells slots L1 B hX hz hP hS hc hs hl)
theorem j_astore_n {q : Fin 4} {i : Nat} {x : Nat} {ls' : List (Nat × Value)} (hd : decode M.2.1 pc = .ok (.astore_n q, 1)) (hi : (q : Nat) = i) (hn : i < M.2.2.1) (he : r_st1 ls i (.ref x) = ls') (k : r_T G M R n0 X Z (pc + 1) ls' st n h g z) : r_T G M R n0 X Z pc ls (.ref x :: st) n h g z := by
  intro p e s m args below meth c H locs cells slots L0 B hX hz hP hS hc hs hl
  exact lv_astore_n B.1 B.2.1 hd hi hl hn he (fun L1 hl => k p e s m args below meth c H locs cells slots L1 B hX hz hP hS hc hs hl)
theorem j_astore {i : Nat} {x : Nat} {ls' : List (Nat × Value)} (hd : decode M.2.1 pc = .ok (.astore i, 2)) (hn : i < M.2.2.1) (he : r_st1 ls i (.ref x) = ls') (k : r_T G M R n0 X Z (pc + 2) ls' st n h g z) : r_T G M R n0 X Z pc ls (.ref x :: st) n h g z := by
  intro p e s m args below meth c H locs cells slots L0 B hX hz hP hS hc hs hl
  exact lv_astore B.1 B.2.1 hd hl hn he (fun L1 hl => k p e s m args below meth c H locs cells slots L1 B hX hz hP hS hc hs hl)
theorem r_lk {i : Nat} {v : Value} (hv : ls.lookup i = some v) : ∃ q : Nat, ls[q]? = some (i, v) := by
  obtain ⟨l1, l2, e, -⟩ := List.lookup_eq_some_iff.mp hv
  exact ⟨l1.length, by rw [e]; simp⟩
theorem j_iinc {i : Nat} {j : Int} {x : Int32} {ls' : List (Nat × Value)} (hd : decode M.2.1 pc = .ok (.iinc i j, 3)) (hv : ls.lookup i = some (.int x)) (hn : i < M.2.2.1) (he : r_st1 ls i (.int (x + Int32.ofInt j)) = ls') (k : r_T G M R n0 X Z (pc + 3) ls' st n h g z) : r_T G M R n0 X Z pc ls st n h g z := by
  intro p e s m args below meth c H locs cells slots L0 B hX hz hP hS hc hs hl
  obtain ⟨q, hq⟩ := r_lk hv
  exact lv_iinc B.1 B.2.1 hd hl hq rfl hn he (fun L1 hl => k p e s m args below meth c H locs cells slots L1 B hX hz hP hS hc hs hl)
theorem j_if_eq {x : Int32} {off : Int} {tgt : Nat} (hd : decode M.2.1 pc = .ok (.ifCond .eq off, 3)) (ht : (pc : Int) + off = (tgt : Int)) (kt : x = 0 → r_T G M R n0 X Z tgt ls st n h g z) (kf : ¬ x = 0 → r_T G M R n0 X Z (pc + 3) ls st n h g z) : r_T G M R n0 X Z pc ls (.int x :: st) n h g z := by
  intro p e s m args below meth c H locs cells slots L0 B hX hz hP hS hc hs hl
  exact lv_if_eq B.1 B.2.1 hd ht (fun q => kt q p e s m args below meth c H locs cells slots L0 B hX hz hP hS hc hs hl) (fun q => kf q p e s m args below meth c H locs cells slots L0 B hX hz hP hS hc hs hl)
theorem j_icmp_eq {x y : Int32} {off : Int} {tgt : Nat} (hd : decode M.2.1 pc = .ok (.if_icmp .eq off, 3)) (ht : (pc : Int) + off = (tgt : Int)) (kt : x = y → r_T G M R n0 X Z tgt ls st n h g z) (kf : ¬ x = y → r_T G M R n0 X Z (pc + 3) ls st n h g z) : r_T G M R n0 X Z pc ls (.int y :: .int x :: st) n h g z := by
  intro p e s m args below meth c H locs cells slots L0 B hX hz hP hS hc hs hl
  exact lv_icmp_eq B.1 B.2.1 hd ht (fun q => kt q p e s m args below meth c H locs cells slots L0 B hX hz hP hS hc hs hl) (fun q => kf q p e s m args below meth c H locs cells slots L0 B hX hz hP hS hc hs hl)
theorem j_if_ne {x : Int32} {off : Int} {tgt : Nat} (hd : decode M.2.1 pc = .ok (.ifCond .ne off, 3)) (ht : (pc : Int) + off = (tgt : Int)) (kt : ¬ x = 0 → r_T G M R n0 X Z tgt ls st n h g z) (kf : x = 0 → r_T G M R n0 X Z (pc + 3) ls st n h g z) : r_T G M R n0 X Z pc ls (.int x :: st) n h g z := by
  intro p e s m args below meth c H locs cells slots L0 B hX hz hP hS hc hs hl
  exact lv_if_ne B.1 B.2.1 hd ht (fun q => kt q p e s m args below meth c H locs cells slots L0 B hX hz hP hS hc hs hl) (fun q => kf q p e s m args below meth c H locs cells slots L0 B hX hz hP hS hc hs hl)
theorem j_icmp_ne {x y : Int32} {off : Int} {tgt : Nat} (hd : decode M.2.1 pc = .ok (.if_icmp .ne off, 3)) (ht : (pc : Int) + off = (tgt : Int)) (kt : ¬ x = y → r_T G M R n0 X Z tgt ls st n h g z) (kf : x = y → r_T G M R n0 X Z (pc + 3) ls st n h g z) : r_T G M R n0 X Z pc ls (.int y :: .int x :: st) n h g z := by
  intro p e s m args below meth c H locs cells slots L0 B hX hz hP hS hc hs hl
  exact lv_icmp_ne B.1 B.2.1 hd ht (fun q => kt q p e s m args below meth c H locs cells slots L0 B hX hz hP hS hc hs hl) (fun q => kf q p e s m args below meth c H locs cells slots L0 B hX hz hP hS hc hs hl)
theorem j_if_lt {x : Int32} {off : Int} {tgt : Nat} (hd : decode M.2.1 pc = .ok (.ifCond .lt off, 3)) (ht : (pc : Int) + off = (tgt : Int)) (kt : x < 0 → r_T G M R n0 X Z tgt ls st n h g z) (kf : ¬ x < 0 → r_T G M R n0 X Z (pc + 3) ls st n h g z) : r_T G M R n0 X Z pc ls (.int x :: st) n h g z := by
  intro p e s m args below meth c H locs cells slots L0 B hX hz hP hS hc hs hl
  exact lv_if_lt B.1 B.2.1 hd ht (fun q => kt q p e s m args below meth c H locs cells slots L0 B hX hz hP hS hc hs hl) (fun q => kf q p e s m args below meth c H locs cells slots L0 B hX hz hP hS hc hs hl)
theorem j_icmp_lt {x y : Int32} {off : Int} {tgt : Nat} (hd : decode M.2.1 pc = .ok (.if_icmp .lt off, 3)) (ht : (pc : Int) + off = (tgt : Int)) (kt : x < y → r_T G M R n0 X Z tgt ls st n h g z) (kf : ¬ x < y → r_T G M R n0 X Z (pc + 3) ls st n h g z) : r_T G M R n0 X Z pc ls (.int y :: .int x :: st) n h g z := by
  intro p e s m args below meth c H locs cells slots L0 B hX hz hP hS hc hs hl
  exact lv_icmp_lt B.1 B.2.1 hd ht (fun q => kt q p e s m args below meth c H locs cells slots L0 B hX hz hP hS hc hs hl) (fun q => kf q p e s m args below meth c H locs cells slots L0 B hX hz hP hS hc hs hl)
theorem j_if_ge {x : Int32} {off : Int} {tgt : Nat} (hd : decode M.2.1 pc = .ok (.ifCond .ge off, 3)) (ht : (pc : Int) + off = (tgt : Int)) (kt : 0 ≤ x → r_T G M R n0 X Z tgt ls st n h g z) (kf : ¬ 0 ≤ x → r_T G M R n0 X Z (pc + 3) ls st n h g z) : r_T G M R n0 X Z pc ls (.int x :: st) n h g z := by
  intro p e s m args below meth c H locs cells slots L0 B hX hz hP hS hc hs hl
  exact lv_if_ge B.1 B.2.1 hd ht (fun q => kt q p e s m args below meth c H locs cells slots L0 B hX hz hP hS hc hs hl) (fun q => kf q p e s m args below meth c H locs cells slots L0 B hX hz hP hS hc hs hl)
theorem j_icmp_ge {x y : Int32} {off : Int} {tgt : Nat} (hd : decode M.2.1 pc = .ok (.if_icmp .ge off, 3)) (ht : (pc : Int) + off = (tgt : Int)) (kt : y ≤ x → r_T G M R n0 X Z tgt ls st n h g z) (kf : ¬ y ≤ x → r_T G M R n0 X Z (pc + 3) ls st n h g z) : r_T G M R n0 X Z pc ls (.int y :: .int x :: st) n h g z := by
  intro p e s m args below meth c H locs cells slots L0 B hX hz hP hS hc hs hl
  exact lv_icmp_ge B.1 B.2.1 hd ht (fun q => kt q p e s m args below meth c H locs cells slots L0 B hX hz hP hS hc hs hl) (fun q => kf q p e s m args below meth c H locs cells slots L0 B hX hz hP hS hc hs hl)
theorem j_if_gt {x : Int32} {off : Int} {tgt : Nat} (hd : decode M.2.1 pc = .ok (.ifCond .gt off, 3)) (ht : (pc : Int) + off = (tgt : Int)) (kt : 0 < x → r_T G M R n0 X Z tgt ls st n h g z) (kf : ¬ 0 < x → r_T G M R n0 X Z (pc + 3) ls st n h g z) : r_T G M R n0 X Z pc ls (.int x :: st) n h g z := by
  intro p e s m args below meth c H locs cells slots L0 B hX hz hP hS hc hs hl
  exact lv_if_gt B.1 B.2.1 hd ht (fun q => kt q p e s m args below meth c H locs cells slots L0 B hX hz hP hS hc hs hl) (fun q => kf q p e s m args below meth c H locs cells slots L0 B hX hz hP hS hc hs hl)
theorem j_icmp_gt {x y : Int32} {off : Int} {tgt : Nat} (hd : decode M.2.1 pc = .ok (.if_icmp .gt off, 3)) (ht : (pc : Int) + off = (tgt : Int)) (kt : y < x → r_T G M R n0 X Z tgt ls st n h g z) (kf : ¬ y < x → r_T G M R n0 X Z (pc + 3) ls st n h g z) : r_T G M R n0 X Z pc ls (.int y :: .int x :: st) n h g z := by
  intro p e s m args below meth c H locs cells slots L0 B hX hz hP hS hc hs hl
  exact lv_icmp_gt B.1 B.2.1 hd ht (fun q => kt q p e s m args below meth c H locs cells slots L0 B hX hz hP hS hc hs hl) (fun q => kf q p e s m args below meth c H locs cells slots L0 B hX hz hP hS hc hs hl)
theorem j_if_le {x : Int32} {off : Int} {tgt : Nat} (hd : decode M.2.1 pc = .ok (.ifCond .le off, 3)) (ht : (pc : Int) + off = (tgt : Int)) (kt : x ≤ 0 → r_T G M R n0 X Z tgt ls st n h g z) (kf : ¬ x ≤ 0 → r_T G M R n0 X Z (pc + 3) ls st n h g z) : r_T G M R n0 X Z pc ls (.int x :: st) n h g z := by
  intro p e s m args below meth c H locs cells slots L0 B hX hz hP hS hc hs hl
  exact lv_if_le B.1 B.2.1 hd ht (fun q => kt q p e s m args below meth c H locs cells slots L0 B hX hz hP hS hc hs hl) (fun q => kf q p e s m args below meth c H locs cells slots L0 B hX hz hP hS hc hs hl)
theorem j_icmp_le {x y : Int32} {off : Int} {tgt : Nat} (hd : decode M.2.1 pc = .ok (.if_icmp .le off, 3)) (ht : (pc : Int) + off = (tgt : Int)) (kt : x ≤ y → r_T G M R n0 X Z tgt ls st n h g z) (kf : ¬ x ≤ y → r_T G M R n0 X Z (pc + 3) ls st n h g z) : r_T G M R n0 X Z pc ls (.int y :: .int x :: st) n h g z := by
  intro p e s m args below meth c H locs cells slots L0 B hX hz hP hS hc hs hl
  exact lv_icmp_le B.1 B.2.1 hd ht (fun q => kt q p e s m args below meth c H locs cells slots L0 B hX hz hP hS hc hs hl) (fun q => kf q p e s m args below meth c H locs cells slots L0 B hX hz hP hS hc hs hl)
theorem j_goto {off : Int} {tgt : Nat} (hd : decode M.2.1 pc = .ok (.goto off, 3)) (ht : (pc : Int) + off = (tgt : Int)) (k : r_T G M R n0 X Z tgt ls st n h g z) : r_T G M R n0 X Z pc ls st n h g z := by
  intro p e s m args below meth c H locs cells slots L0 B hX hz hP hS hc hs hl
  exact lv_goto B.1 B.2.1 hd ht (k p e s m args below meth c H locs cells slots L0 B hX hz hP hS hc hs hl)
theorem j_tabOut {dflt lo hi : Int} {offs : Array Int} {len : Nat} {x : Int32} {tgt : Nat} (hd : decode M.2.1 pc = .ok (.tableswitch dflt lo hi offs, len)) (hx : x.toInt < lo ∨ hi < x.toInt) (ht : (pc : Int) + dflt = (tgt : Int)) (k : r_T G M R n0 X Z tgt ls st n h g z) : r_T G M R n0 X Z pc ls (.int x :: st) n h g z := by
  intro p e s m args below meth c H locs cells slots L0 B hX hz hP hS hc hs hl
  exact lv_tableOut B.1 B.2.1 hd hx ht (k p e s m args below meth c H locs cells slots L0 B hX hz hP hS hc hs hl)
theorem j_tabIn {dflt lo hi : Int} {offs : Array Int} {len : Nat} {x : Int32} {off : Int} {tgt : Nat} (hd : decode M.2.1 pc = .ok (.tableswitch dflt lo hi offs, len)) (h1 : ¬ x.toInt < lo) (h2 : ¬ hi < x.toInt) (ho : offs[(x.toInt - lo).toNat]? = some off) (ht : (pc : Int) + off = (tgt : Int)) (k : r_T G M R n0 X Z tgt ls st n h g z) : r_T G M R n0 X Z pc ls (.int x :: st) n h g z := by
  intro p e s m args below meth c H locs cells slots L0 B hX hz hP hS hc hs hl
  exact lv_tableIn B.1 B.2.1 hd h1 h2 ho ht (k p e s m args below meth c H locs cells slots L0 B hX hz hP hS hc hs hl)
theorem j_lookup {dflt : Int} {ps : Array (Int × Int)} {len : Nat} {x : Int32} {off : Int} {tgt : Nat} (hd : decode M.2.1 pc = .ok (.lookupswitch dflt ps, len)) (hp : (ps.toList.zip (ps.toList.drop 1)).all (fun (a, next) => a.1 < next.1) = true) (ho : Op.lookupswitch.offset ps.toList dflt x.toInt = off) (ht : (pc : Int) + off = (tgt : Int)) (k : r_T G M R n0 X Z tgt ls st n h g z) : r_T G M R n0 X Z pc ls (.int x :: st) n h g z := by
  intro p e s m args below meth c H locs cells slots L0 B hX hz hP hS hc hs hl
  exact lv_lookup B.1 B.2.1 hd hp ho ht (k p e s m args below meth c H locs cells slots L0 B hX hz hP hS hc hs hl)
theorem j_ldc {i : Nat} {v : Int32} (hd : decode M.2.1 pc = .ok (.ldc i, 2)) (hw : Cond.constant M.1.cls i v ∈ r_wg) (k : r_T G M R n0 X Z (pc + 2) ls (.int v :: st) n h g z) : r_T G M R n0 X Z pc ls st n h g z := by
  intro p e s m args below meth c H locs cells slots L0 B hX hz hP hS hc hs hl
  exact lv_ldc B.1 B.2.1 B.2.2.2.2.2.2.1 (B.2.2.2.2.2.2.2.1 _ hw) hd (k p e s m args below meth c H locs cells slots L0 B hX hz hP hS hc hs hl)
theorem j_ldcw {i : Nat} {v : Int32} (hd : decode M.2.1 pc = .ok (.ldc_w i, 3)) (hw : Cond.constant M.1.cls i v ∈ r_wg) (k : r_T G M R n0 X Z (pc + 3) ls (.int v :: st) n h g z) : r_T G M R n0 X Z pc ls st n h g z := by
  intro p e s m args below meth c H locs cells slots L0 B hX hz hP hS hc hs hl
  exact lv_ldcw B.1 B.2.1 B.2.2.2.2.2.2.1 (B.2.2.2.2.2.2.2.1 _ hw) hd (k p e s m args below meth c H locs cells slots L0 B hX hz hP hS hc hs hl)
theorem j_ldc2 {i : Nat} {v : Int64} (hd : decode M.2.1 pc = .ok (.ldc2_w i, 3)) (hw : Cond.constantLong M.1.cls i v ∈ r_wg) (k : r_T G M R n0 X Z (pc + 3) ls (.long v :: st) n h g z) : r_T G M R n0 X Z pc ls st n h g z := by
  intro p e s m args below meth c H locs cells slots L0 B hX hz hP hS hc hs hl
  exact lv_ldc2 B.1 B.2.1 B.2.2.2.2.2.2.1 (B.2.2.2.2.2.2.2.1 _ hw) hd (k p e s m args below meth c H locs cells slots L0 B hX hz hP hS hc hs hl)
theorem j_nonnull {x : Nat} {off : Int} {tgt : Nat} (hd : decode M.2.1 pc = .ok (.ifnonnull off, 3)) (ht : (pc : Int) + off = (tgt : Int)) (k : r_T G M R n0 X Z tgt ls st n h g z) : r_T G M R n0 X Z pc ls (.ref x :: st) n h g z := by
  intro p e s m args below meth c H locs cells slots L0 B hX hz hP hS hc hs hl
  exact lv_ifnonnull B.1 B.2.1 hd ht (k p e s m args below meth c H locs cells slots L0 B hX hz hP hS hc hs hl)
theorem j_locals {ls' : List (Nat × Value)} (hv : ∀ q ∈ ls', q ∈ ls) (k : r_T G M R n0 X Z pc ls' st n h g z) : r_T G M R n0 X Z pc ls st n h g z := by
  intro p e s m args below meth c H locs cells slots L0 B hX hz hP hS hc hs hl
  exact k p e s m args below meth c H locs cells slots L0 B hX hz hP hS hc hs ⟨hl.1, hl.2.1, fun q hq => hl.2.2 q (hv q hq)⟩
end
end
section
def r_y0 : Nat → FieldType := fun k => match k with
  | 0 => (.object "RingArm$Disc")
  | 1 => (.array .int)
  | 2 => (.array .int)
  | 3 => (.array .int)
  | 4 => .int
  | 5 => .int
  | 6 => .int
  | 7 => .boolean
  | _ => .int
theorem r_y0_ok : (∀ k, k < 9 → parseFieldDescriptor (r_T0 k).2.2.1 = some (r_y0 k)) ∧ (∀ a, a < 9 → ∀ b, b < 9 → a ≠ b → (r_T0 a).2.1 ≠ (r_T0 b).2.1) ∧ (∀ k, k < 9 → ((r_ft 0 k = 0 ∨ r_ft 0 k = 3) → defaultValue (r_y0 k) = .int 0) ∧ (r_ft 0 k = 1 → defaultValue (r_y0 k) = .null) ∧ (r_ft 0 k = 2 → defaultValue (r_y0 k) = .long 0) ∧ r_ft 0 k < 4) := by decide +kernel
def r_y1 : Nat → FieldType := fun k => match k with
  | 0 => (.array .int)
  | 1 => (.array .int)
  | 2 => (.array .int)
  | 3 => .int
  | 4 => .int
  | _ => .int
theorem r_y1_ok : (∀ k, k < 6 → parseFieldDescriptor (r_T1 k).2.2.1 = some (r_y1 k)) ∧ (∀ a, a < 6 → ∀ b, b < 6 → a ≠ b → (r_T1 a).2.1 ≠ (r_T1 b).2.1) ∧ (∀ k, k < 6 → ((r_ft 1 k = 0 ∨ r_ft 1 k = 3) → defaultValue (r_y1 k) = .int 0) ∧ (r_ft 1 k = 1 → defaultValue (r_y1 k) = .null) ∧ (r_ft 1 k = 2 → defaultValue (r_y1 k) = .long 0) ∧ r_ft 1 k < 4) := by decide +kernel
def r_y2 : Nat → FieldType := fun k => match k with
  | _ => .int
theorem r_y2_ok : (∀ k, k < 0 → parseFieldDescriptor (r_T2 k).2.2.1 = some (r_y2 k)) ∧ (∀ a, a < 0 → ∀ b, b < 0 → a ≠ b → (r_T2 a).2.1 ≠ (r_T2 b).2.1) ∧ (∀ k, k < 0 → ((r_ft 2 k = 0 ∨ r_ft 2 k = 3) → defaultValue (r_y2 k) = .int 0) ∧ (r_ft 2 k = 1 → defaultValue (r_y2 k) = .null) ∧ (r_ft 2 k = 2 → defaultValue (r_y2 k) = .long 0) ∧ r_ft 2 k < 4) := by decide +kernel
def r_y3 : Nat → FieldType := fun k => match k with
  | _ => .int
theorem r_y3_ok : (∀ k, k < 0 → parseFieldDescriptor (r_T3 k).2.2.1 = some (r_y3 k)) ∧ (∀ a, a < 0 → ∀ b, b < 0 → a ≠ b → (r_T3 a).2.1 ≠ (r_T3 b).2.1) ∧ (∀ k, k < 0 → ((r_ft 3 k = 0 ∨ r_ft 3 k = 3) → defaultValue (r_y3 k) = .int 0) ∧ (r_ft 3 k = 1 → defaultValue (r_y3 k) = .null) ∧ (r_ft 3 k = 2 → defaultValue (r_y3 k) = .long 0) ∧ r_ft 3 k < 4) := by decide +kernel
def r_y4 : Nat → FieldType := fun k => match k with
  | 0 => (.array .int)
  | 1 => (.array .int)
  | 2 => .int
  | _ => .int
theorem r_y4_ok : (∀ k, k < 4 → parseFieldDescriptor (r_T4 k).2.2.1 = some (r_y4 k)) ∧ (∀ a, a < 4 → ∀ b, b < 4 → a ≠ b → (r_T4 a).2.1 ≠ (r_T4 b).2.1) ∧ (∀ k, k < 4 → ((r_ft 4 k = 0 ∨ r_ft 4 k = 3) → defaultValue (r_y4 k) = .int 0) ∧ (r_ft 4 k = 1 → defaultValue (r_y4 k) = .null) ∧ (r_ft 4 k = 2 → defaultValue (r_y4 k) = .long 0) ∧ r_ft 4 k < 4) := by decide +kernel
def r_y5 : Nat → FieldType := fun k => match k with
  | 0 => (.array .int)
  | _ => .int
theorem r_y5_ok : (∀ k, k < 2 → parseFieldDescriptor (r_T5 k).2.2.1 = some (r_y5 k)) ∧ (∀ a, a < 2 → ∀ b, b < 2 → a ≠ b → (r_T5 a).2.1 ≠ (r_T5 b).2.1) ∧ (∀ k, k < 2 → ((r_ft 5 k = 0 ∨ r_ft 5 k = 3) → defaultValue (r_y5 k) = .int 0) ∧ (r_ft 5 k = 1 → defaultValue (r_y5 k) = .null) ∧ (r_ft 5 k = 2 → defaultValue (r_y5 k) = .long 0) ∧ r_ft 5 k < 4) := by decide +kernel
def r_y6 : Nat → FieldType := fun k => match k with
  | _ => .int
theorem r_y6_ok : (∀ k, k < 0 → parseFieldDescriptor (r_T6 k).2.2.1 = some (r_y6 k)) ∧ (∀ a, a < 0 → ∀ b, b < 0 → a ≠ b → (r_T6 a).2.1 ≠ (r_T6 b).2.1) ∧ (∀ k, k < 0 → ((r_ft 6 k = 0 ∨ r_ft 6 k = 3) → defaultValue (r_y6 k) = .int 0) ∧ (r_ft 6 k = 1 → defaultValue (r_y6 k) = .null) ∧ (r_ft 6 k = 2 → defaultValue (r_y6 k) = .long 0) ∧ r_ft 6 k < 4) := by decide +kernel
def r_y7 : Nat → FieldType := fun k => match k with
  | 0 => (.array .int)
  | 1 => (.array .int)
  | _ => .int
theorem r_y7_ok : (∀ k, k < 3 → parseFieldDescriptor (r_T7 k).2.2.1 = some (r_y7 k)) ∧ (∀ a, a < 3 → ∀ b, b < 3 → a ≠ b → (r_T7 a).2.1 ≠ (r_T7 b).2.1) ∧ (∀ k, k < 3 → ((r_ft 7 k = 0 ∨ r_ft 7 k = 3) → defaultValue (r_y7 k) = .int 0) ∧ (r_ft 7 k = 1 → defaultValue (r_y7 k) = .null) ∧ (r_ft 7 k = 2 → defaultValue (r_y7 k) = .long 0) ∧ r_ft 7 k < 4) := by decide +kernel
def r_y8 : Nat → FieldType := fun k => match k with
  | _ => .int
theorem r_y8_ok : (∀ k, k < 0 → parseFieldDescriptor (r_T8 k).2.2.1 = some (r_y8 k)) ∧ (∀ a, a < 0 → ∀ b, b < 0 → a ≠ b → (r_T8 a).2.1 ≠ (r_T8 b).2.1) ∧ (∀ k, k < 0 → ((r_ft 8 k = 0 ∨ r_ft 8 k = 3) → defaultValue (r_y8 k) = .int 0) ∧ (r_ft 8 k = 1 → defaultValue (r_y8 k) = .null) ∧ (r_ft 8 k = 2 → defaultValue (r_y8 k) = .long 0) ∧ r_ft 8 k < 4) := by decide +kernel
def r_y9 : Nat → FieldType := fun k => match k with
  | _ => .int
theorem r_y9_ok : (∀ k, k < 0 → parseFieldDescriptor (r_T9 k).2.2.1 = some (r_y9 k)) ∧ (∀ a, a < 0 → ∀ b, b < 0 → a ≠ b → (r_T9 a).2.1 ≠ (r_T9 b).2.1) ∧ (∀ k, k < 0 → ((r_ft 9 k = 0 ∨ r_ft 9 k = 3) → defaultValue (r_y9 k) = .int 0) ∧ (r_ft 9 k = 1 → defaultValue (r_y9 k) = .null) ∧ (r_ft 9 k = 2 → defaultValue (r_y9 k) = .long 0) ∧ r_ft 9 k < 4) := by decide +kernel
def r_y10 : Nat → FieldType := fun k => match k with
  | 0 => (.array .int)
  | 1 => (.array .int)
  | 2 => (.array .int)
  | _ => .int
theorem r_y10_ok : (∀ k, k < 4 → parseFieldDescriptor (r_T10 k).2.2.1 = some (r_y10 k)) ∧ (∀ a, a < 4 → ∀ b, b < 4 → a ≠ b → (r_T10 a).2.1 ≠ (r_T10 b).2.1) ∧ (∀ k, k < 4 → ((r_ft 10 k = 0 ∨ r_ft 10 k = 3) → defaultValue (r_y10 k) = .int 0) ∧ (r_ft 10 k = 1 → defaultValue (r_y10 k) = .null) ∧ (r_ft 10 k = 2 → defaultValue (r_y10 k) = .long 0) ∧ r_ft 10 k < 4) := by decide +kernel
def r_y11 : Nat → FieldType := fun k => match k with
  | 0 => (.object "RingArm$Page")
  | 1 => (.object "RingArm$Disc")
  | 2 => (.object "RingArm$Desk")
  | 3 => (.object "RingArm$Things")
  | 4 => (.object "RingArm$Sight")
  | 5 => (.array (.object "RingArm$First"))
  | 6 => (.object "RingArm$First")
  | 7 => (.object "RingArm$Disc")
  | 8 => (.object "RingArm$Desk")
  | 9 => (.object "RingArm$Things")
  | 10 => (.object "RingArm$Sight")
  | 11 => (.object "RingArm$First")
  | 12 => .boolean
  | 13 => (.object "RingArm$Desk")
  | 14 => (.object "RingArm$Orders")
  | 15 => .int
  | _ => .int
theorem r_y11_ok : (∀ k, k < 17 → parseFieldDescriptor (r_T11 k).2.2.1 = some (r_y11 k)) ∧ (∀ a, a < 17 → ∀ b, b < 17 → a ≠ b → (r_T11 a).2.1 ≠ (r_T11 b).2.1) ∧ (∀ k, k < 17 → ((r_ft 11 k = 0 ∨ r_ft 11 k = 3) → defaultValue (r_y11 k) = .int 0) ∧ (r_ft 11 k = 1 → defaultValue (r_y11 k) = .null) ∧ (r_ft 11 k = 2 → defaultValue (r_y11 k) = .long 0) ∧ r_ft 11 k < 4) := by decide +kernel
def r_y12 : Nat → FieldType := fun k => match k with
  | 0 => (.array .int)
  | 1 => .int
  | 2 => .int
  | 3 => .int
  | 4 => .int
  | 5 => .int
  | 6 => .int
  | 7 => .int
  | 8 => .int
  | 9 => .int
  | 10 => .int
  | 11 => .int
  | 12 => (.array .int)
  | 13 => (.array .int)
  | 14 => (.array .int)
  | 15 => .int
  | 16 => .int
  | 17 => .int
  | 18 => .int
  | 19 => (.array .int)
  | 20 => .int
  | 21 => (.array .int)
  | 22 => (.array .int)
  | 23 => (.array .int)
  | 24 => .int
  | 25 => (.array .int)
  | 26 => .int
  | 27 => .int
  | 28 => .int
  | 29 => .int
  | 30 => .int
  | 31 => .int
  | 32 => .int
  | 33 => .int
  | 34 => .int
  | 35 => .int
  | 36 => (.array .int)
  | 37 => (.array .int)
  | 38 => (.array .int)
  | 39 => (.array .int)
  | _ => .long
theorem r_y12_ok : (∀ k, k < 41 → parseFieldDescriptor (r_T12 k).2.2.1 = some (r_y12 k)) ∧ (∀ a, a < 41 → ∀ b, b < 41 → a ≠ b → (r_T12 a).2.1 ≠ (r_T12 b).2.1) ∧ (∀ k, k < 41 → ((r_ft 12 k = 0 ∨ r_ft 12 k = 3) → defaultValue (r_y12 k) = .int 0) ∧ (r_ft 12 k = 1 → defaultValue (r_y12 k) = .null) ∧ (r_ft 12 k = 2 → defaultValue (r_y12 k) = .long 0) ∧ r_ft 12 k < 4) := by decide +kernel
def r_y (c : Nat) : Nat → FieldType := match c with
  | 0 => r_y0
  | 1 => r_y1
  | 2 => r_y2
  | 3 => r_y3
  | 4 => r_y4
  | 5 => r_y5
  | 6 => r_y6
  | 7 => r_y7
  | 8 => r_y8
  | 9 => r_y9
  | 10 => r_y10
  | 11 => r_y11
  | _ => r_y12
theorem r_clOK {c : Nat} {q : vw_C} (hc : r_cl0[c]? = some q) : (∀ w ∈ u_ws q.1 q.2.1 q.2.2, w ∈ r_wg) ∧ q.2.2 = r_nf c ∧ (∀ k, k < q.2.2 → parseFieldDescriptor (q.2.1 k).2.2.1 = some (r_y c k)) ∧ (∀ a, a < q.2.2 → ∀ b, b < q.2.2 → a ≠ b → (q.2.1 a).2.1 ≠ (q.2.1 b).2.1) ∧ (∀ k, k < q.2.2 → ((r_ft c k = 0 ∨ r_ft c k = 3) → defaultValue (r_y c k) = .int 0) ∧ (r_ft c k = 1 → defaultValue (r_y c k) = .null) ∧ (r_ft c k = 2 → defaultValue (r_y c k) = .long 0) ∧ r_ft c k < 4) := by
  match c, hc with
  | 0, hc => cases hc; exact ⟨r_lay0, rfl, r_y0_ok.1, r_y0_ok.2.1, r_y0_ok.2.2⟩
  | 1, hc => cases hc; exact ⟨r_lay1, rfl, r_y1_ok.1, r_y1_ok.2.1, r_y1_ok.2.2⟩
  | 2, hc => cases hc; exact ⟨r_lay2, rfl, r_y2_ok.1, r_y2_ok.2.1, r_y2_ok.2.2⟩
  | 3, hc => cases hc; exact ⟨r_lay3, rfl, r_y3_ok.1, r_y3_ok.2.1, r_y3_ok.2.2⟩
  | 4, hc => cases hc; exact ⟨r_lay4, rfl, r_y4_ok.1, r_y4_ok.2.1, r_y4_ok.2.2⟩
  | 5, hc => cases hc; exact ⟨r_lay5, rfl, r_y5_ok.1, r_y5_ok.2.1, r_y5_ok.2.2⟩
  | 6, hc => cases hc; exact ⟨r_lay6, rfl, r_y6_ok.1, r_y6_ok.2.1, r_y6_ok.2.2⟩
  | 7, hc => cases hc; exact ⟨r_lay7, rfl, r_y7_ok.1, r_y7_ok.2.1, r_y7_ok.2.2⟩
  | 8, hc => cases hc; exact ⟨r_lay8, rfl, r_y8_ok.1, r_y8_ok.2.1, r_y8_ok.2.2⟩
  | 9, hc => cases hc; exact ⟨r_lay9, rfl, r_y9_ok.1, r_y9_ok.2.1, r_y9_ok.2.2⟩
  | 10, hc => cases hc; exact ⟨r_lay10, rfl, r_y10_ok.1, r_y10_ok.2.1, r_y10_ok.2.2⟩
  | 11, hc => cases hc; exact ⟨r_lay11, rfl, r_y11_ok.1, r_y11_ok.2.1, r_y11_ok.2.2⟩
  | 12, hc => cases hc; exact ⟨r_lay12, rfl, r_y12_ok.1, r_y12_ok.2.1, r_y12_ok.2.2⟩
  | c + 13, hc => simp [r_cl0] at hc
/-- a field by its entry of the pool: which one it is, its type, whether it is final -/
def r_fl (own : String) (i c j : Nat) (ty : FieldType) (fin : Bool) : Prop := ∃ q : vw_C, r_cl0[c]? = some q ∧ j < q.2.2 ∧ Cond.fieldLink own i (q.2.1 j).1 (q.2.1 j).2.1 (q.2.1 j).2.2.1 ∈ r_wg ∧ parseFieldDescriptor (q.2.1 j).2.2.1 = some ty ∧ (q.2.1 j).2.2.2 = fin ∧ (q.2.1 j).1 = q.1
section
variable {G : r_X} {M M' : r_M} {R : Room} {n0 n1 : Nat} {X : State → Prop} {Z : List Frame → Array Value → State → State → Prop} {F : r_F} {pc n : Nat} {ls : List (Nat × Value)} {st : List Value} {h : r_HI} {g : r_HR} {z : r_HL}
theorem j_geti {i c j k : Nat} {ty : FieldType} {fin : Bool} (hd : decode M.2.1 pc = .ok (.getfield i, 3)) (hf : r_fl M.1.cls i c j ty fin) (ht : r_ft c j = 0) (hp : r_pk k = (0, c)) (hk : k < n) (kk : r_T G M R n0 X Z (pc + 3) ls (.int (h k j) :: st) n h g z) : r_T G M R n0 X Z pc ls (.ref (G.2.1 + k) :: st) n h g z := by
  intro p e s m args below meth c0 H locs cells slots L0 B hX hz hP hS hc hs hl
  obtain ⟨⟨C, T, N⟩, hc0, hj, hw, -, -⟩ := hf
  have hO := r_clOK hc0
  exact va_get (D := r_G G) (cl := r_cl0) (ci := c) B.1 B.2.1 B.2.2.2.2.2.2.2.1 hO.1 B.2.2.2.2.2.2.1 B.2.2.2.2.2.2.2.2.2.2 hP k (by rw [r_W_at hk, r_E_o hp]) hc0 j hj (B.2.2.2.2.2.2.2.1 _ hw) (fun _ h9 => h9) (v := .int (h k j)) (by rw [r_fs_at (hO.2.1 ▸ hj)]; simp [r_fv, ht]) hd (kk p e s m args below meth c0 H locs cells slots L0 B hX hz hP hS hc hs hl)
theorem j_getz {i c j k : Nat} {ty : FieldType} {fin : Bool} (hd : decode M.2.1 pc = .ok (.getfield i, 3)) (hf : r_fl M.1.cls i c j ty fin) (ht : r_ft c j = 3) (hp : r_pk k = (0, c)) (hk : k < n) (kk : r_T G M R n0 X Z (pc + 3) ls (.int (h k j) :: st) n h g z) : r_T G M R n0 X Z pc ls (.ref (G.2.1 + k) :: st) n h g z := by
  intro p e s m args below meth c0 H locs cells slots L0 B hX hz hP hS hc hs hl
  obtain ⟨⟨C, T, N⟩, hc0, hj, hw, -, -⟩ := hf
  have hO := r_clOK hc0
  exact va_get (D := r_G G) (cl := r_cl0) (ci := c) B.1 B.2.1 B.2.2.2.2.2.2.2.1 hO.1 B.2.2.2.2.2.2.1 B.2.2.2.2.2.2.2.2.2.2 hP k (by rw [r_W_at hk, r_E_o hp]) hc0 j hj (B.2.2.2.2.2.2.2.1 _ hw) (fun _ h9 => h9) (v := .int (h k j)) (by rw [r_fs_at (hO.2.1 ▸ hj)]; simp [r_fv, ht]) hd (kk p e s m args below meth c0 H locs cells slots L0 B hX hz hP hS hc hs hl)
theorem j_getl {i c j k : Nat} {ty : FieldType} {fin : Bool} (hd : decode M.2.1 pc = .ok (.getfield i, 3)) (hf : r_fl M.1.cls i c j ty fin) (ht : r_ft c j = 2) (hp : r_pk k = (0, c)) (hk : k < n) (kk : r_T G M R n0 X Z (pc + 3) ls (.long (z k j) :: st) n h g z) : r_T G M R n0 X Z pc ls (.ref (G.2.1 + k) :: st) n h g z := by
  intro p e s m args below meth c0 H locs cells slots L0 B hX hz hP hS hc hs hl
  obtain ⟨⟨C, T, N⟩, hc0, hj, hw, -, -⟩ := hf
  have hO := r_clOK hc0
  exact va_get (D := r_G G) (cl := r_cl0) (ci := c) B.1 B.2.1 B.2.2.2.2.2.2.2.1 hO.1 B.2.2.2.2.2.2.1 B.2.2.2.2.2.2.2.2.2.2 hP k (by rw [r_W_at hk, r_E_o hp]) hc0 j hj (B.2.2.2.2.2.2.2.1 _ hw) (fun _ h9 => h9) (v := .long (z k j)) (by rw [r_fs_at (hO.2.1 ▸ hj)]; simp [r_fv, ht]) hd (kk p e s m args below meth c0 H locs cells slots L0 B hX hz hP hS hc hs hl)
theorem j_getr {i c j k y : Nat} {ty : FieldType} {fin : Bool} (hd : decode M.2.1 pc = .ok (.getfield i, 3)) (hf : r_fl M.1.cls i c j ty fin) (ht : r_ft c j = 1) (hp : r_pk k = (0, c)) (hk : k < n) (hy : g k j = some y) (kk : r_T G M R n0 X Z (pc + 3) ls (.ref (G.2.1 + y) :: st) n h g z) : r_T G M R n0 X Z pc ls (.ref (G.2.1 + k) :: st) n h g z := by
  intro p e s m args below meth c0 H locs cells slots L0 B hX hz hP hS hc hs hl
  obtain ⟨⟨C, T, N⟩, hc0, hj, hw, -, -⟩ := hf
  have hO := r_clOK hc0
  exact va_get (D := r_G G) (cl := r_cl0) (ci := c) B.1 B.2.1 B.2.2.2.2.2.2.2.1 hO.1 B.2.2.2.2.2.2.1 B.2.2.2.2.2.2.2.2.2.2 hP k (by rw [r_W_at hk, r_E_o hp]) hc0 j hj (B.2.2.2.2.2.2.2.1 _ hw) (fun _ h9 => h9) (v := .ref (G.2.1 + y)) (by rw [r_fs_at (hO.2.1 ▸ hj)]; simp [r_fv, ht, hy, va_rf]) hd (kk p e s m args below meth c0 H locs cells slots L0 B hX hz hP hS hc hs hl)
def r_cn (c : Nat) : String := match r_cl0[c]? with | some q => q.1 | none => ""
theorem r_putN {i c j k : Nat} {ty : FieldType} {v : Value} {h' : r_HI} {g' : r_HR} {z' : r_HL} (hd : decode M.2.1 pc = .ok (.putfield i, 3)) (hf : r_fl M.1.cls i c j ty false) (hp : r_pk k = (0, c)) (hk : k < n) (hn : narrow ty v = v) (hfit : fits ty v = true)
    (hset : (r_W G n h g z).set k (G.2.1 + k, .inr (c, (r_fs G.2.1 c h g z k).set j v)) = r_W G n h' g' z') (kk : r_T G M R n0 X Z (pc + 3) ls st n h' g' z') : r_T G M R n0 X Z pc ls (v :: .ref (G.2.1 + k) :: st) n h g z := by
  intro p e s m args below meth c0 H locs cells slots L0 B hX hz hP hS hc hs hl
  obtain ⟨⟨C, T, N⟩, hc0, hj, hw, hpt, hfin, hdc⟩ := hf
  have hO := r_clOK hc0
  have hK := B.2.2.2.2.2.2.2.2.2.2
  have hts := B.2.2.2.2.2.2.2.1
  have hap := va_apart (own := C) hts hO.1 (r_y c) hO.2.2.1 hO.2.2.2.1 hK hc0
  have hat : (r_W G n h g z)[k]? = some (G.2.1 + k, .inr (c, r_fs G.2.1 c h g z k)) := by rw [r_W_at hk, r_E_o hp]
  obtain ⟨r, h1, cell, q1, q2, q3, q4⟩ := hP k _ hat
  obtain rfl : r = (C, T, N) := Option.some.inj (h1.symm.trans hc0)
  obtain ⟨hSl, hfc, kC, hkC, hkind⟩ := hK.1 c _ hc0
  obtain ⟨cf, kf, fi, f, hi, hsl⟩ := hSl j hj
  have hlay := hts _ (hO.1 _ (u_in_lay hj))
  have hst := (u_facts hfc hkC (u_lays hts hO.1 hj) hi).1
  have hlen : j < (r_fs G.2.1 c h g z k).length := by
    simp only [r_fs, List.length_map, List.length_range]
    exact hO.2.1 ▸ hj
  unfold u_lay at hlay

  rw [if_neg (by rw [hfin]; decide)] at hlay
  refine W.putK B.1 B.2.1 (f := f) ⟨B.2.2.2.2.2.2.1, hts _ hw, ⟨_, _, _, hi⟩, hst⟩ (by rw [q2]; exact u_store hfc hkC hkind hlay hi hpt hn hfit) q1 q3 (by rw [hsl]; exact k2_hasslot (q4 j hj)) rfl rfl hd fun H' e1 e2 e3 => ?_
  rw [hsl] at e1 ⊢
  refine kk p e s m args below meth c0 H' _ cells slots L0 B hX (e2.trans hz) ?_ (hS.put e2 e3 (Nat.le_add_right _ _)) hc hs hl
  rw [← hset]
  exact hP.set r_D hat ⟨_, hc0, t_OB.to (V := updV (vp_V (r_fs G.2.1 c h g z k)) j v) ⟨_, e1, q2, q3, t_set q4 hap hj v⟩ (fun i _ => vp_updV_set hlen v i)⟩ e3
theorem r_putF {i c j k : Nat} {ty : FieldType} {v : Value} {h' : r_HI} {g' : r_HR} {z' : r_HL} (hd : decode M.2.1 pc = .ok (.putfield i, 3)) (hf : r_fl M.1.cls i c j ty true) (hp : r_pk k = (0, c)) (hk : k < n) (hin : M.1.name = "<init>") (hcls : r_cn c = M.1.cls) (hn : narrow ty v = v) (hfit : fits ty v = true)
    (hset : (r_W G n h g z).set k (G.2.1 + k, .inr (c, (r_fs G.2.1 c h g z k).set j v)) = r_W G n h' g' z') (kk : r_T G M R n0 X Z (pc + 3) ls st n h' g' z') : r_T G M R n0 X Z pc ls (v :: .ref (G.2.1 + k) :: st) n h g z := by
  intro p e s m args below meth c0 H locs cells slots L0 B hX hz hP hS hc hs hl
  obtain ⟨⟨C, T, N⟩, hc0, hj, hw, hpt, hfin, hdc⟩ := hf
  have hO := r_clOK hc0
  have hK := B.2.2.2.2.2.2.2.2.2.2
  have hts := B.2.2.2.2.2.2.2.1
  have hap := va_apart (own := C) hts hO.1 (r_y c) hO.2.2.1 hO.2.2.2.1 hK hc0
  have hat : (r_W G n h g z)[k]? = some (G.2.1 + k, .inr (c, r_fs G.2.1 c h g z k)) := by rw [r_W_at hk, r_E_o hp]
  obtain ⟨r, h1, cell, q1, q2, q3, q4⟩ := hP k _ hat
  obtain rfl : r = (C, T, N) := Option.some.inj (h1.symm.trans hc0)
  obtain ⟨hSl, hfc, kC, hkC, hkind⟩ := hK.1 c _ hc0
  obtain ⟨cf, kf, fi, f, hi, hsl⟩ := hSl j hj
  have hlay := hts _ (hO.1 _ (u_in_lay hj))
  have hst := (u_facts hfc hkC (u_lays hts hO.1 hj) hi).1
  have hlen : j < (r_fs G.2.1 c h g z k).length := by
    simp only [r_fs, List.length_map, List.length_range]
    exact hO.2.1 ▸ hj
  unfold u_lay at hlay

  rw [if_pos hfin] at hlay
  have hcf : m.cls = cf := by
    obtain ⟨_, _, c', _, _, _, -, -, hf', -, -, -, hown2, -⟩ := Cond.laysFinal_spec hlay
    have e1 : c' = cf := by have := hi.symm.trans hf'; simp at this; exact this.1.symm
    have e2 : (T j).1 = M.1.cls := by
      rw [← hcls]
      have e3 : r_cn c = C := by rw [r_cn, hc0]
      rw [e3]
      exact hdc
    have hown := B.2.2.2.2.2.2.1
    rw [← e2] at hown
    rw [← e1]
    exact Option.some.inj (hown.symm.trans hown2)
  refine W.putFinK B.1 B.2.1 B.2.2.2.2.2.2.1 (hts _ hw) hi hst hcf (B.2.2.2.2.2.1.trans hin) (by rw [q2]; exact u_fits hfc hkC hkind (Or.inr hlay) hi hpt hn hfit) q1 q3 (by rw [hsl]; exact k2_hasslot (q4 j hj)) rfl rfl hd fun H' e1 e2 e3 => ?_
  rw [hsl] at e1 ⊢
  refine kk p e s m args below meth c0 H' _ cells slots L0 B hX (e2.trans hz) ?_ (hS.put e2 e3 (Nat.le_add_right _ _)) hc hs hl
  rw [← hset]
  exact hP.set r_D hat ⟨_, hc0, t_OB.to (V := updV (vp_V (r_fs G.2.1 c h g z k)) j v) ⟨_, e1, q2, q3, t_set q4 hap hj v⟩ (fun i _ => vp_updV_set hlen v i)⟩ e3
theorem j_puti {i c j k : Nat} {v : Int32} (hd : decode M.2.1 pc = .ok (.putfield i, 3)) (hf : r_fl M.1.cls i c j .int false) (hj : j < r_nf c) (ht : r_ft c j = 0) (hp : r_pk k = (0, c)) (hk : k < n) (kk : r_T G M R n0 X Z (pc + 3) ls st n (r_up h k j v) g z) : r_T G M R n0 X Z pc ls (.int v :: .ref (G.2.1 + k) :: st) n h g z :=
  r_putN hd hf hp hk rfl rfl (r_set_i hp hj ht) kk
theorem j_putz {i c j k : Nat} {v : Int32} (hd : decode M.2.1 pc = .ok (.putfield i, 3)) (hf : r_fl M.1.cls i c j .boolean false) (hj : j < r_nf c) (ht : r_ft c j = 3) (hp : r_pk k = (0, c)) (hk : k < n) (hv : v = 0 ∨ v = 1) (kk : r_T G M R n0 X Z (pc + 3) ls st n (r_up h k j v) g z) : r_T G M R n0 X Z pc ls (.int v :: .ref (G.2.1 + k) :: st) n h g z :=
  r_putN hd hf hp hk (by rcases hv with rfl | rfl <;> rfl) (by rcases hv with rfl | rfl <;> rfl) (r_set_z hp hj ht) kk
theorem j_putl {i c j k : Nat} {v : Int64} (hd : decode M.2.1 pc = .ok (.putfield i, 3)) (hf : r_fl M.1.cls i c j .long false) (hj : j < r_nf c) (ht : r_ft c j = 2) (hp : r_pk k = (0, c)) (hk : k < n) (kk : r_T G M R n0 X Z (pc + 3) ls st n h g (r_uz z k j v)) : r_T G M R n0 X Z pc ls (.long v :: .ref (G.2.1 + k) :: st) n h g z :=
  r_putN hd hf hp hk rfl rfl (r_set_l hp hj ht) kk
theorem j_putr {i c j k : Nat} {y : Nat} {C1 : String} (hd : decode M.2.1 pc = .ok (.putfield i, 3)) (hf : r_fl M.1.cls i c j (.object C1) false) (hj : j < r_nf c) (ht : r_ft c j = 1) (hp : r_pk k = (0, c)) (hk : k < n) (kk : r_T G M R n0 X Z (pc + 3) ls st n h (r_ug g k j (some y)) z) : r_T G M R n0 X Z pc ls (.ref (G.2.1 + y) :: .ref (G.2.1 + k) :: st) n h g z :=
  r_putN hd hf hp hk rfl rfl (r_set_r (v := some y) hp hj ht) kk
theorem j_putFo {i c j k : Nat} {y : Nat} {C1 : String} (hd : decode M.2.1 pc = .ok (.putfield i, 3)) (hf : r_fl M.1.cls i c j (.object C1) true) (hj : j < r_nf c) (ht : r_ft c j = 1) (hp : r_pk k = (0, c)) (hk : k < n) (hin : M.1.name = "<init>") (hcls : r_cn c = M.1.cls) (kk : r_T G M R n0 X Z (pc + 3) ls st n h (r_ug g k j (some y)) z) : r_T G M R n0 X Z pc ls (.ref (G.2.1 + y) :: .ref (G.2.1 + k) :: st) n h g z :=
  r_putF hd hf hp hk hin hcls rfl rfl (r_set_r (v := some y) hp hj ht) kk
theorem j_putFa {i c j k : Nat} {y : Nat} {t1 : FieldType} (hd : decode M.2.1 pc = .ok (.putfield i, 3)) (hf : r_fl M.1.cls i c j (.array t1) true) (hj : j < r_nf c) (ht : r_ft c j = 1) (hp : r_pk k = (0, c)) (hk : k < n) (hin : M.1.name = "<init>") (hcls : r_cn c = M.1.cls) (kk : r_T G M R n0 X Z (pc + 3) ls st n h (r_ug g k j (some y)) z) : r_T G M R n0 X Z pc ls (.ref (G.2.1 + y) :: .ref (G.2.1 + k) :: st) n h g z :=
  r_putF hd hf hp hk hin hcls rfl rfl (r_set_r (v := some y) hp hj ht) kk
theorem j_iald {k m : Nat} {i : Int32} (hd : decode M.2.1 pc = .ok (.iaload, 1)) (hp : r_pk k = (1, m)) (hk : k < n) (hi : vp_in i m) (kk : r_T G M R n0 X Z (pc + 1) ls (.int (h k i.toNatClampNeg) :: st) n h g z) : r_T G M R n0 X Z pc ls (.int i :: .ref (G.2.1 + k) :: st) n h g z := by
  intro p e s m args below meth c0 H locs cells slots L0 B hX hz hP hS hc hs hl
  exact va_iald B.1 B.2.1 B.2.2.2.2.2.2.2.2.2.2 hP k 0 (by rw [r_W_at hk, r_E_i hp]) rfl hi hd (kk p e s m args below meth c0 H locs cells slots L0 B hX hz hP hS hc hs hl)
theorem j_alen {k m : Nat} {v : Int32} (hd : decode M.2.1 pc = .ok (.arraylength, 1)) (hp : r_pk k = (1, m)) (hk : k < n) (hv : Int32.ofNat m = v) (kk : r_T G M R n0 X Z (pc + 1) ls (.int v :: st) n h g z) : r_T G M R n0 X Z pc ls (.ref (G.2.1 + k) :: st) n h g z := by
  intro p e s m args below meth c0 H locs cells slots L0 B hX hz hP hS hc hs hl
  exact va_alen B.1 B.2.1 B.2.2.2.2.2.2.2.2.2.2 hP k 0 (by rw [r_W_at hk, r_E_i hp]) (ty := .int) rfl hv hd (kk p e s m args below meth c0 H locs cells slots L0 B hX hz hP hS hc hs hl)
theorem j_alenq {k m : Nat} {v : Int32} (hd : decode M.2.1 pc = .ok (.arraylength, 1)) (hp : r_pk k = (2, m)) (hk : k < n) (hv : Int32.ofNat m = v) (kk : r_T G M R n0 X Z (pc + 1) ls (.int v :: st) n h g z) : r_T G M R n0 X Z pc ls (.ref (G.2.1 + k) :: st) n h g z := by
  intro p e s m args below meth c0 H locs cells slots L0 B hX hz hP hS hc hs hl
  exact va_alen B.1 B.2.1 B.2.2.2.2.2.2.2.2.2.2 hP k 1 (by rw [r_W_at hk, r_E_q hp]) (ty := .object "RingArm$First") rfl hv hd (kk p e s m args below meth c0 H locs cells slots L0 B hX hz hP hS hc hs hl)
theorem j_aald {k m y : Nat} {i : Int32} (hd : decode M.2.1 pc = .ok (.aaload, 1)) (hp : r_pk k = (2, m)) (hk : k < n) (hi : vp_in i m) (hy : g k i.toNatClampNeg = some y) (kk : r_T G M R n0 X Z (pc + 1) ls (.ref (G.2.1 + y) :: st) n h g z) : r_T G M R n0 X Z pc ls (.int i :: .ref (G.2.1 + k) :: st) n h g z := by
  intro p e s m args below meth c0 H locs cells slots L0 B hX hz hP hS hc hs hl
  refine va_aldq B.1 B.2.1 B.2.2.2.2.2.2.2.2.2.2 hP k 1 (by rw [r_W_at hk, r_E_q hp]) rfl hi hd ?_
  have e1 : va_rf ((g k i.toNatClampNeg).map (G.2.1 + ·)) = .ref (G.2.1 + y) := by rw [hy]; rfl
  rw [e1]
  exact kk p e s m args below meth c0 H locs cells slots L0 B hX hz hP hS hc hs hl
theorem j_iast {k q9 : Nat} {i v : Int32} (hd : decode M.2.1 pc = .ok (.iastore, 1)) (hp : r_pk k = (1, q9)) (hk : k < n) (hi : vp_in i q9) (kk : r_T G M R n0 X Z (pc + 1) ls st n (r_up h k i.toNatClampNeg v) g z) : r_T G M R n0 X Z pc ls (.int v :: .int i :: .ref (G.2.1 + k) :: st) n h g z := by
  intro p e s m args below meth c0 H locs cells slots L0 B hX hz hP hS hc hs hl
  have hat : (r_W G n h g z)[k]? = some (G.2.1 + k, .inl (G.2.2.2.2.1, q9, .inl (h k))) := by rw [r_W_at hk, r_E_i hp]
  have hcell : H[G.2.1 + k]? = some (arrV G.2.2.2.2.1 q9 (fun j => .int (h k j))) := hP k _ hat
  have hAr := (B.2.2.2.2.2.2.2.2.2.2.2 0 _ rfl).1
  refine W.iast B.1 B.2.1 hcell (hAr q9 _) (fun q => by cases q) (by rw [arrV_size]; exact hi) rfl rfl hd fun H' e1 e2 e3 => ?_
  refine kk p e s m args below meth c0 H' _ cells slots L0 B hX (e2.trans hz) ?_ (hS.put e2 e3 (Nat.le_add_right _ _)) hc hs hl
  rw [← r_set_a (j := i.toNatClampNeg) (v := v) hp]
  refine hP.set r_D hat ?_ e3
  show H'[G.2.1 + k]? = some (vp_cell _ _)
  rw [e1, vp_cell_i, arrV_store]
  refine congrArg (fun f => some (arrV G.2.2.2.2.1 q9 f)) (funext fun q => ?_)
  by_cases hq : q = i.toNatClampNeg
  · simp [updV, upd, hq]
  · simp [updV, upd, hq]
theorem j_iret {i : Int32} (hd : decode M.2.1 pc = .ok (.ireturn, 1)) (hr : M.2.2.2 = some .int) (hF : F (some (.int i)) h g z) : r_T G M R n0 X (r_mz G n0 n F) pc ls [.int i] n h g z := by
  intro p e s m args below meth c0 H locs cells slots L0 B hX hz hP hS hc hs hl
  have e1 : cells = n - n0 := by omega
  have e2 : slots = r_tot n - r_tot n0 := by omega
  subst e1; subst e2
  exact W.iret B.1 B.2.1 (B.2.2.2.1.trans hr) (fun t ht hW => ⟨⟨_, h, g, z, rfl, hF, by rw [ht]; exact hz, by rw [ht]; exact hP, va_K.moved hW.alike B.2.2.2.2.2.2.2.2.2.2⟩, hS.F ht⟩) hS.2.2 hd (hlocks := B.2.2.2.2.1)
theorem j_zret {i : Int32} (hd : decode M.2.1 pc = .ok (.ireturn, 1)) (hr : M.2.2.2 = some .boolean) (hv : i = 0 ∨ i = 1) (hF : F (some (.int i)) h g z) : r_T G M R n0 X (r_mz G n0 n F) pc ls [.int i] n h g z := by
  intro p e s m args below meth c0 H locs cells slots L0 B hX hz hP hS hc hs hl
  have e1 : cells = n - n0 := by omega
  have e2 : slots = r_tot n - r_tot n0 := by omega
  subst e1; subst e2
  exact W.zret B.1 B.2.1 (B.2.2.2.1.trans hr) (by rcases hv with rfl | rfl <;> rfl) (fun t ht hW => ⟨⟨_, h, g, z, rfl, hF, by rw [ht]; exact hz, by rw [ht]; exact hP, va_K.moved hW.alike B.2.2.2.2.2.2.2.2.2.2⟩, hS.F ht⟩) hS.2.2 hd (hlocks := B.2.2.2.2.1)
theorem j_lret {i : Int64} (hd : decode M.2.1 pc = .ok (.lreturn, 1)) (hr : M.2.2.2 = some .long) (hF : F (some (.long i)) h g z) : r_T G M R n0 X (r_mz G n0 n F) pc ls [.long i] n h g z := by
  intro p e s m args below meth c0 H locs cells slots L0 B hX hz hP hS hc hs hl
  have e1 : cells = n - n0 := by omega
  have e2 : slots = r_tot n - r_tot n0 := by omega
  subst e1; subst e2
  exact W.lret B.1 B.2.1 (B.2.2.2.1.trans hr) (fun t ht hW => ⟨⟨_, h, g, z, rfl, hF, by rw [ht]; exact hz, by rw [ht]; exact hP, va_K.moved hW.alike B.2.2.2.2.2.2.2.2.2.2⟩, hS.F ht⟩) hS.2.2 hd (hlocks := B.2.2.2.2.1)
theorem j_aret {y : Nat} {C1 : String} (hd : decode M.2.1 pc = .ok (.areturn, 1)) (hr : M.2.2.2 = some (.object C1)) (hF : F (some (.ref (G.2.1 + y))) h g z) : r_T G M R n0 X (r_mz G n0 n F) pc ls [.ref (G.2.1 + y)] n h g z := by
  intro p e s m args below meth c0 H locs cells slots L0 B hX hz hP hS hc hs hl
  have e1 : cells = n - n0 := by omega
  have e2 : slots = r_tot n - r_tot n0 := by omega
  subst e1; subst e2
  exact W.aret B.1 B.2.1 (B.2.2.2.1.trans hr) (Or.inl ⟨_, rfl⟩) (Or.inr ⟨_, rfl⟩) (fun t ht hW => ⟨⟨_, h, g, z, rfl, hF, by rw [ht]; exact hz, by rw [ht]; exact hP, va_K.moved hW.alike B.2.2.2.2.2.2.2.2.2.2⟩, hS.F ht⟩) hS.2.2 hd (hlocks := B.2.2.2.2.1)
theorem j_vret (hd : decode M.2.1 pc = .ok (.return_, 1)) (hr : M.2.2.2 = none) (hF : F none h g z) : r_T G M R n0 X (r_mz G n0 n F) pc ls [] n h g z := by
  intro p e s m args below meth c0 H locs cells slots L0 B hX hz hP hS hc hs hl
  have e1 : cells = n - n0 := by omega
  have e2 : slots = r_tot n - r_tot n0 := by omega
  subst e1; subst e2
  exact W.vret B.1 B.2.1 (B.2.2.2.1.trans hr) (fun t ht hW => ⟨⟨_, h, g, z, rfl, hF, by rw [ht]; exact hz, by rw [ht]; exact hP, va_K.moved hW.alike B.2.2.2.2.2.2.2.2.2.2⟩, hS.F ht⟩) hS.2.2 hd (hlocks := B.2.2.2.2.1)
end
end
section
theorem r_wa : Cond.arrayClass .int ∈ r_wg := r_in 39 (by decide +kernel) (by decide +kernel)
theorem r_wo1 : Cond.instanceMethod Lib.objectInit ∈ r_wg := r_in 21 (by decide +kernel) (by decide +kernel)
theorem r_wo2 : Cond.code Lib.objectInit ⟨#[0xb1]⟩ 1 none ∈ r_wg := r_in 22 (by decide +kernel) (by decide +kernel)
section
variable {G : r_X} {M M' : r_M} {R : Room} {n0 n1 : Nat} {X : State → Prop} {Z : List Frame → Array Value → State → State → Prop} {F : r_F} {pc n : Nat} {ls : List (Nat × Value)} {st : List Value} {h : r_HI} {g : r_HR} {z : r_HL}
theorem r_W_succ : r_W G (n + 1) h g z = r_W G n h g z ++ [(G.2.1 + n, r_E G h g z n)] := by simp [r_W, List.range_succ]
theorem r_sz_o {c : Nat} (hp : r_pk n = (0, c)) : r_tot (n + 1) = r_tot n + r_nf c := by simp [r_tot, r_sz, hp]
theorem r_sz_a {q : Nat} (hp : r_pk n = (1, q)) : r_tot (n + 1) = r_tot n + q := by simp [r_tot, r_sz, hp]
theorem r_sz_q {q : Nat} (hp : r_pk n = (2, q)) : r_tot (n + 1) = r_tot n + q := by simp [r_tot, r_sz, hp]
theorem r_P_push {H H1 : Heap} (hz : H.size = G.2.1 + n) (hP : va_P (r_G G) r_cl0 (r_W G n h g z) H) (o1 : ∀ q, q < G.2.1 + n → H1[q]? = H[q]?) (he : va_at (r_G G) r_cl0 (G.2.1 + n, r_E G h g z n) H1) : va_P (r_G G) r_cl0 (r_W G (n + 1) h g z) H1 := by
  rw [r_W_succ]
  refine (hP.kept (fun k x hx => o1 x.1 (hz ▸ (hP k x hx).lt))).app (fun k x hx => ?_)
  have hk : k < 1 := (List.getElem?_eq_some_iff.mp hx).1
  rw [show k = 0 by omega] at hx
  cases hx
  exact he
theorem r_S_push {H0 H H1 : Heap} {locs : List Loc} {A : Nat → Prop} {b : Nat} (hz : H.size = b) (z1 : H1.size = b + 1) (hS : va_S A H0 H locs) (o1 : ∀ q, q < b → H1[q]? = H[q]?) : va_S A H0 H1 locs :=
  ⟨Nat.le_trans hS.1 (by omega), fun x h1 h2 => (o1 x (hz ▸ Nat.lt_of_lt_of_le h1 hS.1)).trans (hS.2.1 x h1 h2), hS.2.2⟩
theorem r_cn_at {c : Nat} (hc : c < 13) : ∃ q : vw_C, r_cl0[c]? = some q ∧ r_cn c = q.1 := by
  have h1 : r_cl0[c]? = some (r_cl0[c]'(by simpa [r_cl0] using hc)) := List.getElem?_eq_getElem _
  exact ⟨_, h1, by rw [r_cn, h1]⟩
theorem j_new {i c : Nat} {C : String} (hd : decode M.2.1 pc = .ok (.new i, 3)) (hc1 : c < 13) (hcn : r_cn c = C) (hl1 : Cond.classLink M.1.cls i C ∈ r_wg) (hi : Cond.instantiable C (r_nf c) ∈ r_wg) (hini : Cond.initialized C ∈ r_wg) (hp : r_pk n = (0, c)) (h0 : h n = fun _ => 0) (g0 : g n = fun _ => none) (z0 : z n = fun _ => 0) (hR : n + 1 ≤ n0 + R.cells ∧ r_tot n + r_nf c ≤ r_tot n0 + R.slots)
    (kk : r_T G M R n0 X Z (pc + 3) ls (.ref (G.2.1 + n) :: st) (n + 1) h g z) : r_T G M R n0 X Z pc ls st n h g z := by
  intro p e s m args below meth c0 H locs cells slots L0 B hX hz hP hS hc hs hl
  obtain ⟨⟨C', T, N⟩, hq, e0⟩ := r_cn_at hc1
  have hO := r_clOK hq
  have hN : N = r_nf c := hO.2.1
  have eC : C' = C := e0.symm.trans hcn
  subst hN; subst eC
  have hKn := B.2.2.2.2.2.2.2.2.2.2.1 c _ hq
  refine W.newcK B.1 B.2.1 B.2.2.2.2.2.2.1 (B.2.2.2.2.2.2.2.1 _ hl1) (B.2.2.2.2.2.2.2.1 _ hi) (B.2.2.2.2.2.2.2.1 _ hini) rfl hd (by omega) (by omega) hKn.2.1 hz fun H1 kC hkC e1 z1 o1 => ?_
  refine kk p e s m args below meth c0 H1 locs (cells + 1) (slots + r_nf c) L0 B hX z1 (r_P_push hz hP o1 ?_) (r_S_push hz z1 hS o1) (by omega) (by rw [r_sz_o hp]; omega) hl
  rw [r_E_o hp]
  refine ⟨_, hq, (u_born (r_y c) B.2.2.2.2.2.2.2.1 hO.1 hKn hkC e1 hO.2.2.1).to (fun j hj => ?_)⟩
  have hD := hO.2.2.2.2 j hj
  have e2 : vp_V (r_fs G.2.1 c h g z n) j = r_fv G.2.1 (r_ft c j) h g z n j := by
    show (r_fs G.2.1 c h g z n).getD j .null = _
    rw [List.getD_eq_getElem?_getD, r_fs_at hj]
    rfl
  rw [e2]
  have h4 := hD.2.2.2
  rcases (show r_ft c j = 0 ∨ r_ft c j = 1 ∨ r_ft c j = 2 ∨ r_ft c j = 3 by omega) with q | q | q | q
  · rw [hD.1 (Or.inl q)]; simp [r_fv, q, h0]
  · rw [hD.2.1 q]; simp [r_fv, q, g0, va_rf]
  · rw [hD.2.2.1 q]; simp [r_fv, q, z0]
  · rw [hD.1 (Or.inr q)]; simp [r_fv, q, h0]
theorem j_newa {q : Nat} {v : Int32} (hd : decode M.2.1 pc = .ok (.newarray .int, 2)) (hp : r_pk n = (1, q)) (hv0 : ¬ v < 0) (hv : v.toNatClampNeg = q) (hb : q * componentBytes (newarray.typeOf .int) ≤ 536870912) (h0 : h n = fun _ => 0) (hR : n + 1 ≤ n0 + R.cells ∧ r_tot n + q ≤ r_tot n0 + R.slots)
    (kk : r_T G M R n0 X Z (pc + 2) ls (.ref (G.2.1 + n) :: st) (n + 1) h g z) : r_T G M R n0 X Z pc ls (.int v :: st) n h g z := by
  intro p e s m args below meth c0 H locs cells slots L0 B hX hz hP hS hc hs hl
  refine va_newaK (atype := .int) B.1 B.2.1 (B.2.2.2.2.2.2.2.1 _ r_wa) rfl hd rfl hv0 hv hb (by omega) (by omega) hz fun H1 cA e1 z1 o1 hAr hNm => ?_
  have ec : cA = G.2.2.2.2.1 := by
    have h1 : s.vm.findClass ("[" ++ FieldType.int.toString) = some G.2.2.2.2.1 := (B.2.2.2.2.2.2.2.2.2.2.2 0 _ rfl).2
    exact Option.some.inj (hNm.symm.trans h1)
  subst ec
  refine kk p e s m args below meth c0 H1 locs (cells + 1) (slots + q) L0 B hX z1 (r_P_push hz hP o1 ?_) (r_S_push hz z1 hS o1) (by omega) (by rw [r_sz_a hp]; omega) hl
  rw [r_E_i hp]
  show H1[G.2.1 + n]? = some (vp_cell _ _)
  rw [e1, vp_cell_i, h0]
  rfl
theorem j_anew {i q : Nat} {v : Int32} (hd : decode M.2.1 pc = .ok (.anewarray i, 3)) (hl1 : Cond.classLink M.1.cls i "RingArm$First" ∈ r_wg) (hp : r_pk n = (2, q)) (hv0 : ¬ v < 0) (hv : v.toNatClampNeg = q) (hb : q * 4 ≤ 536870912) (g0 : g n = fun _ => none) (hR : n + 1 ≤ n0 + R.cells ∧ r_tot n + q ≤ r_tot n0 + R.slots)
    (kk : r_T G M R n0 X Z (pc + 3) ls (.ref (G.2.1 + n) :: st) (n + 1) h g z) : r_T G M R n0 X Z pc ls (.int v :: st) n h g z := by
  intro p e s m args below meth c0 H locs cells slots L0 B hX hz hP hS hc hs hl
  subst hv
  refine W.anew B.1 B.2.1 B.2.2.2.2.2.2.1 (B.2.2.2.2.2.2.2.1 _ hl1) (va_AO.use B.2.2.2.2.2.2.2.2.1.2.2.2) rfl hd rfl hv0 hb (by omega) (by omega) fun cA kA comp f1 f2 f3 f4 => ?_
  have ec : cA = G.2.2.2.2.2 := by
    obtain ⟨_, _, -, -, -, h1⟩ := (B.2.2.2.2.2.2.2.2.2.2.2 1 _ rfl).2
    exact Option.some.inj (f1.symm.trans h1)
  subst ec
  generalize hH1 : H.push ({ cls := G.2.2.2.2.2, slots := Array.replicate v.toNatClampNeg .null, vm := .none } : Cell) = H1
  have z1 : H1.size = G.2.1 + n + 1 := by rw [← hH1, Array.size_push, hz]
  have e1 : H1[G.2.1 + n]? = some (arrV G.2.2.2.2.2 v.toNatClampNeg (fun _ => .null)) := by rw [← hH1, ← hz, Array.getElem?_push_size, ← arrV_new]
  have o1 : ∀ q : Nat, q < G.2.1 + n → H1[q]? = H[q]? := fun q hq => by rw [← hH1, Array.getElem?_push, if_neg (Nat.ne_of_lt (hz ▸ hq))]
  rw [hz]
  refine kk p e s m args below meth c0 H1 locs (cells + 1) (slots + v.toNatClampNeg) L0 B hX z1 (r_P_push hz hP o1 ?_) (r_S_push hz z1 hS o1) (by omega) (by rw [r_sz_q hp]; omega) hl
  rw [r_E_q hp]
  show H1[G.2.1 + n]? = some (vp_cell _ _)
  rw [vp_cell_q, e1, g0]
  rfl
theorem j_oinit {i a : Nat} (hd : decode M.2.1 pc = .ok (.invokespecial i, 3)) (hl1 : Cond.methodLink M.1.cls i Lib.objectInit ∈ r_wg) (hR : 1 ≤ R.frames ∧ (st.map fun v => v.category).sum + 12 ≤ R.locals) (k : r_T G M R n0 X Z (pc + 3) ls st n h g z) : r_T G M R n0 X Z pc ls (.ref a :: st) n h g z := by
  intro p e s m args below meth c0 H locs cells slots L0 B hX hz hP hS hc hs hl
  refine W.objInit B.1 B.2.1 B.2.2.2.2.2.2.1 (B.2.2.2.2.2.2.2.1 _ hl1) (B.2.2.2.2.2.2.2.1 _ r_wo1) (B.2.2.2.2.2.2.2.1 _ r_wo2) rfl (by rw [B.2.2.1]; exact hl.1) rfl hd hR.1 ?_ ?_
  · show 2 * 0 + _ + 12 ≤ _
    rw [Nat.mul_zero, Nat.zero_add]
    exact hR.2
  · exact k p e s m args below meth c0 H locs cells slots L0 B hX hz hP hS hc hs hl
theorem r_recv {s : State} {H : Heap} {k c : Nat} (hK : va_K (r_G G) r_cl0 (r_ty G) s) (hP : va_P (r_G G) r_cl0 (r_W G n h g z) H) (hp : r_pk k = (0, c)) (hk : k < n) (hc1 : c < 13) : ∃ cell : Cell, H[G.2.1 + k]? = some cell ∧ cell.vm.isStatics = false ∧ s.vm.findClass (r_cn c) = some cell.cls := by
  obtain ⟨q, hq, e0⟩ := r_cn_at hc1
  rw [e0]
  exact va_recv hK hP hq (q0 := k) (by rw [r_W_at hk, r_E_o hp])
theorem j_instY {i k c : Nat} {nm : String} (hd : decode M.2.1 pc = .ok (.instanceof i, 3)) (hl1 : Cond.classLink M.1.cls i nm ∈ r_wg) (hc1 : c < 13) (hca : (r_cn c, nm) ∈ r_cast) (hp : r_pk k = (0, c)) (hk : k < n) (kk : r_T G M R n0 X Z (pc + 3) ls (.int 1 :: st) n h g z) : r_T G M R n0 X Z pc ls (.ref (G.2.1 + k) :: st) n h g z := by
  intro p e s m args below meth c0 H locs cells slots L0 B hX hz hP hS hc hs hl
  exact va_instY B.1 B.2.1 B.2.2.2.2.2.2.1 (B.2.2.2.2.2.2.2.1 _ hl1) (B.2.2.2.2.2.2.2.2.1.2.1 _ hca) (r_recv B.2.2.2.2.2.2.2.2.2.2 hP hp hk hc1) hd (kk p e s m args below meth c0 H locs cells slots L0 B hX hz hP hS hc hs hl)
theorem j_instN {i k c : Nat} {nm : String} (hd : decode M.2.1 pc = .ok (.instanceof i, 3)) (hl1 : Cond.classLink M.1.cls i nm ∈ r_wg) (hc1 : c < 13) (hca : (r_cn c, nm) ∈ r_ncast) (hp : r_pk k = (0, c)) (hk : k < n) (kk : r_T G M R n0 X Z (pc + 3) ls (.int 0 :: st) n h g z) : r_T G M R n0 X Z pc ls (.ref (G.2.1 + k) :: st) n h g z := by
  intro p e s m args below meth c0 H locs cells slots L0 B hX hz hP hS hc hs hl
  exact va_instNo B.1 B.2.1 B.2.2.2.2.2.2.1 (B.2.2.2.2.2.2.2.1 _ hl1) (B.2.2.2.2.2.2.2.2.1.2.2.1 _ hca) (r_recv B.2.2.2.2.2.2.2.2.2.2 hP hp hk hc1) hd (kk p e s m args below meth c0 H locs cells slots L0 B hX hz hP hS hc hs hl)
theorem j_instS {i k c : Nat} (hd : decode M.2.1 pc = .ok (.instanceof i, 3)) (hl1 : Cond.classLink M.1.cls i (r_cn c) ∈ r_wg) (hc1 : c < 13) (hp : r_pk k = (0, c)) (hk : k < n) (kk : r_T G M R n0 X Z (pc + 3) ls (.int 1 :: st) n h g z) : r_T G M R n0 X Z pc ls (.ref (G.2.1 + k) :: st) n h g z := by
  intro p e s m args below meth c0 H locs cells slots L0 B hX hz hP hS hc hs hl
  obtain ⟨q, hq, e0⟩ := r_cn_at hc1
  have hca := (B.2.2.2.2.2.2.2.2.2.2.1 c _ hq).2
  rw [← e0] at hca
  exact va_instS B.1 B.2.1 B.2.2.2.2.2.2.1 (B.2.2.2.2.2.2.2.1 _ hl1) hca (r_recv B.2.2.2.2.2.2.2.2.2.2 hP hp hk hc1) hd (kk p e s m args below meth c0 H locs cells slots L0 B hX hz hP hS hc hs hl)
theorem j_aast {k y c q9 : Nat} {i : Int32} (hd : decode M.2.1 pc = .ok (.aastore, 1)) (hp : r_pk k = (2, q9)) (hk : k < n) (hy : r_pk y = (0, c)) (hyn : y < n) (hc1 : c < 13) (hca : c = 2 ∨ (r_cn c, "RingArm$First") ∈ r_cast) (hi : vp_in i q9) (kk : r_T G M R n0 X Z (pc + 1) ls st n h (r_ug g k i.toNatClampNeg (some y)) z) : r_T G M R n0 X Z pc ls (.ref (G.2.1 + y) :: .int i :: .ref (G.2.1 + k) :: st) n h g z := by
  intro p e s m args below meth c0 H locs cells slots L0 B hX hz hP hS hc hs hl
  have hat : (r_W G n h g z)[k]? = some (G.2.1 + k, .inl (G.2.2.2.2.2, q9, .inr (.inr (.inr (.inr (fun j => (g k j).map (G.2.1 + ·))))))) := by rw [r_W_at hk, r_E_q hp]
  have hlt : i.toNatClampNeg < q9 := Nat.not_le.mp fun q => hi (Or.inr q)
  have h0 : ¬ i < 0 := fun q => hi (Or.inl q)
  obtain ⟨q, hq, e0⟩ := r_cn_at hc1
  have haty : (r_W G n h g z)[y]? = some (G.2.1 + y, .inr (c, r_fs G.2.1 c h g z y)) := by rw [r_W_at hyn, r_E_o hy]
  obtain ⟨r', hr', cellV, g1, g2, g3, -⟩ := hP y _ haty
  have hcls := (B.2.2.2.2.2.2.2.2.2.2.1 c q hq).2
  obtain ⟨kA, comp, k1, k2, k3, -⟩ := (B.2.2.2.2.2.2.2.2.2.2.2 1 _ rfl).2
  obtain ⟨kE, hkE, -⟩ := Vm.findClass_spec k3
  have hasg : s.vm.assignable (r_G G |>.1 c) comp = true := by
    rcases hca with rfl | hca
    · have e1 : q.1 = "RingArm$First" := by rw [← e0]; rfl
      rw [← e1] at k3
      have e2 : comp = (r_G G).1 2 := Option.some.inj (k3.symm.trans hcls.1)
      rw [e2]
      exact va_asg _ _
    · obtain ⟨c1, t1, f1, f2, f3⟩ := Cond.castable_spec (va_Nw.use (A := args) rfl (B.2.2.2.2.2.2.2.2.1.2.1 _ hca))
      rw [e0] at f1
      cases hcls.1.symm.trans f1
      cases k3.symm.trans f2
      exact f3
  obtain ⟨kC, hkC, -⟩ := hcls.2
  refine W.aast B.1 B.2.1 (hP k _ hat) (fun q h => by cases h) (fun h => by cases h) k1 k2 rfl hkE ⟨h0, by show _ < (arrV _ _ _).slots.size; rw [arrV_size]; exact hlt⟩ g1 (fun q h => by rw [g3] at h; cases h) (by rw [g2]; exact hkC) (by rw [g2]; exact hasg) rfl rfl hd fun H1 e1 z1 oq => ?_
  refine kk p e s m args below meth c0 H1 _ cells slots L0 B hX (z1.trans hz) ?_ (hS.put z1 oq (Nat.le_add_right _ _)) hc hs hl
  rw [← r_set_q (j := i.toNatClampNeg) (v := some y) hp]
  refine hP.set r_D hat ?_ oq
  show H1[G.2.1 + k]? = some (vp_cell _ _)
  rw [e1, vp_cell_q, vp_cell_q, arrV_store]
  refine congrArg (fun f => some (arrV G.2.2.2.2.2 q9 f)) (funext fun q => ?_)
  by_cases hq : q = i.toNatClampNeg
  · simp [updV, va_up, hq, va_rf]
  · simp [updV, va_up, hq]
end
/-- A CALL of M' at pc of M with the arguments av: whatever M' is known to do, the machine does -/
def r_cl (G : r_X) (M M' : r_M) (pc : Nat) (av : List Value) (n : Nat) (h : r_HI) (g : r_HR) (z : r_HL) : Prop :=
  ∀ (p : Program) (e : Env) (R : Room) (s : State) (m : MethodId) (args : Array Value) (below : List Frame) (meth : Method) (c : Code) (H : Heap) (locs : List Loc) (cells slots : Nat) (L0 : Array Slot) (rest : List Value) (rm : Room) (Pc : Array Value → State → Prop) (Qc : Array Value → State → Outcome → State → Prop) (mc ms : Nat) (free : Addr → Prop),
    r_bs G M p s m args meth c → va_P (r_G G) r_cl0 (r_W G n h g z) H → Met G.1 M'.1 (Cond.code M'.1 M'.2.1 M'.2.2.1 M'.2.2.2 :: r_wg) rm Pc Qc mc ms free → FrameBlind Pc → (∀ U : State, U.heap = H → s.WarmedH U.vm → Pc av.toArray U) →
    rm.cells = mc → rm.slots = ms → rm.frames + 1 ≤ R.frames → 8 + (M'.2.2.1 + 11) + rm.locals ≤ R.locals → cells + mc ≤ R.cells ∧ slots + ms ≤ R.slots → L0.size = M.2.2.1 → (rest.map fun v => v.category).sum ≤ 8 →
    va_Run p G.1 e R s m args below meth c H locs cells slots mc ms (F0 m pc L0 (av.reverse ++ rest)) rest (Qc av.toArray) free
abbrev r_mh (y : MethodName) (k : Nat) : Prop := y.cls ≠ "java/lang/invoke/MethodHandle" ∧ y.cls ≠ "java/lang/invoke/VarHandle" ∧ (parseMethodDescriptor y.desc).map (fun d => d.parameters.length) = some k
abbrev r_cw (M : r_M) : Cond := Cond.code M.1 M.2.1 M.2.2.1 M.2.2.2
theorem r_len {y : MethodName} {k : Nat} (h : r_mh y k) : ∀ sig, parseMethodDescriptor y.desc = some sig → k = sig.parameters.length := by
  intro sig hs
  have h2 := h.2.2
  rw [hs] at h2
  exact (Option.some.inj h2).symm
section
variable {G : r_X} {M M' : r_M} {R : Room} {n0 n1 : Nat} {X : State → Prop} {Z : List Frame → Array Value → State → State → Prop} {F : r_F} {pc n : Nat} {ls : List (Nat × Value)} {st : List Value} {h : r_HI} {g : r_HR} {z : r_HL}
theorem r_clS {i : Nat} {av : List Value} (hd : decode M.2.1 pc = .ok (.invokestatic i, 3)) (hk : r_cw M' ∈ r_wg) (hl : Cond.methodLink M.1.cls i M'.1 ∈ r_wg) (hst : Cond.static M'.1 ∈ r_wg) (hi : Cond.initialized M'.1.cls ∈ r_wg) (hm : r_mh M'.1 av.length) : r_cl G M M' pc av n h g z := by
  intro p e R s m args below meth c0 H locs cells slots L0 rest rm Pc Qc mc ms free B hP hM hbl hpre hrc hrs hfr hlo hf hL hcat
  exact va_runS (cc := M.2.1) (nL := M.2.2.1) (Ts := r_wg) (own := M.1.cls) ⟨B.1, B.2.1, B.2.2.1, B.2.2.2.2.2.2.1, B.2.2.2.2.2.2.2.1⟩ hM ⟨⟨hrc, hrs, hfr, hlo, r_pay B.2.2.2.2.2.2.2.1 hk, List.mem_cons_self, B.2.2.2.2.2.2.2.1 _ hk, B.2.2.2.2.2.2.2.1 _ hi, ⟨hm.1, hm.2.1⟩, r_len hm, B.2.2.2.2.2.2.2.1 _ hl⟩, B.2.2.2.2.2.2.2.1 _ hst⟩ ⟨hbl, hpre⟩ rfl rfl hL rfl (lv_room hcat) hd hf
theorem r_clSN {i : Nat} {av : List Value} {host : String} (hd : decode M.2.1 pc = .ok (.invokestatic i, 3)) (hk : r_cw M' ∈ r_wg) (hl : (M.1.cls, i, M'.1, host) ∈ r_nest) (hst : Cond.static M'.1 ∈ r_wg) (hi : Cond.initialized M'.1.cls ∈ r_wg) (hm : r_mh M'.1 av.length) : r_cl G M M' pc av n h g z := by
  intro p e R s m args below meth c0 H locs cells slots L0 rest rm Pc Qc mc ms free B hP hM hbl hpre hrc hrs hfr hlo hf hL hcat
  exact va_runSN (cc := M.2.1) (nL := M.2.2.1) (Ts := r_wg) (own := M.1.cls) (host := host) ⟨B.1, B.2.1, B.2.2.1, B.2.2.2.2.2.2.1, B.2.2.2.2.2.2.2.1⟩ hM ⟨⟨⟨hrc, hrs, hfr, hlo, r_pay B.2.2.2.2.2.2.2.1 hk, List.mem_cons_self⟩, B.2.2.2.2.2.2.2.1 _ hk, B.2.2.2.2.2.2.2.1 _ hi, ⟨hm.1, hm.2.1⟩, r_len hm, va_Nw.use rfl (B.2.2.2.2.2.2.2.2.1.1 _ hl)⟩, B.2.2.2.2.2.2.2.1 _ hst, trivial⟩ ⟨hbl, hpre⟩ rfl rfl hL rfl (lv_room hcat) hd hf
theorem r_clV {i c k : Nat} {As : List Value} (hd : decode M.2.1 pc = .ok (.invokevirtual i, 3)) (hk : r_cw M' ∈ r_wg) (hl : Cond.methodLink M.1.cls i M'.1 ∈ r_wg) (hst : Cond.instanceMethod M'.1 ∈ r_wg) (hse : Cond.selects (r_cn c) M'.1 M'.1 ∈ r_wg) (hi : Cond.initialized M'.1.cls ∈ r_wg) (hm : r_mh M'.1 As.length) (hp : r_pk k = (0, c)) (hkn : k < n) (hc1 : c < 13) : r_cl G M M' pc (.ref (G.2.1 + k) :: As) n h g z := by
  intro p e R s m args below meth c0 H locs cells slots L0 rest rm Pc Qc mc ms free B hP hM hbl hpre hrc hrs hfr hlo hf hL hcat
  exact va_runV (cc := M.2.1) (nL := M.2.2.1) (Ts := r_wg) (own := M.1.cls) (C := r_cn c) ⟨B.1, B.2.1, B.2.2.1, B.2.2.2.2.2.2.1, B.2.2.2.2.2.2.2.1⟩ hM ⟨⟨hrc, hrs, hfr, hlo, r_pay B.2.2.2.2.2.2.2.1 hk, List.mem_cons_self, B.2.2.2.2.2.2.2.1 _ hk, B.2.2.2.2.2.2.2.1 _ hi, ⟨hm.1, hm.2.1⟩, r_len hm, B.2.2.2.2.2.2.2.1 _ hl⟩, B.2.2.2.2.2.2.2.1 _ hst, B.2.2.2.2.2.2.2.1 _ hse⟩ ⟨hbl, r_recv B.2.2.2.2.2.2.2.2.2.2 hP hp hkn hc1, hpre⟩ rfl rfl hL (by simp) (lv_room hcat) hd hf
theorem r_clVN {i c k : Nat} {As : List Value} {host : String} (hd : decode M.2.1 pc = .ok (.invokevirtual i, 3)) (hk : r_cw M' ∈ r_wg) (hl : (M.1.cls, i, M'.1, host) ∈ r_nest) (hst : Cond.instanceMethod M'.1 ∈ r_wg) (hse : Cond.selects (r_cn c) M'.1 M'.1 ∈ r_wg) (hi : Cond.initialized M'.1.cls ∈ r_wg) (hm : r_mh M'.1 As.length) (hp : r_pk k = (0, c)) (hkn : k < n) (hc1 : c < 13) : r_cl G M M' pc (.ref (G.2.1 + k) :: As) n h g z := by
  intro p e R s m args below meth c0 H locs cells slots L0 rest rm Pc Qc mc ms free B hP hM hbl hpre hrc hrs hfr hlo hf hL hcat
  exact va_runVN (cc := M.2.1) (nL := M.2.2.1) (Ts := r_wg) (own := M.1.cls) (host := host) (C := r_cn c) ⟨B.1, B.2.1, B.2.2.1, B.2.2.2.2.2.2.1, B.2.2.2.2.2.2.2.1⟩ hM ⟨⟨⟨hrc, hrs, hfr, hlo, r_pay B.2.2.2.2.2.2.2.1 hk, List.mem_cons_self⟩, B.2.2.2.2.2.2.2.1 _ hk, B.2.2.2.2.2.2.2.1 _ hi, ⟨hm.1, hm.2.1⟩, r_len hm, va_Nw.use rfl (B.2.2.2.2.2.2.2.2.1.1 _ hl)⟩, B.2.2.2.2.2.2.2.1 _ hst, B.2.2.2.2.2.2.2.1 _ hse⟩ ⟨hbl, r_recv B.2.2.2.2.2.2.2.2.2.2 hP hp hkn hc1, hpre⟩ rfl rfl hL (by simp) (lv_room hcat) hd hf
theorem r_clU {i c k : Nat} {x : MethodName} {owner : String} {As : List Value} {M0 : r_M} (hd : decode M.2.1 pc = .ok (.invokevirtual i, 3)) (hk : r_cw M' ∈ r_wg) (hl : Cond.methodLink M.1.cls i x ∈ r_wg) (hsm : Cond.sameMethod x.cls owner x.name x.desc ∈ r_wg) (hst0 : Cond.instanceMethod ⟨owner, x.name, x.desc⟩ ∈ r_wg) (hk0 : r_cw M0 ∈ r_wg) (hM0 : M0.1 = ⟨owner, x.name, x.desc⟩) (hst : Cond.instanceMethod M'.1 ∈ r_wg) (hse : Cond.selects (r_cn c) x M'.1 ∈ r_wg) (hi : Cond.initialized M'.1.cls ∈ r_wg) (ho : owner ≠ "java/lang/invoke/MethodHandle" ∧ owner ≠ "java/lang/invoke/VarHandle") (hm : r_mh x As.length) (hp : r_pk k = (0, c)) (hkn : k < n) (hc1 : c < 13) : r_cl G M M' pc (.ref (G.2.1 + k) :: As) n h g z := by
  intro p e R s m args below meth c0 H locs cells slots L0 rest rm Pc Qc mc ms free B hP hM hbl hpre hrc hrs hfr hlo hf hL hcat
  have hdc : va_Decl s ⟨owner, x.name, x.desc⟩ := by
    have h1 := B.2.2.2.2.2.2.2.1 _ hk0
    rw [r_cw, hM0] at h1
    exact va_Decl.of (B.2.2.2.2.2.2.2.1 _ hst0) h1
  exact va_runU (cc := M.2.1) (nL := M.2.2.1) (Ts := r_wg) (own := M.1.cls) (C := r_cn c) (owner := owner) ⟨B.1, B.2.1, B.2.2.1, B.2.2.2.2.2.2.1, B.2.2.2.2.2.2.2.1⟩ hM ⟨⟨hrc, hrs, hfr, hlo, r_pay B.2.2.2.2.2.2.2.1 hk, List.mem_cons_self⟩, B.2.2.2.2.2.2.2.1 _ hk, B.2.2.2.2.2.2.2.1 _ hi, ho, r_len hm, B.2.2.2.2.2.2.2.1 _ hl, B.2.2.2.2.2.2.2.1 _ hsm, hdc, B.2.2.2.2.2.2.2.1 _ hse, B.2.2.2.2.2.2.2.1 _ hst⟩ ⟨hbl, r_recv B.2.2.2.2.2.2.2.2.2.2 hP hp hkn hc1, hpre⟩ rfl rfl hL (by simp) (lv_room hcat) hd hf
theorem r_clI {i a : Nat} {As : List Value} (hd : decode M.2.1 pc = .ok (.invokespecial i, 3)) (hk : r_cw M' ∈ r_wg) (hrt : M'.2.2.2 = none) (hl : Cond.methodLink M.1.cls i M'.1 ∈ r_wg) (hst : Cond.instanceMethod M'.1 ∈ r_wg) (hnm : M'.1.name = "<init>") (hi : Cond.initialized M'.1.cls ∈ r_wg) (hm : r_mh M'.1 As.length) : r_cl G M M' pc (.ref a :: As) n h g z := by
  intro p e R s m args below meth c0 H locs cells slots L0 rest rm Pc Qc mc ms free B hP hM hbl hpre hrc hrs hfr hlo hf hL hcat
  rw [hrt] at hM
  rw [r_cw, hrt] at hk
  exact va_runI (cc := M.2.1) (nL := M.2.2.1) (Ts := r_wg) (own := M.1.cls) ⟨B.1, B.2.1, B.2.2.1, B.2.2.2.2.2.2.1, B.2.2.2.2.2.2.2.1⟩ hM ⟨⟨hrc, hrs, hfr, hlo, r_pay B.2.2.2.2.2.2.2.1 hk, List.mem_cons_self, B.2.2.2.2.2.2.2.1 _ hk, B.2.2.2.2.2.2.2.1 _ hi, ⟨hm.1, hm.2.1⟩, r_len hm, B.2.2.2.2.2.2.2.1 _ hl⟩, hnm, B.2.2.2.2.2.2.2.1 _ hst⟩ ⟨hbl, hpre⟩ rfl rfl hL (by simp) (lv_room hcat) hd hf
theorem r_clIN {i a : Nat} {As : List Value} {host : String} (hd : decode M.2.1 pc = .ok (.invokespecial i, 3)) (hk : r_cw M' ∈ r_wg) (hrt : M'.2.2.2 = none) (hl : (M.1.cls, i, M'.1, host) ∈ r_nest) (hst : Cond.instanceMethod M'.1 ∈ r_wg) (hnm : M'.1.name = "<init>") (hi : Cond.initialized M'.1.cls ∈ r_wg) (hm : r_mh M'.1 As.length) : r_cl G M M' pc (.ref a :: As) n h g z := by
  intro p e R s m args below meth c0 H locs cells slots L0 rest rm Pc Qc mc ms free B hP hM hbl hpre hrc hrs hfr hlo hf hL hcat
  rw [hrt] at hM
  rw [r_cw, hrt] at hk
  exact va_runIN (cc := M.2.1) (nL := M.2.2.1) (Ts := r_wg) (own := M.1.cls) (host := host) ⟨B.1, B.2.1, B.2.2.1, B.2.2.2.2.2.2.1, B.2.2.2.2.2.2.2.1⟩ hM ⟨⟨⟨hrc, hrs, hfr, hlo, r_pay B.2.2.2.2.2.2.2.1 hk, List.mem_cons_self⟩, B.2.2.2.2.2.2.2.1 _ hk, B.2.2.2.2.2.2.2.1 _ hi, ⟨hm.1, hm.2.1⟩, r_len hm, va_Nw.use rfl (B.2.2.2.2.2.2.2.2.1.1 _ hl)⟩, hnm, B.2.2.2.2.2.2.2.1 _ hst⟩ ⟨hbl, hpre⟩ rfl rfl hL (by simp) (lv_room hcat) hd hf
/-- the room of a call -/
def r_ok (R : Room) (n0 n n1 d mL : Nat) : Prop := d + 1 ≤ R.frames ∧ 8 + (mL + 11) + 60 * d ≤ R.locals ∧ n ≤ n1 ∧ n1 ≤ n0 + R.cells ∧ r_tot n1 ≤ r_tot n0 + R.slots
theorem j_call {av rest : List Value} {d n2 : Nat} (hcl : r_cl G M M' pc av n h g z) (hC : r_C G M' d n2 av n h g z (fun v h' g' z' => r_T G M R n0 X Z (pc + 3) ls (v.toList ++ rest) n2 h' g' z')) (hok : r_ok R n0 n n2 d M'.2.2.1) (hcat : (rest.map fun v => v.category).sum ≤ 8) (hst : av.reverse ++ rest = st) : r_T G M R n0 X Z pc ls st n h g z := by
  subst hst
  intro p e s m args below meth c0 H locs cells slots L0 B hX hz hP hS hc hs hl
  obtain ⟨o1, o2, o3, o4, o5⟩ := hok
  have ht := r_tot_mono o3
  have run := hcl p e R s m args below meth c0 H locs cells slots L0 rest _ _ _ _ _ _ B hP hC (fun a U fr mk q => by
      obtain ⟨q0, ⟨q1, q2, q3⟩, q4, q5⟩ := q
      exact ⟨q0, ⟨q1, q2, va_K.moved (u := U) (U := U.calling fr mk a) (Vm.Alike.refl U.vm) q3⟩, r_ow.same (s := U) rfl q4, q5⟩)
    (fun U hU hW => ⟨rfl, ⟨by rw [hU]; exact hz, by rw [hU]; exact hP, va_K.moved hW.alike B.2.2.2.2.2.2.2.2.2.2⟩, r_ow.moved hW B.2.2.2.2.2.2.2.2.1, by rw [hU, hz]; exact Nat.le_add_right _ _⟩) rfl rfl o1 o2 ⟨by omega, by omega⟩ hl.1 hcat
  intro T hT X1
  obtain ⟨v, st₀, t, T', L, h0, X', hL, e1, e2, ⟨⟨v', h', g', z', hv, hF, w1, w2, w3⟩, hz1, hk1⟩, hst⟩ := run T hT X1
  cases hv
  rw [h0] at hz1 hk1
  obtain ⟨t2, a1, b1⟩ := hF p e s m args below meth c0 T'.heap (locs ++ L) (cells + (n2 - n)) (slots + (r_tot n2 - r_tot n)) L0 B hX (by rw [e1]; exact w1) (by rw [e1]; exact w2)
    ⟨Nat.le_trans hS.1 (by rw [e1]; exact hz1), fun q h1 h2 => by rw [e1, hk1 q (Nat.lt_of_lt_of_le h1 hS.1) h2]; exact hS.2.1 q h1 h2, fun q hq => by
      rcases List.mem_append.mp hq with h | h
      · exact hS.2.2 q h
      · exact hL q h⟩ (by omega) (by omega) hl T' rfl X'
  exact ⟨t2, hst t2 a1, b1⟩
end
abbrev r_Ci (G : r_X) (M : r_M) (d n1 : Nat) (av : List Value) (n : Nat) (h : r_HI) (g : r_HR) (z : r_HL) (F : Int32 → r_HI → r_HR → r_HL → Prop) : Prop := r_C G M d n1 av n h g z (fun v h' g' z' => ∃ r, v = some (.int r) ∧ F r h' g' z')
abbrev r_Cl (G : r_X) (M : r_M) (d n1 : Nat) (av : List Value) (n : Nat) (h : r_HI) (g : r_HR) (z : r_HL) (F : Int64 → r_HI → r_HR → r_HL → Prop) : Prop := r_C G M d n1 av n h g z (fun v h' g' z' => ∃ r, v = some (.long r) ∧ F r h' g' z')
abbrev r_Cv (G : r_X) (M : r_M) (d n1 : Nat) (av : List Value) (n : Nat) (h : r_HI) (g : r_HR) (z : r_HL) (F : r_HI → r_HR → r_HL → Prop) : Prop := r_C G M d n1 av n h g z (fun v h' g' z' => v = none ∧ F h' g' z')
abbrev r_Ca (G : r_X) (M : r_M) (d n1 : Nat) (av : List Value) (n : Nat) (h : r_HI) (g : r_HR) (z : r_HL) (F : Nat → r_HI → r_HR → r_HL → Prop) : Prop := r_C G M d n1 av n h g z (fun v h' g' z' => ∃ y, v = some (.ref (G.2.1 + y)) ∧ F y h' g' z')
theorem r_C_mono {G : r_X} {M : r_M} {d n1 : Nat} {av : List Value} {n : Nat} {h : r_HI} {g : r_HR} {z : r_HL} {F F' : r_F} (hF : ∀ v h' g' z', F v h' g' z' → F' v h' g' z') (hC : r_C G M d n1 av n h g z F) : r_C G M d n1 av n h g z F' := by
  intro p e ha hc hk s m args below hf happ hP hT
  obtain ⟨t, o, h1, h2, h3, ⟨⟨v, h', g', z', ho, hv, hw⟩, hfr⟩, hL⟩ := hC p e ha hc hk s m args below hf happ hP hT
  exact ⟨t, o, h1, h2, h3, ⟨⟨v, h', g', z', ho, hF _ _ _ _ hv, hw⟩, hfr⟩, hL⟩
section
variable {G : r_X} {M M' : r_M} {R : Room} {n0 n1 : Nat} {X : State → Prop} {Z : List Frame → Array Value → State → State → Prop} {F : r_F} {pc n : Nat} {ls : List (Nat × Value)} {st : List Value} {h : r_HI} {g : r_HR} {z : r_HL}
theorem j_calli {av rest : List Value} {d n2 : Nat} (hcl : r_cl G M M' pc av n h g z) (hC : r_Ci G M' d n2 av n h g z (fun r h' g' z' => r_T G M R n0 X Z (pc + 3) ls (.int r :: rest) n2 h' g' z')) (hok : r_ok R n0 n n2 d M'.2.2.1) (hcat : (rest.map fun v => v.category).sum ≤ 8) (hst : av.reverse ++ rest = st) : r_T G M R n0 X Z pc ls st n h g z :=
  j_call hcl (r_C_mono (fun v h' g' z' q => by obtain ⟨r, rfl, q⟩ := q; exact q) hC) hok hcat hst
theorem j_calll {av rest : List Value} {d n2 : Nat} (hcl : r_cl G M M' pc av n h g z) (hC : r_Cl G M' d n2 av n h g z (fun r h' g' z' => r_T G M R n0 X Z (pc + 3) ls (.long r :: rest) n2 h' g' z')) (hok : r_ok R n0 n n2 d M'.2.2.1) (hcat : (rest.map fun v => v.category).sum ≤ 8) (hst : av.reverse ++ rest = st) : r_T G M R n0 X Z pc ls st n h g z :=
  j_call hcl (r_C_mono (fun v h' g' z' q => by obtain ⟨r, rfl, q⟩ := q; exact q) hC) hok hcat hst
theorem j_calla {av rest : List Value} {d n2 : Nat} (hcl : r_cl G M M' pc av n h g z) (hC : r_Ca G M' d n2 av n h g z (fun r h' g' z' => r_T G M R n0 X Z (pc + 3) ls (.ref (G.2.1 + r) :: rest) n2 h' g' z')) (hok : r_ok R n0 n n2 d M'.2.2.1) (hcat : (rest.map fun v => v.category).sum ≤ 8) (hst : av.reverse ++ rest = st) : r_T G M R n0 X Z pc ls st n h g z :=
  j_call hcl (r_C_mono (fun v h' g' z' q => by obtain ⟨r, rfl, q⟩ := q; exact q) hC) hok hcat hst
theorem j_callv {av rest : List Value} {d n2 : Nat} (hcl : r_cl G M M' pc av n h g z) (hC : r_Cv G M' d n2 av n h g z (fun h' g' z' => r_T G M R n0 X Z (pc + 3) ls rest n2 h' g' z')) (hok : r_ok R n0 n n2 d M'.2.2.1) (hcat : (rest.map fun v => v.category).sum ≤ 8) (hst : av.reverse ++ rest = st) : r_T G M R n0 X Z pc ls st n h g z :=
  j_call hcl (r_C_mono (fun v h' g' z' q => by obtain ⟨rfl, q⟩ := q; exact q) hC) hok hcat hst
theorem r_ok_m {d n n1 mL : Nat} (hm : mL ≤ 41) : r_ok (r_rm (d + 1) n n) n n n d mL := ⟨Nat.le_refl _, by simp only [r_rm]; omega, Nat.le_refl _, Nat.le_add_right _ _, Nat.le_add_right _ _⟩
end
end
