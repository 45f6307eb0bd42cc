section
-- ===== PART A: goes FIRST, ahead of the names: the tables' words, and 'selects' of the private methods out of them =====
/-- a private method of a class that the tables say can be made, by its rows of tables_1 -/
def lw_okq (q : MethodName × Nat) : Prop := (q.1.cls ≠ "java/lang/invoke/MethodHandle" ∧ q.1.cls ≠ "java/lang/invoke/VarHandle") ∧ Cond.instantiable q.1.cls q.2 ∈ tables_1 ∧ Cond.privateMethod q.1 ∈ tables_1 ∧ Cond.instanceMethod q.1 ∈ tables_1
theorem lw_p0 : lw_okq (⟨"DogJudge$Heirs", "firstFault", "()I"⟩, 5) := ⟨⟨by decide +kernel, by decide +kernel⟩, List.mem_of_getElem? (i := 23) (by decide +kernel), List.mem_of_getElem? (i := 310) (by decide +kernel), List.mem_of_getElem? (i := 311) (by decide +kernel)⟩
theorem lw_p1 : lw_okq (⟨"DogJudge", "moodBehind", "(II)LDogJudge$Mood;"⟩, 13) := ⟨⟨by decide +kernel, by decide +kernel⟩, List.mem_of_getElem? (i := 15) (by decide +kernel), List.mem_of_getElem? (i := 390) (by decide +kernel), List.mem_of_getElem? (i := 391) (by decide +kernel)⟩
theorem lw_p2 : lw_okq (⟨"DogJudge$Court", "mostLiked", "(LDogJudge$Mood;)I"⟩, 4) := ⟨⟨by decide +kernel, by decide +kernel⟩, List.mem_of_getElem? (i := 83) (by decide +kernel), List.mem_of_getElem? (i := 429) (by decide +kernel), List.mem_of_getElem? (i := 430) (by decide +kernel)⟩
theorem lw_p3 : lw_okq (⟨"DogJudge", "noteFound", "(I)V"⟩, 13) := ⟨⟨by decide +kernel, by decide +kernel⟩, List.mem_of_getElem? (i := 15) (by decide +kernel), List.mem_of_getElem? (i := 458) (by decide +kernel), List.mem_of_getElem? (i := 459) (by decide +kernel)⟩
theorem lw_p4 : lw_okq (⟨"DogJudge", "areAlike", "(II)Z"⟩, 13) := ⟨⟨by decide +kernel, by decide +kernel⟩, List.mem_of_getElem? (i := 15) (by decide +kernel), List.mem_of_getElem? (i := 462) (by decide +kernel), List.mem_of_getElem? (i := 463) (by decide +kernel)⟩
theorem lw_p5 : lw_okq (⟨"DogJudge", "tallyVisits", "(II)I"⟩, 13) := ⟨⟨by decide +kernel, by decide +kernel⟩, List.mem_of_getElem? (i := 15) (by decide +kernel), List.mem_of_getElem? (i := 467) (by decide +kernel), List.mem_of_getElem? (i := 468) (by decide +kernel)⟩
theorem lw_p6 : lw_okq (⟨"DogJudge$Suits", "seek", "(III)Z"⟩, 4) := ⟨⟨by decide +kernel, by decide +kernel⟩, List.mem_of_getElem? (i := 173) (by decide +kernel), List.mem_of_getElem? (i := 495) (by decide +kernel), List.mem_of_getElem? (i := 496) (by decide +kernel)⟩
theorem lw_p7 : lw_okq (⟨"DogJudge$Suits", "isFoundAfter", "(LDogJudge$Mood;I)Z"⟩, 4) := ⟨⟨by decide +kernel, by decide +kernel⟩, List.mem_of_getElem? (i := 173) (by decide +kernel), List.mem_of_getElem? (i := 499) (by decide +kernel), List.mem_of_getElem? (i := 500) (by decide +kernel)⟩
theorem lw_p8 : lw_okq (⟨"DogJudge$Turns", "winsBy", "(II)Z"⟩, 4) := ⟨⟨by decide +kernel, by decide +kernel⟩, List.mem_of_getElem? (i := 193) (by decide +kernel), List.mem_of_getElem? (i := 523) (by decide +kernel), List.mem_of_getElem? (i := 524) (by decide +kernel)⟩
theorem lw_p9 : lw_okq (⟨"DogJudge$Turns", "winsFrom", "(I)Z"⟩, 4) := ⟨⟨by decide +kernel, by decide +kernel⟩, List.mem_of_getElem? (i := 193) (by decide +kernel), List.mem_of_getElem? (i := 532) (by decide +kernel), List.mem_of_getElem? (i := 533) (by decide +kernel)⟩
theorem lw_p10 : lw_okq (⟨"DogJudge", "explains", "(I)Z"⟩, 13) := ⟨⟨by decide +kernel, by decide +kernel⟩, List.mem_of_getElem? (i := 15) (by decide +kernel), List.mem_of_getElem? (i := 558) (by decide +kernel), List.mem_of_getElem? (i := 559) (by decide +kernel)⟩
theorem lw_p11 : lw_okq (⟨"DogJudge", "comesOut", "([II)Z"⟩, 13) := ⟨⟨by decide +kernel, by decide +kernel⟩, List.mem_of_getElem? (i := 15) (by decide +kernel), List.mem_of_getElem? (i := 562) (by decide +kernel), List.mem_of_getElem? (i := 563) (by decide +kernel)⟩
theorem lw_p12 : lw_okq (⟨"DogJudge", "tallyFindings", "(II)V"⟩, 13) := ⟨⟨by decide +kernel, by decide +kernel⟩, List.mem_of_getElem? (i := 15) (by decide +kernel), List.mem_of_getElem? (i := 571) (by decide +kernel), List.mem_of_getElem? (i := 572) (by decide +kernel)⟩
theorem lw_p13 : lw_okq (⟨"DogJudge", "greatestTally", "(I)I"⟩, 13) := ⟨⟨by decide +kernel, by decide +kernel⟩, List.mem_of_getElem? (i := 15) (by decide +kernel), List.mem_of_getElem? (i := 579) (by decide +kernel), List.mem_of_getElem? (i := 580) (by decide +kernel)⟩
theorem lw_p14 : lw_okq (⟨"DogJudge$Chances", "weighFrom", "(I)J"⟩, 6) := ⟨⟨by decide +kernel, by decide +kernel⟩, List.mem_of_getElem? (i := 212) (by decide +kernel), List.mem_of_getElem? (i := 605) (by decide +kernel), List.mem_of_getElem? (i := 606) (by decide +kernel)⟩
theorem lw_p15 : lw_okq (⟨"DogJudge", "visitsThatCount", "()I"⟩, 13) := ⟨⟨by decide +kernel, by decide +kernel⟩, List.mem_of_getElem? (i := 15) (by decide +kernel), List.mem_of_getElem? (i := 685) (by decide +kernel), List.mem_of_getElem? (i := 686) (by decide +kernel)⟩
def lw_privs_1 : List (MethodName × Nat) := [(⟨"DogJudge$Heirs", "firstFault", "()I"⟩, 5), (⟨"DogJudge", "moodBehind", "(II)LDogJudge$Mood;"⟩, 13), (⟨"DogJudge$Court", "mostLiked", "(LDogJudge$Mood;)I"⟩, 4), (⟨"DogJudge", "noteFound", "(I)V"⟩, 13), (⟨"DogJudge", "areAlike", "(II)Z"⟩, 13), (⟨"DogJudge", "tallyVisits", "(II)I"⟩, 13), (⟨"DogJudge$Suits", "seek", "(III)Z"⟩, 4), (⟨"DogJudge$Suits", "isFoundAfter", "(LDogJudge$Mood;I)Z"⟩, 4), (⟨"DogJudge$Turns", "winsBy", "(II)Z"⟩, 4), (⟨"DogJudge$Turns", "winsFrom", "(I)Z"⟩, 4), (⟨"DogJudge", "explains", "(I)Z"⟩, 13), (⟨"DogJudge", "comesOut", "([II)Z"⟩, 13), (⟨"DogJudge", "tallyFindings", "(II)V"⟩, 13), (⟨"DogJudge", "greatestTally", "(I)I"⟩, 13), (⟨"DogJudge$Chances", "weighFrom", "(I)J"⟩, 6), (⟨"DogJudge", "visitsThatCount", "()I"⟩, 13)]
theorem lw_r1 : ∀ q ∈ lw_privs_1, lw_okq q := List.forall_mem_cons.mpr ⟨lw_p0, List.forall_mem_cons.mpr ⟨lw_p1, List.forall_mem_cons.mpr ⟨lw_p2, List.forall_mem_cons.mpr ⟨lw_p3, List.forall_mem_cons.mpr ⟨lw_p4, List.forall_mem_cons.mpr ⟨lw_p5, List.forall_mem_cons.mpr ⟨lw_p6, List.forall_mem_cons.mpr ⟨lw_p7, List.forall_mem_cons.mpr ⟨lw_p8, List.forall_mem_cons.mpr ⟨lw_p9, List.forall_mem_cons.mpr ⟨lw_p10, List.forall_mem_cons.mpr ⟨lw_p11, List.forall_mem_cons.mpr ⟨lw_p12, List.forall_mem_cons.mpr ⟨lw_p13, List.forall_mem_cons.mpr ⟨lw_p14, List.forall_mem_cons.mpr ⟨lw_p15, fun _ h => absurd h List.not_mem_nil⟩⟩⟩⟩⟩⟩⟩⟩⟩⟩⟩⟩⟩⟩⟩⟩
theorem lw_p16 : lw_okq (⟨"DogJudgeModel", "faultNow", "()I"⟩, 41) := ⟨⟨by decide +kernel, by decide +kernel⟩, List.mem_of_getElem? (i := 718) (by decide +kernel), List.mem_of_getElem? (i := 868) (by decide +kernel), List.mem_of_getElem? (i := 869) (by decide +kernel)⟩
theorem lw_p17 : lw_okq (⟨"DogJudgeModel", "isHeir", "(I)Z"⟩, 41) := ⟨⟨by decide +kernel, by decide +kernel⟩, List.mem_of_getElem? (i := 718) (by decide +kernel), List.mem_of_getElem? (i := 876) (by decide +kernel), List.mem_of_getElem? (i := 877) (by decide +kernel)⟩
theorem lw_p18 : lw_okq (⟨"DogJudgeModel", "reads", "()V"⟩, 41) := ⟨⟨by decide +kernel, by decide +kernel⟩, List.mem_of_getElem? (i := 718) (by decide +kernel), List.mem_of_getElem? (i := 880) (by decide +kernel), List.mem_of_getElem? (i := 881) (by decide +kernel)⟩
theorem lw_p19 : lw_okq (⟨"DogJudgeModel", "meets", "(I)I"⟩, 41) := ⟨⟨by decide +kernel, by decide +kernel⟩, List.mem_of_getElem? (i := 718) (by decide +kernel), List.mem_of_getElem? (i := 917) (by decide +kernel), List.mem_of_getElem? (i := 918) (by decide +kernel)⟩
theorem lw_p20 : lw_okq (⟨"DogJudgeModel", "likingOf", "(III)I"⟩, 41) := ⟨⟨by decide +kernel, by decide +kernel⟩, List.mem_of_getElem? (i := 718) (by decide +kernel), List.mem_of_getElem? (i := 926) (by decide +kernel), List.mem_of_getElem? (i := 927) (by decide +kernel)⟩
theorem lw_p21 : lw_okq (⟨"DogJudgeModel", "runsTold", "(II)V"⟩, 41) := ⟨⟨by decide +kernel, by decide +kernel⟩, List.mem_of_getElem? (i := 718) (by decide +kernel), List.mem_of_getElem? (i := 930) (by decide +kernel), List.mem_of_getElem? (i := 931) (by decide +kernel)⟩
theorem lw_p22 : lw_okq (⟨"DogJudgeModel", "asTold", "()V"⟩, 41) := ⟨⟨by decide +kernel, by decide +kernel⟩, List.mem_of_getElem? (i := 718) (by decide +kernel), List.mem_of_getElem? (i := 934) (by decide +kernel), List.mem_of_getElem? (i := 935) (by decide +kernel)⟩
theorem lw_p23 : lw_okq (⟨"DogJudgeModel", "runs", "(II)V"⟩, 41) := ⟨⟨by decide +kernel, by decide +kernel⟩, List.mem_of_getElem? (i := 718) (by decide +kernel), List.mem_of_getElem? (i := 938) (by decide +kernel), List.mem_of_getElem? (i := 939) (by decide +kernel)⟩
theorem lw_p24 : lw_okq (⟨"DogJudgeModel", "comes", "(IIII)V"⟩, 41) := ⟨⟨by decide +kernel, by decide +kernel⟩, List.mem_of_getElem? (i := 718) (by decide +kernel), List.mem_of_getElem? (i := 942) (by decide +kernel), List.mem_of_getElem? (i := 943) (by decide +kernel)⟩
theorem lw_p25 : lw_okq (⟨"DogJudgeModel", "finds", "(I)I"⟩, 41) := ⟨⟨by decide +kernel, by decide +kernel⟩, List.mem_of_getElem? (i := 718) (by decide +kernel), List.mem_of_getElem? (i := 949) (by decide +kernel), List.mem_of_getElem? (i := 950) (by decide +kernel)⟩
theorem lw_p26 : lw_okq (⟨"DogJudgeModel", "foundOf", "(II)I"⟩, 41) := ⟨⟨by decide +kernel, by decide +kernel⟩, List.mem_of_getElem? (i := 718) (by decide +kernel), List.mem_of_getElem? (i := 957) (by decide +kernel), List.mem_of_getElem? (i := 958) (by decide +kernel)⟩
theorem lw_p27 : lw_okq (⟨"DogJudgeModel", "shareOf", "(III)J"⟩, 41) := ⟨⟨by decide +kernel, by decide +kernel⟩, List.mem_of_getElem? (i := 718) (by decide +kernel), List.mem_of_getElem? (i := 965) (by decide +kernel), List.mem_of_getElem? (i := 966) (by decide +kernel)⟩
theorem lw_p28 : lw_okq (⟨"DogJudgeModel", "quarrelOf", "(I)I"⟩, 41) := ⟨⟨by decide +kernel, by decide +kernel⟩, List.mem_of_getElem? (i := 718) (by decide +kernel), List.mem_of_getElem? (i := 980) (by decide +kernel), List.mem_of_getElem? (i := 981) (by decide +kernel)⟩
theorem lw_p29 : lw_okq (⟨"DogJudgeModel", "areAlike", "(II)Z"⟩, 41) := ⟨⟨by decide +kernel, by decide +kernel⟩, List.mem_of_getElem? (i := 718) (by decide +kernel), List.mem_of_getElem? (i := 984) (by decide +kernel), List.mem_of_getElem? (i := 985) (by decide +kernel)⟩
theorem lw_p30 : lw_okq (⟨"DogJudgeModel", "often", "(III)I"⟩, 41) := ⟨⟨by decide +kernel, by decide +kernel⟩, List.mem_of_getElem? (i := 718) (by decide +kernel), List.mem_of_getElem? (i := 988) (by decide +kernel), List.mem_of_getElem? (i := 989) (by decide +kernel)⟩
theorem lw_p31 : lw_okq (⟨"DogJudgeModel", "dissentNow", "()I"⟩, 41) := ⟨⟨by decide +kernel, by decide +kernel⟩, List.mem_of_getElem? (i := 718) (by decide +kernel), List.mem_of_getElem? (i := 996) (by decide +kernel), List.mem_of_getElem? (i := 997) (by decide +kernel)⟩
def lw_privs_2 : List (MethodName × Nat) := [(⟨"DogJudgeModel", "faultNow", "()I"⟩, 41), (⟨"DogJudgeModel", "isHeir", "(I)Z"⟩, 41), (⟨"DogJudgeModel", "reads", "()V"⟩, 41), (⟨"DogJudgeModel", "meets", "(I)I"⟩, 41), (⟨"DogJudgeModel", "likingOf", "(III)I"⟩, 41), (⟨"DogJudgeModel", "runsTold", "(II)V"⟩, 41), (⟨"DogJudgeModel", "asTold", "()V"⟩, 41), (⟨"DogJudgeModel", "runs", "(II)V"⟩, 41), (⟨"DogJudgeModel", "comes", "(IIII)V"⟩, 41), (⟨"DogJudgeModel", "finds", "(I)I"⟩, 41), (⟨"DogJudgeModel", "foundOf", "(II)I"⟩, 41), (⟨"DogJudgeModel", "shareOf", "(III)J"⟩, 41), (⟨"DogJudgeModel", "quarrelOf", "(I)I"⟩, 41), (⟨"DogJudgeModel", "areAlike", "(II)Z"⟩, 41), (⟨"DogJudgeModel", "often", "(III)I"⟩, 41), (⟨"DogJudgeModel", "dissentNow", "()I"⟩, 41)]
theorem lw_r2 : ∀ q ∈ lw_privs_2, lw_okq q := List.forall_mem_cons.mpr ⟨lw_p16, List.forall_mem_cons.mpr ⟨lw_p17, List.forall_mem_cons.mpr ⟨lw_p18, List.forall_mem_cons.mpr ⟨lw_p19, List.forall_mem_cons.mpr ⟨lw_p20, List.forall_mem_cons.mpr ⟨lw_p21, List.forall_mem_cons.mpr ⟨lw_p22, List.forall_mem_cons.mpr ⟨lw_p23, List.forall_mem_cons.mpr ⟨lw_p24, List.forall_mem_cons.mpr ⟨lw_p25, List.forall_mem_cons.mpr ⟨lw_p26, List.forall_mem_cons.mpr ⟨lw_p27, List.forall_mem_cons.mpr ⟨lw_p28, List.forall_mem_cons.mpr ⟨lw_p29, List.forall_mem_cons.mpr ⟨lw_p30, List.forall_mem_cons.mpr ⟨lw_p31, fun _ h => absurd h List.not_mem_nil⟩⟩⟩⟩⟩⟩⟩⟩⟩⟩⟩⟩⟩⟩⟩⟩
theorem lw_p32 : lw_okq (⟨"DogJudgeModel", "changesNow", "()I"⟩, 41) := ⟨⟨by decide +kernel, by decide +kernel⟩, List.mem_of_getElem? (i := 718) (by decide +kernel), List.mem_of_getElem? (i := 1004) (by decide +kernel), List.mem_of_getElem? (i := 1005) (by decide +kernel)⟩
theorem lw_p33 : lw_okq (⟨"DogJudgeModel", "suitOf", "(III)I"⟩, 41) := ⟨⟨by decide +kernel, by decide +kernel⟩, List.mem_of_getElem? (i := 718) (by decide +kernel), List.mem_of_getElem? (i := 1012) (by decide +kernel), List.mem_of_getElem? (i := 1013) (by decide +kernel)⟩
theorem lw_p34 : lw_okq (⟨"DogJudgeModel", "suitBy", "(II)I"⟩, 41) := ⟨⟨by decide +kernel, by decide +kernel⟩, List.mem_of_getElem? (i := 718) (by decide +kernel), List.mem_of_getElem? (i := 1016) (by decide +kernel), List.mem_of_getElem? (i := 1017) (by decide +kernel)⟩
theorem lw_p35 : lw_okq (⟨"DogJudgeModel", "wins", "(IIIII)Z"⟩, 41) := ⟨⟨by decide +kernel, by decide +kernel⟩, List.mem_of_getElem? (i := 718) (by decide +kernel), List.mem_of_getElem? (i := 1020) (by decide +kernel), List.mem_of_getElem? (i := 1021) (by decide +kernel)⟩
theorem lw_p36 : lw_okq (⟨"DogJudgeModel", "adds", "(III)V"⟩, 41) := ⟨⟨by decide +kernel, by decide +kernel⟩, List.mem_of_getElem? (i := 718) (by decide +kernel), List.mem_of_getElem? (i := 1024) (by decide +kernel), List.mem_of_getElem? (i := 1025) (by decide +kernel)⟩
theorem lw_p37 : lw_okq (⟨"DogJudgeModel", "repliesOf", "(IIII)I"⟩, 41) := ⟨⟨by decide +kernel, by decide +kernel⟩, List.mem_of_getElem? (i := 718) (by decide +kernel), List.mem_of_getElem? (i := 1032) (by decide +kernel), List.mem_of_getElem? (i := 1033) (by decide +kernel)⟩
theorem lw_p38 : lw_okq (⟨"DogJudgeModel", "laysOuts", "(III)V"⟩, 41) := ⟨⟨by decide +kernel, by decide +kernel⟩, List.mem_of_getElem? (i := 718) (by decide +kernel), List.mem_of_getElem? (i := 1036) (by decide +kernel), List.mem_of_getElem? (i := 1037) (by decide +kernel)⟩
theorem lw_p39 : lw_okq (⟨"DogJudgeModel", "playsBy", "(II)Z"⟩, 41) := ⟨⟨by decide +kernel, by decide +kernel⟩, List.mem_of_getElem? (i := 718) (by decide +kernel), List.mem_of_getElem? (i := 1040) (by decide +kernel), List.mem_of_getElem? (i := 1041) (by decide +kernel)⟩
theorem lw_p40 : lw_okq (⟨"DogJudgeModel", "tastesOf", "(I)I"⟩, 41) := ⟨⟨by decide +kernel, by decide +kernel⟩, List.mem_of_getElem? (i := 718) (by decide +kernel), List.mem_of_getElem? (i := 1056) (by decide +kernel), List.mem_of_getElem? (i := 1057) (by decide +kernel)⟩
theorem lw_p41 : lw_okq (⟨"DogJudgeModel", "laysFits", "()V"⟩, 41) := ⟨⟨by decide +kernel, by decide +kernel⟩, List.mem_of_getElem? (i := 718) (by decide +kernel), List.mem_of_getElem? (i := 1060) (by decide +kernel), List.mem_of_getElem? (i := 1061) (by decide +kernel)⟩
theorem lw_p42 : lw_okq (⟨"DogJudgeModel", "tastesBy", "(I)V"⟩, 41) := ⟨⟨by decide +kernel, by decide +kernel⟩, List.mem_of_getElem? (i := 718) (by decide +kernel), List.mem_of_getElem? (i := 1064) (by decide +kernel), List.mem_of_getElem? (i := 1065) (by decide +kernel)⟩
theorem lw_p43 : lw_okq (⟨"DogJudgeModel", "lastSeen", "()I"⟩, 41) := ⟨⟨by decide +kernel, by decide +kernel⟩, List.mem_of_getElem? (i := 718) (by decide +kernel), List.mem_of_getElem? (i := 1068) (by decide +kernel), List.mem_of_getElem? (i := 1069) (by decide +kernel)⟩
theorem lw_p44 : lw_okq (⟨"DogJudgeModel", "isSeen", "()Z"⟩, 41) := ⟨⟨by decide +kernel, by decide +kernel⟩, List.mem_of_getElem? (i := 718) (by decide +kernel), List.mem_of_getElem? (i := 1072) (by decide +kernel), List.mem_of_getElem? (i := 1073) (by decide +kernel)⟩
theorem lw_p45 : lw_okq (⟨"DogJudgeModel", "tellsOf", "(II)I"⟩, 41) := ⟨⟨by decide +kernel, by decide +kernel⟩, List.mem_of_getElem? (i := 718) (by decide +kernel), List.mem_of_getElem? (i := 1080) (by decide +kernel), List.mem_of_getElem? (i := 1081) (by decide +kernel)⟩
theorem lw_p46 : lw_okq (⟨"DogJudgeModel", "trainerNow", "()I"⟩, 41) := ⟨⟨by decide +kernel, by decide +kernel⟩, List.mem_of_getElem? (i := 718) (by decide +kernel), List.mem_of_getElem? (i := 1088) (by decide +kernel), List.mem_of_getElem? (i := 1089) (by decide +kernel)⟩
theorem lw_p47 : lw_okq (⟨"DogJudgeModel", "isChance", "(III)Z"⟩, 41) := ⟨⟨by decide +kernel, by decide +kernel⟩, List.mem_of_getElem? (i := 718) (by decide +kernel), List.mem_of_getElem? (i := 1096) (by decide +kernel), List.mem_of_getElem? (i := 1097) (by decide +kernel)⟩
def lw_privs_3 : List (MethodName × Nat) := [(⟨"DogJudgeModel", "changesNow", "()I"⟩, 41), (⟨"DogJudgeModel", "suitOf", "(III)I"⟩, 41), (⟨"DogJudgeModel", "suitBy", "(II)I"⟩, 41), (⟨"DogJudgeModel", "wins", "(IIIII)Z"⟩, 41), (⟨"DogJudgeModel", "adds", "(III)V"⟩, 41), (⟨"DogJudgeModel", "repliesOf", "(IIII)I"⟩, 41), (⟨"DogJudgeModel", "laysOuts", "(III)V"⟩, 41), (⟨"DogJudgeModel", "playsBy", "(II)Z"⟩, 41), (⟨"DogJudgeModel", "tastesOf", "(I)I"⟩, 41), (⟨"DogJudgeModel", "laysFits", "()V"⟩, 41), (⟨"DogJudgeModel", "tastesBy", "(I)V"⟩, 41), (⟨"DogJudgeModel", "lastSeen", "()I"⟩, 41), (⟨"DogJudgeModel", "isSeen", "()Z"⟩, 41), (⟨"DogJudgeModel", "tellsOf", "(II)I"⟩, 41), (⟨"DogJudgeModel", "trainerNow", "()I"⟩, 41), (⟨"DogJudgeModel", "isChance", "(III)Z"⟩, 41)]
theorem lw_r3 : ∀ q ∈ lw_privs_3, lw_okq q := List.forall_mem_cons.mpr ⟨lw_p32, List.forall_mem_cons.mpr ⟨lw_p33, List.forall_mem_cons.mpr ⟨lw_p34, List.forall_mem_cons.mpr ⟨lw_p35, List.forall_mem_cons.mpr ⟨lw_p36, List.forall_mem_cons.mpr ⟨lw_p37, List.forall_mem_cons.mpr ⟨lw_p38, List.forall_mem_cons.mpr ⟨lw_p39, List.forall_mem_cons.mpr ⟨lw_p40, List.forall_mem_cons.mpr ⟨lw_p41, List.forall_mem_cons.mpr ⟨lw_p42, List.forall_mem_cons.mpr ⟨lw_p43, List.forall_mem_cons.mpr ⟨lw_p44, List.forall_mem_cons.mpr ⟨lw_p45, List.forall_mem_cons.mpr ⟨lw_p46, List.forall_mem_cons.mpr ⟨lw_p47, fun _ h => absurd h List.not_mem_nil⟩⟩⟩⟩⟩⟩⟩⟩⟩⟩⟩⟩⟩⟩⟩⟩
theorem lw_p48 : lw_okq (⟨"DogJudgeModel", "chanceOf", "(IIII)J"⟩, 41) := ⟨⟨by decide +kernel, by decide +kernel⟩, List.mem_of_getElem? (i := 718) (by decide +kernel), List.mem_of_getElem? (i := 1100) (by decide +kernel), List.mem_of_getElem? (i := 1101) (by decide +kernel)⟩
theorem lw_p49 : lw_okq (⟨"DogJudgeModel", "chanceBy", "(III)J"⟩, 41) := ⟨⟨by decide +kernel, by decide +kernel⟩, List.mem_of_getElem? (i := 718) (by decide +kernel), List.mem_of_getElem? (i := 1104) (by decide +kernel), List.mem_of_getElem? (i := 1105) (by decide +kernel)⟩
theorem lw_p50 : lw_okq (⟨"DogJudgeModel", "heardOf", "(IIII)I"⟩, 41) := ⟨⟨by decide +kernel, by decide +kernel⟩, List.mem_of_getElem? (i := 718) (by decide +kernel), List.mem_of_getElem? (i := 1112) (by decide +kernel), List.mem_of_getElem? (i := 1113) (by decide +kernel)⟩
theorem lw_p51 : lw_okq (⟨"DogJudgeModel", "weeksOf", "(III)I"⟩, 41) := ⟨⟨by decide +kernel, by decide +kernel⟩, List.mem_of_getElem? (i := 718) (by decide +kernel), List.mem_of_getElem? (i := 1120) (by decide +kernel), List.mem_of_getElem? (i := 1121) (by decide +kernel)⟩
theorem lw_p52 : lw_okq (⟨"DogJudgeModel", "lacks", "(III)I"⟩, 41) := ⟨⟨by decide +kernel, by decide +kernel⟩, List.mem_of_getElem? (i := 718) (by decide +kernel), List.mem_of_getElem? (i := 1137) (by decide +kernel), List.mem_of_getElem? (i := 1138) (by decide +kernel)⟩
theorem lw_p53 : lw_okq (⟨"DogJudgeModel", "keep", "(III)V"⟩, 41) := ⟨⟨by decide +kernel, by decide +kernel⟩, List.mem_of_getElem? (i := 718) (by decide +kernel), List.mem_of_getElem? (i := 1141) (by decide +kernel), List.mem_of_getElem? (i := 1142) (by decide +kernel)⟩
theorem lw_p54 : lw_okq (⟨"DogJudgeModel", "countsMany", "(I)I"⟩, 41) := ⟨⟨by decide +kernel, by decide +kernel⟩, List.mem_of_getElem? (i := 718) (by decide +kernel), List.mem_of_getElem? (i := 1162) (by decide +kernel), List.mem_of_getElem? (i := 1163) (by decide +kernel)⟩
theorem lw_p55 : lw_okq (⟨"DogJudgeModel", "heirDigest", "(JI)J"⟩, 41) := ⟨⟨by decide +kernel, by decide +kernel⟩, List.mem_of_getElem? (i := 718) (by decide +kernel), List.mem_of_getElem? (i := 1173) (by decide +kernel), List.mem_of_getElem? (i := 1174) (by decide +kernel)⟩
theorem lw_p56 : lw_okq (⟨"DogJudgeModel", "dayDigest", "(JI)J"⟩, 41) := ⟨⟨by decide +kernel, by decide +kernel⟩, List.mem_of_getElem? (i := 718) (by decide +kernel), List.mem_of_getElem? (i := 1177) (by decide +kernel), List.mem_of_getElem? (i := 1178) (by decide +kernel)⟩
def lw_privs_4 : List (MethodName × Nat) := [(⟨"DogJudgeModel", "chanceOf", "(IIII)J"⟩, 41), (⟨"DogJudgeModel", "chanceBy", "(III)J"⟩, 41), (⟨"DogJudgeModel", "heardOf", "(IIII)I"⟩, 41), (⟨"DogJudgeModel", "weeksOf", "(III)I"⟩, 41), (⟨"DogJudgeModel", "lacks", "(III)I"⟩, 41), (⟨"DogJudgeModel", "keep", "(III)V"⟩, 41), (⟨"DogJudgeModel", "countsMany", "(I)I"⟩, 41), (⟨"DogJudgeModel", "heirDigest", "(JI)J"⟩, 41), (⟨"DogJudgeModel", "dayDigest", "(JI)J"⟩, 41)]
theorem lw_r4 : ∀ q ∈ lw_privs_4, lw_okq q := List.forall_mem_cons.mpr ⟨lw_p48, List.forall_mem_cons.mpr ⟨lw_p49, List.forall_mem_cons.mpr ⟨lw_p50, List.forall_mem_cons.mpr ⟨lw_p51, List.forall_mem_cons.mpr ⟨lw_p52, List.forall_mem_cons.mpr ⟨lw_p53, List.forall_mem_cons.mpr ⟨lw_p54, List.forall_mem_cons.mpr ⟨lw_p55, List.forall_mem_cons.mpr ⟨lw_p56, fun _ h => absurd h List.not_mem_nil⟩⟩⟩⟩⟩⟩⟩⟩⟩
def lw_privs : List (MethodName × Nat) := lw_privs_1 ++ (lw_privs_2 ++ (lw_privs_3 ++ (lw_privs_4)))
def lw_tbl : List Cond := k2_sels lw_privs ++ tables_1
theorem lw_privs_ok : ∀ q ∈ lw_privs, lw_okq q := by
  show ∀ q ∈ lw_privs_1 ++ (lw_privs_2 ++ (lw_privs_3 ++ (lw_privs_4))), lw_okq q
  exact List.forall_mem_append.mpr ⟨lw_r1, List.forall_mem_append.mpr ⟨lw_r2, List.forall_mem_append.mpr ⟨lw_r3, lw_r4⟩⟩⟩
-- ===== end of PART A; then your names; then what follows =====
end
section
/-! NAMES, by program out of the printed task: classes and their fields, the graph of objects, the methods -/
def R_J : String := "DogJudge"
def F_J : u_T := fun k => match k with
  | 0 => ("DogJudge", "heirs", "LDogJudge$Heirs;", true)
  | 1 => ("DogJudge", "visits", "LDogJudge$Visits;", true)
  | 2 => ("DogJudge", "ways", "[I", true)
  | 3 => ("DogJudge", "tastes", "[[I", true)
  | 4 => ("DogJudge", "court", "LDogJudge$Court;", true)
  | 5 => ("DogJudge", "seen", "LDogJudge$Seen;", true)
  | 6 => ("DogJudge", "suits", "LDogJudge$Suits;", true)
  | 7 => ("DogJudge", "turns", "LDogJudge$Turns;", true)
  | 8 => ("DogJudge", "chances", "LDogJudge$Chances;", true)
  | 9 => ("DogJudge", "sheets", "LDogJudge$Sheets;", true)
  | 10 => ("DogJudge", "foundRows", "[[I", true)
  | 11 => ("DogJudge", "tally", "[I", true)
  | _ => ("DogJudge", "trial", "[I", true)
def t_J : Nat → FieldType := fun k => match k with
  | 0 => .object "DogJudge$Heirs"
  | 1 => .object "DogJudge$Visits"
  | 2 => .array (.int)
  | 3 => .array (.array (.int))
  | 4 => .object "DogJudge$Court"
  | 5 => .object "DogJudge$Seen"
  | 6 => .object "DogJudge$Suits"
  | 7 => .object "DogJudge$Turns"
  | 8 => .object "DogJudge$Chances"
  | 9 => .object "DogJudge$Sheets"
  | 10 => .array (.array (.int))
  | 11 => .array (.int)
  | _ => .array (.int)
abbrev w_J : List Cond := u_ws R_J F_J 13
def R_He : String := "DogJudge$Heirs"
def F_He : u_T := fun k => match k with
  | 0 => ("DogJudge$Heirs", "text", "[I", true)
  | 1 => ("DogJudge$Heirs", "goods", "[I", true)
  | 2 => ("DogJudge$Heirs", "bytes", "I", false)
  | 3 => ("DogJudge$Heirs", "many", "I", false)
  | _ => ("DogJudge$Heirs", "faultAt", "I", false)
def t_He : Nat → FieldType := fun k => match k with
  | 0 => .array (.int)
  | 1 => .array (.int)
  | 2 => .int
  | 3 => .int
  | _ => .int
abbrev w_He : List Cond := u_ws R_He F_He 5
def R_Vi : String := "DogJudge$Visits"
def F_Vi : u_T := fun k => match k with
  | 0 => ("DogJudge$Visits", "days", "[I", true)
  | 1 => ("DogJudge$Visits", "who", "[I", true)
  | 2 => ("DogJudge$Visits", "what", "[I", true)
  | 3 => ("DogJudge$Visits", "byDay", "[I", true)
  | 4 => ("DogJudge$Visits", "starts", "[I", true)
  | _ => ("DogJudge$Visits", "told", "I", false)
def t_Vi : Nat → FieldType := fun k => match k with
  | 0 => .array (.int)
  | 1 => .array (.int)
  | 2 => .array (.int)
  | 3 => .array (.int)
  | 4 => .array (.int)
  | _ => .int
abbrev w_Vi : List Cond := u_ws R_Vi F_Vi 6
def R_Co : String := "DogJudge$Court"
def F_Co : u_T := fun k => match k with
  | 0 => ("DogJudge$Court", "heirs", "LDogJudge$Heirs;", true)
  | 1 => ("DogJudge$Court", "visits", "LDogJudge$Visits;", true)
  | 2 => ("DogJudge$Court", "ways", "[I", true)
  | _ => ("DogJudge$Court", "moods", "[LDogJudge$Mood;", true)
def t_Co : Nat → FieldType := fun k => match k with
  | 0 => .object "DogJudge$Heirs"
  | 1 => .object "DogJudge$Visits"
  | 2 => .array (.int)
  | _ => .array (.object "DogJudge$Mood")
abbrev w_Co : List Cond := u_ws R_Co F_Co 4
def R_Mo : String := "DogJudge$Mood"
def F_Mo : u_T := fun k => match k with
  | 0 => ("DogJudge$Mood", "liking", "[I", true)
  | 1 => ("DogJudge$Mood", "last", "[I", true)
  | 2 => ("DogJudge$Mood", "tastes", "[I", true)
  | 3 => ("DogJudge$Mood", "trainer", "I", false)
  | 4 => ("DogJudge$Mood", "came", "I", false)
  | 5 => ("DogJudge$Mood", "sausageDay", "I", false)
  | _ => ("DogJudge$Mood", "found", "I", false)
def t_Mo : Nat → FieldType := fun k => match k with
  | 0 => .array (.int)
  | 1 => .array (.int)
  | 2 => .array (.int)
  | 3 => .int
  | 4 => .int
  | 5 => .int
  | _ => .int
abbrev w_Mo : List Cond := u_ws R_Mo F_Mo 7
def R_Se : String := "DogJudge$Seen"
def F_Se : u_T := fun k => match k with
  | 0 => ("DogJudge$Seen", "wanted", "[I", true)
  | 1 => ("DogJudge$Seen", "many", "I", false)
  | 2 => ("DogJudge$Seen", "lastDay", "I", false)
  | _ => ("DogJudge$Seen", "clashes", "Z", false)
def t_Se : Nat → FieldType := fun k => match k with
  | 0 => .array (.int)
  | 1 => .int
  | 2 => .int
  | _ => .boolean
abbrev w_Se : List Cond := u_ws R_Se F_Se 4
def R_Su : String := "DogJudge$Suits"
def F_Su : u_T := fun k => match k with
  | 0 => ("DogJudge$Suits", "court", "LDogJudge$Court;", true)
  | 1 => ("DogJudge$Suits", "row", "[I", true)
  | 2 => ("DogJudge$Suits", "heir", "I", false)
  | _ => ("DogJudge$Suits", "lastDay", "I", false)
def t_Su : Nat → FieldType := fun k => match k with
  | 0 => .object "DogJudge$Court"
  | 1 => .array (.int)
  | 2 => .int
  | _ => .int
abbrev w_Su : List Cond := u_ws R_Su F_Su 4
def R_Tu : String := "DogJudge$Turns"
def F_Tu : u_T := fun k => match k with
  | 0 => ("DogJudge$Turns", "court", "LDogJudge$Court;", true)
  | 1 => ("DogJudge$Turns", "first", "I", false)
  | 2 => ("DogJudge$Turns", "second", "I", false)
  | _ => ("DogJudge$Turns", "days", "I", false)
def t_Tu : Nat → FieldType := fun k => match k with
  | 0 => .object "DogJudge$Court"
  | 1 => .int
  | 2 => .int
  | _ => .int
abbrev w_Tu : List Cond := u_ws R_Tu F_Tu 4
def R_Ch : String := "DogJudge$Chances"
def F_Ch : u_T := fun k => match k with
  | 0 => ("DogJudge$Chances", "court", "LDogJudge$Court;", true)
  | 1 => ("DogJudge$Chances", "sleepy", "I", false)
  | 2 => ("DogJudge$Chances", "heir", "I", false)
  | 3 => ("DogJudge$Chances", "lastDay", "I", false)
  | 4 => ("DogJudge$Chances", "moreDay", "I", false)
  | _ => ("DogJudge$Chances", "moreThing", "I", false)
def t_Ch : Nat → FieldType := fun k => match k with
  | 0 => .object "DogJudge$Court"
  | 1 => .int
  | 2 => .int
  | 3 => .int
  | 4 => .int
  | _ => .int
abbrev w_Ch : List Cond := u_ws R_Ch F_Ch 6
def R_Sh : String := "DogJudge$Sheets"
def F_Sh : u_T := fun k => match k with
  | 0 => ("DogJudge$Sheets", "forms", "[I", true)
  | 1 => ("DogJudge$Sheets", "sizes", "[I", true)
  | 2 => ("DogJudge$Sheets", "rows", "[[I", true)
  | _ => ("DogJudge$Sheets", "latestFinding", "I", false)
def t_Sh : Nat → FieldType := fun k => match k with
  | 0 => .array (.int)
  | 1 => .array (.int)
  | 2 => .array (.array (.int))
  | _ => .int
abbrev w_Sh : List Cond := u_ws R_Sh F_Sh 4
def R_R : String := "DogJudgeModel"
def F_R : u_T := fun k => match k with
  | 0 => ("DogJudgeModel", "text", "[I", true)
  | 1 => ("DogJudgeModel", "typed", "I", false)
  | 2 => ("DogJudgeModel", "heirs", "I", false)
  | 3 => ("DogJudgeModel", "goods", "[I", true)
  | 4 => ("DogJudgeModel", "tastes", "[I", true)
  | 5 => ("DogJudgeModel", "habit", "I", false)
  | 6 => ("DogJudgeModel", "hunger", "I", false)
  | 7 => ("DogJudgeModel", "fades", "I", false)
  | 8 => ("DogJudgeModel", "sleeps", "I", false)
  | 9 => ("DogJudgeModel", "nightly", "I", false)
  | 10 => ("DogJudgeModel", "visits", "I", false)
  | 11 => ("DogJudgeModel", "visitDay", "[I", true)
  | 12 => ("DogJudgeModel", "visitHeir", "[I", true)
  | 13 => ("DogJudgeModel", "visitThing", "[I", true)
  | 14 => ("DogJudgeModel", "more", "I", false)
  | 15 => ("DogJudgeModel", "moreDay", "[I", true)
  | 16 => ("DogJudgeModel", "moreHeir", "[I", true)
  | 17 => ("DogJudgeModel", "moreThing", "[I", true)
  | 18 => ("DogJudgeModel", "sleepsNow", "I", false)
  | 19 => ("DogJudgeModel", "trainedBy", "I", false)
  | 20 => ("DogJudgeModel", "likings", "[I", true)
  | 21 => ("DogJudgeModel", "lasts", "[I", true)
  | 22 => ("DogJudgeModel", "sausageOn", "I", false)
  | 23 => ("DogJudgeModel", "came", "I", false)
  | 24 => ("DogJudgeModel", "foundIn", "[I", true)
  | 25 => ("DogJudgeModel", "foundFirst", "[I", true)
  | 26 => ("DogJudgeModel", "suitRow", "[I", true)
  | 27 => ("DogJudgeModel", "outs", "[Z", true)
  | 28 => ("DogJudgeModel", "seens", "I", false)
  | 29 => ("DogJudgeModel", "seenDay", "[I", true)
  | 30 => ("DogJudgeModel", "seenHeir", "[I", true)
  | 31 => ("DogJudgeModel", "fits", "[Z", true)
  | 32 => ("DogJudgeModel", "fitMany", "I", false)
  | 33 => ("DogJudgeModel", "fitLeast", "I", false)
  | 34 => ("DogJudgeModel", "alike", "[I", true)
  | 35 => ("DogJudgeModel", "isThere", "[Z", true)
  | 36 => ("DogJudgeModel", "forms", "[I", true)
  | 37 => ("DogJudgeModel", "sizes", "[I", true)
  | 38 => ("DogJudgeModel", "items", "[I", true)
  | 39 => ("DogJudgeModel", "moved", "[I", true)
  | _ => ("DogJudgeModel", "finding", "I", false)
def t_R : Nat → FieldType := fun k => match k with
  | 0 => .array (.int)
  | 1 => .int
  | 2 => .int
  | 3 => .array (.int)
  | 4 => .array (.int)
  | 5 => .int
  | 6 => .int
  | 7 => .int
  | 8 => .int
  | 9 => .int
  | 10 => .int
  | 11 => .array (.int)
  | 12 => .array (.int)
  | 13 => .array (.int)
  | 14 => .int
  | 15 => .array (.int)
  | 16 => .array (.int)
  | 17 => .array (.int)
  | 18 => .int
  | 19 => .int
  | 20 => .array (.int)
  | 21 => .array (.int)
  | 22 => .int
  | 23 => .int
  | 24 => .array (.int)
  | 25 => .array (.int)
  | 26 => .array (.int)
  | 27 => .array (.boolean)
  | 28 => .int
  | 29 => .array (.int)
  | 30 => .array (.int)
  | 31 => .array (.boolean)
  | 32 => .int
  | 33 => .int
  | 34 => .array (.int)
  | 35 => .array (.boolean)
  | 36 => .array (.int)
  | 37 => .array (.int)
  | 38 => .array (.int)
  | 39 => .array (.int)
  | _ => .int
abbrev w_R : List Cond := u_ws R_R F_R 41
abbrev j_cls : List vw_C := [(R_J, F_J, 13), (R_He, F_He, 5), (R_Vi, F_Vi, 6), (R_Co, F_Co, 4), (R_Mo, F_Mo, 7), (R_Se, F_Se, 4), (R_Su, F_Su, 4), (R_Tu, F_Tu, 4), (R_Ch, F_Ch, 6), (R_Sh, F_Sh, 4), (R_R, F_R, 41)]
abbrev j_S : Type := Nat × Nat × List (Option Nat)
def j_shl : List j_S := [
  (0, 0, [some 1, some 4, some 10, some 11, some 15, some 17, some 19, some 21, some 22, some 23, some 31, some 34, some 14]), -- 0 J
  (0, 1, [some 2, some 3, none, none, none]), -- 1 He
  (1, 23, []), -- 2 He.text
  (1, 18, []), -- 3 He.goods
  (0, 2, [some 5, some 6, some 7, some 8, some 9, none]), -- 4 Vi
  (1, 24, []), -- 5 Vi.days
  (1, 24, []), -- 6 Vi.who
  (1, 24, []), -- 7 Vi.what
  (1, 24, []), -- 8 Vi.byDay
  (1, 31, []), -- 9 Vi.starts
  (1, 5, []), -- 10 ways
  (4, 2, [some 12, some 13]), -- 11 tastes
  (1, 3, []), -- 12 tastes0
  (1, 3, []), -- 13 tastes1
  (1, 3, []), -- 14 trial
  (0, 3, [some 1, some 4, some 10, some 16]), -- 15 Co
  (3, 11, [some 35, some 39, some 43, some 47, some 51, some 55, some 59, some 63, some 67, some 71, some 75]), -- 16 moods
  (0, 5, [some 18, none, none, none]), -- 17 Se
  (1, 30, []), -- 18 Se.wanted
  (0, 6, [some 15, some 20, none, none]), -- 19 Su
  (1, 3, []), -- 20 Su.row
  (0, 7, [some 15, none, none, none]), -- 21 Tu
  (0, 8, [some 15, none, none, none, none, none]), -- 22 Ch
  (0, 9, [some 24, some 25, some 26, none]), -- 23 Sh
  (1, 4, []), -- 24 Sh.forms
  (1, 4, []), -- 25 Sh.sizes
  (4, 4, [some 27, some 28, some 29, some 30]), -- 26 Sh.rows
  (1, 48, []), -- 27 Sh.r0
  (1, 48, []), -- 28 Sh.r1
  (1, 48, []), -- 29 Sh.r2
  (1, 48, []), -- 30 Sh.r3
  (4, 2, [some 32, some 33]), -- 31 foundRows
  (1, 30, []), -- 32 fr0
  (1, 30, []), -- 33 fr1
  (1, 21, []), -- 34 tally
  (0, 4, [some 36, some 37, some 38, none, none, none, none]), -- 35 M0
  (1, 6, []), -- 36 M0.liking
  (1, 6, []), -- 37 M0.last
  (1, 3, []), -- 38 M0.tastes
  (0, 4, [some 40, some 41, some 42, none, none, none, none]), -- 39 M1
  (1, 6, []), -- 40 M1.liking
  (1, 6, []), -- 41 M1.last
  (1, 3, []), -- 42 M1.tastes
  (0, 4, [some 44, some 45, some 46, none, none, none, none]), -- 43 M2
  (1, 6, []), -- 44 M2.liking
  (1, 6, []), -- 45 M2.last
  (1, 3, []), -- 46 M2.tastes
  (0, 4, [some 48, some 49, some 50, none, none, none, none]), -- 47 M3
  (1, 6, []), -- 48 M3.liking
  (1, 6, []), -- 49 M3.last
  (1, 3, []), -- 50 M3.tastes
  (0, 4, [some 52, some 53, some 54, none, none, none, none]), -- 51 M4
  (1, 6, []), -- 52 M4.liking
  (1, 6, []), -- 53 M4.last
  (1, 3, []), -- 54 M4.tastes
  (0, 4, [some 56, some 57, some 58, none, none, none, none]), -- 55 M5
  (1, 6, []), -- 56 M5.liking
  (1, 6, []), -- 57 M5.last
  (1, 3, []), -- 58 M5.tastes
  (0, 4, [some 60, some 61, some 62, none, none, none, none]), -- 59 M6
  (1, 6, []), -- 60 M6.liking
  (1, 6, []), -- 61 M6.last
  (1, 3, []), -- 62 M6.tastes
  (0, 4, [some 64, some 65, some 66, none, none, none, none]), -- 63 M7
  (1, 6, []), -- 64 M7.liking
  (1, 6, []), -- 65 M7.last
  (1, 3, []), -- 66 M7.tastes
  (0, 4, [some 68, some 69, some 70, none, none, none, none]), -- 67 M8
  (1, 6, []), -- 68 M8.liking
  (1, 6, []), -- 69 M8.last
  (1, 3, []), -- 70 M8.tastes
  (0, 4, [some 72, some 73, some 74, none, none, none, none]), -- 71 M9
  (1, 6, []), -- 72 M9.liking
  (1, 6, []), -- 73 M9.last
  (1, 3, []), -- 74 M9.tastes
  (0, 4, [some 76, some 77, some 78, none, none, none, none]), -- 75 M10
  (1, 6, []), -- 76 M10.liking
  (1, 6, []), -- 77 M10.last
  (1, 3, []), -- 78 M10.tastes
  (0, 10, [some 80, none, none, some 81, some 82, none, none, none, none, none, none, some 83, some 84, some 85, none, some 86, some 87, some 88, none, none, some 89, some 90, none, none, some 91, some 92, some 93, some 94, none, some 95, some 96, some 97, none, none, some 98, some 99, some 100, some 101, some 102, some 103, none]), -- 79 R
  (1, 23, []), -- 80 R.text
  (1, 21, []), -- 81 R.goods
  (1, 6, []), -- 82 R.tastes
  (1, 24, []), -- 83 R.visitDay
  (1, 24, []), -- 84 R.visitHeir
  (1, 24, []), -- 85 R.visitThing
  (1, 30, []), -- 86 R.moreDay
  (1, 30, []), -- 87 R.moreHeir
  (1, 30, []), -- 88 R.moreThing
  (1, 6, []), -- 89 R.likings
  (1, 6, []), -- 90 R.lasts
  (1, 30, []), -- 91 R.foundIn
  (1, 30, []), -- 92 R.foundFirst
  (1, 3, []), -- 93 R.suitRow
  (2, 256, []), -- 94 R.outs
  (1, 8, []), -- 95 R.seenDay
  (1, 8, []), -- 96 R.seenHeir
  (2, 1000, []), -- 97 R.fits
  (1, 7, []), -- 98 R.alike
  (2, 4, []), -- 99 R.isThere
  (1, 4, []), -- 100 R.forms
  (1, 4, []), -- 101 R.sizes
  (1, 192, []), -- 102 R.items
  (1, 48, []) -- 103 R.moved
]
abbrev j_NA : Nat := 104
def j_sh (a : Nat) : j_S := j_shl.getD a (9, 0, [])
abbrev j_I : Type := MethodName × ByteArray × Nat × Option FieldType
def I_J_init : j_I := (⟨"DogJudge", "<init>", "()V"⟩, prog_1_method_1_code, 1, none)
def I_J_type : j_I := (⟨"DogJudge", "type", "(I)I"⟩, prog_1_method_2_code, 2, (some .int))
def I_J_wipe : j_I := (⟨"DogJudge", "wipe", "()I"⟩, prog_1_method_3_code, 2, (some .int))
def I_J_undo : j_I := (⟨"DogJudge", "undo", "()I"⟩, prog_1_method_4_code, 1, (some .int))
def I_J_fault : j_I := (⟨"DogJudge", "fault", "()I"⟩, prog_1_method_5_code, 1, (some .int))
def I_J_good : j_I := (⟨"DogJudge", "good", "(II)I"⟩, prog_1_method_6_code, 3, (some .int))
def I_J_taste : j_I := (⟨"DogJudge", "taste", "(III)I"⟩, prog_1_method_7_code, 5, (some .int))
def I_J_set : j_I := (⟨"DogJudge", "set", "(II)I"⟩, prog_1_method_8_code, 4, (some .int))
def I_J_visit : j_I := (⟨"DogJudge", "visit", "(III)I"⟩, prog_1_method_9_code, 4, (some .int))
def I_J_back : j_I := (⟨"DogJudge", "back", "()I"⟩, prog_1_method_10_code, 1, (some .int))
def I_J_read : j_I := (⟨"DogJudge", "read", "(I)I"⟩, prog_1_method_11_code, 5, (some .int))
def I_J_liking : j_I := (⟨"DogJudge", "liking", "(III)I"⟩, prog_1_method_12_code, 4, (some .int))
def I_J_found : j_I := (⟨"DogJudge", "found", "(II)I"⟩, prog_1_method_13_code, 3, (some .int))
def I_J_share : j_I := (⟨"DogJudge", "share", "(III)J"⟩, prog_1_method_14_code, 8, (some .long))
def I_J_quarrel : j_I := (⟨"DogJudge", "quarrel", "(I)I"⟩, prog_1_method_15_code, 5, (some .int))
def I_J_dissent : j_I := (⟨"DogJudge", "dissent", "()I"⟩, prog_1_method_16_code, 3, (some .int))
def I_J_changes : j_I := (⟨"DogJudge", "changes", "()I"⟩, prog_1_method_17_code, 5, (some .int))
def I_J_suit : j_I := (⟨"DogJudge", "suit", "(III)I"⟩, prog_1_method_18_code, 5, (some .int))
def I_J_replies : j_I := (⟨"DogJudge", "replies", "(IIII)I"⟩, prog_1_method_19_code, 6, (some .int))
def I_J_seen : j_I := (⟨"DogJudge", "seen", "(II)I"⟩, prog_1_method_20_code, 3, (some .int))
def I_J_forget : j_I := (⟨"DogJudge", "forget", "()I"⟩, prog_1_method_21_code, 2, (some .int))
def I_J_tastes : j_I := (⟨"DogJudge", "tastes", "(I)I"⟩, prog_1_method_22_code, 4, (some .int))
def I_J_tells : j_I := (⟨"DogJudge", "tells", "(II)I"⟩, prog_1_method_23_code, 5, (some .int))
def I_J_trainer : j_I := (⟨"DogJudge", "trainer", "()I"⟩, prog_1_method_24_code, 3, (some .int))
def I_J_chance : j_I := (⟨"DogJudge", "chance", "(IIII)J"⟩, prog_1_method_25_code, 8, (some .long))
def I_J_heard : j_I := (⟨"DogJudge", "heard", "(IIII)I"⟩, prog_1_method_26_code, 11, (some .int))
def I_J_weeks : j_I := (⟨"DogJudge", "weeks", "(III)I"⟩, prog_1_method_27_code, 10, (some .int))
def I_J_sheet : j_I := (⟨"DogJudge", "sheet", "(III)I"⟩, prog_1_method_28_code, 4, (some .int))
def I_J_lose : j_I := (⟨"DogJudge", "lose", "(I)I"⟩, prog_1_method_29_code, 2, (some .int))
def I_J_put : j_I := (⟨"DogJudge", "put", "(IIII)I"⟩, prog_1_method_30_code, 6, (some .int))
def I_J_get : j_I := (⟨"DogJudge", "get", "(III)I"⟩, prog_1_method_31_code, 5, (some .int))
def I_J_copy : j_I := (⟨"DogJudge", "copy", "(IIIII)I"⟩, prog_1_method_32_code, 6, (some .int))
def I_J_write : j_I := (⟨"DogJudge", "write", "(II)I"⟩, prog_1_method_33_code, 5, (some .int))
def I_J_count : j_I := (⟨"DogJudge", "count", "(I)I"⟩, prog_1_method_34_code, 2, (some .int))
def I_J_digest : j_I := (⟨"DogJudge", "digest", "()J"⟩, prog_1_method_35_code, 7, (some .long))
def I_J_mix : j_I := (⟨"DogJudge", "mix", "(JJ)J"⟩, prog_1_method_36_code, 4, (some .long))
def I_J_nextLot : j_I := (⟨"DogJudge", "nextLot", "(I)I"⟩, prog_1_method_37_code, 1, (some .int))
def I_J_isDog : j_I := (⟨"DogJudge", "isDog", "(I)Z"⟩, prog_1_method_38_code, 1, (some .boolean))
def I_J_isThing : j_I := (⟨"DogJudge", "isThing", "(I)Z"⟩, prog_1_method_39_code, 1, (some .boolean))
def I_J_isDay : j_I := (⟨"DogJudge", "isDay", "(I)Z"⟩, prog_1_method_40_code, 1, (some .boolean))
def I_J_isSearchDay : j_I := (⟨"DogJudge", "isSearchDay", "(I)Z"⟩, prog_1_method_41_code, 1, (some .boolean))
def I_J_isOneOfTwo : j_I := (⟨"DogJudge", "isOneOfTwo", "(I)Z"⟩, prog_1_method_42_code, 1, (some .boolean))
def I_J_isChance : j_I := (⟨"DogJudge", "isChance", "(I)Z"⟩, prog_1_method_43_code, 1, (some .boolean))
def I_J_refusal : j_I := (⟨"DogJudge", "refusal", "(I)J"⟩, prog_1_method_44_code, 1, (some .long))
def I_J_fraction : j_I := (⟨"DogJudge", "fraction", "(JJI)J"⟩, prog_1_method_45_code, 7, (some .long))
def I_J_greatestDivisor : j_I := (⟨"DogJudge", "greatestDivisor", "(JJ)J"⟩, prog_1_method_46_code, 11, (some .long))
def I_J_moodBehind : j_I := (⟨"DogJudge", "moodBehind", "(II)LDogJudge$Mood;"⟩, prog_1_method_47_code, 5, (some (.object "DogJudge$Mood")))
def I_J_noteFound : j_I := (⟨"DogJudge", "noteFound", "(I)V"⟩, prog_1_method_48_code, 4, none)
def I_J_areAlike : j_I := (⟨"DogJudge", "areAlike", "(II)Z"⟩, prog_1_method_49_code, 6, (some .boolean))
def I_J_tallyVisits : j_I := (⟨"DogJudge", "tallyVisits", "(II)I"⟩, prog_1_method_50_code, 6, (some .int))
def I_J_visitsThatCount : j_I := (⟨"DogJudge", "visitsThatCount", "()I"⟩, prog_1_method_51_code, 3, (some .int))
def I_J_explains : j_I := (⟨"DogJudge", "explains", "(I)Z"⟩, prog_1_method_52_code, 2, (some .boolean))
def I_J_comesOut : j_I := (⟨"DogJudge", "comesOut", "([II)Z"⟩, prog_1_method_53_code, 5, (some .boolean))
def I_J_tallyFindings : j_I := (⟨"DogJudge", "tallyFindings", "(II)V"⟩, prog_1_method_54_code, 7, none)
def I_J_greatestTally : j_I := (⟨"DogJudge", "greatestTally", "(I)I"⟩, prog_1_method_55_code, 4, (some .int))
def I_R_init : j_I := (⟨"DogJudgeModel", "<init>", "()V"⟩, prog_12_method_1_code, 2, none)
def I_R_in : j_I := (⟨"DogJudgeModel", "in", "(III)Z"⟩, prog_12_method_3_code, 3, (some .boolean))
def I_R_isIn : j_I := (⟨"DogJudgeModel", "isIn", "(II)Z"⟩, prog_12_method_4_code, 2, (some .boolean))
def I_R_no : j_I := (⟨"DogJudgeModel", "no", "(I)J"⟩, prog_12_method_5_code, 1, (some .long))
def I_R_lowest : j_I := (⟨"DogJudgeModel", "lowest", "(JJI)J"⟩, prog_12_method_6_code, 11, (some .long))
def I_R_isSix : j_I := (⟨"DogJudgeModel", "isSix", "(I)Z"⟩, prog_12_method_7_code, 1, (some .boolean))
def I_R_isDay : j_I := (⟨"DogJudgeModel", "isDay", "(I)Z"⟩, prog_12_method_8_code, 1, (some .boolean))
def I_R_isThing : j_I := (⟨"DogJudgeModel", "isThing", "(I)Z"⟩, prog_12_method_9_code, 1, (some .boolean))
def I_R_type : j_I := (⟨"DogJudgeModel", "type", "(I)I"⟩, prog_12_method_10_code, 2, (some .int))
def I_R_wipe : j_I := (⟨"DogJudgeModel", "wipe", "()I"⟩, prog_12_method_11_code, 2, (some .int))
def I_R_undo : j_I := (⟨"DogJudgeModel", "undo", "()I"⟩, prog_12_method_12_code, 1, (some .int))
def I_R_faultNow : j_I := (⟨"DogJudgeModel", "faultNow", "()I"⟩, prog_12_method_13_code, 4, (some .int))
def I_R_fault : j_I := (⟨"DogJudgeModel", "fault", "()I"⟩, prog_12_method_14_code, 1, (some .int))
def I_R_reads : j_I := (⟨"DogJudgeModel", "reads", "()V"⟩, prog_12_method_15_code, 2, none)
def I_R_isHeir : j_I := (⟨"DogJudgeModel", "isHeir", "(I)Z"⟩, prog_12_method_16_code, 2, (some .boolean))
def I_R_good : j_I := (⟨"DogJudgeModel", "good", "(II)I"⟩, prog_12_method_17_code, 3, (some .int))
def I_R_taste : j_I := (⟨"DogJudgeModel", "taste", "(III)I"⟩, prog_12_method_18_code, 5, (some .int))
def I_R_set : j_I := (⟨"DogJudgeModel", "set", "(II)I"⟩, prog_12_method_19_code, 4, (some .int))
def I_R_visit : j_I := (⟨"DogJudgeModel", "visit", "(III)I"⟩, prog_12_method_20_code, 4, (some .int))
def I_R_back : j_I := (⟨"DogJudgeModel", "back", "()I"⟩, prog_12_method_21_code, 1, (some .int))
def I_R_read : j_I := (⟨"DogJudgeModel", "read", "(I)I"⟩, prog_12_method_22_code, 3, (some .int))
def I_R_asTold : j_I := (⟨"DogJudgeModel", "asTold", "()V"⟩, prog_12_method_23_code, 1, none)
def I_R_adds : j_I := (⟨"DogJudgeModel", "adds", "(III)V"⟩, prog_12_method_24_code, 4, none)
def I_R_comes : j_I := (⟨"DogJudgeModel", "comes", "(IIII)V"⟩, prog_12_method_25_code, 6, none)
def I_R_finds : j_I := (⟨"DogJudgeModel", "finds", "(I)I"⟩, prog_12_method_26_code, 5, (some .int))
def I_R_runs : j_I := (⟨"DogJudgeModel", "runs", "(II)V"⟩, prog_12_method_27_code, 7, none)
def I_R_runsTold : j_I := (⟨"DogJudgeModel", "runsTold", "(II)V"⟩, prog_12_method_28_code, 3, none)
def I_R_likingOf : j_I := (⟨"DogJudgeModel", "likingOf", "(III)I"⟩, prog_12_method_29_code, 4, (some .int))
def I_R_liking : j_I := (⟨"DogJudgeModel", "liking", "(III)I"⟩, prog_12_method_30_code, 4, (some .int))
def I_R_foundOf : j_I := (⟨"DogJudgeModel", "foundOf", "(II)I"⟩, prog_12_method_31_code, 3, (some .int))
def I_R_found : j_I := (⟨"DogJudgeModel", "found", "(II)I"⟩, prog_12_method_32_code, 3, (some .int))
def I_R_shareOf : j_I := (⟨"DogJudgeModel", "shareOf", "(III)J"⟩, prog_12_method_33_code, 6, (some .long))
def I_R_share : j_I := (⟨"DogJudgeModel", "share", "(III)J"⟩, prog_12_method_34_code, 4, (some .long))
def I_R_often : j_I := (⟨"DogJudgeModel", "often", "(III)I"⟩, prog_12_method_35_code, 6, (some .int))
def I_R_areAlike : j_I := (⟨"DogJudgeModel", "areAlike", "(II)Z"⟩, prog_12_method_36_code, 7, (some .boolean))
def I_R_quarrelOf : j_I := (⟨"DogJudgeModel", "quarrelOf", "(I)I"⟩, prog_12_method_37_code, 4, (some .int))
def I_R_quarrel : j_I := (⟨"DogJudgeModel", "quarrel", "(I)I"⟩, prog_12_method_38_code, 2, (some .int))
def I_R_dissentNow : j_I := (⟨"DogJudgeModel", "dissentNow", "()I"⟩, prog_12_method_39_code, 3, (some .int))
def I_R_dissent : j_I := (⟨"DogJudgeModel", "dissent", "()I"⟩, prog_12_method_40_code, 1, (some .int))
def I_R_changesNow : j_I := (⟨"DogJudgeModel", "changesNow", "()I"⟩, prog_12_method_41_code, 3, (some .int))
def I_R_changes : j_I := (⟨"DogJudgeModel", "changes", "()I"⟩, prog_12_method_42_code, 1, (some .int))
def I_R_wins : j_I := (⟨"DogJudgeModel", "wins", "(IIIII)Z"⟩, prog_12_method_43_code, 6, (some .boolean))
def I_R_suitBy : j_I := (⟨"DogJudgeModel", "suitBy", "(II)I"⟩, prog_12_method_44_code, 7, (some .int))
def I_R_suitOf : j_I := (⟨"DogJudgeModel", "suitOf", "(III)I"⟩, prog_12_method_45_code, 5, (some .int))
def I_R_suit : j_I := (⟨"DogJudgeModel", "suit", "(III)I"⟩, prog_12_method_46_code, 4, (some .int))
def I_R_playsBy : j_I := (⟨"DogJudgeModel", "playsBy", "(II)Z"⟩, prog_12_method_47_code, 8, (some .boolean))
def I_R_laysOuts : j_I := (⟨"DogJudgeModel", "laysOuts", "(III)V"⟩, prog_12_method_48_code, 7, none)
def I_R_repliesOf : j_I := (⟨"DogJudgeModel", "repliesOf", "(IIII)I"⟩, prog_12_method_49_code, 7, (some .int))
def I_R_replies : j_I := (⟨"DogJudgeModel", "replies", "(IIII)I"⟩, prog_12_method_50_code, 5, (some .int))
def I_R_seen : j_I := (⟨"DogJudgeModel", "seen", "(II)I"⟩, prog_12_method_51_code, 3, (some .int))
def I_R_forget : j_I := (⟨"DogJudgeModel", "forget", "()I"⟩, prog_12_method_52_code, 2, (some .int))
def I_R_isSeen : j_I := (⟨"DogJudgeModel", "isSeen", "()Z"⟩, prog_12_method_53_code, 3, (some .boolean))
def I_R_lastSeen : j_I := (⟨"DogJudgeModel", "lastSeen", "()I"⟩, prog_12_method_54_code, 3, (some .int))
def I_R_tastesBy : j_I := (⟨"DogJudgeModel", "tastesBy", "(I)V"⟩, prog_12_method_55_code, 2, none)
def I_R_laysFits : j_I := (⟨"DogJudgeModel", "laysFits", "()V"⟩, prog_12_method_56_code, 3, none)
def I_R_tastesOf : j_I := (⟨"DogJudgeModel", "tastesOf", "(I)I"⟩, prog_12_method_57_code, 2, (some .int))
def I_R_tastes : j_I := (⟨"DogJudgeModel", "tastes", "(I)I"⟩, prog_12_method_58_code, 2, (some .int))
def I_R_tellsOf : j_I := (⟨"DogJudgeModel", "tellsOf", "(II)I"⟩, prog_12_method_59_code, 9, (some .int))
def I_R_tells : j_I := (⟨"DogJudgeModel", "tells", "(II)I"⟩, prog_12_method_60_code, 3, (some .int))
def I_R_trainerNow : j_I := (⟨"DogJudgeModel", "trainerNow", "()I"⟩, prog_12_method_61_code, 3, (some .int))
def I_R_trainer : j_I := (⟨"DogJudgeModel", "trainer", "()I"⟩, prog_12_method_62_code, 1, (some .int))
def I_R_chanceBy : j_I := (⟨"DogJudgeModel", "chanceBy", "(III)J"⟩, prog_12_method_63_code, 10, (some .long))
def I_R_chanceOf : j_I := (⟨"DogJudgeModel", "chanceOf", "(IIII)J"⟩, prog_12_method_64_code, 5, (some .long))
def I_R_isChance : j_I := (⟨"DogJudgeModel", "isChance", "(III)Z"⟩, prog_12_method_65_code, 4, (some .boolean))
def I_R_chance : j_I := (⟨"DogJudgeModel", "chance", "(IIII)J"⟩, prog_12_method_66_code, 5, (some .long))
def I_R_heardOf : j_I := (⟨"DogJudgeModel", "heardOf", "(IIII)I"⟩, prog_12_method_67_code, 11, (some .int))
def I_R_heard : j_I := (⟨"DogJudgeModel", "heard", "(IIII)I"⟩, prog_12_method_68_code, 5, (some .int))
def I_R_weeksOf : j_I := (⟨"DogJudgeModel", "weeksOf", "(III)I"⟩, prog_12_method_69_code, 7, (some .int))
def I_R_weeks : j_I := (⟨"DogJudgeModel", "weeks", "(III)I"⟩, prog_12_method_70_code, 4, (some .int))
def I_R_meets : j_I := (⟨"DogJudgeModel", "meets", "(I)I"⟩, prog_12_method_71_code, 2, (some .int))
def I_R_isSheet : j_I := (⟨"DogJudgeModel", "isSheet", "(I)Z"⟩, prog_12_method_72_code, 1, (some .boolean))
def I_R_sheet : j_I := (⟨"DogJudgeModel", "sheet", "(III)I"⟩, prog_12_method_73_code, 5, (some .int))
def I_R_lose : j_I := (⟨"DogJudgeModel", "lose", "(I)I"⟩, prog_12_method_74_code, 2, (some .int))
def I_R_lacks : j_I := (⟨"DogJudgeModel", "lacks", "(III)I"⟩, prog_12_method_75_code, 4, (some .int))
def I_R_keep : j_I := (⟨"DogJudgeModel", "keep", "(III)V"⟩, prog_12_method_76_code, 4, none)
def I_R_put : j_I := (⟨"DogJudgeModel", "put", "(IIII)I"⟩, prog_12_method_77_code, 6, (some .int))
def I_R_get : j_I := (⟨"DogJudgeModel", "get", "(III)I"⟩, prog_12_method_78_code, 5, (some .int))
def I_R_copy : j_I := (⟨"DogJudgeModel", "copy", "(IIIII)I"⟩, prog_12_method_79_code, 7, (some .int))
def I_R_write : j_I := (⟨"DogJudgeModel", "write", "(II)I"⟩, prog_12_method_80_code, 4, (some .int))
def I_R_countsMany : j_I := (⟨"DogJudgeModel", "countsMany", "(I)I"⟩, prog_12_method_81_code, 4, (some .int))
def I_R_count : j_I := (⟨"DogJudgeModel", "count", "(I)I"⟩, prog_12_method_82_code, 2, (some .int))
def I_R_heirDigest : j_I := (⟨"DogJudgeModel", "heirDigest", "(JI)J"⟩, prog_12_method_83_code, 7, (some .long))
def I_R_dayDigest : j_I := (⟨"DogJudgeModel", "dayDigest", "(JI)J"⟩, prog_12_method_84_code, 6, (some .long))
def I_R_digest : j_I := (⟨"DogJudgeModel", "digest", "()J"⟩, prog_12_method_85_code, 4, (some .long))
def I_Ch_init : j_I := (⟨"DogJudge$Chances", "<init>", "(LDogJudge$Court;)V"⟩, prog_2_method_1_code, 2, none)
def I_Ch_ask : j_I := (⟨"DogJudge$Chances", "ask", "(III)V"⟩, prog_2_method_2_code, 4, none)
def I_Ch_weigh : j_I := (⟨"DogJudge$Chances", "weigh", "([III)J"⟩, prog_2_method_3_code, 4, (some .long))
def I_Ch_weighFrom : j_I := (⟨"DogJudge$Chances", "weighFrom", "(I)J"⟩, prog_2_method_4_code, 8, (some .long))
def I_Co_init : j_I := (⟨"DogJudge$Court", "<init>", "(LDogJudge$Heirs;LDogJudge$Visits;[I)V"⟩, prog_3_method_1_code, 5, none)
def I_Co_isAwake : j_I := (⟨"DogJudge$Court", "isAwake", "(I)Z"⟩, prog_3_method_2_code, 2, (some .boolean))
def I_Co_comersOn : j_I := (⟨"DogJudge$Court", "comersOn", "(I)I"⟩, prog_3_method_3_code, 4, (some .int))
def I_Co_liveDay : j_I := (⟨"DogJudge$Court", "liveDay", "(LDogJudge$Mood;I)V"⟩, prog_3_method_4_code, 3, none)
def I_Co_comeAsTold : j_I := (⟨"DogJudge$Court", "comeAsTold", "(LDogJudge$Mood;I)V"⟩, prog_3_method_5_code, 4, none)
def I_Co_bring : j_I := (⟨"DogJudge$Court", "bring", "(LDogJudge$Mood;III)V"⟩, prog_3_method_6_code, 6, none)
def I_Co_evening : j_I := (⟨"DogJudge$Court", "evening", "(LDogJudge$Mood;)V"⟩, prog_3_method_7_code, 5, none)
def I_Co_mostLiked : j_I := (⟨"DogJudge$Court", "mostLiked", "(LDogJudge$Mood;)I"⟩, prog_3_method_8_code, 5, (some .int))
def I_He_init : j_I := (⟨"DogJudge$Heirs", "<init>", "()V"⟩, prog_4_method_1_code, 1, none)
def I_He_has : j_I := (⟨"DogJudge$Heirs", "has", "(I)Z"⟩, prog_4_method_2_code, 2, (some .boolean))
def I_He_understand : j_I := (⟨"DogJudge$Heirs", "understand", "()V"⟩, prog_4_method_3_code, 3, none)
def I_He_firstFault : j_I := (⟨"DogJudge$Heirs", "firstFault", "()I"⟩, prog_4_method_4_code, 4, (some .int))
def I_Mo_init : j_I := (⟨"DogJudge$Mood", "<init>", "()V"⟩, prog_5_method_1_code, 1, none)
def I_Mo_begin : j_I := (⟨"DogJudge$Mood", "begin", "([II)V"⟩, prog_5_method_2_code, 4, none)
def I_Mo_become : j_I := (⟨"DogJudge$Mood", "become", "(LDogJudge$Mood;)V"⟩, prog_5_method_3_code, 2, none)
def I_Se_init : j_I := (⟨"DogJudge$Seen", "<init>", "()V"⟩, prog_6_method_1_code, 1, none)
def I_Se_clear : j_I := (⟨"DogJudge$Seen", "clear", "()V"⟩, prog_6_method_2_code, 2, none)
def I_Se_add : j_I := (⟨"DogJudge$Seen", "add", "(II)V"⟩, prog_6_method_3_code, 3, none)
def I_Se_allows : j_I := (⟨"DogJudge$Seen", "allows", "(II)Z"⟩, prog_6_method_4_code, 3, (some .boolean))
def I_Sh_init : j_I := (⟨"DogJudge$Sheets", "<init>", "()V"⟩, prog_7_method_1_code, 2, none)
def I_Sh_isPlace : j_I := (⟨"DogJudge$Sheets", "isPlace", "(I)Z"⟩, prog_7_method_2_code, 2, (some .boolean))
def I_Sh_isForm : j_I := (⟨"DogJudge$Sheets", "isForm", "(I)Z"⟩, prog_7_method_3_code, 2, (some .boolean))
def I_Sh_isLost : j_I := (⟨"DogJudge$Sheets", "isLost", "(I)Z"⟩, prog_7_method_4_code, 2, (some .boolean))
def I_Sh_find : j_I := (⟨"DogJudge$Sheets", "find", "(I)I"⟩, prog_7_method_5_code, 2, (some .int))
def I_Sh_renew : j_I := (⟨"DogJudge$Sheets", "renew", "(III)V"⟩, prog_7_method_6_code, 5, none)
def I_Sh_findingAt : j_I := (⟨"DogJudge$Sheets", "findingAt", "(III)I"⟩, prog_7_method_7_code, 4, (some .int))
def I_Sh_hasRun : j_I := (⟨"DogJudge$Sheets", "hasRun", "(III)Z"⟩, prog_7_method_8_code, 4, (some .boolean))
def I_Sh_fit : j_I := (⟨"DogJudge$Sheets", "fit", "(II)I"⟩, prog_7_method_9_code, 3, (some .int))
def I_Su_init : j_I := (⟨"DogJudge$Suits", "<init>", "(LDogJudge$Court;)V"⟩, prog_8_method_1_code, 2, none)
def I_Su_begin : j_I := (⟨"DogJudge$Suits", "begin", "([III)V"⟩, prog_8_method_2_code, 5, none)
def I_Su_seek : j_I := (⟨"DogJudge$Suits", "seek", "(III)Z"⟩, prog_8_method_3_code, 7, (some .boolean))
def I_Su_isFoundAfter : j_I := (⟨"DogJudge$Suits", "isFoundAfter", "(LDogJudge$Mood;I)Z"⟩, prog_8_method_4_code, 4, (some .boolean))
def I_Tu_init : j_I := (⟨"DogJudge$Turns", "<init>", "(LDogJudge$Court;)V"⟩, prog_9_method_1_code, 2, none)
def I_Tu_leastThatWins : j_I := (⟨"DogJudge$Turns", "leastThatWins", "([IIII)I"⟩, prog_9_method_2_code, 6, (some .int))
def I_Tu_winsBy : j_I := (⟨"DogJudge$Turns", "winsBy", "(II)Z"⟩, prog_9_method_3_code, 4, (some .boolean))
def I_Tu_winsFrom : j_I := (⟨"DogJudge$Turns", "winsFrom", "(I)Z"⟩, prog_9_method_4_code, 4, (some .boolean))
def I_Vi_init : j_I := (⟨"DogJudge$Visits", "<init>", "()V"⟩, prog_10_method_1_code, 1, none)
def I_Vi_tell : j_I := (⟨"DogJudge$Visits", "tell", "(III)V"⟩, prog_10_method_2_code, 6, none)
def I_Vi_untell : j_I := (⟨"DogJudge$Visits", "untell", "()V"⟩, prog_10_method_3_code, 3, none)
def I_Vi_heirAt : j_I := (⟨"DogJudge$Visits", "heirAt", "(I)I"⟩, prog_10_method_4_code, 2, (some .int))
def I_Vi_thingAt : j_I := (⟨"DogJudge$Visits", "thingAt", "(I)I"⟩, prog_10_method_5_code, 2, (some .int))
def I_L_law : j_I := (⟨"DogJudgeLaw", "law", "([I)Z"⟩, code, 4, (some .boolean))
end
section
/-! THE FRAME: an abstract memory of ints over a fixed graph of objects, and the machine's judgement over it -/
def j_tbl : List Cond := lw_tbl.filter goodWord
theorem j_in {w : Cond} (i : Nat) (h : lw_tbl[i]? = some w) (hg : goodWord w = true) : w ∈ j_tbl := List.mem_filter.mpr ⟨List.mem_of_getElem? h, hg⟩
theorem j_goodIn {ws : List Cond} (h : ∀ w ∈ ws, w ∈ j_tbl) : GoodIn j_tbl ws := fun w hw => ⟨h w hw, good_of_word (List.mem_filter.mp (h w hw)).2⟩
abbrev j_M : Type := Nat → Nat → Int32
def j_set (M : j_M) (a k : Nat) (v : Int32) : j_M := fun b => if b = a then upd (M a) k v else M b
def j_seta (M : j_M) (a : Nat) (f : Nat → Int32) : j_M := fun b => if b = a then f else M b
theorem j_set_s (M : j_M) (a k : Nat) (v : Int32) : j_set M a k v a = upd (M a) k v := by simp [j_set]
theorem j_set_n (M : j_M) {a b : Nat} (k : Nat) (v : Int32) (h : b ≠ a) : j_set M a k v b = M b := by simp [j_set, h]
theorem j_seta_s (M : j_M) (a : Nat) (f : Nat → Int32) : j_seta M a f a = f := by simp [j_seta]
theorem j_seta_n (M : j_M) {a b : Nat} (f : Nat → Int32) (h : b ≠ a) : j_seta M a f b = M b := by simp [j_seta, h]
abbrev j_w : Type := va_G × (Nat → ClassId) × (Nat → Nat)
def j_fl (al : Nat → Nat) (f : Nat → Int32) : Nat → List (Option Nat) → List Value
  | _, [] => []
  | k, none :: r => .int (f k) :: j_fl al f (k + 1) r
  | k, some b :: r => .ref (al b) :: j_fl al f (k + 1) r
theorem j_fl_len (al : Nat → Nat) (f : Nat → Int32) : ∀ (r : List (Option Nat)) (k : Nat), (j_fl al f k r).length = r.length
  | [], _ => rfl
  | none :: r, k => by simp [j_fl, j_fl_len al f r]
  | some b :: r, k => by simp [j_fl, j_fl_len al f r]
theorem j_fl_int (al : Nat → Nat) (f : Nat → Int32) : ∀ (r : List (Option Nat)) (k0 k : Nat), r[k]? = some none → (j_fl al f k0 r)[k]? = some (.int (f (k0 + k)))
  | [], _, _, h => by simp at h
  | none :: r, k0, 0, _ => by simp [j_fl]
  | none :: r, k0, k + 1, h => by
    have := j_fl_int al f r (k0 + 1) k (by simpa using h)
    simp only [j_fl, List.getElem?_cons_succ, this]
    rw [show k0 + 1 + k = k0 + (k + 1) by omega]
  | some b :: r, k0, 0, h => by simp at h
  | some b :: r, k0, k + 1, h => by
    have := j_fl_int al f r (k0 + 1) k (by simpa using h)
    simp only [j_fl, List.getElem?_cons_succ, this]
    rw [show k0 + 1 + k = k0 + (k + 1) by omega]
theorem j_fl_ref (al : Nat → Nat) (f : Nat → Int32) {b : Nat} : ∀ (r : List (Option Nat)) (k0 k : Nat), r[k]? = some (some b) → (j_fl al f k0 r)[k]? = some (.ref (al b))
  | [], _, _, h => by simp at h
  | none :: r, k0, 0, h => by simp at h
  | none :: r, k0, k + 1, h => by
    have := j_fl_ref al f r (k0 + 1) k (by simpa using h)
    simp only [j_fl, List.getElem?_cons_succ, this]
  | some c :: r, k0, 0, h => by simp at h; subst h; simp [j_fl]
  | some c :: r, k0, k + 1, h => by
    have := j_fl_ref al f r (k0 + 1) k (by simpa using h)
    simp only [j_fl, List.getElem?_cons_succ, this]
theorem j_fl_cong (al : Nat → Nat) {f g : Nat → Int32} : ∀ (r : List (Option Nat)) (k0 : Nat), (∀ k, k0 ≤ k → f k = g k) → j_fl al f k0 r = j_fl al g k0 r
  | [], _, _ => rfl
  | none :: r, k0, h => by simp only [j_fl]; rw [h k0 (Nat.le_refl _), j_fl_cong al r (k0 + 1) (fun k hk => h k (by omega))]
  | some b :: r, k0, h => by simp only [j_fl]; rw [j_fl_cong al r (k0 + 1) (fun k hk => h k (by omega))]
theorem j_fl_set (al : Nat → Nat) (f : Nat → Int32) (v : Int32) : ∀ (r : List (Option Nat)) (k0 k : Nat), r[k]? = some none → (j_fl al f k0 r).set k (.int v) = j_fl al (upd f (k0 + k) v) k0 r
  | [], _, _, h => by simp at h
  | none :: r, k0, 0, _ => by
    simp only [j_fl, List.set_cons_zero, Nat.add_zero]
    rw [j_fl_cong al (f := upd f k0 v) (g := f) r (k0 + 1) (fun k hk => by simp [upd]; omega)]
    simp [upd]
  | none :: r, k0, k + 1, h => by
    have := j_fl_set al f v r (k0 + 1) k (by simpa using h)
    simp only [j_fl, List.set_cons_succ, this]
    rw [show k0 + 1 + k = k0 + (k + 1) by omega]
    congr 2
    simp [upd]
  | some b :: r, k0, 0, h => by simp at h
  | some b :: r, k0, k + 1, h => by
    have := j_fl_set al f v r (k0 + 1) k (by simpa using h)
    simp only [j_fl, List.set_cons_succ, this]
    rw [show k0 + 1 + k = k0 + (k + 1) by omega]
def j_ent (w : j_w) (M : j_M) (a : Nat) : va_E := match j_sh a with
  | (0, ci, r) => .inr (ci, j_fl w.2.2 (M a) 0 r)
  | (1, n, _) => .inl (w.2.1 0, n, .inl (M a))
  | (2, n, _) => .inl (w.2.1 1, n, .inl (M a))
  | (3, n, r) => .inl (w.2.1 2, n, .inr (.inr (.inr (.inr (fun j => (r.getD j none).map w.2.2)))))
  | (_, n, r) => .inl (w.2.1 3, n, .inr (.inr (.inr (.inr (fun j => (r.getD j none).map w.2.2)))))
def j_ws (w : j_w) (M : j_M) : va_W := (List.range j_NA).map (fun a => (w.2.2 a, j_ent w M a))
theorem j_at (w : j_w) (M : j_M) {a : Nat} (h : a < j_NA) : (j_ws w M)[a]? = some (w.2.2 a, j_ent w M a) := by
  simp only [j_ws, List.getElem?_map, List.getElem?_range h, Option.map_some]
theorem j_ws_len (w : j_w) (M : j_M) : (j_ws w M).length = j_NA := by simp [j_ws]
theorem j_ws_set (w : j_w) {M M' : j_M} {a : Nat} {e : va_E} (ha : a < j_NA) (he : j_ent w M' a = e) (ho : ∀ b, b ≠ a → M' b = M b) : (j_ws w M).set a (w.2.2 a, e) = j_ws w M' := by
  apply List.ext_getElem?
  intro i
  by_cases hi : i < j_NA
  · rw [j_at w M' hi]
    by_cases h : i = a
    · subst h
      rw [List.getElem?_set_self (by rw [j_ws_len]; exact ha), he]
    · rw [List.getElem?_set_ne (Ne.symm h), j_at w M hi]
      congr 2
      unfold j_ent
      rw [ho i h]
  · rw [List.getElem?_eq_none (by rw [List.length_set, j_ws_len]; omega), List.getElem?_eq_none (by rw [j_ws_len]; omega)]
def j_tys (w : j_w) : List (ClassId × FieldType) := [(w.2.1 0, .int), (w.2.1 1, .boolean), (w.2.1 2, .object "DogJudge$Mood"), (w.2.1 3, .array .int)]
def j_A (w : j_w) : Nat → Prop := fun q => ∃ a, a < j_NA ∧ q = w.2.2 a
def j_D (w : j_w) : Prop := ∀ a b, a < j_NA → b < j_NA → w.2.2 a = w.2.2 b → a = b
theorem j_ws_inv {w : j_w} {M : j_M} {i : Nat} {q : Nat × va_E} (h : (j_ws w M)[i]? = some q) : i < j_NA ∧ q = (w.2.2 i, j_ent w M i) := by
  have hi : i < j_NA := by
    have := (List.getElem?_eq_some_iff.mp h).1
    rwa [j_ws_len] at this
  rw [j_at w M hi] at h
  exact ⟨hi, (Option.some.inj h).symm⟩
theorem j_vaD {w : j_w} {A : Nat → Prop} (hD : j_D w) (hA : ∀ a, a < j_NA → A (w.2.2 a)) (M : j_M) : va_D A (j_ws w M) := by
  refine ⟨fun i j p q hi hj h => ?_, fun k q hk => ?_⟩
  · obtain ⟨h1, rfl⟩ := j_ws_inv hi
    obtain ⟨h2, rfl⟩ := j_ws_inv hj
    exact hD i j h1 h2 h
  · obtain ⟨h1, rfl⟩ := j_ws_inv hk
    exact hA k h1
/-- what the static tables hold, and the one link of a nest mate -/
def j_wm (k : Nat) : Int32 := if k = 3 then 1073741823 else 9
def j_dd (k : Nat) : Int32 := if k = 0 then 0 else if k = 1 then 1 else if k = 2 then 9 else 29
def j_Z (w : j_w) (A : Nat → Prop) (U : State) (H : Heap) : Prop :=
  (va_Z "DogJudge" "WAYS_MOST" "[I" (.ref (w.2.2 j_NA)) A U H ∧ va_T .int (w.2.2 j_NA) 5 (fun j => .int (j_wm j)) A U H) ∧
  (va_Z "DogJudge" "DIGEST_DAYS" "[I" (.ref (w.2.2 (j_NA + 1))) A U H ∧ va_T .int (w.2.2 (j_NA + 1)) 4 (fun j => .int (j_dd j)) A U H) ∧
  va_Nw (.methodLinkNest "DogJudge" 191 ⟨"DogJudge$Suits", "seek", "(III)Z"⟩ "DogJudge") U
theorem j_Z.narrow {w : j_w} {A B : Nat → Prop} {U : State} {H : Heap} (h : j_Z w A U H) (hAB : ∀ q, B q → A q) : j_Z w B U H := by
  obtain ⟨⟨a1, b1⟩, ⟨a2, b2⟩, n⟩ := h
  exact ⟨⟨a1.narrow hAB, b1.narrow hAB⟩, ⟨a2.narrow hAB, b2.narrow hAB⟩, n⟩
theorem j_Z.kept {w : j_w} {A : Nat → Prop} {U : State} {H H1 : Heap} (h : j_Z w A U H) (hq : ∀ a : Nat, a < H.size → ¬ A a → H1[a]? = H[a]?) : j_Z w A U H1 := by
  obtain ⟨⟨a1, b1⟩, ⟨a2, b2⟩, n⟩ := h
  exact ⟨⟨a1.kept hq, b1.kept hq⟩, ⟨a2.kept hq, b2.kept hq⟩, n⟩
theorem j_Z.warm {w : j_w} {A : Nat → Prop} {s U : State} {H : Heap} (hW : s.WarmedH U.vm) (h : j_Z w A s H) : j_Z w A U H := by
  obtain ⟨⟨a1, b1⟩, ⟨a2, b2⟩, n⟩ := h
  exact ⟨⟨a1.moved hW.alike, b1.moved hW.alike⟩, ⟨a2.moved hW.alike, b2.moved hW.alike⟩, n.warmM hW⟩
theorem j_Z.same {w : j_w} {A : Nat → Prop} {s U : State} {H : Heap} (hW : s.vm = U.vm) (h : j_Z w A s H) : j_Z w A U H := by
  obtain ⟨⟨a1, b1⟩, ⟨a2, b2⟩, n⟩ := h
  have hal : s.vm.Alike U.vm := by rw [hW]; exact Vm.Alike.refl _
  exact ⟨⟨a1.moved hal, b1.moved hal⟩, ⟨a2.moved hal, b2.moved hal⟩, va_Nw.same rfl hW n⟩
def j_e (w : j_w) : Value → Value
  | .ref a => .ref (w.2.2 a)
  | v => v
theorem j_e_cat (w : j_w) (v : Value) : (j_e w v).category = v.category := by cases v <;> rfl
theorem j_e_cats (w : j_w) (vs : List Value) : ((vs.map (j_e w)).map fun v => v.category).sum = (vs.map fun v => v.category).sum := by
  rw [List.map_map]; congr 1; apply List.map_congr_left; intro v _; exact j_e_cat w v
/-- the locals that are known, by their places -/
def j_lv (w : j_w) : Nat → List (Option Value) → List (Nat × Value)
  | _, [] => []
  | i, none :: r => j_lv w (i + 1) r
  | i, some v :: r => (i, j_e w v) :: j_lv w (i + 1) r
theorem j_lv_mem (w : j_w) : ∀ (L : List (Option Value)) (i : Nat) (q : Nat × Value), q ∈ j_lv w i L ↔ ∃ j v, L[j]? = some (some v) ∧ q = (i + j, j_e w v)
  | [], i, q => by simp [j_lv]
  | none :: r, i, q => by
    rw [j_lv, j_lv_mem w r (i + 1) q]
    constructor
    · rintro ⟨j, v, h1, h2⟩; exact ⟨j + 1, v, by simpa using h1, by rw [h2]; congr 1; omega⟩
    · rintro ⟨j, v, h1, h2⟩
      cases j with
      | zero => simp at h1
      | succ j => exact ⟨j, v, by simpa using h1, by rw [h2]; congr 1; omega⟩
  | some v :: r, i, q => by
    rw [j_lv, List.mem_cons, j_lv_mem w r (i + 1) q]
    constructor
    · rintro (h | ⟨j, v, h1, h2⟩)
      · exact ⟨0, v, by simp, by simpa using h⟩
      · exact ⟨j + 1, v, by simpa using h1, by rw [h2]; congr 1; omega⟩
    · rintro ⟨j, v, h1, h2⟩
      cases j with
      | zero => left; simp at h1; subst h1; simpa using h2
      | succ j => right; exact ⟨j, v, by simpa using h1, by rw [h2]; congr 1; omega⟩
theorem j_lv_get {w : j_w} {ls : Array Slot} {n : Nat} {L : List (Option Value)} (h : lv_has ls n (j_lv w 0 L)) {i : Nat} {v : Value} (hi : L[i]? = some (some v)) : ls[i]? = some (.val (j_e w v)) :=
  h.2.2 (i, j_e w v) ((j_lv_mem w L 0 _).mpr ⟨i, v, hi, by simp⟩)
theorem lv_has.ss {ls : Array Slot} {n : Nat} {l l' : List (Nat × Value)} (h : lv_has ls n l) (hs : ∀ q ∈ l', q ∈ l) : lv_has ls n l' := ⟨h.1, h.2.1, fun q hq => h.2.2 q (hs q hq)⟩
def j_c1 : Option (Option Value) → Bool
  | some (some v) => v.category == 1
  | _ => true
theorem j_lv_set1 {w : j_w} {ls : Array Slot} {n : Nat} {L : List (Option Value)} {i : Nat} {v : Value} (hprev : i = 0 ∨ j_c1 L[i - 1]? = true)
    (h : lv_has ls n ((i, j_e w v) :: (j_lv w 0 L).filter (fun q => !(q.1 == i) && !(q.1 + 1 == i && q.2.category == 2)))) : lv_has ls n (j_lv w 0 (L.set i (some v))) := by
  refine h.ss fun q hq => ?_
  obtain ⟨j, u, h1, rfl⟩ := (j_lv_mem w _ 0 q).mp hq
  rw [List.getElem?_set] at h1
  split at h1
  · rename_i hij
    subst hij
    split at h1
    · cases h1; simp
    · cases h1
  · rename_i hij
    refine List.mem_cons_of_mem _ (List.mem_filter.mpr ⟨(j_lv_mem w L 0 _).mpr ⟨j, u, h1, rfl⟩, ?_⟩)
    simp only [Nat.zero_add, Bool.and_eq_true, Bool.not_eq_true', beq_eq_false_iff_ne, ne_eq, Bool.and_eq_false_imp, beq_iff_eq, j_e_cat]
    refine ⟨fun e => hij e.symm, fun e hc => ?_⟩
    rcases hprev with hp | hp
    · omega
    · have : i - 1 = j := by omega
      rw [this, h1] at hp
      simp [j_c1] at hp
      omega
theorem j_lv_set2 {w : j_w} {ls : Array Slot} {n : Nat} {L : List (Option Value)} {i : Nat} {v : Value} (hprev : i = 0 ∨ j_c1 L[i - 1]? = true)
    (h : lv_has ls n ((i, j_e w v) :: (j_lv w 0 L).filter (fun q => !(q.1 == i) && (!(q.1 == i + 1) && !(q.1 + 1 == i && q.2.category == 2))))) : lv_has ls n (j_lv w 0 ((L.set i (some v)).set (i + 1) none)) := by
  refine h.ss fun q hq => ?_
  obtain ⟨j, u, h1, rfl⟩ := (j_lv_mem w _ 0 q).mp hq
  rw [List.getElem?_set] at h1
  split at h1
  · split at h1 <;> cases h1
  · rename_i hij1
    rw [List.getElem?_set] at h1
    split at h1
    · rename_i hij
      subst hij
      split at h1
      · cases h1; simp
      · cases h1
    · rename_i hij
      refine List.mem_cons_of_mem _ (List.mem_filter.mpr ⟨(j_lv_mem w L 0 _).mpr ⟨j, u, h1, rfl⟩, ?_⟩)
      simp only [Nat.zero_add, Bool.and_eq_true, Bool.not_eq_true', beq_eq_false_iff_ne, ne_eq, Bool.and_eq_false_imp, beq_iff_eq, j_e_cat]
      refine ⟨fun e => hij e.symm, fun e => hij1 e.symm, fun e hc => ?_⟩
      rcases hprev with hp | hp
      · omega
      · have : i - 1 = j := by omega
        rw [this, h1] at hp
        simp [j_c1] at hp
        omega
def j_ar : List Value → List (Option Value)
  | [] => []
  | v :: r => if v.category = 2 then some v :: none :: j_ar r else some v :: j_ar r
theorem j_ar_args (w : j_w) : ∀ (vs : List Value) (i : Nat), lv_args i (vs.map (j_e w)) = j_lv w i (j_ar vs)
  | [], i => rfl
  | v :: r, i => by
    rw [List.map_cons, lv_args, j_ar, j_e_cat, j_ar_args w r]
    by_cases h : v.category = 2
    · rw [if_pos h, if_pos h, j_lv, j_lv]
    · rw [if_neg h, if_neg h, j_lv]
theorem j_lv_app (w : j_w) (k : Nat) : ∀ (L : List (Option Value)) (i : Nat), j_lv w i (L ++ List.replicate k none) = j_lv w i L
  | [], i => by
    induction k generalizing i with
    | zero => rfl
    | succ k ih =>
      have h := ih (i + 1)
      rw [List.nil_append] at h
      rw [List.nil_append, List.replicate_succ, j_lv]
      exact h
  | none :: r, i => by rw [List.cons_append, j_lv, j_lv, j_lv_app w k r]
  | some v :: r, i => by rw [List.cons_append, j_lv, j_lv, j_lv_app w k r]
/-- the entry's locals -/
def j_L0 (n : Nat) (vs : List Value) : List (Option Value) := j_ar vs ++ List.replicate (n - (j_ar vs).length) none
/-- the machine around a frame -/
abbrev j_X : Type := (Program × Launch × Env × Room × State) × (MethodId × Array Value × List Frame × Method × Code) × (j_w × (Nat → Prop) × Nat × Nat × (State → Prop))
def j_Good (d : Nat) (I : j_I) (X : j_X) : Prop := match X with
  | ((p, l, e, R, s), (m, args, below, meth, c), (w, A, cells, slots, Q)) =>
    p.tables.exec = Jvm.exec ∧ c.code = I.2.1 ∧ c.maxLocals = I.2.2.1 ∧ s.vm.findClass I.1.cls = some m.cls ∧ (∀ u ∈ j_tbl, u.before args s = true) ∧ va_K w.1 j_cls (j_tys w) s ∧ j_Z w A s s.heap ∧ j_D w ∧ (∀ a, a < j_NA → A (w.2.2 a)) ∧ d ≤ R.frames ∧ 41 * d ≤ R.locals ∧ cells ≤ R.cells ∧ slots ≤ R.slots
/-- the machine, at this place of the method, comes to its end -/
def j_W (d : Nat) (I : j_I) (X : j_X) (pc : Nat) (L : List (Option Value)) (st : List Value) (M : j_M) : Prop := match X with
  | ((p, l, e, R, s), (m, args, below, meth, c), (w, A, cells, slots, Q)) =>
    j_Good d I X → ∀ (H : Heap) (locs : List Loc) (ls : Array Slot), va_P w.1 j_cls (j_ws w M) H → va_S A s.heap H locs → lv_has ls I.2.2.1 (j_lv w 0 L) → W p l e R s m args below meth c H locs cells slots Q (F0 m pc ls (st.map (j_e w)))
def j_rm (d : Nat) : Room := { frames := d, cells := 0, slots := 0, locals := 41 * d }
def j_words (I : j_I) : List Cond := Cond.code I.1 I.2.1 I.2.2.1 I.2.2.2 :: j_tbl
def j_Pre (w : j_w) (M : j_M) (U : State) : Prop := va_P w.1 j_cls (j_ws w M) U.heap ∧ va_K w.1 j_cls (j_tys w) U ∧ j_Z w (j_A w) U U.heap ∧ j_D w
def j_Qc (w : j_w) (Q : Option Value → j_M → Prop) : Array Value → State → Outcome → State → Prop := fun _ st o t =>
  (∃ (r : Option Value) (M : j_M), o = .returned (r.map (j_e w)) ∧ Q r M ∧ va_P w.1 j_cls (j_ws w M) t.heap) ∧ va_F (j_A w) st t
/-- a method's contract: called with these, it returns so -/
def j_Ct (d : Nat) (I : j_I) (vs : List Value) (M : j_M) (Q : Option Value → j_M → Prop) : Prop :=
  ∀ (l : Launch) (w : j_w), Met l I.1 (j_words I) (j_rm d) (va_Pc (vs.map (j_e w)) (j_Pre w M)) (j_Qc w Q) 0 0 (j_A w)
/-- the frame's end is a method's -/
def j_Fin (I : j_I) (Q : Option Value → j_M → Prop) (X : j_X) : Prop := match X with
  | ((p, l, e, R, s), (m, args, below, meth, c), (w, A, cells, slots, Qp)) =>
    meth.sig.returnType = I.2.2.2 ∧ meth.locks = false ∧ cells = 0 ∧ slots = 0 ∧ A = j_A w ∧ Qp = MQ below (j_Qc w Q) args s 0 0 (j_A w)
theorem j_met {d : Nat} {I : j_I} {vs : List Value} {M : j_M} {Q : Option Value → j_M → Prop} (hpl : plainName I.1.cls = true) (hin : Cond.code I.1 I.2.1 I.2.2.1 I.2.2.2 ∈ j_tbl) (hlen : (j_ar vs).length ≤ I.2.2.1)
    (body : ∀ X : j_X, j_Fin I Q X → j_W d I X 0 (j_L0 I.2.2.1 vs) [] M) : j_Ct d I vs M Q := by
  intro l w
  refine Met.ofW (cc := I.2.1) (maxL := I.2.2.1) (ret := I.2.2.2) hpl rfl ?_
  intro p e s m args below meth c s₁ B hml hv
  obtain ⟨rfl, hP, hK, hZ, hD⟩ := hv
  have hts := atoms_spec (ws := j_words I) B.pre
  have hown : s.vm.findClass I.1.cls = some m.cls := findClass_of_methodNamed B.named
  have hlen2 : (lg_sl (vs.map (j_e w))).length = (j_ar vs).length := by
    clear body hlen hts B
    clear hP
    induction vs with
    | nil => rfl
    | cons v r ih =>
      have ih' : (lg_sl (r.map (j_e w))).length = (j_ar r).length := ih
      simp only [List.map_cons, lg_sl, List.flatMap_cons, List.length_append, j_ar, j_e_cat]
      simp only [lg_sl] at ih'
      rw [ih']
      by_cases h : v.category = 2
      · simp [h]; omega
      · simp [h]; omega
  have hl := lv_entry (vs.map (j_e w)) (n := I.2.2.1) (by rw [hlen2]; exact hlen)
  rw [lg_entry_eq]
  generalize (lg_sl (vs.map (j_e w)) ++ List.replicate (I.2.2.1 - (lg_sl (vs.map (j_e w))).length) Slot.unset).toArray = ls at hl ⊢
  rw [j_ar_args, ← j_lv_app w (I.2.2.1 - (j_ar vs).length)] at hl
  exact body ((p, l, e, (headSpec (j_words I) (j_rm d)).room, s), (m, (vs.map (j_e w)).toArray, below, meth, c), (w, j_A w, 0, 0, MQ below (j_Qc w Q) (vs.map (j_e w)).toArray s 0 0 (j_A w)))
    ⟨B.returns, B.notSynchronized, rfl, rfl, rfl, rfl⟩
    ⟨B.exec, B.bytes, hml, hown, fun u hu => hts u (List.mem_cons_of_mem _ hu), hK, hZ, hD, fun a ha => ⟨a, ha, rfl⟩, Nat.le_refl _, Nat.le_refl _, Nat.zero_le _, Nat.zero_le _⟩ s.heap [] ls hP va_S.rf hl
end
section
/-! THE RULES: a row an instruction, over the abstract memory -/
section Rules
variable {d : Nat} {I : j_I} {X : j_X} {pc : Nat} {L : List (Option Value)} {st : List Value} {M : j_M}
theorem jx_iadd {x y : Int32} (hd : decode I.2.1 pc = .ok (.iadd, 1))  (k : j_W d I X (pc + 1) L (.int (x + y) :: st) M) : j_W d I X pc L (.int y :: .int x :: st) M := by
  obtain ⟨⟨p, l, e, R, s⟩, ⟨m, args, below, meth, c⟩, ⟨w, A, cells, slots, Q⟩⟩ := X
  intro hG H locs ls hP hS hl
  obtain ⟨hx, hb, hml, hown, hts, hK, hZ, hD, hA, hfr, hlo, hce, hsl⟩ := id hG
  exact lv_iadd hx hb hd (k hG H locs ls hP hS hl)
theorem jx_isub {x y : Int32} (hd : decode I.2.1 pc = .ok (.isub, 1))  (k : j_W d I X (pc + 1) L (.int (x - y) :: st) M) : j_W d I X pc L (.int y :: .int x :: st) M := by
  obtain ⟨⟨p, l, e, R, s⟩, ⟨m, args, below, meth, c⟩, ⟨w, A, cells, slots, Q⟩⟩ := X
  intro hG H locs ls hP hS hl
  obtain ⟨hx, hb, hml, hown, hts, hK, hZ, hD, hA, hfr, hlo, hce, hsl⟩ := id hG
  exact lv_isub hx hb hd (k hG H locs ls hP hS hl)
theorem jx_imul {x y : Int32} (hd : decode I.2.1 pc = .ok (.imul, 1))  (k : j_W d I X (pc + 1) L (.int (x * y) :: st) M) : j_W d I X pc L (.int y :: .int x :: st) M := by
  obtain ⟨⟨p, l, e, R, s⟩, ⟨m, args, below, meth, c⟩, ⟨w, A, cells, slots, Q⟩⟩ := X
  intro hG H locs ls hP hS hl
  obtain ⟨hx, hb, hml, hown, hts, hK, hZ, hD, hA, hfr, hlo, hce, hsl⟩ := id hG
  exact lv_imul hx hb hd (k hG H locs ls hP hS hl)
theorem jx_iand {x y : Int32} (hd : decode I.2.1 pc = .ok (.iand, 1))  (k : j_W d I X (pc + 1) L (.int (x &&& y) :: st) M) : j_W d I X pc L (.int y :: .int x :: st) M := by
  obtain ⟨⟨p, l, e, R, s⟩, ⟨m, args, below, meth, c⟩, ⟨w, A, cells, slots, Q⟩⟩ := X
  intro hG H locs ls hP hS hl
  obtain ⟨hx, hb, hml, hown, hts, hK, hZ, hD, hA, hfr, hlo, hce, hsl⟩ := id hG
  exact lv_iand hx hb hd (k hG H locs ls hP hS hl)
theorem jx_ior {x y : Int32} (hd : decode I.2.1 pc = .ok (.ior, 1))  (k : j_W d I X (pc + 1) L (.int (x ||| y) :: st) M) : j_W d I X pc L (.int y :: .int x :: st) M := by
  obtain ⟨⟨p, l, e, R, s⟩, ⟨m, args, below, meth, c⟩, ⟨w, A, cells, slots, Q⟩⟩ := X
  intro hG H locs ls hP hS hl
  obtain ⟨hx, hb, hml, hown, hts, hK, hZ, hD, hA, hfr, hlo, hce, hsl⟩ := id hG
  exact lv_ior hx hb hd (k hG H locs ls hP hS hl)
theorem jx_ixor {x y : Int32} (hd : decode I.2.1 pc = .ok (.ixor, 1))  (k : j_W d I X (pc + 1) L (.int (x ^^^ y) :: st) M) : j_W d I X pc L (.int y :: .int x :: st) M := by
  obtain ⟨⟨p, l, e, R, s⟩, ⟨m, args, below, meth, c⟩, ⟨w, A, cells, slots, Q⟩⟩ := X
  intro hG H locs ls hP hS hl
  obtain ⟨hx, hb, hml, hown, hts, hK, hZ, hD, hA, hfr, hlo, hce, hsl⟩ := id hG
  exact lv_ixor hx hb hd (k hG H locs ls hP hS hl)
theorem jx_idiv {x y : Int32} (hd : decode I.2.1 pc = .ok (.idiv, 1)) (hne : ¬ y = 0) (k : j_W d I X (pc + 1) L (.int (x / y) :: st) M) : j_W d I X pc L (.int y :: .int x :: st) M := by
  obtain ⟨⟨p, l, e, R, s⟩, ⟨m, args, below, meth, c⟩, ⟨w, A, cells, slots, Q⟩⟩ := X
  intro hG H locs ls hP hS hl
  obtain ⟨hx, hb, hml, hown, hts, hK, hZ, hD, hA, hfr, hlo, hce, hsl⟩ := id hG
  exact lv_idiv hx hb hd hne (k hG H locs ls hP hS hl)
theorem jx_irem {x y : Int32} (hd : decode I.2.1 pc = .ok (.irem, 1)) (hne : ¬ y = 0) (k : j_W d I X (pc + 1) L (.int (x - x / y * y) :: st) M) : j_W d I X pc L (.int y :: .int x :: st) M := by
  obtain ⟨⟨p, l, e, R, s⟩, ⟨m, args, below, meth, c⟩, ⟨w, A, cells, slots, Q⟩⟩ := X
  intro hG H locs ls hP hS hl
  obtain ⟨hx, hb, hml, hown, hts, hK, hZ, hD, hA, hfr, hlo, hce, hsl⟩ := id hG
  exact lv_irem hx hb hd hne (k hG H locs ls hP hS hl)
theorem jx_ineg {x : Int32} (hd : decode I.2.1 pc = .ok (.ineg, 1))  (k : j_W d I X (pc + 1) L (.int (-x) :: st) M) : j_W d I X pc L (.int x :: st) M := by
  obtain ⟨⟨p, l, e, R, s⟩, ⟨m, args, below, meth, c⟩, ⟨w, A, cells, slots, Q⟩⟩ := X
  intro hG H locs ls hP hS hl
  obtain ⟨hx, hb, hml, hown, hts, hK, hZ, hD, hA, hfr, hlo, hce, hsl⟩ := id hG
  exact lv_ineg hx hb hd (k hG H locs ls hP hS hl)
theorem jx_ishl {x y : Int32} (hd : decode I.2.1 pc = .ok (.ishl, 1))  (k : j_W d I X (pc + 1) L (.int (x <<< (y &&& 31)) :: st) M) : j_W d I X pc L (.int y :: .int x :: st) M := by
  obtain ⟨⟨p, l, e, R, s⟩, ⟨m, args, below, meth, c⟩, ⟨w, A, cells, slots, Q⟩⟩ := X
  intro hG H locs ls hP hS hl
  obtain ⟨hx, hb, hml, hown, hts, hK, hZ, hD, hA, hfr, hlo, hce, hsl⟩ := id hG
  exact lv_ishl hx hb hd (k hG H locs ls hP hS hl)
theorem jx_ishr {x y : Int32} (hd : decode I.2.1 pc = .ok (.ishr, 1))  (k : j_W d I X (pc + 1) L (.int (x >>> (y &&& 31)) :: st) M) : j_W d I X pc L (.int y :: .int x :: st) M := by
  obtain ⟨⟨p, l, e, R, s⟩, ⟨m, args, below, meth, c⟩, ⟨w, A, cells, slots, Q⟩⟩ := X
  intro hG H locs ls hP hS hl
  obtain ⟨hx, hb, hml, hown, hts, hK, hZ, hD, hA, hfr, hlo, hce, hsl⟩ := id hG
  exact lv_ishr hx hb hd (k hG H locs ls hP hS hl)
theorem jx_iushr {x y : Int32} (hd : decode I.2.1 pc = .ok (.iushr, 1))  (k : j_W d I X (pc + 1) L (.int ((x.toUInt32 >>> (y.toUInt32 &&& Int32.toUInt32 31)).toInt32) :: st) M) : j_W d I X pc L (.int y :: .int x :: st) M := by
  obtain ⟨⟨p, l, e, R, s⟩, ⟨m, args, below, meth, c⟩, ⟨w, A, cells, slots, Q⟩⟩ := X
  intro hG H locs ls hP hS hl
  obtain ⟨hx, hb, hml, hown, hts, hK, hZ, hD, hA, hfr, hlo, hce, hsl⟩ := id hG
  exact lv_iushr hx hb hd rfl (k hG H locs ls hP hS hl)
theorem jx_ladd {x y : Int64} (hd : decode I.2.1 pc = .ok (.ladd, 1))  (k : j_W d I X (pc + 1) L (.long (x + y) :: st) M) : j_W d I X pc L (.long y :: .long x :: st) M := by
  obtain ⟨⟨p, l, e, R, s⟩, ⟨m, args, below, meth, c⟩, ⟨w, A, cells, slots, Q⟩⟩ := X
  intro hG H locs ls hP hS hl
  obtain ⟨hx, hb, hml, hown, hts, hK, hZ, hD, hA, hfr, hlo, hce, hsl⟩ := id hG
  exact lv_ladd hx hb hd (k hG H locs ls hP hS hl)
theorem jx_lsub {x y : Int64} (hd : decode I.2.1 pc = .ok (.lsub, 1))  (k : j_W d I X (pc + 1) L (.long (x - y) :: st) M) : j_W d I X pc L (.long y :: .long x :: st) M := by
  obtain ⟨⟨p, l, e, R, s⟩, ⟨m, args, below, meth, c⟩, ⟨w, A, cells, slots, Q⟩⟩ := X
  intro hG H locs ls hP hS hl
  obtain ⟨hx, hb, hml, hown, hts, hK, hZ, hD, hA, hfr, hlo, hce, hsl⟩ := id hG
  exact lv_lsub hx hb hd (k hG H locs ls hP hS hl)
theorem jx_lmul {x y : Int64} (hd : decode I.2.1 pc = .ok (.lmul, 1))  (k : j_W d I X (pc + 1) L (.long (x * y) :: st) M) : j_W d I X pc L (.long y :: .long x :: st) M := by
  obtain ⟨⟨p, l, e, R, s⟩, ⟨m, args, below, meth, c⟩, ⟨w, A, cells, slots, Q⟩⟩ := X
  intro hG H locs ls hP hS hl
  obtain ⟨hx, hb, hml, hown, hts, hK, hZ, hD, hA, hfr, hlo, hce, hsl⟩ := id hG
  exact lv_lmul hx hb hd (k hG H locs ls hP hS hl)
theorem jx_ldiv {x y : Int64} (hd : decode I.2.1 pc = .ok (.ldiv, 1)) (hne : ¬ y = 0) (k : j_W d I X (pc + 1) L (.long (x / y) :: st) M) : j_W d I X pc L (.long y :: .long x :: st) M := by
  obtain ⟨⟨p, l, e, R, s⟩, ⟨m, args, below, meth, c⟩, ⟨w, A, cells, slots, Q⟩⟩ := X
  intro hG H locs ls hP hS hl
  obtain ⟨hx, hb, hml, hown, hts, hK, hZ, hD, hA, hfr, hlo, hce, hsl⟩ := id hG
  exact lv_ldiv hx hb hd hne (k hG H locs ls hP hS hl)
theorem jx_lrem {x y : Int64} (hd : decode I.2.1 pc = .ok (.lrem, 1)) (hne : ¬ y = 0) (k : j_W d I X (pc + 1) L (.long (x - x / y * y) :: st) M) : j_W d I X pc L (.long y :: .long x :: st) M := by
  obtain ⟨⟨p, l, e, R, s⟩, ⟨m, args, below, meth, c⟩, ⟨w, A, cells, slots, Q⟩⟩ := X
  intro hG H locs ls hP hS hl
  obtain ⟨hx, hb, hml, hown, hts, hK, hZ, hD, hA, hfr, hlo, hce, hsl⟩ := id hG
  exact lv_lrem hx hb hd hne (k hG H locs ls hP hS hl)
theorem jx_lshl {x : Int64} {y : Int32} (hd : decode I.2.1 pc = .ok (.lshl, 1))  (k : j_W d I X (pc + 1) L (.long (x <<< (y.toInt64 &&& 63)) :: st) M) : j_W d I X pc L (.int y :: .long x :: st) M := by
  obtain ⟨⟨p, l, e, R, s⟩, ⟨m, args, below, meth, c⟩, ⟨w, A, cells, slots, Q⟩⟩ := X
  intro hG H locs ls hP hS hl
  obtain ⟨hx, hb, hml, hown, hts, hK, hZ, hD, hA, hfr, hlo, hce, hsl⟩ := id hG
  exact lv_lshl hx hb hd rfl (k hG H locs ls hP hS hl)
theorem jx_i2l {x : Int32} (hd : decode I.2.1 pc = .ok (.i2l, 1))  (k : j_W d I X (pc + 1) L (.long x.toInt64 :: st) M) : j_W d I X pc L (.int x :: st) M := by
  obtain ⟨⟨p, l, e, R, s⟩, ⟨m, args, below, meth, c⟩, ⟨w, A, cells, slots, Q⟩⟩ := X
  intro hG H locs ls hP hS hl
  obtain ⟨hx, hb, hml, hown, hts, hK, hZ, hD, hA, hfr, hlo, hce, hsl⟩ := id hG
  exact lv_i2l hx hb hd rfl (k hG H locs ls hP hS hl)
theorem jx_l2i {x : Int64} (hd : decode I.2.1 pc = .ok (.l2i, 1))  (k : j_W d I X (pc + 1) L (.int x.toInt32 :: st) M) : j_W d I X pc L (.long x :: st) M := by
  obtain ⟨⟨p, l, e, R, s⟩, ⟨m, args, below, meth, c⟩, ⟨w, A, cells, slots, Q⟩⟩ := X
  intro hG H locs ls hP hS hl
  obtain ⟨hx, hb, hml, hown, hts, hK, hZ, hD, hA, hfr, hlo, hce, hsl⟩ := id hG
  exact lv_l2i hx hb hd rfl (k hG H locs ls hP hS hl)
theorem jx_i2b {x : Int32} (hd : decode I.2.1 pc = .ok (.i2b, 1))  (k : j_W d I X (pc + 1) L (.int x.toInt8.toInt32 :: st) M) : j_W d I X pc L (.int x :: st) M := by
  obtain ⟨⟨p, l, e, R, s⟩, ⟨m, args, below, meth, c⟩, ⟨w, A, cells, slots, Q⟩⟩ := X
  intro hG H locs ls hP hS hl
  obtain ⟨hx, hb, hml, hown, hts, hK, hZ, hD, hA, hfr, hlo, hce, hsl⟩ := id hG
  exact lv_i2b hx hb hd rfl (k hG H locs ls hP hS hl)
theorem jx_i2s {x : Int32} (hd : decode I.2.1 pc = .ok (.i2s, 1))  (k : j_W d I X (pc + 1) L (.int x.toInt16.toInt32 :: st) M) : j_W d I X pc L (.int x :: st) M := by
  obtain ⟨⟨p, l, e, R, s⟩, ⟨m, args, below, meth, c⟩, ⟨w, A, cells, slots, Q⟩⟩ := X
  intro hG H locs ls hP hS hl
  obtain ⟨hx, hb, hml, hown, hts, hK, hZ, hD, hA, hfr, hlo, hce, hsl⟩ := id hG
  exact lv_i2s hx hb hd rfl (k hG H locs ls hP hS hl)
theorem jx_iconst {n : Int} {v : Int32} (hd : decode I.2.1 pc = .ok (.iconst n, 1)) (hv : Int32.ofInt n = v) (k : j_W d I X (pc + 1) L (.int v :: st) M) : j_W d I X pc L st M := by
  obtain ⟨⟨p, l, e, R, s⟩, ⟨m, args, below, meth, c⟩, ⟨w, A, cells, slots, Q⟩⟩ := X
  intro hG H locs ls hP hS hl
  obtain ⟨hx, hb, hml, hown, hts, hK, hZ, hD, hA, hfr, hlo, hce, hsl⟩ := id hG
  exact lv_iconst hx hb hd hv (k hG H locs ls hP hS hl)
theorem jx_bipush {n : Int} {v : Int32} (hd : decode I.2.1 pc = .ok (.bipush n, 2)) (hv : (Int8.ofInt n).toInt32 = v) (k : j_W d I X (pc + 2) L (.int v :: st) M) : j_W d I X pc L st M := by
  obtain ⟨⟨p, l, e, R, s⟩, ⟨m, args, below, meth, c⟩, ⟨w, A, cells, slots, Q⟩⟩ := X
  intro hG H locs ls hP hS hl
  obtain ⟨hx, hb, hml, hown, hts, hK, hZ, hD, hA, hfr, hlo, hce, hsl⟩ := id hG
  exact lv_bipush hx hb hd hv (k hG H locs ls hP hS hl)
theorem jx_sipush {n : Int} {v : Int32} (hd : decode I.2.1 pc = .ok (.sipush n, 3)) (hv : (Int16.ofInt n).toInt32 = v) (k : j_W d I X (pc + 3) L (.int v :: st) M) : j_W d I X pc L st M := by
  obtain ⟨⟨p, l, e, R, s⟩, ⟨m, args, below, meth, c⟩, ⟨w, A, cells, slots, Q⟩⟩ := X
  intro hG H locs ls hP hS hl
  obtain ⟨hx, hb, hml, hown, hts, hK, hZ, hD, hA, hfr, hlo, hce, hsl⟩ := id hG
  exact lv_sipush hx hb hd hv (k hG H locs ls hP hS hl)
theorem jx_lconst {n : Fin 2} {v : Int64} (hd : decode I.2.1 pc = .ok (.lconst n, 1)) (hv : Int64.ofNat (n : Nat) = v) (k : j_W d I X (pc + 1) L (.long v :: st) M) : j_W d I X pc L st M := by
  obtain ⟨⟨p, l, e, R, s⟩, ⟨m, args, below, meth, c⟩, ⟨w, A, cells, slots, Q⟩⟩ := X
  intro hG H locs ls hP hS hl
  obtain ⟨hx, hb, hml, hown, hts, hK, hZ, hD, hA, hfr, hlo, hce, hsl⟩ := id hG
  exact lv_lconst hx hb hd hv (k hG H locs ls hP hS hl)
theorem jx_lcmp {x y : Int64} (hd : decode I.2.1 pc = .ok (.lcmp, 1)) (k : j_W d I X (pc + 1) L (.int (lg_cmp x y) :: st) M) : j_W d I X pc L (.long y :: .long x :: st) M := by
  obtain ⟨⟨p, l, e, R, s⟩, ⟨m, args, below, meth, c⟩, ⟨w, A, cells, slots, Q⟩⟩ := X
  intro hG H locs ls hP hS hl
  obtain ⟨hx, hb, hml, hown, hts, hK, hZ, hD, hA, hfr, hlo, hce, hsl⟩ := id hG
  exact W.lcmp hx hb hd (k hG H locs ls hP hS hl)
theorem jx_dupi {x : Int32} (hd : decode I.2.1 pc = .ok (.dup, 1)) (k : j_W d I X (pc + 1) L (.int x :: .int x :: st) M) : j_W d I X pc L (.int x :: st) M := by
  obtain ⟨⟨p, l, e, R, s⟩, ⟨m, args, below, meth, c⟩, ⟨w, A, cells, slots, Q⟩⟩ := X
  intro hG H locs ls hP hS hl
  obtain ⟨hx, hb, hml, hown, hts, hK, hZ, hD, hA, hfr, hlo, hce, hsl⟩ := id hG
  exact lv_dup hx hb hd rfl (k hG H locs ls hP hS hl)
theorem jx_dupr {x : Nat} (hd : decode I.2.1 pc = .ok (.dup, 1)) (k : j_W d I X (pc + 1) L (.ref x :: .ref x :: st) M) : j_W d I X pc L (.ref x :: st) M := by
  obtain ⟨⟨p, l, e, R, s⟩, ⟨m, args, below, meth, c⟩, ⟨w, A, cells, slots, Q⟩⟩ := X
  intro hG H locs ls hP hS hl
  obtain ⟨hx, hb, hml, hown, hts, hK, hZ, hD, hA, hfr, hlo, hce, hsl⟩ := id hG
  exact lv_dup hx hb hd rfl (k hG H locs ls hP hS hl)
theorem jx_popi {x : Int32} (hd : decode I.2.1 pc = .ok (.pop, 1)) (k : j_W d I X (pc + 1) L st M) : j_W d I X pc L (.int x :: st) M := by
  obtain ⟨⟨p, l, e, R, s⟩, ⟨m, args, below, meth, c⟩, ⟨w, A, cells, slots, Q⟩⟩ := X
  intro hG H locs ls hP hS hl
  obtain ⟨hx, hb, hml, hown, hts, hK, hZ, hD, hA, hfr, hlo, hce, hsl⟩ := id hG
  exact lv_pop hx hb hd rfl (k hG H locs ls hP hS hl)
theorem jx_dup2ri {x : Nat} {i : Int32} (hd : decode I.2.1 pc = .ok (.dup2, 1)) (k : j_W d I X (pc + 1) L (.int i :: .ref x :: .int i :: .ref x :: st) M) : j_W d I X pc L (.int i :: .ref x :: st) M := by
  obtain ⟨⟨p, l, e, R, s⟩, ⟨m, args, below, meth, c⟩, ⟨w, A, cells, slots, Q⟩⟩ := X
  intro hG H locs ls hP hS hl
  obtain ⟨hx, hb, hml, hown, hts, hK, hZ, hD, hA, hfr, hlo, hce, hsl⟩ := id hG
  exact lv_dup2_11 hx hb hd rfl rfl (k hG H locs ls hP hS hl)
theorem jx_ldc {index : Nat} {v : Int32} (hd : decode I.2.1 pc = .ok (.ldc index, 2)) (hc : Cond.constant I.1.cls index v ∈ j_tbl) (k : j_W d I X (pc + 2) L (.int v :: st) M) : j_W d I X pc L st M := by
  obtain ⟨⟨p, l, e, R, s⟩, ⟨m, args, below, meth, c⟩, ⟨w, A, cells, slots, Q⟩⟩ := X
  intro hG H locs ls hP hS hl
  obtain ⟨hx, hb, hml, hown, hts, hK, hZ, hD, hA, hfr, hlo, hce, hsl⟩ := id hG
  exact lv_ldc hx hb hown (hts _ hc) hd (k hG H locs ls hP hS hl)
theorem jx_ldcw {index : Nat} {v : Int32} (hd : decode I.2.1 pc = .ok (.ldc_w index, 3)) (hc : Cond.constant I.1.cls index v ∈ j_tbl) (k : j_W d I X (pc + 3) L (.int v :: st) M) : j_W d I X pc L st M := by
  obtain ⟨⟨p, l, e, R, s⟩, ⟨m, args, below, meth, c⟩, ⟨w, A, cells, slots, Q⟩⟩ := X
  intro hG H locs ls hP hS hl
  obtain ⟨hx, hb, hml, hown, hts, hK, hZ, hD, hA, hfr, hlo, hce, hsl⟩ := id hG
  exact lv_ldcw hx hb hown (hts _ hc) hd (k hG H locs ls hP hS hl)
theorem jx_ldc2 {index : Nat} {v : Int64} (hd : decode I.2.1 pc = .ok (.ldc2_w index, 3)) (hc : Cond.constantLong I.1.cls index v ∈ j_tbl) (k : j_W d I X (pc + 3) L (.long v :: st) M) : j_W d I X pc L st M := by
  obtain ⟨⟨p, l, e, R, s⟩, ⟨m, args, below, meth, c⟩, ⟨w, A, cells, slots, Q⟩⟩ := X
  intro hG H locs ls hP hS hl
  obtain ⟨hx, hb, hml, hown, hts, hK, hZ, hD, hA, hfr, hlo, hce, hsl⟩ := id hG
  exact lv_ldc2 hx hb hown (hts _ hc) hd (k hG H locs ls hP hS hl)
theorem jx_if_eq {x : Int32} {off : Int} (tgt : Nat) (hd : decode I.2.1 pc = .ok (.ifCond .eq off, 3)) (ht : (pc : Int) + off = (tgt : Int)) (kt : x = 0 → j_W d I X tgt L st M) (kf : ¬ x = 0 → j_W d I X (pc + 3) L st M) : j_W d I X pc L (.int x :: st) M := by
  obtain ⟨⟨p, l, e, R, s⟩, ⟨m, args, below, meth, c⟩, ⟨w, A, cells, slots, Q⟩⟩ := X
  intro hG H locs ls hP hS hl
  obtain ⟨hx, hb, hml, hown, hts, hK, hZ, hD, hA, hfr, hlo, hce, hsl⟩ := id hG
  exact lv_if_eq hx hb hd ht (fun h => kt h hG H locs ls hP hS hl) (fun h => kf h hG H locs ls hP hS hl)
theorem jx_if_ne {x : Int32} {off : Int} (tgt : Nat) (hd : decode I.2.1 pc = .ok (.ifCond .ne off, 3)) (ht : (pc : Int) + off = (tgt : Int)) (kt : ¬ x = 0 → j_W d I X tgt L st M) (kf : x = 0 → j_W d I X (pc + 3) L st M) : j_W d I X pc L (.int x :: st) M := by
  obtain ⟨⟨p, l, e, R, s⟩, ⟨m, args, below, meth, c⟩, ⟨w, A, cells, slots, Q⟩⟩ := X
  intro hG H locs ls hP hS hl
  obtain ⟨hx, hb, hml, hown, hts, hK, hZ, hD, hA, hfr, hlo, hce, hsl⟩ := id hG
  exact lv_if_ne hx hb hd ht (fun h => kt h hG H locs ls hP hS hl) (fun h => kf h hG H locs ls hP hS hl)
theorem jx_if_lt {x : Int32} {off : Int} (tgt : Nat) (hd : decode I.2.1 pc = .ok (.ifCond .lt off, 3)) (ht : (pc : Int) + off = (tgt : Int)) (kt : x < 0 → j_W d I X tgt L st M) (kf : ¬ x < 0 → j_W d I X (pc + 3) L st M) : j_W d I X pc L (.int x :: st) M := by
  obtain ⟨⟨p, l, e, R, s⟩, ⟨m, args, below, meth, c⟩, ⟨w, A, cells, slots, Q⟩⟩ := X
  intro hG H locs ls hP hS hl
  obtain ⟨hx, hb, hml, hown, hts, hK, hZ, hD, hA, hfr, hlo, hce, hsl⟩ := id hG
  exact lv_if_lt hx hb hd ht (fun h => kt h hG H locs ls hP hS hl) (fun h => kf h hG H locs ls hP hS hl)
theorem jx_if_ge {x : Int32} {off : Int} (tgt : Nat) (hd : decode I.2.1 pc = .ok (.ifCond .ge off, 3)) (ht : (pc : Int) + off = (tgt : Int)) (kt : 0 ≤ x → j_W d I X tgt L st M) (kf : ¬ 0 ≤ x → j_W d I X (pc + 3) L st M) : j_W d I X pc L (.int x :: st) M := by
  obtain ⟨⟨p, l, e, R, s⟩, ⟨m, args, below, meth, c⟩, ⟨w, A, cells, slots, Q⟩⟩ := X
  intro hG H locs ls hP hS hl
  obtain ⟨hx, hb, hml, hown, hts, hK, hZ, hD, hA, hfr, hlo, hce, hsl⟩ := id hG
  exact lv_if_ge hx hb hd ht (fun h => kt h hG H locs ls hP hS hl) (fun h => kf h hG H locs ls hP hS hl)
theorem jx_if_gt {x : Int32} {off : Int} (tgt : Nat) (hd : decode I.2.1 pc = .ok (.ifCond .gt off, 3)) (ht : (pc : Int) + off = (tgt : Int)) (kt : 0 < x → j_W d I X tgt L st M) (kf : ¬ 0 < x → j_W d I X (pc + 3) L st M) : j_W d I X pc L (.int x :: st) M := by
  obtain ⟨⟨p, l, e, R, s⟩, ⟨m, args, below, meth, c⟩, ⟨w, A, cells, slots, Q⟩⟩ := X
  intro hG H locs ls hP hS hl
  obtain ⟨hx, hb, hml, hown, hts, hK, hZ, hD, hA, hfr, hlo, hce, hsl⟩ := id hG
  exact lv_if_gt hx hb hd ht (fun h => kt h hG H locs ls hP hS hl) (fun h => kf h hG H locs ls hP hS hl)
theorem jx_if_le {x : Int32} {off : Int} (tgt : Nat) (hd : decode I.2.1 pc = .ok (.ifCond .le off, 3)) (ht : (pc : Int) + off = (tgt : Int)) (kt : x ≤ 0 → j_W d I X tgt L st M) (kf : ¬ x ≤ 0 → j_W d I X (pc + 3) L st M) : j_W d I X pc L (.int x :: st) M := by
  obtain ⟨⟨p, l, e, R, s⟩, ⟨m, args, below, meth, c⟩, ⟨w, A, cells, slots, Q⟩⟩ := X
  intro hG H locs ls hP hS hl
  obtain ⟨hx, hb, hml, hown, hts, hK, hZ, hD, hA, hfr, hlo, hce, hsl⟩ := id hG
  exact lv_if_le hx hb hd ht (fun h => kt h hG H locs ls hP hS hl) (fun h => kf h hG H locs ls hP hS hl)
theorem jx_icmp_eq {x y : Int32} {off : Int} (tgt : Nat) (hd : decode I.2.1 pc = .ok (.if_icmp .eq off, 3)) (ht : (pc : Int) + off = (tgt : Int)) (kt : x = y → j_W d I X tgt L st M) (kf : ¬ x = y → j_W d I X (pc + 3) L st M) : j_W d I X pc L (.int y :: .int x :: st) M := by
  obtain ⟨⟨p, l, e, R, s⟩, ⟨m, args, below, meth, c⟩, ⟨w, A, cells, slots, Q⟩⟩ := X
  intro hG H locs ls hP hS hl
  obtain ⟨hx, hb, hml, hown, hts, hK, hZ, hD, hA, hfr, hlo, hce, hsl⟩ := id hG
  exact lv_icmp_eq hx hb hd ht (fun h => kt h hG H locs ls hP hS hl) (fun h => kf h hG H locs ls hP hS hl)
theorem jx_icmp_ne {x y : Int32} {off : Int} (tgt : Nat) (hd : decode I.2.1 pc = .ok (.if_icmp .ne off, 3)) (ht : (pc : Int) + off = (tgt : Int)) (kt : ¬ x = y → j_W d I X tgt L st M) (kf : x = y → j_W d I X (pc + 3) L st M) : j_W d I X pc L (.int y :: .int x :: st) M := by
  obtain ⟨⟨p, l, e, R, s⟩, ⟨m, args, below, meth, c⟩, ⟨w, A, cells, slots, Q⟩⟩ := X
  intro hG H locs ls hP hS hl
  obtain ⟨hx, hb, hml, hown, hts, hK, hZ, hD, hA, hfr, hlo, hce, hsl⟩ := id hG
  exact lv_icmp_ne hx hb hd ht (fun h => kt h hG H locs ls hP hS hl) (fun h => kf h hG H locs ls hP hS hl)
theorem jx_icmp_lt {x y : Int32} {off : Int} (tgt : Nat) (hd : decode I.2.1 pc = .ok (.if_icmp .lt off, 3)) (ht : (pc : Int) + off = (tgt : Int)) (kt : x < y → j_W d I X tgt L st M) (kf : ¬ x < y → j_W d I X (pc + 3) L st M) : j_W d I X pc L (.int y :: .int x :: st) M := by
  obtain ⟨⟨p, l, e, R, s⟩, ⟨m, args, below, meth, c⟩, ⟨w, A, cells, slots, Q⟩⟩ := X
  intro hG H locs ls hP hS hl
  obtain ⟨hx, hb, hml, hown, hts, hK, hZ, hD, hA, hfr, hlo, hce, hsl⟩ := id hG
  exact lv_icmp_lt hx hb hd ht (fun h => kt h hG H locs ls hP hS hl) (fun h => kf h hG H locs ls hP hS hl)
theorem jx_icmp_ge {x y : Int32} {off : Int} (tgt : Nat) (hd : decode I.2.1 pc = .ok (.if_icmp .ge off, 3)) (ht : (pc : Int) + off = (tgt : Int)) (kt : y ≤ x → j_W d I X tgt L st M) (kf : ¬ y ≤ x → j_W d I X (pc + 3) L st M) : j_W d I X pc L (.int y :: .int x :: st) M := by
  obtain ⟨⟨p, l, e, R, s⟩, ⟨m, args, below, meth, c⟩, ⟨w, A, cells, slots, Q⟩⟩ := X
  intro hG H locs ls hP hS hl
  obtain ⟨hx, hb, hml, hown, hts, hK, hZ, hD, hA, hfr, hlo, hce, hsl⟩ := id hG
  exact lv_icmp_ge hx hb hd ht (fun h => kt h hG H locs ls hP hS hl) (fun h => kf h hG H locs ls hP hS hl)
theorem jx_icmp_gt {x y : Int32} {off : Int} (tgt : Nat) (hd : decode I.2.1 pc = .ok (.if_icmp .gt off, 3)) (ht : (pc : Int) + off = (tgt : Int)) (kt : y < x → j_W d I X tgt L st M) (kf : ¬ y < x → j_W d I X (pc + 3) L st M) : j_W d I X pc L (.int y :: .int x :: st) M := by
  obtain ⟨⟨p, l, e, R, s⟩, ⟨m, args, below, meth, c⟩, ⟨w, A, cells, slots, Q⟩⟩ := X
  intro hG H locs ls hP hS hl
  obtain ⟨hx, hb, hml, hown, hts, hK, hZ, hD, hA, hfr, hlo, hce, hsl⟩ := id hG
  exact lv_icmp_gt hx hb hd ht (fun h => kt h hG H locs ls hP hS hl) (fun h => kf h hG H locs ls hP hS hl)
theorem jx_icmp_le {x y : Int32} {off : Int} (tgt : Nat) (hd : decode I.2.1 pc = .ok (.if_icmp .le off, 3)) (ht : (pc : Int) + off = (tgt : Int)) (kt : x ≤ y → j_W d I X tgt L st M) (kf : ¬ x ≤ y → j_W d I X (pc + 3) L st M) : j_W d I X pc L (.int y :: .int x :: st) M := by
  obtain ⟨⟨p, l, e, R, s⟩, ⟨m, args, below, meth, c⟩, ⟨w, A, cells, slots, Q⟩⟩ := X
  intro hG H locs ls hP hS hl
  obtain ⟨hx, hb, hml, hown, hts, hK, hZ, hD, hA, hfr, hlo, hce, hsl⟩ := id hG
  exact lv_icmp_le hx hb hd ht (fun h => kt h hG H locs ls hP hS hl) (fun h => kf h hG H locs ls hP hS hl)
theorem jx_goto {off : Int} (tgt : Nat) (hd : decode I.2.1 pc = .ok (.goto off, 3)) (ht : (pc : Int) + off = (tgt : Int)) (k : j_W d I X tgt L st M) : j_W d I X pc L st M := by
  obtain ⟨⟨p, l, e, R, s⟩, ⟨m, args, below, meth, c⟩, ⟨w, A, cells, slots, Q⟩⟩ := X
  intro hG H locs ls hP hS hl
  obtain ⟨hx, hb, hml, hown, hts, hK, hZ, hD, hA, hfr, hlo, hce, hsl⟩ := id hG
  exact lv_goto hx hb hd ht (k hG H locs ls hP hS hl)
theorem jx_tableIn {dflt lo hi : Int} {offs : Array Int} {len : Nat} {x : Int32} {off : Int} (tgt : Nat) (hd : decode I.2.1 pc = .ok (.tableswitch dflt lo hi offs, len)) (h1 : ¬ x.toInt < lo) (h2 : ¬ hi < x.toInt) (ho : offs[(x.toInt - lo).toNat]? = some off) (ht : (pc : Int) + off = (tgt : Int)) (k : j_W d I X tgt L st M) : j_W d I X pc L (.int x :: st) M := by
  obtain ⟨⟨p, l, e, R, s⟩, ⟨m, args, below, meth, c⟩, ⟨w, A, cells, slots, Q⟩⟩ := X
  intro hG H locs ls hP hS hl
  obtain ⟨hx, hb, hml, hown, hts, hK, hZ, hD, hA, hfr, hlo, hce, hsl⟩ := id hG
  exact lv_tableIn hx hb hd h1 h2 ho ht (k hG H locs ls hP hS hl)
theorem jx_tableOut {dflt lo hi : Int} {offs : Array Int} {len : Nat} {x : Int32} (tgt : Nat) (hd : decode I.2.1 pc = .ok (.tableswitch dflt lo hi offs, len)) (h : x.toInt < lo ∨ hi < x.toInt) (ht : (pc : Int) + dflt = (tgt : Int)) (k : j_W d I X tgt L st M) : j_W d I X pc L (.int x :: st) M := by
  obtain ⟨⟨p, l, e, R, s⟩, ⟨m, args, below, meth, c⟩, ⟨w, A, cells, slots, Q⟩⟩ := X
  intro hG H locs ls hP hS hl
  obtain ⟨hx, hb, hml, hown, hts, hK, hZ, hD, hA, hfr, hlo, hce, hsl⟩ := id hG
  exact lv_tableOut hx hb hd h ht (k hG H locs ls hP hS hl)
theorem jx_lookup {dflt : Int} {ps : Array (Int × Int)} {len : Nat} {x : Int32} {off : Int} (tgt : Nat) (hd : decode I.2.1 pc = .ok (.lookupswitch dflt ps, len)) (hp : (ps.toList.zip (ps.toList.drop 1)).all (fun (a, next) => a.1 < next.1) = true) (ho : Op.lookupswitch.offset ps.toList dflt x.toInt = off) (ht : (pc : Int) + off = (tgt : Int)) (k : j_W d I X tgt L st M) : j_W d I X pc L (.int x :: st) M := by
  obtain ⟨⟨p, l, e, R, s⟩, ⟨m, args, below, meth, c⟩, ⟨w, A, cells, slots, Q⟩⟩ := X
  intro hG H locs ls hP hS hl
  obtain ⟨hx, hb, hml, hown, hts, hK, hZ, hD, hA, hfr, hlo, hce, hsl⟩ := id hG
  exact lv_lookup hx hb hd hp ho ht (k hG H locs ls hP hS hl)
theorem jx_iload_nG {i : Fin 4} {x : Int32} (hi : L[(i : Nat)]? = some (some (.int x))) (hd : decode I.2.1 pc = .ok (.iload_n i, 1)) (k : j_W d I X (pc + 1) L (.int x :: st) M) : j_W d I X pc L st M := by
  obtain ⟨⟨p, l, e, R, s⟩, ⟨m, args, below, meth, c⟩, ⟨w, A, cells, slots, Q⟩⟩ := X
  intro hG H locs ls hP hS hl
  obtain ⟨hx, hb, hml, hown, hts, hK, hZ, hD, hA, hfr, hlo, hce, hsl⟩ := id hG
  exact lv_iload_n hx hb hd rfl (j_lv_get hl hi) (k hG H locs ls hP hS hl)
theorem jx_iloadG {i : Nat} {x : Int32} (hi : L[i]? = some (some (.int x))) (hd : decode I.2.1 pc = .ok (.iload i, 2)) (k : j_W d I X (pc + 2) L (.int x :: st) M) : j_W d I X pc L st M := by
  obtain ⟨⟨p, l, e, R, s⟩, ⟨m, args, below, meth, c⟩, ⟨w, A, cells, slots, Q⟩⟩ := X
  intro hG H locs ls hP hS hl
  obtain ⟨hx, hb, hml, hown, hts, hK, hZ, hD, hA, hfr, hlo, hce, hsl⟩ := id hG
  exact lv_iload hx hb hd (j_lv_get hl hi) (k hG H locs ls hP hS hl)
theorem jx_istore_nG {i : Fin 4} {x : Int32} (hn : (i : Nat) < I.2.2.1) (hp : (i : Nat) = 0 ∨ j_c1 L[(i : Nat) - 1]? = true) (hd : decode I.2.1 pc = .ok (.istore_n i, 1)) (k : j_W d I X (pc + 1) (L.set (i : Nat) (some (.int x))) st M) : j_W d I X pc L (.int x :: st) M := by
  obtain ⟨⟨p, l, e, R, s⟩, ⟨m, args, below, meth, c⟩, ⟨w, A, cells, slots, Q⟩⟩ := X
  intro hG H locs ls hP hS hl
  obtain ⟨hx, hb, hml, hown, hts, hK, hZ, hD, hA, hfr, hlo, hce, hsl⟩ := id hG
  exact lv_istore_n hx hb hd rfl hl hn rfl (fun ls2 hl2 => k hG H locs ls2 hP hS (j_lv_set1 hp hl2))
theorem jx_istoreG {i : Nat} {x : Int32} (hn : i < I.2.2.1) (hp : i = 0 ∨ j_c1 L[i - 1]? = true) (hd : decode I.2.1 pc = .ok (.istore i, 2)) (k : j_W d I X (pc + 2) (L.set i (some (.int x))) st M) : j_W d I X pc L (.int x :: st) M := by
  obtain ⟨⟨p, l, e, R, s⟩, ⟨m, args, below, meth, c⟩, ⟨w, A, cells, slots, Q⟩⟩ := X
  intro hG H locs ls hP hS hl
  obtain ⟨hx, hb, hml, hown, hts, hK, hZ, hD, hA, hfr, hlo, hce, hsl⟩ := id hG
  exact lv_istore hx hb hd hl hn rfl (fun ls2 hl2 => k hG H locs ls2 hP hS (j_lv_set1 hp hl2))
theorem jx_lload_nG {i : Fin 4} {x : Int64} (hi : L[(i : Nat)]? = some (some (.long x))) (hd : decode I.2.1 pc = .ok (.lload_n i, 1)) (k : j_W d I X (pc + 1) L (.long x :: st) M) : j_W d I X pc L st M := by
  obtain ⟨⟨p, l, e, R, s⟩, ⟨m, args, below, meth, c⟩, ⟨w, A, cells, slots, Q⟩⟩ := X
  intro hG H locs ls hP hS hl
  obtain ⟨hx, hb, hml, hown, hts, hK, hZ, hD, hA, hfr, hlo, hce, hsl⟩ := id hG
  exact lv_lload_n hx hb hd rfl (j_lv_get hl hi) (k hG H locs ls hP hS hl)
theorem jx_lloadG {i : Nat} {x : Int64} (hi : L[i]? = some (some (.long x))) (hd : decode I.2.1 pc = .ok (.lload i, 2)) (k : j_W d I X (pc + 2) L (.long x :: st) M) : j_W d I X pc L st M := by
  obtain ⟨⟨p, l, e, R, s⟩, ⟨m, args, below, meth, c⟩, ⟨w, A, cells, slots, Q⟩⟩ := X
  intro hG H locs ls hP hS hl
  obtain ⟨hx, hb, hml, hown, hts, hK, hZ, hD, hA, hfr, hlo, hce, hsl⟩ := id hG
  exact lv_lload hx hb hd (j_lv_get hl hi) (k hG H locs ls hP hS hl)
theorem jx_lstore_nG {i : Fin 4} {x : Int64} (hn : (i : Nat) + 1 < I.2.2.1) (hp : (i : Nat) = 0 ∨ j_c1 L[(i : Nat) - 1]? = true) (hd : decode I.2.1 pc = .ok (.lstore_n i, 1)) (k : j_W d I X (pc + 1) ((L.set (i : Nat) (some (.long x))).set ((i : Nat) + 1) none) st M) : j_W d I X pc L (.long x :: st) M := by
  obtain ⟨⟨p, l, e, R, s⟩, ⟨m, args, below, meth, c⟩, ⟨w, A, cells, slots, Q⟩⟩ := X
  intro hG H locs ls hP hS hl
  obtain ⟨hx, hb, hml, hown, hts, hK, hZ, hD, hA, hfr, hlo, hce, hsl⟩ := id hG
  exact lv_lstore_n hx hb hd rfl hl hn rfl (fun ls2 hl2 => k hG H locs ls2 hP hS (j_lv_set2 hp hl2))
theorem jx_lstoreG {i : Nat} {x : Int64} (hn : i + 1 < I.2.2.1) (hp : i = 0 ∨ j_c1 L[i - 1]? = true) (hd : decode I.2.1 pc = .ok (.lstore i, 2)) (k : j_W d I X (pc + 2) ((L.set i (some (.long x))).set (i + 1) none) st M) : j_W d I X pc L (.long x :: st) M := by
  obtain ⟨⟨p, l, e, R, s⟩, ⟨m, args, below, meth, c⟩, ⟨w, A, cells, slots, Q⟩⟩ := X
  intro hG H locs ls hP hS hl
  obtain ⟨hx, hb, hml, hown, hts, hK, hZ, hD, hA, hfr, hlo, hce, hsl⟩ := id hG
  exact lv_lstore hx hb hd hl hn rfl (fun ls2 hl2 => k hG H locs ls2 hP hS (j_lv_set2 hp hl2))
theorem jx_aload_nG {i : Fin 4} {x : Nat} (hi : L[(i : Nat)]? = some (some (.ref x))) (hd : decode I.2.1 pc = .ok (.aload_n i, 1)) (k : j_W d I X (pc + 1) L (.ref x :: st) M) : j_W d I X pc L st M := by
  obtain ⟨⟨p, l, e, R, s⟩, ⟨m, args, below, meth, c⟩, ⟨w, A, cells, slots, Q⟩⟩ := X
  intro hG H locs ls hP hS hl
  obtain ⟨hx, hb, hml, hown, hts, hK, hZ, hD, hA, hfr, hlo, hce, hsl⟩ := id hG
  exact lv_aload_n hx hb hd rfl (j_lv_get hl hi) (k hG H locs ls hP hS hl)
theorem jx_aloadG {i : Nat} {x : Nat} (hi : L[i]? = some (some (.ref x))) (hd : decode I.2.1 pc = .ok (.aload i, 2)) (k : j_W d I X (pc + 2) L (.ref x :: st) M) : j_W d I X pc L st M := by
  obtain ⟨⟨p, l, e, R, s⟩, ⟨m, args, below, meth, c⟩, ⟨w, A, cells, slots, Q⟩⟩ := X
  intro hG H locs ls hP hS hl
  obtain ⟨hx, hb, hml, hown, hts, hK, hZ, hD, hA, hfr, hlo, hce, hsl⟩ := id hG
  exact lv_aload hx hb hd (j_lv_get hl hi) (k hG H locs ls hP hS hl)
theorem jx_astore_nG {i : Fin 4} {x : Nat} (hn : (i : Nat) < I.2.2.1) (hp : (i : Nat) = 0 ∨ j_c1 L[(i : Nat) - 1]? = true) (hd : decode I.2.1 pc = .ok (.astore_n i, 1)) (k : j_W d I X (pc + 1) (L.set (i : Nat) (some (.ref x))) st M) : j_W d I X pc L (.ref x :: st) M := by
  obtain ⟨⟨p, l, e, R, s⟩, ⟨m, args, below, meth, c⟩, ⟨w, A, cells, slots, Q⟩⟩ := X
  intro hG H locs ls hP hS hl
  obtain ⟨hx, hb, hml, hown, hts, hK, hZ, hD, hA, hfr, hlo, hce, hsl⟩ := id hG
  exact lv_astore_n hx hb hd rfl hl hn rfl (fun ls2 hl2 => k hG H locs ls2 hP hS (j_lv_set1 hp hl2))
theorem jx_astoreG {i : Nat} {x : Nat} (hn : i < I.2.2.1) (hp : i = 0 ∨ j_c1 L[i - 1]? = true) (hd : decode I.2.1 pc = .ok (.astore i, 2)) (k : j_W d I X (pc + 2) (L.set i (some (.ref x))) st M) : j_W d I X pc L (.ref x :: st) M := by
  obtain ⟨⟨p, l, e, R, s⟩, ⟨m, args, below, meth, c⟩, ⟨w, A, cells, slots, Q⟩⟩ := X
  intro hG H locs ls hP hS hl
  obtain ⟨hx, hb, hml, hown, hts, hK, hZ, hD, hA, hfr, hlo, hce, hsl⟩ := id hG
  exact lv_astore hx hb hd hl hn rfl (fun ls2 hl2 => k hG H locs ls2 hP hS (j_lv_set1 hp hl2))
theorem j_lv_ix {w : j_w} {i : Nat} {v : Value} : ∀ (L : List (Option Value)) (k : Nat), L[i]? = some (some v) → ∃ n : Nat, (j_lv w k L)[n]? = some (k + i, j_e w v) := by
  intro L k h
  exact List.getElem?_of_mem ((j_lv_mem w L k _).mpr ⟨i, v, h, rfl⟩)
theorem jx_iincG {i : Nat} {n : Int} {x : Int32} (hi : L[i]? = some (some (.int x))) (hn : i < I.2.2.1) (hp : i = 0 ∨ j_c1 L[i - 1]? = true) (hd : decode I.2.1 pc = .ok (.iinc i n, 3)) (k : j_W d I X (pc + 3) (L.set i (some (.int (x + Int32.ofInt n)))) st M) : j_W d I X pc L st M := by
  obtain ⟨⟨p, l, e, R, s⟩, ⟨m, args, below, meth, c⟩, ⟨w, A, cells, slots, Q⟩⟩ := X
  intro hG H locs ls hP hS hl
  obtain ⟨hx, hb, hml, hown, hts, hK, hZ, hD, hA, hfr, hlo, hce, hsl⟩ := id hG
  obtain ⟨n0, hn0⟩ := j_lv_ix (w := w) L 0 hi
  rw [Nat.zero_add] at hn0
  exact lv_iinc hx hb hd hl hn0 rfl hn rfl (fun ls2 hl2 => k hG H locs ls2 hP hS (j_lv_set1 hp hl2))
theorem jx_iload0 {r : List (Option Value)} {x : Int32} (hd : decode I.2.1 pc = .ok (.iload_n 0, 1)) (k : j_W d I X (pc + 1) (some (.int x) :: r) (.int x :: st) M) : j_W d I X pc (some (.int x) :: r) st M := jx_iload_nG (i := 0) rfl hd k
theorem jx_istore0 {y : Option Value} {r : List (Option Value)} {x : Int32} (hd : decode I.2.1 pc = .ok (.istore_n 0, 1)) (hn : 0 < I.2.2.1) (k : j_W d I X (pc + 1) (some (.int x) :: r) st M) : j_W d I X pc (y :: r) (.int x :: st) M := jx_istore_nG (i := 0) hn (Or.inl rfl) hd k
theorem jx_lload0 {r : List (Option Value)} {x : Int64} (hd : decode I.2.1 pc = .ok (.lload_n 0, 1)) (k : j_W d I X (pc + 1) (some (.long x) :: r) (.long x :: st) M) : j_W d I X pc (some (.long x) :: r) st M := jx_lload_nG (i := 0) rfl hd k
theorem jx_lstore0 {y z : Option Value} {r : List (Option Value)} {x : Int64} (hd : decode I.2.1 pc = .ok (.lstore_n 0, 1)) (hn : 0 + 1 < I.2.2.1) (k : j_W d I X (pc + 1) (some (.long x) :: none :: r) st M) : j_W d I X pc (y :: z :: r) (.long x :: st) M := jx_lstore_nG (i := 0) hn (Or.inl rfl) hd k
theorem jx_aload0 {r : List (Option Value)} {x : Nat} (hd : decode I.2.1 pc = .ok (.aload_n 0, 1)) (k : j_W d I X (pc + 1) (some (.ref x) :: r) (.ref x :: st) M) : j_W d I X pc (some (.ref x) :: r) st M := jx_aload_nG (i := 0) rfl hd k
theorem jx_astore0 {y : Option Value} {r : List (Option Value)} {x : Nat} (hd : decode I.2.1 pc = .ok (.astore_n 0, 1)) (hn : 0 < I.2.2.1) (k : j_W d I X (pc + 1) (some (.ref x) :: r) st M) : j_W d I X pc (y :: r) (.ref x :: st) M := jx_astore_nG (i := 0) hn (Or.inl rfl) hd k
theorem jx_iinc0 {r : List (Option Value)} {x : Int32} {n : Int} (hd : decode I.2.1 pc = .ok (.iinc 0 n, 3)) (hn : 0 < I.2.2.1) (k : j_W d I X (pc + 3) (some (.int (x + Int32.ofInt n)) :: r) st M) : j_W d I X pc (some (.int x) :: r) st M := jx_iincG (i := 0) rfl hn (Or.inl rfl) hd k
theorem jx_iload1 {x0 : Option Value} {r : List (Option Value)} {x : Int32} (hd : decode I.2.1 pc = .ok (.iload_n 1, 1)) (k : j_W d I X (pc + 1) (x0 :: some (.int x) :: r) (.int x :: st) M) : j_W d I X pc (x0 :: some (.int x) :: r) st M := jx_iload_nG (i := 1) rfl hd k
theorem jx_istore1 {x0 : Option Value} {y : Option Value} {r : List (Option Value)} {x : Int32} (hd : decode I.2.1 pc = .ok (.istore_n 1, 1)) (hp : j_c1 (some x0) = true) (hn : 1 < I.2.2.1) (k : j_W d I X (pc + 1) (x0 :: some (.int x) :: r) st M) : j_W d I X pc (x0 :: y :: r) (.int x :: st) M := jx_istore_nG (i := 1) hn (Or.inr hp) hd k
theorem jx_lload1 {x0 : Option Value} {r : List (Option Value)} {x : Int64} (hd : decode I.2.1 pc = .ok (.lload_n 1, 1)) (k : j_W d I X (pc + 1) (x0 :: some (.long x) :: r) (.long x :: st) M) : j_W d I X pc (x0 :: some (.long x) :: r) st M := jx_lload_nG (i := 1) rfl hd k
theorem jx_lstore1 {x0 : Option Value} {y z : Option Value} {r : List (Option Value)} {x : Int64} (hd : decode I.2.1 pc = .ok (.lstore_n 1, 1)) (hp : j_c1 (some x0) = true) (hn : 1 + 1 < I.2.2.1) (k : j_W d I X (pc + 1) (x0 :: some (.long x) :: none :: r) st M) : j_W d I X pc (x0 :: y :: z :: r) (.long x :: st) M := jx_lstore_nG (i := 1) hn (Or.inr hp) hd k
theorem jx_aload1 {x0 : Option Value} {r : List (Option Value)} {x : Nat} (hd : decode I.2.1 pc = .ok (.aload_n 1, 1)) (k : j_W d I X (pc + 1) (x0 :: some (.ref x) :: r) (.ref x :: st) M) : j_W d I X pc (x0 :: some (.ref x) :: r) st M := jx_aload_nG (i := 1) rfl hd k
theorem jx_astore1 {x0 : Option Value} {y : Option Value} {r : List (Option Value)} {x : Nat} (hd : decode I.2.1 pc = .ok (.astore_n 1, 1)) (hp : j_c1 (some x0) = true) (hn : 1 < I.2.2.1) (k : j_W d I X (pc + 1) (x0 :: some (.ref x) :: r) st M) : j_W d I X pc (x0 :: y :: r) (.ref x :: st) M := jx_astore_nG (i := 1) hn (Or.inr hp) hd k
theorem jx_iinc1 {x0 : Option Value} {r : List (Option Value)} {x : Int32} {n : Int} (hd : decode I.2.1 pc = .ok (.iinc 1 n, 3)) (hp : j_c1 (some x0) = true) (hn : 1 < I.2.2.1) (k : j_W d I X (pc + 3) (x0 :: some (.int (x + Int32.ofInt n)) :: r) st M) : j_W d I X pc (x0 :: some (.int x) :: r) st M := jx_iincG (i := 1) rfl hn (Or.inr hp) hd k
theorem jx_iload2 {x0 x1 : Option Value} {r : List (Option Value)} {x : Int32} (hd : decode I.2.1 pc = .ok (.iload_n 2, 1)) (k : j_W d I X (pc + 1) (x0 :: x1 :: some (.int x) :: r) (.int x :: st) M) : j_W d I X pc (x0 :: x1 :: some (.int x) :: r) st M := jx_iload_nG (i := 2) rfl hd k
theorem jx_istore2 {x0 x1 : Option Value} {y : Option Value} {r : List (Option Value)} {x : Int32} (hd : decode I.2.1 pc = .ok (.istore_n 2, 1)) (hp : j_c1 (some x1) = true) (hn : 2 < I.2.2.1) (k : j_W d I X (pc + 1) (x0 :: x1 :: some (.int x) :: r) st M) : j_W d I X pc (x0 :: x1 :: y :: r) (.int x :: st) M := jx_istore_nG (i := 2) hn (Or.inr hp) hd k
theorem jx_lload2 {x0 x1 : Option Value} {r : List (Option Value)} {x : Int64} (hd : decode I.2.1 pc = .ok (.lload_n 2, 1)) (k : j_W d I X (pc + 1) (x0 :: x1 :: some (.long x) :: r) (.long x :: st) M) : j_W d I X pc (x0 :: x1 :: some (.long x) :: r) st M := jx_lload_nG (i := 2) rfl hd k
theorem jx_lstore2 {x0 x1 : Option Value} {y z : Option Value} {r : List (Option Value)} {x : Int64} (hd : decode I.2.1 pc = .ok (.lstore_n 2, 1)) (hp : j_c1 (some x1) = true) (hn : 2 + 1 < I.2.2.1) (k : j_W d I X (pc + 1) (x0 :: x1 :: some (.long x) :: none :: r) st M) : j_W d I X pc (x0 :: x1 :: y :: z :: r) (.long x :: st) M := jx_lstore_nG (i := 2) hn (Or.inr hp) hd k
theorem jx_aload2 {x0 x1 : Option Value} {r : List (Option Value)} {x : Nat} (hd : decode I.2.1 pc = .ok (.aload_n 2, 1)) (k : j_W d I X (pc + 1) (x0 :: x1 :: some (.ref x) :: r) (.ref x :: st) M) : j_W d I X pc (x0 :: x1 :: some (.ref x) :: r) st M := jx_aload_nG (i := 2) rfl hd k
theorem jx_astore2 {x0 x1 : Option Value} {y : Option Value} {r : List (Option Value)} {x : Nat} (hd : decode I.2.1 pc = .ok (.astore_n 2, 1)) (hp : j_c1 (some x1) = true) (hn : 2 < I.2.2.1) (k : j_W d I X (pc + 1) (x0 :: x1 :: some (.ref x) :: r) st M) : j_W d I X pc (x0 :: x1 :: y :: r) (.ref x :: st) M := jx_astore_nG (i := 2) hn (Or.inr hp) hd k
theorem jx_iinc2 {x0 x1 : Option Value} {r : List (Option Value)} {x : Int32} {n : Int} (hd : decode I.2.1 pc = .ok (.iinc 2 n, 3)) (hp : j_c1 (some x1) = true) (hn : 2 < I.2.2.1) (k : j_W d I X (pc + 3) (x0 :: x1 :: some (.int (x + Int32.ofInt n)) :: r) st M) : j_W d I X pc (x0 :: x1 :: some (.int x) :: r) st M := jx_iincG (i := 2) rfl hn (Or.inr hp) hd k
theorem jx_iload3 {x0 x1 x2 : Option Value} {r : List (Option Value)} {x : Int32} (hd : decode I.2.1 pc = .ok (.iload_n 3, 1)) (k : j_W d I X (pc + 1) (x0 :: x1 :: x2 :: some (.int x) :: r) (.int x :: st) M) : j_W d I X pc (x0 :: x1 :: x2 :: some (.int x) :: r) st M := jx_iload_nG (i := 3) rfl hd k
theorem jx_istore3 {x0 x1 x2 : Option Value} {y : Option Value} {r : List (Option Value)} {x : Int32} (hd : decode I.2.1 pc = .ok (.istore_n 3, 1)) (hp : j_c1 (some x2) = true) (hn : 3 < I.2.2.1) (k : j_W d I X (pc + 1) (x0 :: x1 :: x2 :: some (.int x) :: r) st M) : j_W d I X pc (x0 :: x1 :: x2 :: y :: r) (.int x :: st) M := jx_istore_nG (i := 3) hn (Or.inr hp) hd k
theorem jx_lload3 {x0 x1 x2 : Option Value} {r : List (Option Value)} {x : Int64} (hd : decode I.2.1 pc = .ok (.lload_n 3, 1)) (k : j_W d I X (pc + 1) (x0 :: x1 :: x2 :: some (.long x) :: r) (.long x :: st) M) : j_W d I X pc (x0 :: x1 :: x2 :: some (.long x) :: r) st M := jx_lload_nG (i := 3) rfl hd k
theorem jx_lstore3 {x0 x1 x2 : Option Value} {y z : Option Value} {r : List (Option Value)} {x : Int64} (hd : decode I.2.1 pc = .ok (.lstore_n 3, 1)) (hp : j_c1 (some x2) = true) (hn : 3 + 1 < I.2.2.1) (k : j_W d I X (pc + 1) (x0 :: x1 :: x2 :: some (.long x) :: none :: r) st M) : j_W d I X pc (x0 :: x1 :: x2 :: y :: z :: r) (.long x :: st) M := jx_lstore_nG (i := 3) hn (Or.inr hp) hd k
theorem jx_aload3 {x0 x1 x2 : Option Value} {r : List (Option Value)} {x : Nat} (hd : decode I.2.1 pc = .ok (.aload_n 3, 1)) (k : j_W d I X (pc + 1) (x0 :: x1 :: x2 :: some (.ref x) :: r) (.ref x :: st) M) : j_W d I X pc (x0 :: x1 :: x2 :: some (.ref x) :: r) st M := jx_aload_nG (i := 3) rfl hd k
theorem jx_astore3 {x0 x1 x2 : Option Value} {y : Option Value} {r : List (Option Value)} {x : Nat} (hd : decode I.2.1 pc = .ok (.astore_n 3, 1)) (hp : j_c1 (some x2) = true) (hn : 3 < I.2.2.1) (k : j_W d I X (pc + 1) (x0 :: x1 :: x2 :: some (.ref x) :: r) st M) : j_W d I X pc (x0 :: x1 :: x2 :: y :: r) (.ref x :: st) M := jx_astore_nG (i := 3) hn (Or.inr hp) hd k
theorem jx_iinc3 {x0 x1 x2 : Option Value} {r : List (Option Value)} {x : Int32} {n : Int} (hd : decode I.2.1 pc = .ok (.iinc 3 n, 3)) (hp : j_c1 (some x2) = true) (hn : 3 < I.2.2.1) (k : j_W d I X (pc + 3) (x0 :: x1 :: x2 :: some (.int (x + Int32.ofInt n)) :: r) st M) : j_W d I X pc (x0 :: x1 :: x2 :: some (.int x) :: r) st M := jx_iincG (i := 3) rfl hn (Or.inr hp) hd k
theorem jx_iload4 {x0 x1 x2 x3 : Option Value} {r : List (Option Value)} {x : Int32} (hd : decode I.2.1 pc = .ok (.iload 4, 2)) (k : j_W d I X (pc + 2) (x0 :: x1 :: x2 :: x3 :: some (.int x) :: r) (.int x :: st) M) : j_W d I X pc (x0 :: x1 :: x2 :: x3 :: some (.int x) :: r) st M := jx_iloadG (i := 4) rfl hd k
theorem jx_istore4 {x0 x1 x2 x3 : Option Value} {y : Option Value} {r : List (Option Value)} {x : Int32} (hd : decode I.2.1 pc = .ok (.istore 4, 2)) (hp : j_c1 (some x3) = true) (hn : 4 < I.2.2.1) (k : j_W d I X (pc + 2) (x0 :: x1 :: x2 :: x3 :: some (.int x) :: r) st M) : j_W d I X pc (x0 :: x1 :: x2 :: x3 :: y :: r) (.int x :: st) M := jx_istoreG (i := 4) hn (Or.inr hp) hd k
theorem jx_lload4 {x0 x1 x2 x3 : Option Value} {r : List (Option Value)} {x : Int64} (hd : decode I.2.1 pc = .ok (.lload 4, 2)) (k : j_W d I X (pc + 2) (x0 :: x1 :: x2 :: x3 :: some (.long x) :: r) (.long x :: st) M) : j_W d I X pc (x0 :: x1 :: x2 :: x3 :: some (.long x) :: r) st M := jx_lloadG (i := 4) rfl hd k
theorem jx_lstore4 {x0 x1 x2 x3 : Option Value} {y z : Option Value} {r : List (Option Value)} {x : Int64} (hd : decode I.2.1 pc = .ok (.lstore 4, 2)) (hp : j_c1 (some x3) = true) (hn : 4 + 1 < I.2.2.1) (k : j_W d I X (pc + 2) (x0 :: x1 :: x2 :: x3 :: some (.long x) :: none :: r) st M) : j_W d I X pc (x0 :: x1 :: x2 :: x3 :: y :: z :: r) (.long x :: st) M := jx_lstoreG (i := 4) hn (Or.inr hp) hd k
theorem jx_aload4 {x0 x1 x2 x3 : Option Value} {r : List (Option Value)} {x : Nat} (hd : decode I.2.1 pc = .ok (.aload 4, 2)) (k : j_W d I X (pc + 2) (x0 :: x1 :: x2 :: x3 :: some (.ref x) :: r) (.ref x :: st) M) : j_W d I X pc (x0 :: x1 :: x2 :: x3 :: some (.ref x) :: r) st M := jx_aloadG (i := 4) rfl hd k
theorem jx_astore4 {x0 x1 x2 x3 : Option Value} {y : Option Value} {r : List (Option Value)} {x : Nat} (hd : decode I.2.1 pc = .ok (.astore 4, 2)) (hp : j_c1 (some x3) = true) (hn : 4 < I.2.2.1) (k : j_W d I X (pc + 2) (x0 :: x1 :: x2 :: x3 :: some (.ref x) :: r) st M) : j_W d I X pc (x0 :: x1 :: x2 :: x3 :: y :: r) (.ref x :: st) M := jx_astoreG (i := 4) hn (Or.inr hp) hd k
theorem jx_iinc4 {x0 x1 x2 x3 : Option Value} {r : List (Option Value)} {x : Int32} {n : Int} (hd : decode I.2.1 pc = .ok (.iinc 4 n, 3)) (hp : j_c1 (some x3) = true) (hn : 4 < I.2.2.1) (k : j_W d I X (pc + 3) (x0 :: x1 :: x2 :: x3 :: some (.int (x + Int32.ofInt n)) :: r) st M) : j_W d I X pc (x0 :: x1 :: x2 :: x3 :: some (.int x) :: r) st M := jx_iincG (i := 4) rfl hn (Or.inr hp) hd k
theorem jx_iload5 {x0 x1 x2 x3 x4 : Option Value} {r : List (Option Value)} {x : Int32} (hd : decode I.2.1 pc = .ok (.iload 5, 2)) (k : j_W d I X (pc + 2) (x0 :: x1 :: x2 :: x3 :: x4 :: some (.int x) :: r) (.int x :: st) M) : j_W d I X pc (x0 :: x1 :: x2 :: x3 :: x4 :: some (.int x) :: r) st M := jx_iloadG (i := 5) rfl hd k
theorem jx_istore5 {x0 x1 x2 x3 x4 : Option Value} {y : Option Value} {r : List (Option Value)} {x : Int32} (hd : decode I.2.1 pc = .ok (.istore 5, 2)) (hp : j_c1 (some x4) = true) (hn : 5 < I.2.2.1) (k : j_W d I X (pc + 2) (x0 :: x1 :: x2 :: x3 :: x4 :: some (.int x) :: r) st M) : j_W d I X pc (x0 :: x1 :: x2 :: x3 :: x4 :: y :: r) (.int x :: st) M := jx_istoreG (i := 5) hn (Or.inr hp) hd k
theorem jx_lload5 {x0 x1 x2 x3 x4 : Option Value} {r : List (Option Value)} {x : Int64} (hd : decode I.2.1 pc = .ok (.lload 5, 2)) (k : j_W d I X (pc + 2) (x0 :: x1 :: x2 :: x3 :: x4 :: some (.long x) :: r) (.long x :: st) M) : j_W d I X pc (x0 :: x1 :: x2 :: x3 :: x4 :: some (.long x) :: r) st M := jx_lloadG (i := 5) rfl hd k
theorem jx_lstore5 {x0 x1 x2 x3 x4 : Option Value} {y z : Option Value} {r : List (Option Value)} {x : Int64} (hd : decode I.2.1 pc = .ok (.lstore 5, 2)) (hp : j_c1 (some x4) = true) (hn : 5 + 1 < I.2.2.1) (k : j_W d I X (pc + 2) (x0 :: x1 :: x2 :: x3 :: x4 :: some (.long x) :: none :: r) st M) : j_W d I X pc (x0 :: x1 :: x2 :: x3 :: x4 :: y :: z :: r) (.long x :: st) M := jx_lstoreG (i := 5) hn (Or.inr hp) hd k
theorem jx_aload5 {x0 x1 x2 x3 x4 : Option Value} {r : List (Option Value)} {x : Nat} (hd : decode I.2.1 pc = .ok (.aload 5, 2)) (k : j_W d I X (pc + 2) (x0 :: x1 :: x2 :: x3 :: x4 :: some (.ref x) :: r) (.ref x :: st) M) : j_W d I X pc (x0 :: x1 :: x2 :: x3 :: x4 :: some (.ref x) :: r) st M := jx_aloadG (i := 5) rfl hd k
theorem jx_astore5 {x0 x1 x2 x3 x4 : Option Value} {y : Option Value} {r : List (Option Value)} {x : Nat} (hd : decode I.2.1 pc = .ok (.astore 5, 2)) (hp : j_c1 (some x4) = true) (hn : 5 < I.2.2.1) (k : j_W d I X (pc + 2) (x0 :: x1 :: x2 :: x3 :: x4 :: some (.ref x) :: r) st M) : j_W d I X pc (x0 :: x1 :: x2 :: x3 :: x4 :: y :: r) (.ref x :: st) M := jx_astoreG (i := 5) hn (Or.inr hp) hd k
theorem jx_iinc5 {x0 x1 x2 x3 x4 : Option Value} {r : List (Option Value)} {x : Int32} {n : Int} (hd : decode I.2.1 pc = .ok (.iinc 5 n, 3)) (hp : j_c1 (some x4) = true) (hn : 5 < I.2.2.1) (k : j_W d I X (pc + 3) (x0 :: x1 :: x2 :: x3 :: x4 :: some (.int (x + Int32.ofInt n)) :: r) st M) : j_W d I X pc (x0 :: x1 :: x2 :: x3 :: x4 :: some (.int x) :: r) st M := jx_iincG (i := 5) rfl hn (Or.inr hp) hd k
theorem jx_iload6 {x0 x1 x2 x3 x4 x5 : Option Value} {r : List (Option Value)} {x : Int32} (hd : decode I.2.1 pc = .ok (.iload 6, 2)) (k : j_W d I X (pc + 2) (x0 :: x1 :: x2 :: x3 :: x4 :: x5 :: some (.int x) :: r) (.int x :: st) M) : j_W d I X pc (x0 :: x1 :: x2 :: x3 :: x4 :: x5 :: some (.int x) :: r) st M := jx_iloadG (i := 6) rfl hd k
theorem jx_istore6 {x0 x1 x2 x3 x4 x5 : Option Value} {y : Option Value} {r : List (Option Value)} {x : Int32} (hd : decode I.2.1 pc = .ok (.istore 6, 2)) (hp : j_c1 (some x5) = true) (hn : 6 < I.2.2.1) (k : j_W d I X (pc + 2) (x0 :: x1 :: x2 :: x3 :: x4 :: x5 :: some (.int x) :: r) st M) : j_W d I X pc (x0 :: x1 :: x2 :: x3 :: x4 :: x5 :: y :: r) (.int x :: st) M := jx_istoreG (i := 6) hn (Or.inr hp) hd k
theorem jx_lload6 {x0 x1 x2 x3 x4 x5 : Option Value} {r : List (Option Value)} {x : Int64} (hd : decode I.2.1 pc = .ok (.lload 6, 2)) (k : j_W d I X (pc + 2) (x0 :: x1 :: x2 :: x3 :: x4 :: x5 :: some (.long x) :: r) (.long x :: st) M) : j_W d I X pc (x0 :: x1 :: x2 :: x3 :: x4 :: x5 :: some (.long x) :: r) st M := jx_lloadG (i := 6) rfl hd k
theorem jx_lstore6 {x0 x1 x2 x3 x4 x5 : Option Value} {y z : Option Value} {r : List (Option Value)} {x : Int64} (hd : decode I.2.1 pc = .ok (.lstore 6, 2)) (hp : j_c1 (some x5) = true) (hn : 6 + 1 < I.2.2.1) (k : j_W d I X (pc + 2) (x0 :: x1 :: x2 :: x3 :: x4 :: x5 :: some (.long x) :: none :: r) st M) : j_W d I X pc (x0 :: x1 :: x2 :: x3 :: x4 :: x5 :: y :: z :: r) (.long x :: st) M := jx_lstoreG (i := 6) hn (Or.inr hp) hd k
theorem jx_aload6 {x0 x1 x2 x3 x4 x5 : Option Value} {r : List (Option Value)} {x : Nat} (hd : decode I.2.1 pc = .ok (.aload 6, 2)) (k : j_W d I X (pc + 2) (x0 :: x1 :: x2 :: x3 :: x4 :: x5 :: some (.ref x) :: r) (.ref x :: st) M) : j_W d I X pc (x0 :: x1 :: x2 :: x3 :: x4 :: x5 :: some (.ref x) :: r) st M := jx_aloadG (i := 6) rfl hd k
theorem jx_astore6 {x0 x1 x2 x3 x4 x5 : Option Value} {y : Option Value} {r : List (Option Value)} {x : Nat} (hd : decode I.2.1 pc = .ok (.astore 6, 2)) (hp : j_c1 (some x5) = true) (hn : 6 < I.2.2.1) (k : j_W d I X (pc + 2) (x0 :: x1 :: x2 :: x3 :: x4 :: x5 :: some (.ref x) :: r) st M) : j_W d I X pc (x0 :: x1 :: x2 :: x3 :: x4 :: x5 :: y :: r) (.ref x :: st) M := jx_astoreG (i := 6) hn (Or.inr hp) hd k
theorem jx_iinc6 {x0 x1 x2 x3 x4 x5 : Option Value} {r : List (Option Value)} {x : Int32} {n : Int} (hd : decode I.2.1 pc = .ok (.iinc 6 n, 3)) (hp : j_c1 (some x5) = true) (hn : 6 < I.2.2.1) (k : j_W d I X (pc + 3) (x0 :: x1 :: x2 :: x3 :: x4 :: x5 :: some (.int (x + Int32.ofInt n)) :: r) st M) : j_W d I X pc (x0 :: x1 :: x2 :: x3 :: x4 :: x5 :: some (.int x) :: r) st M := jx_iincG (i := 6) rfl hn (Or.inr hp) hd k
theorem jx_iload7 {x0 x1 x2 x3 x4 x5 x6 : Option Value} {r : List (Option Value)} {x : Int32} (hd : decode I.2.1 pc = .ok (.iload 7, 2)) (k : j_W d I X (pc + 2) (x0 :: x1 :: x2 :: x3 :: x4 :: x5 :: x6 :: some (.int x) :: r) (.int x :: st) M) : j_W d I X pc (x0 :: x1 :: x2 :: x3 :: x4 :: x5 :: x6 :: some (.int x) :: r) st M := jx_iloadG (i := 7) rfl hd k
theorem jx_istore7 {x0 x1 x2 x3 x4 x5 x6 : Option Value} {y : Option Value} {r : List (Option Value)} {x : Int32} (hd : decode I.2.1 pc = .ok (.istore 7, 2)) (hp : j_c1 (some x6) = true) (hn : 7 < I.2.2.1) (k : j_W d I X (pc + 2) (x0 :: x1 :: x2 :: x3 :: x4 :: x5 :: x6 :: some (.int x) :: r) st M) : j_W d I X pc (x0 :: x1 :: x2 :: x3 :: x4 :: x5 :: x6 :: y :: r) (.int x :: st) M := jx_istoreG (i := 7) hn (Or.inr hp) hd k
theorem jx_lload7 {x0 x1 x2 x3 x4 x5 x6 : Option Value} {r : List (Option Value)} {x : Int64} (hd : decode I.2.1 pc = .ok (.lload 7, 2)) (k : j_W d I X (pc + 2) (x0 :: x1 :: x2 :: x3 :: x4 :: x5 :: x6 :: some (.long x) :: r) (.long x :: st) M) : j_W d I X pc (x0 :: x1 :: x2 :: x3 :: x4 :: x5 :: x6 :: some (.long x) :: r) st M := jx_lloadG (i := 7) rfl hd k
theorem jx_lstore7 {x0 x1 x2 x3 x4 x5 x6 : Option Value} {y z : Option Value} {r : List (Option Value)} {x : Int64} (hd : decode I.2.1 pc = .ok (.lstore 7, 2)) (hp : j_c1 (some x6) = true) (hn : 7 + 1 < I.2.2.1) (k : j_W d I X (pc + 2) (x0 :: x1 :: x2 :: x3 :: x4 :: x5 :: x6 :: some (.long x) :: none :: r) st M) : j_W d I X pc (x0 :: x1 :: x2 :: x3 :: x4 :: x5 :: x6 :: y :: z :: r) (.long x :: st) M := jx_lstoreG (i := 7) hn (Or.inr hp) hd k
theorem jx_aload7 {x0 x1 x2 x3 x4 x5 x6 : Option Value} {r : List (Option Value)} {x : Nat} (hd : decode I.2.1 pc = .ok (.aload 7, 2)) (k : j_W d I X (pc + 2) (x0 :: x1 :: x2 :: x3 :: x4 :: x5 :: x6 :: some (.ref x) :: r) (.ref x :: st) M) : j_W d I X pc (x0 :: x1 :: x2 :: x3 :: x4 :: x5 :: x6 :: some (.ref x) :: r) st M := jx_aloadG (i := 7) rfl hd k
theorem jx_astore7 {x0 x1 x2 x3 x4 x5 x6 : Option Value} {y : Option Value} {r : List (Option Value)} {x : Nat} (hd : decode I.2.1 pc = .ok (.astore 7, 2)) (hp : j_c1 (some x6) = true) (hn : 7 < I.2.2.1) (k : j_W d I X (pc + 2) (x0 :: x1 :: x2 :: x3 :: x4 :: x5 :: x6 :: some (.ref x) :: r) st M) : j_W d I X pc (x0 :: x1 :: x2 :: x3 :: x4 :: x5 :: x6 :: y :: r) (.ref x :: st) M := jx_astoreG (i := 7) hn (Or.inr hp) hd k
theorem jx_iinc7 {x0 x1 x2 x3 x4 x5 x6 : Option Value} {r : List (Option Value)} {x : Int32} {n : Int} (hd : decode I.2.1 pc = .ok (.iinc 7 n, 3)) (hp : j_c1 (some x6) = true) (hn : 7 < I.2.2.1) (k : j_W d I X (pc + 3) (x0 :: x1 :: x2 :: x3 :: x4 :: x5 :: x6 :: some (.int (x + Int32.ofInt n)) :: r) st M) : j_W d I X pc (x0 :: x1 :: x2 :: x3 :: x4 :: x5 :: x6 :: some (.int x) :: r) st M := jx_iincG (i := 7) rfl hn (Or.inr hp) hd k
theorem jx_iload8 {x0 x1 x2 x3 x4 x5 x6 x7 : Option Value} {r : List (Option Value)} {x : Int32} (hd : decode I.2.1 pc = .ok (.iload 8, 2)) (k : j_W d I X (pc + 2) (x0 :: x1 :: x2 :: x3 :: x4 :: x5 :: x6 :: x7 :: some (.int x) :: r) (.int x :: st) M) : j_W d I X pc (x0 :: x1 :: x2 :: x3 :: x4 :: x5 :: x6 :: x7 :: some (.int x) :: r) st M := jx_iloadG (i := 8) rfl hd k
theorem jx_istore8 {x0 x1 x2 x3 x4 x5 x6 x7 : Option Value} {y : Option Value} {r : List (Option Value)} {x : Int32} (hd : decode I.2.1 pc = .ok (.istore 8, 2)) (hp : j_c1 (some x7) = true) (hn : 8 < I.2.2.1) (k : j_W d I X (pc + 2) (x0 :: x1 :: x2 :: x3 :: x4 :: x5 :: x6 :: x7 :: some (.int x) :: r) st M) : j_W d I X pc (x0 :: x1 :: x2 :: x3 :: x4 :: x5 :: x6 :: x7 :: y :: r) (.int x :: st) M := jx_istoreG (i := 8) hn (Or.inr hp) hd k
theorem jx_lload8 {x0 x1 x2 x3 x4 x5 x6 x7 : Option Value} {r : List (Option Value)} {x : Int64} (hd : decode I.2.1 pc = .ok (.lload 8, 2)) (k : j_W d I X (pc + 2) (x0 :: x1 :: x2 :: x3 :: x4 :: x5 :: x6 :: x7 :: some (.long x) :: r) (.long x :: st) M) : j_W d I X pc (x0 :: x1 :: x2 :: x3 :: x4 :: x5 :: x6 :: x7 :: some (.long x) :: r) st M := jx_lloadG (i := 8) rfl hd k
theorem jx_lstore8 {x0 x1 x2 x3 x4 x5 x6 x7 : Option Value} {y z : Option Value} {r : List (Option Value)} {x : Int64} (hd : decode I.2.1 pc = .ok (.lstore 8, 2)) (hp : j_c1 (some x7) = true) (hn : 8 + 1 < I.2.2.1) (k : j_W d I X (pc + 2) (x0 :: x1 :: x2 :: x3 :: x4 :: x5 :: x6 :: x7 :: some (.long x) :: none :: r) st M) : j_W d I X pc (x0 :: x1 :: x2 :: x3 :: x4 :: x5 :: x6 :: x7 :: y :: z :: r) (.long x :: st) M := jx_lstoreG (i := 8) hn (Or.inr hp) hd k
theorem jx_aload8 {x0 x1 x2 x3 x4 x5 x6 x7 : Option Value} {r : List (Option Value)} {x : Nat} (hd : decode I.2.1 pc = .ok (.aload 8, 2)) (k : j_W d I X (pc + 2) (x0 :: x1 :: x2 :: x3 :: x4 :: x5 :: x6 :: x7 :: some (.ref x) :: r) (.ref x :: st) M) : j_W d I X pc (x0 :: x1 :: x2 :: x3 :: x4 :: x5 :: x6 :: x7 :: some (.ref x) :: r) st M := jx_aloadG (i := 8) rfl hd k
theorem jx_astore8 {x0 x1 x2 x3 x4 x5 x6 x7 : Option Value} {y : Option Value} {r : List (Option Value)} {x : Nat} (hd : decode I.2.1 pc = .ok (.astore 8, 2)) (hp : j_c1 (some x7) = true) (hn : 8 < I.2.2.1) (k : j_W d I X (pc + 2) (x0 :: x1 :: x2 :: x3 :: x4 :: x5 :: x6 :: x7 :: some (.ref x) :: r) st M) : j_W d I X pc (x0 :: x1 :: x2 :: x3 :: x4 :: x5 :: x6 :: x7 :: y :: r) (.ref x :: st) M := jx_astoreG (i := 8) hn (Or.inr hp) hd k
theorem jx_iinc8 {x0 x1 x2 x3 x4 x5 x6 x7 : Option Value} {r : List (Option Value)} {x : Int32} {n : Int} (hd : decode I.2.1 pc = .ok (.iinc 8 n, 3)) (hp : j_c1 (some x7) = true) (hn : 8 < I.2.2.1) (k : j_W d I X (pc + 3) (x0 :: x1 :: x2 :: x3 :: x4 :: x5 :: x6 :: x7 :: some (.int (x + Int32.ofInt n)) :: r) st M) : j_W d I X pc (x0 :: x1 :: x2 :: x3 :: x4 :: x5 :: x6 :: x7 :: some (.int x) :: r) st M := jx_iincG (i := 8) rfl hn (Or.inr hp) hd k
theorem jx_iload9 {x0 x1 x2 x3 x4 x5 x6 x7 x8 : Option Value} {r : List (Option Value)} {x : Int32} (hd : decode I.2.1 pc = .ok (.iload 9, 2)) (k : j_W d I X (pc + 2) (x0 :: x1 :: x2 :: x3 :: x4 :: x5 :: x6 :: x7 :: x8 :: some (.int x) :: r) (.int x :: st) M) : j_W d I X pc (x0 :: x1 :: x2 :: x3 :: x4 :: x5 :: x6 :: x7 :: x8 :: some (.int x) :: r) st M := jx_iloadG (i := 9) rfl hd k
theorem jx_istore9 {x0 x1 x2 x3 x4 x5 x6 x7 x8 : Option Value} {y : Option Value} {r : List (Option Value)} {x : Int32} (hd : decode I.2.1 pc = .ok (.istore 9, 2)) (hp : j_c1 (some x8) = true) (hn : 9 < I.2.2.1) (k : j_W d I X (pc + 2) (x0 :: x1 :: x2 :: x3 :: x4 :: x5 :: x6 :: x7 :: x8 :: some (.int x) :: r) st M) : j_W d I X pc (x0 :: x1 :: x2 :: x3 :: x4 :: x5 :: x6 :: x7 :: x8 :: y :: r) (.int x :: st) M := jx_istoreG (i := 9) hn (Or.inr hp) hd k
theorem jx_lload9 {x0 x1 x2 x3 x4 x5 x6 x7 x8 : Option Value} {r : List (Option Value)} {x : Int64} (hd : decode I.2.1 pc = .ok (.lload 9, 2)) (k : j_W d I X (pc + 2) (x0 :: x1 :: x2 :: x3 :: x4 :: x5 :: x6 :: x7 :: x8 :: some (.long x) :: r) (.long x :: st) M) : j_W d I X pc (x0 :: x1 :: x2 :: x3 :: x4 :: x5 :: x6 :: x7 :: x8 :: some (.long x) :: r) st M := jx_lloadG (i := 9) rfl hd k
theorem jx_lstore9 {x0 x1 x2 x3 x4 x5 x6 x7 x8 : Option Value} {y z : Option Value} {r : List (Option Value)} {x : Int64} (hd : decode I.2.1 pc = .ok (.lstore 9, 2)) (hp : j_c1 (some x8) = true) (hn : 9 + 1 < I.2.2.1) (k : j_W d I X (pc + 2) (x0 :: x1 :: x2 :: x3 :: x4 :: x5 :: x6 :: x7 :: x8 :: some (.long x) :: none :: r) st M) : j_W d I X pc (x0 :: x1 :: x2 :: x3 :: x4 :: x5 :: x6 :: x7 :: x8 :: y :: z :: r) (.long x :: st) M := jx_lstoreG (i := 9) hn (Or.inr hp) hd k
theorem jx_aload9 {x0 x1 x2 x3 x4 x5 x6 x7 x8 : Option Value} {r : List (Option Value)} {x : Nat} (hd : decode I.2.1 pc = .ok (.aload 9, 2)) (k : j_W d I X (pc + 2) (x0 :: x1 :: x2 :: x3 :: x4 :: x5 :: x6 :: x7 :: x8 :: some (.ref x) :: r) (.ref x :: st) M) : j_W d I X pc (x0 :: x1 :: x2 :: x3 :: x4 :: x5 :: x6 :: x7 :: x8 :: some (.ref x) :: r) st M := jx_aloadG (i := 9) rfl hd k
theorem jx_astore9 {x0 x1 x2 x3 x4 x5 x6 x7 x8 : Option Value} {y : Option Value} {r : List (Option Value)} {x : Nat} (hd : decode I.2.1 pc = .ok (.astore 9, 2)) (hp : j_c1 (some x8) = true) (hn : 9 < I.2.2.1) (k : j_W d I X (pc + 2) (x0 :: x1 :: x2 :: x3 :: x4 :: x5 :: x6 :: x7 :: x8 :: some (.ref x) :: r) st M) : j_W d I X pc (x0 :: x1 :: x2 :: x3 :: x4 :: x5 :: x6 :: x7 :: x8 :: y :: r) (.ref x :: st) M := jx_astoreG (i := 9) hn (Or.inr hp) hd k
theorem jx_iinc9 {x0 x1 x2 x3 x4 x5 x6 x7 x8 : Option Value} {r : List (Option Value)} {x : Int32} {n : Int} (hd : decode I.2.1 pc = .ok (.iinc 9 n, 3)) (hp : j_c1 (some x8) = true) (hn : 9 < I.2.2.1) (k : j_W d I X (pc + 3) (x0 :: x1 :: x2 :: x3 :: x4 :: x5 :: x6 :: x7 :: x8 :: some (.int (x + Int32.ofInt n)) :: r) st M) : j_W d I X pc (x0 :: x1 :: x2 :: x3 :: x4 :: x5 :: x6 :: x7 :: x8 :: some (.int x) :: r) st M := jx_iincG (i := 9) rfl hn (Or.inr hp) hd k
theorem jx_iload10 {x0 x1 x2 x3 x4 x5 x6 x7 x8 x9 : Option Value} {r : List (Option Value)} {x : Int32} (hd : decode I.2.1 pc = .ok (.iload 10, 2)) (k : j_W d I X (pc + 2) (x0 :: x1 :: x2 :: x3 :: x4 :: x5 :: x6 :: x7 :: x8 :: x9 :: some (.int x) :: r) (.int x :: st) M) : j_W d I X pc (x0 :: x1 :: x2 :: x3 :: x4 :: x5 :: x6 :: x7 :: x8 :: x9 :: some (.int x) :: r) st M := jx_iloadG (i := 10) rfl hd k
theorem jx_istore10 {x0 x1 x2 x3 x4 x5 x6 x7 x8 x9 : Option Value} {y : Option Value} {r : List (Option Value)} {x : Int32} (hd : decode I.2.1 pc = .ok (.istore 10, 2)) (hp : j_c1 (some x9) = true) (hn : 10 < I.2.2.1) (k : j_W d I X (pc + 2) (x0 :: x1 :: x2 :: x3 :: x4 :: x5 :: x6 :: x7 :: x8 :: x9 :: some (.int x) :: r) st M) : j_W d I X pc (x0 :: x1 :: x2 :: x3 :: x4 :: x5 :: x6 :: x7 :: x8 :: x9 :: y :: r) (.int x :: st) M := jx_istoreG (i := 10) hn (Or.inr hp) hd k
theorem jx_lload10 {x0 x1 x2 x3 x4 x5 x6 x7 x8 x9 : Option Value} {r : List (Option Value)} {x : Int64} (hd : decode I.2.1 pc = .ok (.lload 10, 2)) (k : j_W d I X (pc + 2) (x0 :: x1 :: x2 :: x3 :: x4 :: x5 :: x6 :: x7 :: x8 :: x9 :: some (.long x) :: r) (.long x :: st) M) : j_W d I X pc (x0 :: x1 :: x2 :: x3 :: x4 :: x5 :: x6 :: x7 :: x8 :: x9 :: some (.long x) :: r) st M := jx_lloadG (i := 10) rfl hd k
theorem jx_lstore10 {x0 x1 x2 x3 x4 x5 x6 x7 x8 x9 : Option Value} {y z : Option Value} {r : List (Option Value)} {x : Int64} (hd : decode I.2.1 pc = .ok (.lstore 10, 2)) (hp : j_c1 (some x9) = true) (hn : 10 + 1 < I.2.2.1) (k : j_W d I X (pc + 2) (x0 :: x1 :: x2 :: x3 :: x4 :: x5 :: x6 :: x7 :: x8 :: x9 :: some (.long x) :: none :: r) st M) : j_W d I X pc (x0 :: x1 :: x2 :: x3 :: x4 :: x5 :: x6 :: x7 :: x8 :: x9 :: y :: z :: r) (.long x :: st) M := jx_lstoreG (i := 10) hn (Or.inr hp) hd k
theorem jx_aload10 {x0 x1 x2 x3 x4 x5 x6 x7 x8 x9 : Option Value} {r : List (Option Value)} {x : Nat} (hd : decode I.2.1 pc = .ok (.aload 10, 2)) (k : j_W d I X (pc + 2) (x0 :: x1 :: x2 :: x3 :: x4 :: x5 :: x6 :: x7 :: x8 :: x9 :: some (.ref x) :: r) (.ref x :: st) M) : j_W d I X pc (x0 :: x1 :: x2 :: x3 :: x4 :: x5 :: x6 :: x7 :: x8 :: x9 :: some (.ref x) :: r) st M := jx_aloadG (i := 10) rfl hd k
theorem jx_astore10 {x0 x1 x2 x3 x4 x5 x6 x7 x8 x9 : Option Value} {y : Option Value} {r : List (Option Value)} {x : Nat} (hd : decode I.2.1 pc = .ok (.astore 10, 2)) (hp : j_c1 (some x9) = true) (hn : 10 < I.2.2.1) (k : j_W d I X (pc + 2) (x0 :: x1 :: x2 :: x3 :: x4 :: x5 :: x6 :: x7 :: x8 :: x9 :: some (.ref x) :: r) st M) : j_W d I X pc (x0 :: x1 :: x2 :: x3 :: x4 :: x5 :: x6 :: x7 :: x8 :: x9 :: y :: r) (.ref x :: st) M := jx_astoreG (i := 10) hn (Or.inr hp) hd k
theorem jx_iinc10 {x0 x1 x2 x3 x4 x5 x6 x7 x8 x9 : Option Value} {r : List (Option Value)} {x : Int32} {n : Int} (hd : decode I.2.1 pc = .ok (.iinc 10 n, 3)) (hp : j_c1 (some x9) = true) (hn : 10 < I.2.2.1) (k : j_W d I X (pc + 3) (x0 :: x1 :: x2 :: x3 :: x4 :: x5 :: x6 :: x7 :: x8 :: x9 :: some (.int (x + Int32.ofInt n)) :: r) st M) : j_W d I X pc (x0 :: x1 :: x2 :: x3 :: x4 :: x5 :: x6 :: x7 :: x8 :: x9 :: some (.int x) :: r) st M := jx_iincG (i := 10) rfl hn (Or.inr hp) hd k
theorem jx_iload11 {x0 x1 x2 x3 x4 x5 x6 x7 x8 x9 x10 : Option Value} {r : List (Option Value)} {x : Int32} (hd : decode I.2.1 pc = .ok (.iload 11, 2)) (k : j_W d I X (pc + 2) (x0 :: x1 :: x2 :: x3 :: x4 :: x5 :: x6 :: x7 :: x8 :: x9 :: x10 :: some (.int x) :: r) (.int x :: st) M) : j_W d I X pc (x0 :: x1 :: x2 :: x3 :: x4 :: x5 :: x6 :: x7 :: x8 :: x9 :: x10 :: some (.int x) :: r) st M := jx_iloadG (i := 11) rfl hd k
theorem jx_istore11 {x0 x1 x2 x3 x4 x5 x6 x7 x8 x9 x10 : Option Value} {y : Option Value} {r : List (Option Value)} {x : Int32} (hd : decode I.2.1 pc = .ok (.istore 11, 2)) (hp : j_c1 (some x10) = true) (hn : 11 < I.2.2.1) (k : j_W d I X (pc + 2) (x0 :: x1 :: x2 :: x3 :: x4 :: x5 :: x6 :: x7 :: x8 :: x9 :: x10 :: some (.int x) :: r) st M) : j_W d I X pc (x0 :: x1 :: x2 :: x3 :: x4 :: x5 :: x6 :: x7 :: x8 :: x9 :: x10 :: y :: r) (.int x :: st) M := jx_istoreG (i := 11) hn (Or.inr hp) hd k
theorem jx_lload11 {x0 x1 x2 x3 x4 x5 x6 x7 x8 x9 x10 : Option Value} {r : List (Option Value)} {x : Int64} (hd : decode I.2.1 pc = .ok (.lload 11, 2)) (k : j_W d I X (pc + 2) (x0 :: x1 :: x2 :: x3 :: x4 :: x5 :: x6 :: x7 :: x8 :: x9 :: x10 :: some (.long x) :: r) (.long x :: st) M) : j_W d I X pc (x0 :: x1 :: x2 :: x3 :: x4 :: x5 :: x6 :: x7 :: x8 :: x9 :: x10 :: some (.long x) :: r) st M := jx_lloadG (i := 11) rfl hd k
theorem jx_lstore11 {x0 x1 x2 x3 x4 x5 x6 x7 x8 x9 x10 : Option Value} {y z : Option Value} {r : List (Option Value)} {x : Int64} (hd : decode I.2.1 pc = .ok (.lstore 11, 2)) (hp : j_c1 (some x10) = true) (hn : 11 + 1 < I.2.2.1) (k : j_W d I X (pc + 2) (x0 :: x1 :: x2 :: x3 :: x4 :: x5 :: x6 :: x7 :: x8 :: x9 :: x10 :: some (.long x) :: none :: r) st M) : j_W d I X pc (x0 :: x1 :: x2 :: x3 :: x4 :: x5 :: x6 :: x7 :: x8 :: x9 :: x10 :: y :: z :: r) (.long x :: st) M := jx_lstoreG (i := 11) hn (Or.inr hp) hd k
theorem jx_aload11 {x0 x1 x2 x3 x4 x5 x6 x7 x8 x9 x10 : Option Value} {r : List (Option Value)} {x : Nat} (hd : decode I.2.1 pc = .ok (.aload 11, 2)) (k : j_W d I X (pc + 2) (x0 :: x1 :: x2 :: x3 :: x4 :: x5 :: x6 :: x7 :: x8 :: x9 :: x10 :: some (.ref x) :: r) (.ref x :: st) M) : j_W d I X pc (x0 :: x1 :: x2 :: x3 :: x4 :: x5 :: x6 :: x7 :: x8 :: x9 :: x10 :: some (.ref x) :: r) st M := jx_aloadG (i := 11) rfl hd k
theorem jx_astore11 {x0 x1 x2 x3 x4 x5 x6 x7 x8 x9 x10 : Option Value} {y : Option Value} {r : List (Option Value)} {x : Nat} (hd : decode I.2.1 pc = .ok (.astore 11, 2)) (hp : j_c1 (some x10) = true) (hn : 11 < I.2.2.1) (k : j_W d I X (pc + 2) (x0 :: x1 :: x2 :: x3 :: x4 :: x5 :: x6 :: x7 :: x8 :: x9 :: x10 :: some (.ref x) :: r) st M) : j_W d I X pc (x0 :: x1 :: x2 :: x3 :: x4 :: x5 :: x6 :: x7 :: x8 :: x9 :: x10 :: y :: r) (.ref x :: st) M := jx_astoreG (i := 11) hn (Or.inr hp) hd k
theorem jx_iinc11 {x0 x1 x2 x3 x4 x5 x6 x7 x8 x9 x10 : Option Value} {r : List (Option Value)} {x : Int32} {n : Int} (hd : decode I.2.1 pc = .ok (.iinc 11 n, 3)) (hp : j_c1 (some x10) = true) (hn : 11 < I.2.2.1) (k : j_W d I X (pc + 3) (x0 :: x1 :: x2 :: x3 :: x4 :: x5 :: x6 :: x7 :: x8 :: x9 :: x10 :: some (.int (x + Int32.ofInt n)) :: r) st M) : j_W d I X pc (x0 :: x1 :: x2 :: x3 :: x4 :: x5 :: x6 :: x7 :: x8 :: x9 :: x10 :: some (.int x) :: r) st M := jx_iincG (i := 11) rfl hn (Or.inr hp) hd k
theorem jx_iload12 {x0 x1 x2 x3 x4 x5 x6 x7 x8 x9 x10 x11 : Option Value} {r : List (Option Value)} {x : Int32} (hd : decode I.2.1 pc = .ok (.iload 12, 2)) (k : j_W d I X (pc + 2) (x0 :: x1 :: x2 :: x3 :: x4 :: x5 :: x6 :: x7 :: x8 :: x9 :: x10 :: x11 :: some (.int x) :: r) (.int x :: st) M) : j_W d I X pc (x0 :: x1 :: x2 :: x3 :: x4 :: x5 :: x6 :: x7 :: x8 :: x9 :: x10 :: x11 :: some (.int x) :: r) st M := jx_iloadG (i := 12) rfl hd k
theorem jx_istore12 {x0 x1 x2 x3 x4 x5 x6 x7 x8 x9 x10 x11 : Option Value} {y : Option Value} {r : List (Option Value)} {x : Int32} (hd : decode I.2.1 pc = .ok (.istore 12, 2)) (hp : j_c1 (some x11) = true) (hn : 12 < I.2.2.1) (k : j_W d I X (pc + 2) (x0 :: x1 :: x2 :: x3 :: x4 :: x5 :: x6 :: x7 :: x8 :: x9 :: x10 :: x11 :: some (.int x) :: r) st M) : j_W d I X pc (x0 :: x1 :: x2 :: x3 :: x4 :: x5 :: x6 :: x7 :: x8 :: x9 :: x10 :: x11 :: y :: r) (.int x :: st) M := jx_istoreG (i := 12) hn (Or.inr hp) hd k
theorem jx_lload12 {x0 x1 x2 x3 x4 x5 x6 x7 x8 x9 x10 x11 : Option Value} {r : List (Option Value)} {x : Int64} (hd : decode I.2.1 pc = .ok (.lload 12, 2)) (k : j_W d I X (pc + 2) (x0 :: x1 :: x2 :: x3 :: x4 :: x5 :: x6 :: x7 :: x8 :: x9 :: x10 :: x11 :: some (.long x) :: r) (.long x :: st) M) : j_W d I X pc (x0 :: x1 :: x2 :: x3 :: x4 :: x5 :: x6 :: x7 :: x8 :: x9 :: x10 :: x11 :: some (.long x) :: r) st M := jx_lloadG (i := 12) rfl hd k
theorem jx_lstore12 {x0 x1 x2 x3 x4 x5 x6 x7 x8 x9 x10 x11 : Option Value} {y z : Option Value} {r : List (Option Value)} {x : Int64} (hd : decode I.2.1 pc = .ok (.lstore 12, 2)) (hp : j_c1 (some x11) = true) (hn : 12 + 1 < I.2.2.1) (k : j_W d I X (pc + 2) (x0 :: x1 :: x2 :: x3 :: x4 :: x5 :: x6 :: x7 :: x8 :: x9 :: x10 :: x11 :: some (.long x) :: none :: r) st M) : j_W d I X pc (x0 :: x1 :: x2 :: x3 :: x4 :: x5 :: x6 :: x7 :: x8 :: x9 :: x10 :: x11 :: y :: z :: r) (.long x :: st) M := jx_lstoreG (i := 12) hn (Or.inr hp) hd k
theorem jx_aload12 {x0 x1 x2 x3 x4 x5 x6 x7 x8 x9 x10 x11 : Option Value} {r : List (Option Value)} {x : Nat} (hd : decode I.2.1 pc = .ok (.aload 12, 2)) (k : j_W d I X (pc + 2) (x0 :: x1 :: x2 :: x3 :: x4 :: x5 :: x6 :: x7 :: x8 :: x9 :: x10 :: x11 :: some (.ref x) :: r) (.ref x :: st) M) : j_W d I X pc (x0 :: x1 :: x2 :: x3 :: x4 :: x5 :: x6 :: x7 :: x8 :: x9 :: x10 :: x11 :: some (.ref x) :: r) st M := jx_aloadG (i := 12) rfl hd k
theorem jx_astore12 {x0 x1 x2 x3 x4 x5 x6 x7 x8 x9 x10 x11 : Option Value} {y : Option Value} {r : List (Option Value)} {x : Nat} (hd : decode I.2.1 pc = .ok (.astore 12, 2)) (hp : j_c1 (some x11) = true) (hn : 12 < I.2.2.1) (k : j_W d I X (pc + 2) (x0 :: x1 :: x2 :: x3 :: x4 :: x5 :: x6 :: x7 :: x8 :: x9 :: x10 :: x11 :: some (.ref x) :: r) st M) : j_W d I X pc (x0 :: x1 :: x2 :: x3 :: x4 :: x5 :: x6 :: x7 :: x8 :: x9 :: x10 :: x11 :: y :: r) (.ref x :: st) M := jx_astoreG (i := 12) hn (Or.inr hp) hd k
theorem jx_iinc12 {x0 x1 x2 x3 x4 x5 x6 x7 x8 x9 x10 x11 : Option Value} {r : List (Option Value)} {x : Int32} {n : Int} (hd : decode I.2.1 pc = .ok (.iinc 12 n, 3)) (hp : j_c1 (some x11) = true) (hn : 12 < I.2.2.1) (k : j_W d I X (pc + 3) (x0 :: x1 :: x2 :: x3 :: x4 :: x5 :: x6 :: x7 :: x8 :: x9 :: x10 :: x11 :: some (.int (x + Int32.ofInt n)) :: r) st M) : j_W d I X pc (x0 :: x1 :: x2 :: x3 :: x4 :: x5 :: x6 :: x7 :: x8 :: x9 :: x10 :: x11 :: some (.int x) :: r) st M := jx_iincG (i := 12) rfl hn (Or.inr hp) hd k
theorem jx_iload13 {x0 x1 x2 x3 x4 x5 x6 x7 x8 x9 x10 x11 x12 : Option Value} {r : List (Option Value)} {x : Int32} (hd : decode I.2.1 pc = .ok (.iload 13, 2)) (k : j_W d I X (pc + 2) (x0 :: x1 :: x2 :: x3 :: x4 :: x5 :: x6 :: x7 :: x8 :: x9 :: x10 :: x11 :: x12 :: some (.int x) :: r) (.int x :: st) M) : j_W d I X pc (x0 :: x1 :: x2 :: x3 :: x4 :: x5 :: x6 :: x7 :: x8 :: x9 :: x10 :: x11 :: x12 :: some (.int x) :: r) st M := jx_iloadG (i := 13) rfl hd k
theorem jx_istore13 {x0 x1 x2 x3 x4 x5 x6 x7 x8 x9 x10 x11 x12 : Option Value} {y : Option Value} {r : List (Option Value)} {x : Int32} (hd : decode I.2.1 pc = .ok (.istore 13, 2)) (hp : j_c1 (some x12) = true) (hn : 13 < I.2.2.1) (k : j_W d I X (pc + 2) (x0 :: x1 :: x2 :: x3 :: x4 :: x5 :: x6 :: x7 :: x8 :: x9 :: x10 :: x11 :: x12 :: some (.int x) :: r) st M) : j_W d I X pc (x0 :: x1 :: x2 :: x3 :: x4 :: x5 :: x6 :: x7 :: x8 :: x9 :: x10 :: x11 :: x12 :: y :: r) (.int x :: st) M := jx_istoreG (i := 13) hn (Or.inr hp) hd k
theorem jx_lload13 {x0 x1 x2 x3 x4 x5 x6 x7 x8 x9 x10 x11 x12 : Option Value} {r : List (Option Value)} {x : Int64} (hd : decode I.2.1 pc = .ok (.lload 13, 2)) (k : j_W d I X (pc + 2) (x0 :: x1 :: x2 :: x3 :: x4 :: x5 :: x6 :: x7 :: x8 :: x9 :: x10 :: x11 :: x12 :: some (.long x) :: r) (.long x :: st) M) : j_W d I X pc (x0 :: x1 :: x2 :: x3 :: x4 :: x5 :: x6 :: x7 :: x8 :: x9 :: x10 :: x11 :: x12 :: some (.long x) :: r) st M := jx_lloadG (i := 13) rfl hd k
theorem jx_lstore13 {x0 x1 x2 x3 x4 x5 x6 x7 x8 x9 x10 x11 x12 : Option Value} {y z : Option Value} {r : List (Option Value)} {x : Int64} (hd : decode I.2.1 pc = .ok (.lstore 13, 2)) (hp : j_c1 (some x12) = true) (hn : 13 + 1 < I.2.2.1) (k : j_W d I X (pc + 2) (x0 :: x1 :: x2 :: x3 :: x4 :: x5 :: x6 :: x7 :: x8 :: x9 :: x10 :: x11 :: x12 :: some (.long x) :: none :: r) st M) : j_W d I X pc (x0 :: x1 :: x2 :: x3 :: x4 :: x5 :: x6 :: x7 :: x8 :: x9 :: x10 :: x11 :: x12 :: y :: z :: r) (.long x :: st) M := jx_lstoreG (i := 13) hn (Or.inr hp) hd k
theorem jx_aload13 {x0 x1 x2 x3 x4 x5 x6 x7 x8 x9 x10 x11 x12 : Option Value} {r : List (Option Value)} {x : Nat} (hd : decode I.2.1 pc = .ok (.aload 13, 2)) (k : j_W d I X (pc + 2) (x0 :: x1 :: x2 :: x3 :: x4 :: x5 :: x6 :: x7 :: x8 :: x9 :: x10 :: x11 :: x12 :: some (.ref x) :: r) (.ref x :: st) M) : j_W d I X pc (x0 :: x1 :: x2 :: x3 :: x4 :: x5 :: x6 :: x7 :: x8 :: x9 :: x10 :: x11 :: x12 :: some (.ref x) :: r) st M := jx_aloadG (i := 13) rfl hd k
theorem jx_astore13 {x0 x1 x2 x3 x4 x5 x6 x7 x8 x9 x10 x11 x12 : Option Value} {y : Option Value} {r : List (Option Value)} {x : Nat} (hd : decode I.2.1 pc = .ok (.astore 13, 2)) (hp : j_c1 (some x12) = true) (hn : 13 < I.2.2.1) (k : j_W d I X (pc + 2) (x0 :: x1 :: x2 :: x3 :: x4 :: x5 :: x6 :: x7 :: x8 :: x9 :: x10 :: x11 :: x12 :: some (.ref x) :: r) st M) : j_W d I X pc (x0 :: x1 :: x2 :: x3 :: x4 :: x5 :: x6 :: x7 :: x8 :: x9 :: x10 :: x11 :: x12 :: y :: r) (.ref x :: st) M := jx_astoreG (i := 13) hn (Or.inr hp) hd k
theorem jx_iinc13 {x0 x1 x2 x3 x4 x5 x6 x7 x8 x9 x10 x11 x12 : Option Value} {r : List (Option Value)} {x : Int32} {n : Int} (hd : decode I.2.1 pc = .ok (.iinc 13 n, 3)) (hp : j_c1 (some x12) = true) (hn : 13 < I.2.2.1) (k : j_W d I X (pc + 3) (x0 :: x1 :: x2 :: x3 :: x4 :: x5 :: x6 :: x7 :: x8 :: x9 :: x10 :: x11 :: x12 :: some (.int (x + Int32.ofInt n)) :: r) st M) : j_W d I X pc (x0 :: x1 :: x2 :: x3 :: x4 :: x5 :: x6 :: x7 :: x8 :: x9 :: x10 :: x11 :: x12 :: some (.int x) :: r) st M := jx_iincG (i := 13) rfl hn (Or.inr hp) hd k
theorem jx_iload14 {x0 x1 x2 x3 x4 x5 x6 x7 x8 x9 x10 x11 x12 x13 : Option Value} {r : List (Option Value)} {x : Int32} (hd : decode I.2.1 pc = .ok (.iload 14, 2)) (k : j_W d I X (pc + 2) (x0 :: x1 :: x2 :: x3 :: x4 :: x5 :: x6 :: x7 :: x8 :: x9 :: x10 :: x11 :: x12 :: x13 :: some (.int x) :: r) (.int x :: st) M) : j_W d I X pc (x0 :: x1 :: x2 :: x3 :: x4 :: x5 :: x6 :: x7 :: x8 :: x9 :: x10 :: x11 :: x12 :: x13 :: some (.int x) :: r) st M := jx_iloadG (i := 14) rfl hd k
theorem jx_istore14 {x0 x1 x2 x3 x4 x5 x6 x7 x8 x9 x10 x11 x12 x13 : Option Value} {y : Option Value} {r : List (Option Value)} {x : Int32} (hd : decode I.2.1 pc = .ok (.istore 14, 2)) (hp : j_c1 (some x13) = true) (hn : 14 < I.2.2.1) (k : j_W d I X (pc + 2) (x0 :: x1 :: x2 :: x3 :: x4 :: x5 :: x6 :: x7 :: x8 :: x9 :: x10 :: x11 :: x12 :: x13 :: some (.int x) :: r) st M) : j_W d I X pc (x0 :: x1 :: x2 :: x3 :: x4 :: x5 :: x6 :: x7 :: x8 :: x9 :: x10 :: x11 :: x12 :: x13 :: y :: r) (.int x :: st) M := jx_istoreG (i := 14) hn (Or.inr hp) hd k
theorem jx_lload14 {x0 x1 x2 x3 x4 x5 x6 x7 x8 x9 x10 x11 x12 x13 : Option Value} {r : List (Option Value)} {x : Int64} (hd : decode I.2.1 pc = .ok (.lload 14, 2)) (k : j_W d I X (pc + 2) (x0 :: x1 :: x2 :: x3 :: x4 :: x5 :: x6 :: x7 :: x8 :: x9 :: x10 :: x11 :: x12 :: x13 :: some (.long x) :: r) (.long x :: st) M) : j_W d I X pc (x0 :: x1 :: x2 :: x3 :: x4 :: x5 :: x6 :: x7 :: x8 :: x9 :: x10 :: x11 :: x12 :: x13 :: some (.long x) :: r) st M := jx_lloadG (i := 14) rfl hd k
theorem jx_lstore14 {x0 x1 x2 x3 x4 x5 x6 x7 x8 x9 x10 x11 x12 x13 : Option Value} {y z : Option Value} {r : List (Option Value)} {x : Int64} (hd : decode I.2.1 pc = .ok (.lstore 14, 2)) (hp : j_c1 (some x13) = true) (hn : 14 + 1 < I.2.2.1) (k : j_W d I X (pc + 2) (x0 :: x1 :: x2 :: x3 :: x4 :: x5 :: x6 :: x7 :: x8 :: x9 :: x10 :: x11 :: x12 :: x13 :: some (.long x) :: none :: r) st M) : j_W d I X pc (x0 :: x1 :: x2 :: x3 :: x4 :: x5 :: x6 :: x7 :: x8 :: x9 :: x10 :: x11 :: x12 :: x13 :: y :: z :: r) (.long x :: st) M := jx_lstoreG (i := 14) hn (Or.inr hp) hd k
theorem jx_aload14 {x0 x1 x2 x3 x4 x5 x6 x7 x8 x9 x10 x11 x12 x13 : Option Value} {r : List (Option Value)} {x : Nat} (hd : decode I.2.1 pc = .ok (.aload 14, 2)) (k : j_W d I X (pc + 2) (x0 :: x1 :: x2 :: x3 :: x4 :: x5 :: x6 :: x7 :: x8 :: x9 :: x10 :: x11 :: x12 :: x13 :: some (.ref x) :: r) (.ref x :: st) M) : j_W d I X pc (x0 :: x1 :: x2 :: x3 :: x4 :: x5 :: x6 :: x7 :: x8 :: x9 :: x10 :: x11 :: x12 :: x13 :: some (.ref x) :: r) st M := jx_aloadG (i := 14) rfl hd k
theorem jx_astore14 {x0 x1 x2 x3 x4 x5 x6 x7 x8 x9 x10 x11 x12 x13 : Option Value} {y : Option Value} {r : List (Option Value)} {x : Nat} (hd : decode I.2.1 pc = .ok (.astore 14, 2)) (hp : j_c1 (some x13) = true) (hn : 14 < I.2.2.1) (k : j_W d I X (pc + 2) (x0 :: x1 :: x2 :: x3 :: x4 :: x5 :: x6 :: x7 :: x8 :: x9 :: x10 :: x11 :: x12 :: x13 :: some (.ref x) :: r) st M) : j_W d I X pc (x0 :: x1 :: x2 :: x3 :: x4 :: x5 :: x6 :: x7 :: x8 :: x9 :: x10 :: x11 :: x12 :: x13 :: y :: r) (.ref x :: st) M := jx_astoreG (i := 14) hn (Or.inr hp) hd k
theorem jx_iinc14 {x0 x1 x2 x3 x4 x5 x6 x7 x8 x9 x10 x11 x12 x13 : Option Value} {r : List (Option Value)} {x : Int32} {n : Int} (hd : decode I.2.1 pc = .ok (.iinc 14 n, 3)) (hp : j_c1 (some x13) = true) (hn : 14 < I.2.2.1) (k : j_W d I X (pc + 3) (x0 :: x1 :: x2 :: x3 :: x4 :: x5 :: x6 :: x7 :: x8 :: x9 :: x10 :: x11 :: x12 :: x13 :: some (.int (x + Int32.ofInt n)) :: r) st M) : j_W d I X pc (x0 :: x1 :: x2 :: x3 :: x4 :: x5 :: x6 :: x7 :: x8 :: x9 :: x10 :: x11 :: x12 :: x13 :: some (.int x) :: r) st M := jx_iincG (i := 14) rfl hn (Or.inr hp) hd k
theorem jx_iload15 {x0 x1 x2 x3 x4 x5 x6 x7 x8 x9 x10 x11 x12 x13 x14 : Option Value} {r : List (Option Value)} {x : Int32} (hd : decode I.2.1 pc = .ok (.iload 15, 2)) (k : j_W d I X (pc + 2) (x0 :: x1 :: x2 :: x3 :: x4 :: x5 :: x6 :: x7 :: x8 :: x9 :: x10 :: x11 :: x12 :: x13 :: x14 :: some (.int x) :: r) (.int x :: st) M) : j_W d I X pc (x0 :: x1 :: x2 :: x3 :: x4 :: x5 :: x6 :: x7 :: x8 :: x9 :: x10 :: x11 :: x12 :: x13 :: x14 :: some (.int x) :: r) st M := jx_iloadG (i := 15) rfl hd k
theorem jx_istore15 {x0 x1 x2 x3 x4 x5 x6 x7 x8 x9 x10 x11 x12 x13 x14 : Option Value} {y : Option Value} {r : List (Option Value)} {x : Int32} (hd : decode I.2.1 pc = .ok (.istore 15, 2)) (hp : j_c1 (some x14) = true) (hn : 15 < I.2.2.1) (k : j_W d I X (pc + 2) (x0 :: x1 :: x2 :: x3 :: x4 :: x5 :: x6 :: x7 :: x8 :: x9 :: x10 :: x11 :: x12 :: x13 :: x14 :: some (.int x) :: r) st M) : j_W d I X pc (x0 :: x1 :: x2 :: x3 :: x4 :: x5 :: x6 :: x7 :: x8 :: x9 :: x10 :: x11 :: x12 :: x13 :: x14 :: y :: r) (.int x :: st) M := jx_istoreG (i := 15) hn (Or.inr hp) hd k
theorem jx_lload15 {x0 x1 x2 x3 x4 x5 x6 x7 x8 x9 x10 x11 x12 x13 x14 : Option Value} {r : List (Option Value)} {x : Int64} (hd : decode I.2.1 pc = .ok (.lload 15, 2)) (k : j_W d I X (pc + 2) (x0 :: x1 :: x2 :: x3 :: x4 :: x5 :: x6 :: x7 :: x8 :: x9 :: x10 :: x11 :: x12 :: x13 :: x14 :: some (.long x) :: r) (.long x :: st) M) : j_W d I X pc (x0 :: x1 :: x2 :: x3 :: x4 :: x5 :: x6 :: x7 :: x8 :: x9 :: x10 :: x11 :: x12 :: x13 :: x14 :: some (.long x) :: r) st M := jx_lloadG (i := 15) rfl hd k
theorem jx_lstore15 {x0 x1 x2 x3 x4 x5 x6 x7 x8 x9 x10 x11 x12 x13 x14 : Option Value} {y z : Option Value} {r : List (Option Value)} {x : Int64} (hd : decode I.2.1 pc = .ok (.lstore 15, 2)) (hp : j_c1 (some x14) = true) (hn : 15 + 1 < I.2.2.1) (k : j_W d I X (pc + 2) (x0 :: x1 :: x2 :: x3 :: x4 :: x5 :: x6 :: x7 :: x8 :: x9 :: x10 :: x11 :: x12 :: x13 :: x14 :: some (.long x) :: none :: r) st M) : j_W d I X pc (x0 :: x1 :: x2 :: x3 :: x4 :: x5 :: x6 :: x7 :: x8 :: x9 :: x10 :: x11 :: x12 :: x13 :: x14 :: y :: z :: r) (.long x :: st) M := jx_lstoreG (i := 15) hn (Or.inr hp) hd k
theorem jx_aload15 {x0 x1 x2 x3 x4 x5 x6 x7 x8 x9 x10 x11 x12 x13 x14 : Option Value} {r : List (Option Value)} {x : Nat} (hd : decode I.2.1 pc = .ok (.aload 15, 2)) (k : j_W d I X (pc + 2) (x0 :: x1 :: x2 :: x3 :: x4 :: x5 :: x6 :: x7 :: x8 :: x9 :: x10 :: x11 :: x12 :: x13 :: x14 :: some (.ref x) :: r) (.ref x :: st) M) : j_W d I X pc (x0 :: x1 :: x2 :: x3 :: x4 :: x5 :: x6 :: x7 :: x8 :: x9 :: x10 :: x11 :: x12 :: x13 :: x14 :: some (.ref x) :: r) st M := jx_aloadG (i := 15) rfl hd k
theorem jx_astore15 {x0 x1 x2 x3 x4 x5 x6 x7 x8 x9 x10 x11 x12 x13 x14 : Option Value} {y : Option Value} {r : List (Option Value)} {x : Nat} (hd : decode I.2.1 pc = .ok (.astore 15, 2)) (hp : j_c1 (some x14) = true) (hn : 15 < I.2.2.1) (k : j_W d I X (pc + 2) (x0 :: x1 :: x2 :: x3 :: x4 :: x5 :: x6 :: x7 :: x8 :: x9 :: x10 :: x11 :: x12 :: x13 :: x14 :: some (.ref x) :: r) st M) : j_W d I X pc (x0 :: x1 :: x2 :: x3 :: x4 :: x5 :: x6 :: x7 :: x8 :: x9 :: x10 :: x11 :: x12 :: x13 :: x14 :: y :: r) (.ref x :: st) M := jx_astoreG (i := 15) hn (Or.inr hp) hd k
theorem jx_iinc15 {x0 x1 x2 x3 x4 x5 x6 x7 x8 x9 x10 x11 x12 x13 x14 : Option Value} {r : List (Option Value)} {x : Int32} {n : Int} (hd : decode I.2.1 pc = .ok (.iinc 15 n, 3)) (hp : j_c1 (some x14) = true) (hn : 15 < I.2.2.1) (k : j_W d I X (pc + 3) (x0 :: x1 :: x2 :: x3 :: x4 :: x5 :: x6 :: x7 :: x8 :: x9 :: x10 :: x11 :: x12 :: x13 :: x14 :: some (.int (x + Int32.ofInt n)) :: r) st M) : j_W d I X pc (x0 :: x1 :: x2 :: x3 :: x4 :: x5 :: x6 :: x7 :: x8 :: x9 :: x10 :: x11 :: x12 :: x13 :: x14 :: some (.int x) :: r) st M := jx_iincG (i := 15) rfl hn (Or.inr hp) hd k
end Rules
end
section
/-! THE RULES of fields, arrays, calls and ends -/
def j_CF (ci : Nat) (C : String) (T : u_T) (N : Nat) (ty : Nat → FieldType) : Prop :=
  j_cls[ci]? = some (C, T, N) ∧ (∀ w ∈ u_ws C T N, w ∈ j_tbl) ∧ (∀ k, k < N → parseFieldDescriptor (T k).2.2.1 = some (ty k)) ∧ ∀ a, a < N → ∀ b, b < N → a ≠ b → (T a).2.1 ≠ (T b).2.1
def j_GF (own : String) (idx ci k : Nat) : Prop := ∃ (C : String) (T : u_T) (N : Nat) (ty : Nat → FieldType), j_CF ci C T N ty ∧ k < N ∧ Cond.fieldLink own idx (T k).1 (T k).2.1 (T k).2.2.1 ∈ j_tbl
def j_PF (own : String) (idx ci k : Nat) (t : FieldType) : Prop := ∃ (C : String) (T : u_T) (N : Nat) (ty : Nat → FieldType), j_CF ci C T N ty ∧ k < N ∧ Cond.fieldLink own idx (T k).1 (T k).2.1 (T k).2.2.1 ∈ j_tbl ∧ (T k).2.2.2 = false ∧ ty k = t
theorem j_ent0 {w : j_w} {M : j_M} {a ci : Nat} {refs : List (Option Nat)} (hs : j_sh a = (0, ci, refs)) : j_ent w M a = .inr (ci, j_fl w.2.2 (M a) 0 refs) := by simp only [j_ent, hs]
theorem j_ent1 {w : j_w} {M : j_M} {a n : Nat} {refs : List (Option Nat)} (hs : j_sh a = (1, n, refs)) : j_ent w M a = .inl (w.2.1 0, n, .inl (M a)) := by simp only [j_ent, hs]
theorem j_ent2 {w : j_w} {M : j_M} {a n : Nat} {refs : List (Option Nat)} (hs : j_sh a = (2, n, refs)) : j_ent w M a = .inl (w.2.1 1, n, .inl (M a)) := by simp only [j_ent, hs]
theorem j_ent3 {w : j_w} {M : j_M} {a n : Nat} {refs : List (Option Nat)} (hs : j_sh a = (3, n, refs)) : j_ent w M a = .inl (w.2.1 2, n, .inr (.inr (.inr (.inr (fun j => (refs.getD j none).map w.2.2))))) := by simp only [j_ent, hs]
theorem j_ent4 {w : j_w} {M : j_M} {a n : Nat} {refs : List (Option Nat)} (hs : j_sh a = (4, n, refs)) : j_ent w M a = .inl (w.2.1 3, n, .inr (.inr (.inr (.inr (fun j => (refs.getD j none).map w.2.2))))) := by simp only [j_ent, hs]
section Heaps
variable {d : Nat} {I : j_I} {X : j_X} {pc : Nat} {L : List (Option Value)} {st : List Value} {M : j_M}
theorem jx_getI {idx ci k a : Nat} {refs : List (Option Nat)} (g : j_GF I.1.cls idx ci k) (hd : decode I.2.1 pc = .ok (.getfield idx, 3)) (ha : a < j_NA) (hs : j_sh a = (0, ci, refs)) (hv : refs[k]? = some none)
    (kk : j_W d I X (pc + 3) L (.int (M a k) :: st) M) : j_W d I X pc L (.ref a :: st) M := by
  obtain ⟨⟨p, l, e, R, s⟩, ⟨m, args, below, meth, c⟩, ⟨w, A, cells, slots, Q⟩⟩ := X
  intro hG H locs ls hP hS hl
  obtain ⟨hx, hb, hml, hown, hts, hK, hZ, hD, hA, hfr, hlo, hce, hsl⟩ := id hG
  obtain ⟨C, T, N, ty, ⟨hc, hin, -, -⟩, hk, hl2⟩ := g
  have he := j_at w M ha
  rw [j_ent0 hs] at he
  exact va_get (D := w.1) (ci := ci) hx hb hts hin hown hK hP a he hc k hk (hts _ hl2) (fun _ h => h) (by have h9 := j_fl_int w.2.2 (M a) refs 0 k hv; rwa [Nat.zero_add] at h9) hd (kk hG H locs ls hP hS hl)
theorem jx_getR {idx ci k a b : Nat} {refs : List (Option Nat)} (g : j_GF I.1.cls idx ci k) (hd : decode I.2.1 pc = .ok (.getfield idx, 3)) (ha : a < j_NA) (hs : j_sh a = (0, ci, refs)) (hv : refs[k]? = some (some b))
    (kk : j_W d I X (pc + 3) L (.ref b :: st) M) : j_W d I X pc L (.ref a :: st) M := by
  obtain ⟨⟨p, l, e, R, s⟩, ⟨m, args, below, meth, c⟩, ⟨w, A, cells, slots, Q⟩⟩ := X
  intro hG H locs ls hP hS hl
  obtain ⟨hx, hb, hml, hown, hts, hK, hZ, hD, hA, hfr, hlo, hce, hsl⟩ := id hG
  obtain ⟨C, T, N, ty, ⟨hc, hin, -, -⟩, hk, hl2⟩ := g
  have he := j_at w M ha
  rw [j_ent0 hs] at he
  exact va_get (D := w.1) (ci := ci) hx hb hts hin hown hK hP a he hc k hk (hts _ hl2) (fun _ h => h) (j_fl_ref w.2.2 (M a) refs 0 k hv) hd (kk hG H locs ls hP hS hl)
theorem jx_putT {idx ci k a : Nat} {t : FieldType} {x : Int32} {refs : List (Option Nat)} (g : j_PF I.1.cls idx ci k t) (hn : narrow t (.int x) = .int x) (hfit : fits t (.int x) = true) (hd : decode I.2.1 pc = .ok (.putfield idx, 3)) (ha : a < j_NA) (hs : j_sh a = (0, ci, refs)) (hv : refs[k]? = some none)
    (kk : j_W d I X (pc + 3) L st (j_set M a k x)) : j_W d I X pc L (.int x :: .ref a :: st) M := by
  obtain ⟨⟨p, l, e, R, s⟩, ⟨m, args, below, meth, c⟩, ⟨w, A, cells, slots, Q⟩⟩ := X
  intro hG H locs ls hP hS hl
  obtain ⟨hx, hb, hml, hown, hts, hK, hZ, hD, hA, hfr, hlo, hce, hsl⟩ := id hG
  obtain ⟨C, T, N, ty, ⟨hc, hin, hty, hnm⟩, hk, hl2, hfin, htk⟩ := g
  have he := j_at w M ha
  rw [j_ent0 hs] at he
  have hset := j_fl_set w.2.2 (M a) x refs 0 k hv
  rw [Nat.zero_add] at hset
  refine va_put (D := w.1) (ci := ci) hx hb hts hin ty hty hnm hown hK hP (j_vaD hD hA M) hS a he hc k hk (hts _ hl2) (fun _ h => h) hfin (by rw [hty k hk, htk]) hn hfit (by rw [j_fl_len]; exact (List.getElem?_eq_some_iff.mp hv).1) hd (fun H1 locs1 hP1 hD1 hS1 => ?_)
  change va_P w.1 j_cls ((j_ws w M).set a (w.2.2 a, .inr (ci, (j_fl w.2.2 (M a) 0 refs).set k (.int x)))) H1 at hP1
  rw [hset, j_ws_set w (M' := j_set M a k x) ha (by rw [j_ent0 hs, j_set_s]) (fun b hb => j_set_n M k x hb)] at hP1
  exact kk hG H1 locs1 ls hP1 hS1 hl
theorem jx_putI {idx ci k a : Nat} {x : Int32} {refs : List (Option Nat)} (g : j_PF I.1.cls idx ci k .int) (hd : decode I.2.1 pc = .ok (.putfield idx, 3)) (ha : a < j_NA) (hs : j_sh a = (0, ci, refs)) (hv : refs[k]? = some none)
    (kk : j_W d I X (pc + 3) L st (j_set M a k x)) : j_W d I X pc L (.int x :: .ref a :: st) M := jx_putT g rfl rfl hd ha hs hv kk
theorem jx_putZ {idx ci k a : Nat} {x : Int32} {refs : List (Option Nat)} (g : j_PF I.1.cls idx ci k .boolean) (hx : x = 0 ∨ x = 1) (hd : decode I.2.1 pc = .ok (.putfield idx, 3)) (ha : a < j_NA) (hs : j_sh a = (0, ci, refs)) (hv : refs[k]? = some none)
    (kk : j_W d I X (pc + 3) L st (j_set M a k x)) : j_W d I X pc L (.int x :: .ref a :: st) M := by
  rcases hx with rfl | rfl
  · exact jx_putT g rfl rfl hd ha hs hv kk
  · exact jx_putT g rfl rfl hd ha hs hv kk
theorem jx_iald {a n : Nat} {i : Int32} (hd : decode I.2.1 pc = .ok (.iaload, 1)) (ha : a < j_NA) (hs : j_sh a = (1, n, [])) (hi : vp_in i n)
    (kk : j_W d I X (pc + 1) L (.int (M a i.toNatClampNeg) :: st) M) : j_W d I X pc L (.int i :: .ref a :: st) M := by
  obtain ⟨⟨p, l, e, R, s⟩, ⟨m, args, below, meth, c⟩, ⟨w, A, cells, slots, Q⟩⟩ := X
  intro hG H locs ls hP hS hl
  obtain ⟨hx, hb, hml, hown, hts, hK, hZ, hD, hA, hfr, hlo, hce, hsl⟩ := id hG
  have he := j_at w M ha
  rw [j_ent1 hs] at he
  exact va_iald hx hb hK hP a 0 he rfl hi hd (kk hG H locs ls hP hS hl)
theorem jx_zald {a n : Nat} {i : Int32} (hd : decode I.2.1 pc = .ok (.baload, 1)) (ha : a < j_NA) (hs : j_sh a = (2, n, [])) (hi : vp_in i n)
    (kk : j_W d I X (pc + 1) L (.int (M a i.toNatClampNeg) :: st) M) : j_W d I X pc L (.int i :: .ref a :: st) M := by
  obtain ⟨⟨p, l, e, R, s⟩, ⟨m, args, below, meth, c⟩, ⟨w, A, cells, slots, Q⟩⟩ := X
  intro hG H locs ls hP hS hl
  obtain ⟨hx, hb, hml, hown, hts, hK, hZ, hD, hA, hfr, hlo, hce, hsl⟩ := id hG
  have he := j_at w M ha
  rw [j_ent2 hs] at he
  exact va_zald hx hb hK hP a 1 he rfl hi hd (kk hG H locs ls hP hS hl)
theorem jx_iast {a n : Nat} {i x : Int32} (hd : decode I.2.1 pc = .ok (.iastore, 1)) (ha : a < j_NA) (hs : j_sh a = (1, n, [])) (hi : vp_in i n)
    (kk : j_W d I X (pc + 1) L st (j_set M a i.toNatClampNeg x)) : j_W d I X pc L (.int x :: .int i :: .ref a :: st) M := by
  obtain ⟨⟨p, l, e, R, s⟩, ⟨m, args, below, meth, c⟩, ⟨w, A, cells, slots, Q⟩⟩ := X
  intro hG H locs ls hP hS hl
  obtain ⟨hx, hb, hml, hown, hts, hK, hZ, hD, hA, hfr, hlo, hce, hsl⟩ := id hG
  have he := j_at w M ha
  rw [j_ent1 hs] at he
  refine va_iast hx hb hK hP (j_vaD hD hA M) hS a 0 he rfl hi hd (fun H1 locs1 hP1 hD1 hS1 => ?_)
  rw [j_ws_set w (M' := j_set M a i.toNatClampNeg x) ha (by rw [j_ent1 hs, j_set_s]) (fun b hb => j_set_n M _ x hb)] at hP1
  exact kk hG H1 locs1 ls hP1 hS1 hl
theorem jx_zast {a n : Nat} {i x : Int32} (hx01 : x = 0 ∨ x = 1) (hd : decode I.2.1 pc = .ok (.bastore, 1)) (ha : a < j_NA) (hs : j_sh a = (2, n, [])) (hi : vp_in i n)
    (kk : j_W d I X (pc + 1) L st (j_set M a i.toNatClampNeg x)) : j_W d I X pc L (.int x :: .int i :: .ref a :: st) M := by
  obtain ⟨⟨p, l, e, R, s⟩, ⟨m, args, below, meth, c⟩, ⟨w, A, cells, slots, Q⟩⟩ := X
  intro hG H locs ls hP hS hl
  obtain ⟨hx, hb, hml, hown, hts, hK, hZ, hD, hA, hfr, hlo, hce, hsl⟩ := id hG
  have he := j_at w M ha
  rw [j_ent2 hs] at he
  have hnar : vp_nar .boolean x = x := by rcases hx01 with rfl | rfl <;> rfl
  refine va_zast hx hb hK hP (j_vaD hD hA M) hS a 1 he rfl hi hd (fun H1 locs1 hP1 hD1 hS1 => ?_)
  rw [hnar] at hP1
  rw [j_ws_set w (M' := j_set M a i.toNatClampNeg x) ha (by rw [j_ent2 hs, j_set_s]) (fun b hb => j_set_n M _ x hb)] at hP1
  exact kk hG H1 locs1 ls hP1 hS1 hl
theorem jx_aald {a n b t : Nat} {i : Int32} {refs : List (Option Nat)} (hd : decode I.2.1 pc = .ok (.aaload, 1)) (ha : a < j_NA) (ht : t = 3 ∨ t = 4) (hs : j_sh a = (t, n, refs)) (hi : vp_in i n) (hv : refs.getD i.toNatClampNeg none = some b)
    (kk : j_W d I X (pc + 1) L (.ref b :: st) M) : j_W d I X pc L (.int i :: .ref a :: st) M := by
  obtain ⟨⟨p, l, e, R, s⟩, ⟨m, args, below, meth, c⟩, ⟨w, A, cells, slots, Q⟩⟩ := X
  intro hG H locs ls hP hS hl
  obtain ⟨hx, hb, hml, hown, hts, hK, hZ, hD, hA, hfr, hlo, hce, hsl⟩ := id hG
  have he := j_at w M ha
  have key : ∀ (t0 : Nat) (cA : ClassId) (ty : FieldType), ty.isReference = true → (j_tys w)[t0]? = some (cA, ty) → (j_ws w M)[a]? = some (w.2.2 a, .inl (cA, n, .inr (.inr (.inr (.inr (fun j => (refs.getD j none).map w.2.2)))))) → W p l e R s m args below meth c H locs cells slots Q (F0 m pc ls ((Value.int i :: .ref a :: st).map (j_e w))) := by
    intro t0 cA ty hty ht he
    have hlt : i.toNatClampNeg < n := Nat.not_le.mp fun q => hi (Or.inr q)
    refine W.aald (v := va_rf (((refs.getD i.toNatClampNeg none)).map w.2.2)) (ty := ty) hx hb (hP a _ he) ((hK.2 t0 _ ht).1 n (fun j => va_rf ((refs.getD j none).map w.2.2))) hty (fun q => by cases q) (by show ¬ (i < 0 ∨ (arrV _ _ _).slots.size ≤ _); rw [arrV_size]; exact hi) (by show (arrV _ _ _).slots[_]? = _; rw [arrV_read _ _ hlt]) rfl rfl hd ?_
    rw [hv]
    exact kk hG H locs ls hP hS hl
  rcases ht with rfl | rfl
  · rw [j_ent3 hs] at he
    exact key 2 _ _ rfl rfl he
  · rw [j_ent4 hs] at he
    exact key 3 _ _ rfl rfl he
theorem jx_alen {a n : Nat} {t : Nat} {refs : List (Option Nat)} {v : Int32} (hd : decode I.2.1 pc = .ok (.arraylength, 1)) (ha : a < j_NA) (ht : t = 1 ∨ t = 4) (hs : j_sh a = (t, n, refs)) (hv : Int32.ofNat n = v)
    (kk : j_W d I X (pc + 1) L (.int v :: st) M) : j_W d I X pc L (.ref a :: st) M := by
  obtain ⟨⟨p, l, e, R, s⟩, ⟨m, args, below, meth, c⟩, ⟨w, A, cells, slots, Q⟩⟩ := X
  intro hG H locs ls hP hS hl
  obtain ⟨hx, hb, hml, hown, hts, hK, hZ, hD, hA, hfr, hlo, hce, hsl⟩ := id hG
  have he := j_at w M ha
  rcases ht with rfl | rfl
  · rw [j_ent1 hs] at he
    exact va_alen hx hb hK hP a 0 he (ty := .int) rfl hv hd (kk hG H locs ls hP hS hl)
  · rw [j_ent4 hs] at he
    exact va_alen hx hb hK hP a 3 he (ty := .array .int) rfl hv hd (kk hG H locs ls hP hS hl)
-- the static tables
theorem jx_getsW {idx : Nat} (hlk : Cond.fieldLink I.1.cls idx "DogJudge" "WAYS_MOST" "[I" ∈ j_tbl) (hd : decode I.2.1 pc = .ok (.getstatic idx, 3)) (kk : j_W d I X (pc + 3) L (.ref j_NA :: st) M) : j_W d I X pc L st M := by
  obtain ⟨⟨p, l, e, R, s⟩, ⟨m, args, below, meth, c⟩, ⟨w, A, cells, slots, Q⟩⟩ := X
  intro hG H locs ls hP hS hl
  obtain ⟨hx, hb, hml, hown, hts, hK, hZ, hD, hA, hfr, hlo, hce, hsl⟩ := id hG
  exact va_gets hx hb hZ.1.1 hS hown (hts _ hlk) (fun _ h => h) hd (kk hG H locs ls hP hS hl)
theorem jx_getsD {idx : Nat} (hlk : Cond.fieldLink I.1.cls idx "DogJudge" "DIGEST_DAYS" "[I" ∈ j_tbl) (hd : decode I.2.1 pc = .ok (.getstatic idx, 3)) (kk : j_W d I X (pc + 3) L (.ref (j_NA + 1) :: st) M) : j_W d I X pc L st M := by
  obtain ⟨⟨p, l, e, R, s⟩, ⟨m, args, below, meth, c⟩, ⟨w, A, cells, slots, Q⟩⟩ := X
  intro hG H locs ls hP hS hl
  obtain ⟨hx, hb, hml, hown, hts, hK, hZ, hD, hA, hfr, hlo, hce, hsl⟩ := id hG
  exact va_gets hx hb hZ.2.1.1 hS hown (hts _ hlk) (fun _ h => h) hd (kk hG H locs ls hP hS hl)
theorem jx_ialdW {i : Int32} (hd : decode I.2.1 pc = .ok (.iaload, 1)) (hi : vp_in i 5) (kk : j_W d I X (pc + 1) L (.int (j_wm i.toNatClampNeg) :: st) M) : j_W d I X pc L (.int i :: .ref j_NA :: st) M := by
  obtain ⟨⟨p, l, e, R, s⟩, ⟨m, args, below, meth, c⟩, ⟨w, A, cells, slots, Q⟩⟩ := X
  intro hG H locs ls hP hS hl
  obtain ⟨hx, hb, hml, hown, hts, hK, hZ, hD, hA, hfr, hlo, hce, hsl⟩ := id hG
  exact va_ti hx hb hZ.1.2 hS hi rfl hd (kk hG H locs ls hP hS hl)
theorem jx_ialdD {i : Int32} (hd : decode I.2.1 pc = .ok (.iaload, 1)) (hi : vp_in i 4) (kk : j_W d I X (pc + 1) L (.int (j_dd i.toNatClampNeg) :: st) M) : j_W d I X pc L (.int i :: .ref (j_NA + 1) :: st) M := by
  obtain ⟨⟨p, l, e, R, s⟩, ⟨m, args, below, meth, c⟩, ⟨w, A, cells, slots, Q⟩⟩ := X
  intro hG H locs ls hP hS hl
  obtain ⟨hx, hb, hml, hown, hts, hK, hZ, hD, hA, hfr, hlo, hce, hsl⟩ := id hG
  exact va_ti hx hb hZ.2.1.2 hS hi rfl hd (kk hG H locs ls hP hS hl)
theorem jx_alenD (hd : decode I.2.1 pc = .ok (.arraylength, 1)) (kk : j_W d I X (pc + 1) L (.int 4 :: st) M) : j_W d I X pc L (.ref (j_NA + 1) :: st) M := by
  obtain ⟨⟨p, l, e, R, s⟩, ⟨m, args, below, meth, c⟩, ⟨w, A, cells, slots, Q⟩⟩ := X
  intro hG H locs ls hP hS hl
  obtain ⟨hx, hb, hml, hown, hts, hK, hZ, hD, hA, hfr, hlo, hce, hsl⟩ := id hG
  exact va_tlen hx hb hZ.2.1.2 hS rfl hd (kk hG H locs ls hP hS hl)
-- the machine's own functions
theorem jx_mmax {idx : Nat} {x y : Int32} (hlk : Cond.methodLink I.1.cls idx Lib.Math.max.name ∈ j_tbl) (h1 : Cond.static Lib.Math.max.name ∈ j_tbl) (h2 : Cond.initialized "java/lang/Math" ∈ j_tbl) (h3 : Cond.code Lib.Math.max.name Lib.Math.max.code 2 (some .int) ∈ j_tbl) (hdd : 1 ≤ d) (hst : (st.map fun v => v.category).sum ≤ 8) (hd : decode I.2.1 pc = .ok (.invokestatic idx, 3))
    (kk : j_W d I X (pc + 3) L (.int (if x < y then y else x) :: st) M) : j_W d I X pc L (.int y :: .int x :: st) M := by
  obtain ⟨⟨p, l, e, R, s⟩, ⟨m, args, below, meth, c⟩, ⟨w, A, cells, slots, Q⟩⟩ := X
  intro hG H locs ls hP hS hl
  obtain ⟨hx, hb, hml, hown, hts, hK, hZ, hD, hA, hfr, hlo, hce, hsl⟩ := id hG
  exact va_mmax hx hb (hml.trans hl.1.symm) hown (hts _ hlk) (hts _ h1) (hts _ h2) (hts _ h3) (by omega) (by rw [j_e_cats]; omega) hce hsl hd (kk hG H locs ls hP hS hl)
theorem jx_mmin {idx : Nat} {x y : Int32} (hlk : Cond.methodLink I.1.cls idx Lib.Math.min.name ∈ j_tbl) (h1 : Cond.static Lib.Math.min.name ∈ j_tbl) (h2 : Cond.initialized "java/lang/Math" ∈ j_tbl) (h3 : Cond.code Lib.Math.min.name Lib.Math.min.code 2 (some .int) ∈ j_tbl) (hdd : 1 ≤ d) (hst : (st.map fun v => v.category).sum ≤ 8) (hd : decode I.2.1 pc = .ok (.invokestatic idx, 3))
    (kk : j_W d I X (pc + 3) L (.int (if y < x then y else x) :: st) M) : j_W d I X pc L (.int y :: .int x :: st) M := by
  obtain ⟨⟨p, l, e, R, s⟩, ⟨m, args, below, meth, c⟩, ⟨w, A, cells, slots, Q⟩⟩ := X
  intro hG H locs ls hP hS hl
  obtain ⟨hx, hb, hml, hown, hts, hK, hZ, hD, hA, hfr, hlo, hce, hsl⟩ := id hG
  exact va_mmin hx hb (hml.trans hl.1.symm) hown (hts _ hlk) (hts _ h1) (hts _ h2) (hts _ h3) (by omega) (by rw [j_e_cats]; omega) hce hsl hd (kk hG H locs ls hP hS hl)
theorem jx_acopy {idx a b n0 n1 : Nat} {sp dp n : Int32} (hlk : Cond.methodLink I.1.cls idx arraycopyName ∈ j_tbl) (h1 : Cond.native arraycopyName ∈ j_tbl) (h2 : Cond.static arraycopyName ∈ j_tbl) (h3 : Cond.initialized "java/lang/System" ∈ j_tbl) (hdd : 2 ≤ d) (hst : (st.map fun v => v.category).sum ≤ 8) (hd : decode I.2.1 pc = .ok (.invokestatic idx, 3))
    (ha : a < j_NA) (hb0 : b < j_NA) (hsa : j_sh a = (1, n0, [])) (hsb : j_sh b = (1, n1, [])) (g1 : ¬ sp < 0) (g2 : ¬ dp < 0) (g3 : ¬ n < 0) (g4 : sp.toNatClampNeg + n.toNatClampNeg ≤ n0) (g5 : dp.toNatClampNeg + n.toNatClampNeg ≤ n1)
    (kk : j_W d I X (pc + 3) L st (j_seta M b (va_cpy (M a) (M b) sp.toNatClampNeg dp.toNatClampNeg n.toNatClampNeg))) : j_W d I X pc L (.int n :: .int dp :: .ref b :: .int sp :: .ref a :: st) M := by
  obtain ⟨⟨p, l, e, R, s⟩, ⟨m, args, below, meth, c⟩, ⟨w, A, cells, slots, Q⟩⟩ := X
  intro hG H locs ls hP hS hl
  obtain ⟨hx, hb, hml, hown, hts, hK, hZ, hD, hA, hfr, hlo, hce, hsl⟩ := id hG
  have hea := j_at w M ha
  have heb := j_at w M hb0
  rw [j_ent1 hsa] at hea
  rw [j_ent1 hsb] at heb
  have hnf : nativeFrameWords "java/lang/System" "arraycopy" 5 ≤ 60 := by decide +kernel
  refine va_copyi hx hb (hml.trans hl.1.symm) hown (hts _ hlk) (hts _ h1) (hts _ h2) (hts _ h3) hK hP (j_vaD hD hA M) hS a b 0 0 hea heb (ty := .int) rfl rfl rfl g1 g2 g3 g4 g5 (fun _ _ => rfl) (by omega) (by rw [j_e_cats]; omega) hd (fun H1 locs1 hP1 hD1 hS1 => ?_)
  rw [j_ws_set w (M' := j_seta M b (va_cpy (M a) (M b) sp.toNatClampNeg dp.toNatClampNeg n.toNatClampNeg)) hb0 (by rw [j_ent1 hsb, j_seta_s]) (fun b hb => j_seta_n M _ hb)] at hP1
  exact kk hG H1 locs1 ls hP1 hS1 hl
end Heaps
end
section
theorem i_vc : Claimed_1_1 ∧ Claimed_1_2 := sorry
end
