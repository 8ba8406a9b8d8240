/-- a private method of a class that the tables say can be made, by its rows of tables_1 -/
def lw_okq (q : MethodName × Nat) : Prop := (q.1.cls ≠ "java/lang/invoke/MethodHandle" ∧ q.1.cls ≠ "java/lang/invoke/VarHandle") ∧ Cond.instantiable q.1.cls q.2 ∈ tables_1 ∧ Cond.privateMethod q.1 ∈ tables_1 ∧ Cond.instanceMethod q.1 ∈ tables_1
theorem lw_p0 : lw_okq (⟨"HerringSea", "boatAt", "(I)LHerringSea$Boat;"⟩, 18) := ⟨⟨by decide +kernel, by decide +kernel⟩, List.mem_of_getElem? (i := 13) (by decide +kernel), List.mem_of_getElem? (i := 249) (by decide +kernel), List.mem_of_getElem? (i := 250) (by decide +kernel)⟩
theorem lw_p1 : lw_okq (⟨"HerringSea", "yardAt", "(I)LHerringSea$Yard;"⟩, 18) := ⟨⟨by decide +kernel, by decide +kernel⟩, List.mem_of_getElem? (i := 13) (by decide +kernel), List.mem_of_getElem? (i := 290) (by decide +kernel), List.mem_of_getElem? (i := 291) (by decide +kernel)⟩
theorem lw_p2 : lw_okq (⟨"HerringSea", "beginNight", "(Z)V"⟩, 18) := ⟨⟨by decide +kernel, by decide +kernel⟩, List.mem_of_getElem? (i := 13) (by decide +kernel), List.mem_of_getElem? (i := 302) (by decide +kernel), List.mem_of_getElem? (i := 303) (by decide +kernel)⟩
theorem lw_p3 : lw_okq (⟨"HerringSea", "isStormy", "(IZ)Z"⟩, 18) := ⟨⟨by decide +kernel, by decide +kernel⟩, List.mem_of_getElem? (i := 13) (by decide +kernel), List.mem_of_getElem? (i := 306) (by decide +kernel), List.mem_of_getElem? (i := 307) (by decide +kernel)⟩
theorem lw_p4 : lw_okq (⟨"HerringSea", "haulEverywhere", "(Z)I"⟩, 18) := ⟨⟨by decide +kernel, by decide +kernel⟩, List.mem_of_getElem? (i := 13) (by decide +kernel), List.mem_of_getElem? (i := 318) (by decide +kernel), List.mem_of_getElem? (i := 319) (by decide +kernel)⟩
theorem lw_p5 : lw_okq (⟨"HerringSea", "haulIn", "(I)I"⟩, 18) := ⟨⟨by decide +kernel, by decide +kernel⟩, List.mem_of_getElem? (i := 13) (by decide +kernel), List.mem_of_getElem? (i := 322) (by decide +kernel), List.mem_of_getElem? (i := 323) (by decide +kernel)⟩
theorem lw_p6 : lw_okq (⟨"HerringSea$Parting", "greatestRest", "()I"⟩, 4) := ⟨⟨by decide +kernel, by decide +kernel⟩, List.mem_of_getElem? (i := 72) (by decide +kernel), List.mem_of_getElem? (i := 339) (by decide +kernel), List.mem_of_getElem? (i := 340) (by decide +kernel)⟩
theorem lw_p7 : lw_okq (⟨"HerringSea", "sellAllCatches", "()V"⟩, 18) := ⟨⟨by decide +kernel, by decide +kernel⟩, List.mem_of_getElem? (i := 13) (by decide +kernel), List.mem_of_getElem? (i := 356) (by decide +kernel), List.mem_of_getElem? (i := 357) (by decide +kernel)⟩
theorem lw_p8 : lw_okq (⟨"HerringSea", "sellCatch", "(ILHerringSea$Boat;I)V"⟩, 18) := ⟨⟨by decide +kernel, by decide +kernel⟩, List.mem_of_getElem? (i := 13) (by decide +kernel), List.mem_of_getElem? (i := 363) (by decide +kernel), List.mem_of_getElem? (i := 364) (by decide +kernel)⟩
theorem lw_p9 : lw_okq (⟨"HerringSea", "bestBidder", "()I"⟩, 18) := ⟨⟨by decide +kernel, by decide +kernel⟩, List.mem_of_getElem? (i := 13) (by decide +kernel), List.mem_of_getElem? (i := 367) (by decide +kernel), List.mem_of_getElem? (i := 368) (by decide +kernel)⟩
theorem lw_p10 : lw_okq (⟨"HerringSea", "gutLotsFrom", "(I)V"⟩, 18) := ⟨⟨by decide +kernel, by decide +kernel⟩, List.mem_of_getElem? (i := 13) (by decide +kernel), List.mem_of_getElem? (i := 425) (by decide +kernel), List.mem_of_getElem? (i := 426) (by decide +kernel)⟩
theorem lw_p11 : lw_okq (⟨"HerringSea", "lotAt", "(I)LHerringSea$Lot;"⟩, 18) := ⟨⟨by decide +kernel, by decide +kernel⟩, List.mem_of_getElem? (i := 13) (by decide +kernel), List.mem_of_getElem? (i := 429) (by decide +kernel), List.mem_of_getElem? (i := 430) (by decide +kernel)⟩
theorem lw_p12 : lw_okq (⟨"HerringSea", "gutLot", "(LHerringSea$Lot;)V"⟩, 18) := ⟨⟨by decide +kernel, by decide +kernel⟩, List.mem_of_getElem? (i := 13) (by decide +kernel), List.mem_of_getElem? (i := 433) (by decide +kernel), List.mem_of_getElem? (i := 434) (by decide +kernel)⟩
theorem lw_p13 : lw_okq (⟨"HerringSea$Yard", "firstFreeCrew", "()I"⟩, 5) := ⟨⟨by decide +kernel, by decide +kernel⟩, List.mem_of_getElem? (i := 260) (by decide +kernel), List.mem_of_getElem? (i := 441) (by decide +kernel), List.mem_of_getElem? (i := 442) (by decide +kernel)⟩
theorem lw_p14 : lw_okq (⟨"HerringSea$Grammar", "takes", "(I)Z"⟩, 3) := ⟨⟨by decide +kernel, by decide +kernel⟩, List.mem_of_getElem? (i := 93) (by decide +kernel), List.mem_of_getElem? (i := 480) (by decide +kernel), List.mem_of_getElem? (i := 481) (by decide +kernel)⟩
theorem lw_p15 : lw_okq (⟨"HerringSea$Grammar", "takesUnit", "(I)Z"⟩, 3) := ⟨⟨by decide +kernel, by decide +kernel⟩, List.mem_of_getElem? (i := 93) (by decide +kernel), List.mem_of_getElem? (i := 484) (by decide +kernel), List.mem_of_getElem? (i := 485) (by decide +kernel)⟩
def lw_privs_1 : List (MethodName × Nat) := [(⟨"HerringSea", "boatAt", "(I)LHerringSea$Boat;"⟩, 18), (⟨"HerringSea", "yardAt", "(I)LHerringSea$Yard;"⟩, 18), (⟨"HerringSea", "beginNight", "(Z)V"⟩, 18), (⟨"HerringSea", "isStormy", "(IZ)Z"⟩, 18), (⟨"HerringSea", "haulEverywhere", "(Z)I"⟩, 18), (⟨"HerringSea", "haulIn", "(I)I"⟩, 18), (⟨"HerringSea$Parting", "greatestRest", "()I"⟩, 4), (⟨"HerringSea", "sellAllCatches", "()V"⟩, 18), (⟨"HerringSea", "sellCatch", "(ILHerringSea$Boat;I)V"⟩, 18), (⟨"HerringSea", "bestBidder", "()I"⟩, 18), (⟨"HerringSea", "gutLotsFrom", "(I)V"⟩, 18), (⟨"HerringSea", "lotAt", "(I)LHerringSea$Lot;"⟩, 18), (⟨"HerringSea", "gutLot", "(LHerringSea$Lot;)V"⟩, 18), (⟨"HerringSea$Yard", "firstFreeCrew", "()I"⟩, 5), (⟨"HerringSea$Grammar", "takes", "(I)Z"⟩, 3), (⟨"HerringSea$Grammar", "takesUnit", "(I)Z"⟩, 3)]
theorem lw_r1 : ∀ q ∈ lw_privs_1, lw_okq q := List.forall_mem_cons.mpr ⟨lw_p0, List.forall_mem_cons.mpr ⟨lw_p1, List.forall_mem_cons.mpr ⟨lw_p2, List.forall_mem_cons.mpr ⟨lw_p3, List.forall_mem_cons.mpr ⟨lw_p4, List.forall_mem_cons.mpr ⟨lw_p5, List.forall_mem_cons.mpr ⟨lw_p6, List.forall_mem_cons.mpr ⟨lw_p7, List.forall_mem_cons.mpr ⟨lw_p8, List.forall_mem_cons.mpr ⟨lw_p9, List.forall_mem_cons.mpr ⟨lw_p10, List.forall_mem_cons.mpr ⟨lw_p11, List.forall_mem_cons.mpr ⟨lw_p12, List.forall_mem_cons.mpr ⟨lw_p13, List.forall_mem_cons.mpr ⟨lw_p14, List.forall_mem_cons.mpr ⟨lw_p15, fun _ h => absurd h List.not_mem_nil⟩⟩⟩⟩⟩⟩⟩⟩⟩⟩⟩⟩⟩⟩⟩⟩
theorem lw_p16 : lw_okq (⟨"HerringSea$Grammar", "takesSign", "(I)Z"⟩, 3) := ⟨⟨by decide +kernel, by decide +kernel⟩, List.mem_of_getElem? (i := 93) (by decide +kernel), List.mem_of_getElem? (i := 488) (by decide +kernel), List.mem_of_getElem? (i := 489) (by decide +kernel)⟩
theorem lw_p17 : lw_okq (⟨"HerringSea$Grammar", "takesFirstDigit", "(I)Z"⟩, 3) := ⟨⟨by decide +kernel, by decide +kernel⟩, List.mem_of_getElem? (i := 93) (by decide +kernel), List.mem_of_getElem? (i := 492) (by decide +kernel), List.mem_of_getElem? (i := 493) (by decide +kernel)⟩
theorem lw_p18 : lw_okq (⟨"HerringSea$Grammar", "takesBehindUnit", "(I)Z"⟩, 3) := ⟨⟨by decide +kernel, by decide +kernel⟩, List.mem_of_getElem? (i := 93) (by decide +kernel), List.mem_of_getElem? (i := 499) (by decide +kernel), List.mem_of_getElem? (i := 500) (by decide +kernel)⟩
theorem lw_p19 : lw_okq (⟨"HerringSea", "textAt", "(I)LHerringSea$Text;"⟩, 18) := ⟨⟨by decide +kernel, by decide +kernel⟩, List.mem_of_getElem? (i := 13) (by decide +kernel), List.mem_of_getElem? (i := 516) (by decide +kernel), List.mem_of_getElem? (i := 517) (by decide +kernel)⟩
theorem lw_p20 : lw_okq (⟨"HerringSea$Verdict", "read", "(ILHerringSea$Lot;I)V"⟩, 5) := ⟨⟨by decide +kernel, by decide +kernel⟩, List.mem_of_getElem? (i := 109) (by decide +kernel), List.mem_of_getElem? (i := 525) (by decide +kernel), List.mem_of_getElem? (i := 526) (by decide +kernel)⟩
theorem lw_p21 : lw_okq (⟨"HerringSea$Verdict", "endComparison", "(LHerringSea$Lot;I)V"⟩, 5) := ⟨⟨by decide +kernel, by decide +kernel⟩, List.mem_of_getElem? (i := 109) (by decide +kernel), List.mem_of_getElem? (i := 530) (by decide +kernel), List.mem_of_getElem? (i := 531) (by decide +kernel)⟩
theorem lw_p22 : lw_okq (⟨"HerringSea$Verdict", "compares", "(I)Z"⟩, 5) := ⟨⟨by decide +kernel, by decide +kernel⟩, List.mem_of_getElem? (i := 109) (by decide +kernel), List.mem_of_getElem? (i := 538) (by decide +kernel), List.mem_of_getElem? (i := 539) (by decide +kernel)⟩
theorem lw_p23 : lw_okq (⟨"HerringSea$Verdict", "addUnit", "(Z)V"⟩, 5) := ⟨⟨by decide +kernel, by decide +kernel⟩, List.mem_of_getElem? (i := 109) (by decide +kernel), List.mem_of_getElem? (i := 542) (by decide +kernel), List.mem_of_getElem? (i := 543) (by decide +kernel)⟩
theorem lw_p24 : lw_okq (⟨"HerringSea$Verdict", "endBracket", "()V"⟩, 5) := ⟨⟨by decide +kernel, by decide +kernel⟩, List.mem_of_getElem? (i := 109) (by decide +kernel), List.mem_of_getElem? (i := 546) (by decide +kernel), List.mem_of_getElem? (i := 547) (by decide +kernel)⟩
theorem lw_p25 : lw_okq (⟨"HerringSea$Verdict", "endPart", "()V"⟩, 5) := ⟨⟨by decide +kernel, by decide +kernel⟩, List.mem_of_getElem? (i := 109) (by decide +kernel), List.mem_of_getElem? (i := 550) (by decide +kernel), List.mem_of_getElem? (i := 551) (by decide +kernel)⟩
theorem lw_p26 : lw_okq (⟨"HerringSea", "owedInAll", "()I"⟩, 18) := ⟨⟨by decide +kernel, by decide +kernel⟩, List.mem_of_getElem? (i := 13) (by decide +kernel), List.mem_of_getElem? (i := 593) (by decide +kernel), List.mem_of_getElem? (i := 594) (by decide +kernel)⟩
theorem lw_p27 : lw_okq (⟨"HerringSeaModel", "isBoat", "(I)Z"⟩, 53) := ⟨⟨by decide +kernel, by decide +kernel⟩, List.mem_of_getElem? (i := 597) (by decide +kernel), List.mem_of_getElem? (i := 786) (by decide +kernel), List.mem_of_getElem? (i := 787) (by decide +kernel)⟩
theorem lw_p28 : lw_okq (⟨"HerringSeaModel", "haul", "(I)I"⟩, 53) := ⟨⟨by decide +kernel, by decide +kernel⟩, List.mem_of_getElem? (i := 597) (by decide +kernel), List.mem_of_getElem? (i := 810) (by decide +kernel), List.mem_of_getElem? (i := 811) (by decide +kernel)⟩
theorem lw_p29 : lw_okq (⟨"HerringSeaModel", "partAmong", "(JI)V"⟩, 53) := ⟨⟨by decide +kernel, by decide +kernel⟩, List.mem_of_getElem? (i := 597) (by decide +kernel), List.mem_of_getElem? (i := 815) (by decide +kernel), List.mem_of_getElem? (i := 816) (by decide +kernel)⟩
theorem lw_p30 : lw_okq (⟨"HerringSeaModel", "storm", "()V"⟩, 53) := ⟨⟨by decide +kernel, by decide +kernel⟩, List.mem_of_getElem? (i := 597) (by decide +kernel), List.mem_of_getElem? (i := 819) (by decide +kernel), List.mem_of_getElem? (i := 820) (by decide +kernel)⟩
theorem lw_p31 : lw_okq (⟨"HerringSeaModel", "driftAll", "()V"⟩, 53) := ⟨⟨by decide +kernel, by decide +kernel⟩, List.mem_of_getElem? (i := 597) (by decide +kernel), List.mem_of_getElem? (i := 823) (by decide +kernel), List.mem_of_getElem? (i := 824) (by decide +kernel)⟩
def lw_privs_2 : List (MethodName × Nat) := [(⟨"HerringSea$Grammar", "takesSign", "(I)Z"⟩, 3), (⟨"HerringSea$Grammar", "takesFirstDigit", "(I)Z"⟩, 3), (⟨"HerringSea$Grammar", "takesBehindUnit", "(I)Z"⟩, 3), (⟨"HerringSea", "textAt", "(I)LHerringSea$Text;"⟩, 18), (⟨"HerringSea$Verdict", "read", "(ILHerringSea$Lot;I)V"⟩, 5), (⟨"HerringSea$Verdict", "endComparison", "(LHerringSea$Lot;I)V"⟩, 5), (⟨"HerringSea$Verdict", "compares", "(I)Z"⟩, 5), (⟨"HerringSea$Verdict", "addUnit", "(Z)V"⟩, 5), (⟨"HerringSea$Verdict", "endBracket", "()V"⟩, 5), (⟨"HerringSea$Verdict", "endPart", "()V"⟩, 5), (⟨"HerringSea", "owedInAll", "()I"⟩, 18), (⟨"HerringSeaModel", "isBoat", "(I)Z"⟩, 53), (⟨"HerringSeaModel", "haul", "(I)I"⟩, 53), (⟨"HerringSeaModel", "partAmong", "(JI)V"⟩, 53), (⟨"HerringSeaModel", "storm", "()V"⟩, 53), (⟨"HerringSeaModel", "driftAll", "()V"⟩, 53)]
theorem lw_r2 : ∀ q ∈ lw_privs_2, lw_okq q := List.forall_mem_cons.mpr ⟨lw_p16, List.forall_mem_cons.mpr ⟨lw_p17, List.forall_mem_cons.mpr ⟨lw_p18, List.forall_mem_cons.mpr ⟨lw_p19, List.forall_mem_cons.mpr ⟨lw_p20, List.forall_mem_cons.mpr ⟨lw_p21, List.forall_mem_cons.mpr ⟨lw_p22, List.forall_mem_cons.mpr ⟨lw_p23, List.forall_mem_cons.mpr ⟨lw_p24, List.forall_mem_cons.mpr ⟨lw_p25, List.forall_mem_cons.mpr ⟨lw_p26, List.forall_mem_cons.mpr ⟨lw_p27, List.forall_mem_cons.mpr ⟨lw_p28, List.forall_mem_cons.mpr ⟨lw_p29, List.forall_mem_cons.mpr ⟨lw_p30, List.forall_mem_cons.mpr ⟨lw_p31, fun _ h => absurd h List.not_mem_nil⟩⟩⟩⟩⟩⟩⟩⟩⟩⟩⟩⟩⟩⟩⟩⟩
theorem lw_p32 : lw_okq (⟨"HerringSeaModel", "beside", "(I)I"⟩, 53) := ⟨⟨by decide +kernel, by decide +kernel⟩, List.mem_of_getElem? (i := 597) (by decide +kernel), List.mem_of_getElem? (i := 827) (by decide +kernel), List.mem_of_getElem? (i := 828) (by decide +kernel)⟩
theorem lw_p33 : lw_okq (⟨"HerringSeaModel", "sellAll", "()V"⟩, 53) := ⟨⟨by decide +kernel, by decide +kernel⟩, List.mem_of_getElem? (i := 597) (by decide +kernel), List.mem_of_getElem? (i := 832) (by decide +kernel), List.mem_of_getElem? (i := 833) (by decide +kernel)⟩
theorem lw_p34 : lw_okq (⟨"HerringSeaModel", "nextBoat", "()I"⟩, 53) := ⟨⟨by decide +kernel, by decide +kernel⟩, List.mem_of_getElem? (i := 597) (by decide +kernel), List.mem_of_getElem? (i := 836) (by decide +kernel), List.mem_of_getElem? (i := 837) (by decide +kernel)⟩
theorem lw_p35 : lw_okq (⟨"HerringSeaModel", "minute", "(I)I"⟩, 53) := ⟨⟨by decide +kernel, by decide +kernel⟩, List.mem_of_getElem? (i := 597) (by decide +kernel), List.mem_of_getElem? (i := 840) (by decide +kernel), List.mem_of_getElem? (i := 841) (by decide +kernel)⟩
theorem lw_p36 : lw_okq (⟨"HerringSeaModel", "bestYard", "()I"⟩, 53) := ⟨⟨by decide +kernel, by decide +kernel⟩, List.mem_of_getElem? (i := 597) (by decide +kernel), List.mem_of_getElem? (i := 844) (by decide +kernel), List.mem_of_getElem? (i := 845) (by decide +kernel)⟩
theorem lw_p37 : lw_okq (⟨"HerringSeaModel", "sell", "(III)V"⟩, 53) := ⟨⟨by decide +kernel, by decide +kernel⟩, List.mem_of_getElem? (i := 597) (by decide +kernel), List.mem_of_getElem? (i := 848) (by decide +kernel), List.mem_of_getElem? (i := 849) (by decide +kernel)⟩
theorem lw_p38 : lw_okq (⟨"HerringSeaModel", "work", "(II)V"⟩, 53) := ⟨⟨by decide +kernel, by decide +kernel⟩, List.mem_of_getElem? (i := 597) (by decide +kernel), List.mem_of_getElem? (i := 852) (by decide +kernel), List.mem_of_getElem? (i := 853) (by decide +kernel)⟩
theorem lw_p39 : lw_okq (⟨"HerringSeaModel", "whole", "()V"⟩, 53) := ⟨⟨by decide +kernel, by decide +kernel⟩, List.mem_of_getElem? (i := 597) (by decide +kernel), List.mem_of_getElem? (i := 871) (by decide +kernel), List.mem_of_getElem? (i := 872) (by decide +kernel)⟩
theorem lw_p40 : lw_okq (⟨"HerringSeaModel", "part", "()V"⟩, 53) := ⟨⟨by decide +kernel, by decide +kernel⟩, List.mem_of_getElem? (i := 597) (by decide +kernel), List.mem_of_getElem? (i := 875) (by decide +kernel), List.mem_of_getElem? (i := 876) (by decide +kernel)⟩
theorem lw_p41 : lw_okq (⟨"HerringSeaModel", "unit", "()V"⟩, 53) := ⟨⟨by decide +kernel, by decide +kernel⟩, List.mem_of_getElem? (i := 597) (by decide +kernel), List.mem_of_getElem? (i := 879) (by decide +kernel), List.mem_of_getElem? (i := 880) (by decide +kernel)⟩
theorem lw_p42 : lw_okq (⟨"HerringSeaModel", "look", "()I"⟩, 53) := ⟨⟨by decide +kernel, by decide +kernel⟩, List.mem_of_getElem? (i := 597) (by decide +kernel), List.mem_of_getElem? (i := 883) (by decide +kernel), List.mem_of_getElem? (i := 884) (by decide +kernel)⟩
theorem lw_p43 : lw_okq (⟨"HerringSeaModel", "fail", "()V"⟩, 53) := ⟨⟨by decide +kernel, by decide +kernel⟩, List.mem_of_getElem? (i := 597) (by decide +kernel), List.mem_of_getElem? (i := 887) (by decide +kernel), List.mem_of_getElem? (i := 888) (by decide +kernel)⟩
theorem lw_p44 : lw_okq (⟨"HerringSeaModel", "say", "(I)V"⟩, 53) := ⟨⟨by decide +kernel, by decide +kernel⟩, List.mem_of_getElem? (i := 597) (by decide +kernel), List.mem_of_getElem? (i := 891) (by decide +kernel), List.mem_of_getElem? (i := 892) (by decide +kernel)⟩
theorem lw_p45 : lw_okq (⟨"HerringSeaModel", "number", "()V"⟩, 53) := ⟨⟨by decide +kernel, by decide +kernel⟩, List.mem_of_getElem? (i := 597) (by decide +kernel), List.mem_of_getElem? (i := 895) (by decide +kernel), List.mem_of_getElem? (i := 896) (by decide +kernel)⟩
theorem lw_p46 : lw_okq (⟨"HerringSeaModel", "isLot", "(I)Z"⟩, 53) := ⟨⟨by decide +kernel, by decide +kernel⟩, List.mem_of_getElem? (i := 597) (by decide +kernel), List.mem_of_getElem? (i := 908) (by decide +kernel), List.mem_of_getElem? (i := 909) (by decide +kernel)⟩
theorem lw_p47 : lw_okq (⟨"HerringSeaModel", "holds", "(II)Z"⟩, 53) := ⟨⟨by decide +kernel, by decide +kernel⟩, List.mem_of_getElem? (i := 597) (by decide +kernel), List.mem_of_getElem? (i := 912) (by decide +kernel), List.mem_of_getElem? (i := 913) (by decide +kernel)⟩
def lw_privs_3 : List (MethodName × Nat) := [(⟨"HerringSeaModel", "beside", "(I)I"⟩, 53), (⟨"HerringSeaModel", "sellAll", "()V"⟩, 53), (⟨"HerringSeaModel", "nextBoat", "()I"⟩, 53), (⟨"HerringSeaModel", "minute", "(I)I"⟩, 53), (⟨"HerringSeaModel", "bestYard", "()I"⟩, 53), (⟨"HerringSeaModel", "sell", "(III)V"⟩, 53), (⟨"HerringSeaModel", "work", "(II)V"⟩, 53), (⟨"HerringSeaModel", "whole", "()V"⟩, 53), (⟨"HerringSeaModel", "part", "()V"⟩, 53), (⟨"HerringSeaModel", "unit", "()V"⟩, 53), (⟨"HerringSeaModel", "look", "()I"⟩, 53), (⟨"HerringSeaModel", "fail", "()V"⟩, 53), (⟨"HerringSeaModel", "say", "(I)V"⟩, 53), (⟨"HerringSeaModel", "number", "()V"⟩, 53), (⟨"HerringSeaModel", "isLot", "(I)Z"⟩, 53), (⟨"HerringSeaModel", "holds", "(II)Z"⟩, 53)]
theorem lw_r3 : ∀ q ∈ lw_privs_3, lw_okq q := List.forall_mem_cons.mpr ⟨lw_p32, List.forall_mem_cons.mpr ⟨lw_p33, List.forall_mem_cons.mpr ⟨lw_p34, List.forall_mem_cons.mpr ⟨lw_p35, List.forall_mem_cons.mpr ⟨lw_p36, List.forall_mem_cons.mpr ⟨lw_p37, List.forall_mem_cons.mpr ⟨lw_p38, List.forall_mem_cons.mpr ⟨lw_p39, List.forall_mem_cons.mpr ⟨lw_p40, List.forall_mem_cons.mpr ⟨lw_p41, List.forall_mem_cons.mpr ⟨lw_p42, List.forall_mem_cons.mpr ⟨lw_p43, List.forall_mem_cons.mpr ⟨lw_p44, List.forall_mem_cons.mpr ⟨lw_p45, List.forall_mem_cons.mpr ⟨lw_p46, List.forall_mem_cons.mpr ⟨lw_p47, fun _ h => absurd h List.not_mem_nil⟩⟩⟩⟩⟩⟩⟩⟩⟩⟩⟩⟩⟩⟩⟩⟩
theorem lw_p48 : lw_okq (⟨"HerringSeaModel", "value", "(II)I"⟩, 53) := ⟨⟨by decide +kernel, by decide +kernel⟩, List.mem_of_getElem? (i := 597) (by decide +kernel), List.mem_of_getElem? (i := 916) (by decide +kernel), List.mem_of_getElem? (i := 917) (by decide +kernel)⟩
def lw_privs_4 : List (MethodName × Nat) := [(⟨"HerringSeaModel", "value", "(II)I"⟩, 53)]
theorem lw_r4 : ∀ q ∈ lw_privs_4, lw_okq q := List.forall_mem_cons.mpr ⟨lw_p48, fun _ h => absurd h List.not_mem_nil⟩
def lw_privs : List (MethodName × Nat) := lw_privs_1 ++ (lw_privs_2 ++ (lw_privs_3 ++ (lw_privs_4)))
def lw_tbl : List Cond := k2_sels lw_privs ++ tables_1
theorem lw_privs_ok : ∀ q ∈ lw_privs, lw_okq q := by
  show ∀ q ∈ lw_privs_1 ++ (lw_privs_2 ++ (lw_privs_3 ++ (lw_privs_4))), lw_okq q
  exact List.forall_mem_append.mpr ⟨lw_r1, List.forall_mem_append.mpr ⟨lw_r2, List.forall_mem_append.mpr ⟨lw_r3, lw_r4⟩⟩⟩
def RX0 : String := "HerringSea$Boat"
def TX0 : u_T := fun k => match k with
  | 0 => ("HerringSea$Boat", "parts", "[I", true)
  | 1 => ("HerringSea$Boat", "got", "[I", true)
  | 2 => ("HerringSea$Boat", "nets", "I", false)
  | 3 => ("HerringSea$Boat", "cell", "I", false)
  | 4 => ("HerringSea$Boat", "takenInAll", "I", false)
  | 5 => ("HerringSea$Boat", "takenLately", "I", false)
  | 6 => ("HerringSea$Boat", "owed", "I", false)
  | _ => ("HerringSea$Boat", "netsLost", "I", false)
def tyX0 : Nat → FieldType := fun k => match k with
  | 0 => .array .int
  | 1 => .array .int
  | 2 => .int
  | 3 => .int
  | 4 => .int
  | 5 => .int
  | 6 => .int
  | _ => .int
theorem nmX0 : ∀ a, a < 8 → ∀ b, b < 8 → a ≠ b → (TX0 a).2.1 ≠ (TX0 b).2.1 := by decide +kernel
theorem tyX0_ok : ∀ k, k < 8 → parseFieldDescriptor (TX0 k).2.2.1 = some (tyX0 k) := by decide +kernel
abbrev cX0_init : ByteArray := prog_2_method_1_code
def yX0_init : MethodName := ⟨RX0, "<init>", "(I)V"⟩
abbrev cX0_isHand : ByteArray := prog_2_method_2_code
def yX0_isHand : MethodName := ⟨RX0, "isHand", "(I)Z"⟩
abbrev cX0_loseNets : ByteArray := prog_2_method_3_code
def yX0_loseNets : MethodName := ⟨RX0, "loseNets", "()V"⟩
abbrev cX0_takeIn : ByteArray := prog_2_method_4_code
def yX0_takeIn : MethodName := ⟨RX0, "takeIn", "(I)V"⟩
def RX1 : String := "HerringSea$Grammar"
def TX1 : u_T := fun k => match k with
  | 0 => ("HerringSea$Grammar", "due", "I", false)
  | 1 => ("HerringSea$Grammar", "depth", "I", false)
  | _ => ("HerringSea$Grammar", "digitsLeft", "I", false)
def tyX1 : Nat → FieldType := fun k => match k with
  | 0 => .int
  | 1 => .int
  | _ => .int
theorem nmX1 : ∀ a, a < 3 → ∀ b, b < 3 → a ≠ b → (TX1 a).2.1 ≠ (TX1 b).2.1 := by decide +kernel
theorem tyX1_ok : ∀ k, k < 3 → parseFieldDescriptor (TX1 k).2.2.1 = some (tyX1 k) := by decide +kernel
abbrev cX1_init : ByteArray := prog_3_method_1_code
def yX1_init : MethodName := ⟨RX1, "<init>", "()V"⟩
abbrev cX1_faultOf : ByteArray := prog_3_method_2_code
def yX1_faultOf : MethodName := ⟨RX1, "faultOf", "(LHerringSea$Text;)I"⟩
abbrev cX1_takes : ByteArray := prog_3_method_3_code
def yX1_takes : MethodName := ⟨RX1, "takes", "(I)Z"⟩
abbrev cX1_takesUnit : ByteArray := prog_3_method_4_code
def yX1_takesUnit : MethodName := ⟨RX1, "takesUnit", "(I)Z"⟩
abbrev cX1_takesSign : ByteArray := prog_3_method_5_code
def yX1_takesSign : MethodName := ⟨RX1, "takesSign", "(I)Z"⟩
abbrev cX1_takesFirstDigit : ByteArray := prog_3_method_6_code
def yX1_takesFirstDigit : MethodName := ⟨RX1, "takesFirstDigit", "(I)Z"⟩
abbrev cX1_takesBehindUnit : ByteArray := prog_3_method_7_code
def yX1_takesBehindUnit : MethodName := ⟨RX1, "takesBehindUnit", "(I)Z"⟩
abbrev cX1_isDigit : ByteArray := prog_3_method_8_code
def yX1_isDigit : MethodName := ⟨RX1, "isDigit", "(I)Z"⟩
def RX2 : String := "HerringSea$Lot"
def TX2 : u_T := fun k => match k with
  | 0 => ("HerringSea$Lot", "night", "I", true)
  | 1 => ("HerringSea$Lot", "boat", "I", true)
  | 2 => ("HerringSea$Lot", "cell", "I", true)
  | 3 => ("HerringSea$Lot", "yard", "I", true)
  | 4 => ("HerringSea$Lot", "crans", "I", true)
  | 5 => ("HerringSea$Lot", "minute", "I", true)
  | 6 => ("HerringSea$Lot", "price", "I", true)
  | 7 => ("HerringSea$Lot", "cured", "I", false)
  | 8 => ("HerringSea$Lot", "spoilt", "I", false)
  | 9 => ("HerringSea$Lot", "greatestWait", "I", false)
  | _ => ("HerringSea$Lot", "doneAt", "I", false)
def tyX2 : Nat → FieldType := fun k => match k with
  | 0 => .int
  | 1 => .int
  | 2 => .int
  | 3 => .int
  | 4 => .int
  | 5 => .int
  | 6 => .int
  | 7 => .int
  | 8 => .int
  | 9 => .int
  | _ => .int
theorem nmX2 : ∀ a, a < 11 → ∀ b, b < 11 → a ≠ b → (TX2 a).2.1 ≠ (TX2 b).2.1 := by decide +kernel
theorem tyX2_ok : ∀ k, k < 11 → parseFieldDescriptor (TX2 k).2.2.1 = some (tyX2 k) := by decide +kernel
abbrev cX2_init : ByteArray := prog_4_method_1_code
def yX2_init : MethodName := ⟨RX2, "<init>", "(IIIIIII)V"⟩
abbrev cX2_cureOne : ByteArray := prog_4_method_2_code
def yX2_cureOne : MethodName := ⟨RX2, "cureOne", "(I)V"⟩
abbrev cX2_measure : ByteArray := prog_4_method_3_code
def yX2_measure : MethodName := ⟨RX2, "measure", "(II)I"⟩
def RX3 : String := "HerringSea$Parting"
def TX3 : u_T := fun k => match k with
  | 0 => ("HerringSea$Parting", "portions", "[I", true)
  | 1 => ("HerringSea$Parting", "measures", "[I", true)
  | 2 => ("HerringSea$Parting", "rests", "[I", true)
  | _ => ("HerringSea$Parting", "sum", "I", false)
def tyX3 : Nat → FieldType := fun k => match k with
  | 0 => .array .int
  | 1 => .array .int
  | 2 => .array .int
  | _ => .int
theorem nmX3 : ∀ a, a < 4 → ∀ b, b < 4 → a ≠ b → (TX3 a).2.1 ≠ (TX3 b).2.1 := by decide +kernel
theorem tyX3_ok : ∀ k, k < 4 → parseFieldDescriptor (TX3 k).2.2.1 = some (tyX3 k) := by decide +kernel
abbrev cX3_init : ByteArray := prog_5_method_1_code
def yX3_init : MethodName := ⟨RX3, "<init>", "()V"⟩
abbrev cX3_clear : ByteArray := prog_5_method_2_code
def yX3_clear : MethodName := ⟨RX3, "clear", "()V"⟩
abbrev cX3_addMeasure : ByteArray := prog_5_method_3_code
def yX3_addMeasure : MethodName := ⟨RX3, "addMeasure", "(II)V"⟩
abbrev cX3_part : ByteArray := prog_5_method_4_code
def yX3_part : MethodName := ⟨RX3, "part", "(I)V"⟩
abbrev cX3_greatestRest : ByteArray := prog_5_method_5_code
def yX3_greatestRest : MethodName := ⟨RX3, "greatestRest", "()I"⟩
def RX4 : String := "HerringSea$Sea"
def TX4 : u_T := fun k => match k with
  | 0 => ("HerringSea$Sea", "crans", "[I", true)
  | 1 => ("HerringSea$Sea", "isOpen", "[Z", true)
  | 2 => ("HerringSea$Sea", "change", "[I", true)
  | 3 => ("HerringSea$Sea", "way", "I", false)
  | _ => ("HerringSea$Sea", "goneToSea", "I", false)
def tyX4 : Nat → FieldType := fun k => match k with
  | 0 => .array .int
  | 1 => .array .boolean
  | 2 => .array .int
  | 3 => .int
  | _ => .int
theorem nmX4 : ∀ a, a < 5 → ∀ b, b < 5 → a ≠ b → (TX4 a).2.1 ≠ (TX4 b).2.1 := by decide +kernel
theorem tyX4_ok : ∀ k, k < 5 → parseFieldDescriptor (TX4 k).2.2.1 = some (tyX4 k) := by decide +kernel
abbrev cX4_init : ByteArray := prog_6_method_1_code
def yX4_init : MethodName := ⟨RX4, "<init>", "()V"⟩
abbrev cX4_isCell : ByteArray := prog_6_method_2_code
def yX4_isCell : MethodName := ⟨RX4, "isCell", "(I)Z"⟩
abbrev cX4_stepsFrom : ByteArray := prog_6_method_3_code
def yX4_stepsFrom : MethodName := ⟨RX4, "stepsFrom", "(I)I"⟩
abbrev cX4_nextCell : ByteArray := prog_6_method_4_code
def yX4_nextCell : MethodName := ⟨RX4, "nextCell", "(II)I"⟩
abbrev cX4_moveShoals : ByteArray := prog_6_method_5_code
def yX4_moveShoals : MethodName := ⟨RX4, "moveShoals", "()V"⟩
abbrev cX4_cransInAll : ByteArray := prog_6_method_6_code
def yX4_cransInAll : MethodName := ⟨RX4, "cransInAll", "()I"⟩
def RX5 : String := "HerringSea$Text"
def TX5 : u_T := fun k => match k with
  | 0 => ("HerringSea$Text", "bytes", "[I", true)
  | _ => ("HerringSea$Text", "length", "I", false)
def tyX5 : Nat → FieldType := fun k => match k with
  | 0 => .array .int
  | _ => .int
theorem nmX5 : ∀ a, a < 2 → ∀ b, b < 2 → a ≠ b → (TX5 a).2.1 ≠ (TX5 b).2.1 := by decide +kernel
theorem tyX5_ok : ∀ k, k < 2 → parseFieldDescriptor (TX5 k).2.2.1 = some (tyX5 k) := by decide +kernel
abbrev cX5_init : ByteArray := prog_7_method_1_code
def yX5_init : MethodName := ⟨RX5, "<init>", "()V"⟩
abbrev cX5_bytesIn : ByteArray := prog_7_method_2_code
def yX5_bytesIn : MethodName := ⟨RX5, "bytesIn", "(I)I"⟩
abbrev cX5_addWord : ByteArray := prog_7_method_3_code
def yX5_addWord : MethodName := ⟨RX5, "addWord", "(I)V"⟩
abbrev cX5_byteAt : ByteArray := prog_7_method_4_code
def yX5_byteAt : MethodName := ⟨RX5, "byteAt", "(I)I"⟩
abbrev cX5_copyFrom : ByteArray := prog_7_method_5_code
def yX5_copyFrom : MethodName := ⟨RX5, "copyFrom", "(LHerringSea$Text;)V"⟩
def RX6 : String := "HerringSea$Verdict"
def TX6 : u_T := fun k => match k with
  | 0 => ("HerringSea$Verdict", "somePartHeld", "I", false)
  | 1 => ("HerringSea$Verdict", "allUnitsHold", "I", false)
  | 2 => ("HerringSea$Verdict", "letter", "I", false)
  | 3 => ("HerringSea$Verdict", "sign", "I", false)
  | _ => ("HerringSea$Verdict", "number", "I", false)
def tyX6 : Nat → FieldType := fun k => match k with
  | 0 => .int
  | 1 => .int
  | 2 => .int
  | 3 => .int
  | _ => .int
theorem nmX6 : ∀ a, a < 5 → ∀ b, b < 5 → a ≠ b → (TX6 a).2.1 ≠ (TX6 b).2.1 := by decide +kernel
theorem tyX6_ok : ∀ k, k < 5 → parseFieldDescriptor (TX6 k).2.2.1 = some (tyX6 k) := by decide +kernel
abbrev cX6_init : ByteArray := prog_8_method_1_code
def yX6_init : MethodName := ⟨RX6, "<init>", "()V"⟩
abbrev cX6_holds : ByteArray := prog_8_method_2_code
def yX6_holds : MethodName := ⟨RX6, "holds", "(LHerringSea$Text;LHerringSea$Lot;I)Z"⟩
abbrev cX6_read : ByteArray := prog_8_method_3_code
def yX6_read : MethodName := ⟨RX6, "read", "(ILHerringSea$Lot;I)V"⟩
abbrev cX6_endComparison : ByteArray := prog_8_method_4_code
def yX6_endComparison : MethodName := ⟨RX6, "endComparison", "(LHerringSea$Lot;I)V"⟩
abbrev cX6_compares : ByteArray := prog_8_method_5_code
def yX6_compares : MethodName := ⟨RX6, "compares", "(I)Z"⟩
abbrev cX6_addUnit : ByteArray := prog_8_method_6_code
def yX6_addUnit : MethodName := ⟨RX6, "addUnit", "(Z)V"⟩
abbrev cX6_endPart : ByteArray := prog_8_method_7_code
def yX6_endPart : MethodName := ⟨RX6, "endPart", "()V"⟩
abbrev cX6_endBracket : ByteArray := prog_8_method_8_code
def yX6_endBracket : MethodName := ⟨RX6, "endBracket", "()V"⟩
def RX7 : String := "HerringSea$Yard"
def TX7 : u_T := fun k => match k with
  | 0 => ("HerringSea$Yard", "freeAt", "[I", true)
  | 1 => ("HerringSea$Yard", "crews", "I", true)
  | 2 => ("HerringSea$Yard", "room", "I", true)
  | 3 => ("HerringSea$Yard", "bid", "I", false)
  | _ => ("HerringSea$Yard", "roomLeft", "I", false)
def tyX7 : Nat → FieldType := fun k => match k with
  | 0 => .array .int
  | 1 => .int
  | 2 => .int
  | 3 => .int
  | _ => .int
theorem nmX7 : ∀ a, a < 5 → ∀ b, b < 5 → a ≠ b → (TX7 a).2.1 ≠ (TX7 b).2.1 := by decide +kernel
theorem tyX7_ok : ∀ k, k < 5 → parseFieldDescriptor (TX7 k).2.2.1 = some (tyX7 k) := by decide +kernel
abbrev cX7_init : ByteArray := prog_9_method_1_code
def yX7_init : MethodName := ⟨RX7, "<init>", "(II)V"⟩
abbrev cX7_beginDay : ByteArray := prog_9_method_2_code
def yX7_beginDay : MethodName := ⟨RX7, "beginDay", "()V"⟩
abbrev cX7_gut : ByteArray := prog_9_method_3_code
def yX7_gut : MethodName := ⟨RX7, "gut", "(LHerringSea$Lot;I)V"⟩
abbrev cX7_firstFreeCrew : ByteArray := prog_9_method_4_code
def yX7_firstFreeCrew : MethodName := ⟨RX7, "firstFreeCrew", "()I"⟩
def RX8 : String := "HerringSea"
def TX8 : u_T := fun k => match k with
  | 0 => ("HerringSea", "sea", "LHerringSea$Sea;", true)
  | 1 => ("HerringSea", "boats", "[LHerringSea$Boat;", true)
  | 2 => ("HerringSea", "yards", "[LHerringSea$Yard;", true)
  | 3 => ("HerringSea", "lots", "[LHerringSea$Lot;", true)
  | 4 => ("HerringSea", "tape", "LHerringSea$Text;", true)
  | 5 => ("HerringSea", "brands", "[LHerringSea$Text;", true)
  | 6 => ("HerringSea", "parting", "LHerringSea$Parting;", true)
  | 7 => ("HerringSea", "grammar", "LHerringSea$Grammar;", true)
  | 8 => ("HerringSea", "verdict", "LHerringSea$Verdict;", true)
  | 9 => ("HerringSea", "boatCount", "I", false)
  | 10 => ("HerringSea", "yardCount", "I", false)
  | 11 => ("HerringSea", "lotCount", "I", false)
  | 12 => ("HerringSea", "now", "I", false)
  | 13 => ("HerringSea", "softMinutes", "I", false)
  | 14 => ("HerringSea", "takenInAll", "I", false)
  | 15 => ("HerringSea", "curedInAll", "I", false)
  | 16 => ("HerringSea", "spoiltInAll", "I", false)
  | _ => ("HerringSea", "thrownAway", "I", false)
def tyX8 : Nat → FieldType := fun k => match k with
  | 0 => .object "HerringSea$Sea"
  | 1 => .array (.object "HerringSea$Boat")
  | 2 => .array (.object "HerringSea$Yard")
  | 3 => .array (.object "HerringSea$Lot")
  | 4 => .object "HerringSea$Text"
  | 5 => .array (.object "HerringSea$Text")
  | 6 => .object "HerringSea$Parting"
  | 7 => .object "HerringSea$Grammar"
  | 8 => .object "HerringSea$Verdict"
  | 9 => .int
  | 10 => .int
  | 11 => .int
  | 12 => .int
  | 13 => .int
  | 14 => .int
  | 15 => .int
  | 16 => .int
  | _ => .int
theorem nmX8 : ∀ a, a < 18 → ∀ b, b < 18 → a ≠ b → (TX8 a).2.1 ≠ (TX8 b).2.1 := by decide +kernel
theorem tyX8_ok : ∀ k, k < 18 → parseFieldDescriptor (TX8 k).2.2.1 = some (tyX8 k) := by decide +kernel
abbrev cX8_init : ByteArray := prog_1_method_1_code
def yX8_init : MethodName := ⟨RX8, "<init>", "()V"⟩
abbrev cX8_shoal : ByteArray := prog_1_method_2_code
def yX8_shoal : MethodName := ⟨RX8, "shoal", "(II)Z"⟩
abbrev cX8_open : ByteArray := prog_1_method_3_code
def yX8_open : MethodName := ⟨RX8, "open", "(IZ)Z"⟩
abbrev cX8_drift : ByteArray := prog_1_method_4_code
def yX8_drift : MethodName := ⟨RX8, "drift", "(I)Z"⟩
abbrev cX8_boat : ByteArray := prog_1_method_5_code
def yX8_boat : MethodName := ⟨RX8, "boat", "(I)I"⟩
abbrev cX8_go : ByteArray := prog_1_method_6_code
def yX8_go : MethodName := ⟨RX8, "go", "(II)Z"⟩
abbrev cX8_mend : ByteArray := prog_1_method_7_code
def yX8_mend : MethodName := ⟨RX8, "mend", "(II)I"⟩
abbrev cX8_yard : ByteArray := prog_1_method_8_code
def yX8_yard : MethodName := ⟨RX8, "yard", "(II)I"⟩
abbrev cX8_bid : ByteArray := prog_1_method_9_code
def yX8_bid : MethodName := ⟨RX8, "bid", "(II)Z"⟩
abbrev cX8_soft : ByteArray := prog_1_method_10_code
def yX8_soft : MethodName := ⟨RX8, "soft", "(I)Z"⟩
abbrev cX8_night : ByteArray := prog_1_method_11_code
def yX8_night : MethodName := ⟨RX8, "night", "(Z)I"⟩
abbrev cX8_feed : ByteArray := prog_1_method_12_code
def yX8_feed : MethodName := ⟨RX8, "feed", "(IIIII)I"⟩
abbrev cX8_end : ByteArray := prog_1_method_13_code
def yX8_end : MethodName := ⟨RX8, "end", "(I)Z"⟩
abbrev cX8_fault : ByteArray := prog_1_method_14_code
def yX8_fault : MethodName := ⟨RX8, "fault", "()I"⟩
abbrev cX8_brand : ByteArray := prog_1_method_15_code
def yX8_brand : MethodName := ⟨RX8, "brand", "(I)Z"⟩
abbrev cX8_judge : ByteArray := prog_1_method_16_code
def yX8_judge : MethodName := ⟨RX8, "judge", "(II)I"⟩
abbrev cX8_branded : ByteArray := prog_1_method_17_code
def yX8_branded : MethodName := ⟨RX8, "branded", "(I)I"⟩
abbrev cX8_share : ByteArray := prog_1_method_18_code
def yX8_share : MethodName := ⟨RX8, "share", "(III)Z"⟩
abbrev cX8_settle : ByteArray := prog_1_method_19_code
def yX8_settle : MethodName := ⟨RX8, "settle", "(I)I"⟩
abbrev cX8_coins : ByteArray := prog_1_method_20_code
def yX8_coins : MethodName := ⟨RX8, "coins", "(II)I"⟩
abbrev cX8_cell : ByteArray := prog_1_method_21_code
def yX8_cell : MethodName := ⟨RX8, "cell", "(II)I"⟩
abbrev cX8_told : ByteArray := prog_1_method_22_code
def yX8_told : MethodName := ⟨RX8, "told", "(II)I"⟩
abbrev cX8_lot : ByteArray := prog_1_method_23_code
def yX8_lot : MethodName := ⟨RX8, "lot", "(II)I"⟩
abbrev cX8_count : ByteArray := prog_1_method_24_code
def yX8_count : MethodName := ⟨RX8, "count", "(I)I"⟩
abbrev cX8_isWithin : ByteArray := prog_1_method_25_code
def yX8_isWithin : MethodName := ⟨RX8, "isWithin", "(III)Z"⟩
abbrev cX8_boatAt : ByteArray := prog_1_method_26_code
def yX8_boatAt : MethodName := ⟨RX8, "boatAt", "(I)LHerringSea$Boat;"⟩
abbrev cX8_yardAt : ByteArray := prog_1_method_27_code
def yX8_yardAt : MethodName := ⟨RX8, "yardAt", "(I)LHerringSea$Yard;"⟩
abbrev cX8_lotAt : ByteArray := prog_1_method_28_code
def yX8_lotAt : MethodName := ⟨RX8, "lotAt", "(I)LHerringSea$Lot;"⟩
abbrev cX8_textAt : ByteArray := prog_1_method_29_code
def yX8_textAt : MethodName := ⟨RX8, "textAt", "(I)LHerringSea$Text;"⟩
abbrev cX8_owedInAll : ByteArray := prog_1_method_30_code
def yX8_owedInAll : MethodName := ⟨RX8, "owedInAll", "()I"⟩
abbrev cX8_beginNight : ByteArray := prog_1_method_31_code
def yX8_beginNight : MethodName := ⟨RX8, "beginNight", "(Z)V"⟩
abbrev cX8_isStormy : ByteArray := prog_1_method_32_code
def yX8_isStormy : MethodName := ⟨RX8, "isStormy", "(IZ)Z"⟩
abbrev cX8_haulEverywhere : ByteArray := prog_1_method_33_code
def yX8_haulEverywhere : MethodName := ⟨RX8, "haulEverywhere", "(Z)I"⟩
abbrev cX8_haulIn : ByteArray := prog_1_method_34_code
def yX8_haulIn : MethodName := ⟨RX8, "haulIn", "(I)I"⟩
abbrev cX8_sellAllCatches : ByteArray := prog_1_method_35_code
def yX8_sellAllCatches : MethodName := ⟨RX8, "sellAllCatches", "()V"⟩
abbrev cX8_sellCatch : ByteArray := prog_1_method_36_code
def yX8_sellCatch : MethodName := ⟨RX8, "sellCatch", "(ILHerringSea$Boat;I)V"⟩
abbrev cX8_bestBidder : ByteArray := prog_1_method_37_code
def yX8_bestBidder : MethodName := ⟨RX8, "bestBidder", "()I"⟩
abbrev cX8_gutLotsFrom : ByteArray := prog_1_method_38_code
def yX8_gutLotsFrom : MethodName := ⟨RX8, "gutLotsFrom", "(I)V"⟩
abbrev cX8_gutLot : ByteArray := prog_1_method_39_code
def yX8_gutLot : MethodName := ⟨RX8, "gutLot", "(LHerringSea$Lot;)V"⟩
def RX9 : String := "HerringSeaModel"
def TX9 : u_T := fun k => match k with
  | 0 => ("HerringSeaModel", "crans", "[I", true)
  | 1 => ("HerringSeaModel", "open", "[Z", true)
  | 2 => ("HerringSeaModel", "nets", "[I", true)
  | 3 => ("HerringSeaModel", "cellOf", "[I", true)
  | 4 => ("HerringSeaModel", "took", "[I", true)
  | 5 => ("HerringSeaModel", "tookNow", "[I", true)
  | 6 => ("HerringSeaModel", "owed", "[I", true)
  | 7 => ("HerringSeaModel", "lost", "[I", true)
  | 8 => ("HerringSeaModel", "parts", "[I", true)
  | 9 => ("HerringSeaModel", "coins", "[I", true)
  | 10 => ("HerringSeaModel", "crews", "[I", true)
  | 11 => ("HerringSeaModel", "room", "[I", true)
  | 12 => ("HerringSeaModel", "bids", "[I", true)
  | 13 => ("HerringSeaModel", "lotNight", "[I", true)
  | 14 => ("HerringSeaModel", "lotBoat", "[I", true)
  | 15 => ("HerringSeaModel", "lotCell", "[I", true)
  | 16 => ("HerringSeaModel", "lotYard", "[I", true)
  | 17 => ("HerringSeaModel", "lotCrans", "[I", true)
  | 18 => ("HerringSeaModel", "lotCured", "[I", true)
  | 19 => ("HerringSeaModel", "lotSpoilt", "[I", true)
  | 20 => ("HerringSeaModel", "lotMinute", "[I", true)
  | 21 => ("HerringSeaModel", "lotPrice", "[I", true)
  | 22 => ("HerringSeaModel", "lotWait", "[I", true)
  | 23 => ("HerringSeaModel", "lotDone", "[I", true)
  | 24 => ("HerringSeaModel", "now", "I", false)
  | 25 => ("HerringSeaModel", "boats", "I", false)
  | 26 => ("HerringSeaModel", "yards", "I", false)
  | 27 => ("HerringSeaModel", "lots", "I", false)
  | 28 => ("HerringSeaModel", "way", "I", false)
  | 29 => ("HerringSeaModel", "soft", "I", false)
  | 30 => ("HerringSeaModel", "taken", "I", false)
  | 31 => ("HerringSeaModel", "cured", "I", false)
  | 32 => ("HerringSeaModel", "spoilt", "I", false)
  | 33 => ("HerringSeaModel", "atSea", "I", false)
  | 34 => ("HerringSeaModel", "thrown", "I", false)
  | 35 => ("HerringSeaModel", "measure", "[I", true)
  | 36 => ("HerringSeaModel", "share", "[I", true)
  | 37 => ("HerringSeaModel", "more", "[Z", true)
  | 38 => ("HerringSeaModel", "who", "[I", true)
  | 39 => ("HerringSeaModel", "come", "[I", true)
  | 40 => ("HerringSeaModel", "left", "[I", true)
  | 41 => ("HerringSeaModel", "sold", "[Z", true)
  | 42 => ("HerringSeaModel", "free", "[I", true)
  | 43 => ("HerringSeaModel", "tape", "[I", true)
  | 44 => ("HerringSeaModel", "codes", "[I", true)
  | 45 => ("HerringSeaModel", "saying", "[I", true)
  | 46 => ("HerringSeaModel", "has", "[Z", true)
  | 47 => ("HerringSeaModel", "size", "I", false)
  | 48 => ("HerringSeaModel", "at", "I", false)
  | 49 => ("HerringSeaModel", "wrong", "I", false)
  | 50 => ("HerringSeaModel", "deep", "I", false)
  | 51 => ("HerringSeaModel", "said", "I", false)
  | _ => ("HerringSeaModel", "pile", "[Z", true)
def tyX9 : Nat → FieldType := fun k => match k with
  | 0 => .array .int
  | 1 => .array .boolean
  | 2 => .array .int
  | 3 => .array .int
  | 4 => .array .int
  | 5 => .array .int
  | 6 => .array .int
  | 7 => .array .int
  | 8 => .array .int
  | 9 => .array .int
  | 10 => .array .int
  | 11 => .array .int
  | 12 => .array .int
  | 13 => .array .int
  | 14 => .array .int
  | 15 => .array .int
  | 16 => .array .int
  | 17 => .array .int
  | 18 => .array .int
  | 19 => .array .int
  | 20 => .array .int
  | 21 => .array .int
  | 22 => .array .int
  | 23 => .array .int
  | 24 => .int
  | 25 => .int
  | 26 => .int
  | 27 => .int
  | 28 => .int
  | 29 => .int
  | 30 => .int
  | 31 => .int
  | 32 => .int
  | 33 => .int
  | 34 => .int
  | 35 => .array .int
  | 36 => .array .int
  | 37 => .array .boolean
  | 38 => .array .int
  | 39 => .array .int
  | 40 => .array .int
  | 41 => .array .boolean
  | 42 => .array .int
  | 43 => .array .int
  | 44 => .array .int
  | 45 => .array .int
  | 46 => .array .boolean
  | 47 => .int
  | 48 => .int
  | 49 => .int
  | 50 => .int
  | 51 => .int
  | _ => .array .boolean
theorem nmX9 : ∀ a, a < 53 → ∀ b, b < 53 → a ≠ b → (TX9 a).2.1 ≠ (TX9 b).2.1 := by decide +kernel
theorem tyX9_ok : ∀ k, k < 53 → parseFieldDescriptor (TX9 k).2.2.1 = some (tyX9 k) := by decide +kernel
abbrev cX9_init : ByteArray := prog_11_method_1_code
def yX9_init : MethodName := ⟨RX9, "<init>", "()V"⟩
abbrev cX9_in : ByteArray := prog_11_method_2_code
def yX9_in : MethodName := ⟨RX9, "in", "(III)Z"⟩
abbrev cX9_isBoat : ByteArray := prog_11_method_3_code
def yX9_isBoat : MethodName := ⟨RX9, "isBoat", "(I)Z"⟩
abbrev cX9_partAmong : ByteArray := prog_11_method_4_code
def yX9_partAmong : MethodName := ⟨RX9, "partAmong", "(JI)V"⟩
abbrev cX9_shoal : ByteArray := prog_11_method_5_code
def yX9_shoal : MethodName := ⟨RX9, "shoal", "(II)Z"⟩
abbrev cX9_open : ByteArray := prog_11_method_6_code
def yX9_open : MethodName := ⟨RX9, "open", "(IZ)Z"⟩
abbrev cX9_drift : ByteArray := prog_11_method_7_code
def yX9_drift : MethodName := ⟨RX9, "drift", "(I)Z"⟩
abbrev cX9_boat : ByteArray := prog_11_method_8_code
def yX9_boat : MethodName := ⟨RX9, "boat", "(I)I"⟩
abbrev cX9_go : ByteArray := prog_11_method_9_code
def yX9_go : MethodName := ⟨RX9, "go", "(II)Z"⟩
abbrev cX9_mend : ByteArray := prog_11_method_10_code
def yX9_mend : MethodName := ⟨RX9, "mend", "(II)I"⟩
abbrev cX9_yard : ByteArray := prog_11_method_11_code
def yX9_yard : MethodName := ⟨RX9, "yard", "(II)I"⟩
abbrev cX9_bid : ByteArray := prog_11_method_12_code
def yX9_bid : MethodName := ⟨RX9, "bid", "(II)Z"⟩
abbrev cX9_soft : ByteArray := prog_11_method_13_code
def yX9_soft : MethodName := ⟨RX9, "soft", "(I)Z"⟩
abbrev cX9_haul : ByteArray := prog_11_method_14_code
def yX9_haul : MethodName := ⟨RX9, "haul", "(I)I"⟩
abbrev cX9_storm : ByteArray := prog_11_method_15_code
def yX9_storm : MethodName := ⟨RX9, "storm", "()V"⟩
abbrev cX9_beside : ByteArray := prog_11_method_16_code
def yX9_beside : MethodName := ⟨RX9, "beside", "(I)I"⟩
abbrev cX9_driftAll : ByteArray := prog_11_method_17_code
def yX9_driftAll : MethodName := ⟨RX9, "driftAll", "()V"⟩
abbrev cX9_minute : ByteArray := prog_11_method_18_code
def yX9_minute : MethodName := ⟨RX9, "minute", "(I)I"⟩
abbrev cX9_nextBoat : ByteArray := prog_11_method_19_code
def yX9_nextBoat : MethodName := ⟨RX9, "nextBoat", "()I"⟩
abbrev cX9_bestYard : ByteArray := prog_11_method_20_code
def yX9_bestYard : MethodName := ⟨RX9, "bestYard", "()I"⟩
abbrev cX9_sellAll : ByteArray := prog_11_method_21_code
def yX9_sellAll : MethodName := ⟨RX9, "sellAll", "()V"⟩
abbrev cX9_sell : ByteArray := prog_11_method_22_code
def yX9_sell : MethodName := ⟨RX9, "sell", "(III)V"⟩
abbrev cX9_work : ByteArray := prog_11_method_23_code
def yX9_work : MethodName := ⟨RX9, "work", "(II)V"⟩
abbrev cX9_night : ByteArray := prog_11_method_24_code
def yX9_night : MethodName := ⟨RX9, "night", "(Z)I"⟩
abbrev cX9_byteOf : ByteArray := prog_11_method_25_code
def yX9_byteOf : MethodName := ⟨RX9, "byteOf", "(IIIIII)I"⟩
abbrev cX9_feed : ByteArray := prog_11_method_26_code
def yX9_feed : MethodName := ⟨RX9, "feed", "(IIIII)I"⟩
abbrev cX9_end : ByteArray := prog_11_method_27_code
def yX9_end : MethodName := ⟨RX9, "end", "(I)Z"⟩
abbrev cX9_look : ByteArray := prog_11_method_28_code
def yX9_look : MethodName := ⟨RX9, "look", "()I"⟩
abbrev cX9_fail : ByteArray := prog_11_method_29_code
def yX9_fail : MethodName := ⟨RX9, "fail", "()V"⟩
abbrev cX9_say : ByteArray := prog_11_method_30_code
def yX9_say : MethodName := ⟨RX9, "say", "(I)V"⟩
abbrev cX9_unit : ByteArray := prog_11_method_31_code
def yX9_unit : MethodName := ⟨RX9, "unit", "()V"⟩
abbrev cX9_number : ByteArray := prog_11_method_32_code
def yX9_number : MethodName := ⟨RX9, "number", "()V"⟩
abbrev cX9_part : ByteArray := prog_11_method_33_code
def yX9_part : MethodName := ⟨RX9, "part", "()V"⟩
abbrev cX9_whole : ByteArray := prog_11_method_34_code
def yX9_whole : MethodName := ⟨RX9, "whole", "()V"⟩
abbrev cX9_fault : ByteArray := prog_11_method_35_code
def yX9_fault : MethodName := ⟨RX9, "fault", "()I"⟩
abbrev cX9_brand : ByteArray := prog_11_method_36_code
def yX9_brand : MethodName := ⟨RX9, "brand", "(I)Z"⟩
abbrev cX9_value : ByteArray := prog_11_method_37_code
def yX9_value : MethodName := ⟨RX9, "value", "(II)I"⟩
abbrev cX9_holds : ByteArray := prog_11_method_38_code
def yX9_holds : MethodName := ⟨RX9, "holds", "(II)Z"⟩
abbrev cX9_isLot : ByteArray := prog_11_method_39_code
def yX9_isLot : MethodName := ⟨RX9, "isLot", "(I)Z"⟩
abbrev cX9_judge : ByteArray := prog_11_method_40_code
def yX9_judge : MethodName := ⟨RX9, "judge", "(II)I"⟩
abbrev cX9_branded : ByteArray := prog_11_method_41_code
def yX9_branded : MethodName := ⟨RX9, "branded", "(I)I"⟩
abbrev cX9_share : ByteArray := prog_11_method_42_code
def yX9_share : MethodName := ⟨RX9, "share", "(III)Z"⟩
abbrev cX9_settle : ByteArray := prog_11_method_43_code
def yX9_settle : MethodName := ⟨RX9, "settle", "(I)I"⟩
abbrev cX9_coins : ByteArray := prog_11_method_44_code
def yX9_coins : MethodName := ⟨RX9, "coins", "(II)I"⟩
abbrev cX9_cell : ByteArray := prog_11_method_45_code
def yX9_cell : MethodName := ⟨RX9, "cell", "(II)I"⟩
abbrev cX9_told : ByteArray := prog_11_method_46_code
def yX9_told : MethodName := ⟨RX9, "told", "(II)I"⟩
abbrev cX9_lot : ByteArray := prog_11_method_47_code
def yX9_lot : MethodName := ⟨RX9, "lot", "(II)I"⟩
abbrev cX9_count : ByteArray := prog_11_method_48_code
def yX9_count : MethodName := ⟨RX9, "count", "(I)I"⟩
def RJ9 : String := "java/lang/Math"
def TJ9 : u_T := fun k => match k with
  | _ => ("", "", "", false)
def tyJ9 : Nat → FieldType := fun k => match k with
  | _ => .int
theorem nmJ9 : ∀ a, a < 0 → ∀ b, b < 0 → a ≠ b → (TJ9 a).2.1 ≠ (TJ9 b).2.1 := by decide +kernel
theorem tyJ9_ok : ∀ k, k < 0 → parseFieldDescriptor (TJ9 k).2.2.1 = some (tyJ9 k) := by decide +kernel
abbrev cJ9_max_7cf53 : ByteArray := prog_12_method_65_code
def yJ9_max_7cf53 : MethodName := ⟨RJ9, "max", "(II)I"⟩
abbrev cJ9_min_7cf53 : ByteArray := prog_12_method_69_code
def yJ9_min_7cf53 : MethodName := ⟨RJ9, "min", "(II)I"⟩
def RL : String := "HerringSeaLaw"
abbrev vwCl : List vw_C := [(RX0, TX0, 8), (RX1, TX1, 3), (RX2, TX2, 11), (RX3, TX3, 4), (RX4, TX4, 5), (RX5, TX5, 2), (RX6, TX6, 5), (RX7, TX7, 5), (RX8, TX8, 18), (RX9, TX9, 53)]
abbrev cL_law : ByteArray := code
