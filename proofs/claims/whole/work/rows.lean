section
/-- a private method of a class that the tables say can be made, by its rows of tables_1 -/
def lw_okq (q : MethodName × Nat) : Prop := (q.1.cls ≠ "java/lang/invoke/MethodHandle" ∧ q.1.cls ≠ "java/lang/invoke/VarHandle") ∧ Cond.instantiable q.1.cls q.2 ∈ tables_1 ∧ Cond.privateMethod q.1 ∈ tables_1 ∧ Cond.instanceMethod q.1 ∈ tables_1
theorem lw_p0 : lw_okq (⟨"HerringSea", "boatAt", "(I)LHerringSea$Boat;"⟩, 18) := ⟨⟨by decide +kernel, by decide +kernel⟩, List.mem_of_getElem? (i := 13) (by decide +kernel), List.mem_of_getElem? (i := 249) (by decide +kernel), List.mem_of_getElem? (i := 250) (by decide +kernel)⟩
theorem lw_p1 : lw_okq (⟨"HerringSea", "yardAt", "(I)LHerringSea$Yard;"⟩, 18) := ⟨⟨by decide +kernel, by decide +kernel⟩, List.mem_of_getElem? (i := 13) (by decide +kernel), List.mem_of_getElem? (i := 290) (by decide +kernel), List.mem_of_getElem? (i := 291) (by decide +kernel)⟩
theorem lw_p2 : lw_okq (⟨"HerringSea", "beginNight", "(Z)V"⟩, 18) := ⟨⟨by decide +kernel, by decide +kernel⟩, List.mem_of_getElem? (i := 13) (by decide +kernel), List.mem_of_getElem? (i := 302) (by decide +kernel), List.mem_of_getElem? (i := 303) (by decide +kernel)⟩
theorem lw_p3 : lw_okq (⟨"HerringSea", "isStormy", "(IZ)Z"⟩, 18) := ⟨⟨by decide +kernel, by decide +kernel⟩, List.mem_of_getElem? (i := 13) (by decide +kernel), List.mem_of_getElem? (i := 306) (by decide +kernel), List.mem_of_getElem? (i := 307) (by decide +kernel)⟩
theorem lw_p4 : lw_okq (⟨"HerringSea", "haulEverywhere", "(Z)I"⟩, 18) := ⟨⟨by decide +kernel, by decide +kernel⟩, List.mem_of_getElem? (i := 13) (by decide +kernel), List.mem_of_getElem? (i := 318) (by decide +kernel), List.mem_of_getElem? (i := 319) (by decide +kernel)⟩
theorem lw_p5 : lw_okq (⟨"HerringSea", "haulIn", "(I)I"⟩, 18) := ⟨⟨by decide +kernel, by decide +kernel⟩, List.mem_of_getElem? (i := 13) (by decide +kernel), List.mem_of_getElem? (i := 322) (by decide +kernel), List.mem_of_getElem? (i := 323) (by decide +kernel)⟩
theorem lw_p6 : lw_okq (⟨"HerringSea$Parting", "greatestRest", "()I"⟩, 4) := ⟨⟨by decide +kernel, by decide +kernel⟩, List.mem_of_getElem? (i := 72) (by decide +kernel), List.mem_of_getElem? (i := 339) (by decide +kernel), List.mem_of_getElem? (i := 340) (by decide +kernel)⟩
theorem lw_p7 : lw_okq (⟨"HerringSea", "sellAllCatches", "()V"⟩, 18) := ⟨⟨by decide +kernel, by decide +kernel⟩, List.mem_of_getElem? (i := 13) (by decide +kernel), List.mem_of_getElem? (i := 356) (by decide +kernel), List.mem_of_getElem? (i := 357) (by decide +kernel)⟩
theorem lw_p8 : lw_okq (⟨"HerringSea", "sellCatch", "(ILHerringSea$Boat;I)V"⟩, 18) := ⟨⟨by decide +kernel, by decide +kernel⟩, List.mem_of_getElem? (i := 13) (by decide +kernel), List.mem_of_getElem? (i := 363) (by decide +kernel), List.mem_of_getElem? (i := 364) (by decide +kernel)⟩
theorem lw_p9 : lw_okq (⟨"HerringSea", "bestBidder", "()I"⟩, 18) := ⟨⟨by decide +kernel, by decide +kernel⟩, List.mem_of_getElem? (i := 13) (by decide +kernel), List.mem_of_getElem? (i := 367) (by decide +kernel), List.mem_of_getElem? (i := 368) (by decide +kernel)⟩
theorem lw_p10 : lw_okq (⟨"HerringSea", "gutLotsFrom", "(I)V"⟩, 18) := ⟨⟨by decide +kernel, by decide +kernel⟩, List.mem_of_getElem? (i := 13) (by decide +kernel), List.mem_of_getElem? (i := 425) (by decide +kernel), List.mem_of_getElem? (i := 426) (by decide +kernel)⟩
theorem lw_p11 : lw_okq (⟨"HerringSea", "lotAt", "(I)LHerringSea$Lot;"⟩, 18) := ⟨⟨by decide +kernel, by decide +kernel⟩, List.mem_of_getElem? (i := 13) (by decide +kernel), List.mem_of_getElem? (i := 429) (by decide +kernel), List.mem_of_getElem? (i := 430) (by decide +kernel)⟩
theorem lw_p12 : lw_okq (⟨"HerringSea", "gutLot", "(LHerringSea$Lot;)V"⟩, 18) := ⟨⟨by decide +kernel, by decide +kernel⟩, List.mem_of_getElem? (i := 13) (by decide +kernel), List.mem_of_getElem? (i := 433) (by decide +kernel), List.mem_of_getElem? (i := 434) (by decide +kernel)⟩
theorem lw_p13 : lw_okq (⟨"HerringSea$Yard", "firstFreeCrew", "()I"⟩, 5) := ⟨⟨by decide +kernel, by decide +kernel⟩, List.mem_of_getElem? (i := 260) (by decide +kernel), List.mem_of_getElem? (i := 441) (by decide +kernel), List.mem_of_getElem? (i := 442) (by decide +kernel)⟩
theorem lw_p14 : lw_okq (⟨"HerringSea$Grammar", "takes", "(I)Z"⟩, 3) := ⟨⟨by decide +kernel, by decide +kernel⟩, List.mem_of_getElem? (i := 93) (by decide +kernel), List.mem_of_getElem? (i := 480) (by decide +kernel), List.mem_of_getElem? (i := 481) (by decide +kernel)⟩
theorem lw_p15 : lw_okq (⟨"HerringSea$Grammar", "takesUnit", "(I)Z"⟩, 3) := ⟨⟨by decide +kernel, by decide +kernel⟩, List.mem_of_getElem? (i := 93) (by decide +kernel), List.mem_of_getElem? (i := 484) (by decide +kernel), List.mem_of_getElem? (i := 485) (by decide +kernel)⟩
def lw_privs_1 : List (MethodName × Nat) := [(⟨"HerringSea", "boatAt", "(I)LHerringSea$Boat;"⟩, 18), (⟨"HerringSea", "yardAt", "(I)LHerringSea$Yard;"⟩, 18), (⟨"HerringSea", "beginNight", "(Z)V"⟩, 18), (⟨"HerringSea", "isStormy", "(IZ)Z"⟩, 18), (⟨"HerringSea", "haulEverywhere", "(Z)I"⟩, 18), (⟨"HerringSea", "haulIn", "(I)I"⟩, 18), (⟨"HerringSea$Parting", "greatestRest", "()I"⟩, 4), (⟨"HerringSea", "sellAllCatches", "()V"⟩, 18), (⟨"HerringSea", "sellCatch", "(ILHerringSea$Boat;I)V"⟩, 18), (⟨"HerringSea", "bestBidder", "()I"⟩, 18), (⟨"HerringSea", "gutLotsFrom", "(I)V"⟩, 18), (⟨"HerringSea", "lotAt", "(I)LHerringSea$Lot;"⟩, 18), (⟨"HerringSea", "gutLot", "(LHerringSea$Lot;)V"⟩, 18), (⟨"HerringSea$Yard", "firstFreeCrew", "()I"⟩, 5), (⟨"HerringSea$Grammar", "takes", "(I)Z"⟩, 3), (⟨"HerringSea$Grammar", "takesUnit", "(I)Z"⟩, 3)]
theorem lw_r1 : ∀ q ∈ lw_privs_1, lw_okq q := List.forall_mem_cons.mpr ⟨lw_p0, List.forall_mem_cons.mpr ⟨lw_p1, List.forall_mem_cons.mpr ⟨lw_p2, List.forall_mem_cons.mpr ⟨lw_p3, List.forall_mem_cons.mpr ⟨lw_p4, List.forall_mem_cons.mpr ⟨lw_p5, List.forall_mem_cons.mpr ⟨lw_p6, List.forall_mem_cons.mpr ⟨lw_p7, List.forall_mem_cons.mpr ⟨lw_p8, List.forall_mem_cons.mpr ⟨lw_p9, List.forall_mem_cons.mpr ⟨lw_p10, List.forall_mem_cons.mpr ⟨lw_p11, List.forall_mem_cons.mpr ⟨lw_p12, List.forall_mem_cons.mpr ⟨lw_p13, List.forall_mem_cons.mpr ⟨lw_p14, List.forall_mem_cons.mpr ⟨lw_p15, fun _ h => absurd h List.not_mem_nil⟩⟩⟩⟩⟩⟩⟩⟩⟩⟩⟩⟩⟩⟩⟩⟩
theorem lw_p16 : lw_okq (⟨"HerringSea$Grammar", "takesSign", "(I)Z"⟩, 3) := ⟨⟨by decide +kernel, by decide +kernel⟩, List.mem_of_getElem? (i := 93) (by decide +kernel), List.mem_of_getElem? (i := 488) (by decide +kernel), List.mem_of_getElem? (i := 489) (by decide +kernel)⟩
theorem lw_p17 : lw_okq (⟨"HerringSea$Grammar", "takesFirstDigit", "(I)Z"⟩, 3) := ⟨⟨by decide +kernel, by decide +kernel⟩, List.mem_of_getElem? (i := 93) (by decide +kernel), List.mem_of_getElem? (i := 492) (by decide +kernel), List.mem_of_getElem? (i := 493) (by decide +kernel)⟩
theorem lw_p18 : lw_okq (⟨"HerringSea$Grammar", "takesBehindUnit", "(I)Z"⟩, 3) := ⟨⟨by decide +kernel, by decide +kernel⟩, List.mem_of_getElem? (i := 93) (by decide +kernel), List.mem_of_getElem? (i := 499) (by decide +kernel), List.mem_of_getElem? (i := 500) (by decide +kernel)⟩
theorem lw_p19 : lw_okq (⟨"HerringSea", "textAt", "(I)LHerringSea$Text;"⟩, 18) := ⟨⟨by decide +kernel, by decide +kernel⟩, List.mem_of_getElem? (i := 13) (by decide +kernel), List.mem_of_getElem? (i := 516) (by decide +kernel), List.mem_of_getElem? (i := 517) (by decide +kernel)⟩
theorem lw_p20 : lw_okq (⟨"HerringSea$Verdict", "read", "(ILHerringSea$Lot;I)V"⟩, 5) := ⟨⟨by decide +kernel, by decide +kernel⟩, List.mem_of_getElem? (i := 109) (by decide +kernel), List.mem_of_getElem? (i := 525) (by decide +kernel), List.mem_of_getElem? (i := 526) (by decide +kernel)⟩
theorem lw_p21 : lw_okq (⟨"HerringSea$Verdict", "endComparison", "(LHerringSea$Lot;I)V"⟩, 5) := ⟨⟨by decide +kernel, by decide +kernel⟩, List.mem_of_getElem? (i := 109) (by decide +kernel), List.mem_of_getElem? (i := 530) (by decide +kernel), List.mem_of_getElem? (i := 531) (by decide +kernel)⟩
theorem lw_p22 : lw_okq (⟨"HerringSea$Verdict", "compares", "(I)Z"⟩, 5) := ⟨⟨by decide +kernel, by decide +kernel⟩, List.mem_of_getElem? (i := 109) (by decide +kernel), List.mem_of_getElem? (i := 538) (by decide +kernel), List.mem_of_getElem? (i := 539) (by decide +kernel)⟩
theorem lw_p23 : lw_okq (⟨"HerringSea$Verdict", "addUnit", "(Z)V"⟩, 5) := ⟨⟨by decide +kernel, by decide +kernel⟩, List.mem_of_getElem? (i := 109) (by decide +kernel), List.mem_of_getElem? (i := 542) (by decide +kernel), List.mem_of_getElem? (i := 543) (by decide +kernel)⟩
theorem lw_p24 : lw_okq (⟨"HerringSea$Verdict", "endBracket", "()V"⟩, 5) := ⟨⟨by decide +kernel, by decide +kernel⟩, List.mem_of_getElem? (i := 109) (by decide +kernel), List.mem_of_getElem? (i := 546) (by decide +kernel), List.mem_of_getElem? (i := 547) (by decide +kernel)⟩
theorem lw_p25 : lw_okq (⟨"HerringSea$Verdict", "endPart", "()V"⟩, 5) := ⟨⟨by decide +kernel, by decide +kernel⟩, List.mem_of_getElem? (i := 109) (by decide +kernel), List.mem_of_getElem? (i := 550) (by decide +kernel), List.mem_of_getElem? (i := 551) (by decide +kernel)⟩
theorem lw_p26 : lw_okq (⟨"HerringSea", "owedInAll", "()I"⟩, 18) := ⟨⟨by decide +kernel, by decide +kernel⟩, List.mem_of_getElem? (i := 13) (by decide +kernel), List.mem_of_getElem? (i := 593) (by decide +kernel), List.mem_of_getElem? (i := 594) (by decide +kernel)⟩
theorem lw_p27 : lw_okq (⟨"HerringSeaModel", "isBoat", "(I)Z"⟩, 53) := ⟨⟨by decide +kernel, by decide +kernel⟩, List.mem_of_getElem? (i := 597) (by decide +kernel), List.mem_of_getElem? (i := 786) (by decide +kernel), List.mem_of_getElem? (i := 787) (by decide +kernel)⟩
theorem lw_p28 : lw_okq (⟨"HerringSeaModel", "haul", "(I)I"⟩, 53) := ⟨⟨by decide +kernel, by decide +kernel⟩, List.mem_of_getElem? (i := 597) (by decide +kernel), List.mem_of_getElem? (i := 810) (by decide +kernel), List.mem_of_getElem? (i := 811) (by decide +kernel)⟩
theorem lw_p29 : lw_okq (⟨"HerringSeaModel", "partAmong", "(JI)V"⟩, 53) := ⟨⟨by decide +kernel, by decide +kernel⟩, List.mem_of_getElem? (i := 597) (by decide +kernel), List.mem_of_getElem? (i := 815) (by decide +kernel), List.mem_of_getElem? (i := 816) (by decide +kernel)⟩
theorem lw_p30 : lw_okq (⟨"HerringSeaModel", "storm", "()V"⟩, 53) := ⟨⟨by decide +kernel, by decide +kernel⟩, List.mem_of_getElem? (i := 597) (by decide +kernel), List.mem_of_getElem? (i := 819) (by decide +kernel), List.mem_of_getElem? (i := 820) (by decide +kernel)⟩
theorem lw_p31 : lw_okq (⟨"HerringSeaModel", "driftAll", "()V"⟩, 53) := ⟨⟨by decide +kernel, by decide +kernel⟩, List.mem_of_getElem? (i := 597) (by decide +kernel), List.mem_of_getElem? (i := 823) (by decide +kernel), List.mem_of_getElem? (i := 824) (by decide +kernel)⟩
def lw_privs_2 : List (MethodName × Nat) := [(⟨"HerringSea$Grammar", "takesSign", "(I)Z"⟩, 3), (⟨"HerringSea$Grammar", "takesFirstDigit", "(I)Z"⟩, 3), (⟨"HerringSea$Grammar", "takesBehindUnit", "(I)Z"⟩, 3), (⟨"HerringSea", "textAt", "(I)LHerringSea$Text;"⟩, 18), (⟨"HerringSea$Verdict", "read", "(ILHerringSea$Lot;I)V"⟩, 5), (⟨"HerringSea$Verdict", "endComparison", "(LHerringSea$Lot;I)V"⟩, 5), (⟨"HerringSea$Verdict", "compares", "(I)Z"⟩, 5), (⟨"HerringSea$Verdict", "addUnit", "(Z)V"⟩, 5), (⟨"HerringSea$Verdict", "endBracket", "()V"⟩, 5), (⟨"HerringSea$Verdict", "endPart", "()V"⟩, 5), (⟨"HerringSea", "owedInAll", "()I"⟩, 18), (⟨"HerringSeaModel", "isBoat", "(I)Z"⟩, 53), (⟨"HerringSeaModel", "haul", "(I)I"⟩, 53), (⟨"HerringSeaModel", "partAmong", "(JI)V"⟩, 53), (⟨"HerringSeaModel", "storm", "()V"⟩, 53), (⟨"HerringSeaModel", "driftAll", "()V"⟩, 53)]
theorem lw_r2 : ∀ q ∈ lw_privs_2, lw_okq q := List.forall_mem_cons.mpr ⟨lw_p16, List.forall_mem_cons.mpr ⟨lw_p17, List.forall_mem_cons.mpr ⟨lw_p18, List.forall_mem_cons.mpr ⟨lw_p19, List.forall_mem_cons.mpr ⟨lw_p20, List.forall_mem_cons.mpr ⟨lw_p21, List.forall_mem_cons.mpr ⟨lw_p22, List.forall_mem_cons.mpr ⟨lw_p23, List.forall_mem_cons.mpr ⟨lw_p24, List.forall_mem_cons.mpr ⟨lw_p25, List.forall_mem_cons.mpr ⟨lw_p26, List.forall_mem_cons.mpr ⟨lw_p27, List.forall_mem_cons.mpr ⟨lw_p28, List.forall_mem_cons.mpr ⟨lw_p29, List.forall_mem_cons.mpr ⟨lw_p30, List.forall_mem_cons.mpr ⟨lw_p31, fun _ h => absurd h List.not_mem_nil⟩⟩⟩⟩⟩⟩⟩⟩⟩⟩⟩⟩⟩⟩⟩⟩
theorem lw_p32 : lw_okq (⟨"HerringSeaModel", "beside", "(I)I"⟩, 53) := ⟨⟨by decide +kernel, by decide +kernel⟩, List.mem_of_getElem? (i := 597) (by decide +kernel), List.mem_of_getElem? (i := 827) (by decide +kernel), List.mem_of_getElem? (i := 828) (by decide +kernel)⟩
theorem lw_p33 : lw_okq (⟨"HerringSeaModel", "sellAll", "()V"⟩, 53) := ⟨⟨by decide +kernel, by decide +kernel⟩, List.mem_of_getElem? (i := 597) (by decide +kernel), List.mem_of_getElem? (i := 832) (by decide +kernel), List.mem_of_getElem? (i := 833) (by decide +kernel)⟩
theorem lw_p34 : lw_okq (⟨"HerringSeaModel", "nextBoat", "()I"⟩, 53) := ⟨⟨by decide +kernel, by decide +kernel⟩, List.mem_of_getElem? (i := 597) (by decide +kernel), List.mem_of_getElem? (i := 836) (by decide +kernel), List.mem_of_getElem? (i := 837) (by decide +kernel)⟩
theorem lw_p35 : lw_okq (⟨"HerringSeaModel", "minute", "(I)I"⟩, 53) := ⟨⟨by decide +kernel, by decide +kernel⟩, List.mem_of_getElem? (i := 597) (by decide +kernel), List.mem_of_getElem? (i := 840) (by decide +kernel), List.mem_of_getElem? (i := 841) (by decide +kernel)⟩
theorem lw_p36 : lw_okq (⟨"HerringSeaModel", "bestYard", "()I"⟩, 53) := ⟨⟨by decide +kernel, by decide +kernel⟩, List.mem_of_getElem? (i := 597) (by decide +kernel), List.mem_of_getElem? (i := 844) (by decide +kernel), List.mem_of_getElem? (i := 845) (by decide +kernel)⟩
theorem lw_p37 : lw_okq (⟨"HerringSeaModel", "sell", "(III)V"⟩, 53) := ⟨⟨by decide +kernel, by decide +kernel⟩, List.mem_of_getElem? (i := 597) (by decide +kernel), List.mem_of_getElem? (i := 848) (by decide +kernel), List.mem_of_getElem? (i := 849) (by decide +kernel)⟩
theorem lw_p38 : lw_okq (⟨"HerringSeaModel", "work", "(II)V"⟩, 53) := ⟨⟨by decide +kernel, by decide +kernel⟩, List.mem_of_getElem? (i := 597) (by decide +kernel), List.mem_of_getElem? (i := 852) (by decide +kernel), List.mem_of_getElem? (i := 853) (by decide +kernel)⟩
theorem lw_p39 : lw_okq (⟨"HerringSeaModel", "whole", "()V"⟩, 53) := ⟨⟨by decide +kernel, by decide +kernel⟩, List.mem_of_getElem? (i := 597) (by decide +kernel), List.mem_of_getElem? (i := 871) (by decide +kernel), List.mem_of_getElem? (i := 872) (by decide +kernel)⟩
theorem lw_p40 : lw_okq (⟨"HerringSeaModel", "part", "()V"⟩, 53) := ⟨⟨by decide +kernel, by decide +kernel⟩, List.mem_of_getElem? (i := 597) (by decide +kernel), List.mem_of_getElem? (i := 875) (by decide +kernel), List.mem_of_getElem? (i := 876) (by decide +kernel)⟩
theorem lw_p41 : lw_okq (⟨"HerringSeaModel", "unit", "()V"⟩, 53) := ⟨⟨by decide +kernel, by decide +kernel⟩, List.mem_of_getElem? (i := 597) (by decide +kernel), List.mem_of_getElem? (i := 879) (by decide +kernel), List.mem_of_getElem? (i := 880) (by decide +kernel)⟩
theorem lw_p42 : lw_okq (⟨"HerringSeaModel", "look", "()I"⟩, 53) := ⟨⟨by decide +kernel, by decide +kernel⟩, List.mem_of_getElem? (i := 597) (by decide +kernel), List.mem_of_getElem? (i := 883) (by decide +kernel), List.mem_of_getElem? (i := 884) (by decide +kernel)⟩
theorem lw_p43 : lw_okq (⟨"HerringSeaModel", "fail", "()V"⟩, 53) := ⟨⟨by decide +kernel, by decide +kernel⟩, List.mem_of_getElem? (i := 597) (by decide +kernel), List.mem_of_getElem? (i := 887) (by decide +kernel), List.mem_of_getElem? (i := 888) (by decide +kernel)⟩
theorem lw_p44 : lw_okq (⟨"HerringSeaModel", "say", "(I)V"⟩, 53) := ⟨⟨by decide +kernel, by decide +kernel⟩, List.mem_of_getElem? (i := 597) (by decide +kernel), List.mem_of_getElem? (i := 891) (by decide +kernel), List.mem_of_getElem? (i := 892) (by decide +kernel)⟩
theorem lw_p45 : lw_okq (⟨"HerringSeaModel", "number", "()V"⟩, 53) := ⟨⟨by decide +kernel, by decide +kernel⟩, List.mem_of_getElem? (i := 597) (by decide +kernel), List.mem_of_getElem? (i := 895) (by decide +kernel), List.mem_of_getElem? (i := 896) (by decide +kernel)⟩
theorem lw_p46 : lw_okq (⟨"HerringSeaModel", "isLot", "(I)Z"⟩, 53) := ⟨⟨by decide +kernel, by decide +kernel⟩, List.mem_of_getElem? (i := 597) (by decide +kernel), List.mem_of_getElem? (i := 908) (by decide +kernel), List.mem_of_getElem? (i := 909) (by decide +kernel)⟩
theorem lw_p47 : lw_okq (⟨"HerringSeaModel", "holds", "(II)Z"⟩, 53) := ⟨⟨by decide +kernel, by decide +kernel⟩, List.mem_of_getElem? (i := 597) (by decide +kernel), List.mem_of_getElem? (i := 912) (by decide +kernel), List.mem_of_getElem? (i := 913) (by decide +kernel)⟩
def lw_privs_3 : List (MethodName × Nat) := [(⟨"HerringSeaModel", "beside", "(I)I"⟩, 53), (⟨"HerringSeaModel", "sellAll", "()V"⟩, 53), (⟨"HerringSeaModel", "nextBoat", "()I"⟩, 53), (⟨"HerringSeaModel", "minute", "(I)I"⟩, 53), (⟨"HerringSeaModel", "bestYard", "()I"⟩, 53), (⟨"HerringSeaModel", "sell", "(III)V"⟩, 53), (⟨"HerringSeaModel", "work", "(II)V"⟩, 53), (⟨"HerringSeaModel", "whole", "()V"⟩, 53), (⟨"HerringSeaModel", "part", "()V"⟩, 53), (⟨"HerringSeaModel", "unit", "()V"⟩, 53), (⟨"HerringSeaModel", "look", "()I"⟩, 53), (⟨"HerringSeaModel", "fail", "()V"⟩, 53), (⟨"HerringSeaModel", "say", "(I)V"⟩, 53), (⟨"HerringSeaModel", "number", "()V"⟩, 53), (⟨"HerringSeaModel", "isLot", "(I)Z"⟩, 53), (⟨"HerringSeaModel", "holds", "(II)Z"⟩, 53)]
theorem lw_r3 : ∀ q ∈ lw_privs_3, lw_okq q := List.forall_mem_cons.mpr ⟨lw_p32, List.forall_mem_cons.mpr ⟨lw_p33, List.forall_mem_cons.mpr ⟨lw_p34, List.forall_mem_cons.mpr ⟨lw_p35, List.forall_mem_cons.mpr ⟨lw_p36, List.forall_mem_cons.mpr ⟨lw_p37, List.forall_mem_cons.mpr ⟨lw_p38, List.forall_mem_cons.mpr ⟨lw_p39, List.forall_mem_cons.mpr ⟨lw_p40, List.forall_mem_cons.mpr ⟨lw_p41, List.forall_mem_cons.mpr ⟨lw_p42, List.forall_mem_cons.mpr ⟨lw_p43, List.forall_mem_cons.mpr ⟨lw_p44, List.forall_mem_cons.mpr ⟨lw_p45, List.forall_mem_cons.mpr ⟨lw_p46, List.forall_mem_cons.mpr ⟨lw_p47, fun _ h => absurd h List.not_mem_nil⟩⟩⟩⟩⟩⟩⟩⟩⟩⟩⟩⟩⟩⟩⟩⟩
theorem lw_p48 : lw_okq (⟨"HerringSeaModel", "value", "(II)I"⟩, 53) := ⟨⟨by decide +kernel, by decide +kernel⟩, List.mem_of_getElem? (i := 597) (by decide +kernel), List.mem_of_getElem? (i := 916) (by decide +kernel), List.mem_of_getElem? (i := 917) (by decide +kernel)⟩
def lw_privs_4 : List (MethodName × Nat) := [(⟨"HerringSeaModel", "value", "(II)I"⟩, 53)]
theorem lw_r4 : ∀ q ∈ lw_privs_4, lw_okq q := List.forall_mem_cons.mpr ⟨lw_p48, fun _ h => absurd h List.not_mem_nil⟩
def lw_privs : List (MethodName × Nat) := lw_privs_1 ++ (lw_privs_2 ++ (lw_privs_3 ++ (lw_privs_4)))
def lw_tbl : List Cond := k2_sels lw_privs ++ tables_1
theorem lw_privs_ok : ∀ q ∈ lw_privs, lw_okq q := by
  show ∀ q ∈ lw_privs_1 ++ (lw_privs_2 ++ (lw_privs_3 ++ (lw_privs_4))), lw_okq q
  exact List.forall_mem_append.mpr ⟨lw_r1, List.forall_mem_append.mpr ⟨lw_r2, List.forall_mem_append.mpr ⟨lw_r3, lw_r4⟩⟩⟩
def RX0 : String := "HerringSea$Boat"
def TX0 : u_T := fun k => match k with
  | 0 => ("HerringSea$Boat", "parts", "[I", true)
  | 1 => ("HerringSea$Boat", "got", "[I", true)
  | 2 => ("HerringSea$Boat", "nets", "I", false)
  | 3 => ("HerringSea$Boat", "cell", "I", false)
  | 4 => ("HerringSea$Boat", "takenInAll", "I", false)
  | 5 => ("HerringSea$Boat", "takenLately", "I", false)
  | 6 => ("HerringSea$Boat", "owed", "I", false)
  | _ => ("HerringSea$Boat", "netsLost", "I", false)
def tyX0 : Nat → FieldType := fun k => match k with
  | 0 => .array .int
  | 1 => .array .int
  | 2 => .int
  | 3 => .int
  | 4 => .int
  | 5 => .int
  | 6 => .int
  | _ => .int
theorem nmX0 : ∀ a, a < 8 → ∀ b, b < 8 → a ≠ b → (TX0 a).2.1 ≠ (TX0 b).2.1 := by decide +kernel
theorem tyX0_ok : ∀ k, k < 8 → parseFieldDescriptor (TX0 k).2.2.1 = some (tyX0 k) := by decide +kernel
abbrev cX0_init : ByteArray := prog_2_method_1_code
def yX0_init : MethodName := ⟨RX0, "<init>", "(I)V"⟩
abbrev cX0_isHand : ByteArray := prog_2_method_2_code
def yX0_isHand : MethodName := ⟨RX0, "isHand", "(I)Z"⟩
abbrev cX0_loseNets : ByteArray := prog_2_method_3_code
def yX0_loseNets : MethodName := ⟨RX0, "loseNets", "()V"⟩
abbrev cX0_takeIn : ByteArray := prog_2_method_4_code
def yX0_takeIn : MethodName := ⟨RX0, "takeIn", "(I)V"⟩
def RX1 : String := "HerringSea$Grammar"
def TX1 : u_T := fun k => match k with
  | 0 => ("HerringSea$Grammar", "due", "I", false)
  | 1 => ("HerringSea$Grammar", "depth", "I", false)
  | _ => ("HerringSea$Grammar", "digitsLeft", "I", false)
def tyX1 : Nat → FieldType := fun k => match k with
  | 0 => .int
  | 1 => .int
  | _ => .int
theorem nmX1 : ∀ a, a < 3 → ∀ b, b < 3 → a ≠ b → (TX1 a).2.1 ≠ (TX1 b).2.1 := by decide +kernel
theorem tyX1_ok : ∀ k, k < 3 → parseFieldDescriptor (TX1 k).2.2.1 = some (tyX1 k) := by decide +kernel
abbrev cX1_init : ByteArray := prog_3_method_1_code
def yX1_init : MethodName := ⟨RX1, "<init>", "()V"⟩
abbrev cX1_faultOf : ByteArray := prog_3_method_2_code
def yX1_faultOf : MethodName := ⟨RX1, "faultOf", "(LHerringSea$Text;)I"⟩
abbrev cX1_takes : ByteArray := prog_3_method_3_code
def yX1_takes : MethodName := ⟨RX1, "takes", "(I)Z"⟩
abbrev cX1_takesUnit : ByteArray := prog_3_method_4_code
def yX1_takesUnit : MethodName := ⟨RX1, "takesUnit", "(I)Z"⟩
abbrev cX1_takesSign : ByteArray := prog_3_method_5_code
def yX1_takesSign : MethodName := ⟨RX1, "takesSign", "(I)Z"⟩
abbrev cX1_takesFirstDigit : ByteArray := prog_3_method_6_code
def yX1_takesFirstDigit : MethodName := ⟨RX1, "takesFirstDigit", "(I)Z"⟩
abbrev cX1_takesBehindUnit : ByteArray := prog_3_method_7_code
def yX1_takesBehindUnit : MethodName := ⟨RX1, "takesBehindUnit", "(I)Z"⟩
abbrev cX1_isDigit : ByteArray := prog_3_method_8_code
def yX1_isDigit : MethodName := ⟨RX1, "isDigit", "(I)Z"⟩
def RX2 : String := "HerringSea$Lot"
def TX2 : u_T := fun k => match k with
  | 0 => ("HerringSea$Lot", "night", "I", true)
  | 1 => ("HerringSea$Lot", "boat", "I", true)
  | 2 => ("HerringSea$Lot", "cell", "I", true)
  | 3 => ("HerringSea$Lot", "yard", "I", true)
  | 4 => ("HerringSea$Lot", "crans", "I", true)
  | 5 => ("HerringSea$Lot", "minute", "I", true)
  | 6 => ("HerringSea$Lot", "price", "I", true)
  | 7 => ("HerringSea$Lot", "cured", "I", false)
  | 8 => ("HerringSea$Lot", "spoilt", "I", false)
  | 9 => ("HerringSea$Lot", "greatestWait", "I", false)
  | _ => ("HerringSea$Lot", "doneAt", "I", false)
def tyX2 : Nat → FieldType := fun k => match k with
  | 0 => .int
  | 1 => .int
  | 2 => .int
  | 3 => .int
  | 4 => .int
  | 5 => .int
  | 6 => .int
  | 7 => .int
  | 8 => .int
  | 9 => .int
  | _ => .int
theorem nmX2 : ∀ a, a < 11 → ∀ b, b < 11 → a ≠ b → (TX2 a).2.1 ≠ (TX2 b).2.1 := by decide +kernel
theorem tyX2_ok : ∀ k, k < 11 → parseFieldDescriptor (TX2 k).2.2.1 = some (tyX2 k) := by decide +kernel
abbrev cX2_init : ByteArray := prog_4_method_1_code
def yX2_init : MethodName := ⟨RX2, "<init>", "(IIIIIII)V"⟩
abbrev cX2_cureOne : ByteArray := prog_4_method_2_code
def yX2_cureOne : MethodName := ⟨RX2, "cureOne", "(I)V"⟩
abbrev cX2_measure : ByteArray := prog_4_method_3_code
def yX2_measure : MethodName := ⟨RX2, "measure", "(II)I"⟩
def RX3 : String := "HerringSea$Parting"
def TX3 : u_T := fun k => match k with
  | 0 => ("HerringSea$Parting", "portions", "[I", true)
  | 1 => ("HerringSea$Parting", "measures", "[I", true)
  | 2 => ("HerringSea$Parting", "rests", "[I", true)
  | _ => ("HerringSea$Parting", "sum", "I", false)
def tyX3 : Nat → FieldType := fun k => match k with
  | 0 => .array .int
  | 1 => .array .int
  | 2 => .array .int
  | _ => .int
theorem nmX3 : ∀ a, a < 4 → ∀ b, b < 4 → a ≠ b → (TX3 a).2.1 ≠ (TX3 b).2.1 := by decide +kernel
theorem tyX3_ok : ∀ k, k < 4 → parseFieldDescriptor (TX3 k).2.2.1 = some (tyX3 k) := by decide +kernel
abbrev cX3_init : ByteArray := prog_5_method_1_code
def yX3_init : MethodName := ⟨RX3, "<init>", "()V"⟩
abbrev cX3_clear : ByteArray := prog_5_method_2_code
def yX3_clear : MethodName := ⟨RX3, "clear", "()V"⟩
abbrev cX3_addMeasure : ByteArray := prog_5_method_3_code
def yX3_addMeasure : MethodName := ⟨RX3, "addMeasure", "(II)V"⟩
abbrev cX3_part : ByteArray := prog_5_method_4_code
def yX3_part : MethodName := ⟨RX3, "part", "(I)V"⟩
abbrev cX3_greatestRest : ByteArray := prog_5_method_5_code
def yX3_greatestRest : MethodName := ⟨RX3, "greatestRest", "()I"⟩
def RX4 : String := "HerringSea$Sea"
def TX4 : u_T := fun k => match k with
  | 0 => ("HerringSea$Sea", "crans", "[I", true)
  | 1 => ("HerringSea$Sea", "isOpen", "[Z", true)
  | 2 => ("HerringSea$Sea", "change", "[I", true)
  | 3 => ("HerringSea$Sea", "way", "I", false)
  | _ => ("HerringSea$Sea", "goneToSea", "I", false)
def tyX4 : Nat → FieldType := fun k => match k with
  | 0 => .array .int
  | 1 => .array .boolean
  | 2 => .array .int
  | 3 => .int
  | _ => .int
theorem nmX4 : ∀ a, a < 5 → ∀ b, b < 5 → a ≠ b → (TX4 a).2.1 ≠ (TX4 b).2.1 := by decide +kernel
theorem tyX4_ok : ∀ k, k < 5 → parseFieldDescriptor (TX4 k).2.2.1 = some (tyX4 k) := by decide +kernel
abbrev cX4_init : ByteArray := prog_6_method_1_code
def yX4_init : MethodName := ⟨RX4, "<init>", "()V"⟩
abbrev cX4_isCell : ByteArray := prog_6_method_2_code
def yX4_isCell : MethodName := ⟨RX4, "isCell", "(I)Z"⟩
abbrev cX4_stepsFrom : ByteArray := prog_6_method_3_code
def yX4_stepsFrom : MethodName := ⟨RX4, "stepsFrom", "(I)I"⟩
abbrev cX4_nextCell : ByteArray := prog_6_method_4_code
def yX4_nextCell : MethodName := ⟨RX4, "nextCell", "(II)I"⟩
abbrev cX4_moveShoals : ByteArray := prog_6_method_5_code
def yX4_moveShoals : MethodName := ⟨RX4, "moveShoals", "()V"⟩
abbrev cX4_cransInAll : ByteArray := prog_6_method_6_code
def yX4_cransInAll : MethodName := ⟨RX4, "cransInAll", "()I"⟩
def RX5 : String := "HerringSea$Text"
def TX5 : u_T := fun k => match k with
  | 0 => ("HerringSea$Text", "bytes", "[I", true)
  | _ => ("HerringSea$Text", "length", "I", false)
def tyX5 : Nat → FieldType := fun k => match k with
  | 0 => .array .int
  | _ => .int
theorem nmX5 : ∀ a, a < 2 → ∀ b, b < 2 → a ≠ b → (TX5 a).2.1 ≠ (TX5 b).2.1 := by decide +kernel
theorem tyX5_ok : ∀ k, k < 2 → parseFieldDescriptor (TX5 k).2.2.1 = some (tyX5 k) := by decide +kernel
abbrev cX5_init : ByteArray := prog_7_method_1_code
def yX5_init : MethodName := ⟨RX5, "<init>", "()V"⟩
abbrev cX5_bytesIn : ByteArray := prog_7_method_2_code
def yX5_bytesIn : MethodName := ⟨RX5, "bytesIn", "(I)I"⟩
abbrev cX5_addWord : ByteArray := prog_7_method_3_code
def yX5_addWord : MethodName := ⟨RX5, "addWord", "(I)V"⟩
abbrev cX5_byteAt : ByteArray := prog_7_method_4_code
def yX5_byteAt : MethodName := ⟨RX5, "byteAt", "(I)I"⟩
abbrev cX5_copyFrom : ByteArray := prog_7_method_5_code
def yX5_copyFrom : MethodName := ⟨RX5, "copyFrom", "(LHerringSea$Text;)V"⟩
def RX6 : String := "HerringSea$Verdict"
def TX6 : u_T := fun k => match k with
  | 0 => ("HerringSea$Verdict", "somePartHeld", "I", false)
  | 1 => ("HerringSea$Verdict", "allUnitsHold", "I", false)
  | 2 => ("HerringSea$Verdict", "letter", "I", false)
  | 3 => ("HerringSea$Verdict", "sign", "I", false)
  | _ => ("HerringSea$Verdict", "number", "I", false)
def tyX6 : Nat → FieldType := fun k => match k with
  | 0 => .int
  | 1 => .int
  | 2 => .int
  | 3 => .int
  | _ => .int
theorem nmX6 : ∀ a, a < 5 → ∀ b, b < 5 → a ≠ b → (TX6 a).2.1 ≠ (TX6 b).2.1 := by decide +kernel
theorem tyX6_ok : ∀ k, k < 5 → parseFieldDescriptor (TX6 k).2.2.1 = some (tyX6 k) := by decide +kernel
abbrev cX6_init : ByteArray := prog_8_method_1_code
def yX6_init : MethodName := ⟨RX6, "<init>", "()V"⟩
abbrev cX6_holds : ByteArray := prog_8_method_2_code
def yX6_holds : MethodName := ⟨RX6, "holds", "(LHerringSea$Text;LHerringSea$Lot;I)Z"⟩
abbrev cX6_read : ByteArray := prog_8_method_3_code
def yX6_read : MethodName := ⟨RX6, "read", "(ILHerringSea$Lot;I)V"⟩
abbrev cX6_endComparison : ByteArray := prog_8_method_4_code
def yX6_endComparison : MethodName := ⟨RX6, "endComparison", "(LHerringSea$Lot;I)V"⟩
abbrev cX6_compares : ByteArray := prog_8_method_5_code
def yX6_compares : MethodName := ⟨RX6, "compares", "(I)Z"⟩
abbrev cX6_addUnit : ByteArray := prog_8_method_6_code
def yX6_addUnit : MethodName := ⟨RX6, "addUnit", "(Z)V"⟩
abbrev cX6_endPart : ByteArray := prog_8_method_7_code
def yX6_endPart : MethodName := ⟨RX6, "endPart", "()V"⟩
abbrev cX6_endBracket : ByteArray := prog_8_method_8_code
def yX6_endBracket : MethodName := ⟨RX6, "endBracket", "()V"⟩
def RX7 : String := "HerringSea$Yard"
def TX7 : u_T := fun k => match k with
  | 0 => ("HerringSea$Yard", "freeAt", "[I", true)
  | 1 => ("HerringSea$Yard", "crews", "I", true)
  | 2 => ("HerringSea$Yard", "room", "I", true)
  | 3 => ("HerringSea$Yard", "bid", "I", false)
  | _ => ("HerringSea$Yard", "roomLeft", "I", false)
def tyX7 : Nat → FieldType := fun k => match k with
  | 0 => .array .int
  | 1 => .int
  | 2 => .int
  | 3 => .int
  | _ => .int
theorem nmX7 : ∀ a, a < 5 → ∀ b, b < 5 → a ≠ b → (TX7 a).2.1 ≠ (TX7 b).2.1 := by decide +kernel
theorem tyX7_ok : ∀ k, k < 5 → parseFieldDescriptor (TX7 k).2.2.1 = some (tyX7 k) := by decide +kernel
abbrev cX7_init : ByteArray := prog_9_method_1_code
def yX7_init : MethodName := ⟨RX7, "<init>", "(II)V"⟩
abbrev cX7_beginDay : ByteArray := prog_9_method_2_code
def yX7_beginDay : MethodName := ⟨RX7, "beginDay", "()V"⟩
abbrev cX7_gut : ByteArray := prog_9_method_3_code
def yX7_gut : MethodName := ⟨RX7, "gut", "(LHerringSea$Lot;I)V"⟩
abbrev cX7_firstFreeCrew : ByteArray := prog_9_method_4_code
def yX7_firstFreeCrew : MethodName := ⟨RX7, "firstFreeCrew", "()I"⟩
def RX8 : String := "HerringSea"
def TX8 : u_T := fun k => match k with
  | 0 => ("HerringSea", "sea", "LHerringSea$Sea;", true)
  | 1 => ("HerringSea", "boats", "[LHerringSea$Boat;", true)
  | 2 => ("HerringSea", "yards", "[LHerringSea$Yard;", true)
  | 3 => ("HerringSea", "lots", "[LHerringSea$Lot;", true)
  | 4 => ("HerringSea", "tape", "LHerringSea$Text;", true)
  | 5 => ("HerringSea", "brands", "[LHerringSea$Text;", true)
  | 6 => ("HerringSea", "parting", "LHerringSea$Parting;", true)
  | 7 => ("HerringSea", "grammar", "LHerringSea$Grammar;", true)
  | 8 => ("HerringSea", "verdict", "LHerringSea$Verdict;", true)
  | 9 => ("HerringSea", "boatCount", "I", false)
  | 10 => ("HerringSea", "yardCount", "I", false)
  | 11 => ("HerringSea", "lotCount", "I", false)
  | 12 => ("HerringSea", "now", "I", false)
  | 13 => ("HerringSea", "softMinutes", "I", false)
  | 14 => ("HerringSea", "takenInAll", "I", false)
  | 15 => ("HerringSea", "curedInAll", "I", false)
  | 16 => ("HerringSea", "spoiltInAll", "I", false)
  | _ => ("HerringSea", "thrownAway", "I", false)
def tyX8 : Nat → FieldType := fun k => match k with
  | 0 => .object "HerringSea$Sea"
  | 1 => .array (.object "HerringSea$Boat")
  | 2 => .array (.object "HerringSea$Yard")
  | 3 => .array (.object "HerringSea$Lot")
  | 4 => .object "HerringSea$Text"
  | 5 => .array (.object "HerringSea$Text")
  | 6 => .object "HerringSea$Parting"
  | 7 => .object "HerringSea$Grammar"
  | 8 => .object "HerringSea$Verdict"
  | 9 => .int
  | 10 => .int
  | 11 => .int
  | 12 => .int
  | 13 => .int
  | 14 => .int
  | 15 => .int
  | 16 => .int
  | _ => .int
theorem nmX8 : ∀ a, a < 18 → ∀ b, b < 18 → a ≠ b → (TX8 a).2.1 ≠ (TX8 b).2.1 := by decide +kernel
theorem tyX8_ok : ∀ k, k < 18 → parseFieldDescriptor (TX8 k).2.2.1 = some (tyX8 k) := by decide +kernel
abbrev cX8_init : ByteArray := prog_1_method_1_code
def yX8_init : MethodName := ⟨RX8, "<init>", "()V"⟩
abbrev cX8_shoal : ByteArray := prog_1_method_2_code
def yX8_shoal : MethodName := ⟨RX8, "shoal", "(II)Z"⟩
abbrev cX8_open : ByteArray := prog_1_method_3_code
def yX8_open : MethodName := ⟨RX8, "open", "(IZ)Z"⟩
abbrev cX8_drift : ByteArray := prog_1_method_4_code
def yX8_drift : MethodName := ⟨RX8, "drift", "(I)Z"⟩
abbrev cX8_boat : ByteArray := prog_1_method_5_code
def yX8_boat : MethodName := ⟨RX8, "boat", "(I)I"⟩
abbrev cX8_go : ByteArray := prog_1_method_6_code
def yX8_go : MethodName := ⟨RX8, "go", "(II)Z"⟩
abbrev cX8_mend : ByteArray := prog_1_method_7_code
def yX8_mend : MethodName := ⟨RX8, "mend", "(II)I"⟩
abbrev cX8_yard : ByteArray := prog_1_method_8_code
def yX8_yard : MethodName := ⟨RX8, "yard", "(II)I"⟩
abbrev cX8_bid : ByteArray := prog_1_method_9_code
def yX8_bid : MethodName := ⟨RX8, "bid", "(II)Z"⟩
abbrev cX8_soft : ByteArray := prog_1_method_10_code
def yX8_soft : MethodName := ⟨RX8, "soft", "(I)Z"⟩
abbrev cX8_night : ByteArray := prog_1_method_11_code
def yX8_night : MethodName := ⟨RX8, "night", "(Z)I"⟩
abbrev cX8_feed : ByteArray := prog_1_method_12_code
def yX8_feed : MethodName := ⟨RX8, "feed", "(IIIII)I"⟩
abbrev cX8_end : ByteArray := prog_1_method_13_code
def yX8_end : MethodName := ⟨RX8, "end", "(I)Z"⟩
abbrev cX8_fault : ByteArray := prog_1_method_14_code
def yX8_fault : MethodName := ⟨RX8, "fault", "()I"⟩
abbrev cX8_brand : ByteArray := prog_1_method_15_code
def yX8_brand : MethodName := ⟨RX8, "brand", "(I)Z"⟩
abbrev cX8_judge : ByteArray := prog_1_method_16_code
def yX8_judge : MethodName := ⟨RX8, "judge", "(II)I"⟩
abbrev cX8_branded : ByteArray := prog_1_method_17_code
def yX8_branded : MethodName := ⟨RX8, "branded", "(I)I"⟩
abbrev cX8_share : ByteArray := prog_1_method_18_code
def yX8_share : MethodName := ⟨RX8, "share", "(III)Z"⟩
abbrev cX8_settle : ByteArray := prog_1_method_19_code
def yX8_settle : MethodName := ⟨RX8, "settle", "(I)I"⟩
abbrev cX8_coins : ByteArray := prog_1_method_20_code
def yX8_coins : MethodName := ⟨RX8, "coins", "(II)I"⟩
abbrev cX8_cell : ByteArray := prog_1_method_21_code
def yX8_cell : MethodName := ⟨RX8, "cell", "(II)I"⟩
abbrev cX8_told : ByteArray := prog_1_method_22_code
def yX8_told : MethodName := ⟨RX8, "told", "(II)I"⟩
abbrev cX8_lot : ByteArray := prog_1_method_23_code
def yX8_lot : MethodName := ⟨RX8, "lot", "(II)I"⟩
abbrev cX8_count : ByteArray := prog_1_method_24_code
def yX8_count : MethodName := ⟨RX8, "count", "(I)I"⟩
abbrev cX8_isWithin : ByteArray := prog_1_method_25_code
def yX8_isWithin : MethodName := ⟨RX8, "isWithin", "(III)Z"⟩
abbrev cX8_boatAt : ByteArray := prog_1_method_26_code
def yX8_boatAt : MethodName := ⟨RX8, "boatAt", "(I)LHerringSea$Boat;"⟩
abbrev cX8_yardAt : ByteArray := prog_1_method_27_code
def yX8_yardAt : MethodName := ⟨RX8, "yardAt", "(I)LHerringSea$Yard;"⟩
abbrev cX8_lotAt : ByteArray := prog_1_method_28_code
def yX8_lotAt : MethodName := ⟨RX8, "lotAt", "(I)LHerringSea$Lot;"⟩
abbrev cX8_textAt : ByteArray := prog_1_method_29_code
def yX8_textAt : MethodName := ⟨RX8, "textAt", "(I)LHerringSea$Text;"⟩
abbrev cX8_owedInAll : ByteArray := prog_1_method_30_code
def yX8_owedInAll : MethodName := ⟨RX8, "owedInAll", "()I"⟩
abbrev cX8_beginNight : ByteArray := prog_1_method_31_code
def yX8_beginNight : MethodName := ⟨RX8, "beginNight", "(Z)V"⟩
abbrev cX8_isStormy : ByteArray := prog_1_method_32_code
def yX8_isStormy : MethodName := ⟨RX8, "isStormy", "(IZ)Z"⟩
abbrev cX8_haulEverywhere : ByteArray := prog_1_method_33_code
def yX8_haulEverywhere : MethodName := ⟨RX8, "haulEverywhere", "(Z)I"⟩
abbrev cX8_haulIn : ByteArray := prog_1_method_34_code
def yX8_haulIn : MethodName := ⟨RX8, "haulIn", "(I)I"⟩
abbrev cX8_sellAllCatches : ByteArray := prog_1_method_35_code
def yX8_sellAllCatches : MethodName := ⟨RX8, "sellAllCatches", "()V"⟩
abbrev cX8_sellCatch : ByteArray := prog_1_method_36_code
def yX8_sellCatch : MethodName := ⟨RX8, "sellCatch", "(ILHerringSea$Boat;I)V"⟩
abbrev cX8_bestBidder : ByteArray := prog_1_method_37_code
def yX8_bestBidder : MethodName := ⟨RX8, "bestBidder", "()I"⟩
abbrev cX8_gutLotsFrom : ByteArray := prog_1_method_38_code
def yX8_gutLotsFrom : MethodName := ⟨RX8, "gutLotsFrom", "(I)V"⟩
abbrev cX8_gutLot : ByteArray := prog_1_method_39_code
def yX8_gutLot : MethodName := ⟨RX8, "gutLot", "(LHerringSea$Lot;)V"⟩
def RX9 : String := "HerringSeaModel"
def TX9 : u_T := fun k => match k with
  | 0 => ("HerringSeaModel", "crans", "[I", true)
  | 1 => ("HerringSeaModel", "open", "[Z", true)
  | 2 => ("HerringSeaModel", "nets", "[I", true)
  | 3 => ("HerringSeaModel", "cellOf", "[I", true)
  | 4 => ("HerringSeaModel", "took", "[I", true)
  | 5 => ("HerringSeaModel", "tookNow", "[I", true)
  | 6 => ("HerringSeaModel", "owed", "[I", true)
  | 7 => ("HerringSeaModel", "lost", "[I", true)
  | 8 => ("HerringSeaModel", "parts", "[I", true)
  | 9 => ("HerringSeaModel", "coins", "[I", true)
  | 10 => ("HerringSeaModel", "crews", "[I", true)
  | 11 => ("HerringSeaModel", "room", "[I", true)
  | 12 => ("HerringSeaModel", "bids", "[I", true)
  | 13 => ("HerringSeaModel", "lotNight", "[I", true)
  | 14 => ("HerringSeaModel", "lotBoat", "[I", true)
  | 15 => ("HerringSeaModel", "lotCell", "[I", true)
  | 16 => ("HerringSeaModel", "lotYard", "[I", true)
  | 17 => ("HerringSeaModel", "lotCrans", "[I", true)
  | 18 => ("HerringSeaModel", "lotCured", "[I", true)
  | 19 => ("HerringSeaModel", "lotSpoilt", "[I", true)
  | 20 => ("HerringSeaModel", "lotMinute", "[I", true)
  | 21 => ("HerringSeaModel", "lotPrice", "[I", true)
  | 22 => ("HerringSeaModel", "lotWait", "[I", true)
  | 23 => ("HerringSeaModel", "lotDone", "[I", true)
  | 24 => ("HerringSeaModel", "now", "I", false)
  | 25 => ("HerringSeaModel", "boats", "I", false)
  | 26 => ("HerringSeaModel", "yards", "I", false)
  | 27 => ("HerringSeaModel", "lots", "I", false)
  | 28 => ("HerringSeaModel", "way", "I", false)
  | 29 => ("HerringSeaModel", "soft", "I", false)
  | 30 => ("HerringSeaModel", "taken", "I", false)
  | 31 => ("HerringSeaModel", "cured", "I", false)
  | 32 => ("HerringSeaModel", "spoilt", "I", false)
  | 33 => ("HerringSeaModel", "atSea", "I", false)
  | 34 => ("HerringSeaModel", "thrown", "I", false)
  | 35 => ("HerringSeaModel", "measure", "[I", true)
  | 36 => ("HerringSeaModel", "share", "[I", true)
  | 37 => ("HerringSeaModel", "more", "[Z", true)
  | 38 => ("HerringSeaModel", "who", "[I", true)
  | 39 => ("HerringSeaModel", "come", "[I", true)
  | 40 => ("HerringSeaModel", "left", "[I", true)
  | 41 => ("HerringSeaModel", "sold", "[Z", true)
  | 42 => ("HerringSeaModel", "free", "[I", true)
  | 43 => ("HerringSeaModel", "tape", "[I", true)
  | 44 => ("HerringSeaModel", "codes", "[I", true)
  | 45 => ("HerringSeaModel", "saying", "[I", true)
  | 46 => ("HerringSeaModel", "has", "[Z", true)
  | 47 => ("HerringSeaModel", "size", "I", false)
  | 48 => ("HerringSeaModel", "at", "I", false)
  | 49 => ("HerringSeaModel", "wrong", "I", false)
  | 50 => ("HerringSeaModel", "deep", "I", false)
  | 51 => ("HerringSeaModel", "said", "I", false)
  | _ => ("HerringSeaModel", "pile", "[Z", true)
def tyX9 : Nat → FieldType := fun k => match k with
  | 0 => .array .int
  | 1 => .array .boolean
  | 2 => .array .int
  | 3 => .array .int
  | 4 => .array .int
  | 5 => .array .int
  | 6 => .array .int
  | 7 => .array .int
  | 8 => .array .int
  | 9 => .array .int
  | 10 => .array .int
  | 11 => .array .int
  | 12 => .array .int
  | 13 => .array .int
  | 14 => .array .int
  | 15 => .array .int
  | 16 => .array .int
  | 17 => .array .int
  | 18 => .array .int
  | 19 => .array .int
  | 20 => .array .int
  | 21 => .array .int
  | 22 => .array .int
  | 23 => .array .int
  | 24 => .int
  | 25 => .int
  | 26 => .int
  | 27 => .int
  | 28 => .int
  | 29 => .int
  | 30 => .int
  | 31 => .int
  | 32 => .int
  | 33 => .int
  | 34 => .int
  | 35 => .array .int
  | 36 => .array .int
  | 37 => .array .boolean
  | 38 => .array .int
  | 39 => .array .int
  | 40 => .array .int
  | 41 => .array .boolean
  | 42 => .array .int
  | 43 => .array .int
  | 44 => .array .int
  | 45 => .array .int
  | 46 => .array .boolean
  | 47 => .int
  | 48 => .int
  | 49 => .int
  | 50 => .int
  | 51 => .int
  | _ => .array .boolean
theorem nmX9 : ∀ a, a < 53 → ∀ b, b < 53 → a ≠ b → (TX9 a).2.1 ≠ (TX9 b).2.1 := by decide +kernel
theorem tyX9_ok : ∀ k, k < 53 → parseFieldDescriptor (TX9 k).2.2.1 = some (tyX9 k) := by decide +kernel
abbrev cX9_init : ByteArray := prog_11_method_1_code
def yX9_init : MethodName := ⟨RX9, "<init>", "()V"⟩
abbrev cX9_in : ByteArray := prog_11_method_2_code
def yX9_in : MethodName := ⟨RX9, "in", "(III)Z"⟩
abbrev cX9_isBoat : ByteArray := prog_11_method_3_code
def yX9_isBoat : MethodName := ⟨RX9, "isBoat", "(I)Z"⟩
abbrev cX9_partAmong : ByteArray := prog_11_method_4_code
def yX9_partAmong : MethodName := ⟨RX9, "partAmong", "(JI)V"⟩
abbrev cX9_shoal : ByteArray := prog_11_method_5_code
def yX9_shoal : MethodName := ⟨RX9, "shoal", "(II)Z"⟩
abbrev cX9_open : ByteArray := prog_11_method_6_code
def yX9_open : MethodName := ⟨RX9, "open", "(IZ)Z"⟩
abbrev cX9_drift : ByteArray := prog_11_method_7_code
def yX9_drift : MethodName := ⟨RX9, "drift", "(I)Z"⟩
abbrev cX9_boat : ByteArray := prog_11_method_8_code
def yX9_boat : MethodName := ⟨RX9, "boat", "(I)I"⟩
abbrev cX9_go : ByteArray := prog_11_method_9_code
def yX9_go : MethodName := ⟨RX9, "go", "(II)Z"⟩
abbrev cX9_mend : ByteArray := prog_11_method_10_code
def yX9_mend : MethodName := ⟨RX9, "mend", "(II)I"⟩
abbrev cX9_yard : ByteArray := prog_11_method_11_code
def yX9_yard : MethodName := ⟨RX9, "yard", "(II)I"⟩
abbrev cX9_bid : ByteArray := prog_11_method_12_code
def yX9_bid : MethodName := ⟨RX9, "bid", "(II)Z"⟩
abbrev cX9_soft : ByteArray := prog_11_method_13_code
def yX9_soft : MethodName := ⟨RX9, "soft", "(I)Z"⟩
abbrev cX9_haul : ByteArray := prog_11_method_14_code
def yX9_haul : MethodName := ⟨RX9, "haul", "(I)I"⟩
abbrev cX9_storm : ByteArray := prog_11_method_15_code
def yX9_storm : MethodName := ⟨RX9, "storm", "()V"⟩
abbrev cX9_beside : ByteArray := prog_11_method_16_code
def yX9_beside : MethodName := ⟨RX9, "beside", "(I)I"⟩
abbrev cX9_driftAll : ByteArray := prog_11_method_17_code
def yX9_driftAll : MethodName := ⟨RX9, "driftAll", "()V"⟩
abbrev cX9_minute : ByteArray := prog_11_method_18_code
def yX9_minute : MethodName := ⟨RX9, "minute", "(I)I"⟩
abbrev cX9_nextBoat : ByteArray := prog_11_method_19_code
def yX9_nextBoat : MethodName := ⟨RX9, "nextBoat", "()I"⟩
abbrev cX9_bestYard : ByteArray := prog_11_method_20_code
def yX9_bestYard : MethodName := ⟨RX9, "bestYard", "()I"⟩
abbrev cX9_sellAll : ByteArray := prog_11_method_21_code
def yX9_sellAll : MethodName := ⟨RX9, "sellAll", "()V"⟩
abbrev cX9_sell : ByteArray := prog_11_method_22_code
def yX9_sell : MethodName := ⟨RX9, "sell", "(III)V"⟩
abbrev cX9_work : ByteArray := prog_11_method_23_code
def yX9_work : MethodName := ⟨RX9, "work", "(II)V"⟩
abbrev cX9_night : ByteArray := prog_11_method_24_code
def yX9_night : MethodName := ⟨RX9, "night", "(Z)I"⟩
abbrev cX9_byteOf : ByteArray := prog_11_method_25_code
def yX9_byteOf : MethodName := ⟨RX9, "byteOf", "(IIIIII)I"⟩
abbrev cX9_feed : ByteArray := prog_11_method_26_code
def yX9_feed : MethodName := ⟨RX9, "feed", "(IIIII)I"⟩
abbrev cX9_end : ByteArray := prog_11_method_27_code
def yX9_end : MethodName := ⟨RX9, "end", "(I)Z"⟩
abbrev cX9_look : ByteArray := prog_11_method_28_code
def yX9_look : MethodName := ⟨RX9, "look", "()I"⟩
abbrev cX9_fail : ByteArray := prog_11_method_29_code
def yX9_fail : MethodName := ⟨RX9, "fail", "()V"⟩
abbrev cX9_say : ByteArray := prog_11_method_30_code
def yX9_say : MethodName := ⟨RX9, "say", "(I)V"⟩
abbrev cX9_unit : ByteArray := prog_11_method_31_code
def yX9_unit : MethodName := ⟨RX9, "unit", "()V"⟩
abbrev cX9_number : ByteArray := prog_11_method_32_code
def yX9_number : MethodName := ⟨RX9, "number", "()V"⟩
abbrev cX9_part : ByteArray := prog_11_method_33_code
def yX9_part : MethodName := ⟨RX9, "part", "()V"⟩
abbrev cX9_whole : ByteArray := prog_11_method_34_code
def yX9_whole : MethodName := ⟨RX9, "whole", "()V"⟩
abbrev cX9_fault : ByteArray := prog_11_method_35_code
def yX9_fault : MethodName := ⟨RX9, "fault", "()I"⟩
abbrev cX9_brand : ByteArray := prog_11_method_36_code
def yX9_brand : MethodName := ⟨RX9, "brand", "(I)Z"⟩
abbrev cX9_value : ByteArray := prog_11_method_37_code
def yX9_value : MethodName := ⟨RX9, "value", "(II)I"⟩
abbrev cX9_holds : ByteArray := prog_11_method_38_code
def yX9_holds : MethodName := ⟨RX9, "holds", "(II)Z"⟩
abbrev cX9_isLot : ByteArray := prog_11_method_39_code
def yX9_isLot : MethodName := ⟨RX9, "isLot", "(I)Z"⟩
abbrev cX9_judge : ByteArray := prog_11_method_40_code
def yX9_judge : MethodName := ⟨RX9, "judge", "(II)I"⟩
abbrev cX9_branded : ByteArray := prog_11_method_41_code
def yX9_branded : MethodName := ⟨RX9, "branded", "(I)I"⟩
abbrev cX9_share : ByteArray := prog_11_method_42_code
def yX9_share : MethodName := ⟨RX9, "share", "(III)Z"⟩
abbrev cX9_settle : ByteArray := prog_11_method_43_code
def yX9_settle : MethodName := ⟨RX9, "settle", "(I)I"⟩
abbrev cX9_coins : ByteArray := prog_11_method_44_code
def yX9_coins : MethodName := ⟨RX9, "coins", "(II)I"⟩
abbrev cX9_cell : ByteArray := prog_11_method_45_code
def yX9_cell : MethodName := ⟨RX9, "cell", "(II)I"⟩
abbrev cX9_told : ByteArray := prog_11_method_46_code
def yX9_told : MethodName := ⟨RX9, "told", "(II)I"⟩
abbrev cX9_lot : ByteArray := prog_11_method_47_code
def yX9_lot : MethodName := ⟨RX9, "lot", "(II)I"⟩
abbrev cX9_count : ByteArray := prog_11_method_48_code
def yX9_count : MethodName := ⟨RX9, "count", "(I)I"⟩
def RJ9 : String := "java/lang/Math"
def TJ9 : u_T := fun k => match k with
  | _ => ("", "", "", false)
def tyJ9 : Nat → FieldType := fun k => match k with
  | _ => .int
theorem nmJ9 : ∀ a, a < 0 → ∀ b, b < 0 → a ≠ b → (TJ9 a).2.1 ≠ (TJ9 b).2.1 := by decide +kernel
theorem tyJ9_ok : ∀ k, k < 0 → parseFieldDescriptor (TJ9 k).2.2.1 = some (tyJ9 k) := by decide +kernel
abbrev cJ9_max_7cf53 : ByteArray := prog_12_method_65_code
def yJ9_max_7cf53 : MethodName := ⟨RJ9, "max", "(II)I"⟩
abbrev cJ9_min_7cf53 : ByteArray := prog_12_method_69_code
def yJ9_min_7cf53 : MethodName := ⟨RJ9, "min", "(II)I"⟩
def RL : String := "HerringSeaLaw"
abbrev vwCl : List vw_C := [(RX0, TX0, 8), (RX1, TX1, 3), (RX2, TX2, 11), (RX3, TX3, 4), (RX4, TX4, 5), (RX5, TX5, 2), (RX6, TX6, 5), (RX7, TX7, 5), (RX8, TX8, 18), (RX9, TX9, 53)]
abbrev cL_law : ByteArray := code
end
section
theorem dX0_init_0 : decode cX0_init 0 = .ok (.aload_n 0, 1) := by decide +kernel
theorem dX0_init_1 : decode cX0_init 1 = .ok (.invokespecial 3, 3) := by decide +kernel
theorem dX0_init_4 : decode cX0_init 4 = .ok (.aload_n 0, 1) := by decide +kernel
theorem dX0_init_5 : decode cX0_init 5 = .ok (.bipush 8, 2) := by decide +kernel
theorem dX0_init_7 : decode cX0_init 7 = .ok (.newarray .int, 2) := by decide +kernel
theorem dX0_init_9 : decode cX0_init 9 = .ok (.putfield 9, 3) := by decide +kernel
theorem dX0_init_12 : decode cX0_init 12 = .ok (.aload_n 0, 1) := by decide +kernel
theorem dX0_init_13 : decode cX0_init 13 = .ok (.bipush 8, 2) := by decide +kernel
theorem dX0_init_15 : decode cX0_init 15 = .ok (.newarray .int, 2) := by decide +kernel
theorem dX0_init_17 : decode cX0_init 17 = .ok (.putfield 15, 3) := by decide +kernel
theorem dX0_init_20 : decode cX0_init 20 = .ok (.aload_n 0, 1) := by decide +kernel
theorem dX0_init_21 : decode cX0_init 21 = .ok (.iconst (-1), 1) := by decide +kernel
theorem dX0_init_22 : decode cX0_init 22 = .ok (.putfield 18, 3) := by decide +kernel
theorem dX0_init_25 : decode cX0_init 25 = .ok (.aload_n 0, 1) := by decide +kernel
theorem dX0_init_26 : decode cX0_init 26 = .ok (.iload_n 1, 1) := by decide +kernel
theorem dX0_init_27 : decode cX0_init 27 = .ok (.putfield 22, 3) := by decide +kernel
theorem dX0_init_30 : decode cX0_init 30 = .ok (.return_, 1) := by decide +kernel
theorem dX0_isHand_0 : decode cX0_isHand 0 = .ok (.iload_n 0, 1) := by decide +kernel
theorem dX0_isHand_1 : decode cX0_isHand 1 = .ok (.ifCond .lt 13, 3) := by decide +kernel
theorem dX0_isHand_4 : decode cX0_isHand 4 = .ok (.iload_n 0, 1) := by decide +kernel
theorem dX0_isHand_5 : decode cX0_isHand 5 = .ok (.bipush 8, 2) := by decide +kernel
theorem dX0_isHand_7 : decode cX0_isHand 7 = .ok (.if_icmp .ge 7, 3) := by decide +kernel
theorem dX0_isHand_10 : decode cX0_isHand 10 = .ok (.iconst 1, 1) := by decide +kernel
theorem dX0_isHand_11 : decode cX0_isHand 11 = .ok (.goto 4, 3) := by decide +kernel
theorem dX0_isHand_14 : decode cX0_isHand 14 = .ok (.iconst 0, 1) := by decide +kernel
theorem dX0_isHand_15 : decode cX0_isHand 15 = .ok (.ireturn, 1) := by decide +kernel
theorem dX0_loseNets_0 : decode cX0_loseNets 0 = .ok (.aload_n 0, 1) := by decide +kernel
theorem dX0_loseNets_1 : decode cX0_loseNets 1 = .ok (.getfield 22, 3) := by decide +kernel
theorem dX0_loseNets_4 : decode cX0_loseNets 4 = .ok (.iconst 5, 1) := by decide +kernel
theorem dX0_loseNets_5 : decode cX0_loseNets 5 = .ok (.idiv, 1) := by decide +kernel
theorem dX0_loseNets_6 : decode cX0_loseNets 6 = .ok (.istore_n 1, 1) := by decide +kernel
theorem dX0_loseNets_7 : decode cX0_loseNets 7 = .ok (.aload_n 0, 1) := by decide +kernel
theorem dX0_loseNets_8 : decode cX0_loseNets 8 = .ok (.dup, 1) := by decide +kernel
theorem dX0_loseNets_9 : decode cX0_loseNets 9 = .ok (.getfield 22, 3) := by decide +kernel
theorem dX0_loseNets_12 : decode cX0_loseNets 12 = .ok (.iload_n 1, 1) := by decide +kernel
theorem dX0_loseNets_13 : decode cX0_loseNets 13 = .ok (.isub, 1) := by decide +kernel
theorem dX0_loseNets_14 : decode cX0_loseNets 14 = .ok (.putfield 22, 3) := by decide +kernel
theorem dX0_loseNets_17 : decode cX0_loseNets 17 = .ok (.aload_n 0, 1) := by decide +kernel
theorem dX0_loseNets_18 : decode cX0_loseNets 18 = .ok (.dup, 1) := by decide +kernel
theorem dX0_loseNets_19 : decode cX0_loseNets 19 = .ok (.getfield 25, 3) := by decide +kernel
theorem dX0_loseNets_22 : decode cX0_loseNets 22 = .ok (.iload_n 1, 1) := by decide +kernel
theorem dX0_loseNets_23 : decode cX0_loseNets 23 = .ok (.iadd, 1) := by decide +kernel
theorem dX0_loseNets_24 : decode cX0_loseNets 24 = .ok (.putfield 25, 3) := by decide +kernel
theorem dX0_loseNets_27 : decode cX0_loseNets 27 = .ok (.return_, 1) := by decide +kernel
theorem dX0_takeIn_0 : decode cX0_takeIn 0 = .ok (.aload_n 0, 1) := by decide +kernel
theorem dX0_takeIn_1 : decode cX0_takeIn 1 = .ok (.dup, 1) := by decide +kernel
theorem dX0_takeIn_2 : decode cX0_takeIn 2 = .ok (.getfield 28, 3) := by decide +kernel
theorem dX0_takeIn_5 : decode cX0_takeIn 5 = .ok (.iload_n 1, 1) := by decide +kernel
theorem dX0_takeIn_6 : decode cX0_takeIn 6 = .ok (.iadd, 1) := by decide +kernel
theorem dX0_takeIn_7 : decode cX0_takeIn 7 = .ok (.putfield 28, 3) := by decide +kernel
theorem dX0_takeIn_10 : decode cX0_takeIn 10 = .ok (.aload_n 0, 1) := by decide +kernel
theorem dX0_takeIn_11 : decode cX0_takeIn 11 = .ok (.dup, 1) := by decide +kernel
theorem dX0_takeIn_12 : decode cX0_takeIn 12 = .ok (.getfield 31, 3) := by decide +kernel
theorem dX0_takeIn_15 : decode cX0_takeIn 15 = .ok (.iload_n 1, 1) := by decide +kernel
theorem dX0_takeIn_16 : decode cX0_takeIn 16 = .ok (.iadd, 1) := by decide +kernel
theorem dX0_takeIn_17 : decode cX0_takeIn 17 = .ok (.putfield 31, 3) := by decide +kernel
theorem dX0_takeIn_20 : decode cX0_takeIn 20 = .ok (.return_, 1) := by decide +kernel
theorem dX1_init_0 : decode cX1_init 0 = .ok (.aload_n 0, 1) := by decide +kernel
theorem dX1_init_1 : decode cX1_init 1 = .ok (.invokespecial 3, 3) := by decide +kernel
theorem dX1_init_4 : decode cX1_init 4 = .ok (.return_, 1) := by decide +kernel
theorem dX1_faultOf_0 : decode cX1_faultOf 0 = .ok (.aload_n 0, 1) := by decide +kernel
theorem dX1_faultOf_1 : decode cX1_faultOf 1 = .ok (.iconst 0, 1) := by decide +kernel
theorem dX1_faultOf_2 : decode cX1_faultOf 2 = .ok (.putfield 11, 3) := by decide +kernel
theorem dX1_faultOf_5 : decode cX1_faultOf 5 = .ok (.aload_n 0, 1) := by decide +kernel
theorem dX1_faultOf_6 : decode cX1_faultOf 6 = .ok (.iconst 0, 1) := by decide +kernel
theorem dX1_faultOf_7 : decode cX1_faultOf 7 = .ok (.putfield 15, 3) := by decide +kernel
theorem dX1_faultOf_10 : decode cX1_faultOf 10 = .ok (.aload_n 0, 1) := by decide +kernel
theorem dX1_faultOf_11 : decode cX1_faultOf 11 = .ok (.iconst 0, 1) := by decide +kernel
theorem dX1_faultOf_12 : decode cX1_faultOf 12 = .ok (.putfield 18, 3) := by decide +kernel
theorem dX1_faultOf_15 : decode cX1_faultOf 15 = .ok (.iconst 0, 1) := by decide +kernel
theorem dX1_faultOf_16 : decode cX1_faultOf 16 = .ok (.istore_n 2, 1) := by decide +kernel
theorem dX1_faultOf_17 : decode cX1_faultOf 17 = .ok (.iload_n 2, 1) := by decide +kernel
theorem dX1_faultOf_18 : decode cX1_faultOf 18 = .ok (.aload_n 1, 1) := by decide +kernel
theorem dX1_faultOf_19 : decode cX1_faultOf 19 = .ok (.getfield 21, 3) := by decide +kernel
theorem dX1_faultOf_22 : decode cX1_faultOf 22 = .ok (.if_icmp .ge 23, 3) := by decide +kernel
theorem dX1_faultOf_25 : decode cX1_faultOf 25 = .ok (.aload_n 0, 1) := by decide +kernel
theorem dX1_faultOf_26 : decode cX1_faultOf 26 = .ok (.aload_n 1, 1) := by decide +kernel
theorem dX1_faultOf_27 : decode cX1_faultOf 27 = .ok (.iload_n 2, 1) := by decide +kernel
theorem dX1_faultOf_28 : decode cX1_faultOf 28 = .ok (.invokevirtual 26, 3) := by decide +kernel
theorem dX1_faultOf_31 : decode cX1_faultOf 31 = .ok (.invokevirtual 30, 3) := by decide +kernel
theorem dX1_faultOf_34 : decode cX1_faultOf 34 = .ok (.ifCond .ne 5, 3) := by decide +kernel
theorem dX1_faultOf_37 : decode cX1_faultOf 37 = .ok (.iload_n 2, 1) := by decide +kernel
theorem dX1_faultOf_38 : decode cX1_faultOf 38 = .ok (.ireturn, 1) := by decide +kernel
theorem dX1_faultOf_39 : decode cX1_faultOf 39 = .ok (.iinc 2 1, 3) := by decide +kernel
theorem dX1_faultOf_42 : decode cX1_faultOf 42 = .ok (.goto (-25), 3) := by decide +kernel
theorem dX1_faultOf_45 : decode cX1_faultOf 45 = .ok (.aload_n 0, 1) := by decide +kernel
theorem dX1_faultOf_46 : decode cX1_faultOf 46 = .ok (.getfield 11, 3) := by decide +kernel
theorem dX1_faultOf_49 : decode cX1_faultOf 49 = .ok (.iconst 3, 1) := by decide +kernel
theorem dX1_faultOf_50 : decode cX1_faultOf 50 = .ok (.if_icmp .ne 14, 3) := by decide +kernel
theorem dX1_faultOf_53 : decode cX1_faultOf 53 = .ok (.aload_n 0, 1) := by decide +kernel
theorem dX1_faultOf_54 : decode cX1_faultOf 54 = .ok (.getfield 15, 3) := by decide +kernel
theorem dX1_faultOf_57 : decode cX1_faultOf 57 = .ok (.ifCond .ne 7, 3) := by decide +kernel
theorem dX1_faultOf_60 : decode cX1_faultOf 60 = .ok (.iconst (-1), 1) := by decide +kernel
theorem dX1_faultOf_61 : decode cX1_faultOf 61 = .ok (.goto 7, 3) := by decide +kernel
theorem dX1_faultOf_64 : decode cX1_faultOf 64 = .ok (.aload_n 1, 1) := by decide +kernel
theorem dX1_faultOf_65 : decode cX1_faultOf 65 = .ok (.getfield 21, 3) := by decide +kernel
theorem dX1_faultOf_68 : decode cX1_faultOf 68 = .ok (.ireturn, 1) := by decide +kernel
theorem dX1_takes_0 : decode cX1_takes 0 = .ok (.iload_n 1, 1) := by decide +kernel
theorem dX1_takes_1 : decode cX1_takes 1 = .ok (.bipush 32, 2) := by decide +kernel
theorem dX1_takes_3 : decode cX1_takes 3 = .ok (.if_icmp .ne 10, 3) := by decide +kernel
theorem dX1_takes_6 : decode cX1_takes 6 = .ok (.aload_n 0, 1) := by decide +kernel
theorem dX1_takes_7 : decode cX1_takes 7 = .ok (.iconst 0, 1) := by decide +kernel
theorem dX1_takes_8 : decode cX1_takes 8 = .ok (.putfield 18, 3) := by decide +kernel
theorem dX1_takes_11 : decode cX1_takes 11 = .ok (.iconst 1, 1) := by decide +kernel
theorem dX1_takes_12 : decode cX1_takes 12 = .ok (.ireturn, 1) := by decide +kernel
theorem dX1_takes_13 : decode cX1_takes 13 = .ok (.aload_n 0, 1) := by decide +kernel
theorem dX1_takes_14 : decode cX1_takes 14 = .ok (.getfield 11, 3) := by decide +kernel
theorem dX1_takes_17 : decode cX1_takes 17 = .ok (.tableswitch 45 0 2 #[27, 33, 39], 27) := by decide +kernel
theorem dX1_takes_44 : decode cX1_takes 44 = .ok (.aload_n 0, 1) := by decide +kernel
theorem dX1_takes_45 : decode cX1_takes 45 = .ok (.iload_n 1, 1) := by decide +kernel
theorem dX1_takes_46 : decode cX1_takes 46 = .ok (.invokevirtual 34, 3) := by decide +kernel
theorem dX1_takes_49 : decode cX1_takes 49 = .ok (.ireturn, 1) := by decide +kernel
theorem dX1_takes_50 : decode cX1_takes 50 = .ok (.aload_n 0, 1) := by decide +kernel
theorem dX1_takes_51 : decode cX1_takes 51 = .ok (.iload_n 1, 1) := by decide +kernel
theorem dX1_takes_52 : decode cX1_takes 52 = .ok (.invokevirtual 37, 3) := by decide +kernel
theorem dX1_takes_55 : decode cX1_takes 55 = .ok (.ireturn, 1) := by decide +kernel
theorem dX1_takes_56 : decode cX1_takes 56 = .ok (.aload_n 0, 1) := by decide +kernel
theorem dX1_takes_57 : decode cX1_takes 57 = .ok (.iload_n 1, 1) := by decide +kernel
theorem dX1_takes_58 : decode cX1_takes 58 = .ok (.invokevirtual 40, 3) := by decide +kernel
theorem dX1_takes_61 : decode cX1_takes 61 = .ok (.ireturn, 1) := by decide +kernel
theorem dX1_takes_62 : decode cX1_takes 62 = .ok (.aload_n 0, 1) := by decide +kernel
theorem dX1_takes_63 : decode cX1_takes 63 = .ok (.iload_n 1, 1) := by decide +kernel
theorem dX1_takes_64 : decode cX1_takes 64 = .ok (.invokevirtual 43, 3) := by decide +kernel
theorem dX1_takes_67 : decode cX1_takes 67 = .ok (.ireturn, 1) := by decide +kernel
theorem dX1_takesUnit_0 : decode cX1_takesUnit 0 = .ok (.iload_n 1, 1) := by decide +kernel
theorem dX1_takesUnit_1 : decode cX1_takesUnit 1 = .ok (.bipush 40, 2) := by decide +kernel
theorem dX1_takesUnit_3 : decode cX1_takesUnit 3 = .ok (.if_icmp .ne 28, 3) := by decide +kernel
theorem dX1_takesUnit_6 : decode cX1_takesUnit 6 = .ok (.aload_n 0, 1) := by decide +kernel
theorem dX1_takesUnit_7 : decode cX1_takesUnit 7 = .ok (.dup, 1) := by decide +kernel
theorem dX1_takesUnit_8 : decode cX1_takesUnit 8 = .ok (.getfield 15, 3) := by decide +kernel
theorem dX1_takesUnit_11 : decode cX1_takesUnit 11 = .ok (.iconst 1, 1) := by decide +kernel
theorem dX1_takesUnit_12 : decode cX1_takesUnit 12 = .ok (.iadd, 1) := by decide +kernel
theorem dX1_takesUnit_13 : decode cX1_takesUnit 13 = .ok (.putfield 15, 3) := by decide +kernel
theorem dX1_takesUnit_16 : decode cX1_takesUnit 16 = .ok (.aload_n 0, 1) := by decide +kernel
theorem dX1_takesUnit_17 : decode cX1_takesUnit 17 = .ok (.getfield 15, 3) := by decide +kernel
theorem dX1_takesUnit_20 : decode cX1_takesUnit 20 = .ok (.bipush 8, 2) := by decide +kernel
theorem dX1_takesUnit_22 : decode cX1_takesUnit 22 = .ok (.if_icmp .gt 7, 3) := by decide +kernel
theorem dX1_takesUnit_25 : decode cX1_takesUnit 25 = .ok (.iconst 1, 1) := by decide +kernel
theorem dX1_takesUnit_26 : decode cX1_takesUnit 26 = .ok (.goto 4, 3) := by decide +kernel
theorem dX1_takesUnit_29 : decode cX1_takesUnit 29 = .ok (.iconst 0, 1) := by decide +kernel
theorem dX1_takesUnit_30 : decode cX1_takesUnit 30 = .ok (.ireturn, 1) := by decide +kernel
theorem dX1_takesUnit_31 : decode cX1_takesUnit 31 = .ok (.aload_n 0, 1) := by decide +kernel
theorem dX1_takesUnit_32 : decode cX1_takesUnit 32 = .ok (.iconst 1, 1) := by decide +kernel
theorem dX1_takesUnit_33 : decode cX1_takesUnit 33 = .ok (.putfield 11, 3) := by decide +kernel
theorem dX1_takesUnit_36 : decode cX1_takesUnit 36 = .ok (.iload_n 1, 1) := by decide +kernel
theorem dX1_takesUnit_37 : decode cX1_takesUnit 37 = .ok (.bipush 99, 2) := by decide +kernel
theorem dX1_takesUnit_39 : decode cX1_takesUnit 39 = .ok (.if_icmp .eq 27, 3) := by decide +kernel
theorem dX1_takesUnit_42 : decode cX1_takesUnit 42 = .ok (.iload_n 1, 1) := by decide +kernel
theorem dX1_takesUnit_43 : decode cX1_takesUnit 43 = .ok (.bipush 115, 2) := by decide +kernel
theorem dX1_takesUnit_45 : decode cX1_takesUnit 45 = .ok (.if_icmp .eq 21, 3) := by decide +kernel
theorem dX1_takesUnit_48 : decode cX1_takesUnit 48 = .ok (.iload_n 1, 1) := by decide +kernel
theorem dX1_takesUnit_49 : decode cX1_takesUnit 49 = .ok (.bipush 119, 2) := by decide +kernel
theorem dX1_takesUnit_51 : decode cX1_takesUnit 51 = .ok (.if_icmp .eq 15, 3) := by decide +kernel
theorem dX1_takesUnit_54 : decode cX1_takesUnit 54 = .ok (.iload_n 1, 1) := by decide +kernel
theorem dX1_takesUnit_55 : decode cX1_takesUnit 55 = .ok (.bipush 97, 2) := by decide +kernel
theorem dX1_takesUnit_57 : decode cX1_takesUnit 57 = .ok (.if_icmp .eq 9, 3) := by decide +kernel
theorem dX1_takesUnit_60 : decode cX1_takesUnit 60 = .ok (.iload_n 1, 1) := by decide +kernel
theorem dX1_takesUnit_61 : decode cX1_takesUnit 61 = .ok (.bipush 112, 2) := by decide +kernel
theorem dX1_takesUnit_63 : decode cX1_takesUnit 63 = .ok (.if_icmp .ne 7, 3) := by decide +kernel
theorem dX1_takesUnit_66 : decode cX1_takesUnit 66 = .ok (.iconst 1, 1) := by decide +kernel
theorem dX1_takesUnit_67 : decode cX1_takesUnit 67 = .ok (.goto 4, 3) := by decide +kernel
theorem dX1_takesUnit_70 : decode cX1_takesUnit 70 = .ok (.iconst 0, 1) := by decide +kernel
theorem dX1_takesUnit_71 : decode cX1_takesUnit 71 = .ok (.ireturn, 1) := by decide +kernel
theorem dX1_takesSign_0 : decode cX1_takesSign 0 = .ok (.aload_n 0, 1) := by decide +kernel
theorem dX1_takesSign_1 : decode cX1_takesSign 1 = .ok (.iconst 2, 1) := by decide +kernel
theorem dX1_takesSign_2 : decode cX1_takesSign 2 = .ok (.putfield 11, 3) := by decide +kernel
theorem dX1_takesSign_5 : decode cX1_takesSign 5 = .ok (.iload_n 1, 1) := by decide +kernel
theorem dX1_takesSign_6 : decode cX1_takesSign 6 = .ok (.bipush 61, 2) := by decide +kernel
theorem dX1_takesSign_8 : decode cX1_takesSign 8 = .ok (.if_icmp .eq 15, 3) := by decide +kernel
theorem dX1_takesSign_11 : decode cX1_takesSign 11 = .ok (.iload_n 1, 1) := by decide +kernel
theorem dX1_takesSign_12 : decode cX1_takesSign 12 = .ok (.bipush 60, 2) := by decide +kernel
theorem dX1_takesSign_14 : decode cX1_takesSign 14 = .ok (.if_icmp .eq 9, 3) := by decide +kernel
theorem dX1_takesSign_17 : decode cX1_takesSign 17 = .ok (.iload_n 1, 1) := by decide +kernel
theorem dX1_takesSign_18 : decode cX1_takesSign 18 = .ok (.bipush 62, 2) := by decide +kernel
theorem dX1_takesSign_20 : decode cX1_takesSign 20 = .ok (.if_icmp .ne 7, 3) := by decide +kernel
theorem dX1_takesSign_23 : decode cX1_takesSign 23 = .ok (.iconst 1, 1) := by decide +kernel
theorem dX1_takesSign_24 : decode cX1_takesSign 24 = .ok (.goto 4, 3) := by decide +kernel
theorem dX1_takesSign_27 : decode cX1_takesSign 27 = .ok (.iconst 0, 1) := by decide +kernel
theorem dX1_takesSign_28 : decode cX1_takesSign 28 = .ok (.ireturn, 1) := by decide +kernel
theorem dX1_takesFirstDigit_0 : decode cX1_takesFirstDigit 0 = .ok (.aload_n 0, 1) := by decide +kernel
theorem dX1_takesFirstDigit_1 : decode cX1_takesFirstDigit 1 = .ok (.iconst 3, 1) := by decide +kernel
theorem dX1_takesFirstDigit_2 : decode cX1_takesFirstDigit 2 = .ok (.putfield 11, 3) := by decide +kernel
theorem dX1_takesFirstDigit_5 : decode cX1_takesFirstDigit 5 = .ok (.aload_n 0, 1) := by decide +kernel
theorem dX1_takesFirstDigit_6 : decode cX1_takesFirstDigit 6 = .ok (.iconst 4, 1) := by decide +kernel
theorem dX1_takesFirstDigit_7 : decode cX1_takesFirstDigit 7 = .ok (.putfield 18, 3) := by decide +kernel
theorem dX1_takesFirstDigit_10 : decode cX1_takesFirstDigit 10 = .ok (.iload_n 1, 1) := by decide +kernel
theorem dX1_takesFirstDigit_11 : decode cX1_takesFirstDigit 11 = .ok (.invokestatic 46, 3) := by decide +kernel
theorem dX1_takesFirstDigit_14 : decode cX1_takesFirstDigit 14 = .ok (.ireturn, 1) := by decide +kernel
theorem dX1_takesBehindUnit_0 : decode cX1_takesBehindUnit 0 = .ok (.iload_n 1, 1) := by decide +kernel
theorem dX1_takesBehindUnit_1 : decode cX1_takesBehindUnit 1 = .ok (.invokestatic 46, 3) := by decide +kernel
theorem dX1_takesBehindUnit_4 : decode cX1_takesBehindUnit 4 = .ok (.ifCond .eq 26, 3) := by decide +kernel
theorem dX1_takesBehindUnit_7 : decode cX1_takesBehindUnit 7 = .ok (.aload_n 0, 1) := by decide +kernel
theorem dX1_takesBehindUnit_8 : decode cX1_takesBehindUnit 8 = .ok (.dup, 1) := by decide +kernel
theorem dX1_takesBehindUnit_9 : decode cX1_takesBehindUnit 9 = .ok (.getfield 18, 3) := by decide +kernel
theorem dX1_takesBehindUnit_12 : decode cX1_takesBehindUnit 12 = .ok (.iconst 1, 1) := by decide +kernel
theorem dX1_takesBehindUnit_13 : decode cX1_takesBehindUnit 13 = .ok (.isub, 1) := by decide +kernel
theorem dX1_takesBehindUnit_14 : decode cX1_takesBehindUnit 14 = .ok (.putfield 18, 3) := by decide +kernel
theorem dX1_takesBehindUnit_17 : decode cX1_takesBehindUnit 17 = .ok (.aload_n 0, 1) := by decide +kernel
theorem dX1_takesBehindUnit_18 : decode cX1_takesBehindUnit 18 = .ok (.getfield 18, 3) := by decide +kernel
theorem dX1_takesBehindUnit_21 : decode cX1_takesBehindUnit 21 = .ok (.ifCond .lt 7, 3) := by decide +kernel
theorem dX1_takesBehindUnit_24 : decode cX1_takesBehindUnit 24 = .ok (.iconst 1, 1) := by decide +kernel
theorem dX1_takesBehindUnit_25 : decode cX1_takesBehindUnit 25 = .ok (.goto 4, 3) := by decide +kernel
theorem dX1_takesBehindUnit_28 : decode cX1_takesBehindUnit 28 = .ok (.iconst 0, 1) := by decide +kernel
theorem dX1_takesBehindUnit_29 : decode cX1_takesBehindUnit 29 = .ok (.ireturn, 1) := by decide +kernel
theorem dX1_takesBehindUnit_30 : decode cX1_takesBehindUnit 30 = .ok (.aload_n 0, 1) := by decide +kernel
theorem dX1_takesBehindUnit_31 : decode cX1_takesBehindUnit 31 = .ok (.iconst 0, 1) := by decide +kernel
theorem dX1_takesBehindUnit_32 : decode cX1_takesBehindUnit 32 = .ok (.putfield 18, 3) := by decide +kernel
theorem dX1_takesBehindUnit_35 : decode cX1_takesBehindUnit 35 = .ok (.iload_n 1, 1) := by decide +kernel
theorem dX1_takesBehindUnit_36 : decode cX1_takesBehindUnit 36 = .ok (.bipush 41, 2) := by decide +kernel
theorem dX1_takesBehindUnit_38 : decode cX1_takesBehindUnit 38 = .ok (.if_icmp .ne 26, 3) := by decide +kernel
theorem dX1_takesBehindUnit_41 : decode cX1_takesBehindUnit 41 = .ok (.aload_n 0, 1) := by decide +kernel
theorem dX1_takesBehindUnit_42 : decode cX1_takesBehindUnit 42 = .ok (.dup, 1) := by decide +kernel
theorem dX1_takesBehindUnit_43 : decode cX1_takesBehindUnit 43 = .ok (.getfield 15, 3) := by decide +kernel
theorem dX1_takesBehindUnit_46 : decode cX1_takesBehindUnit 46 = .ok (.iconst 1, 1) := by decide +kernel
theorem dX1_takesBehindUnit_47 : decode cX1_takesBehindUnit 47 = .ok (.isub, 1) := by decide +kernel
theorem dX1_takesBehindUnit_48 : decode cX1_takesBehindUnit 48 = .ok (.putfield 15, 3) := by decide +kernel
theorem dX1_takesBehindUnit_51 : decode cX1_takesBehindUnit 51 = .ok (.aload_n 0, 1) := by decide +kernel
theorem dX1_takesBehindUnit_52 : decode cX1_takesBehindUnit 52 = .ok (.getfield 15, 3) := by decide +kernel
theorem dX1_takesBehindUnit_55 : decode cX1_takesBehindUnit 55 = .ok (.ifCond .lt 7, 3) := by decide +kernel
theorem dX1_takesBehindUnit_58 : decode cX1_takesBehindUnit 58 = .ok (.iconst 1, 1) := by decide +kernel
theorem dX1_takesBehindUnit_59 : decode cX1_takesBehindUnit 59 = .ok (.goto 4, 3) := by decide +kernel
theorem dX1_takesBehindUnit_62 : decode cX1_takesBehindUnit 62 = .ok (.iconst 0, 1) := by decide +kernel
theorem dX1_takesBehindUnit_63 : decode cX1_takesBehindUnit 63 = .ok (.ireturn, 1) := by decide +kernel
theorem dX1_takesBehindUnit_64 : decode cX1_takesBehindUnit 64 = .ok (.aload_n 0, 1) := by decide +kernel
theorem dX1_takesBehindUnit_65 : decode cX1_takesBehindUnit 65 = .ok (.iconst 0, 1) := by decide +kernel
theorem dX1_takesBehindUnit_66 : decode cX1_takesBehindUnit 66 = .ok (.putfield 11, 3) := by decide +kernel
theorem dX1_takesBehindUnit_69 : decode cX1_takesBehindUnit 69 = .ok (.iload_n 1, 1) := by decide +kernel
theorem dX1_takesBehindUnit_70 : decode cX1_takesBehindUnit 70 = .ok (.bipush 38, 2) := by decide +kernel
theorem dX1_takesBehindUnit_72 : decode cX1_takesBehindUnit 72 = .ok (.if_icmp .eq 9, 3) := by decide +kernel
theorem dX1_takesBehindUnit_75 : decode cX1_takesBehindUnit 75 = .ok (.iload_n 1, 1) := by decide +kernel
theorem dX1_takesBehindUnit_76 : decode cX1_takesBehindUnit 76 = .ok (.bipush 124, 2) := by decide +kernel
theorem dX1_takesBehindUnit_78 : decode cX1_takesBehindUnit 78 = .ok (.if_icmp .ne 7, 3) := by decide +kernel
theorem dX1_takesBehindUnit_81 : decode cX1_takesBehindUnit 81 = .ok (.iconst 1, 1) := by decide +kernel
theorem dX1_takesBehindUnit_82 : decode cX1_takesBehindUnit 82 = .ok (.goto 4, 3) := by decide +kernel
theorem dX1_takesBehindUnit_85 : decode cX1_takesBehindUnit 85 = .ok (.iconst 0, 1) := by decide +kernel
theorem dX1_takesBehindUnit_86 : decode cX1_takesBehindUnit 86 = .ok (.ireturn, 1) := by decide +kernel
theorem dX1_isDigit_0 : decode cX1_isDigit 0 = .ok (.iload_n 0, 1) := by decide +kernel
theorem dX1_isDigit_1 : decode cX1_isDigit 1 = .ok (.bipush 48, 2) := by decide +kernel
theorem dX1_isDigit_3 : decode cX1_isDigit 3 = .ok (.if_icmp .lt 13, 3) := by decide +kernel
theorem dX1_isDigit_6 : decode cX1_isDigit 6 = .ok (.iload_n 0, 1) := by decide +kernel
theorem dX1_isDigit_7 : decode cX1_isDigit 7 = .ok (.bipush 57, 2) := by decide +kernel
theorem dX1_isDigit_9 : decode cX1_isDigit 9 = .ok (.if_icmp .gt 7, 3) := by decide +kernel
theorem dX1_isDigit_12 : decode cX1_isDigit 12 = .ok (.iconst 1, 1) := by decide +kernel
theorem dX1_isDigit_13 : decode cX1_isDigit 13 = .ok (.goto 4, 3) := by decide +kernel
theorem dX1_isDigit_16 : decode cX1_isDigit 16 = .ok (.iconst 0, 1) := by decide +kernel
theorem dX1_isDigit_17 : decode cX1_isDigit 17 = .ok (.ireturn, 1) := by decide +kernel
theorem dX2_init_0 : decode cX2_init 0 = .ok (.aload_n 0, 1) := by decide +kernel
theorem dX2_init_1 : decode cX2_init 1 = .ok (.invokespecial 3, 3) := by decide +kernel
theorem dX2_init_4 : decode cX2_init 4 = .ok (.aload_n 0, 1) := by decide +kernel
theorem dX2_init_5 : decode cX2_init 5 = .ok (.iload_n 1, 1) := by decide +kernel
theorem dX2_init_6 : decode cX2_init 6 = .ok (.putfield 9, 3) := by decide +kernel
theorem dX2_init_9 : decode cX2_init 9 = .ok (.aload_n 0, 1) := by decide +kernel
theorem dX2_init_10 : decode cX2_init 10 = .ok (.iload_n 2, 1) := by decide +kernel
theorem dX2_init_11 : decode cX2_init 11 = .ok (.putfield 15, 3) := by decide +kernel
theorem dX2_init_14 : decode cX2_init 14 = .ok (.aload_n 0, 1) := by decide +kernel
theorem dX2_init_15 : decode cX2_init 15 = .ok (.iload_n 3, 1) := by decide +kernel
theorem dX2_init_16 : decode cX2_init 16 = .ok (.putfield 18, 3) := by decide +kernel
theorem dX2_init_19 : decode cX2_init 19 = .ok (.aload_n 0, 1) := by decide +kernel
theorem dX2_init_20 : decode cX2_init 20 = .ok (.iload 4, 2) := by decide +kernel
theorem dX2_init_22 : decode cX2_init 22 = .ok (.putfield 21, 3) := by decide +kernel
theorem dX2_init_25 : decode cX2_init 25 = .ok (.aload_n 0, 1) := by decide +kernel
theorem dX2_init_26 : decode cX2_init 26 = .ok (.iload 5, 2) := by decide +kernel
theorem dX2_init_28 : decode cX2_init 28 = .ok (.putfield 24, 3) := by decide +kernel
theorem dX2_init_31 : decode cX2_init 31 = .ok (.aload_n 0, 1) := by decide +kernel
theorem dX2_init_32 : decode cX2_init 32 = .ok (.iload 6, 2) := by decide +kernel
theorem dX2_init_34 : decode cX2_init 34 = .ok (.putfield 27, 3) := by decide +kernel
theorem dX2_init_37 : decode cX2_init 37 = .ok (.aload_n 0, 1) := by decide +kernel
theorem dX2_init_38 : decode cX2_init 38 = .ok (.iload 7, 2) := by decide +kernel
theorem dX2_init_40 : decode cX2_init 40 = .ok (.putfield 30, 3) := by decide +kernel
theorem dX2_init_43 : decode cX2_init 43 = .ok (.return_, 1) := by decide +kernel
theorem dX2_cureOne_0 : decode cX2_cureOne 0 = .ok (.aload_n 0, 1) := by decide +kernel
theorem dX2_cureOne_1 : decode cX2_cureOne 1 = .ok (.dup, 1) := by decide +kernel
theorem dX2_cureOne_2 : decode cX2_cureOne 2 = .ok (.getfield 33, 3) := by decide +kernel
theorem dX2_cureOne_5 : decode cX2_cureOne 5 = .ok (.iconst 1, 1) := by decide +kernel
theorem dX2_cureOne_6 : decode cX2_cureOne 6 = .ok (.iadd, 1) := by decide +kernel
theorem dX2_cureOne_7 : decode cX2_cureOne 7 = .ok (.putfield 33, 3) := by decide +kernel
theorem dX2_cureOne_10 : decode cX2_cureOne 10 = .ok (.aload_n 0, 1) := by decide +kernel
theorem dX2_cureOne_11 : decode cX2_cureOne 11 = .ok (.aload_n 0, 1) := by decide +kernel
theorem dX2_cureOne_12 : decode cX2_cureOne 12 = .ok (.getfield 36, 3) := by decide +kernel
theorem dX2_cureOne_15 : decode cX2_cureOne 15 = .ok (.iload_n 1, 1) := by decide +kernel
theorem dX2_cureOne_16 : decode cX2_cureOne 16 = .ok (.aload_n 0, 1) := by decide +kernel
theorem dX2_cureOne_17 : decode cX2_cureOne 17 = .ok (.getfield 27, 3) := by decide +kernel
theorem dX2_cureOne_20 : decode cX2_cureOne 20 = .ok (.isub, 1) := by decide +kernel
theorem dX2_cureOne_21 : decode cX2_cureOne 21 = .ok (.invokestatic 39, 3) := by decide +kernel
theorem dX2_cureOne_24 : decode cX2_cureOne 24 = .ok (.putfield 36, 3) := by decide +kernel
theorem dX2_cureOne_27 : decode cX2_cureOne 27 = .ok (.aload_n 0, 1) := by decide +kernel
theorem dX2_cureOne_28 : decode cX2_cureOne 28 = .ok (.aload_n 0, 1) := by decide +kernel
theorem dX2_cureOne_29 : decode cX2_cureOne 29 = .ok (.getfield 45, 3) := by decide +kernel
theorem dX2_cureOne_32 : decode cX2_cureOne 32 = .ok (.iload_n 1, 1) := by decide +kernel
theorem dX2_cureOne_33 : decode cX2_cureOne 33 = .ok (.bipush 12, 2) := by decide +kernel
theorem dX2_cureOne_35 : decode cX2_cureOne 35 = .ok (.iadd, 1) := by decide +kernel
theorem dX2_cureOne_36 : decode cX2_cureOne 36 = .ok (.invokestatic 39, 3) := by decide +kernel
theorem dX2_cureOne_39 : decode cX2_cureOne 39 = .ok (.putfield 45, 3) := by decide +kernel
theorem dX2_cureOne_42 : decode cX2_cureOne 42 = .ok (.return_, 1) := by decide +kernel
theorem dX2_measure_0 : decode cX2_measure 0 = .ok (.iload_n 1, 1) := by decide +kernel
theorem dX2_measure_1 : decode cX2_measure 1 = .ok (.lookupswitch 78 #[(97, 66), (99, 51), (112, 73), (115, 56), (119, 61)], 51) := by decide +kernel
theorem dX2_measure_52 : decode cX2_measure 52 = .ok (.aload_n 0, 1) := by decide +kernel
theorem dX2_measure_53 : decode cX2_measure 53 = .ok (.getfield 33, 3) := by decide +kernel
theorem dX2_measure_56 : decode cX2_measure 56 = .ok (.ireturn, 1) := by decide +kernel
theorem dX2_measure_57 : decode cX2_measure 57 = .ok (.aload_n 0, 1) := by decide +kernel
theorem dX2_measure_58 : decode cX2_measure 58 = .ok (.getfield 48, 3) := by decide +kernel
theorem dX2_measure_61 : decode cX2_measure 61 = .ok (.ireturn, 1) := by decide +kernel
theorem dX2_measure_62 : decode cX2_measure 62 = .ok (.aload_n 0, 1) := by decide +kernel
theorem dX2_measure_63 : decode cX2_measure 63 = .ok (.getfield 36, 3) := by decide +kernel
theorem dX2_measure_66 : decode cX2_measure 66 = .ok (.ireturn, 1) := by decide +kernel
theorem dX2_measure_67 : decode cX2_measure 67 = .ok (.iload_n 2, 1) := by decide +kernel
theorem dX2_measure_68 : decode cX2_measure 68 = .ok (.aload_n 0, 1) := by decide +kernel
theorem dX2_measure_69 : decode cX2_measure 69 = .ok (.getfield 9, 3) := by decide +kernel
theorem dX2_measure_72 : decode cX2_measure 72 = .ok (.isub, 1) := by decide +kernel
theorem dX2_measure_73 : decode cX2_measure 73 = .ok (.ireturn, 1) := by decide +kernel
theorem dX2_measure_74 : decode cX2_measure 74 = .ok (.aload_n 0, 1) := by decide +kernel
theorem dX2_measure_75 : decode cX2_measure 75 = .ok (.getfield 30, 3) := by decide +kernel
theorem dX2_measure_78 : decode cX2_measure 78 = .ok (.ireturn, 1) := by decide +kernel
theorem dX2_measure_79 : decode cX2_measure 79 = .ok (.iconst 0, 1) := by decide +kernel
theorem dX2_measure_80 : decode cX2_measure 80 = .ok (.ireturn, 1) := by decide +kernel
theorem dX3_init_0 : decode cX3_init 0 = .ok (.aload_n 0, 1) := by decide +kernel
theorem dX3_init_1 : decode cX3_init 1 = .ok (.invokespecial 3, 3) := by decide +kernel
theorem dX3_init_4 : decode cX3_init 4 = .ok (.aload_n 0, 1) := by decide +kernel
theorem dX3_init_5 : decode cX3_init 5 = .ok (.bipush 12, 2) := by decide +kernel
theorem dX3_init_7 : decode cX3_init 7 = .ok (.newarray .int, 2) := by decide +kernel
theorem dX3_init_9 : decode cX3_init 9 = .ok (.putfield 9, 3) := by decide +kernel
theorem dX3_init_12 : decode cX3_init 12 = .ok (.aload_n 0, 1) := by decide +kernel
theorem dX3_init_13 : decode cX3_init 13 = .ok (.bipush 12, 2) := by decide +kernel
theorem dX3_init_15 : decode cX3_init 15 = .ok (.newarray .int, 2) := by decide +kernel
theorem dX3_init_17 : decode cX3_init 17 = .ok (.putfield 15, 3) := by decide +kernel
theorem dX3_init_20 : decode cX3_init 20 = .ok (.aload_n 0, 1) := by decide +kernel
theorem dX3_init_21 : decode cX3_init 21 = .ok (.bipush 12, 2) := by decide +kernel
theorem dX3_init_23 : decode cX3_init 23 = .ok (.newarray .int, 2) := by decide +kernel
theorem dX3_init_25 : decode cX3_init 25 = .ok (.putfield 18, 3) := by decide +kernel
theorem dX3_init_28 : decode cX3_init 28 = .ok (.return_, 1) := by decide +kernel
theorem dX3_clear_0 : decode cX3_clear 0 = .ok (.aload_n 0, 1) := by decide +kernel
theorem dX3_clear_1 : decode cX3_clear 1 = .ok (.iconst 0, 1) := by decide +kernel
theorem dX3_clear_2 : decode cX3_clear 2 = .ok (.putfield 21, 3) := by decide +kernel
theorem dX3_clear_5 : decode cX3_clear 5 = .ok (.iconst 0, 1) := by decide +kernel
theorem dX3_clear_6 : decode cX3_clear 6 = .ok (.istore_n 1, 1) := by decide +kernel
theorem dX3_clear_7 : decode cX3_clear 7 = .ok (.iload_n 1, 1) := by decide +kernel
theorem dX3_clear_8 : decode cX3_clear 8 = .ok (.bipush 12, 2) := by decide +kernel
theorem dX3_clear_10 : decode cX3_clear 10 = .ok (.if_icmp .ge 23, 3) := by decide +kernel
theorem dX3_clear_13 : decode cX3_clear 13 = .ok (.aload_n 0, 1) := by decide +kernel
theorem dX3_clear_14 : decode cX3_clear 14 = .ok (.getfield 15, 3) := by decide +kernel
theorem dX3_clear_17 : decode cX3_clear 17 = .ok (.iload_n 1, 1) := by decide +kernel
theorem dX3_clear_18 : decode cX3_clear 18 = .ok (.iconst 0, 1) := by decide +kernel
theorem dX3_clear_19 : decode cX3_clear 19 = .ok (.iastore, 1) := by decide +kernel
theorem dX3_clear_20 : decode cX3_clear 20 = .ok (.aload_n 0, 1) := by decide +kernel
theorem dX3_clear_21 : decode cX3_clear 21 = .ok (.getfield 9, 3) := by decide +kernel
theorem dX3_clear_24 : decode cX3_clear 24 = .ok (.iload_n 1, 1) := by decide +kernel
theorem dX3_clear_25 : decode cX3_clear 25 = .ok (.iconst 0, 1) := by decide +kernel
theorem dX3_clear_26 : decode cX3_clear 26 = .ok (.iastore, 1) := by decide +kernel
theorem dX3_clear_27 : decode cX3_clear 27 = .ok (.iinc 1 1, 3) := by decide +kernel
theorem dX3_clear_30 : decode cX3_clear 30 = .ok (.goto (-23), 3) := by decide +kernel
theorem dX3_clear_33 : decode cX3_clear 33 = .ok (.return_, 1) := by decide +kernel
theorem dX3_addMeasure_0 : decode cX3_addMeasure 0 = .ok (.iload_n 1, 1) := by decide +kernel
theorem dX3_addMeasure_1 : decode cX3_addMeasure 1 = .ok (.ifCond .lt 26, 3) := by decide +kernel
theorem dX3_addMeasure_4 : decode cX3_addMeasure 4 = .ok (.iload_n 1, 1) := by decide +kernel
theorem dX3_addMeasure_5 : decode cX3_addMeasure 5 = .ok (.bipush 12, 2) := by decide +kernel
theorem dX3_addMeasure_7 : decode cX3_addMeasure 7 = .ok (.if_icmp .ge 20, 3) := by decide +kernel
theorem dX3_addMeasure_10 : decode cX3_addMeasure 10 = .ok (.aload_n 0, 1) := by decide +kernel
theorem dX3_addMeasure_11 : decode cX3_addMeasure 11 = .ok (.getfield 15, 3) := by decide +kernel
theorem dX3_addMeasure_14 : decode cX3_addMeasure 14 = .ok (.iload_n 1, 1) := by decide +kernel
theorem dX3_addMeasure_15 : decode cX3_addMeasure 15 = .ok (.iload_n 2, 1) := by decide +kernel
theorem dX3_addMeasure_16 : decode cX3_addMeasure 16 = .ok (.iastore, 1) := by decide +kernel
theorem dX3_addMeasure_17 : decode cX3_addMeasure 17 = .ok (.aload_n 0, 1) := by decide +kernel
theorem dX3_addMeasure_18 : decode cX3_addMeasure 18 = .ok (.dup, 1) := by decide +kernel
theorem dX3_addMeasure_19 : decode cX3_addMeasure 19 = .ok (.getfield 21, 3) := by decide +kernel
theorem dX3_addMeasure_22 : decode cX3_addMeasure 22 = .ok (.iload_n 2, 1) := by decide +kernel
theorem dX3_addMeasure_23 : decode cX3_addMeasure 23 = .ok (.iadd, 1) := by decide +kernel
theorem dX3_addMeasure_24 : decode cX3_addMeasure 24 = .ok (.putfield 21, 3) := by decide +kernel
theorem dX3_addMeasure_27 : decode cX3_addMeasure 27 = .ok (.return_, 1) := by decide +kernel
theorem dX3_part_0 : decode cX3_part 0 = .ok (.aload_n 0, 1) := by decide +kernel
theorem dX3_part_1 : decode cX3_part 1 = .ok (.getfield 21, 3) := by decide +kernel
theorem dX3_part_4 : decode cX3_part 4 = .ok (.ifCond .gt 4, 3) := by decide +kernel
theorem dX3_part_7 : decode cX3_part 7 = .ok (.return_, 1) := by decide +kernel
theorem dX3_part_8 : decode cX3_part 8 = .ok (.iload_n 1, 1) := by decide +kernel
theorem dX3_part_9 : decode cX3_part 9 = .ok (.istore_n 2, 1) := by decide +kernel
theorem dX3_part_10 : decode cX3_part 10 = .ok (.iconst 0, 1) := by decide +kernel
theorem dX3_part_11 : decode cX3_part 11 = .ok (.istore_n 3, 1) := by decide +kernel
theorem dX3_part_12 : decode cX3_part 12 = .ok (.iload_n 3, 1) := by decide +kernel
theorem dX3_part_13 : decode cX3_part 13 = .ok (.bipush 12, 2) := by decide +kernel
theorem dX3_part_15 : decode cX3_part 15 = .ok (.if_icmp .ge 60, 3) := by decide +kernel
theorem dX3_part_18 : decode cX3_part 18 = .ok (.iload_n 1, 1) := by decide +kernel
theorem dX3_part_19 : decode cX3_part 19 = .ok (.i2l, 1) := by decide +kernel
theorem dX3_part_20 : decode cX3_part 20 = .ok (.aload_n 0, 1) := by decide +kernel
theorem dX3_part_21 : decode cX3_part 21 = .ok (.getfield 15, 3) := by decide +kernel
theorem dX3_part_24 : decode cX3_part 24 = .ok (.iload_n 3, 1) := by decide +kernel
theorem dX3_part_25 : decode cX3_part 25 = .ok (.iaload, 1) := by decide +kernel
theorem dX3_part_26 : decode cX3_part 26 = .ok (.i2l, 1) := by decide +kernel
theorem dX3_part_27 : decode cX3_part 27 = .ok (.lmul, 1) := by decide +kernel
theorem dX3_part_28 : decode cX3_part 28 = .ok (.lstore 4, 2) := by decide +kernel
theorem dX3_part_30 : decode cX3_part 30 = .ok (.aload_n 0, 1) := by decide +kernel
theorem dX3_part_31 : decode cX3_part 31 = .ok (.getfield 9, 3) := by decide +kernel
theorem dX3_part_34 : decode cX3_part 34 = .ok (.iload_n 3, 1) := by decide +kernel
theorem dX3_part_35 : decode cX3_part 35 = .ok (.lload 4, 2) := by decide +kernel
theorem dX3_part_37 : decode cX3_part 37 = .ok (.aload_n 0, 1) := by decide +kernel
theorem dX3_part_38 : decode cX3_part 38 = .ok (.getfield 21, 3) := by decide +kernel
theorem dX3_part_41 : decode cX3_part 41 = .ok (.i2l, 1) := by decide +kernel
theorem dX3_part_42 : decode cX3_part 42 = .ok (.ldiv, 1) := by decide +kernel
theorem dX3_part_43 : decode cX3_part 43 = .ok (.l2i, 1) := by decide +kernel
theorem dX3_part_44 : decode cX3_part 44 = .ok (.iastore, 1) := by decide +kernel
theorem dX3_part_45 : decode cX3_part 45 = .ok (.aload_n 0, 1) := by decide +kernel
theorem dX3_part_46 : decode cX3_part 46 = .ok (.getfield 18, 3) := by decide +kernel
theorem dX3_part_49 : decode cX3_part 49 = .ok (.iload_n 3, 1) := by decide +kernel
theorem dX3_part_50 : decode cX3_part 50 = .ok (.lload 4, 2) := by decide +kernel
theorem dX3_part_52 : decode cX3_part 52 = .ok (.aload_n 0, 1) := by decide +kernel
theorem dX3_part_53 : decode cX3_part 53 = .ok (.getfield 21, 3) := by decide +kernel
theorem dX3_part_56 : decode cX3_part 56 = .ok (.i2l, 1) := by decide +kernel
theorem dX3_part_57 : decode cX3_part 57 = .ok (.lrem, 1) := by decide +kernel
theorem dX3_part_58 : decode cX3_part 58 = .ok (.l2i, 1) := by decide +kernel
theorem dX3_part_59 : decode cX3_part 59 = .ok (.iastore, 1) := by decide +kernel
theorem dX3_part_60 : decode cX3_part 60 = .ok (.iload_n 2, 1) := by decide +kernel
theorem dX3_part_61 : decode cX3_part 61 = .ok (.aload_n 0, 1) := by decide +kernel
theorem dX3_part_62 : decode cX3_part 62 = .ok (.getfield 9, 3) := by decide +kernel
theorem dX3_part_65 : decode cX3_part 65 = .ok (.iload_n 3, 1) := by decide +kernel
theorem dX3_part_66 : decode cX3_part 66 = .ok (.iaload, 1) := by decide +kernel
theorem dX3_part_67 : decode cX3_part 67 = .ok (.isub, 1) := by decide +kernel
theorem dX3_part_68 : decode cX3_part 68 = .ok (.istore_n 2, 1) := by decide +kernel
theorem dX3_part_69 : decode cX3_part 69 = .ok (.iinc 3 1, 3) := by decide +kernel
theorem dX3_part_72 : decode cX3_part 72 = .ok (.goto (-60), 3) := by decide +kernel
theorem dX3_part_75 : decode cX3_part 75 = .ok (.iconst 0, 1) := by decide +kernel
theorem dX3_part_76 : decode cX3_part 76 = .ok (.istore_n 3, 1) := by decide +kernel
theorem dX3_part_77 : decode cX3_part 77 = .ok (.iload_n 3, 1) := by decide +kernel
theorem dX3_part_78 : decode cX3_part 78 = .ok (.iload_n 2, 1) := by decide +kernel
theorem dX3_part_79 : decode cX3_part 79 = .ok (.if_icmp .ge 40, 3) := by decide +kernel
theorem dX3_part_82 : decode cX3_part 82 = .ok (.iload_n 3, 1) := by decide +kernel
theorem dX3_part_83 : decode cX3_part 83 = .ok (.bipush 12, 2) := by decide +kernel
theorem dX3_part_85 : decode cX3_part 85 = .ok (.if_icmp .ge 34, 3) := by decide +kernel
theorem dX3_part_88 : decode cX3_part 88 = .ok (.aload_n 0, 1) := by decide +kernel
theorem dX3_part_89 : decode cX3_part 89 = .ok (.invokevirtual 25, 3) := by decide +kernel
theorem dX3_part_92 : decode cX3_part 92 = .ok (.istore 4, 2) := by decide +kernel
theorem dX3_part_94 : decode cX3_part 94 = .ok (.aload_n 0, 1) := by decide +kernel
theorem dX3_part_95 : decode cX3_part 95 = .ok (.getfield 9, 3) := by decide +kernel
theorem dX3_part_98 : decode cX3_part 98 = .ok (.iload 4, 2) := by decide +kernel
theorem dX3_part_100 : decode cX3_part 100 = .ok (.dup2, 1) := by decide +kernel
theorem dX3_part_101 : decode cX3_part 101 = .ok (.iaload, 1) := by decide +kernel
theorem dX3_part_102 : decode cX3_part 102 = .ok (.iconst 1, 1) := by decide +kernel
theorem dX3_part_103 : decode cX3_part 103 = .ok (.iadd, 1) := by decide +kernel
theorem dX3_part_104 : decode cX3_part 104 = .ok (.iastore, 1) := by decide +kernel
theorem dX3_part_105 : decode cX3_part 105 = .ok (.aload_n 0, 1) := by decide +kernel
theorem dX3_part_106 : decode cX3_part 106 = .ok (.getfield 18, 3) := by decide +kernel
theorem dX3_part_109 : decode cX3_part 109 = .ok (.iload 4, 2) := by decide +kernel
theorem dX3_part_111 : decode cX3_part 111 = .ok (.iconst 0, 1) := by decide +kernel
theorem dX3_part_112 : decode cX3_part 112 = .ok (.iastore, 1) := by decide +kernel
theorem dX3_part_113 : decode cX3_part 113 = .ok (.iinc 3 1, 3) := by decide +kernel
theorem dX3_part_116 : decode cX3_part 116 = .ok (.goto (-39), 3) := by decide +kernel
theorem dX3_part_119 : decode cX3_part 119 = .ok (.return_, 1) := by decide +kernel
theorem dX3_greatestRest_0 : decode cX3_greatestRest 0 = .ok (.iconst 0, 1) := by decide +kernel
theorem dX3_greatestRest_1 : decode cX3_greatestRest 1 = .ok (.istore_n 1, 1) := by decide +kernel
theorem dX3_greatestRest_2 : decode cX3_greatestRest 2 = .ok (.iconst 1, 1) := by decide +kernel
theorem dX3_greatestRest_3 : decode cX3_greatestRest 3 = .ok (.istore_n 2, 1) := by decide +kernel
theorem dX3_greatestRest_4 : decode cX3_greatestRest 4 = .ok (.iload_n 2, 1) := by decide +kernel
theorem dX3_greatestRest_5 : decode cX3_greatestRest 5 = .ok (.bipush 12, 2) := by decide +kernel
theorem dX3_greatestRest_7 : decode cX3_greatestRest 7 = .ok (.if_icmp .ge 26, 3) := by decide +kernel
theorem dX3_greatestRest_10 : decode cX3_greatestRest 10 = .ok (.aload_n 0, 1) := by decide +kernel
theorem dX3_greatestRest_11 : decode cX3_greatestRest 11 = .ok (.getfield 18, 3) := by decide +kernel
theorem dX3_greatestRest_14 : decode cX3_greatestRest 14 = .ok (.iload_n 2, 1) := by decide +kernel
theorem dX3_greatestRest_15 : decode cX3_greatestRest 15 = .ok (.iaload, 1) := by decide +kernel
theorem dX3_greatestRest_16 : decode cX3_greatestRest 16 = .ok (.aload_n 0, 1) := by decide +kernel
theorem dX3_greatestRest_17 : decode cX3_greatestRest 17 = .ok (.getfield 18, 3) := by decide +kernel
theorem dX3_greatestRest_20 : decode cX3_greatestRest 20 = .ok (.iload_n 1, 1) := by decide +kernel
theorem dX3_greatestRest_21 : decode cX3_greatestRest 21 = .ok (.iaload, 1) := by decide +kernel
theorem dX3_greatestRest_22 : decode cX3_greatestRest 22 = .ok (.if_icmp .le 5, 3) := by decide +kernel
theorem dX3_greatestRest_25 : decode cX3_greatestRest 25 = .ok (.iload_n 2, 1) := by decide +kernel
theorem dX3_greatestRest_26 : decode cX3_greatestRest 26 = .ok (.istore_n 1, 1) := by decide +kernel
theorem dX3_greatestRest_27 : decode cX3_greatestRest 27 = .ok (.iinc 2 1, 3) := by decide +kernel
theorem dX3_greatestRest_30 : decode cX3_greatestRest 30 = .ok (.goto (-26), 3) := by decide +kernel
theorem dX3_greatestRest_33 : decode cX3_greatestRest 33 = .ok (.iload_n 1, 1) := by decide +kernel
theorem dX3_greatestRest_34 : decode cX3_greatestRest 34 = .ok (.ireturn, 1) := by decide +kernel
theorem dX4_init_0 : decode cX4_init 0 = .ok (.aload_n 0, 1) := by decide +kernel
theorem dX4_init_1 : decode cX4_init 1 = .ok (.invokespecial 3, 3) := by decide +kernel
theorem dX4_init_4 : decode cX4_init 4 = .ok (.aload_n 0, 1) := by decide +kernel
theorem dX4_init_5 : decode cX4_init 5 = .ok (.bipush 36, 2) := by decide +kernel
theorem dX4_init_7 : decode cX4_init 7 = .ok (.newarray .int, 2) := by decide +kernel
theorem dX4_init_9 : decode cX4_init 9 = .ok (.putfield 9, 3) := by decide +kernel
theorem dX4_init_12 : decode cX4_init 12 = .ok (.aload_n 0, 1) := by decide +kernel
theorem dX4_init_13 : decode cX4_init 13 = .ok (.bipush 36, 2) := by decide +kernel
theorem dX4_init_15 : decode cX4_init 15 = .ok (.newarray .boolean, 2) := by decide +kernel
theorem dX4_init_17 : decode cX4_init 17 = .ok (.putfield 15, 3) := by decide +kernel
theorem dX4_init_20 : decode cX4_init 20 = .ok (.aload_n 0, 1) := by decide +kernel
theorem dX4_init_21 : decode cX4_init 21 = .ok (.bipush 36, 2) := by decide +kernel
theorem dX4_init_23 : decode cX4_init 23 = .ok (.newarray .int, 2) := by decide +kernel
theorem dX4_init_25 : decode cX4_init 25 = .ok (.putfield 19, 3) := by decide +kernel
theorem dX4_init_28 : decode cX4_init 28 = .ok (.return_, 1) := by decide +kernel
theorem dX4_isCell_0 : decode cX4_isCell 0 = .ok (.iload_n 0, 1) := by decide +kernel
theorem dX4_isCell_1 : decode cX4_isCell 1 = .ok (.ifCond .lt 13, 3) := by decide +kernel
theorem dX4_isCell_4 : decode cX4_isCell 4 = .ok (.iload_n 0, 1) := by decide +kernel
theorem dX4_isCell_5 : decode cX4_isCell 5 = .ok (.bipush 36, 2) := by decide +kernel
theorem dX4_isCell_7 : decode cX4_isCell 7 = .ok (.if_icmp .ge 7, 3) := by decide +kernel
theorem dX4_isCell_10 : decode cX4_isCell 10 = .ok (.iconst 1, 1) := by decide +kernel
theorem dX4_isCell_11 : decode cX4_isCell 11 = .ok (.goto 4, 3) := by decide +kernel
theorem dX4_isCell_14 : decode cX4_isCell 14 = .ok (.iconst 0, 1) := by decide +kernel
theorem dX4_isCell_15 : decode cX4_isCell 15 = .ok (.ireturn, 1) := by decide +kernel
theorem dX4_stepsFrom_0 : decode cX4_stepsFrom 0 = .ok (.iload_n 0, 1) := by decide +kernel
theorem dX4_stepsFrom_1 : decode cX4_stepsFrom 1 = .ok (.invokestatic 22, 3) := by decide +kernel
theorem dX4_stepsFrom_4 : decode cX4_stepsFrom 4 = .ok (.ifCond .eq 15, 3) := by decide +kernel
theorem dX4_stepsFrom_7 : decode cX4_stepsFrom 7 = .ok (.iload_n 0, 1) := by decide +kernel
theorem dX4_stepsFrom_8 : decode cX4_stepsFrom 8 = .ok (.bipush 6, 2) := by decide +kernel
theorem dX4_stepsFrom_10 : decode cX4_stepsFrom 10 = .ok (.irem, 1) := by decide +kernel
theorem dX4_stepsFrom_11 : decode cX4_stepsFrom 11 = .ok (.iload_n 0, 1) := by decide +kernel
theorem dX4_stepsFrom_12 : decode cX4_stepsFrom 12 = .ok (.bipush 6, 2) := by decide +kernel
theorem dX4_stepsFrom_14 : decode cX4_stepsFrom 14 = .ok (.idiv, 1) := by decide +kernel
theorem dX4_stepsFrom_15 : decode cX4_stepsFrom 15 = .ok (.iadd, 1) := by decide +kernel
theorem dX4_stepsFrom_16 : decode cX4_stepsFrom 16 = .ok (.goto 4, 3) := by decide +kernel
theorem dX4_stepsFrom_19 : decode cX4_stepsFrom 19 = .ok (.iconst (-1), 1) := by decide +kernel
theorem dX4_stepsFrom_20 : decode cX4_stepsFrom 20 = .ok (.ireturn, 1) := by decide +kernel
theorem dX4_nextCell_0 : decode cX4_nextCell 0 = .ok (.iload_n 0, 1) := by decide +kernel
theorem dX4_nextCell_1 : decode cX4_nextCell 1 = .ok (.bipush 6, 2) := by decide +kernel
theorem dX4_nextCell_3 : decode cX4_nextCell 3 = .ok (.irem, 1) := by decide +kernel
theorem dX4_nextCell_4 : decode cX4_nextCell 4 = .ok (.istore_n 2, 1) := by decide +kernel
theorem dX4_nextCell_5 : decode cX4_nextCell 5 = .ok (.iload_n 0, 1) := by decide +kernel
theorem dX4_nextCell_6 : decode cX4_nextCell 6 = .ok (.bipush 6, 2) := by decide +kernel
theorem dX4_nextCell_8 : decode cX4_nextCell 8 = .ok (.idiv, 1) := by decide +kernel
theorem dX4_nextCell_9 : decode cX4_nextCell 9 = .ok (.istore_n 3, 1) := by decide +kernel
theorem dX4_nextCell_10 : decode cX4_nextCell 10 = .ok (.iload_n 1, 1) := by decide +kernel
theorem dX4_nextCell_11 : decode cX4_nextCell 11 = .ok (.tableswitch 81 1 4 #[29, 42, 54, 68], 29) := by decide +kernel
theorem dX4_nextCell_40 : decode cX4_nextCell 40 = .ok (.iload_n 2, 1) := by decide +kernel
theorem dX4_nextCell_41 : decode cX4_nextCell 41 = .ok (.iconst 5, 1) := by decide +kernel
theorem dX4_nextCell_42 : decode cX4_nextCell 42 = .ok (.if_icmp .ge 9, 3) := by decide +kernel
theorem dX4_nextCell_45 : decode cX4_nextCell 45 = .ok (.iload_n 0, 1) := by decide +kernel
theorem dX4_nextCell_46 : decode cX4_nextCell 46 = .ok (.iconst 1, 1) := by decide +kernel
theorem dX4_nextCell_47 : decode cX4_nextCell 47 = .ok (.iadd, 1) := by decide +kernel
theorem dX4_nextCell_48 : decode cX4_nextCell 48 = .ok (.goto 4, 3) := by decide +kernel
theorem dX4_nextCell_51 : decode cX4_nextCell 51 = .ok (.iconst (-1), 1) := by decide +kernel
theorem dX4_nextCell_52 : decode cX4_nextCell 52 = .ok (.ireturn, 1) := by decide +kernel
theorem dX4_nextCell_53 : decode cX4_nextCell 53 = .ok (.iload_n 2, 1) := by decide +kernel
theorem dX4_nextCell_54 : decode cX4_nextCell 54 = .ok (.ifCond .le 9, 3) := by decide +kernel
theorem dX4_nextCell_57 : decode cX4_nextCell 57 = .ok (.iload_n 0, 1) := by decide +kernel
theorem dX4_nextCell_58 : decode cX4_nextCell 58 = .ok (.iconst 1, 1) := by decide +kernel
theorem dX4_nextCell_59 : decode cX4_nextCell 59 = .ok (.isub, 1) := by decide +kernel
theorem dX4_nextCell_60 : decode cX4_nextCell 60 = .ok (.goto 4, 3) := by decide +kernel
theorem dX4_nextCell_63 : decode cX4_nextCell 63 = .ok (.iconst (-1), 1) := by decide +kernel
theorem dX4_nextCell_64 : decode cX4_nextCell 64 = .ok (.ireturn, 1) := by decide +kernel
theorem dX4_nextCell_65 : decode cX4_nextCell 65 = .ok (.iload_n 3, 1) := by decide +kernel
theorem dX4_nextCell_66 : decode cX4_nextCell 66 = .ok (.iconst 5, 1) := by decide +kernel
theorem dX4_nextCell_67 : decode cX4_nextCell 67 = .ok (.if_icmp .ge 10, 3) := by decide +kernel
theorem dX4_nextCell_70 : decode cX4_nextCell 70 = .ok (.iload_n 0, 1) := by decide +kernel
theorem dX4_nextCell_71 : decode cX4_nextCell 71 = .ok (.bipush 6, 2) := by decide +kernel
theorem dX4_nextCell_73 : decode cX4_nextCell 73 = .ok (.iadd, 1) := by decide +kernel
theorem dX4_nextCell_74 : decode cX4_nextCell 74 = .ok (.goto 4, 3) := by decide +kernel
theorem dX4_nextCell_77 : decode cX4_nextCell 77 = .ok (.iconst (-1), 1) := by decide +kernel
theorem dX4_nextCell_78 : decode cX4_nextCell 78 = .ok (.ireturn, 1) := by decide +kernel
theorem dX4_nextCell_79 : decode cX4_nextCell 79 = .ok (.iload_n 3, 1) := by decide +kernel
theorem dX4_nextCell_80 : decode cX4_nextCell 80 = .ok (.ifCond .le 10, 3) := by decide +kernel
theorem dX4_nextCell_83 : decode cX4_nextCell 83 = .ok (.iload_n 0, 1) := by decide +kernel
theorem dX4_nextCell_84 : decode cX4_nextCell 84 = .ok (.bipush 6, 2) := by decide +kernel
theorem dX4_nextCell_86 : decode cX4_nextCell 86 = .ok (.isub, 1) := by decide +kernel
theorem dX4_nextCell_87 : decode cX4_nextCell 87 = .ok (.goto 4, 3) := by decide +kernel
theorem dX4_nextCell_90 : decode cX4_nextCell 90 = .ok (.iconst (-1), 1) := by decide +kernel
theorem dX4_nextCell_91 : decode cX4_nextCell 91 = .ok (.ireturn, 1) := by decide +kernel
theorem dX4_nextCell_92 : decode cX4_nextCell 92 = .ok (.iconst (-1), 1) := by decide +kernel
theorem dX4_nextCell_93 : decode cX4_nextCell 93 = .ok (.ireturn, 1) := by decide +kernel
theorem dX4_moveShoals_0 : decode cX4_moveShoals 0 = .ok (.iconst 0, 1) := by decide +kernel
theorem dX4_moveShoals_1 : decode cX4_moveShoals 1 = .ok (.istore_n 1, 1) := by decide +kernel
theorem dX4_moveShoals_2 : decode cX4_moveShoals 2 = .ok (.iload_n 1, 1) := by decide +kernel
theorem dX4_moveShoals_3 : decode cX4_moveShoals 3 = .ok (.bipush 36, 2) := by decide +kernel
theorem dX4_moveShoals_5 : decode cX4_moveShoals 5 = .ok (.if_icmp .ge 16, 3) := by decide +kernel
theorem dX4_moveShoals_8 : decode cX4_moveShoals 8 = .ok (.aload_n 0, 1) := by decide +kernel
theorem dX4_moveShoals_9 : decode cX4_moveShoals 9 = .ok (.getfield 19, 3) := by decide +kernel
theorem dX4_moveShoals_12 : decode cX4_moveShoals 12 = .ok (.iload_n 1, 1) := by decide +kernel
theorem dX4_moveShoals_13 : decode cX4_moveShoals 13 = .ok (.iconst 0, 1) := by decide +kernel
theorem dX4_moveShoals_14 : decode cX4_moveShoals 14 = .ok (.iastore, 1) := by decide +kernel
theorem dX4_moveShoals_15 : decode cX4_moveShoals 15 = .ok (.iinc 1 1, 3) := by decide +kernel
theorem dX4_moveShoals_18 : decode cX4_moveShoals 18 = .ok (.goto (-16), 3) := by decide +kernel
theorem dX4_moveShoals_21 : decode cX4_moveShoals 21 = .ok (.iconst 0, 1) := by decide +kernel
theorem dX4_moveShoals_22 : decode cX4_moveShoals 22 = .ok (.istore_n 1, 1) := by decide +kernel
theorem dX4_moveShoals_23 : decode cX4_moveShoals 23 = .ok (.iload_n 1, 1) := by decide +kernel
theorem dX4_moveShoals_24 : decode cX4_moveShoals 24 = .ok (.bipush 36, 2) := by decide +kernel
theorem dX4_moveShoals_26 : decode cX4_moveShoals 26 = .ok (.if_icmp .ge 54, 3) := by decide +kernel
theorem dX4_moveShoals_29 : decode cX4_moveShoals 29 = .ok (.iload_n 1, 1) := by decide +kernel
theorem dX4_moveShoals_30 : decode cX4_moveShoals 30 = .ok (.aload_n 0, 1) := by decide +kernel
theorem dX4_moveShoals_31 : decode cX4_moveShoals 31 = .ok (.getfield 26, 3) := by decide +kernel
theorem dX4_moveShoals_34 : decode cX4_moveShoals 34 = .ok (.invokestatic 30, 3) := by decide +kernel
theorem dX4_moveShoals_37 : decode cX4_moveShoals 37 = .ok (.istore_n 2, 1) := by decide +kernel
theorem dX4_moveShoals_38 : decode cX4_moveShoals 38 = .ok (.iload_n 2, 1) := by decide +kernel
theorem dX4_moveShoals_39 : decode cX4_moveShoals 39 = .ok (.invokestatic 22, 3) := by decide +kernel
theorem dX4_moveShoals_42 : decode cX4_moveShoals 42 = .ok (.ifCond .eq 32, 3) := by decide +kernel
theorem dX4_moveShoals_45 : decode cX4_moveShoals 45 = .ok (.aload_n 0, 1) := by decide +kernel
theorem dX4_moveShoals_46 : decode cX4_moveShoals 46 = .ok (.getfield 9, 3) := by decide +kernel
theorem dX4_moveShoals_49 : decode cX4_moveShoals 49 = .ok (.iload_n 1, 1) := by decide +kernel
theorem dX4_moveShoals_50 : decode cX4_moveShoals 50 = .ok (.iaload, 1) := by decide +kernel
theorem dX4_moveShoals_51 : decode cX4_moveShoals 51 = .ok (.iconst 4, 1) := by decide +kernel
theorem dX4_moveShoals_52 : decode cX4_moveShoals 52 = .ok (.idiv, 1) := by decide +kernel
theorem dX4_moveShoals_53 : decode cX4_moveShoals 53 = .ok (.istore_n 3, 1) := by decide +kernel
theorem dX4_moveShoals_54 : decode cX4_moveShoals 54 = .ok (.aload_n 0, 1) := by decide +kernel
theorem dX4_moveShoals_55 : decode cX4_moveShoals 55 = .ok (.getfield 19, 3) := by decide +kernel
theorem dX4_moveShoals_58 : decode cX4_moveShoals 58 = .ok (.iload_n 1, 1) := by decide +kernel
theorem dX4_moveShoals_59 : decode cX4_moveShoals 59 = .ok (.dup2, 1) := by decide +kernel
theorem dX4_moveShoals_60 : decode cX4_moveShoals 60 = .ok (.iaload, 1) := by decide +kernel
theorem dX4_moveShoals_61 : decode cX4_moveShoals 61 = .ok (.iload_n 3, 1) := by decide +kernel
theorem dX4_moveShoals_62 : decode cX4_moveShoals 62 = .ok (.isub, 1) := by decide +kernel
theorem dX4_moveShoals_63 : decode cX4_moveShoals 63 = .ok (.iastore, 1) := by decide +kernel
theorem dX4_moveShoals_64 : decode cX4_moveShoals 64 = .ok (.aload_n 0, 1) := by decide +kernel
theorem dX4_moveShoals_65 : decode cX4_moveShoals 65 = .ok (.getfield 19, 3) := by decide +kernel
theorem dX4_moveShoals_68 : decode cX4_moveShoals 68 = .ok (.iload_n 2, 1) := by decide +kernel
theorem dX4_moveShoals_69 : decode cX4_moveShoals 69 = .ok (.dup2, 1) := by decide +kernel
theorem dX4_moveShoals_70 : decode cX4_moveShoals 70 = .ok (.iaload, 1) := by decide +kernel
theorem dX4_moveShoals_71 : decode cX4_moveShoals 71 = .ok (.iload_n 3, 1) := by decide +kernel
theorem dX4_moveShoals_72 : decode cX4_moveShoals 72 = .ok (.iadd, 1) := by decide +kernel
theorem dX4_moveShoals_73 : decode cX4_moveShoals 73 = .ok (.iastore, 1) := by decide +kernel
theorem dX4_moveShoals_74 : decode cX4_moveShoals 74 = .ok (.iinc 1 1, 3) := by decide +kernel
theorem dX4_moveShoals_77 : decode cX4_moveShoals 77 = .ok (.goto (-54), 3) := by decide +kernel
theorem dX4_moveShoals_80 : decode cX4_moveShoals 80 = .ok (.iconst 0, 1) := by decide +kernel
theorem dX4_moveShoals_81 : decode cX4_moveShoals 81 = .ok (.istore_n 1, 1) := by decide +kernel
theorem dX4_moveShoals_82 : decode cX4_moveShoals 82 = .ok (.iload_n 1, 1) := by decide +kernel
theorem dX4_moveShoals_83 : decode cX4_moveShoals 83 = .ok (.bipush 36, 2) := by decide +kernel
theorem dX4_moveShoals_85 : decode cX4_moveShoals 85 = .ok (.if_icmp .ge 53, 3) := by decide +kernel
theorem dX4_moveShoals_88 : decode cX4_moveShoals 88 = .ok (.aload_n 0, 1) := by decide +kernel
theorem dX4_moveShoals_89 : decode cX4_moveShoals 89 = .ok (.getfield 9, 3) := by decide +kernel
theorem dX4_moveShoals_92 : decode cX4_moveShoals 92 = .ok (.iload_n 1, 1) := by decide +kernel
theorem dX4_moveShoals_93 : decode cX4_moveShoals 93 = .ok (.iaload, 1) := by decide +kernel
theorem dX4_moveShoals_94 : decode cX4_moveShoals 94 = .ok (.aload_n 0, 1) := by decide +kernel
theorem dX4_moveShoals_95 : decode cX4_moveShoals 95 = .ok (.getfield 19, 3) := by decide +kernel
theorem dX4_moveShoals_98 : decode cX4_moveShoals 98 = .ok (.iload_n 1, 1) := by decide +kernel
theorem dX4_moveShoals_99 : decode cX4_moveShoals 99 = .ok (.iaload, 1) := by decide +kernel
theorem dX4_moveShoals_100 : decode cX4_moveShoals 100 = .ok (.iadd, 1) := by decide +kernel
theorem dX4_moveShoals_101 : decode cX4_moveShoals 101 = .ok (.istore_n 2, 1) := by decide +kernel
theorem dX4_moveShoals_102 : decode cX4_moveShoals 102 = .ok (.aload_n 0, 1) := by decide +kernel
theorem dX4_moveShoals_103 : decode cX4_moveShoals 103 = .ok (.getfield 9, 3) := by decide +kernel
theorem dX4_moveShoals_106 : decode cX4_moveShoals 106 = .ok (.iload_n 1, 1) := by decide +kernel
theorem dX4_moveShoals_107 : decode cX4_moveShoals 107 = .ok (.iload_n 2, 1) := by decide +kernel
theorem dX4_moveShoals_108 : decode cX4_moveShoals 108 = .ok (.sipush 10000, 3) := by decide +kernel
theorem dX4_moveShoals_111 : decode cX4_moveShoals 111 = .ok (.invokestatic 34, 3) := by decide +kernel
theorem dX4_moveShoals_114 : decode cX4_moveShoals 114 = .ok (.iastore, 1) := by decide +kernel
theorem dX4_moveShoals_115 : decode cX4_moveShoals 115 = .ok (.aload_n 0, 1) := by decide +kernel
theorem dX4_moveShoals_116 : decode cX4_moveShoals 116 = .ok (.dup, 1) := by decide +kernel
theorem dX4_moveShoals_117 : decode cX4_moveShoals 117 = .ok (.getfield 39, 3) := by decide +kernel
theorem dX4_moveShoals_120 : decode cX4_moveShoals 120 = .ok (.iload_n 2, 1) := by decide +kernel
theorem dX4_moveShoals_121 : decode cX4_moveShoals 121 = .ok (.aload_n 0, 1) := by decide +kernel
theorem dX4_moveShoals_122 : decode cX4_moveShoals 122 = .ok (.getfield 9, 3) := by decide +kernel
theorem dX4_moveShoals_125 : decode cX4_moveShoals 125 = .ok (.iload_n 1, 1) := by decide +kernel
theorem dX4_moveShoals_126 : decode cX4_moveShoals 126 = .ok (.iaload, 1) := by decide +kernel
theorem dX4_moveShoals_127 : decode cX4_moveShoals 127 = .ok (.isub, 1) := by decide +kernel
theorem dX4_moveShoals_128 : decode cX4_moveShoals 128 = .ok (.iadd, 1) := by decide +kernel
theorem dX4_moveShoals_129 : decode cX4_moveShoals 129 = .ok (.putfield 39, 3) := by decide +kernel
theorem dX4_moveShoals_132 : decode cX4_moveShoals 132 = .ok (.iinc 1 1, 3) := by decide +kernel
theorem dX4_moveShoals_135 : decode cX4_moveShoals 135 = .ok (.goto (-53), 3) := by decide +kernel
theorem dX4_moveShoals_138 : decode cX4_moveShoals 138 = .ok (.return_, 1) := by decide +kernel
theorem dX4_cransInAll_0 : decode cX4_cransInAll 0 = .ok (.iconst 0, 1) := by decide +kernel
theorem dX4_cransInAll_1 : decode cX4_cransInAll 1 = .ok (.istore_n 1, 1) := by decide +kernel
theorem dX4_cransInAll_2 : decode cX4_cransInAll 2 = .ok (.iconst 0, 1) := by decide +kernel
theorem dX4_cransInAll_3 : decode cX4_cransInAll 3 = .ok (.istore_n 2, 1) := by decide +kernel
theorem dX4_cransInAll_4 : decode cX4_cransInAll 4 = .ok (.iload_n 2, 1) := by decide +kernel
theorem dX4_cransInAll_5 : decode cX4_cransInAll 5 = .ok (.bipush 36, 2) := by decide +kernel
theorem dX4_cransInAll_7 : decode cX4_cransInAll 7 = .ok (.if_icmp .ge 18, 3) := by decide +kernel
theorem dX4_cransInAll_10 : decode cX4_cransInAll 10 = .ok (.iload_n 1, 1) := by decide +kernel
theorem dX4_cransInAll_11 : decode cX4_cransInAll 11 = .ok (.aload_n 0, 1) := by decide +kernel
theorem dX4_cransInAll_12 : decode cX4_cransInAll 12 = .ok (.getfield 9, 3) := by decide +kernel
theorem dX4_cransInAll_15 : decode cX4_cransInAll 15 = .ok (.iload_n 2, 1) := by decide +kernel
theorem dX4_cransInAll_16 : decode cX4_cransInAll 16 = .ok (.iaload, 1) := by decide +kernel
theorem dX4_cransInAll_17 : decode cX4_cransInAll 17 = .ok (.iadd, 1) := by decide +kernel
theorem dX4_cransInAll_18 : decode cX4_cransInAll 18 = .ok (.istore_n 1, 1) := by decide +kernel
theorem dX4_cransInAll_19 : decode cX4_cransInAll 19 = .ok (.iinc 2 1, 3) := by decide +kernel
theorem dX4_cransInAll_22 : decode cX4_cransInAll 22 = .ok (.goto (-18), 3) := by decide +kernel
theorem dX4_cransInAll_25 : decode cX4_cransInAll 25 = .ok (.iload_n 1, 1) := by decide +kernel
theorem dX4_cransInAll_26 : decode cX4_cransInAll 26 = .ok (.ireturn, 1) := by decide +kernel
theorem dX5_init_0 : decode cX5_init 0 = .ok (.aload_n 0, 1) := by decide +kernel
theorem dX5_init_1 : decode cX5_init 1 = .ok (.invokespecial 3, 3) := by decide +kernel
theorem dX5_init_4 : decode cX5_init 4 = .ok (.aload_n 0, 1) := by decide +kernel
theorem dX5_init_5 : decode cX5_init 5 = .ok (.sipush 200, 3) := by decide +kernel
theorem dX5_init_8 : decode cX5_init 8 = .ok (.newarray .int, 2) := by decide +kernel
theorem dX5_init_10 : decode cX5_init 10 = .ok (.putfield 9, 3) := by decide +kernel
theorem dX5_init_13 : decode cX5_init 13 = .ok (.return_, 1) := by decide +kernel
theorem dX5_bytesIn_0 : decode cX5_bytesIn 0 = .ok (.iconst 0, 1) := by decide +kernel
theorem dX5_bytesIn_1 : decode cX5_bytesIn 1 = .ok (.istore_n 1, 1) := by decide +kernel
theorem dX5_bytesIn_2 : decode cX5_bytesIn 2 = .ok (.bipush 24, 2) := by decide +kernel
theorem dX5_bytesIn_4 : decode cX5_bytesIn 4 = .ok (.istore_n 2, 1) := by decide +kernel
theorem dX5_bytesIn_5 : decode cX5_bytesIn 5 = .ok (.iload_n 2, 1) := by decide +kernel
theorem dX5_bytesIn_6 : decode cX5_bytesIn 6 = .ok (.ifCond .lt 22, 3) := by decide +kernel
theorem dX5_bytesIn_9 : decode cX5_bytesIn 9 = .ok (.iload_n 0, 1) := by decide +kernel
theorem dX5_bytesIn_10 : decode cX5_bytesIn 10 = .ok (.iload_n 2, 1) := by decide +kernel
theorem dX5_bytesIn_11 : decode cX5_bytesIn 11 = .ok (.iushr, 1) := by decide +kernel
theorem dX5_bytesIn_12 : decode cX5_bytesIn 12 = .ok (.sipush 255, 3) := by decide +kernel
theorem dX5_bytesIn_15 : decode cX5_bytesIn 15 = .ok (.iand, 1) := by decide +kernel
theorem dX5_bytesIn_16 : decode cX5_bytesIn 16 = .ok (.ifCond .eq 6, 3) := by decide +kernel
theorem dX5_bytesIn_19 : decode cX5_bytesIn 19 = .ok (.iinc 1 1, 3) := by decide +kernel
theorem dX5_bytesIn_22 : decode cX5_bytesIn 22 = .ok (.iinc 2 (-8), 3) := by decide +kernel
theorem dX5_bytesIn_25 : decode cX5_bytesIn 25 = .ok (.goto (-20), 3) := by decide +kernel
theorem dX5_bytesIn_28 : decode cX5_bytesIn 28 = .ok (.iload_n 1, 1) := by decide +kernel
theorem dX5_bytesIn_29 : decode cX5_bytesIn 29 = .ok (.ireturn, 1) := by decide +kernel
theorem dX5_addWord_0 : decode cX5_addWord 0 = .ok (.bipush 24, 2) := by decide +kernel
theorem dX5_addWord_2 : decode cX5_addWord 2 = .ok (.istore_n 2, 1) := by decide +kernel
theorem dX5_addWord_3 : decode cX5_addWord 3 = .ok (.iload_n 2, 1) := by decide +kernel
theorem dX5_addWord_4 : decode cX5_addWord 4 = .ok (.ifCond .lt 51, 3) := by decide +kernel
theorem dX5_addWord_7 : decode cX5_addWord 7 = .ok (.iload_n 1, 1) := by decide +kernel
theorem dX5_addWord_8 : decode cX5_addWord 8 = .ok (.iload_n 2, 1) := by decide +kernel
theorem dX5_addWord_9 : decode cX5_addWord 9 = .ok (.iushr, 1) := by decide +kernel
theorem dX5_addWord_10 : decode cX5_addWord 10 = .ok (.sipush 255, 3) := by decide +kernel
theorem dX5_addWord_13 : decode cX5_addWord 13 = .ok (.iand, 1) := by decide +kernel
theorem dX5_addWord_14 : decode cX5_addWord 14 = .ok (.istore_n 3, 1) := by decide +kernel
theorem dX5_addWord_15 : decode cX5_addWord 15 = .ok (.iload_n 3, 1) := by decide +kernel
theorem dX5_addWord_16 : decode cX5_addWord 16 = .ok (.ifCond .eq 33, 3) := by decide +kernel
theorem dX5_addWord_19 : decode cX5_addWord 19 = .ok (.aload_n 0, 1) := by decide +kernel
theorem dX5_addWord_20 : decode cX5_addWord 20 = .ok (.getfield 15, 3) := by decide +kernel
theorem dX5_addWord_23 : decode cX5_addWord 23 = .ok (.sipush 200, 3) := by decide +kernel
theorem dX5_addWord_26 : decode cX5_addWord 26 = .ok (.if_icmp .ge 23, 3) := by decide +kernel
theorem dX5_addWord_29 : decode cX5_addWord 29 = .ok (.aload_n 0, 1) := by decide +kernel
theorem dX5_addWord_30 : decode cX5_addWord 30 = .ok (.getfield 9, 3) := by decide +kernel
theorem dX5_addWord_33 : decode cX5_addWord 33 = .ok (.aload_n 0, 1) := by decide +kernel
theorem dX5_addWord_34 : decode cX5_addWord 34 = .ok (.getfield 15, 3) := by decide +kernel
theorem dX5_addWord_37 : decode cX5_addWord 37 = .ok (.iload_n 3, 1) := by decide +kernel
theorem dX5_addWord_38 : decode cX5_addWord 38 = .ok (.iastore, 1) := by decide +kernel
theorem dX5_addWord_39 : decode cX5_addWord 39 = .ok (.aload_n 0, 1) := by decide +kernel
theorem dX5_addWord_40 : decode cX5_addWord 40 = .ok (.dup, 1) := by decide +kernel
theorem dX5_addWord_41 : decode cX5_addWord 41 = .ok (.getfield 15, 3) := by decide +kernel
theorem dX5_addWord_44 : decode cX5_addWord 44 = .ok (.iconst 1, 1) := by decide +kernel
theorem dX5_addWord_45 : decode cX5_addWord 45 = .ok (.iadd, 1) := by decide +kernel
theorem dX5_addWord_46 : decode cX5_addWord 46 = .ok (.putfield 15, 3) := by decide +kernel
theorem dX5_addWord_49 : decode cX5_addWord 49 = .ok (.iinc 2 (-8), 3) := by decide +kernel
theorem dX5_addWord_52 : decode cX5_addWord 52 = .ok (.goto (-49), 3) := by decide +kernel
theorem dX5_addWord_55 : decode cX5_addWord 55 = .ok (.return_, 1) := by decide +kernel
theorem dX5_byteAt_0 : decode cX5_byteAt 0 = .ok (.iload_n 1, 1) := by decide +kernel
theorem dX5_byteAt_1 : decode cX5_byteAt 1 = .ok (.ifCond .lt 19, 3) := by decide +kernel
theorem dX5_byteAt_4 : decode cX5_byteAt 4 = .ok (.iload_n 1, 1) := by decide +kernel
theorem dX5_byteAt_5 : decode cX5_byteAt 5 = .ok (.sipush 200, 3) := by decide +kernel
theorem dX5_byteAt_8 : decode cX5_byteAt 8 = .ok (.if_icmp .ge 12, 3) := by decide +kernel
theorem dX5_byteAt_11 : decode cX5_byteAt 11 = .ok (.aload_n 0, 1) := by decide +kernel
theorem dX5_byteAt_12 : decode cX5_byteAt 12 = .ok (.getfield 9, 3) := by decide +kernel
theorem dX5_byteAt_15 : decode cX5_byteAt 15 = .ok (.iload_n 1, 1) := by decide +kernel
theorem dX5_byteAt_16 : decode cX5_byteAt 16 = .ok (.iaload, 1) := by decide +kernel
theorem dX5_byteAt_17 : decode cX5_byteAt 17 = .ok (.goto 4, 3) := by decide +kernel
theorem dX5_byteAt_20 : decode cX5_byteAt 20 = .ok (.iconst 0, 1) := by decide +kernel
theorem dX5_byteAt_21 : decode cX5_byteAt 21 = .ok (.ireturn, 1) := by decide +kernel
theorem dX5_copyFrom_0 : decode cX5_copyFrom 0 = .ok (.aload_n 0, 1) := by decide +kernel
theorem dX5_copyFrom_1 : decode cX5_copyFrom 1 = .ok (.aload_n 1, 1) := by decide +kernel
theorem dX5_copyFrom_2 : decode cX5_copyFrom 2 = .ok (.getfield 15, 3) := by decide +kernel
theorem dX5_copyFrom_5 : decode cX5_copyFrom 5 = .ok (.putfield 15, 3) := by decide +kernel
theorem dX5_copyFrom_8 : decode cX5_copyFrom 8 = .ok (.iconst 0, 1) := by decide +kernel
theorem dX5_copyFrom_9 : decode cX5_copyFrom 9 = .ok (.istore_n 2, 1) := by decide +kernel
theorem dX5_copyFrom_10 : decode cX5_copyFrom 10 = .ok (.iload_n 2, 1) := by decide +kernel
theorem dX5_copyFrom_11 : decode cX5_copyFrom 11 = .ok (.aload_n 0, 1) := by decide +kernel
theorem dX5_copyFrom_12 : decode cX5_copyFrom 12 = .ok (.getfield 15, 3) := by decide +kernel
theorem dX5_copyFrom_15 : decode cX5_copyFrom 15 = .ok (.if_icmp .ge 27, 3) := by decide +kernel
theorem dX5_copyFrom_18 : decode cX5_copyFrom 18 = .ok (.iload_n 2, 1) := by decide +kernel
theorem dX5_copyFrom_19 : decode cX5_copyFrom 19 = .ok (.sipush 200, 3) := by decide +kernel
theorem dX5_copyFrom_22 : decode cX5_copyFrom 22 = .ok (.if_icmp .ge 20, 3) := by decide +kernel
theorem dX5_copyFrom_25 : decode cX5_copyFrom 25 = .ok (.aload_n 0, 1) := by decide +kernel
theorem dX5_copyFrom_26 : decode cX5_copyFrom 26 = .ok (.getfield 9, 3) := by decide +kernel
theorem dX5_copyFrom_29 : decode cX5_copyFrom 29 = .ok (.iload_n 2, 1) := by decide +kernel
theorem dX5_copyFrom_30 : decode cX5_copyFrom 30 = .ok (.aload_n 1, 1) := by decide +kernel
theorem dX5_copyFrom_31 : decode cX5_copyFrom 31 = .ok (.iload_n 2, 1) := by decide +kernel
theorem dX5_copyFrom_32 : decode cX5_copyFrom 32 = .ok (.invokevirtual 19, 3) := by decide +kernel
theorem dX5_copyFrom_35 : decode cX5_copyFrom 35 = .ok (.iastore, 1) := by decide +kernel
theorem dX5_copyFrom_36 : decode cX5_copyFrom 36 = .ok (.iinc 2 1, 3) := by decide +kernel
theorem dX5_copyFrom_39 : decode cX5_copyFrom 39 = .ok (.goto (-29), 3) := by decide +kernel
theorem dX5_copyFrom_42 : decode cX5_copyFrom 42 = .ok (.return_, 1) := by decide +kernel
theorem dX6_init_0 : decode cX6_init 0 = .ok (.aload_n 0, 1) := by decide +kernel
theorem dX6_init_1 : decode cX6_init 1 = .ok (.invokespecial 1, 3) := by decide +kernel
theorem dX6_init_4 : decode cX6_init 4 = .ok (.return_, 1) := by decide +kernel
theorem dX6_holds_0 : decode cX6_holds 0 = .ok (.aload_n 0, 1) := by decide +kernel
theorem dX6_holds_1 : decode cX6_holds 1 = .ok (.iconst 0, 1) := by decide +kernel
theorem dX6_holds_2 : decode cX6_holds 2 = .ok (.putfield 7, 3) := by decide +kernel
theorem dX6_holds_5 : decode cX6_holds 5 = .ok (.aload_n 0, 1) := by decide +kernel
theorem dX6_holds_6 : decode cX6_holds 6 = .ok (.iconst 1, 1) := by decide +kernel
theorem dX6_holds_7 : decode cX6_holds 7 = .ok (.putfield 13, 3) := by decide +kernel
theorem dX6_holds_10 : decode cX6_holds 10 = .ok (.aload_n 0, 1) := by decide +kernel
theorem dX6_holds_11 : decode cX6_holds 11 = .ok (.iconst 0, 1) := by decide +kernel
theorem dX6_holds_12 : decode cX6_holds 12 = .ok (.putfield 16, 3) := by decide +kernel
theorem dX6_holds_15 : decode cX6_holds 15 = .ok (.iconst 0, 1) := by decide +kernel
theorem dX6_holds_16 : decode cX6_holds 16 = .ok (.istore 4, 2) := by decide +kernel
theorem dX6_holds_18 : decode cX6_holds 18 = .ok (.iload 4, 2) := by decide +kernel
theorem dX6_holds_20 : decode cX6_holds 20 = .ok (.aload_n 1, 1) := by decide +kernel
theorem dX6_holds_21 : decode cX6_holds 21 = .ok (.getfield 19, 3) := by decide +kernel
theorem dX6_holds_24 : decode cX6_holds 24 = .ok (.if_icmp .ge 21, 3) := by decide +kernel
theorem dX6_holds_27 : decode cX6_holds 27 = .ok (.aload_n 0, 1) := by decide +kernel
theorem dX6_holds_28 : decode cX6_holds 28 = .ok (.aload_n 1, 1) := by decide +kernel
theorem dX6_holds_29 : decode cX6_holds 29 = .ok (.iload 4, 2) := by decide +kernel
theorem dX6_holds_31 : decode cX6_holds 31 = .ok (.invokevirtual 24, 3) := by decide +kernel
theorem dX6_holds_34 : decode cX6_holds 34 = .ok (.aload_n 2, 1) := by decide +kernel
theorem dX6_holds_35 : decode cX6_holds 35 = .ok (.iload_n 3, 1) := by decide +kernel
theorem dX6_holds_36 : decode cX6_holds 36 = .ok (.invokevirtual 28, 3) := by decide +kernel
theorem dX6_holds_39 : decode cX6_holds 39 = .ok (.iinc 4 1, 3) := by decide +kernel
theorem dX6_holds_42 : decode cX6_holds 42 = .ok (.goto (-24), 3) := by decide +kernel
theorem dX6_holds_45 : decode cX6_holds 45 = .ok (.aload_n 0, 1) := by decide +kernel
theorem dX6_holds_46 : decode cX6_holds 46 = .ok (.aload_n 2, 1) := by decide +kernel
theorem dX6_holds_47 : decode cX6_holds 47 = .ok (.iload_n 3, 1) := by decide +kernel
theorem dX6_holds_48 : decode cX6_holds 48 = .ok (.invokevirtual 32, 3) := by decide +kernel
theorem dX6_holds_51 : decode cX6_holds 51 = .ok (.aload_n 0, 1) := by decide +kernel
theorem dX6_holds_52 : decode cX6_holds 52 = .ok (.invokevirtual 36, 3) := by decide +kernel
theorem dX6_holds_55 : decode cX6_holds 55 = .ok (.aload_n 0, 1) := by decide +kernel
theorem dX6_holds_56 : decode cX6_holds 56 = .ok (.getfield 7, 3) := by decide +kernel
theorem dX6_holds_59 : decode cX6_holds 59 = .ok (.iconst 1, 1) := by decide +kernel
theorem dX6_holds_60 : decode cX6_holds 60 = .ok (.iand, 1) := by decide +kernel
theorem dX6_holds_61 : decode cX6_holds 61 = .ok (.iconst 1, 1) := by decide +kernel
theorem dX6_holds_62 : decode cX6_holds 62 = .ok (.if_icmp .ne 7, 3) := by decide +kernel
theorem dX6_holds_65 : decode cX6_holds 65 = .ok (.iconst 1, 1) := by decide +kernel
theorem dX6_holds_66 : decode cX6_holds 66 = .ok (.goto 4, 3) := by decide +kernel
theorem dX6_holds_69 : decode cX6_holds 69 = .ok (.iconst 0, 1) := by decide +kernel
theorem dX6_holds_70 : decode cX6_holds 70 = .ok (.ireturn, 1) := by decide +kernel
theorem dX6_read_0 : decode cX6_read 0 = .ok (.iload_n 1, 1) := by decide +kernel
theorem dX6_read_1 : decode cX6_read 1 = .ok (.invokestatic 39, 3) := by decide +kernel
theorem dX6_read_4 : decode cX6_read 4 = .ok (.ifCond .eq 20, 3) := by decide +kernel
theorem dX6_read_7 : decode cX6_read 7 = .ok (.aload_n 0, 1) := by decide +kernel
theorem dX6_read_8 : decode cX6_read 8 = .ok (.aload_n 0, 1) := by decide +kernel
theorem dX6_read_9 : decode cX6_read 9 = .ok (.getfield 45, 3) := by decide +kernel
theorem dX6_read_12 : decode cX6_read 12 = .ok (.bipush 10, 2) := by decide +kernel
theorem dX6_read_14 : decode cX6_read 14 = .ok (.imul, 1) := by decide +kernel
theorem dX6_read_15 : decode cX6_read 15 = .ok (.iload_n 1, 1) := by decide +kernel
theorem dX6_read_16 : decode cX6_read 16 = .ok (.bipush 48, 2) := by decide +kernel
theorem dX6_read_18 : decode cX6_read 18 = .ok (.isub, 1) := by decide +kernel
theorem dX6_read_19 : decode cX6_read 19 = .ok (.iadd, 1) := by decide +kernel
theorem dX6_read_20 : decode cX6_read 20 = .ok (.putfield 45, 3) := by decide +kernel
theorem dX6_read_23 : decode cX6_read 23 = .ok (.return_, 1) := by decide +kernel
theorem dX6_read_24 : decode cX6_read 24 = .ok (.iload_n 1, 1) := by decide +kernel
theorem dX6_read_25 : decode cX6_read 25 = .ok (.lookupswitch 151 #[(32, 75), (38, 116), (40, 78), (41, 103), (60, 138), (61, 138), (62, 138), (124, 125)], 75) := by decide +kernel
theorem dX6_read_100 : decode cX6_read 100 = .ok (.goto 81, 3) := by decide +kernel
theorem dX6_read_103 : decode cX6_read 103 = .ok (.aload_n 0, 1) := by decide +kernel
theorem dX6_read_104 : decode cX6_read 104 = .ok (.aload_n 0, 1) := by decide +kernel
theorem dX6_read_105 : decode cX6_read 105 = .ok (.getfield 7, 3) := by decide +kernel
theorem dX6_read_108 : decode cX6_read 108 = .ok (.iconst 1, 1) := by decide +kernel
theorem dX6_read_109 : decode cX6_read 109 = .ok (.ishl, 1) := by decide +kernel
theorem dX6_read_110 : decode cX6_read 110 = .ok (.putfield 7, 3) := by decide +kernel
theorem dX6_read_113 : decode cX6_read 113 = .ok (.aload_n 0, 1) := by decide +kernel
theorem dX6_read_114 : decode cX6_read 114 = .ok (.aload_n 0, 1) := by decide +kernel
theorem dX6_read_115 : decode cX6_read 115 = .ok (.getfield 13, 3) := by decide +kernel
theorem dX6_read_118 : decode cX6_read 118 = .ok (.iconst 1, 1) := by decide +kernel
theorem dX6_read_119 : decode cX6_read 119 = .ok (.ishl, 1) := by decide +kernel
theorem dX6_read_120 : decode cX6_read 120 = .ok (.iconst 1, 1) := by decide +kernel
theorem dX6_read_121 : decode cX6_read 121 = .ok (.ior, 1) := by decide +kernel
theorem dX6_read_122 : decode cX6_read 122 = .ok (.putfield 13, 3) := by decide +kernel
theorem dX6_read_125 : decode cX6_read 125 = .ok (.goto 56, 3) := by decide +kernel
theorem dX6_read_128 : decode cX6_read 128 = .ok (.aload_n 0, 1) := by decide +kernel
theorem dX6_read_129 : decode cX6_read 129 = .ok (.aload_n 2, 1) := by decide +kernel
theorem dX6_read_130 : decode cX6_read 130 = .ok (.iload_n 3, 1) := by decide +kernel
theorem dX6_read_131 : decode cX6_read 131 = .ok (.invokevirtual 32, 3) := by decide +kernel
theorem dX6_read_134 : decode cX6_read 134 = .ok (.aload_n 0, 1) := by decide +kernel
theorem dX6_read_135 : decode cX6_read 135 = .ok (.invokevirtual 48, 3) := by decide +kernel
theorem dX6_read_138 : decode cX6_read 138 = .ok (.goto 43, 3) := by decide +kernel
theorem dX6_read_141 : decode cX6_read 141 = .ok (.aload_n 0, 1) := by decide +kernel
theorem dX6_read_142 : decode cX6_read 142 = .ok (.aload_n 2, 1) := by decide +kernel
theorem dX6_read_143 : decode cX6_read 143 = .ok (.iload_n 3, 1) := by decide +kernel
theorem dX6_read_144 : decode cX6_read 144 = .ok (.invokevirtual 32, 3) := by decide +kernel
theorem dX6_read_147 : decode cX6_read 147 = .ok (.goto 34, 3) := by decide +kernel
theorem dX6_read_150 : decode cX6_read 150 = .ok (.aload_n 0, 1) := by decide +kernel
theorem dX6_read_151 : decode cX6_read 151 = .ok (.aload_n 2, 1) := by decide +kernel
theorem dX6_read_152 : decode cX6_read 152 = .ok (.iload_n 3, 1) := by decide +kernel
theorem dX6_read_153 : decode cX6_read 153 = .ok (.invokevirtual 32, 3) := by decide +kernel
theorem dX6_read_156 : decode cX6_read 156 = .ok (.aload_n 0, 1) := by decide +kernel
theorem dX6_read_157 : decode cX6_read 157 = .ok (.invokevirtual 36, 3) := by decide +kernel
theorem dX6_read_160 : decode cX6_read 160 = .ok (.goto 21, 3) := by decide +kernel
theorem dX6_read_163 : decode cX6_read 163 = .ok (.aload_n 0, 1) := by decide +kernel
theorem dX6_read_164 : decode cX6_read 164 = .ok (.iload_n 1, 1) := by decide +kernel
theorem dX6_read_165 : decode cX6_read 165 = .ok (.putfield 51, 3) := by decide +kernel
theorem dX6_read_168 : decode cX6_read 168 = .ok (.aload_n 0, 1) := by decide +kernel
theorem dX6_read_169 : decode cX6_read 169 = .ok (.iconst 0, 1) := by decide +kernel
theorem dX6_read_170 : decode cX6_read 170 = .ok (.putfield 45, 3) := by decide +kernel
theorem dX6_read_173 : decode cX6_read 173 = .ok (.goto 8, 3) := by decide +kernel
theorem dX6_read_176 : decode cX6_read 176 = .ok (.aload_n 0, 1) := by decide +kernel
theorem dX6_read_177 : decode cX6_read 177 = .ok (.iload_n 1, 1) := by decide +kernel
theorem dX6_read_178 : decode cX6_read 178 = .ok (.putfield 16, 3) := by decide +kernel
theorem dX6_read_181 : decode cX6_read 181 = .ok (.return_, 1) := by decide +kernel
theorem dX6_endComparison_0 : decode cX6_endComparison 0 = .ok (.aload_n 0, 1) := by decide +kernel
theorem dX6_endComparison_1 : decode cX6_endComparison 1 = .ok (.getfield 16, 3) := by decide +kernel
theorem dX6_endComparison_4 : decode cX6_endComparison 4 = .ok (.ifCond .eq 25, 3) := by decide +kernel
theorem dX6_endComparison_7 : decode cX6_endComparison 7 = .ok (.aload_n 0, 1) := by decide +kernel
theorem dX6_endComparison_8 : decode cX6_endComparison 8 = .ok (.aload_n 0, 1) := by decide +kernel
theorem dX6_endComparison_9 : decode cX6_endComparison 9 = .ok (.aload_n 1, 1) := by decide +kernel
theorem dX6_endComparison_10 : decode cX6_endComparison 10 = .ok (.aload_n 0, 1) := by decide +kernel
theorem dX6_endComparison_11 : decode cX6_endComparison 11 = .ok (.getfield 16, 3) := by decide +kernel
theorem dX6_endComparison_14 : decode cX6_endComparison 14 = .ok (.iload_n 2, 1) := by decide +kernel
theorem dX6_endComparison_15 : decode cX6_endComparison 15 = .ok (.invokevirtual 54, 3) := by decide +kernel
theorem dX6_endComparison_18 : decode cX6_endComparison 18 = .ok (.invokevirtual 60, 3) := by decide +kernel
theorem dX6_endComparison_21 : decode cX6_endComparison 21 = .ok (.invokevirtual 63, 3) := by decide +kernel
theorem dX6_endComparison_24 : decode cX6_endComparison 24 = .ok (.aload_n 0, 1) := by decide +kernel
theorem dX6_endComparison_25 : decode cX6_endComparison 25 = .ok (.iconst 0, 1) := by decide +kernel
theorem dX6_endComparison_26 : decode cX6_endComparison 26 = .ok (.putfield 16, 3) := by decide +kernel
theorem dX6_endComparison_29 : decode cX6_endComparison 29 = .ok (.return_, 1) := by decide +kernel
theorem dX6_compares_0 : decode cX6_compares 0 = .ok (.aload_n 0, 1) := by decide +kernel
theorem dX6_compares_1 : decode cX6_compares 1 = .ok (.getfield 51, 3) := by decide +kernel
theorem dX6_compares_4 : decode cX6_compares 4 = .ok (.lookupswitch 56 #[(60, 42), (61, 28)], 28) := by decide +kernel
theorem dX6_compares_32 : decode cX6_compares 32 = .ok (.iload_n 1, 1) := by decide +kernel
theorem dX6_compares_33 : decode cX6_compares 33 = .ok (.aload_n 0, 1) := by decide +kernel
theorem dX6_compares_34 : decode cX6_compares 34 = .ok (.getfield 45, 3) := by decide +kernel
theorem dX6_compares_37 : decode cX6_compares 37 = .ok (.if_icmp .ne 7, 3) := by decide +kernel
theorem dX6_compares_40 : decode cX6_compares 40 = .ok (.iconst 1, 1) := by decide +kernel
theorem dX6_compares_41 : decode cX6_compares 41 = .ok (.goto 4, 3) := by decide +kernel
theorem dX6_compares_44 : decode cX6_compares 44 = .ok (.iconst 0, 1) := by decide +kernel
theorem dX6_compares_45 : decode cX6_compares 45 = .ok (.ireturn, 1) := by decide +kernel
theorem dX6_compares_46 : decode cX6_compares 46 = .ok (.iload_n 1, 1) := by decide +kernel
theorem dX6_compares_47 : decode cX6_compares 47 = .ok (.aload_n 0, 1) := by decide +kernel
theorem dX6_compares_48 : decode cX6_compares 48 = .ok (.getfield 45, 3) := by decide +kernel
theorem dX6_compares_51 : decode cX6_compares 51 = .ok (.if_icmp .ge 7, 3) := by decide +kernel
theorem dX6_compares_54 : decode cX6_compares 54 = .ok (.iconst 1, 1) := by decide +kernel
theorem dX6_compares_55 : decode cX6_compares 55 = .ok (.goto 4, 3) := by decide +kernel
theorem dX6_compares_58 : decode cX6_compares 58 = .ok (.iconst 0, 1) := by decide +kernel
theorem dX6_compares_59 : decode cX6_compares 59 = .ok (.ireturn, 1) := by decide +kernel
theorem dX6_compares_60 : decode cX6_compares 60 = .ok (.iload_n 1, 1) := by decide +kernel
theorem dX6_compares_61 : decode cX6_compares 61 = .ok (.aload_n 0, 1) := by decide +kernel
theorem dX6_compares_62 : decode cX6_compares 62 = .ok (.getfield 45, 3) := by decide +kernel
theorem dX6_compares_65 : decode cX6_compares 65 = .ok (.if_icmp .le 7, 3) := by decide +kernel
theorem dX6_compares_68 : decode cX6_compares 68 = .ok (.iconst 1, 1) := by decide +kernel
theorem dX6_compares_69 : decode cX6_compares 69 = .ok (.goto 4, 3) := by decide +kernel
theorem dX6_compares_72 : decode cX6_compares 72 = .ok (.iconst 0, 1) := by decide +kernel
theorem dX6_compares_73 : decode cX6_compares 73 = .ok (.ireturn, 1) := by decide +kernel
theorem dX6_addUnit_0 : decode cX6_addUnit 0 = .ok (.iload_n 1, 1) := by decide +kernel
theorem dX6_addUnit_1 : decode cX6_addUnit 1 = .ok (.ifCond .ne 14, 3) := by decide +kernel
theorem dX6_addUnit_4 : decode cX6_addUnit 4 = .ok (.aload_n 0, 1) := by decide +kernel
theorem dX6_addUnit_5 : decode cX6_addUnit 5 = .ok (.aload_n 0, 1) := by decide +kernel
theorem dX6_addUnit_6 : decode cX6_addUnit 6 = .ok (.getfield 13, 3) := by decide +kernel
theorem dX6_addUnit_9 : decode cX6_addUnit 9 = .ok (.bipush (-2), 2) := by decide +kernel
theorem dX6_addUnit_11 : decode cX6_addUnit 11 = .ok (.iand, 1) := by decide +kernel
theorem dX6_addUnit_12 : decode cX6_addUnit 12 = .ok (.putfield 13, 3) := by decide +kernel
theorem dX6_addUnit_15 : decode cX6_addUnit 15 = .ok (.return_, 1) := by decide +kernel
theorem dX6_endPart_0 : decode cX6_endPart 0 = .ok (.aload_n 0, 1) := by decide +kernel
theorem dX6_endPart_1 : decode cX6_endPart 1 = .ok (.aload_n 0, 1) := by decide +kernel
theorem dX6_endPart_2 : decode cX6_endPart 2 = .ok (.getfield 7, 3) := by decide +kernel
theorem dX6_endPart_5 : decode cX6_endPart 5 = .ok (.aload_n 0, 1) := by decide +kernel
theorem dX6_endPart_6 : decode cX6_endPart 6 = .ok (.getfield 13, 3) := by decide +kernel
theorem dX6_endPart_9 : decode cX6_endPart 9 = .ok (.iconst 1, 1) := by decide +kernel
theorem dX6_endPart_10 : decode cX6_endPart 10 = .ok (.iand, 1) := by decide +kernel
theorem dX6_endPart_11 : decode cX6_endPart 11 = .ok (.ior, 1) := by decide +kernel
theorem dX6_endPart_12 : decode cX6_endPart 12 = .ok (.putfield 7, 3) := by decide +kernel
theorem dX6_endPart_15 : decode cX6_endPart 15 = .ok (.aload_n 0, 1) := by decide +kernel
theorem dX6_endPart_16 : decode cX6_endPart 16 = .ok (.aload_n 0, 1) := by decide +kernel
theorem dX6_endPart_17 : decode cX6_endPart 17 = .ok (.getfield 13, 3) := by decide +kernel
theorem dX6_endPart_20 : decode cX6_endPart 20 = .ok (.iconst 1, 1) := by decide +kernel
theorem dX6_endPart_21 : decode cX6_endPart 21 = .ok (.ior, 1) := by decide +kernel
theorem dX6_endPart_22 : decode cX6_endPart 22 = .ok (.putfield 13, 3) := by decide +kernel
theorem dX6_endPart_25 : decode cX6_endPart 25 = .ok (.return_, 1) := by decide +kernel
theorem dX6_endBracket_0 : decode cX6_endBracket 0 = .ok (.aload_n 0, 1) := by decide +kernel
theorem dX6_endBracket_1 : decode cX6_endBracket 1 = .ok (.invokevirtual 36, 3) := by decide +kernel
theorem dX6_endBracket_4 : decode cX6_endBracket 4 = .ok (.aload_n 0, 1) := by decide +kernel
theorem dX6_endBracket_5 : decode cX6_endBracket 5 = .ok (.getfield 7, 3) := by decide +kernel
theorem dX6_endBracket_8 : decode cX6_endBracket 8 = .ok (.iconst 1, 1) := by decide +kernel
theorem dX6_endBracket_9 : decode cX6_endBracket 9 = .ok (.iand, 1) := by decide +kernel
theorem dX6_endBracket_10 : decode cX6_endBracket 10 = .ok (.iconst 1, 1) := by decide +kernel
theorem dX6_endBracket_11 : decode cX6_endBracket 11 = .ok (.if_icmp .ne 7, 3) := by decide +kernel
theorem dX6_endBracket_14 : decode cX6_endBracket 14 = .ok (.iconst 1, 1) := by decide +kernel
theorem dX6_endBracket_15 : decode cX6_endBracket 15 = .ok (.goto 4, 3) := by decide +kernel
theorem dX6_endBracket_18 : decode cX6_endBracket 18 = .ok (.iconst 0, 1) := by decide +kernel
theorem dX6_endBracket_19 : decode cX6_endBracket 19 = .ok (.istore_n 1, 1) := by decide +kernel
theorem dX6_endBracket_20 : decode cX6_endBracket 20 = .ok (.aload_n 0, 1) := by decide +kernel
theorem dX6_endBracket_21 : decode cX6_endBracket 21 = .ok (.aload_n 0, 1) := by decide +kernel
theorem dX6_endBracket_22 : decode cX6_endBracket 22 = .ok (.getfield 7, 3) := by decide +kernel
theorem dX6_endBracket_25 : decode cX6_endBracket 25 = .ok (.iconst 1, 1) := by decide +kernel
theorem dX6_endBracket_26 : decode cX6_endBracket 26 = .ok (.iushr, 1) := by decide +kernel
theorem dX6_endBracket_27 : decode cX6_endBracket 27 = .ok (.putfield 7, 3) := by decide +kernel
theorem dX6_endBracket_30 : decode cX6_endBracket 30 = .ok (.aload_n 0, 1) := by decide +kernel
theorem dX6_endBracket_31 : decode cX6_endBracket 31 = .ok (.aload_n 0, 1) := by decide +kernel
theorem dX6_endBracket_32 : decode cX6_endBracket 32 = .ok (.getfield 13, 3) := by decide +kernel
theorem dX6_endBracket_35 : decode cX6_endBracket 35 = .ok (.iconst 1, 1) := by decide +kernel
theorem dX6_endBracket_36 : decode cX6_endBracket 36 = .ok (.iushr, 1) := by decide +kernel
theorem dX6_endBracket_37 : decode cX6_endBracket 37 = .ok (.putfield 13, 3) := by decide +kernel
theorem dX6_endBracket_40 : decode cX6_endBracket 40 = .ok (.aload_n 0, 1) := by decide +kernel
theorem dX6_endBracket_41 : decode cX6_endBracket 41 = .ok (.iload_n 1, 1) := by decide +kernel
theorem dX6_endBracket_42 : decode cX6_endBracket 42 = .ok (.invokevirtual 63, 3) := by decide +kernel
theorem dX6_endBracket_45 : decode cX6_endBracket 45 = .ok (.return_, 1) := by decide +kernel
theorem dX7_init_0 : decode cX7_init 0 = .ok (.aload_n 0, 1) := by decide +kernel
theorem dX7_init_1 : decode cX7_init 1 = .ok (.invokespecial 3, 3) := by decide +kernel
theorem dX7_init_4 : decode cX7_init 4 = .ok (.aload_n 0, 1) := by decide +kernel
theorem dX7_init_5 : decode cX7_init 5 = .ok (.bipush 6, 2) := by decide +kernel
theorem dX7_init_7 : decode cX7_init 7 = .ok (.newarray .int, 2) := by decide +kernel
theorem dX7_init_9 : decode cX7_init 9 = .ok (.putfield 9, 3) := by decide +kernel
theorem dX7_init_12 : decode cX7_init 12 = .ok (.aload_n 0, 1) := by decide +kernel
theorem dX7_init_13 : decode cX7_init 13 = .ok (.iload_n 1, 1) := by decide +kernel
theorem dX7_init_14 : decode cX7_init 14 = .ok (.bipush 6, 2) := by decide +kernel
theorem dX7_init_16 : decode cX7_init 16 = .ok (.invokestatic 15, 3) := by decide +kernel
theorem dX7_init_19 : decode cX7_init 19 = .ok (.putfield 21, 3) := by decide +kernel
theorem dX7_init_22 : decode cX7_init 22 = .ok (.aload_n 0, 1) := by decide +kernel
theorem dX7_init_23 : decode cX7_init 23 = .ok (.iload_n 2, 1) := by decide +kernel
theorem dX7_init_24 : decode cX7_init 24 = .ok (.putfield 25, 3) := by decide +kernel
theorem dX7_init_27 : decode cX7_init 27 = .ok (.return_, 1) := by decide +kernel
theorem dX7_beginDay_0 : decode cX7_beginDay 0 = .ok (.aload_n 0, 1) := by decide +kernel
theorem dX7_beginDay_1 : decode cX7_beginDay 1 = .ok (.aload_n 0, 1) := by decide +kernel
theorem dX7_beginDay_2 : decode cX7_beginDay 2 = .ok (.getfield 25, 3) := by decide +kernel
theorem dX7_beginDay_5 : decode cX7_beginDay 5 = .ok (.putfield 28, 3) := by decide +kernel
theorem dX7_beginDay_8 : decode cX7_beginDay 8 = .ok (.iconst 0, 1) := by decide +kernel
theorem dX7_beginDay_9 : decode cX7_beginDay 9 = .ok (.istore_n 1, 1) := by decide +kernel
theorem dX7_beginDay_10 : decode cX7_beginDay 10 = .ok (.iload_n 1, 1) := by decide +kernel
theorem dX7_beginDay_11 : decode cX7_beginDay 11 = .ok (.bipush 6, 2) := by decide +kernel
theorem dX7_beginDay_13 : decode cX7_beginDay 13 = .ok (.if_icmp .ge 16, 3) := by decide +kernel
theorem dX7_beginDay_16 : decode cX7_beginDay 16 = .ok (.aload_n 0, 1) := by decide +kernel
theorem dX7_beginDay_17 : decode cX7_beginDay 17 = .ok (.getfield 9, 3) := by decide +kernel
theorem dX7_beginDay_20 : decode cX7_beginDay 20 = .ok (.iload_n 1, 1) := by decide +kernel
theorem dX7_beginDay_21 : decode cX7_beginDay 21 = .ok (.iconst 0, 1) := by decide +kernel
theorem dX7_beginDay_22 : decode cX7_beginDay 22 = .ok (.iastore, 1) := by decide +kernel
theorem dX7_beginDay_23 : decode cX7_beginDay 23 = .ok (.iinc 1 1, 3) := by decide +kernel
theorem dX7_beginDay_26 : decode cX7_beginDay 26 = .ok (.goto (-16), 3) := by decide +kernel
theorem dX7_beginDay_29 : decode cX7_beginDay 29 = .ok (.return_, 1) := by decide +kernel
theorem dX7_gut_0 : decode cX7_gut 0 = .ok (.iconst 0, 1) := by decide +kernel
theorem dX7_gut_1 : decode cX7_gut 1 = .ok (.istore_n 3, 1) := by decide +kernel
theorem dX7_gut_2 : decode cX7_gut 2 = .ok (.iload_n 3, 1) := by decide +kernel
theorem dX7_gut_3 : decode cX7_gut 3 = .ok (.aload_n 1, 1) := by decide +kernel
theorem dX7_gut_4 : decode cX7_gut 4 = .ok (.getfield 31, 3) := by decide +kernel
theorem dX7_gut_7 : decode cX7_gut 7 = .ok (.if_icmp .ge 63, 3) := by decide +kernel
theorem dX7_gut_10 : decode cX7_gut 10 = .ok (.aload_n 0, 1) := by decide +kernel
theorem dX7_gut_11 : decode cX7_gut 11 = .ok (.invokevirtual 36, 3) := by decide +kernel
theorem dX7_gut_14 : decode cX7_gut 14 = .ok (.istore 4, 2) := by decide +kernel
theorem dX7_gut_16 : decode cX7_gut 16 = .ok (.aload_n 0, 1) := by decide +kernel
theorem dX7_gut_17 : decode cX7_gut 17 = .ok (.getfield 9, 3) := by decide +kernel
theorem dX7_gut_20 : decode cX7_gut 20 = .ok (.iload 4, 2) := by decide +kernel
theorem dX7_gut_22 : decode cX7_gut 22 = .ok (.iaload, 1) := by decide +kernel
theorem dX7_gut_23 : decode cX7_gut 23 = .ok (.aload_n 1, 1) := by decide +kernel
theorem dX7_gut_24 : decode cX7_gut 24 = .ok (.getfield 40, 3) := by decide +kernel
theorem dX7_gut_27 : decode cX7_gut 27 = .ok (.invokestatic 43, 3) := by decide +kernel
theorem dX7_gut_30 : decode cX7_gut 30 = .ok (.istore 5, 2) := by decide +kernel
theorem dX7_gut_32 : decode cX7_gut 32 = .ok (.iload 5, 2) := by decide +kernel
theorem dX7_gut_34 : decode cX7_gut 34 = .ok (.aload_n 1, 1) := by decide +kernel
theorem dX7_gut_35 : decode cX7_gut 35 = .ok (.getfield 40, 3) := by decide +kernel
theorem dX7_gut_38 : decode cX7_gut 38 = .ok (.isub, 1) := by decide +kernel
theorem dX7_gut_39 : decode cX7_gut 39 = .ok (.iload_n 2, 1) := by decide +kernel
theorem dX7_gut_40 : decode cX7_gut 40 = .ok (.if_icmp .le 6, 3) := by decide +kernel
theorem dX7_gut_43 : decode cX7_gut 43 = .ok (.goto 27, 3) := by decide +kernel
theorem dX7_gut_46 : decode cX7_gut 46 = .ok (.aload_n 0, 1) := by decide +kernel
theorem dX7_gut_47 : decode cX7_gut 47 = .ok (.getfield 9, 3) := by decide +kernel
theorem dX7_gut_50 : decode cX7_gut 50 = .ok (.iload 4, 2) := by decide +kernel
theorem dX7_gut_52 : decode cX7_gut 52 = .ok (.iload 5, 2) := by decide +kernel
theorem dX7_gut_54 : decode cX7_gut 54 = .ok (.bipush 12, 2) := by decide +kernel
theorem dX7_gut_56 : decode cX7_gut 56 = .ok (.iadd, 1) := by decide +kernel
theorem dX7_gut_57 : decode cX7_gut 57 = .ok (.iastore, 1) := by decide +kernel
theorem dX7_gut_58 : decode cX7_gut 58 = .ok (.aload_n 1, 1) := by decide +kernel
theorem dX7_gut_59 : decode cX7_gut 59 = .ok (.iload 5, 2) := by decide +kernel
theorem dX7_gut_61 : decode cX7_gut 61 = .ok (.invokevirtual 46, 3) := by decide +kernel
theorem dX7_gut_64 : decode cX7_gut 64 = .ok (.iinc 3 1, 3) := by decide +kernel
theorem dX7_gut_67 : decode cX7_gut 67 = .ok (.goto (-65), 3) := by decide +kernel
theorem dX7_gut_70 : decode cX7_gut 70 = .ok (.aload_n 1, 1) := by decide +kernel
theorem dX7_gut_71 : decode cX7_gut 71 = .ok (.aload_n 1, 1) := by decide +kernel
theorem dX7_gut_72 : decode cX7_gut 72 = .ok (.getfield 31, 3) := by decide +kernel
theorem dX7_gut_75 : decode cX7_gut 75 = .ok (.aload_n 1, 1) := by decide +kernel
theorem dX7_gut_76 : decode cX7_gut 76 = .ok (.getfield 50, 3) := by decide +kernel
theorem dX7_gut_79 : decode cX7_gut 79 = .ok (.isub, 1) := by decide +kernel
theorem dX7_gut_80 : decode cX7_gut 80 = .ok (.putfield 53, 3) := by decide +kernel
theorem dX7_gut_83 : decode cX7_gut 83 = .ok (.return_, 1) := by decide +kernel
theorem dX7_firstFreeCrew_0 : decode cX7_firstFreeCrew 0 = .ok (.iconst 0, 1) := by decide +kernel
theorem dX7_firstFreeCrew_1 : decode cX7_firstFreeCrew 1 = .ok (.istore_n 1, 1) := by decide +kernel
theorem dX7_firstFreeCrew_2 : decode cX7_firstFreeCrew 2 = .ok (.iconst 1, 1) := by decide +kernel
theorem dX7_firstFreeCrew_3 : decode cX7_firstFreeCrew 3 = .ok (.istore_n 2, 1) := by decide +kernel
theorem dX7_firstFreeCrew_4 : decode cX7_firstFreeCrew 4 = .ok (.iload_n 2, 1) := by decide +kernel
theorem dX7_firstFreeCrew_5 : decode cX7_firstFreeCrew 5 = .ok (.aload_n 0, 1) := by decide +kernel
theorem dX7_firstFreeCrew_6 : decode cX7_firstFreeCrew 6 = .ok (.getfield 21, 3) := by decide +kernel
theorem dX7_firstFreeCrew_9 : decode cX7_firstFreeCrew 9 = .ok (.if_icmp .ge 26, 3) := by decide +kernel
theorem dX7_firstFreeCrew_12 : decode cX7_firstFreeCrew 12 = .ok (.aload_n 0, 1) := by decide +kernel
theorem dX7_firstFreeCrew_13 : decode cX7_firstFreeCrew 13 = .ok (.getfield 9, 3) := by decide +kernel
theorem dX7_firstFreeCrew_16 : decode cX7_firstFreeCrew 16 = .ok (.iload_n 2, 1) := by decide +kernel
theorem dX7_firstFreeCrew_17 : decode cX7_firstFreeCrew 17 = .ok (.iaload, 1) := by decide +kernel
theorem dX7_firstFreeCrew_18 : decode cX7_firstFreeCrew 18 = .ok (.aload_n 0, 1) := by decide +kernel
theorem dX7_firstFreeCrew_19 : decode cX7_firstFreeCrew 19 = .ok (.getfield 9, 3) := by decide +kernel
theorem dX7_firstFreeCrew_22 : decode cX7_firstFreeCrew 22 = .ok (.iload_n 1, 1) := by decide +kernel
theorem dX7_firstFreeCrew_23 : decode cX7_firstFreeCrew 23 = .ok (.iaload, 1) := by decide +kernel
theorem dX7_firstFreeCrew_24 : decode cX7_firstFreeCrew 24 = .ok (.if_icmp .ge 5, 3) := by decide +kernel
theorem dX7_firstFreeCrew_27 : decode cX7_firstFreeCrew 27 = .ok (.iload_n 2, 1) := by decide +kernel
theorem dX7_firstFreeCrew_28 : decode cX7_firstFreeCrew 28 = .ok (.istore_n 1, 1) := by decide +kernel
theorem dX7_firstFreeCrew_29 : decode cX7_firstFreeCrew 29 = .ok (.iinc 2 1, 3) := by decide +kernel
theorem dX7_firstFreeCrew_32 : decode cX7_firstFreeCrew 32 = .ok (.goto (-28), 3) := by decide +kernel
theorem dX7_firstFreeCrew_35 : decode cX7_firstFreeCrew 35 = .ok (.iload_n 1, 1) := by decide +kernel
theorem dX7_firstFreeCrew_36 : decode cX7_firstFreeCrew 36 = .ok (.ireturn, 1) := by decide +kernel
end
section
/-! ===== the tables' good words; a heap over tags; its picture as a world ===== -/
def TB : List Cond := lw_tbl.filter goodWord
theorem TB_in {w : Cond} (h : w ∈ TB) : w ∈ lw_tbl := (List.mem_filter.mp h).1
theorem TB_good {w : Cond} (h : w ∈ TB) : goodWord w = true := (List.mem_filter.mp h).2
/-- live tags, int fields (field, tag), reference fields, rows of ints and booleans, rows of references -/
abbrev HS : Type := List Nat × (Nat → Nat → Int32) × (Nat → Nat → Option Nat) × (Nat → Nat → Int32) × (Nat → Nat → Option Nat)
def sL (S : HS) : List Nat := S.1
def sI (S : HS) : Nat → Nat → Int32 := S.2.1
def sR (S : HS) : Nat → Nat → Option Nat := S.2.2.1
def sA (S : HS) : Nat → Nat → Int32 := S.2.2.2.1
def sQ (S : HS) : Nat → Nat → Option Nat := S.2.2.2.2
def up2 {α : Type} (f : Nat → Nat → α) (i a : Nat) (v : α) : Nat → Nat → α := fun j b => if j = i ∧ b = a then v else f j b
def setI (S : HS) (f a : Nat) (v : Int32) : HS := (sL S, up2 (sI S) f a v, sR S, sA S, sQ S)
def setR (S : HS) (f a : Nat) (v : Option Nat) : HS := (sL S, sI S, up2 (sR S) f a v, sA S, sQ S)
def setA (S : HS) (a : Nat) (r : Nat → Int32) : HS := (sL S, sI S, sR S, va_up (sA S) a r, sQ S)
def setQ (S : HS) (a : Nat) (r : Nat → Option Nat) : HS := (sL S, sI S, sR S, sA S, va_up (sQ S) a r)
def newO (S : HS) (a : Nat) : HS := (sL S ++ [a], (fun f => va_up (sI S f) a 0), (fun f => va_up (sR S f) a none), sA S, sQ S)
def newA (S : HS) (a : Nat) : HS := (sL S ++ [a], sI S, sR S, va_up (sA S) a (fun _ => 0), va_up (sQ S) a (fun _ => none))
theorem sL_setI (S : HS) (f a : Nat) (v : Int32) : sL (setI S f a v) = sL S := rfl
theorem sI_setI (S : HS) (f a : Nat) (v : Int32) : sI (setI S f a v) = up2 (sI S) f a v := rfl
theorem sR_setI (S : HS) (f a : Nat) (v : Int32) : sR (setI S f a v) = sR S := rfl
theorem sA_setI (S : HS) (f a : Nat) (v : Int32) : sA (setI S f a v) = sA S := rfl
theorem sQ_setI (S : HS) (f a : Nat) (v : Int32) : sQ (setI S f a v) = sQ S := rfl
theorem sL_setR (S : HS) (f a : Nat) (v : Option Nat) : sL (setR S f a v) = sL S := rfl
theorem sI_setR (S : HS) (f a : Nat) (v : Option Nat) : sI (setR S f a v) = sI S := rfl
theorem sR_setR (S : HS) (f a : Nat) (v : Option Nat) : sR (setR S f a v) = up2 (sR S) f a v := rfl
theorem sA_setR (S : HS) (f a : Nat) (v : Option Nat) : sA (setR S f a v) = sA S := rfl
theorem sQ_setR (S : HS) (f a : Nat) (v : Option Nat) : sQ (setR S f a v) = sQ S := rfl
theorem sL_setA (S : HS) (a : Nat) (r : Nat → Int32) : sL (setA S a r) = sL S := rfl
theorem sI_setA (S : HS) (a : Nat) (r : Nat → Int32) : sI (setA S a r) = sI S := rfl
theorem sR_setA (S : HS) (a : Nat) (r : Nat → Int32) : sR (setA S a r) = sR S := rfl
theorem sA_setA (S : HS) (a : Nat) (r : Nat → Int32) : sA (setA S a r) = va_up (sA S) a r := rfl
theorem sQ_setA (S : HS) (a : Nat) (r : Nat → Int32) : sQ (setA S a r) = sQ S := rfl
theorem sL_setQ (S : HS) (a : Nat) (r : Nat → Option Nat) : sL (setQ S a r) = sL S := rfl
theorem sI_setQ (S : HS) (a : Nat) (r : Nat → Option Nat) : sI (setQ S a r) = sI S := rfl
theorem sR_setQ (S : HS) (a : Nat) (r : Nat → Option Nat) : sR (setQ S a r) = sR S := rfl
theorem sA_setQ (S : HS) (a : Nat) (r : Nat → Option Nat) : sA (setQ S a r) = sA S := rfl
theorem sQ_setQ (S : HS) (a : Nat) (r : Nat → Option Nat) : sQ (setQ S a r) = va_up (sQ S) a r := rfl
theorem sL_newO (S : HS) (a : Nat) : sL (newO S a) = sL S ++ [a] := rfl
theorem sI_newO (S : HS) (a f : Nat) : sI (newO S a) f = va_up (sI S f) a 0 := rfl
theorem sR_newO (S : HS) (a f : Nat) : sR (newO S a) f = va_up (sR S f) a none := rfl
theorem sA_newO (S : HS) (a : Nat) : sA (newO S a) = sA S := rfl
theorem sQ_newO (S : HS) (a : Nat) : sQ (newO S a) = sQ S := rfl
theorem sL_newA (S : HS) (a : Nat) : sL (newA S a) = sL S ++ [a] := rfl
theorem sI_newA (S : HS) (a : Nat) : sI (newA S a) = sI S := rfl
theorem sR_newA (S : HS) (a : Nat) : sR (newA S a) = sR S := rfl
theorem sA_newA (S : HS) (a : Nat) : sA (newA S a) = va_up (sA S) a (fun _ => 0) := rfl
theorem sQ_newA (S : HS) (a : Nat) : sQ (newA S a) = va_up (sQ S) a (fun _ => none) := rfl
/-- which fields of which kind are references -/
def fT : List (List Bool) := [[true, true, false, false, false, false, false, false], [false, false, false], [false, false, false, false, false, false, false, false, false, false, false], [true, true, true, false], [true, true, true, false, false], [true, false], [false, false, false, false, false], [true, false, false, false, false], [true, true, true, true, true, true, true, true, true, false, false, false, false, false, false, false, false, false], [true, true, true, true, true, true, true, true, true, true, true, true, true, true, true, true, true, true, true, true, true, true, true, true, false, false, false, false, false, false, false, false, false, false, false, true, true, true, true, true, true, true, true, true, true, true, true, false, false, false, false, false, true]]
def nF (ci : Nat) : Nat := (fT.getD ci []).length
def fR (ci k : Nat) : Bool := (fT.getD ci []).getD k false
def fid (ci k : Nat) : Nat := ci * 64 + k
/-- THE TAGS. The system's: 0 the object; 1 sea, 2 crans, 3 isOpen, 4 change; 5 boats, 6 yards, 7 lots; 8 tape, 9 its bytes; 10 brands; 11 parting, 12 portions, 13 measures, 14 rests; 15 grammar, 16 verdict; boat i: 100 + 3 i, its parts, what its hands got; yard i: 200 + 2 i, freeAt; text of brand i: 300 + 2 i, its bytes; lot i: 1000 + i. The reference's: 2000 the object, 2001 + j the array of its field j -/
def tkM : List Nat := [10, 11, 10, 10, 10, 10, 10, 10, 10, 10, 10, 10, 10, 10, 10, 10, 10, 10, 10, 10, 10, 10, 10, 10, 0, 0, 0, 0, 0, 0, 0, 0, 0, 0, 0, 10, 10, 11, 10, 10, 10, 11, 10, 10, 10, 10, 11, 0, 0, 0, 0, 0, 11]
def tnM : List Nat := [36, 36, 12, 12, 12, 12, 12, 12, 96, 96, 4, 4, 4, 400, 400, 400, 400, 400, 400, 400, 400, 400, 400, 400, 0, 0, 0, 0, 0, 0, 0, 0, 0, 0, 0, 12, 12, 12, 12, 36, 4, 12, 6, 220, 1680, 420, 4, 0, 0, 0, 0, 0, 420]
def tk0 : List Nat := [8, 4, 10, 11, 10, 12, 15, 13, 5, 10, 14, 3, 10, 10, 10, 1, 6]
def tn0 : List Nat := [0, 0, 36, 36, 36, 12, 4, 400, 0, 200, 4, 0, 12, 12, 12, 0, 0]
def tk (t : Nat) : Nat := if t < 17 then tk0.getD t 0 else if t < 136 then (if t % 3 = 1 then 0 else 10) else if t < 208 then (if t % 2 = 0 then 7 else 10) else if t < 308 then (if t % 2 = 0 then 5 else 10) else if t < 2000 then 2 else if t = 2000 then 9 else tkM.getD (t - 2001) 10
def tn (t : Nat) : Nat := if t < 17 then tn0.getD t 0 else if t < 136 then 8 else if t < 208 then 6 else if t < 308 then 200 else tnM.getD (t - 2001) 0
def rn (ρ : Nat → Nat) (v : Value) : Value := match v with
  | .ref a => .ref (ρ a)
  | v => v
theorem rn_rf (ρ : Nat → Nat) (r : Option Nat) : rn ρ (va_rf r) = va_rf (r.map ρ) := by cases r <;> rfl
theorem rn_cat (ρ : Nat → Nat) (v : Value) : (rn ρ v).category = v.category := by cases v <;> rfl
def fv (ρ : Nat → Nat) (S : HS) (ci a k : Nat) : Value := if fR ci k = true then va_rf ((sR S (fid ci k) a).map ρ) else .int (sI S (fid ci k) a)
def fvs (ρ : Nat → Nat) (S : HS) (ci a : Nat) : List Value := (List.range (nF ci)).map (fv ρ S ci a)
def pf (cy : Nat → ClassId) (ρ : Nat → Nat) (S : HS) (a : Nat) : va_E := if tk a < 10 then .inr (tk a, fvs ρ S (tk a) a) else if tk a < 12 then .inl (cy (tk a), tn a, .inl (sA S a)) else .inl (cy (tk a), tn a, .inr (.inr (.inr (.inr (fun i => (sQ S a i).map ρ)))))
def pool (cy : Nat → ClassId) (ρ : Nat → Nat) (S : HS) : va_W := (sL S).map (fun t => (ρ t, pf cy ρ S t))
theorem fvs_get {ρ : Nat → Nat} {S : HS} {ci a k : Nat} (hk : k < nF ci) : (fvs ρ S ci a)[k]? = some (fv ρ S ci a k) := by
  simp [fvs, hk]
theorem fvs_len (ρ : Nat → Nat) (S : HS) (ci a : Nat) : (fvs ρ S ci a).length = nF ci := by simp [fvs]
theorem pool_at {cy : Nat → ClassId} {ρ : Nat → Nat} {S : HS} {a k : Nat} (h : (sL S)[k]? = some a) : (pool cy ρ S)[k]? = some (ρ a, pf cy ρ S a) := by
  simp [pool, h]
theorem pool_inj {A : Nat → Prop} {cy : Nat → ClassId} {ρ : Nat → Nat} {S : HS} (hD : va_D A (pool cy ρ S)) {a a' k k' : Nat} (h : (sL S)[k]? = some a) (h' : (sL S)[k']? = some a') (e : ρ a = ρ a') : k = k' :=
  hD.1 k k' _ _ (pool_at h) (pool_at h') e
theorem pool_set {A : Nat → Prop} {cy : Nat → ClassId} {ρ : Nat → Nat} {S S' : HS} {a k : Nat} {e : va_E} (hD : va_D A (pool cy ρ S)) (h : (sL S)[k]? = some a) (hL : sL S' = sL S) (hp : pf cy ρ S' a = e) (hp2 : ∀ t, t ≠ a → pf cy ρ S' t = pf cy ρ S t) : (pool cy ρ S).set k (ρ a, e) = pool cy ρ S' := by
  apply List.ext_getElem?
  intro j
  by_cases hj : j = k
  · subst hj
    have hl : j < (pool cy ρ S).length := by
      have := (List.getElem?_eq_some_iff.mp h).1
      simpa [pool] using this
    rw [List.getElem?_set_self hl, pool_at (by rw [hL]; exact h), hp]
  · rw [List.getElem?_set_ne (Ne.symm hj)]
    cases hb : (sL S)[j]? with
    | none =>
      have h1 : (sL S).length ≤ j := by simpa using hb
      rw [List.getElem?_eq_none (by simpa [pool] using h1), List.getElem?_eq_none (by simpa [pool, hL] using h1)]
    | some t =>
      have ht : t ≠ a := fun q => hj (pool_inj hD hb h (by rw [q]))
      rw [pool_at hb, pool_at (by rw [hL]; exact hb), hp2 t ht]
theorem pool_push {cy : Nat → ClassId} {ρ ρ' : Nat → Nat} {S S' : HS} {a q : Nat} {e : va_E} (hL : sL S' = sL S ++ [a]) (h0 : ρ' a = q) (hp : pf cy ρ' S' a = e) (hp2 : ∀ t ∈ sL S, ρ' t = ρ t ∧ pf cy ρ' S' t = pf cy ρ S t) : pool cy ρ S ++ [(q, e)] = pool cy ρ' S' := by
  unfold pool
  rw [hL, List.map_append, List.map_cons, List.map_nil, h0, hp]
  congr 1
  apply List.map_congr_left
  intro t ht
  rw [(hp2 t ht).1, (hp2 t ht).2]
theorem fid_ne {ci j k : Nat} (h : j ≠ k) : fid ci j ≠ fid ci k := by unfold fid; omega
theorem fvs_other {ρ ρ' : Nat → Nat} {S S' : HS} {ci b : Nat} (hI : ∀ f, sI S' f b = sI S f b) (hR : ∀ f, (sR S' f b).map ρ' = (sR S f b).map ρ) : fvs ρ' S' ci b = fvs ρ S ci b := by
  unfold fvs
  apply List.map_congr_left
  intro j _
  simp only [fv, hI, hR]
theorem pf_other {cy : Nat → ClassId} {ρ ρ' : Nat → Nat} {S S' : HS} {b : Nat} (hI : ∀ f, sI S' f b = sI S f b) (hR : ∀ f, (sR S' f b).map ρ' = (sR S f b).map ρ) (hA : sA S' b = sA S b) (hQ : ∀ i, (sQ S' b i).map ρ' = (sQ S b i).map ρ) : pf cy ρ' S' b = pf cy ρ S b := by
  unfold pf
  rw [fvs_other hI hR, hA, show (fun i => (sQ S' b i).map ρ') = (fun i => (sQ S b i).map ρ) from funext hQ]
theorem pf_setI {cy : Nat → ClassId} {ρ : Nat → Nat} {S : HS} {a ci k : Nat} {v : Int32} (hK : tk a = ci) (hc : ci < 10) (hk : k < nF ci) (hr : fR ci k = false) : pf cy ρ (setI S (fid ci k) a v) a = .inr (ci, (fvs ρ S ci a).set k (.int v)) := by
  have e : fvs ρ (setI S (fid ci k) a v) ci a = (fvs ρ S ci a).set k (.int v) := by
    apply List.ext_getElem?
    intro j
    by_cases hj : j = k
    · subst hj
      rw [List.getElem?_set_self (by rw [fvs_len]; exact hk), fvs_get hk]
      simp [fv, hr, sI_setI, up2]
    · rw [List.getElem?_set_ne (Ne.symm hj)]
      by_cases hjl : j < nF ci
      · rw [fvs_get hjl, fvs_get hjl]
        simp [fv, sI_setI, sR_setI, up2, fid_ne hj]
      · rw [List.getElem?_eq_none (by rw [fvs_len]; omega), List.getElem?_eq_none (by rw [fvs_len]; omega)]
  simp [pf, hK, hc, e]
theorem pf_setI2 {cy : Nat → ClassId} {ρ : Nat → Nat} {S : HS} {f a : Nat} {v : Int32} (t : Nat) (h : t ≠ a) : pf cy ρ (setI S f a v) t = pf cy ρ S t := pf_other (fun f' => by simp [sI_setI, up2, h]) (fun _ => rfl) rfl (fun _ => rfl)
theorem pf_setR {cy : Nat → ClassId} {ρ : Nat → Nat} {S : HS} {a ci k : Nat} {v : Option Nat} (hK : tk a = ci) (hc : ci < 10) (hk : k < nF ci) (hr : fR ci k = true) : pf cy ρ (setR S (fid ci k) a v) a = .inr (ci, (fvs ρ S ci a).set k (va_rf (v.map ρ))) := by
  have e : fvs ρ (setR S (fid ci k) a v) ci a = (fvs ρ S ci a).set k (va_rf (v.map ρ)) := by
    apply List.ext_getElem?
    intro j
    by_cases hj : j = k
    · subst hj
      rw [List.getElem?_set_self (by rw [fvs_len]; exact hk), fvs_get hk]
      simp [fv, hr, sR_setR, up2]
    · rw [List.getElem?_set_ne (Ne.symm hj)]
      by_cases hjl : j < nF ci
      · rw [fvs_get hjl, fvs_get hjl]
        simp [fv, sI_setR, sR_setR, up2, fid_ne hj]
      · rw [List.getElem?_eq_none (by rw [fvs_len]; omega), List.getElem?_eq_none (by rw [fvs_len]; omega)]
  simp [pf, hK, hc, e]
theorem pf_setR2 {cy : Nat → ClassId} {ρ : Nat → Nat} {S : HS} {f a : Nat} {v : Option Nat} (t : Nat) (h : t ≠ a) : pf cy ρ (setR S f a v) t = pf cy ρ S t := pf_other (fun _ => rfl) (fun f' => by simp [sR_setR, up2, h]) rfl (fun _ => rfl)
theorem pf_setA {cy : Nat → ClassId} {ρ : Nat → Nat} {S : HS} {a : Nat} {r : Nat → Int32} (h1 : ¬ tk a < 10) (h2 : tk a < 12) : pf cy ρ (setA S a r) a = .inl (cy (tk a), tn a, .inl r) := by
  simp [pf, sA_setA, va_up, h1, h2]
theorem pf_setA2 {cy : Nat → ClassId} {ρ : Nat → Nat} {S : HS} {a : Nat} {r : Nat → Int32} (t : Nat) (h : t ≠ a) : pf cy ρ (setA S a r) t = pf cy ρ S t := pf_other (fun _ => rfl) (fun _ => rfl) (by simp [sA_setA, va_up, h]) (fun _ => rfl)
theorem pf_setQ {cy : Nat → ClassId} {ρ : Nat → Nat} {S : HS} {a : Nat} {r : Nat → Option Nat} (h1 : ¬ tk a < 12) : pf cy ρ (setQ S a r) a = .inl (cy (tk a), tn a, .inr (.inr (.inr (.inr (fun i => (r i).map ρ))))) := by
  have h2 : ¬ tk a < 10 := by omega
  simp [pf, sQ_setQ, va_up, h1, h2]
theorem pf_setQ2 {cy : Nat → ClassId} {ρ : Nat → Nat} {S : HS} {a : Nat} {r : Nat → Option Nat} (t : Nat) (h : t ≠ a) : pf cy ρ (setQ S a r) t = pf cy ρ S t := pf_other (fun _ => rfl) (fun _ => rfl) rfl (fun i => by simp [sQ_setQ, va_up, h])
/-- nobody in the heap knows the tag t -/
def Fr (t : Nat) (S : HS) : Prop := (∀ f a, sR S f a ≠ some t) ∧ (∀ a i, sQ S a i ≠ some t)
theorem map_up {ρ : Nat → Nat} {t q : Nat} {r : Option Nat} (h : r ≠ some t) : r.map (va_up ρ t q) = r.map ρ := by
  cases r with
  | none => rfl
  | some x =>
    have hx : x ≠ t := fun e => h (by rw [e])
    simp [va_up, hx]
def dfs (ci : Nat) : List Value := (List.range (nF ci)).map (fun k => if fR ci k = true then Value.null else .int 0)
theorem pf_newO {cy : Nat → ClassId} {ρ : Nat → Nat} {S : HS} {a ci : Nat} (hK : tk a = ci) (hc : ci < 10) : pf cy ρ (newO S a) a = .inr (ci, dfs ci) := by
  have e : fvs ρ (newO S a) ci a = dfs ci := by
    unfold dfs fvs
    apply List.map_congr_left
    intro j _
    simp [fv, sI_newO, sR_newO, va_up, va_rf]
  simp [pf, hK, hc, e]
theorem pf_newO2 {cy : Nat → ClassId} {ρ : Nat → Nat} {S : HS} {a q : Nat} (hF : Fr a S) (t : Nat) (h : t ≠ a) : pf cy (va_up ρ a q) (newO S a) t = pf cy ρ S t := pf_other (fun f => by simp [sI_newO, va_up, h]) (fun f => by rw [sR_newO, va_up_ne _ _ h]; exact map_up (hF.1 f t)) rfl (fun i => map_up (hF.2 t i))
theorem pf_newA {cy : Nat → ClassId} {ρ : Nat → Nat} {S : HS} {a : Nat} (h1 : ¬ tk a < 10) (h2 : tk a < 12) : pf cy ρ (newA S a) a = .inl (cy (tk a), tn a, .inl (fun _ => 0)) := by
  simp [pf, sA_newA, va_up, h1, h2]
theorem pf_newQ {cy : Nat → ClassId} {ρ : Nat → Nat} {S : HS} {a : Nat} (h1 : ¬ tk a < 12) : pf cy ρ (newA S a) a = .inl (cy (tk a), tn a, .inr (.inr (.inr (.inr (fun _ => none))))) := by
  have h2 : ¬ tk a < 10 := by omega
  simp [pf, sQ_newA, va_up, h1, h2]
theorem pf_newA2 {cy : Nat → ClassId} {ρ : Nat → Nat} {S : HS} {a q : Nat} (hF : Fr a S) (t : Nat) (h : t ≠ a) : pf cy (va_up ρ a q) (newA S a) t = pf cy ρ S t := pf_other (fun f => rfl) (fun f => map_up (hF.1 f t)) (by rw [sA_newA, va_up_ne _ _ h]) (fun i => by rw [sQ_newA, va_up_ne _ _ h]; exact map_up (hF.2 t i))
theorem pf_obj {cy : Nat → ClassId} {ρ : Nat → Nat} {S : HS} {a ci : Nat} (hK : tk a = ci) (hc : ci < 10) : pf cy ρ S a = .inr (ci, fvs ρ S ci a) := by simp [pf, hK, hc]
theorem pf_arr {cy : Nat → ClassId} {ρ : Nat → Nat} {S : HS} {a : Nat} (h1 : ¬ tk a < 10) (h2 : tk a < 12) : pf cy ρ S a = .inl (cy (tk a), tn a, .inl (sA S a)) := by simp [pf, h1, h2]
theorem pf_arq {cy : Nat → ClassId} {ρ : Nat → Nat} {S : HS} {a : Nat} (h1 : ¬ tk a < 12) : pf cy ρ S a = .inl (cy (tk a), tn a, .inr (.inr (.inr (.inr (fun i => (sQ S a i).map ρ))))) := by
  have h2 : ¬ tk a < 10 := by omega
  simp [pf, h1, h2]
/-- values whose tags are live -/
def okV (L : List Nat) (v : Value) : Prop := match v with
  | .ref t => t ∈ L
  | _ => True
def okS (L : List Nat) : List Value → Prop
  | [] => True
  | v :: r => okV L v ∧ okS L r
def okL (L : List Nat) : List (Option Value) → Prop
  | [] => True
  | none :: r => okL L r
  | some v :: r => okV L v ∧ okL L r
theorem okL_at {L : List Nat} : ∀ {lv : List (Option Value)} {i : Nat} {v : Value}, okL L lv → lv[i]? = some (some v) → okV L v
  | [], i, v, _, h => by simp at h
  | none :: r, 0, v, _, h => by simp at h
  | none :: r, i + 1, v, h0, h => okL_at (lv := r) h0 (by simpa using h)
  | some w :: r, 0, v, h0, h => by
    have e : w = v := by simpa using h
    rw [← e]
    exact h0.1
  | some w :: r, i + 1, v, h0, h => okL_at (lv := r) h0.2 (by simpa using h)
theorem okL_set {L : List Nat} : ∀ {lv : List (Option Value)} {i : Nat} {v : Value}, okL L lv → okV L v → okL L (lv.set i (some v))
  | [], i, v, _, h => trivial
  | none :: r, 0, v, h0, h => ⟨h, h0⟩
  | none :: r, i + 1, v, h0, h => okL_set (lv := r) h0 h
  | some w :: r, 0, v, h0, h => ⟨h, h0.2⟩
  | some w :: r, i + 1, v, h0, h => ⟨h0.1, okL_set (lv := r) h0.2 h⟩
theorem okL_setN {L : List Nat} : ∀ {lv : List (Option Value)} {i : Nat}, okL L lv → okL L (lv.set i none)
  | [], i, _ => trivial
  | none :: r, 0, h0 => h0
  | none :: r, i + 1, h0 => okL_setN (lv := r) h0
  | some w :: r, 0, h0 => h0.2
  | some w :: r, i + 1, h0 => ⟨h0.1, okL_setN (lv := r) h0.2⟩
theorem okV_mono {L L' : List Nat} (h : ∀ t ∈ L, t ∈ L') {v : Value} (hv : okV L v) : okV L' v := by
  cases v <;> first | trivial | exact h _ hv
theorem okS_mono {L L' : List Nat} (h : ∀ t ∈ L, t ∈ L') : ∀ {st : List Value}, okS L st → okS L' st
  | [], _ => trivial
  | v :: r, hv => ⟨okV_mono h hv.1, okS_mono h hv.2⟩
theorem okL_mono {L L' : List Nat} (h : ∀ t ∈ L, t ∈ L') : ∀ {lv : List (Option Value)}, okL L lv → okL L' lv
  | [], _ => trivial
  | none :: r, hv => okL_mono (lv := r) h hv
  | some v :: r, hv => ⟨okV_mono h hv.1, okL_mono h hv.2⟩
theorem rn_eq {L : List Nat} {ρ ρ' : Nat → Nat} (h : ∀ t ∈ L, ρ' t = ρ t) {v : Value} (hv : okV L v) : rn ρ' v = rn ρ v := by
  cases v <;> first | rfl | exact congrArg Value.ref (h _ hv)
theorem rnS_eq {L : List Nat} {ρ ρ' : Nat → Nat} (h : ∀ t ∈ L, ρ' t = ρ t) : ∀ {st : List Value}, okS L st → st.map (rn ρ') = st.map (rn ρ)
  | [], _ => rfl
  | v :: r, hv => by rw [List.map_cons, List.map_cons, rn_eq h hv.1, rnS_eq h hv.2]
theorem rnL_eq {L : List Nat} {ρ ρ' : Nat → Nat} (h : ∀ t ∈ L, ρ' t = ρ t) : ∀ {lv : List (Option Value)}, okL L lv → lv.map (Option.map (rn ρ')) = lv.map (Option.map (rn ρ))
  | [], _ => rfl
  | none :: r, hv => by rw [List.map_cons, List.map_cons, rnL_eq (lv := r) h hv]; rfl
  | some v :: r, hv => by rw [List.map_cons, List.map_cons, rnL_eq h hv.2, Option.map_some, Option.map_some, rn_eq h hv.1]
end
section
/-! ===== the judgement R: one method's frame over a heap HS; a row an instruction ===== -/
def tyK (cy : Nat → ClassId) : List (ClassId × FieldType) := [(cy 10, .int), (cy 11, .boolean), (cy 12, .object RX0), (cy 13, .object RX2), (cy 14, .object RX5), (cy 15, .object RX7)]
def nestW : List Cond := [.methodLinkNest RX8 11 yX4_init RX8, .methodLinkNest RX8 36 yX5_init RX8, .methodLinkNest RX8 47 yX3_init RX8, .methodLinkNest RX8 54 yX1_init RX8, .methodLinkNest RX8 61 yX6_init RX8]
def KK (G : va_G) (cy : Nat → ClassId) (U : State) : Prop := va_K G vwCl (tyK cy) U ∧ (∀ w ∈ nestW, va_Nw w U) ∧ (va_AO RX0 U ∧ va_AO RX2 U ∧ va_AO RX5 U ∧ va_AO RX7 U)
theorem KK.warm {G : va_G} {cy : Nat → ClassId} {s U : State} (hW : s.WarmedH U.vm) (h : KK G cy s) : KK G cy U := by
  obtain ⟨h1, h2, h3, h4, h5, h6⟩ := h
  refine ⟨va_K.moved hW.alike h1, fun w hw => ?_, va_AO.moved hW.alike h3, va_AO.moved hW.alike h4, va_AO.moved hW.alike h5, va_AO.moved hW.alike h6⟩
  have hz := h2 w hw
  simp only [nestW, List.mem_cons, List.not_mem_nil, or_false] at hw
  rcases hw with rfl | rfl | rfl | rfl | rfl <;> exact va_Nw.warmM hW hz
theorem KK.calling {G : va_G} {cy : Nat → ClassId} {U : State} {g : JFrame} {mk : MethodId} {a : Array Value} (h : KK G cy U) : KK G cy (U.calling g mk a) := by
  obtain ⟨h1, h2, h3, h4, h5, h6⟩ := h
  have e : U.vm.Alike (U.calling g mk a).vm := Vm.Alike.refl U.vm
  refine ⟨va_K.moved e h1, fun w hw => ?_, va_AO.moved e h3, va_AO.moved e h4, va_AO.moved e h5, va_AO.moved e h6⟩
  have hz := h2 w hw
  simp only [nestW, List.mem_cons, List.not_mem_nil, or_false] at hw
  rcases hw with rfl | rfl | rfl | rfl | rfl <;> exact va_Nw.same rfl rfl hz
/-- locals, a place each; none: not known -/
def la : Nat → List (Option Value) → List (Nat × Value)
  | _, [] => []
  | i, none :: r => la (i + 1) r
  | i, some v :: r => (i, v) :: la (i + 1) r
theorem la_mem : ∀ (lv : List (Option Value)) (j i : Nat) (v : Value), lv[i]? = some (some v) → (j + i, v) ∈ la j lv
  | [], j, i, v, h => by simp at h
  | none :: r, j, 0, v, h => by simp at h
  | none :: r, j, i + 1, v, h => by
    have := la_mem r (j + 1) i v (by simpa using h)
    rw [show j + 1 + i = j + (i + 1) by omega] at this
    exact this
  | some w :: r, j, 0, v, h => by
    have e : w = v := by simpa using h
    subst e
    exact List.mem_cons_self
  | some w :: r, j, i + 1, v, h => by
    have := la_mem r (j + 1) i v (by simpa using h)
    rw [show j + 1 + i = j + (i + 1) by omega] at this
    exact List.mem_cons_of_mem _ this
theorem la_of : ∀ (lv : List (Option Value)) (j : Nat) (q : Nat × Value), q ∈ la j lv → ∃ i, q.1 = j + i ∧ lv[i]? = some (some q.2)
  | [], j, q, h => by simp [la] at h
  | none :: r, j, q, h => by
    obtain ⟨i, h1, h2⟩ := la_of r (j + 1) q h
    exact ⟨i + 1, by omega, by simpa using h2⟩
  | some w :: r, j, q, h => by
    rcases List.mem_cons.mp h with h | h
    · subst h
      exact ⟨0, by simp, by simp⟩
    · obtain ⟨i, h1, h2⟩ := la_of r (j + 1) q h
      exact ⟨i + 1, by omega, by simpa using h2⟩
def lh (ls : Array Slot) (nL : Nat) (lv : List (Option Value)) : Prop := lv_has ls nL (la 0 lv)
theorem lh_at {ls : Array Slot} {nL i : Nat} {lv : List (Option Value)} {v : Value} (h : lh ls nL lv) (hi : lv[i]? = some (some v)) : ls[i]? = some (.val v) := by
  have := h.2.2 (0 + i, v) (la_mem lv 0 i v hi)
  simpa using this
def okp (a : Option Value) : Bool := match a with
  | some v => decide (v.category = 1)
  | none => true
theorem lh_set {ls : Array Slot} {nL i : Nat} {lv : List (Option Value)} {v : Value} (h : lv_has ls nL ((i, v) :: (la 0 lv).filter (fun q => !(q.1 == i) && !(q.1 + 1 == i && q.2.category == 2)))) (hp : ∀ a, i = a + 1 → okp (lv.getD a none) = true) : lh ls nL (lv.set i (some v)) := by
  refine ⟨h.1, h.2.1, fun q hq => h.2.2 q ?_⟩
  obtain ⟨j, h1, h2⟩ := la_of _ _ q hq
  have h1 : q.1 = j := by omega
  by_cases hj : j = i
  · subst hj
    have hl : j < lv.length := by
      have := (List.getElem?_eq_some_iff.mp h2).1
      simpa using this
    rw [List.getElem?_set_self hl] at h2
    have e : v = q.2 := by simpa using h2
    rw [e, ← h1]
    exact List.mem_cons_self
  · rw [List.getElem?_set_ne (Ne.symm hj)] at h2
    apply List.mem_cons_of_mem
    have hm := la_mem lv 0 j q.2 h2
    rw [Nat.zero_add, ← h1] at hm
    refine List.mem_filter.mpr ⟨hm, ?_⟩
    have e1 : (q.1 == i) = false := by simp [h1, hj]
    rw [e1]
    by_cases e2 : q.1 + 1 = i
    · have h3 := hp q.1 e2.symm
      rw [h1] at h3
      have e4 : lv.getD j none = some q.2 := by simp [List.getD, h2]
      rw [e4] at h3
      have h5 : q.2.category = 1 := by simpa [okp] using h3
      simp [h5]
    · have e3 : (q.1 + 1 == i) = false := by simp [e2]
      rw [e3]
      rfl
theorem lh_setL {ls : Array Slot} {nL i : Nat} {lv : List (Option Value)} {v : Value} (h : lv_has ls nL ((i, v) :: (la 0 lv).filter (fun q => !(q.1 == i) && (!(q.1 == i + 1) && !(q.1 + 1 == i && q.2.category == 2))))) (hp : ∀ a, i = a + 1 → okp (lv.getD a none) = true) : lh ls nL ((lv.set i (some v)).set (i + 1) none) := by
  refine ⟨h.1, h.2.1, fun q hq => h.2.2 q ?_⟩
  obtain ⟨j, h1, h2⟩ := la_of _ _ q hq
  have h1 : q.1 = j := by omega
  by_cases hj2 : j = i + 1
  · subst hj2
    by_cases hl : i + 1 < (lv.set i (some v)).length
    · rw [List.getElem?_set_self hl] at h2
      simp at h2
    · rw [List.getElem?_eq_none (by simpa using hl)] at h2
      simp at h2
  rw [List.getElem?_set_ne (Ne.symm hj2)] at h2
  by_cases hj : j = i
  · subst hj
    have hl : j < lv.length := by
      have := (List.getElem?_eq_some_iff.mp h2).1
      simpa using this
    rw [List.getElem?_set_self hl] at h2
    have e : v = q.2 := by simpa using h2
    rw [e, ← h1]
    exact List.mem_cons_self
  · rw [List.getElem?_set_ne (Ne.symm hj)] at h2
    apply List.mem_cons_of_mem
    have hm := la_mem lv 0 j q.2 h2
    rw [Nat.zero_add, ← h1] at hm
    refine List.mem_filter.mpr ⟨hm, ?_⟩
    have e1 : (q.1 == i) = false := by simp [h1, hj]
    have e1' : (q.1 == i + 1) = false := by simp [h1, hj2]
    rw [e1, e1']
    by_cases e2 : q.1 + 1 = i
    · have h3 := hp q.1 e2.symm
      rw [h1] at h3
      have e4 : lv.getD j none = some q.2 := by simp [List.getD, h2]
      rw [e4] at h3
      have h5 : q.2.category = 1 := by simpa [okp] using h3
      simp [h5]
    · have e3 : (q.1 + 1 == i) = false := by simp [e2]
      rw [e3]
      rfl
theorem okp_map {ρ : Nat → Nat} {lv : List (Option Value)} {a : Nat} (h : okp (lv.getD a none) = true) : okp ((lv.map (Option.map (rn ρ))).getD a none) = true := by
  simp only [List.getD, List.getElem?_map] at h ⊢
  cases hx : lv[a]? with
  | none => rfl
  | some x =>
    rw [hx] at h
    cases x with
    | none => rfl
    | some w =>
      simp only [Option.map_some, Option.getD_some, okp, rn_cat] at h ⊢
      exact h
def lhm (ls : Array Slot) (nL : Nat) (ρ : Nat → Nat) (lv : List (Option Value)) : Prop := lh ls nL (lv.map (Option.map (rn ρ)))
theorem lhm_at {ls : Array Slot} {nL i : Nat} {ρ : Nat → Nat} {lv : List (Option Value)} {v : Value} (h : lhm ls nL ρ lv) (hi : lv[i]? = some (some v)) : ls[i]? = some (.val (rn ρ v)) := lh_at h (by simp [hi])
theorem lhm_set {ls : Array Slot} {nL i : Nat} {ρ : Nat → Nat} {lv : List (Option Value)} {v : Value} (h : lv_has ls nL ((i, rn ρ v) :: (la 0 (lv.map (Option.map (rn ρ)))).filter (fun q => !(q.1 == i) && !(q.1 + 1 == i && q.2.category == 2)))) (hp : ∀ a, i = a + 1 → okp (lv.getD a none) = true) : lhm ls nL ρ (lv.set i (some v)) := by
  unfold lhm
  rw [List.map_set]
  exact lh_set h (fun a ha => okp_map (hp a ha))
theorem lhm_setL {ls : Array Slot} {nL i : Nat} {ρ : Nat → Nat} {lv : List (Option Value)} {v : Value} (h : lv_has ls nL ((i, rn ρ v) :: (la 0 (lv.map (Option.map (rn ρ)))).filter (fun q => !(q.1 == i) && (!(q.1 == i + 1) && !(q.1 + 1 == i && q.2.category == 2))))) (hp : ∀ a, i = a + 1 → okp (lv.getD a none) = true) : lhm ls nL ρ ((lv.set i (some v)).set (i + 1) none) := by
  unfold lhm
  rw [List.map_set, List.map_set]
  exact lh_setL h (fun a ha => okp_map (hp a ha))
theorem la_map (f : Value → Value) : ∀ (lv : List (Option Value)) (j : Nat), la j (lv.map (Option.map f)) = (la j lv).map (fun q => (q.1, f q.2))
  | [], j => rfl
  | none :: r, j => la_map f r (j + 1)
  | some v :: r, j => by
    show (j, f v) :: la (j + 1) (r.map (Option.map f)) = _
    rw [la_map f r (j + 1)]
    rfl
theorem args_map (ρ : Nat → Nat) : ∀ (vs : List Value) (j : Nat), lv_args j (vs.map (rn ρ)) = (lv_args j vs).map (fun q => (q.1, rn ρ q.2))
  | [], j => rfl
  | v :: r, j => by
    show (j, rn ρ v) :: lv_args (if (rn ρ v).category = 2 then j + 2 else j + 1) (r.map (rn ρ)) = _
    rw [args_map ρ r, rn_cat]
    rfl
theorem sl_map (ρ : Nat → Nat) : ∀ (vs : List Value), (lg_sl (vs.map (rn ρ))).length = (lg_sl vs).length
  | [] => rfl
  | v :: r => by
    have ih := sl_map ρ r
    simp only [lg_sl, List.map_cons, List.flatMap_cons, List.length_append, rn_cat] at ih ⊢
    rw [ih]
    split <;> simp
theorem okL_of {L : List Nat} : ∀ (lv : List (Option Value)) (j : Nat), (∀ q ∈ la j lv, okV L q.2) → okL L lv
  | [], j, h => trivial
  | none :: r, j, h => okL_of r (j + 1) h
  | some v :: r, j, h => ⟨h (j, v) List.mem_cons_self, okL_of r (j + 1) (fun q hq => h q (List.mem_cons_of_mem _ hq))⟩
theorem okS_args {L : List Nat} : ∀ (vs : List Value) (j : Nat), okS L vs → ∀ q ∈ lv_args j vs, okV L q.2
  | [], j, h, q, hq => by simp [lv_args] at hq
  | v :: r, j, h, q, hq => by
    rcases List.mem_cons.mp hq with e | e
    · rw [e]; exact h.1
    · exact okS_args r _ h.2 q e
def rmO (d mc ms : Nat) : Room := { frames := d, cells := mc, slots := ms, locals := 40 * d }
/-- what a method's end says: the answer, the heap behind it, the old tags where they were, and that nothing else has changed -/
def Qcn (G : va_G) (cy : Nat → ClassId) (Q : Option Value → HS → Prop) (A : Nat → Prop) (L0 : List Nat) (ρ0 : Nat → Nat) : Array Value → State → Outcome → State → Prop := fun _ st oc t => (∃ (v : Option Value) (S : HS) (ρ : Nat → Nat), oc = .returned (v.map (rn ρ)) ∧ Q v S ∧ (∀ t ∈ L0, ρ t = ρ0 t) ∧ (∀ t ∈ L0, t ∈ sL S) ∧ (∀ x, v = some x → okV (sL S) x) ∧ va_P G vwCl (pool cy ρ S) t.heap ∧ va_D A (pool cy ρ S)) ∧ va_F A st t
def Pcn (G : va_G) (cy : Nat → ClassId) (ρ : Nat → Nat) (args : List Value) (S : HS) (sz : Nat) : Array Value → State → Prop := va_Pc (args.map (rn ρ)) (fun U => U.heap.size = sz ∧ va_P G vwCl (pool cy ρ S) U.heap ∧ KK G cy U ∧ va_D (fun _ => True) (pool cy ρ S))
/-- a contract: from the heap S with these arguments, at most mc cells of ms slots are made -/
def Cn (l : Launch) (G : va_G) (cy : Nat → ClassId) (y : MethodName) (b : ByteArray) (nL : Nat) (rt : Option FieldType) (d : Nat) (args : List Value) (S : HS) (mc ms : Nat) (Q : Option Value → HS → Prop) : Prop :=
  okS (sL S) args → ∀ (sz : Nat) (ρ : Nat → Nat), Met l y (Cond.code y b nL rt :: TB) (rmO d mc ms) (Pcn G cy ρ args S sz) (Qcn G cy Q (va_A (pool cy ρ S) sz) (sL S) ρ) mc ms (va_A (pool cy ρ S) sz)
def qI (Q : Int32 → HS → Prop) : Option Value → HS → Prop := fun v S => ∃ r : Int32, v = some (.int r) ∧ Q r S
def qV (Q : HS → Prop) : Option Value → HS → Prop := fun v S => v = none ∧ Q S
def qR (Q : Option Nat → HS → Prop) : Option Value → HS → Prop := fun v S => ∃ r : Option Nat, v = some (va_rf r) ∧ Q r S
def Cx (y : MethodName) (b : ByteArray) (nL : Nat) (rt : Option FieldType) (p : Program) (s : State) (m : MethodId) (args : Array Value) (meth : Method) (c : Code) : Prop :=
  p.tables.exec = Jvm.exec ∧ c.code = b ∧ meth.sig.returnType = rt ∧ c.maxLocals = nL ∧ s.vm.findClass y.cls = some m.cls ∧ (∀ w ∈ (Cond.code y b nL rt :: TB), w.before args s = true) ∧ meth.locks = false ∧ meth.name = y.name
/-- THE JUDGEMENT: at pc with these locals, this stack, this heap (all by tags), k cells of n slots made so far, the method comes to an end with Q -/
def R (l : Launch) (G : va_G) (cy : Nat → ClassId) (y : MethodName) (b : ByteArray) (nL : Nat) (rt : Option FieldType) (d mc ms : Nat) (Q : Option Value → HS → Prop) (pc : Nat) (lv : List (Option Value)) (st : List Value) (S : HS) (k n : Nat) : Prop :=
  ∀ (p : Program) (e : Env) (s : State) (m : MethodId) (args : Array Value) (below : List Frame) (meth : Method) (c : Code) (H : Heap) (locs : List Loc) (ls : Array Slot) (A : Nat → Prop) (ρ : Nat → Nat) (L0 : List Nat) (ρ0 : Nat → Nat),
    Cx y b nL rt p s m args meth c → KK G cy s → (∀ q : Nat, s.heap.size ≤ q → A q) → va_P G vwCl (pool cy ρ S) H → va_D A (pool cy ρ S) → va_S A s.heap H locs → lhm ls nL ρ lv → okL (sL S) lv → okS (sL S) st → (∀ t ∈ L0, ρ t = ρ0 t) → (∀ t ∈ L0, t ∈ sL S) →
    W p l e (rmO d mc ms) s m args below meth c H locs k n (MQ below (Qcn G cy Q A L0 ρ0) args s mc ms A) (F0 m pc ls (st.map (rn ρ)))
section RR
variable {l : Launch} {G : va_G} {cy : Nat → ClassId} {y : MethodName} {b : ByteArray} {nL : Nat} {rt : Option FieldType} {d mc ms : Nat} {Q : Option Value → HS → Prop} {pc : Nat} {lv : List (Option Value)} {st : List Value} {S : HS} {k n : Nat}
theorem Cn.of {args : List Value} (lv : List (Option Value)) (hy : plainName y.cls = true) (hl : la 0 lv = lv_args 0 args) (hn : (lg_sl args).length ≤ nL) (h : R l G cy y b nL rt d mc ms Q 0 lv [] S 0 0) : Cn l G cy y b nL rt d args S mc ms Q := by
  intro hok sz ρ
  refine Met.ofW (cc := b) (maxL := nL) (ret := rt) hy rfl ?_
  intro p e s m args' below meth c s₁ B hml hv
  obtain ⟨rfl, hsz, hP, hK, hD0⟩ := hv
  subst hsz
  have hts := atoms_spec (ws := Cond.code y b nL rt :: TB) B.pre
  have hown : s.vm.findClass y.cls = some m.cls := findClass_of_methodNamed B.named
  have hin : meth.name = y.name := (name_of_methodNamed B.named B.method).1
  have hll := lv_entry (args.map (rn ρ)) (n := nL) (by rw [sl_map]; exact hn)
  rw [lg_entry_eq]
  refine h p e s m _ below meth c s.heap [] _ (va_A (pool cy ρ S) s.heap.size) ρ (sL S) ρ ⟨B.exec, B.bytes, B.returns, hml, hown, hts, B.notSynchronized, hin⟩ hK (fun q hq => Or.inr hq) hP (hD0.self) va_S.rf ?_ ?_ trivial (fun _ _ => rfl) (fun _ h => h)
  · unfold lhm lh
    rw [la_map, hl, ← args_map]
    exact hll
  · exact okL_of lv 0 (by rw [hl]; exact okS_args args 0 hok)
theorem R.widen {k' n' : Nat} (h1 : k ≤ k') (h2 : n ≤ n') (h : R l G cy y b nL rt d mc ms Q pc lv st S k' n') : R l G cy y b nL rt d mc ms Q pc lv st S k n := by
  intro p e s m args below meth c H locs ls A ρ L0 ρ0 X hK hA hP hD hS hl hoL hoS hρ hLL
  exact W.widen h1 h2 (h p e s m args below meth c H locs ls A ρ L0 ρ0 X hK hA hP hD hS hl hoL hoS hρ hLL)
/-- what is known of the frame's tags may be used -/
theorem R.live (h : okL (sL S) lv → okS (sL S) st → R l G cy y b nL rt d mc ms Q pc lv st S k n) : R l G cy y b nL rt d mc ms Q pc lv st S k n := by
  intro p e s m args below meth c H locs ls A ρ L0 ρ0 X hK hA hP hD hS hl hoL hoS hρ hLL
  exact h hoL hoS p e s m args below meth c H locs ls A ρ L0 ρ0 X hK hA hP hD hS hl hoL hoS hρ hLL
/-- a loop: an invariant with a measure -/
theorem R.loop (I : Nat → List (Option Value) → HS → Nat → Nat → Prop) (step : ∀ (u : Nat) (lv : List (Option Value)) (S : HS) (k n : Nat), I u lv S k n → (∀ (u' : Nat) (lv' : List (Option Value)) (S' : HS) (k' n' : Nat), u' < u → I u' lv' S' k' n' → R l G cy y b nL rt d mc ms Q pc lv' st S' k' n') → R l G cy y b nL rt d mc ms Q pc lv st S k n) :
    ∀ (u : Nat) (lv : List (Option Value)) (S : HS) (k n : Nat), I u lv S k n → R l G cy y b nL rt d mc ms Q pc lv st S k n := by
  intro u
  induction u using Nat.strongRecOn with
  | ind u ih => exact fun lv S k n h => step u lv S k n h (fun u' lv' S' k' n' hu h' => ih u' hu lv' S' k' n' h')

theorem r_iconst {z : Int} {v : Int32} (hd : decode b pc = .ok (.iconst z, 1)) (hv : Int32.ofInt z = v) (h : R l G cy y b nL rt d mc ms Q (pc + 1) lv (.int v :: st) S k n) : R l G cy y b nL rt d mc ms Q pc lv st S k n := by
  intro p e s m args below meth c H locs ls A ρ L0 ρ0 X hK hA hP hD hS hl hoL hoS hρ hLL
  obtain ⟨hx, hb, hr, hml, hown, hts, hlk, hnm⟩ := id X
  exact lv_iconst hx hb hd hv (h p e s m args below meth c H locs ls A ρ L0 ρ0 X hK hA hP hD hS hl hoL ⟨trivial, hoS⟩ hρ hLL)
theorem r_bipush {z : Int} {v : Int32} (hd : decode b pc = .ok (.bipush z, 2)) (hv : (Int8.ofInt z).toInt32 = v) (h : R l G cy y b nL rt d mc ms Q (pc + 2) lv (.int v :: st) S k n) : R l G cy y b nL rt d mc ms Q pc lv st S k n := by
  intro p e s m args below meth c H locs ls A ρ L0 ρ0 X hK hA hP hD hS hl hoL hoS hρ hLL
  obtain ⟨hx, hb, hr, hml, hown, hts, hlk, hnm⟩ := id X
  exact lv_bipush hx hb hd hv (h p e s m args below meth c H locs ls A ρ L0 ρ0 X hK hA hP hD hS hl hoL ⟨trivial, hoS⟩ hρ hLL)
theorem r_sipush {z : Int} {v : Int32} (hd : decode b pc = .ok (.sipush z, 3)) (hv : (Int16.ofInt z).toInt32 = v) (h : R l G cy y b nL rt d mc ms Q (pc + 3) lv (.int v :: st) S k n) : R l G cy y b nL rt d mc ms Q pc lv st S k n := by
  intro p e s m args below meth c H locs ls A ρ L0 ρ0 X hK hA hP hD hS hl hoL hoS hρ hLL
  obtain ⟨hx, hb, hr, hml, hown, hts, hlk, hnm⟩ := id X
  exact lv_sipush hx hb hd hv (h p e s m args below meth c H locs ls A ρ L0 ρ0 X hK hA hP hD hS hl hoL ⟨trivial, hoS⟩ hρ hLL)
theorem r_lconst {z : Fin 2} {v : Int64} (hd : decode b pc = .ok (.lconst z, 1)) (hv : Int64.ofNat (z : Nat) = v) (h : R l G cy y b nL rt d mc ms Q (pc + 1) lv (.long v :: st) S k n) : R l G cy y b nL rt d mc ms Q pc lv st S k n := by
  intro p e s m args below meth c H locs ls A ρ L0 ρ0 X hK hA hP hD hS hl hoL hoS hρ hLL
  obtain ⟨hx, hb, hr, hml, hown, hts, hlk, hnm⟩ := id X
  exact lv_lconst hx hb hd hv (h p e s m args below meth c H locs ls A ρ L0 ρ0 X hK hA hP hD hS hl hoL ⟨trivial, hoS⟩ hρ hLL)
theorem r_null  (hd : decode b pc = .ok (.aconst_null, 1)) (h : R l G cy y b nL rt d mc ms Q (pc + 1) lv (.null :: st) S k n) : R l G cy y b nL rt d mc ms Q pc lv st S k n := by
  intro p e s m args below meth c H locs ls A ρ L0 ρ0 X hK hA hP hD hS hl hoL hoS hρ hLL
  obtain ⟨hx, hb, hr, hml, hown, hts, hlk, hnm⟩ := id X
  exact lv_null hx hb hd (h p e s m args below meth c H locs ls A ρ L0 ρ0 X hK hA hP hD hS hl hoL ⟨trivial, hoS⟩ hρ hLL)
theorem r_iload_n {j : Fin 4} {i : Nat} {x : Int32} (hd : decode b pc = .ok (.iload_n j, 1)) (hi : (j : Nat) = i) (hv : lv[i]? = some (some (.int x))) (h : R l G cy y b nL rt d mc ms Q (pc + 1) lv (.int x :: st) S k n) : R l G cy y b nL rt d mc ms Q pc lv st S k n := by
  intro p e s m args below meth c H locs ls A ρ L0 ρ0 X hK hA hP hD hS hl hoL hoS hρ hLL
  obtain ⟨hx, hb, hr, hml, hown, hts, hlk, hnm⟩ := id X
  exact lv_iload_n hx hb hd hi (lhm_at hl hv) (h p e s m args below meth c H locs ls A ρ L0 ρ0 X hK hA hP hD hS hl hoL ⟨okL_at hoL hv, hoS⟩ hρ hLL)
theorem r_iload {i : Nat} {x : Int32} (hd : decode b pc = .ok (.iload i, 2)) (hv : lv[i]? = some (some (.int x))) (h : R l G cy y b nL rt d mc ms Q (pc + 2) lv (.int x :: st) S k n) : R l G cy y b nL rt d mc ms Q pc lv st S k n := by
  intro p e s m args below meth c H locs ls A ρ L0 ρ0 X hK hA hP hD hS hl hoL hoS hρ hLL
  obtain ⟨hx, hb, hr, hml, hown, hts, hlk, hnm⟩ := id X
  exact lv_iload hx hb hd (lhm_at hl hv) (h p e s m args below meth c H locs ls A ρ L0 ρ0 X hK hA hP hD hS hl hoL ⟨okL_at hoL hv, hoS⟩ hρ hLL)
theorem r_lload_n {j : Fin 4} {i : Nat} {x : Int64} (hd : decode b pc = .ok (.lload_n j, 1)) (hi : (j : Nat) = i) (hv : lv[i]? = some (some (.long x))) (h : R l G cy y b nL rt d mc ms Q (pc + 1) lv (.long x :: st) S k n) : R l G cy y b nL rt d mc ms Q pc lv st S k n := by
  intro p e s m args below meth c H locs ls A ρ L0 ρ0 X hK hA hP hD hS hl hoL hoS hρ hLL
  obtain ⟨hx, hb, hr, hml, hown, hts, hlk, hnm⟩ := id X
  exact lv_lload_n hx hb hd hi (lhm_at hl hv) (h p e s m args below meth c H locs ls A ρ L0 ρ0 X hK hA hP hD hS hl hoL ⟨okL_at hoL hv, hoS⟩ hρ hLL)
theorem r_lload {i : Nat} {x : Int64} (hd : decode b pc = .ok (.lload i, 2)) (hv : lv[i]? = some (some (.long x))) (h : R l G cy y b nL rt d mc ms Q (pc + 2) lv (.long x :: st) S k n) : R l G cy y b nL rt d mc ms Q pc lv st S k n := by
  intro p e s m args below meth c H locs ls A ρ L0 ρ0 X hK hA hP hD hS hl hoL hoS hρ hLL
  obtain ⟨hx, hb, hr, hml, hown, hts, hlk, hnm⟩ := id X
  exact lv_lload hx hb hd (lhm_at hl hv) (h p e s m args below meth c H locs ls A ρ L0 ρ0 X hK hA hP hD hS hl hoL ⟨okL_at hoL hv, hoS⟩ hρ hLL)
theorem r_aload_n {j : Fin 4} {i : Nat} {x : Nat} (hd : decode b pc = .ok (.aload_n j, 1)) (hi : (j : Nat) = i) (hv : lv[i]? = some (some (.ref x))) (h : R l G cy y b nL rt d mc ms Q (pc + 1) lv (.ref x :: st) S k n) : R l G cy y b nL rt d mc ms Q pc lv st S k n := by
  intro p e s m args below meth c H locs ls A ρ L0 ρ0 X hK hA hP hD hS hl hoL hoS hρ hLL
  obtain ⟨hx, hb, hr, hml, hown, hts, hlk, hnm⟩ := id X
  exact lv_aload_n hx hb hd hi (lhm_at hl hv) (h p e s m args below meth c H locs ls A ρ L0 ρ0 X hK hA hP hD hS hl hoL ⟨okL_at hoL hv, hoS⟩ hρ hLL)
theorem r_aload {i : Nat} {x : Nat} (hd : decode b pc = .ok (.aload i, 2)) (hv : lv[i]? = some (some (.ref x))) (h : R l G cy y b nL rt d mc ms Q (pc + 2) lv (.ref x :: st) S k n) : R l G cy y b nL rt d mc ms Q pc lv st S k n := by
  intro p e s m args below meth c H locs ls A ρ L0 ρ0 X hK hA hP hD hS hl hoL hoS hρ hLL
  obtain ⟨hx, hb, hr, hml, hown, hts, hlk, hnm⟩ := id X
  exact lv_aload hx hb hd (lhm_at hl hv) (h p e s m args below meth c H locs ls A ρ L0 ρ0 X hK hA hP hD hS hl hoL ⟨okL_at hoL hv, hoS⟩ hρ hLL)
theorem r_aload_nN {j : Fin 4} {i : Nat} (hd : decode b pc = .ok (.aload_n j, 1)) (hi : (j : Nat) = i) (hv : lv[i]? = some (some .null)) (h : R l G cy y b nL rt d mc ms Q (pc + 1) lv (.null :: st) S k n) : R l G cy y b nL rt d mc ms Q pc lv st S k n := by
  intro p e s m args below meth c H locs ls A ρ L0 ρ0 X hK hA hP hD hS hl hoL hoS hρ hLL
  obtain ⟨hx, hb, hr, hml, hown, hts, hlk, hnm⟩ := id X
  exact lv_aload_nN hx hb hd hi (lhm_at hl hv) (h p e s m args below meth c H locs ls A ρ L0 ρ0 X hK hA hP hD hS hl hoL ⟨trivial, hoS⟩ hρ hLL)
theorem r_aloadN {i : Nat} (hd : decode b pc = .ok (.aload i, 2)) (hv : lv[i]? = some (some .null)) (h : R l G cy y b nL rt d mc ms Q (pc + 2) lv (.null :: st) S k n) : R l G cy y b nL rt d mc ms Q pc lv st S k n := by
  intro p e s m args below meth c H locs ls A ρ L0 ρ0 X hK hA hP hD hS hl hoL hoS hρ hLL
  obtain ⟨hx, hb, hr, hml, hown, hts, hlk, hnm⟩ := id X
  exact lv_aloadN hx hb hd (lhm_at hl hv) (h p e s m args below meth c H locs ls A ρ L0 ρ0 X hK hA hP hD hS hl hoL ⟨trivial, hoS⟩ hρ hLL)
theorem r_istore_n {j : Fin 4} {i : Nat} {x : Int32} (hd : decode b pc = .ok (.istore_n j, 1)) (hi : (j : Nat) = i) (hn : i < nL) (hp : ∀ a, i = a + 1 → okp (lv.getD a none) = true) (h : R l G cy y b nL rt d mc ms Q (pc + 1) (lv.set i (some (.int x))) st S k n) : R l G cy y b nL rt d mc ms Q pc lv (.int x :: st) S k n := by
  intro p e s m args below meth c H locs ls A ρ L0 ρ0 X hK hA hP hD hS hl hoL hoS hρ hLL
  obtain ⟨hx, hb, hr, hml, hown, hts, hlk, hnm⟩ := id X
  exact lv_istore_n hx hb hd hi hl hn rfl (fun ls2 hl2 => h p e s m args below meth c H locs ls2 A ρ L0 ρ0 X hK hA hP hD hS (lhm_set (v := .int x) hl2 hp) (okL_set hoL hoS.1) hoS.2 hρ hLL)
theorem r_istore {i : Nat} {x : Int32} (hd : decode b pc = .ok (.istore i, 2)) (hn : i < nL) (hp : ∀ a, i = a + 1 → okp (lv.getD a none) = true) (h : R l G cy y b nL rt d mc ms Q (pc + 2) (lv.set i (some (.int x))) st S k n) : R l G cy y b nL rt d mc ms Q pc lv (.int x :: st) S k n := by
  intro p e s m args below meth c H locs ls A ρ L0 ρ0 X hK hA hP hD hS hl hoL hoS hρ hLL
  obtain ⟨hx, hb, hr, hml, hown, hts, hlk, hnm⟩ := id X
  exact lv_istore hx hb hd hl hn rfl (fun ls2 hl2 => h p e s m args below meth c H locs ls2 A ρ L0 ρ0 X hK hA hP hD hS (lhm_set (v := .int x) hl2 hp) (okL_set hoL hoS.1) hoS.2 hρ hLL)
theorem r_astore_n {j : Fin 4} {i : Nat} {x : Nat} (hd : decode b pc = .ok (.astore_n j, 1)) (hi : (j : Nat) = i) (hn : i < nL) (hp : ∀ a, i = a + 1 → okp (lv.getD a none) = true) (h : R l G cy y b nL rt d mc ms Q (pc + 1) (lv.set i (some (.ref x))) st S k n) : R l G cy y b nL rt d mc ms Q pc lv (.ref x :: st) S k n := by
  intro p e s m args below meth c H locs ls A ρ L0 ρ0 X hK hA hP hD hS hl hoL hoS hρ hLL
  obtain ⟨hx, hb, hr, hml, hown, hts, hlk, hnm⟩ := id X
  exact lv_astore_n hx hb hd hi hl hn rfl (fun ls2 hl2 => h p e s m args below meth c H locs ls2 A ρ L0 ρ0 X hK hA hP hD hS (lhm_set (v := .ref x) hl2 hp) (okL_set hoL hoS.1) hoS.2 hρ hLL)
theorem r_astore {i : Nat} {x : Nat} (hd : decode b pc = .ok (.astore i, 2)) (hn : i < nL) (hp : ∀ a, i = a + 1 → okp (lv.getD a none) = true) (h : R l G cy y b nL rt d mc ms Q (pc + 2) (lv.set i (some (.ref x))) st S k n) : R l G cy y b nL rt d mc ms Q pc lv (.ref x :: st) S k n := by
  intro p e s m args below meth c H locs ls A ρ L0 ρ0 X hK hA hP hD hS hl hoL hoS hρ hLL
  obtain ⟨hx, hb, hr, hml, hown, hts, hlk, hnm⟩ := id X
  exact lv_astore hx hb hd hl hn rfl (fun ls2 hl2 => h p e s m args below meth c H locs ls2 A ρ L0 ρ0 X hK hA hP hD hS (lhm_set (v := .ref x) hl2 hp) (okL_set hoL hoS.1) hoS.2 hρ hLL)
theorem r_astore_nN {j : Fin 4} {i : Nat}  (hd : decode b pc = .ok (.astore_n j, 1)) (hi : (j : Nat) = i) (hn : i < nL) (hp : ∀ a, i = a + 1 → okp (lv.getD a none) = true) (h : R l G cy y b nL rt d mc ms Q (pc + 1) (lv.set i (some (.null))) st S k n) : R l G cy y b nL rt d mc ms Q pc lv (.null :: st) S k n := by
  intro p e s m args below meth c H locs ls A ρ L0 ρ0 X hK hA hP hD hS hl hoL hoS hρ hLL
  obtain ⟨hx, hb, hr, hml, hown, hts, hlk, hnm⟩ := id X
  exact lv_astore_nN hx hb hd hi hl hn rfl (fun ls2 hl2 => h p e s m args below meth c H locs ls2 A ρ L0 ρ0 X hK hA hP hD hS (lhm_set (v := .null) hl2 hp) (okL_set hoL hoS.1) hoS.2 hρ hLL)
theorem r_astoreN {i : Nat}  (hd : decode b pc = .ok (.astore i, 2)) (hn : i < nL) (hp : ∀ a, i = a + 1 → okp (lv.getD a none) = true) (h : R l G cy y b nL rt d mc ms Q (pc + 2) (lv.set i (some (.null))) st S k n) : R l G cy y b nL rt d mc ms Q pc lv (.null :: st) S k n := by
  intro p e s m args below meth c H locs ls A ρ L0 ρ0 X hK hA hP hD hS hl hoL hoS hρ hLL
  obtain ⟨hx, hb, hr, hml, hown, hts, hlk, hnm⟩ := id X
  exact lv_astoreN hx hb hd hl hn rfl (fun ls2 hl2 => h p e s m args below meth c H locs ls2 A ρ L0 ρ0 X hK hA hP hD hS (lhm_set (v := .null) hl2 hp) (okL_set hoL hoS.1) hoS.2 hρ hLL)
theorem r_lstore_n {j : Fin 4} {i : Nat} {x : Int64} (hd : decode b pc = .ok (.lstore_n j, 1)) (hi : (j : Nat) = i) (hn : i + 1 < nL) (hp : ∀ a, i = a + 1 → okp (lv.getD a none) = true) (h : R l G cy y b nL rt d mc ms Q (pc + 1) ((lv.set i (some (.long x))).set (i + 1) none) st S k n) : R l G cy y b nL rt d mc ms Q pc lv (.long x :: st) S k n := by
  intro p e s m args below meth c H locs ls A ρ L0 ρ0 X hK hA hP hD hS hl hoL hoS hρ hLL
  obtain ⟨hx, hb, hr, hml, hown, hts, hlk, hnm⟩ := id X
  exact lv_lstore_n hx hb hd hi hl hn rfl (fun ls2 hl2 => h p e s m args below meth c H locs ls2 A ρ L0 ρ0 X hK hA hP hD hS (lhm_setL (v := .long x) hl2 hp) (okL_setN (okL_set hoL hoS.1)) hoS.2 hρ hLL)
theorem r_lstore {i : Nat} {x : Int64} (hd : decode b pc = .ok (.lstore i, 2)) (hn : i + 1 < nL) (hp : ∀ a, i = a + 1 → okp (lv.getD a none) = true) (h : R l G cy y b nL rt d mc ms Q (pc + 2) ((lv.set i (some (.long x))).set (i + 1) none) st S k n) : R l G cy y b nL rt d mc ms Q pc lv (.long x :: st) S k n := by
  intro p e s m args below meth c H locs ls A ρ L0 ρ0 X hK hA hP hD hS hl hoL hoS hρ hLL
  obtain ⟨hx, hb, hr, hml, hown, hts, hlk, hnm⟩ := id X
  exact lv_lstore hx hb hd hl hn rfl (fun ls2 hl2 => h p e s m args below meth c H locs ls2 A ρ L0 ρ0 X hK hA hP hD hS (lhm_setL (v := .long x) hl2 hp) (okL_setN (okL_set hoL hoS.1)) hoS.2 hρ hLL)
theorem r_iinc {i : Nat} {z : Int} {x v : Int32} (hd : decode b pc = .ok (.iinc i z, 3)) (hv : lv[i]? = some (some (.int x))) (hz : x + Int32.ofInt z = v) (hn : i < nL) (hp : ∀ a, i = a + 1 → okp (lv.getD a none) = true) (h : R l G cy y b nL rt d mc ms Q (pc + 3) (lv.set i (some (.int v))) st S k n) : R l G cy y b nL rt d mc ms Q pc lv st S k n := by
  intro p e s m args below meth c H locs ls A ρ L0 ρ0 X hK hA hP hD hS hl hoL hoS hρ hLL
  obtain ⟨hx, hb, hr, hml, hown, hts, hlk, hnm⟩ := id X
  have hm := la_mem (lv.map (Option.map (rn ρ))) 0 i (.int x) (by rw [List.getElem?_map, hv]; rfl)
  rw [Nat.zero_add] at hm
  obtain ⟨w, hw⟩ := List.getElem?_of_mem hm
  exact lv_iinc hx hb hd hl hw hz hn rfl (fun ls2 hl2 => h p e s m args below meth c H locs ls2 A ρ L0 ρ0 X hK hA hP hD hS (lhm_set (v := .int v) hl2 hp) (okL_set hoL trivial) hoS hρ hLL)
theorem r_iadd {x z : Int32} (hd : decode b pc = .ok (.iadd, 1)) (h : R l G cy y b nL rt d mc ms Q (pc + 1) lv (.int (x + z) :: st) S k n) : R l G cy y b nL rt d mc ms Q pc lv (.int z :: .int x :: st) S k n := by
  intro p e s m args below meth c H locs ls A ρ L0 ρ0 X hK hA hP hD hS hl hoL hoS hρ hLL
  obtain ⟨hx, hb, hr, hml, hown, hts, hlk, hnm⟩ := id X
  exact lv_iadd hx hb hd (h p e s m args below meth c H locs ls A ρ L0 ρ0 X hK hA hP hD hS hl hoL ⟨trivial, hoS.2.2⟩ hρ hLL)
theorem r_isub {x z : Int32} (hd : decode b pc = .ok (.isub, 1)) (h : R l G cy y b nL rt d mc ms Q (pc + 1) lv (.int (x - z) :: st) S k n) : R l G cy y b nL rt d mc ms Q pc lv (.int z :: .int x :: st) S k n := by
  intro p e s m args below meth c H locs ls A ρ L0 ρ0 X hK hA hP hD hS hl hoL hoS hρ hLL
  obtain ⟨hx, hb, hr, hml, hown, hts, hlk, hnm⟩ := id X
  exact lv_isub hx hb hd (h p e s m args below meth c H locs ls A ρ L0 ρ0 X hK hA hP hD hS hl hoL ⟨trivial, hoS.2.2⟩ hρ hLL)
theorem r_imul {x z : Int32} (hd : decode b pc = .ok (.imul, 1)) (h : R l G cy y b nL rt d mc ms Q (pc + 1) lv (.int (x * z) :: st) S k n) : R l G cy y b nL rt d mc ms Q pc lv (.int z :: .int x :: st) S k n := by
  intro p e s m args below meth c H locs ls A ρ L0 ρ0 X hK hA hP hD hS hl hoL hoS hρ hLL
  obtain ⟨hx, hb, hr, hml, hown, hts, hlk, hnm⟩ := id X
  exact lv_imul hx hb hd (h p e s m args below meth c H locs ls A ρ L0 ρ0 X hK hA hP hD hS hl hoL ⟨trivial, hoS.2.2⟩ hρ hLL)
theorem r_iand {x z : Int32} (hd : decode b pc = .ok (.iand, 1)) (h : R l G cy y b nL rt d mc ms Q (pc + 1) lv (.int (x &&& z) :: st) S k n) : R l G cy y b nL rt d mc ms Q pc lv (.int z :: .int x :: st) S k n := by
  intro p e s m args below meth c H locs ls A ρ L0 ρ0 X hK hA hP hD hS hl hoL hoS hρ hLL
  obtain ⟨hx, hb, hr, hml, hown, hts, hlk, hnm⟩ := id X
  exact lv_iand hx hb hd (h p e s m args below meth c H locs ls A ρ L0 ρ0 X hK hA hP hD hS hl hoL ⟨trivial, hoS.2.2⟩ hρ hLL)
theorem r_ior {x z : Int32} (hd : decode b pc = .ok (.ior, 1)) (h : R l G cy y b nL rt d mc ms Q (pc + 1) lv (.int (x ||| z) :: st) S k n) : R l G cy y b nL rt d mc ms Q pc lv (.int z :: .int x :: st) S k n := by
  intro p e s m args below meth c H locs ls A ρ L0 ρ0 X hK hA hP hD hS hl hoL hoS hρ hLL
  obtain ⟨hx, hb, hr, hml, hown, hts, hlk, hnm⟩ := id X
  exact lv_ior hx hb hd (h p e s m args below meth c H locs ls A ρ L0 ρ0 X hK hA hP hD hS hl hoL ⟨trivial, hoS.2.2⟩ hρ hLL)
theorem r_ixor {x z : Int32} (hd : decode b pc = .ok (.ixor, 1)) (h : R l G cy y b nL rt d mc ms Q (pc + 1) lv (.int (x ^^^ z) :: st) S k n) : R l G cy y b nL rt d mc ms Q pc lv (.int z :: .int x :: st) S k n := by
  intro p e s m args below meth c H locs ls A ρ L0 ρ0 X hK hA hP hD hS hl hoL hoS hρ hLL
  obtain ⟨hx, hb, hr, hml, hown, hts, hlk, hnm⟩ := id X
  exact lv_ixor hx hb hd (h p e s m args below meth c H locs ls A ρ L0 ρ0 X hK hA hP hD hS hl hoL ⟨trivial, hoS.2.2⟩ hρ hLL)
theorem r_ishl {x z : Int32} (hd : decode b pc = .ok (.ishl, 1)) (h : R l G cy y b nL rt d mc ms Q (pc + 1) lv (.int (x <<< (z &&& 31)) :: st) S k n) : R l G cy y b nL rt d mc ms Q pc lv (.int z :: .int x :: st) S k n := by
  intro p e s m args below meth c H locs ls A ρ L0 ρ0 X hK hA hP hD hS hl hoL hoS hρ hLL
  obtain ⟨hx, hb, hr, hml, hown, hts, hlk, hnm⟩ := id X
  exact lv_ishl hx hb hd (h p e s m args below meth c H locs ls A ρ L0 ρ0 X hK hA hP hD hS hl hoL ⟨trivial, hoS.2.2⟩ hρ hLL)
theorem r_ishr {x z : Int32} (hd : decode b pc = .ok (.ishr, 1)) (h : R l G cy y b nL rt d mc ms Q (pc + 1) lv (.int (x >>> (z &&& 31)) :: st) S k n) : R l G cy y b nL rt d mc ms Q pc lv (.int z :: .int x :: st) S k n := by
  intro p e s m args below meth c H locs ls A ρ L0 ρ0 X hK hA hP hD hS hl hoL hoS hρ hLL
  obtain ⟨hx, hb, hr, hml, hown, hts, hlk, hnm⟩ := id X
  exact lv_ishr hx hb hd (h p e s m args below meth c H locs ls A ρ L0 ρ0 X hK hA hP hD hS hl hoL ⟨trivial, hoS.2.2⟩ hρ hLL)
theorem r_idiv {x z : Int32} (hd : decode b pc = .ok (.idiv, 1)) (hne : ¬ z = 0) (h : R l G cy y b nL rt d mc ms Q (pc + 1) lv (.int (x / z) :: st) S k n) : R l G cy y b nL rt d mc ms Q pc lv (.int z :: .int x :: st) S k n := by
  intro p e s m args below meth c H locs ls A ρ L0 ρ0 X hK hA hP hD hS hl hoL hoS hρ hLL
  obtain ⟨hx, hb, hr, hml, hown, hts, hlk, hnm⟩ := id X
  exact lv_idiv hx hb hd hne (h p e s m args below meth c H locs ls A ρ L0 ρ0 X hK hA hP hD hS hl hoL ⟨trivial, hoS.2.2⟩ hρ hLL)
theorem r_irem {x z : Int32} (hd : decode b pc = .ok (.irem, 1)) (hne : ¬ z = 0) (h : R l G cy y b nL rt d mc ms Q (pc + 1) lv (.int (x - x / z * z) :: st) S k n) : R l G cy y b nL rt d mc ms Q pc lv (.int z :: .int x :: st) S k n := by
  intro p e s m args below meth c H locs ls A ρ L0 ρ0 X hK hA hP hD hS hl hoL hoS hρ hLL
  obtain ⟨hx, hb, hr, hml, hown, hts, hlk, hnm⟩ := id X
  exact lv_irem hx hb hd hne (h p e s m args below meth c H locs ls A ρ L0 ρ0 X hK hA hP hD hS hl hoL ⟨trivial, hoS.2.2⟩ hρ hLL)
theorem r_iushr {x z : Int32} (hd : decode b pc = .ok (.iushr, 1)) (h : R l G cy y b nL rt d mc ms Q (pc + 1) lv (.int (x.toUInt32 >>> (z.toUInt32 &&& Int32.toUInt32 31)).toInt32 :: st) S k n) : R l G cy y b nL rt d mc ms Q pc lv (.int z :: .int x :: st) S k n := by
  intro p e s m args below meth c H locs ls A ρ L0 ρ0 X hK hA hP hD hS hl hoL hoS hρ hLL
  obtain ⟨hx, hb, hr, hml, hown, hts, hlk, hnm⟩ := id X
  exact lv_iushr hx hb hd rfl (h p e s m args below meth c H locs ls A ρ L0 ρ0 X hK hA hP hD hS hl hoL ⟨trivial, hoS.2.2⟩ hρ hLL)
theorem r_ladd {x z : Int64} (hd : decode b pc = .ok (.ladd, 1)) (h : R l G cy y b nL rt d mc ms Q (pc + 1) lv (.long (x + z) :: st) S k n) : R l G cy y b nL rt d mc ms Q pc lv (.long z :: .long x :: st) S k n := by
  intro p e s m args below meth c H locs ls A ρ L0 ρ0 X hK hA hP hD hS hl hoL hoS hρ hLL
  obtain ⟨hx, hb, hr, hml, hown, hts, hlk, hnm⟩ := id X
  exact lv_ladd hx hb hd (h p e s m args below meth c H locs ls A ρ L0 ρ0 X hK hA hP hD hS hl hoL ⟨trivial, hoS.2.2⟩ hρ hLL)
theorem r_lsub {x z : Int64} (hd : decode b pc = .ok (.lsub, 1)) (h : R l G cy y b nL rt d mc ms Q (pc + 1) lv (.long (x - z) :: st) S k n) : R l G cy y b nL rt d mc ms Q pc lv (.long z :: .long x :: st) S k n := by
  intro p e s m args below meth c H locs ls A ρ L0 ρ0 X hK hA hP hD hS hl hoL hoS hρ hLL
  obtain ⟨hx, hb, hr, hml, hown, hts, hlk, hnm⟩ := id X
  exact lv_lsub hx hb hd (h p e s m args below meth c H locs ls A ρ L0 ρ0 X hK hA hP hD hS hl hoL ⟨trivial, hoS.2.2⟩ hρ hLL)
theorem r_lmul {x z : Int64} (hd : decode b pc = .ok (.lmul, 1)) (h : R l G cy y b nL rt d mc ms Q (pc + 1) lv (.long (x * z) :: st) S k n) : R l G cy y b nL rt d mc ms Q pc lv (.long z :: .long x :: st) S k n := by
  intro p e s m args below meth c H locs ls A ρ L0 ρ0 X hK hA hP hD hS hl hoL hoS hρ hLL
  obtain ⟨hx, hb, hr, hml, hown, hts, hlk, hnm⟩ := id X
  exact lv_lmul hx hb hd (h p e s m args below meth c H locs ls A ρ L0 ρ0 X hK hA hP hD hS hl hoL ⟨trivial, hoS.2.2⟩ hρ hLL)
theorem r_ldiv {x z : Int64} (hd : decode b pc = .ok (.ldiv, 1)) (hne : ¬ z = 0) (h : R l G cy y b nL rt d mc ms Q (pc + 1) lv (.long (x / z) :: st) S k n) : R l G cy y b nL rt d mc ms Q pc lv (.long z :: .long x :: st) S k n := by
  intro p e s m args below meth c H locs ls A ρ L0 ρ0 X hK hA hP hD hS hl hoL hoS hρ hLL
  obtain ⟨hx, hb, hr, hml, hown, hts, hlk, hnm⟩ := id X
  exact lv_ldiv hx hb hd hne (h p e s m args below meth c H locs ls A ρ L0 ρ0 X hK hA hP hD hS hl hoL ⟨trivial, hoS.2.2⟩ hρ hLL)
theorem r_lrem {x z : Int64} (hd : decode b pc = .ok (.lrem, 1)) (hne : ¬ z = 0) (h : R l G cy y b nL rt d mc ms Q (pc + 1) lv (.long (x - x / z * z) :: st) S k n) : R l G cy y b nL rt d mc ms Q pc lv (.long z :: .long x :: st) S k n := by
  intro p e s m args below meth c H locs ls A ρ L0 ρ0 X hK hA hP hD hS hl hoL hoS hρ hLL
  obtain ⟨hx, hb, hr, hml, hown, hts, hlk, hnm⟩ := id X
  exact lv_lrem hx hb hd hne (h p e s m args below meth c H locs ls A ρ L0 ρ0 X hK hA hP hD hS hl hoL ⟨trivial, hoS.2.2⟩ hρ hLL)
theorem r_lcmp {x z : Int64} (hd : decode b pc = .ok (.lcmp, 1)) (h : R l G cy y b nL rt d mc ms Q (pc + 1) lv (.int (lg_cmp x z) :: st) S k n) : R l G cy y b nL rt d mc ms Q pc lv (.long z :: .long x :: st) S k n := by
  intro p e s m args below meth c H locs ls A ρ L0 ρ0 X hK hA hP hD hS hl hoL hoS hρ hLL
  obtain ⟨hx, hb, hr, hml, hown, hts, hlk, hnm⟩ := id X
  exact W.lcmp hx hb hd (h p e s m args below meth c H locs ls A ρ L0 ρ0 X hK hA hP hD hS hl hoL ⟨trivial, hoS.2.2⟩ hρ hLL)
theorem r_i2l {x : Int32} (hd : decode b pc = .ok (.i2l, 1)) (h : R l G cy y b nL rt d mc ms Q (pc + 1) lv (.long x.toInt64 :: st) S k n) : R l G cy y b nL rt d mc ms Q pc lv (.int x :: st) S k n := by
  intro p e s m args below meth c H locs ls A ρ L0 ρ0 X hK hA hP hD hS hl hoL hoS hρ hLL
  obtain ⟨hx, hb, hr, hml, hown, hts, hlk, hnm⟩ := id X
  exact lv_i2l hx hb hd rfl (h p e s m args below meth c H locs ls A ρ L0 ρ0 X hK hA hP hD hS hl hoL ⟨trivial, hoS.2⟩ hρ hLL)
theorem r_l2i {x : Int64} (hd : decode b pc = .ok (.l2i, 1)) (h : R l G cy y b nL rt d mc ms Q (pc + 1) lv (.int x.toInt32 :: st) S k n) : R l G cy y b nL rt d mc ms Q pc lv (.long x :: st) S k n := by
  intro p e s m args below meth c H locs ls A ρ L0 ρ0 X hK hA hP hD hS hl hoL hoS hρ hLL
  obtain ⟨hx, hb, hr, hml, hown, hts, hlk, hnm⟩ := id X
  exact lv_l2i hx hb hd rfl (h p e s m args below meth c H locs ls A ρ L0 ρ0 X hK hA hP hD hS hl hoL ⟨trivial, hoS.2⟩ hρ hLL)
theorem r_dup {a1 : Value} (hd : decode b pc = .ok (.dup, 1)) (hc : a1.category = 1) (h : R l G cy y b nL rt d mc ms Q (pc + 1) lv (a1 :: a1 :: st) S k n) : R l G cy y b nL rt d mc ms Q pc lv (a1 :: st) S k n := by
  intro p e s m args below meth c H locs ls A ρ L0 ρ0 X hK hA hP hD hS hl hoL hoS hρ hLL
  obtain ⟨hx, hb, hr, hml, hown, hts, hlk, hnm⟩ := id X
  exact lv_dup hx hb hd ((rn_cat ρ a1).trans hc) (h p e s m args below meth c H locs ls A ρ L0 ρ0 X hK hA hP hD hS hl hoL ⟨hoS.1, hoS⟩ hρ hLL)
theorem r_pop {a1 : Value} (hd : decode b pc = .ok (.pop, 1)) (hc : a1.category = 1) (h : R l G cy y b nL rt d mc ms Q (pc + 1) lv st S k n) : R l G cy y b nL rt d mc ms Q pc lv (a1 :: st) S k n := by
  intro p e s m args below meth c H locs ls A ρ L0 ρ0 X hK hA hP hD hS hl hoL hoS hρ hLL
  obtain ⟨hx, hb, hr, hml, hown, hts, hlk, hnm⟩ := id X
  exact lv_pop hx hb hd ((rn_cat ρ a1).trans hc) (h p e s m args below meth c H locs ls A ρ L0 ρ0 X hK hA hP hD hS hl hoL hoS.2 hρ hLL)
theorem r_dup2 {a1 a2 : Value} (hd : decode b pc = .ok (.dup2, 1)) (hc : a1.category = 1) (hc2 : a2.category = 1) (h : R l G cy y b nL rt d mc ms Q (pc + 1) lv (a1 :: a2 :: a1 :: a2 :: st) S k n) : R l G cy y b nL rt d mc ms Q pc lv (a1 :: a2 :: st) S k n := by
  intro p e s m args below meth c H locs ls A ρ L0 ρ0 X hK hA hP hD hS hl hoL hoS hρ hLL
  obtain ⟨hx, hb, hr, hml, hown, hts, hlk, hnm⟩ := id X
  exact lv_dup2_11 hx hb hd ((rn_cat ρ a1).trans hc) ((rn_cat ρ a2).trans hc2) (h p e s m args below meth c H locs ls A ρ L0 ρ0 X hK hA hP hD hS hl hoL ⟨hoS.1, hoS.2.1, hoS⟩ hρ hLL)
theorem r_dup_x1 {a1 a2 : Value} (hd : decode b pc = .ok (.dup_x1, 1)) (hc : a1.category = 1) (hc2 : a2.category = 1) (h : R l G cy y b nL rt d mc ms Q (pc + 1) lv (a1 :: a2 :: a1 :: st) S k n) : R l G cy y b nL rt d mc ms Q pc lv (a1 :: a2 :: st) S k n := by
  intro p e s m args below meth c H locs ls A ρ L0 ρ0 X hK hA hP hD hS hl hoL hoS hρ hLL
  obtain ⟨hx, hb, hr, hml, hown, hts, hlk, hnm⟩ := id X
  exact lv_dup_x1 hx hb hd ((rn_cat ρ a1).trans hc) ((rn_cat ρ a2).trans hc2) (h p e s m args below meth c H locs ls A ρ L0 ρ0 X hK hA hP hD hS hl hoL ⟨hoS.1, hoS.2.1, hoS.1, hoS.2.2⟩ hρ hLL)
theorem r_if_eq {x : Int32} {off : Int} (t : Nat) (hd : decode b pc = .ok (.ifCond .eq off, 3)) (ht : (pc : Int) + off = (t : Int)) (h1 : x = 0 → R l G cy y b nL rt d mc ms Q t lv st S k n) (h2 : ¬ x = 0 → R l G cy y b nL rt d mc ms Q (pc + 3) lv st S k n) : R l G cy y b nL rt d mc ms Q pc lv (.int x :: st) S k n := by
  intro p e s m args below meth c H locs ls A ρ L0 ρ0 X hK hA hP hD hS hl hoL hoS hρ hLL
  obtain ⟨hx, hb, hr, hml, hown, hts, hlk, hnm⟩ := id X
  exact lv_if_eq hx hb hd ht (fun q => h1 q p e s m args below meth c H locs ls A ρ L0 ρ0 X hK hA hP hD hS hl hoL hoS.2 hρ hLL) (fun q => h2 q p e s m args below meth c H locs ls A ρ L0 ρ0 X hK hA hP hD hS hl hoL hoS.2 hρ hLL)
theorem r_icmp_eq {x z : Int32} {off : Int} (t : Nat) (hd : decode b pc = .ok (.if_icmp .eq off, 3)) (ht : (pc : Int) + off = (t : Int)) (h1 : x = z → R l G cy y b nL rt d mc ms Q t lv st S k n) (h2 : ¬ x = z → R l G cy y b nL rt d mc ms Q (pc + 3) lv st S k n) : R l G cy y b nL rt d mc ms Q pc lv (.int z :: .int x :: st) S k n := by
  intro p e s m args below meth c H locs ls A ρ L0 ρ0 X hK hA hP hD hS hl hoL hoS hρ hLL
  obtain ⟨hx, hb, hr, hml, hown, hts, hlk, hnm⟩ := id X
  exact lv_icmp_eq hx hb hd ht (fun q => h1 q p e s m args below meth c H locs ls A ρ L0 ρ0 X hK hA hP hD hS hl hoL hoS.2.2 hρ hLL) (fun q => h2 q p e s m args below meth c H locs ls A ρ L0 ρ0 X hK hA hP hD hS hl hoL hoS.2.2 hρ hLL)
theorem r_if_ne {x : Int32} {off : Int} (t : Nat) (hd : decode b pc = .ok (.ifCond .ne off, 3)) (ht : (pc : Int) + off = (t : Int)) (h1 : ¬ x = 0 → R l G cy y b nL rt d mc ms Q t lv st S k n) (h2 : x = 0 → R l G cy y b nL rt d mc ms Q (pc + 3) lv st S k n) : R l G cy y b nL rt d mc ms Q pc lv (.int x :: st) S k n := by
  intro p e s m args below meth c H locs ls A ρ L0 ρ0 X hK hA hP hD hS hl hoL hoS hρ hLL
  obtain ⟨hx, hb, hr, hml, hown, hts, hlk, hnm⟩ := id X
  exact lv_if_ne hx hb hd ht (fun q => h1 q p e s m args below meth c H locs ls A ρ L0 ρ0 X hK hA hP hD hS hl hoL hoS.2 hρ hLL) (fun q => h2 q p e s m args below meth c H locs ls A ρ L0 ρ0 X hK hA hP hD hS hl hoL hoS.2 hρ hLL)
theorem r_icmp_ne {x z : Int32} {off : Int} (t : Nat) (hd : decode b pc = .ok (.if_icmp .ne off, 3)) (ht : (pc : Int) + off = (t : Int)) (h1 : ¬ x = z → R l G cy y b nL rt d mc ms Q t lv st S k n) (h2 : x = z → R l G cy y b nL rt d mc ms Q (pc + 3) lv st S k n) : R l G cy y b nL rt d mc ms Q pc lv (.int z :: .int x :: st) S k n := by
  intro p e s m args below meth c H locs ls A ρ L0 ρ0 X hK hA hP hD hS hl hoL hoS hρ hLL
  obtain ⟨hx, hb, hr, hml, hown, hts, hlk, hnm⟩ := id X
  exact lv_icmp_ne hx hb hd ht (fun q => h1 q p e s m args below meth c H locs ls A ρ L0 ρ0 X hK hA hP hD hS hl hoL hoS.2.2 hρ hLL) (fun q => h2 q p e s m args below meth c H locs ls A ρ L0 ρ0 X hK hA hP hD hS hl hoL hoS.2.2 hρ hLL)
theorem r_if_lt {x : Int32} {off : Int} (t : Nat) (hd : decode b pc = .ok (.ifCond .lt off, 3)) (ht : (pc : Int) + off = (t : Int)) (h1 : x < 0 → R l G cy y b nL rt d mc ms Q t lv st S k n) (h2 : ¬ x < 0 → R l G cy y b nL rt d mc ms Q (pc + 3) lv st S k n) : R l G cy y b nL rt d mc ms Q pc lv (.int x :: st) S k n := by
  intro p e s m args below meth c H locs ls A ρ L0 ρ0 X hK hA hP hD hS hl hoL hoS hρ hLL
  obtain ⟨hx, hb, hr, hml, hown, hts, hlk, hnm⟩ := id X
  exact lv_if_lt hx hb hd ht (fun q => h1 q p e s m args below meth c H locs ls A ρ L0 ρ0 X hK hA hP hD hS hl hoL hoS.2 hρ hLL) (fun q => h2 q p e s m args below meth c H locs ls A ρ L0 ρ0 X hK hA hP hD hS hl hoL hoS.2 hρ hLL)
theorem r_icmp_lt {x z : Int32} {off : Int} (t : Nat) (hd : decode b pc = .ok (.if_icmp .lt off, 3)) (ht : (pc : Int) + off = (t : Int)) (h1 : x < z → R l G cy y b nL rt d mc ms Q t lv st S k n) (h2 : ¬ x < z → R l G cy y b nL rt d mc ms Q (pc + 3) lv st S k n) : R l G cy y b nL rt d mc ms Q pc lv (.int z :: .int x :: st) S k n := by
  intro p e s m args below meth c H locs ls A ρ L0 ρ0 X hK hA hP hD hS hl hoL hoS hρ hLL
  obtain ⟨hx, hb, hr, hml, hown, hts, hlk, hnm⟩ := id X
  exact lv_icmp_lt hx hb hd ht (fun q => h1 q p e s m args below meth c H locs ls A ρ L0 ρ0 X hK hA hP hD hS hl hoL hoS.2.2 hρ hLL) (fun q => h2 q p e s m args below meth c H locs ls A ρ L0 ρ0 X hK hA hP hD hS hl hoL hoS.2.2 hρ hLL)
theorem r_if_ge {x : Int32} {off : Int} (t : Nat) (hd : decode b pc = .ok (.ifCond .ge off, 3)) (ht : (pc : Int) + off = (t : Int)) (h1 : 0 ≤ x → R l G cy y b nL rt d mc ms Q t lv st S k n) (h2 : ¬ 0 ≤ x → R l G cy y b nL rt d mc ms Q (pc + 3) lv st S k n) : R l G cy y b nL rt d mc ms Q pc lv (.int x :: st) S k n := by
  intro p e s m args below meth c H locs ls A ρ L0 ρ0 X hK hA hP hD hS hl hoL hoS hρ hLL
  obtain ⟨hx, hb, hr, hml, hown, hts, hlk, hnm⟩ := id X
  exact lv_if_ge hx hb hd ht (fun q => h1 q p e s m args below meth c H locs ls A ρ L0 ρ0 X hK hA hP hD hS hl hoL hoS.2 hρ hLL) (fun q => h2 q p e s m args below meth c H locs ls A ρ L0 ρ0 X hK hA hP hD hS hl hoL hoS.2 hρ hLL)
theorem r_icmp_ge {x z : Int32} {off : Int} (t : Nat) (hd : decode b pc = .ok (.if_icmp .ge off, 3)) (ht : (pc : Int) + off = (t : Int)) (h1 : z ≤ x → R l G cy y b nL rt d mc ms Q t lv st S k n) (h2 : ¬ z ≤ x → R l G cy y b nL rt d mc ms Q (pc + 3) lv st S k n) : R l G cy y b nL rt d mc ms Q pc lv (.int z :: .int x :: st) S k n := by
  intro p e s m args below meth c H locs ls A ρ L0 ρ0 X hK hA hP hD hS hl hoL hoS hρ hLL
  obtain ⟨hx, hb, hr, hml, hown, hts, hlk, hnm⟩ := id X
  exact lv_icmp_ge hx hb hd ht (fun q => h1 q p e s m args below meth c H locs ls A ρ L0 ρ0 X hK hA hP hD hS hl hoL hoS.2.2 hρ hLL) (fun q => h2 q p e s m args below meth c H locs ls A ρ L0 ρ0 X hK hA hP hD hS hl hoL hoS.2.2 hρ hLL)
theorem r_if_gt {x : Int32} {off : Int} (t : Nat) (hd : decode b pc = .ok (.ifCond .gt off, 3)) (ht : (pc : Int) + off = (t : Int)) (h1 : 0 < x → R l G cy y b nL rt d mc ms Q t lv st S k n) (h2 : ¬ 0 < x → R l G cy y b nL rt d mc ms Q (pc + 3) lv st S k n) : R l G cy y b nL rt d mc ms Q pc lv (.int x :: st) S k n := by
  intro p e s m args below meth c H locs ls A ρ L0 ρ0 X hK hA hP hD hS hl hoL hoS hρ hLL
  obtain ⟨hx, hb, hr, hml, hown, hts, hlk, hnm⟩ := id X
  exact lv_if_gt hx hb hd ht (fun q => h1 q p e s m args below meth c H locs ls A ρ L0 ρ0 X hK hA hP hD hS hl hoL hoS.2 hρ hLL) (fun q => h2 q p e s m args below meth c H locs ls A ρ L0 ρ0 X hK hA hP hD hS hl hoL hoS.2 hρ hLL)
theorem r_icmp_gt {x z : Int32} {off : Int} (t : Nat) (hd : decode b pc = .ok (.if_icmp .gt off, 3)) (ht : (pc : Int) + off = (t : Int)) (h1 : z < x → R l G cy y b nL rt d mc ms Q t lv st S k n) (h2 : ¬ z < x → R l G cy y b nL rt d mc ms Q (pc + 3) lv st S k n) : R l G cy y b nL rt d mc ms Q pc lv (.int z :: .int x :: st) S k n := by
  intro p e s m args below meth c H locs ls A ρ L0 ρ0 X hK hA hP hD hS hl hoL hoS hρ hLL
  obtain ⟨hx, hb, hr, hml, hown, hts, hlk, hnm⟩ := id X
  exact lv_icmp_gt hx hb hd ht (fun q => h1 q p e s m args below meth c H locs ls A ρ L0 ρ0 X hK hA hP hD hS hl hoL hoS.2.2 hρ hLL) (fun q => h2 q p e s m args below meth c H locs ls A ρ L0 ρ0 X hK hA hP hD hS hl hoL hoS.2.2 hρ hLL)
theorem r_if_le {x : Int32} {off : Int} (t : Nat) (hd : decode b pc = .ok (.ifCond .le off, 3)) (ht : (pc : Int) + off = (t : Int)) (h1 : x ≤ 0 → R l G cy y b nL rt d mc ms Q t lv st S k n) (h2 : ¬ x ≤ 0 → R l G cy y b nL rt d mc ms Q (pc + 3) lv st S k n) : R l G cy y b nL rt d mc ms Q pc lv (.int x :: st) S k n := by
  intro p e s m args below meth c H locs ls A ρ L0 ρ0 X hK hA hP hD hS hl hoL hoS hρ hLL
  obtain ⟨hx, hb, hr, hml, hown, hts, hlk, hnm⟩ := id X
  exact lv_if_le hx hb hd ht (fun q => h1 q p e s m args below meth c H locs ls A ρ L0 ρ0 X hK hA hP hD hS hl hoL hoS.2 hρ hLL) (fun q => h2 q p e s m args below meth c H locs ls A ρ L0 ρ0 X hK hA hP hD hS hl hoL hoS.2 hρ hLL)
theorem r_icmp_le {x z : Int32} {off : Int} (t : Nat) (hd : decode b pc = .ok (.if_icmp .le off, 3)) (ht : (pc : Int) + off = (t : Int)) (h1 : x ≤ z → R l G cy y b nL rt d mc ms Q t lv st S k n) (h2 : ¬ x ≤ z → R l G cy y b nL rt d mc ms Q (pc + 3) lv st S k n) : R l G cy y b nL rt d mc ms Q pc lv (.int z :: .int x :: st) S k n := by
  intro p e s m args below meth c H locs ls A ρ L0 ρ0 X hK hA hP hD hS hl hoL hoS hρ hLL
  obtain ⟨hx, hb, hr, hml, hown, hts, hlk, hnm⟩ := id X
  exact lv_icmp_le hx hb hd ht (fun q => h1 q p e s m args below meth c H locs ls A ρ L0 ρ0 X hK hA hP hD hS hl hoL hoS.2.2 hρ hLL) (fun q => h2 q p e s m args below meth c H locs ls A ρ L0 ρ0 X hK hA hP hD hS hl hoL hoS.2.2 hρ hLL)
theorem r_goto {off : Int} (t : Nat) (hd : decode b pc = .ok (.goto off, 3)) (ht : (pc : Int) + off = (t : Int)) (h : R l G cy y b nL rt d mc ms Q t lv st S k n) : R l G cy y b nL rt d mc ms Q pc lv st S k n := by
  intro p e s m args below meth c H locs ls A ρ L0 ρ0 X hK hA hP hD hS hl hoL hoS hρ hLL
  obtain ⟨hx, hb, hr, hml, hown, hts, hlk, hnm⟩ := id X
  exact lv_goto hx hb hd ht (h p e s m args below meth c H locs ls A ρ L0 ρ0 X hK hA hP hD hS hl hoL hoS hρ hLL)
theorem r_ifnull {x : Nat} {off : Int} (hd : decode b pc = .ok (.ifnull off, 3)) (h : R l G cy y b nL rt d mc ms Q (pc + 3) lv st S k n) : R l G cy y b nL rt d mc ms Q pc lv (.ref x :: st) S k n := by
  intro p e s m args below meth c H locs ls A ρ L0 ρ0 X hK hA hP hD hS hl hoL hoS hρ hLL
  obtain ⟨hx, hb, hr, hml, hown, hts, hlk, hnm⟩ := id X
  exact lv_ifnull hx hb hd (h p e s m args below meth c H locs ls A ρ L0 ρ0 X hK hA hP hD hS hl hoL hoS.2 hρ hLL)
theorem r_ifnullN {off : Int} (t : Nat) (hd : decode b pc = .ok (.ifnull off, 3)) (ht : (pc : Int) + off = (t : Int)) (h : R l G cy y b nL rt d mc ms Q t lv st S k n) : R l G cy y b nL rt d mc ms Q pc lv (.null :: st) S k n := by
  intro p e s m args below meth c H locs ls A ρ L0 ρ0 X hK hA hP hD hS hl hoL hoS hρ hLL
  obtain ⟨hx, hb, hr, hml, hown, hts, hlk, hnm⟩ := id X
  exact lv_ifnullN hx hb hd ht (h p e s m args below meth c H locs ls A ρ L0 ρ0 X hK hA hP hD hS hl hoL hoS.2 hρ hLL)
theorem r_ifnonnull {x : Nat} {off : Int} (t : Nat) (hd : decode b pc = .ok (.ifnonnull off, 3)) (ht : (pc : Int) + off = (t : Int)) (h : R l G cy y b nL rt d mc ms Q t lv st S k n) : R l G cy y b nL rt d mc ms Q pc lv (.ref x :: st) S k n := by
  intro p e s m args below meth c H locs ls A ρ L0 ρ0 X hK hA hP hD hS hl hoL hoS hρ hLL
  obtain ⟨hx, hb, hr, hml, hown, hts, hlk, hnm⟩ := id X
  exact lv_ifnonnull hx hb hd ht (h p e s m args below meth c H locs ls A ρ L0 ρ0 X hK hA hP hD hS hl hoL hoS.2 hρ hLL)
theorem r_ifnonnullN {off : Int} (hd : decode b pc = .ok (.ifnonnull off, 3)) (h : R l G cy y b nL rt d mc ms Q (pc + 3) lv st S k n) : R l G cy y b nL rt d mc ms Q pc lv (.null :: st) S k n := by
  intro p e s m args below meth c H locs ls A ρ L0 ρ0 X hK hA hP hD hS hl hoL hoS hρ hLL
  obtain ⟨hx, hb, hr, hml, hown, hts, hlk, hnm⟩ := id X
  exact lv_ifnonnullN hx hb hd (h p e s m args below meth c H locs ls A ρ L0 ρ0 X hK hA hP hD hS hl hoL hoS.2 hρ hLL)
theorem r_tableOut {dflt lo hi : Int} {offs : Array Int} {len : Nat} {x : Int32} (t : Nat) (hd : decode b pc = .ok (.tableswitch dflt lo hi offs, len)) (hq : x.toInt < lo ∨ hi < x.toInt) (ht : (pc : Int) + dflt = (t : Int)) (h : R l G cy y b nL rt d mc ms Q t lv st S k n) : R l G cy y b nL rt d mc ms Q pc lv (.int x :: st) S k n := by
  intro p e s m args below meth c H locs ls A ρ L0 ρ0 X hK hA hP hD hS hl hoL hoS hρ hLL
  obtain ⟨hx, hb, hr, hml, hown, hts, hlk, hnm⟩ := id X
  exact lv_tableOut hx hb hd hq ht (h p e s m args below meth c H locs ls A ρ L0 ρ0 X hK hA hP hD hS hl hoL hoS.2 hρ hLL)
theorem r_tableIn {dflt lo hi : Int} {offs : Array Int} {len : Nat} {x : Int32} {off : Int} (t : Nat) (hd : decode b pc = .ok (.tableswitch dflt lo hi offs, len)) (q1 : ¬ x.toInt < lo) (q2 : ¬ hi < x.toInt) (ho : offs[(x.toInt - lo).toNat]? = some off) (ht : (pc : Int) + off = (t : Int)) (h : R l G cy y b nL rt d mc ms Q t lv st S k n) : R l G cy y b nL rt d mc ms Q pc lv (.int x :: st) S k n := by
  intro p e s m args below meth c H locs ls A ρ L0 ρ0 X hK hA hP hD hS hl hoL hoS hρ hLL
  obtain ⟨hx, hb, hr, hml, hown, hts, hlk, hnm⟩ := id X
  exact lv_tableIn hx hb hd q1 q2 ho ht (h p e s m args below meth c H locs ls A ρ L0 ρ0 X hK hA hP hD hS hl hoL hoS.2 hρ hLL)
theorem r_lookup {dflt : Int} {ps : Array (Int × Int)} {len : Nat} {x : Int32} {off : Int} (t : Nat) (hd : decode b pc = .ok (.lookupswitch dflt ps, len)) (hp : (ps.toList.zip (ps.toList.drop 1)).all (fun (a, next) => a.1 < next.1) = true) (ho : Op.lookupswitch.offset ps.toList dflt x.toInt = off) (ht : (pc : Int) + off = (t : Int)) (h : R l G cy y b nL rt d mc ms Q t lv st S k n) : R l G cy y b nL rt d mc ms Q pc lv (.int x :: st) S k n := by
  intro p e s m args below meth c H locs ls A ρ L0 ρ0 X hK hA hP hD hS hl hoL hoS hρ hLL
  obtain ⟨hx, hb, hr, hml, hown, hts, hlk, hnm⟩ := id X
  exact lv_lookup hx hb hd hp ho ht (h p e s m args below meth c H locs ls A ρ L0 ρ0 X hK hA hP hD hS hl hoL hoS.2 hρ hLL)
theorem r_iret {x : Int32} (hd : decode b pc = .ok (.ireturn, 1)) (hrt : rt = some .int) (hk : k ≤ mc) (hn : n ≤ ms) (hq : Q (some (.int x)) S) : R l G cy y b nL rt d mc ms Q pc lv [.int x] S k n := by
  intro p e s m args below meth c H locs ls A ρ L0 ρ0 X hK hA hP hD hS hl hoL hoS hρ hLL
  obtain ⟨hx, hb, hr, hml, hown, hts, hlk, hnm⟩ := id X
  refine W.widen hk hn ?_
  exact W.iret hx hb (hr.trans hrt) (fun t ht hW => ⟨⟨some (.int x), S, ρ, rfl, hq, hρ, hLL, (fun x hx => by cases hx; exact trivial), by rw [ht]; exact hP, hD⟩, hS.F ht⟩) hS.2.2 hd hlk
theorem r_zret {x : Int32} (hd : decode b pc = .ok (.ireturn, 1)) (hrt : rt = some .boolean) (hz : narrow .boolean (.int x) = .int x) (hk : k ≤ mc) (hn : n ≤ ms) (hq : Q (some (.int x)) S) : R l G cy y b nL rt d mc ms Q pc lv [.int x] S k n := by
  intro p e s m args below meth c H locs ls A ρ L0 ρ0 X hK hA hP hD hS hl hoL hoS hρ hLL
  obtain ⟨hx, hb, hr, hml, hown, hts, hlk, hnm⟩ := id X
  refine W.widen hk hn ?_
  exact W.zret hx hb (hr.trans hrt) hz (fun t ht hW => ⟨⟨some (.int x), S, ρ, rfl, hq, hρ, hLL, (fun x hx => by cases hx; exact trivial), by rw [ht]; exact hP, hD⟩, hS.F ht⟩) hS.2.2 hd hlk
theorem r_vret  (hd : decode b pc = .ok (.return_, 1)) (hrt : rt = none) (hk : k ≤ mc) (hn : n ≤ ms) (hq : Q none S) : R l G cy y b nL rt d mc ms Q pc lv [] S k n := by
  intro p e s m args below meth c H locs ls A ρ L0 ρ0 X hK hA hP hD hS hl hoL hoS hρ hLL
  obtain ⟨hx, hb, hr, hml, hown, hts, hlk, hnm⟩ := id X
  refine W.widen hk hn ?_
  exact W.vret hx hb (hr.trans hrt) (fun t ht hW => ⟨⟨none, S, ρ, rfl, hq, hρ, hLL, (fun x hx => by cases hx), by rw [ht]; exact hP, hD⟩, hS.F ht⟩) hS.2.2 hd hlk
theorem r_aret {C : String} {r : Option Nat} (hd : decode b pc = .ok (.areturn, 1)) (hrt : rt = some (.object C)) (hk : k ≤ mc) (hn : n ≤ ms) (hq : Q (some (va_rf r)) S) : R l G cy y b nL rt d mc ms Q pc lv [va_rf r] S k n := by
  intro p e s m args below meth c H locs ls A ρ L0 ρ0 X hK hA hP hD hS hl hoL hoS hρ hLL
  obtain ⟨hx, hb, hr, hml, hown, hts, hlk, hnm⟩ := id X
  refine W.widen hk hn ?_
  rw [show [va_rf r].map (rn ρ) = [va_rf (r.map ρ)] by rw [← rn_rf]; rfl]
  exact W.aret hx hb (hr.trans hrt) (Or.inl ⟨C, rfl⟩) (va_rf_or _) (fun t ht hW => ⟨⟨some (va_rf r), S, ρ, by rw [← rn_rf]; rfl, hq, hρ, hLL, fun x hx => by cases hx; exact hoS.1, by rw [ht]; exact hP, hD⟩, hS.F ht⟩) hS.2.2 hd hlk
-- stores by place
theorem r_ist0 {x0 : Option Value} {r0 : List (Option Value)} {x : Int32} (hd : decode b pc = .ok (.istore_n 0, 1)) (hn : 0 < nL) (h : R l G cy y b nL rt d mc ms Q (pc + 1) (some (.int x) :: r0) st S k n) : R l G cy y b nL rt d mc ms Q pc (x0 :: r0) (.int x :: st) S k n := r_istore_n hd rfl hn (fun a ha => by cases ha) h
theorem r_ast0 {x0 : Option Value} {r0 : List (Option Value)} {x : Nat} (hd : decode b pc = .ok (.astore_n 0, 1)) (hn : 0 < nL) (h : R l G cy y b nL rt d mc ms Q (pc + 1) (some (.ref x) :: r0) st S k n) : R l G cy y b nL rt d mc ms Q pc (x0 :: r0) (.ref x :: st) S k n := r_astore_n hd rfl hn (fun a ha => by cases ha) h
theorem r_ast0N {x0 : Option Value} {r0 : List (Option Value)}  (hd : decode b pc = .ok (.astore_n 0, 1)) (hn : 0 < nL) (h : R l G cy y b nL rt d mc ms Q (pc + 1) (some (.null) :: r0) st S k n) : R l G cy y b nL rt d mc ms Q pc (x0 :: r0) (.null :: st) S k n := r_astore_nN hd rfl hn (fun a ha => by cases ha) h
theorem r_inc0 {x0 : Option Value} {r0 : List (Option Value)} {z : Int} {x v : Int32} (hd : decode b pc = .ok (.iinc 0 z, 3)) (hz : x + Int32.ofInt z = v) (hn : 0 < nL) (h : R l G cy y b nL rt d mc ms Q (pc + 3) (some (.int v) :: r0) st S k n) : R l G cy y b nL rt d mc ms Q pc (some (.int x) :: r0) st S k n := r_iinc hd rfl hz hn (fun a ha => by cases ha) h
theorem r_ist1 {a0 x0 : Option Value} {r0 : List (Option Value)} {x : Int32} (hd : decode b pc = .ok (.istore_n 1, 1)) (hn : 1 < nL) (hp : okp a0 = true) (h : R l G cy y b nL rt d mc ms Q (pc + 1) (a0 :: some (.int x) :: r0) st S k n) : R l G cy y b nL rt d mc ms Q pc (a0 :: x0 :: r0) (.int x :: st) S k n := r_istore_n hd rfl hn (fun a ha => by cases ha; exact hp) h
theorem r_ast1 {a0 x0 : Option Value} {r0 : List (Option Value)} {x : Nat} (hd : decode b pc = .ok (.astore_n 1, 1)) (hn : 1 < nL) (hp : okp a0 = true) (h : R l G cy y b nL rt d mc ms Q (pc + 1) (a0 :: some (.ref x) :: r0) st S k n) : R l G cy y b nL rt d mc ms Q pc (a0 :: x0 :: r0) (.ref x :: st) S k n := r_astore_n hd rfl hn (fun a ha => by cases ha; exact hp) h
theorem r_ast1N {a0 x0 : Option Value} {r0 : List (Option Value)}  (hd : decode b pc = .ok (.astore_n 1, 1)) (hn : 1 < nL) (hp : okp a0 = true) (h : R l G cy y b nL rt d mc ms Q (pc + 1) (a0 :: some (.null) :: r0) st S k n) : R l G cy y b nL rt d mc ms Q pc (a0 :: x0 :: r0) (.null :: st) S k n := r_astore_nN hd rfl hn (fun a ha => by cases ha; exact hp) h
theorem r_inc1 {a0 x0 : Option Value} {r0 : List (Option Value)} {z : Int} {x v : Int32} (hd : decode b pc = .ok (.iinc 1 z, 3)) (hz : x + Int32.ofInt z = v) (hn : 1 < nL) (hp : okp a0 = true) (h : R l G cy y b nL rt d mc ms Q (pc + 3) (a0 :: some (.int v) :: r0) st S k n) : R l G cy y b nL rt d mc ms Q pc (a0 :: some (.int x) :: r0) st S k n := r_iinc hd rfl hz hn (fun a ha => by cases ha; exact hp) h
theorem r_lst1 {a0 x0 x1 : Option Value} {r0 : List (Option Value)} {x : Int64} (hd : decode b pc = .ok (.lstore_n 1, 1)) (hn : 1 + 1 < nL) (hp : okp a0 = true) (h : R l G cy y b nL rt d mc ms Q (pc + 1) (a0 :: some (.long x) :: none :: r0) st S k n) : R l G cy y b nL rt d mc ms Q pc (a0 :: x0 :: x1 :: r0) (.long x :: st) S k n := r_lstore_n hd rfl hn (fun a ha => by cases ha; exact hp) h
theorem r_ist2 {a0 a1 x0 : Option Value} {r0 : List (Option Value)} {x : Int32} (hd : decode b pc = .ok (.istore_n 2, 1)) (hn : 2 < nL) (hp : okp a1 = true) (h : R l G cy y b nL rt d mc ms Q (pc + 1) (a0 :: a1 :: some (.int x) :: r0) st S k n) : R l G cy y b nL rt d mc ms Q pc (a0 :: a1 :: x0 :: r0) (.int x :: st) S k n := r_istore_n hd rfl hn (fun a ha => by cases ha; exact hp) h
theorem r_ast2 {a0 a1 x0 : Option Value} {r0 : List (Option Value)} {x : Nat} (hd : decode b pc = .ok (.astore_n 2, 1)) (hn : 2 < nL) (hp : okp a1 = true) (h : R l G cy y b nL rt d mc ms Q (pc + 1) (a0 :: a1 :: some (.ref x) :: r0) st S k n) : R l G cy y b nL rt d mc ms Q pc (a0 :: a1 :: x0 :: r0) (.ref x :: st) S k n := r_astore_n hd rfl hn (fun a ha => by cases ha; exact hp) h
theorem r_ast2N {a0 a1 x0 : Option Value} {r0 : List (Option Value)}  (hd : decode b pc = .ok (.astore_n 2, 1)) (hn : 2 < nL) (hp : okp a1 = true) (h : R l G cy y b nL rt d mc ms Q (pc + 1) (a0 :: a1 :: some (.null) :: r0) st S k n) : R l G cy y b nL rt d mc ms Q pc (a0 :: a1 :: x0 :: r0) (.null :: st) S k n := r_astore_nN hd rfl hn (fun a ha => by cases ha; exact hp) h
theorem r_inc2 {a0 a1 x0 : Option Value} {r0 : List (Option Value)} {z : Int} {x v : Int32} (hd : decode b pc = .ok (.iinc 2 z, 3)) (hz : x + Int32.ofInt z = v) (hn : 2 < nL) (hp : okp a1 = true) (h : R l G cy y b nL rt d mc ms Q (pc + 3) (a0 :: a1 :: some (.int v) :: r0) st S k n) : R l G cy y b nL rt d mc ms Q pc (a0 :: a1 :: some (.int x) :: r0) st S k n := r_iinc hd rfl hz hn (fun a ha => by cases ha; exact hp) h
theorem r_lst2 {a0 a1 x0 x1 : Option Value} {r0 : List (Option Value)} {x : Int64} (hd : decode b pc = .ok (.lstore_n 2, 1)) (hn : 2 + 1 < nL) (hp : okp a1 = true) (h : R l G cy y b nL rt d mc ms Q (pc + 1) (a0 :: a1 :: some (.long x) :: none :: r0) st S k n) : R l G cy y b nL rt d mc ms Q pc (a0 :: a1 :: x0 :: x1 :: r0) (.long x :: st) S k n := r_lstore_n hd rfl hn (fun a ha => by cases ha; exact hp) h
theorem r_ist3 {a0 a1 a2 x0 : Option Value} {r0 : List (Option Value)} {x : Int32} (hd : decode b pc = .ok (.istore_n 3, 1)) (hn : 3 < nL) (hp : okp a2 = true) (h : R l G cy y b nL rt d mc ms Q (pc + 1) (a0 :: a1 :: a2 :: some (.int x) :: r0) st S k n) : R l G cy y b nL rt d mc ms Q pc (a0 :: a1 :: a2 :: x0 :: r0) (.int x :: st) S k n := r_istore_n hd rfl hn (fun a ha => by cases ha; exact hp) h
theorem r_ast3 {a0 a1 a2 x0 : Option Value} {r0 : List (Option Value)} {x : Nat} (hd : decode b pc = .ok (.astore_n 3, 1)) (hn : 3 < nL) (hp : okp a2 = true) (h : R l G cy y b nL rt d mc ms Q (pc + 1) (a0 :: a1 :: a2 :: some (.ref x) :: r0) st S k n) : R l G cy y b nL rt d mc ms Q pc (a0 :: a1 :: a2 :: x0 :: r0) (.ref x :: st) S k n := r_astore_n hd rfl hn (fun a ha => by cases ha; exact hp) h
theorem r_ast3N {a0 a1 a2 x0 : Option Value} {r0 : List (Option Value)}  (hd : decode b pc = .ok (.astore_n 3, 1)) (hn : 3 < nL) (hp : okp a2 = true) (h : R l G cy y b nL rt d mc ms Q (pc + 1) (a0 :: a1 :: a2 :: some (.null) :: r0) st S k n) : R l G cy y b nL rt d mc ms Q pc (a0 :: a1 :: a2 :: x0 :: r0) (.null :: st) S k n := r_astore_nN hd rfl hn (fun a ha => by cases ha; exact hp) h
theorem r_inc3 {a0 a1 a2 x0 : Option Value} {r0 : List (Option Value)} {z : Int} {x v : Int32} (hd : decode b pc = .ok (.iinc 3 z, 3)) (hz : x + Int32.ofInt z = v) (hn : 3 < nL) (hp : okp a2 = true) (h : R l G cy y b nL rt d mc ms Q (pc + 3) (a0 :: a1 :: a2 :: some (.int v) :: r0) st S k n) : R l G cy y b nL rt d mc ms Q pc (a0 :: a1 :: a2 :: some (.int x) :: r0) st S k n := r_iinc hd rfl hz hn (fun a ha => by cases ha; exact hp) h
theorem r_lst3 {a0 a1 a2 x0 x1 : Option Value} {r0 : List (Option Value)} {x : Int64} (hd : decode b pc = .ok (.lstore_n 3, 1)) (hn : 3 + 1 < nL) (hp : okp a2 = true) (h : R l G cy y b nL rt d mc ms Q (pc + 1) (a0 :: a1 :: a2 :: some (.long x) :: none :: r0) st S k n) : R l G cy y b nL rt d mc ms Q pc (a0 :: a1 :: a2 :: x0 :: x1 :: r0) (.long x :: st) S k n := r_lstore_n hd rfl hn (fun a ha => by cases ha; exact hp) h
theorem r_ist4 {a0 a1 a2 a3 x0 : Option Value} {r0 : List (Option Value)} {x : Int32} (hd : decode b pc = .ok (.istore 4, 2)) (hn : 4 < nL) (hp : okp a3 = true) (h : R l G cy y b nL rt d mc ms Q (pc + 2) (a0 :: a1 :: a2 :: a3 :: some (.int x) :: r0) st S k n) : R l G cy y b nL rt d mc ms Q pc (a0 :: a1 :: a2 :: a3 :: x0 :: r0) (.int x :: st) S k n := r_istore hd hn (fun a ha => by cases ha; exact hp) h
theorem r_ast4 {a0 a1 a2 a3 x0 : Option Value} {r0 : List (Option Value)} {x : Nat} (hd : decode b pc = .ok (.astore 4, 2)) (hn : 4 < nL) (hp : okp a3 = true) (h : R l G cy y b nL rt d mc ms Q (pc + 2) (a0 :: a1 :: a2 :: a3 :: some (.ref x) :: r0) st S k n) : R l G cy y b nL rt d mc ms Q pc (a0 :: a1 :: a2 :: a3 :: x0 :: r0) (.ref x :: st) S k n := r_astore hd hn (fun a ha => by cases ha; exact hp) h
theorem r_ast4N {a0 a1 a2 a3 x0 : Option Value} {r0 : List (Option Value)}  (hd : decode b pc = .ok (.astore 4, 2)) (hn : 4 < nL) (hp : okp a3 = true) (h : R l G cy y b nL rt d mc ms Q (pc + 2) (a0 :: a1 :: a2 :: a3 :: some (.null) :: r0) st S k n) : R l G cy y b nL rt d mc ms Q pc (a0 :: a1 :: a2 :: a3 :: x0 :: r0) (.null :: st) S k n := r_astoreN hd hn (fun a ha => by cases ha; exact hp) h
theorem r_inc4 {a0 a1 a2 a3 x0 : Option Value} {r0 : List (Option Value)} {z : Int} {x v : Int32} (hd : decode b pc = .ok (.iinc 4 z, 3)) (hz : x + Int32.ofInt z = v) (hn : 4 < nL) (hp : okp a3 = true) (h : R l G cy y b nL rt d mc ms Q (pc + 3) (a0 :: a1 :: a2 :: a3 :: some (.int v) :: r0) st S k n) : R l G cy y b nL rt d mc ms Q pc (a0 :: a1 :: a2 :: a3 :: some (.int x) :: r0) st S k n := r_iinc hd rfl hz hn (fun a ha => by cases ha; exact hp) h
theorem r_lst4 {a0 a1 a2 a3 x0 x1 : Option Value} {r0 : List (Option Value)} {x : Int64} (hd : decode b pc = .ok (.lstore 4, 2)) (hn : 4 + 1 < nL) (hp : okp a3 = true) (h : R l G cy y b nL rt d mc ms Q (pc + 2) (a0 :: a1 :: a2 :: a3 :: some (.long x) :: none :: r0) st S k n) : R l G cy y b nL rt d mc ms Q pc (a0 :: a1 :: a2 :: a3 :: x0 :: x1 :: r0) (.long x :: st) S k n := r_lstore hd hn (fun a ha => by cases ha; exact hp) h
theorem r_ist5 {a0 a1 a2 a3 a4 x0 : Option Value} {r0 : List (Option Value)} {x : Int32} (hd : decode b pc = .ok (.istore 5, 2)) (hn : 5 < nL) (hp : okp a4 = true) (h : R l G cy y b nL rt d mc ms Q (pc + 2) (a0 :: a1 :: a2 :: a3 :: a4 :: some (.int x) :: r0) st S k n) : R l G cy y b nL rt d mc ms Q pc (a0 :: a1 :: a2 :: a3 :: a4 :: x0 :: r0) (.int x :: st) S k n := r_istore hd hn (fun a ha => by cases ha; exact hp) h
theorem r_ast5 {a0 a1 a2 a3 a4 x0 : Option Value} {r0 : List (Option Value)} {x : Nat} (hd : decode b pc = .ok (.astore 5, 2)) (hn : 5 < nL) (hp : okp a4 = true) (h : R l G cy y b nL rt d mc ms Q (pc + 2) (a0 :: a1 :: a2 :: a3 :: a4 :: some (.ref x) :: r0) st S k n) : R l G cy y b nL rt d mc ms Q pc (a0 :: a1 :: a2 :: a3 :: a4 :: x0 :: r0) (.ref x :: st) S k n := r_astore hd hn (fun a ha => by cases ha; exact hp) h
theorem r_ast5N {a0 a1 a2 a3 a4 x0 : Option Value} {r0 : List (Option Value)}  (hd : decode b pc = .ok (.astore 5, 2)) (hn : 5 < nL) (hp : okp a4 = true) (h : R l G cy y b nL rt d mc ms Q (pc + 2) (a0 :: a1 :: a2 :: a3 :: a4 :: some (.null) :: r0) st S k n) : R l G cy y b nL rt d mc ms Q pc (a0 :: a1 :: a2 :: a3 :: a4 :: x0 :: r0) (.null :: st) S k n := r_astoreN hd hn (fun a ha => by cases ha; exact hp) h
theorem r_inc5 {a0 a1 a2 a3 a4 x0 : Option Value} {r0 : List (Option Value)} {z : Int} {x v : Int32} (hd : decode b pc = .ok (.iinc 5 z, 3)) (hz : x + Int32.ofInt z = v) (hn : 5 < nL) (hp : okp a4 = true) (h : R l G cy y b nL rt d mc ms Q (pc + 3) (a0 :: a1 :: a2 :: a3 :: a4 :: some (.int v) :: r0) st S k n) : R l G cy y b nL rt d mc ms Q pc (a0 :: a1 :: a2 :: a3 :: a4 :: some (.int x) :: r0) st S k n := r_iinc hd rfl hz hn (fun a ha => by cases ha; exact hp) h
theorem r_lst5 {a0 a1 a2 a3 a4 x0 x1 : Option Value} {r0 : List (Option Value)} {x : Int64} (hd : decode b pc = .ok (.lstore 5, 2)) (hn : 5 + 1 < nL) (hp : okp a4 = true) (h : R l G cy y b nL rt d mc ms Q (pc + 2) (a0 :: a1 :: a2 :: a3 :: a4 :: some (.long x) :: none :: r0) st S k n) : R l G cy y b nL rt d mc ms Q pc (a0 :: a1 :: a2 :: a3 :: a4 :: x0 :: x1 :: r0) (.long x :: st) S k n := r_lstore hd hn (fun a ha => by cases ha; exact hp) h
theorem r_ist6 {a0 a1 a2 a3 a4 a5 x0 : Option Value} {r0 : List (Option Value)} {x : Int32} (hd : decode b pc = .ok (.istore 6, 2)) (hn : 6 < nL) (hp : okp a5 = true) (h : R l G cy y b nL rt d mc ms Q (pc + 2) (a0 :: a1 :: a2 :: a3 :: a4 :: a5 :: some (.int x) :: r0) st S k n) : R l G cy y b nL rt d mc ms Q pc (a0 :: a1 :: a2 :: a3 :: a4 :: a5 :: x0 :: r0) (.int x :: st) S k n := r_istore hd hn (fun a ha => by cases ha; exact hp) h
theorem r_ast6 {a0 a1 a2 a3 a4 a5 x0 : Option Value} {r0 : List (Option Value)} {x : Nat} (hd : decode b pc = .ok (.astore 6, 2)) (hn : 6 < nL) (hp : okp a5 = true) (h : R l G cy y b nL rt d mc ms Q (pc + 2) (a0 :: a1 :: a2 :: a3 :: a4 :: a5 :: some (.ref x) :: r0) st S k n) : R l G cy y b nL rt d mc ms Q pc (a0 :: a1 :: a2 :: a3 :: a4 :: a5 :: x0 :: r0) (.ref x :: st) S k n := r_astore hd hn (fun a ha => by cases ha; exact hp) h
theorem r_ast6N {a0 a1 a2 a3 a4 a5 x0 : Option Value} {r0 : List (Option Value)}  (hd : decode b pc = .ok (.astore 6, 2)) (hn : 6 < nL) (hp : okp a5 = true) (h : R l G cy y b nL rt d mc ms Q (pc + 2) (a0 :: a1 :: a2 :: a3 :: a4 :: a5 :: some (.null) :: r0) st S k n) : R l G cy y b nL rt d mc ms Q pc (a0 :: a1 :: a2 :: a3 :: a4 :: a5 :: x0 :: r0) (.null :: st) S k n := r_astoreN hd hn (fun a ha => by cases ha; exact hp) h
theorem r_inc6 {a0 a1 a2 a3 a4 a5 x0 : Option Value} {r0 : List (Option Value)} {z : Int} {x v : Int32} (hd : decode b pc = .ok (.iinc 6 z, 3)) (hz : x + Int32.ofInt z = v) (hn : 6 < nL) (hp : okp a5 = true) (h : R l G cy y b nL rt d mc ms Q (pc + 3) (a0 :: a1 :: a2 :: a3 :: a4 :: a5 :: some (.int v) :: r0) st S k n) : R l G cy y b nL rt d mc ms Q pc (a0 :: a1 :: a2 :: a3 :: a4 :: a5 :: some (.int x) :: r0) st S k n := r_iinc hd rfl hz hn (fun a ha => by cases ha; exact hp) h
theorem r_lst6 {a0 a1 a2 a3 a4 a5 x0 x1 : Option Value} {r0 : List (Option Value)} {x : Int64} (hd : decode b pc = .ok (.lstore 6, 2)) (hn : 6 + 1 < nL) (hp : okp a5 = true) (h : R l G cy y b nL rt d mc ms Q (pc + 2) (a0 :: a1 :: a2 :: a3 :: a4 :: a5 :: some (.long x) :: none :: r0) st S k n) : R l G cy y b nL rt d mc ms Q pc (a0 :: a1 :: a2 :: a3 :: a4 :: a5 :: x0 :: x1 :: r0) (.long x :: st) S k n := r_lstore hd hn (fun a ha => by cases ha; exact hp) h
theorem r_ist7 {a0 a1 a2 a3 a4 a5 a6 x0 : Option Value} {r0 : List (Option Value)} {x : Int32} (hd : decode b pc = .ok (.istore 7, 2)) (hn : 7 < nL) (hp : okp a6 = true) (h : R l G cy y b nL rt d mc ms Q (pc + 2) (a0 :: a1 :: a2 :: a3 :: a4 :: a5 :: a6 :: some (.int x) :: r0) st S k n) : R l G cy y b nL rt d mc ms Q pc (a0 :: a1 :: a2 :: a3 :: a4 :: a5 :: a6 :: x0 :: r0) (.int x :: st) S k n := r_istore hd hn (fun a ha => by cases ha; exact hp) h
theorem r_ast7 {a0 a1 a2 a3 a4 a5 a6 x0 : Option Value} {r0 : List (Option Value)} {x : Nat} (hd : decode b pc = .ok (.astore 7, 2)) (hn : 7 < nL) (hp : okp a6 = true) (h : R l G cy y b nL rt d mc ms Q (pc + 2) (a0 :: a1 :: a2 :: a3 :: a4 :: a5 :: a6 :: some (.ref x) :: r0) st S k n) : R l G cy y b nL rt d mc ms Q pc (a0 :: a1 :: a2 :: a3 :: a4 :: a5 :: a6 :: x0 :: r0) (.ref x :: st) S k n := r_astore hd hn (fun a ha => by cases ha; exact hp) h
theorem r_ast7N {a0 a1 a2 a3 a4 a5 a6 x0 : Option Value} {r0 : List (Option Value)}  (hd : decode b pc = .ok (.astore 7, 2)) (hn : 7 < nL) (hp : okp a6 = true) (h : R l G cy y b nL rt d mc ms Q (pc + 2) (a0 :: a1 :: a2 :: a3 :: a4 :: a5 :: a6 :: some (.null) :: r0) st S k n) : R l G cy y b nL rt d mc ms Q pc (a0 :: a1 :: a2 :: a3 :: a4 :: a5 :: a6 :: x0 :: r0) (.null :: st) S k n := r_astoreN hd hn (fun a ha => by cases ha; exact hp) h
theorem r_inc7 {a0 a1 a2 a3 a4 a5 a6 x0 : Option Value} {r0 : List (Option Value)} {z : Int} {x v : Int32} (hd : decode b pc = .ok (.iinc 7 z, 3)) (hz : x + Int32.ofInt z = v) (hn : 7 < nL) (hp : okp a6 = true) (h : R l G cy y b nL rt d mc ms Q (pc + 3) (a0 :: a1 :: a2 :: a3 :: a4 :: a5 :: a6 :: some (.int v) :: r0) st S k n) : R l G cy y b nL rt d mc ms Q pc (a0 :: a1 :: a2 :: a3 :: a4 :: a5 :: a6 :: some (.int x) :: r0) st S k n := r_iinc hd rfl hz hn (fun a ha => by cases ha; exact hp) h
theorem r_lst7 {a0 a1 a2 a3 a4 a5 a6 x0 x1 : Option Value} {r0 : List (Option Value)} {x : Int64} (hd : decode b pc = .ok (.lstore 7, 2)) (hn : 7 + 1 < nL) (hp : okp a6 = true) (h : R l G cy y b nL rt d mc ms Q (pc + 2) (a0 :: a1 :: a2 :: a3 :: a4 :: a5 :: a6 :: some (.long x) :: none :: r0) st S k n) : R l G cy y b nL rt d mc ms Q pc (a0 :: a1 :: a2 :: a3 :: a4 :: a5 :: a6 :: x0 :: x1 :: r0) (.long x :: st) S k n := r_lstore hd hn (fun a ha => by cases ha; exact hp) h
theorem r_ist8 {a0 a1 a2 a3 a4 a5 a6 a7 x0 : Option Value} {r0 : List (Option Value)} {x : Int32} (hd : decode b pc = .ok (.istore 8, 2)) (hn : 8 < nL) (hp : okp a7 = true) (h : R l G cy y b nL rt d mc ms Q (pc + 2) (a0 :: a1 :: a2 :: a3 :: a4 :: a5 :: a6 :: a7 :: some (.int x) :: r0) st S k n) : R l G cy y b nL rt d mc ms Q pc (a0 :: a1 :: a2 :: a3 :: a4 :: a5 :: a6 :: a7 :: x0 :: r0) (.int x :: st) S k n := r_istore hd hn (fun a ha => by cases ha; exact hp) h
theorem r_ast8 {a0 a1 a2 a3 a4 a5 a6 a7 x0 : Option Value} {r0 : List (Option Value)} {x : Nat} (hd : decode b pc = .ok (.astore 8, 2)) (hn : 8 < nL) (hp : okp a7 = true) (h : R l G cy y b nL rt d mc ms Q (pc + 2) (a0 :: a1 :: a2 :: a3 :: a4 :: a5 :: a6 :: a7 :: some (.ref x) :: r0) st S k n) : R l G cy y b nL rt d mc ms Q pc (a0 :: a1 :: a2 :: a3 :: a4 :: a5 :: a6 :: a7 :: x0 :: r0) (.ref x :: st) S k n := r_astore hd hn (fun a ha => by cases ha; exact hp) h
theorem r_ast8N {a0 a1 a2 a3 a4 a5 a6 a7 x0 : Option Value} {r0 : List (Option Value)}  (hd : decode b pc = .ok (.astore 8, 2)) (hn : 8 < nL) (hp : okp a7 = true) (h : R l G cy y b nL rt d mc ms Q (pc + 2) (a0 :: a1 :: a2 :: a3 :: a4 :: a5 :: a6 :: a7 :: some (.null) :: r0) st S k n) : R l G cy y b nL rt d mc ms Q pc (a0 :: a1 :: a2 :: a3 :: a4 :: a5 :: a6 :: a7 :: x0 :: r0) (.null :: st) S k n := r_astoreN hd hn (fun a ha => by cases ha; exact hp) h
theorem r_inc8 {a0 a1 a2 a3 a4 a5 a6 a7 x0 : Option Value} {r0 : List (Option Value)} {z : Int} {x v : Int32} (hd : decode b pc = .ok (.iinc 8 z, 3)) (hz : x + Int32.ofInt z = v) (hn : 8 < nL) (hp : okp a7 = true) (h : R l G cy y b nL rt d mc ms Q (pc + 3) (a0 :: a1 :: a2 :: a3 :: a4 :: a5 :: a6 :: a7 :: some (.int v) :: r0) st S k n) : R l G cy y b nL rt d mc ms Q pc (a0 :: a1 :: a2 :: a3 :: a4 :: a5 :: a6 :: a7 :: some (.int x) :: r0) st S k n := r_iinc hd rfl hz hn (fun a ha => by cases ha; exact hp) h
theorem r_lst8 {a0 a1 a2 a3 a4 a5 a6 a7 x0 x1 : Option Value} {r0 : List (Option Value)} {x : Int64} (hd : decode b pc = .ok (.lstore 8, 2)) (hn : 8 + 1 < nL) (hp : okp a7 = true) (h : R l G cy y b nL rt d mc ms Q (pc + 2) (a0 :: a1 :: a2 :: a3 :: a4 :: a5 :: a6 :: a7 :: some (.long x) :: none :: r0) st S k n) : R l G cy y b nL rt d mc ms Q pc (a0 :: a1 :: a2 :: a3 :: a4 :: a5 :: a6 :: a7 :: x0 :: x1 :: r0) (.long x :: st) S k n := r_lstore hd hn (fun a ha => by cases ha; exact hp) h
theorem r_ist9 {a0 a1 a2 a3 a4 a5 a6 a7 a8 x0 : Option Value} {r0 : List (Option Value)} {x : Int32} (hd : decode b pc = .ok (.istore 9, 2)) (hn : 9 < nL) (hp : okp a8 = true) (h : R l G cy y b nL rt d mc ms Q (pc + 2) (a0 :: a1 :: a2 :: a3 :: a4 :: a5 :: a6 :: a7 :: a8 :: some (.int x) :: r0) st S k n) : R l G cy y b nL rt d mc ms Q pc (a0 :: a1 :: a2 :: a3 :: a4 :: a5 :: a6 :: a7 :: a8 :: x0 :: r0) (.int x :: st) S k n := r_istore hd hn (fun a ha => by cases ha; exact hp) h
theorem r_ast9 {a0 a1 a2 a3 a4 a5 a6 a7 a8 x0 : Option Value} {r0 : List (Option Value)} {x : Nat} (hd : decode b pc = .ok (.astore 9, 2)) (hn : 9 < nL) (hp : okp a8 = true) (h : R l G cy y b nL rt d mc ms Q (pc + 2) (a0 :: a1 :: a2 :: a3 :: a4 :: a5 :: a6 :: a7 :: a8 :: some (.ref x) :: r0) st S k n) : R l G cy y b nL rt d mc ms Q pc (a0 :: a1 :: a2 :: a3 :: a4 :: a5 :: a6 :: a7 :: a8 :: x0 :: r0) (.ref x :: st) S k n := r_astore hd hn (fun a ha => by cases ha; exact hp) h
theorem r_ast9N {a0 a1 a2 a3 a4 a5 a6 a7 a8 x0 : Option Value} {r0 : List (Option Value)}  (hd : decode b pc = .ok (.astore 9, 2)) (hn : 9 < nL) (hp : okp a8 = true) (h : R l G cy y b nL rt d mc ms Q (pc + 2) (a0 :: a1 :: a2 :: a3 :: a4 :: a5 :: a6 :: a7 :: a8 :: some (.null) :: r0) st S k n) : R l G cy y b nL rt d mc ms Q pc (a0 :: a1 :: a2 :: a3 :: a4 :: a5 :: a6 :: a7 :: a8 :: x0 :: r0) (.null :: st) S k n := r_astoreN hd hn (fun a ha => by cases ha; exact hp) h
theorem r_inc9 {a0 a1 a2 a3 a4 a5 a6 a7 a8 x0 : Option Value} {r0 : List (Option Value)} {z : Int} {x v : Int32} (hd : decode b pc = .ok (.iinc 9 z, 3)) (hz : x + Int32.ofInt z = v) (hn : 9 < nL) (hp : okp a8 = true) (h : R l G cy y b nL rt d mc ms Q (pc + 3) (a0 :: a1 :: a2 :: a3 :: a4 :: a5 :: a6 :: a7 :: a8 :: some (.int v) :: r0) st S k n) : R l G cy y b nL rt d mc ms Q pc (a0 :: a1 :: a2 :: a3 :: a4 :: a5 :: a6 :: a7 :: a8 :: some (.int x) :: r0) st S k n := r_iinc hd rfl hz hn (fun a ha => by cases ha; exact hp) h
theorem r_lst9 {a0 a1 a2 a3 a4 a5 a6 a7 a8 x0 x1 : Option Value} {r0 : List (Option Value)} {x : Int64} (hd : decode b pc = .ok (.lstore 9, 2)) (hn : 9 + 1 < nL) (hp : okp a8 = true) (h : R l G cy y b nL rt d mc ms Q (pc + 2) (a0 :: a1 :: a2 :: a3 :: a4 :: a5 :: a6 :: a7 :: a8 :: some (.long x) :: none :: r0) st S k n) : R l G cy y b nL rt d mc ms Q pc (a0 :: a1 :: a2 :: a3 :: a4 :: a5 :: a6 :: a7 :: a8 :: x0 :: x1 :: r0) (.long x :: st) S k n := r_lstore hd hn (fun a ha => by cases ha; exact hp) h
theorem r_ist10 {a0 a1 a2 a3 a4 a5 a6 a7 a8 a9 x0 : Option Value} {r0 : List (Option Value)} {x : Int32} (hd : decode b pc = .ok (.istore 10, 2)) (hn : 10 < nL) (hp : okp a9 = true) (h : R l G cy y b nL rt d mc ms Q (pc + 2) (a0 :: a1 :: a2 :: a3 :: a4 :: a5 :: a6 :: a7 :: a8 :: a9 :: some (.int x) :: r0) st S k n) : R l G cy y b nL rt d mc ms Q pc (a0 :: a1 :: a2 :: a3 :: a4 :: a5 :: a6 :: a7 :: a8 :: a9 :: x0 :: r0) (.int x :: st) S k n := r_istore hd hn (fun a ha => by cases ha; exact hp) h
theorem r_ast10 {a0 a1 a2 a3 a4 a5 a6 a7 a8 a9 x0 : Option Value} {r0 : List (Option Value)} {x : Nat} (hd : decode b pc = .ok (.astore 10, 2)) (hn : 10 < nL) (hp : okp a9 = true) (h : R l G cy y b nL rt d mc ms Q (pc + 2) (a0 :: a1 :: a2 :: a3 :: a4 :: a5 :: a6 :: a7 :: a8 :: a9 :: some (.ref x) :: r0) st S k n) : R l G cy y b nL rt d mc ms Q pc (a0 :: a1 :: a2 :: a3 :: a4 :: a5 :: a6 :: a7 :: a8 :: a9 :: x0 :: r0) (.ref x :: st) S k n := r_astore hd hn (fun a ha => by cases ha; exact hp) h
theorem r_ast10N {a0 a1 a2 a3 a4 a5 a6 a7 a8 a9 x0 : Option Value} {r0 : List (Option Value)}  (hd : decode b pc = .ok (.astore 10, 2)) (hn : 10 < nL) (hp : okp a9 = true) (h : R l G cy y b nL rt d mc ms Q (pc + 2) (a0 :: a1 :: a2 :: a3 :: a4 :: a5 :: a6 :: a7 :: a8 :: a9 :: some (.null) :: r0) st S k n) : R l G cy y b nL rt d mc ms Q pc (a0 :: a1 :: a2 :: a3 :: a4 :: a5 :: a6 :: a7 :: a8 :: a9 :: x0 :: r0) (.null :: st) S k n := r_astoreN hd hn (fun a ha => by cases ha; exact hp) h
theorem r_inc10 {a0 a1 a2 a3 a4 a5 a6 a7 a8 a9 x0 : Option Value} {r0 : List (Option Value)} {z : Int} {x v : Int32} (hd : decode b pc = .ok (.iinc 10 z, 3)) (hz : x + Int32.ofInt z = v) (hn : 10 < nL) (hp : okp a9 = true) (h : R l G cy y b nL rt d mc ms Q (pc + 3) (a0 :: a1 :: a2 :: a3 :: a4 :: a5 :: a6 :: a7 :: a8 :: a9 :: some (.int v) :: r0) st S k n) : R l G cy y b nL rt d mc ms Q pc (a0 :: a1 :: a2 :: a3 :: a4 :: a5 :: a6 :: a7 :: a8 :: a9 :: some (.int x) :: r0) st S k n := r_iinc hd rfl hz hn (fun a ha => by cases ha; exact hp) h
theorem r_lst10 {a0 a1 a2 a3 a4 a5 a6 a7 a8 a9 x0 x1 : Option Value} {r0 : List (Option Value)} {x : Int64} (hd : decode b pc = .ok (.lstore 10, 2)) (hn : 10 + 1 < nL) (hp : okp a9 = true) (h : R l G cy y b nL rt d mc ms Q (pc + 2) (a0 :: a1 :: a2 :: a3 :: a4 :: a5 :: a6 :: a7 :: a8 :: a9 :: some (.long x) :: none :: r0) st S k n) : R l G cy y b nL rt d mc ms Q pc (a0 :: a1 :: a2 :: a3 :: a4 :: a5 :: a6 :: a7 :: a8 :: a9 :: x0 :: x1 :: r0) (.long x :: st) S k n := r_lstore hd hn (fun a ha => by cases ha; exact hp) h
theorem r_ist11 {a0 a1 a2 a3 a4 a5 a6 a7 a8 a9 a10 x0 : Option Value} {r0 : List (Option Value)} {x : Int32} (hd : decode b pc = .ok (.istore 11, 2)) (hn : 11 < nL) (hp : okp a10 = true) (h : R l G cy y b nL rt d mc ms Q (pc + 2) (a0 :: a1 :: a2 :: a3 :: a4 :: a5 :: a6 :: a7 :: a8 :: a9 :: a10 :: some (.int x) :: r0) st S k n) : R l G cy y b nL rt d mc ms Q pc (a0 :: a1 :: a2 :: a3 :: a4 :: a5 :: a6 :: a7 :: a8 :: a9 :: a10 :: x0 :: r0) (.int x :: st) S k n := r_istore hd hn (fun a ha => by cases ha; exact hp) h
theorem r_ast11 {a0 a1 a2 a3 a4 a5 a6 a7 a8 a9 a10 x0 : Option Value} {r0 : List (Option Value)} {x : Nat} (hd : decode b pc = .ok (.astore 11, 2)) (hn : 11 < nL) (hp : okp a10 = true) (h : R l G cy y b nL rt d mc ms Q (pc + 2) (a0 :: a1 :: a2 :: a3 :: a4 :: a5 :: a6 :: a7 :: a8 :: a9 :: a10 :: some (.ref x) :: r0) st S k n) : R l G cy y b nL rt d mc ms Q pc (a0 :: a1 :: a2 :: a3 :: a4 :: a5 :: a6 :: a7 :: a8 :: a9 :: a10 :: x0 :: r0) (.ref x :: st) S k n := r_astore hd hn (fun a ha => by cases ha; exact hp) h
theorem r_ast11N {a0 a1 a2 a3 a4 a5 a6 a7 a8 a9 a10 x0 : Option Value} {r0 : List (Option Value)}  (hd : decode b pc = .ok (.astore 11, 2)) (hn : 11 < nL) (hp : okp a10 = true) (h : R l G cy y b nL rt d mc ms Q (pc + 2) (a0 :: a1 :: a2 :: a3 :: a4 :: a5 :: a6 :: a7 :: a8 :: a9 :: a10 :: some (.null) :: r0) st S k n) : R l G cy y b nL rt d mc ms Q pc (a0 :: a1 :: a2 :: a3 :: a4 :: a5 :: a6 :: a7 :: a8 :: a9 :: a10 :: x0 :: r0) (.null :: st) S k n := r_astoreN hd hn (fun a ha => by cases ha; exact hp) h
theorem r_inc11 {a0 a1 a2 a3 a4 a5 a6 a7 a8 a9 a10 x0 : Option Value} {r0 : List (Option Value)} {z : Int} {x v : Int32} (hd : decode b pc = .ok (.iinc 11 z, 3)) (hz : x + Int32.ofInt z = v) (hn : 11 < nL) (hp : okp a10 = true) (h : R l G cy y b nL rt d mc ms Q (pc + 3) (a0 :: a1 :: a2 :: a3 :: a4 :: a5 :: a6 :: a7 :: a8 :: a9 :: a10 :: some (.int v) :: r0) st S k n) : R l G cy y b nL rt d mc ms Q pc (a0 :: a1 :: a2 :: a3 :: a4 :: a5 :: a6 :: a7 :: a8 :: a9 :: a10 :: some (.int x) :: r0) st S k n := r_iinc hd rfl hz hn (fun a ha => by cases ha; exact hp) h
theorem r_lst11 {a0 a1 a2 a3 a4 a5 a6 a7 a8 a9 a10 x0 x1 : Option Value} {r0 : List (Option Value)} {x : Int64} (hd : decode b pc = .ok (.lstore 11, 2)) (hn : 11 + 1 < nL) (hp : okp a10 = true) (h : R l G cy y b nL rt d mc ms Q (pc + 2) (a0 :: a1 :: a2 :: a3 :: a4 :: a5 :: a6 :: a7 :: a8 :: a9 :: a10 :: some (.long x) :: none :: r0) st S k n) : R l G cy y b nL rt d mc ms Q pc (a0 :: a1 :: a2 :: a3 :: a4 :: a5 :: a6 :: a7 :: a8 :: a9 :: a10 :: x0 :: x1 :: r0) (.long x :: st) S k n := r_lstore hd hn (fun a ha => by cases ha; exact hp) h
theorem r_ist12 {a0 a1 a2 a3 a4 a5 a6 a7 a8 a9 a10 a11 x0 : Option Value} {r0 : List (Option Value)} {x : Int32} (hd : decode b pc = .ok (.istore 12, 2)) (hn : 12 < nL) (hp : okp a11 = true) (h : R l G cy y b nL rt d mc ms Q (pc + 2) (a0 :: a1 :: a2 :: a3 :: a4 :: a5 :: a6 :: a7 :: a8 :: a9 :: a10 :: a11 :: some (.int x) :: r0) st S k n) : R l G cy y b nL rt d mc ms Q pc (a0 :: a1 :: a2 :: a3 :: a4 :: a5 :: a6 :: a7 :: a8 :: a9 :: a10 :: a11 :: x0 :: r0) (.int x :: st) S k n := r_istore hd hn (fun a ha => by cases ha; exact hp) h
theorem r_ast12 {a0 a1 a2 a3 a4 a5 a6 a7 a8 a9 a10 a11 x0 : Option Value} {r0 : List (Option Value)} {x : Nat} (hd : decode b pc = .ok (.astore 12, 2)) (hn : 12 < nL) (hp : okp a11 = true) (h : R l G cy y b nL rt d mc ms Q (pc + 2) (a0 :: a1 :: a2 :: a3 :: a4 :: a5 :: a6 :: a7 :: a8 :: a9 :: a10 :: a11 :: some (.ref x) :: r0) st S k n) : R l G cy y b nL rt d mc ms Q pc (a0 :: a1 :: a2 :: a3 :: a4 :: a5 :: a6 :: a7 :: a8 :: a9 :: a10 :: a11 :: x0 :: r0) (.ref x :: st) S k n := r_astore hd hn (fun a ha => by cases ha; exact hp) h
theorem r_ast12N {a0 a1 a2 a3 a4 a5 a6 a7 a8 a9 a10 a11 x0 : Option Value} {r0 : List (Option Value)}  (hd : decode b pc = .ok (.astore 12, 2)) (hn : 12 < nL) (hp : okp a11 = true) (h : R l G cy y b nL rt d mc ms Q (pc + 2) (a0 :: a1 :: a2 :: a3 :: a4 :: a5 :: a6 :: a7 :: a8 :: a9 :: a10 :: a11 :: some (.null) :: r0) st S k n) : R l G cy y b nL rt d mc ms Q pc (a0 :: a1 :: a2 :: a3 :: a4 :: a5 :: a6 :: a7 :: a8 :: a9 :: a10 :: a11 :: x0 :: r0) (.null :: st) S k n := r_astoreN hd hn (fun a ha => by cases ha; exact hp) h
theorem r_inc12 {a0 a1 a2 a3 a4 a5 a6 a7 a8 a9 a10 a11 x0 : Option Value} {r0 : List (Option Value)} {z : Int} {x v : Int32} (hd : decode b pc = .ok (.iinc 12 z, 3)) (hz : x + Int32.ofInt z = v) (hn : 12 < nL) (hp : okp a11 = true) (h : R l G cy y b nL rt d mc ms Q (pc + 3) (a0 :: a1 :: a2 :: a3 :: a4 :: a5 :: a6 :: a7 :: a8 :: a9 :: a10 :: a11 :: some (.int v) :: r0) st S k n) : R l G cy y b nL rt d mc ms Q pc (a0 :: a1 :: a2 :: a3 :: a4 :: a5 :: a6 :: a7 :: a8 :: a9 :: a10 :: a11 :: some (.int x) :: r0) st S k n := r_iinc hd rfl hz hn (fun a ha => by cases ha; exact hp) h
theorem r_lst12 {a0 a1 a2 a3 a4 a5 a6 a7 a8 a9 a10 a11 x0 x1 : Option Value} {r0 : List (Option Value)} {x : Int64} (hd : decode b pc = .ok (.lstore 12, 2)) (hn : 12 + 1 < nL) (hp : okp a11 = true) (h : R l G cy y b nL rt d mc ms Q (pc + 2) (a0 :: a1 :: a2 :: a3 :: a4 :: a5 :: a6 :: a7 :: a8 :: a9 :: a10 :: a11 :: some (.long x) :: none :: r0) st S k n) : R l G cy y b nL rt d mc ms Q pc (a0 :: a1 :: a2 :: a3 :: a4 :: a5 :: a6 :: a7 :: a8 :: a9 :: a10 :: a11 :: x0 :: x1 :: r0) (.long x :: st) S k n := r_lstore hd hn (fun a ha => by cases ha; exact hp) h
theorem r_ist13 {a0 a1 a2 a3 a4 a5 a6 a7 a8 a9 a10 a11 a12 x0 : Option Value} {r0 : List (Option Value)} {x : Int32} (hd : decode b pc = .ok (.istore 13, 2)) (hn : 13 < nL) (hp : okp a12 = true) (h : R l G cy y b nL rt d mc ms Q (pc + 2) (a0 :: a1 :: a2 :: a3 :: a4 :: a5 :: a6 :: a7 :: a8 :: a9 :: a10 :: a11 :: a12 :: some (.int x) :: r0) st S k n) : R l G cy y b nL rt d mc ms Q pc (a0 :: a1 :: a2 :: a3 :: a4 :: a5 :: a6 :: a7 :: a8 :: a9 :: a10 :: a11 :: a12 :: x0 :: r0) (.int x :: st) S k n := r_istore hd hn (fun a ha => by cases ha; exact hp) h
theorem r_ast13 {a0 a1 a2 a3 a4 a5 a6 a7 a8 a9 a10 a11 a12 x0 : Option Value} {r0 : List (Option Value)} {x : Nat} (hd : decode b pc = .ok (.astore 13, 2)) (hn : 13 < nL) (hp : okp a12 = true) (h : R l G cy y b nL rt d mc ms Q (pc + 2) (a0 :: a1 :: a2 :: a3 :: a4 :: a5 :: a6 :: a7 :: a8 :: a9 :: a10 :: a11 :: a12 :: some (.ref x) :: r0) st S k n) : R l G cy y b nL rt d mc ms Q pc (a0 :: a1 :: a2 :: a3 :: a4 :: a5 :: a6 :: a7 :: a8 :: a9 :: a10 :: a11 :: a12 :: x0 :: r0) (.ref x :: st) S k n := r_astore hd hn (fun a ha => by cases ha; exact hp) h
theorem r_ast13N {a0 a1 a2 a3 a4 a5 a6 a7 a8 a9 a10 a11 a12 x0 : Option Value} {r0 : List (Option Value)}  (hd : decode b pc = .ok (.astore 13, 2)) (hn : 13 < nL) (hp : okp a12 = true) (h : R l G cy y b nL rt d mc ms Q (pc + 2) (a0 :: a1 :: a2 :: a3 :: a4 :: a5 :: a6 :: a7 :: a8 :: a9 :: a10 :: a11 :: a12 :: some (.null) :: r0) st S k n) : R l G cy y b nL rt d mc ms Q pc (a0 :: a1 :: a2 :: a3 :: a4 :: a5 :: a6 :: a7 :: a8 :: a9 :: a10 :: a11 :: a12 :: x0 :: r0) (.null :: st) S k n := r_astoreN hd hn (fun a ha => by cases ha; exact hp) h
theorem r_inc13 {a0 a1 a2 a3 a4 a5 a6 a7 a8 a9 a10 a11 a12 x0 : Option Value} {r0 : List (Option Value)} {z : Int} {x v : Int32} (hd : decode b pc = .ok (.iinc 13 z, 3)) (hz : x + Int32.ofInt z = v) (hn : 13 < nL) (hp : okp a12 = true) (h : R l G cy y b nL rt d mc ms Q (pc + 3) (a0 :: a1 :: a2 :: a3 :: a4 :: a5 :: a6 :: a7 :: a8 :: a9 :: a10 :: a11 :: a12 :: some (.int v) :: r0) st S k n) : R l G cy y b nL rt d mc ms Q pc (a0 :: a1 :: a2 :: a3 :: a4 :: a5 :: a6 :: a7 :: a8 :: a9 :: a10 :: a11 :: a12 :: some (.int x) :: r0) st S k n := r_iinc hd rfl hz hn (fun a ha => by cases ha; exact hp) h
theorem r_lst13 {a0 a1 a2 a3 a4 a5 a6 a7 a8 a9 a10 a11 a12 x0 x1 : Option Value} {r0 : List (Option Value)} {x : Int64} (hd : decode b pc = .ok (.lstore 13, 2)) (hn : 13 + 1 < nL) (hp : okp a12 = true) (h : R l G cy y b nL rt d mc ms Q (pc + 2) (a0 :: a1 :: a2 :: a3 :: a4 :: a5 :: a6 :: a7 :: a8 :: a9 :: a10 :: a11 :: a12 :: some (.long x) :: none :: r0) st S k n) : R l G cy y b nL rt d mc ms Q pc (a0 :: a1 :: a2 :: a3 :: a4 :: a5 :: a6 :: a7 :: a8 :: a9 :: a10 :: a11 :: a12 :: x0 :: x1 :: r0) (.long x :: st) S k n := r_lstore hd hn (fun a ha => by cases ha; exact hp) h
theorem r_ist14 {a0 a1 a2 a3 a4 a5 a6 a7 a8 a9 a10 a11 a12 a13 x0 : Option Value} {r0 : List (Option Value)} {x : Int32} (hd : decode b pc = .ok (.istore 14, 2)) (hn : 14 < nL) (hp : okp a13 = true) (h : R l G cy y b nL rt d mc ms Q (pc + 2) (a0 :: a1 :: a2 :: a3 :: a4 :: a5 :: a6 :: a7 :: a8 :: a9 :: a10 :: a11 :: a12 :: a13 :: some (.int x) :: r0) st S k n) : R l G cy y b nL rt d mc ms Q pc (a0 :: a1 :: a2 :: a3 :: a4 :: a5 :: a6 :: a7 :: a8 :: a9 :: a10 :: a11 :: a12 :: a13 :: x0 :: r0) (.int x :: st) S k n := r_istore hd hn (fun a ha => by cases ha; exact hp) h
theorem r_ast14 {a0 a1 a2 a3 a4 a5 a6 a7 a8 a9 a10 a11 a12 a13 x0 : Option Value} {r0 : List (Option Value)} {x : Nat} (hd : decode b pc = .ok (.astore 14, 2)) (hn : 14 < nL) (hp : okp a13 = true) (h : R l G cy y b nL rt d mc ms Q (pc + 2) (a0 :: a1 :: a2 :: a3 :: a4 :: a5 :: a6 :: a7 :: a8 :: a9 :: a10 :: a11 :: a12 :: a13 :: some (.ref x) :: r0) st S k n) : R l G cy y b nL rt d mc ms Q pc (a0 :: a1 :: a2 :: a3 :: a4 :: a5 :: a6 :: a7 :: a8 :: a9 :: a10 :: a11 :: a12 :: a13 :: x0 :: r0) (.ref x :: st) S k n := r_astore hd hn (fun a ha => by cases ha; exact hp) h
theorem r_ast14N {a0 a1 a2 a3 a4 a5 a6 a7 a8 a9 a10 a11 a12 a13 x0 : Option Value} {r0 : List (Option Value)}  (hd : decode b pc = .ok (.astore 14, 2)) (hn : 14 < nL) (hp : okp a13 = true) (h : R l G cy y b nL rt d mc ms Q (pc + 2) (a0 :: a1 :: a2 :: a3 :: a4 :: a5 :: a6 :: a7 :: a8 :: a9 :: a10 :: a11 :: a12 :: a13 :: some (.null) :: r0) st S k n) : R l G cy y b nL rt d mc ms Q pc (a0 :: a1 :: a2 :: a3 :: a4 :: a5 :: a6 :: a7 :: a8 :: a9 :: a10 :: a11 :: a12 :: a13 :: x0 :: r0) (.null :: st) S k n := r_astoreN hd hn (fun a ha => by cases ha; exact hp) h
theorem r_inc14 {a0 a1 a2 a3 a4 a5 a6 a7 a8 a9 a10 a11 a12 a13 x0 : Option Value} {r0 : List (Option Value)} {z : Int} {x v : Int32} (hd : decode b pc = .ok (.iinc 14 z, 3)) (hz : x + Int32.ofInt z = v) (hn : 14 < nL) (hp : okp a13 = true) (h : R l G cy y b nL rt d mc ms Q (pc + 3) (a0 :: a1 :: a2 :: a3 :: a4 :: a5 :: a6 :: a7 :: a8 :: a9 :: a10 :: a11 :: a12 :: a13 :: some (.int v) :: r0) st S k n) : R l G cy y b nL rt d mc ms Q pc (a0 :: a1 :: a2 :: a3 :: a4 :: a5 :: a6 :: a7 :: a8 :: a9 :: a10 :: a11 :: a12 :: a13 :: some (.int x) :: r0) st S k n := r_iinc hd rfl hz hn (fun a ha => by cases ha; exact hp) h
theorem r_lst14 {a0 a1 a2 a3 a4 a5 a6 a7 a8 a9 a10 a11 a12 a13 x0 x1 : Option Value} {r0 : List (Option Value)} {x : Int64} (hd : decode b pc = .ok (.lstore 14, 2)) (hn : 14 + 1 < nL) (hp : okp a13 = true) (h : R l G cy y b nL rt d mc ms Q (pc + 2) (a0 :: a1 :: a2 :: a3 :: a4 :: a5 :: a6 :: a7 :: a8 :: a9 :: a10 :: a11 :: a12 :: a13 :: some (.long x) :: none :: r0) st S k n) : R l G cy y b nL rt d mc ms Q pc (a0 :: a1 :: a2 :: a3 :: a4 :: a5 :: a6 :: a7 :: a8 :: a9 :: a10 :: a11 :: a12 :: a13 :: x0 :: x1 :: r0) (.long x :: st) S k n := r_lstore hd hn (fun a ha => by cases ha; exact hp) h
theorem r_ist15 {a0 a1 a2 a3 a4 a5 a6 a7 a8 a9 a10 a11 a12 a13 a14 x0 : Option Value} {r0 : List (Option Value)} {x : Int32} (hd : decode b pc = .ok (.istore 15, 2)) (hn : 15 < nL) (hp : okp a14 = true) (h : R l G cy y b nL rt d mc ms Q (pc + 2) (a0 :: a1 :: a2 :: a3 :: a4 :: a5 :: a6 :: a7 :: a8 :: a9 :: a10 :: a11 :: a12 :: a13 :: a14 :: some (.int x) :: r0) st S k n) : R l G cy y b nL rt d mc ms Q pc (a0 :: a1 :: a2 :: a3 :: a4 :: a5 :: a6 :: a7 :: a8 :: a9 :: a10 :: a11 :: a12 :: a13 :: a14 :: x0 :: r0) (.int x :: st) S k n := r_istore hd hn (fun a ha => by cases ha; exact hp) h
theorem r_ast15 {a0 a1 a2 a3 a4 a5 a6 a7 a8 a9 a10 a11 a12 a13 a14 x0 : Option Value} {r0 : List (Option Value)} {x : Nat} (hd : decode b pc = .ok (.astore 15, 2)) (hn : 15 < nL) (hp : okp a14 = true) (h : R l G cy y b nL rt d mc ms Q (pc + 2) (a0 :: a1 :: a2 :: a3 :: a4 :: a5 :: a6 :: a7 :: a8 :: a9 :: a10 :: a11 :: a12 :: a13 :: a14 :: some (.ref x) :: r0) st S k n) : R l G cy y b nL rt d mc ms Q pc (a0 :: a1 :: a2 :: a3 :: a4 :: a5 :: a6 :: a7 :: a8 :: a9 :: a10 :: a11 :: a12 :: a13 :: a14 :: x0 :: r0) (.ref x :: st) S k n := r_astore hd hn (fun a ha => by cases ha; exact hp) h
theorem r_ast15N {a0 a1 a2 a3 a4 a5 a6 a7 a8 a9 a10 a11 a12 a13 a14 x0 : Option Value} {r0 : List (Option Value)}  (hd : decode b pc = .ok (.astore 15, 2)) (hn : 15 < nL) (hp : okp a14 = true) (h : R l G cy y b nL rt d mc ms Q (pc + 2) (a0 :: a1 :: a2 :: a3 :: a4 :: a5 :: a6 :: a7 :: a8 :: a9 :: a10 :: a11 :: a12 :: a13 :: a14 :: some (.null) :: r0) st S k n) : R l G cy y b nL rt d mc ms Q pc (a0 :: a1 :: a2 :: a3 :: a4 :: a5 :: a6 :: a7 :: a8 :: a9 :: a10 :: a11 :: a12 :: a13 :: a14 :: x0 :: r0) (.null :: st) S k n := r_astoreN hd hn (fun a ha => by cases ha; exact hp) h
theorem r_inc15 {a0 a1 a2 a3 a4 a5 a6 a7 a8 a9 a10 a11 a12 a13 a14 x0 : Option Value} {r0 : List (Option Value)} {z : Int} {x v : Int32} (hd : decode b pc = .ok (.iinc 15 z, 3)) (hz : x + Int32.ofInt z = v) (hn : 15 < nL) (hp : okp a14 = true) (h : R l G cy y b nL rt d mc ms Q (pc + 3) (a0 :: a1 :: a2 :: a3 :: a4 :: a5 :: a6 :: a7 :: a8 :: a9 :: a10 :: a11 :: a12 :: a13 :: a14 :: some (.int v) :: r0) st S k n) : R l G cy y b nL rt d mc ms Q pc (a0 :: a1 :: a2 :: a3 :: a4 :: a5 :: a6 :: a7 :: a8 :: a9 :: a10 :: a11 :: a12 :: a13 :: a14 :: some (.int x) :: r0) st S k n := r_iinc hd rfl hz hn (fun a ha => by cases ha; exact hp) h
theorem r_lst15 {a0 a1 a2 a3 a4 a5 a6 a7 a8 a9 a10 a11 a12 a13 a14 x0 x1 : Option Value} {r0 : List (Option Value)} {x : Int64} (hd : decode b pc = .ok (.lstore 15, 2)) (hn : 15 + 1 < nL) (hp : okp a14 = true) (h : R l G cy y b nL rt d mc ms Q (pc + 2) (a0 :: a1 :: a2 :: a3 :: a4 :: a5 :: a6 :: a7 :: a8 :: a9 :: a10 :: a11 :: a12 :: a13 :: a14 :: some (.long x) :: none :: r0) st S k n) : R l G cy y b nL rt d mc ms Q pc (a0 :: a1 :: a2 :: a3 :: a4 :: a5 :: a6 :: a7 :: a8 :: a9 :: a10 :: a11 :: a12 :: a13 :: a14 :: x0 :: x1 :: r0) (.long x :: st) S k n := r_lstore hd hn (fun a ha => by cases ha; exact hp) h
end RR
end
section
/-! ===== fields, arrays, new cells, calls ===== -/
def isRefTy : FieldType → Bool
  | .object _ => true
  | .array _ => true
  | _ => false
def ClsF (ci : Nat) (C : String) (T : u_T) (N : Nat) (ty : Nat → FieldType) : Prop := vwCl[ci]? = some (C, T, N) ∧ N = nF ci ∧ ci < 10 ∧ (∀ w ∈ u_ws C T N, w ∈ TB) ∧ (∀ k, k < N → parseFieldDescriptor (T k).2.2.1 = some (ty k)) ∧ (∀ a, a < N → ∀ b, b < N → a ≠ b → (T a).2.1 ≠ (T b).2.1) ∧ (∀ k, k < N → (fR ci k = false ∧ ty k = .int) ∨ (fR ci k = true ∧ isRefTy (ty k) = true))

theorem uwX0 : ∀ w ∈ u_ws RX0 TX0 8, w ∈ TB := by decide +kernel
theorem cfX0 : ClsF 0 RX0 TX0 8 tyX0 := ⟨rfl, rfl, by decide, uwX0, tyX0_ok, nmX0, by decide +kernel⟩
theorem uwX1 : ∀ w ∈ u_ws RX1 TX1 3, w ∈ TB := by decide +kernel
theorem cfX1 : ClsF 1 RX1 TX1 3 tyX1 := ⟨rfl, rfl, by decide, uwX1, tyX1_ok, nmX1, by decide +kernel⟩
theorem uwX2 : ∀ w ∈ u_ws RX2 TX2 11, w ∈ TB := by decide +kernel
theorem cfX2 : ClsF 2 RX2 TX2 11 tyX2 := ⟨rfl, rfl, by decide, uwX2, tyX2_ok, nmX2, by decide +kernel⟩
theorem uwX3 : ∀ w ∈ u_ws RX3 TX3 4, w ∈ TB := by decide +kernel
theorem cfX3 : ClsF 3 RX3 TX3 4 tyX3 := ⟨rfl, rfl, by decide, uwX3, tyX3_ok, nmX3, by decide +kernel⟩
theorem uwX4 : ∀ w ∈ u_ws RX4 TX4 5, w ∈ TB := by decide +kernel
theorem cfX4 : ClsF 4 RX4 TX4 5 tyX4 := ⟨rfl, rfl, by decide, uwX4, tyX4_ok, nmX4, by decide +kernel⟩
theorem uwX5 : ∀ w ∈ u_ws RX5 TX5 2, w ∈ TB := by decide +kernel
theorem cfX5 : ClsF 5 RX5 TX5 2 tyX5 := ⟨rfl, rfl, by decide, uwX5, tyX5_ok, nmX5, by decide +kernel⟩
theorem uwX6 : ∀ w ∈ u_ws RX6 TX6 5, w ∈ TB := by decide +kernel
theorem cfX6 : ClsF 6 RX6 TX6 5 tyX6 := ⟨rfl, rfl, by decide, uwX6, tyX6_ok, nmX6, by decide +kernel⟩
theorem uwX7 : ∀ w ∈ u_ws RX7 TX7 5, w ∈ TB := by decide +kernel
theorem cfX7 : ClsF 7 RX7 TX7 5 tyX7 := ⟨rfl, rfl, by decide, uwX7, tyX7_ok, nmX7, by decide +kernel⟩
theorem uwX8 : ∀ w ∈ u_ws RX8 TX8 18, w ∈ TB := by decide +kernel
theorem cfX8 : ClsF 8 RX8 TX8 18 tyX8 := ⟨rfl, rfl, by decide, uwX8, tyX8_ok, nmX8, by decide +kernel⟩
theorem uwX9 : ∀ w ∈ u_ws RX9 TX9 53, w ∈ TB := by decide +kernel
theorem cfX9 : ClsF 9 RX9 TX9 53 tyX9 := ⟨rfl, rfl, by decide, uwX9, tyX9_ok, nmX9, by decide +kernel⟩
/-- a field link: the class at place ci, its field j, under the index idx of the class own -/
def LkF (own : String) (idx ci j : Nat) : Prop := ∃ (C : String) (T : u_T) (N : Nat) (ty : Nat → FieldType), ClsF ci C T N ty ∧ j < N ∧ Cond.fieldLink own idx (T j).1 (T j).2.1 (T j).2.2.1 ∈ TB
def LkP (own nm : String) (idx ci j : Nat) : Prop := ∃ (C : String) (T : u_T) (N : Nat) (ty : Nat → FieldType), ClsF ci C T N ty ∧ j < N ∧ Cond.fieldLink own idx (T j).1 (T j).2.1 (T j).2.2.1 ∈ TB ∧ ((T j).2.2.2 = false ∨ ((T j).2.2.2 = true ∧ nm = "<init>" ∧ (T j).1 = own))
def LkN (own : String) (idx ci : Nat) : Prop := ∃ (C : String) (T : u_T) (N : Nat) (ty : Nat → FieldType), ClsF ci C T N ty ∧ Cond.classLink own idx C ∈ TB ∧ Cond.instantiable C N ∈ TB ∧ Cond.initialized C ∈ TB
theorem narrow_rf {ty : FieldType} {v : Option Nat} (h : isRefTy ty = true) : narrow ty (va_rf v) = va_rf v ∧ fits ty (va_rf v) = true := by
  cases ty <;> simp [isRefTy] at h <;> cases v <;> exact ⟨rfl, rfl⟩
theorem TBc {w : Cond} {y : MethodName} {b : ByteArray} {nL : Nat} {rt : Option FieldType} (h : w ∈ TB) : w ∈ (Cond.code y b nL rt :: TB) := List.mem_cons_of_mem _ h
section RH
variable {l : Launch} {G : va_G} {cy : Nat → ClassId} {y : MethodName} {b : ByteArray} {nL : Nat} {rt : Option FieldType} {d mc ms : Nat} {Q : Option Value → HS → Prop} {pc : Nat} {lv : List (Option Value)} {st : List Value} {S : HS} {k n : Nat}
theorem r_getI {a ci j idx : Nat} (hd : decode b pc = .ok (.getfield idx, 3)) (hk : LkF y.cls idx ci j) (hr0 : fR ci j = false) (hK0 : tk a = ci) (h : R l G cy y b nL rt d mc ms Q (pc + 3) lv (.int (sI S (fid ci j) a) :: st) S k n) : R l G cy y b nL rt d mc ms Q pc lv (.ref a :: st) S k n := by
  intro p e s m args below meth c H locs ls A ρ L0 ρ0 X hK hA hP hD hS hl hoL hoS hρ hLL
  obtain ⟨hx, hb, hr, hml, hown, hts, hlk, hnm⟩ := id X
  obtain ⟨C, T, N, ty, ⟨c1, c2, c3, c4, c5, c6, c7⟩, hj, hw⟩ := hk
  obtain ⟨q0, hq0⟩ := List.getElem?_of_mem hoS.1
  have hq := pool_at (cy := cy) (ρ := ρ) hq0
  rw [pf_obj hK0 c3] at hq
  refine va_get (v := .int (sI S (fid ci j) a)) hx hb hts (fun w h => TBc (c4 w h)) hown hK.1 hP q0 hq c1 j hj (hts _ (TBc hw)) (fun _ h9 => h9) ?_ hd (h p e s m args below meth c H locs ls A ρ L0 ρ0 X hK hA hP hD hS hl hoL ⟨trivial, hoS.2⟩ hρ hLL)
  rw [fvs_get (by omega)]
  simp [fv, hr0]
theorem r_getR {a ci j idx : Nat} {x : Nat} (hd : decode b pc = .ok (.getfield idx, 3)) (hk : LkF y.cls idx ci j) (hr0 : fR ci j = true) (hK0 : tk a = ci) (hx0 : sR S (fid ci j) a = some x) (hxL : x ∈ sL S) (h : R l G cy y b nL rt d mc ms Q (pc + 3) lv (.ref x :: st) S k n) : R l G cy y b nL rt d mc ms Q pc lv (.ref a :: st) S k n := by
  intro p e s m args below meth c H locs ls A ρ L0 ρ0 X hK hA hP hD hS hl hoL hoS hρ hLL
  obtain ⟨hx, hb, hr, hml, hown, hts, hlk, hnm⟩ := id X
  obtain ⟨C, T, N, ty, ⟨c1, c2, c3, c4, c5, c6, c7⟩, hj, hw⟩ := hk
  obtain ⟨q0, hq0⟩ := List.getElem?_of_mem hoS.1
  have hq := pool_at (cy := cy) (ρ := ρ) hq0
  rw [pf_obj hK0 c3] at hq
  refine va_get (v := .ref (ρ x)) hx hb hts (fun w h => TBc (c4 w h)) hown hK.1 hP q0 hq c1 j hj (hts _ (TBc hw)) (fun _ h9 => h9) ?_ hd (h p e s m args below meth c H locs ls A ρ L0 ρ0 X hK hA hP hD hS hl hoL ⟨hxL, hoS.2⟩ hρ hLL)
  rw [fvs_get (by omega)]
  simp [fv, hr0, hx0, va_rf]
theorem r_putI {a ci j idx : Nat} {v : Int32} (hd : decode b pc = .ok (.putfield idx, 3)) (hk : LkP y.cls y.name idx ci j) (hr0 : fR ci j = false) (hK0 : tk a = ci) (h : R l G cy y b nL rt d mc ms Q (pc + 3) lv st (setI S (fid ci j) a v) k n) : R l G cy y b nL rt d mc ms Q pc lv (.int v :: .ref a :: st) S k n := by
  intro p e s m args below meth c H locs ls A ρ L0 ρ0 X hK hA hP hD hS hl hoL hoS hρ hLL
  obtain ⟨hx, hb, hr, hml, hown, hts, hlk, hnm⟩ := id X
  obtain ⟨C, T, N, ty, ⟨c1, c2, c3, c4, c5, c6, c7⟩, hj, hw, hf⟩ := hk
  obtain ⟨q0, hq0⟩ := List.getElem?_of_mem hoS.2.1
  have hq' := pool_at (cy := cy) (ρ := ρ) hq0
  rw [pf_obj hK0 c3] at hq'
  have hj' : j < nF ci := by omega
  have e9 : ty j = .int := (c7 j hj).elim (fun h => h.2) (fun h => by rw [hr0] at h; cases h.1)
  have e8 : narrow (ty j) (.int v) = .int v ∧ fits (ty j) (.int v) = true := by rw [e9]; exact ⟨rfl, rfl⟩
  have key : ∀ (H1 : Heap) (locs1 : List Loc), va_P G vwCl ((pool cy ρ S).set q0 (ρ a, .inr (ci, (fvs ρ S ci a).set j (.int v)))) H1 → va_D A ((pool cy ρ S).set q0 (ρ a, .inr (ci, (fvs ρ S ci a).set j (.int v)))) → va_S A s.heap H1 locs1 → W p l e (rmO d mc ms) s m args below meth c H1 locs1 k n (MQ below (Qcn G cy Q A L0 ρ0) args s mc ms A) (F0 m (pc + 3) ls (st.map (rn ρ))) := by
    intro H1 locs1 hP1 hD1 hS1
    have e7 : (pool cy ρ S).set q0 (ρ a, .inr (ci, (fvs ρ S ci a).set j (.int v))) = pool cy ρ (setI S (fid ci j) a v) := pool_set hD hq0 rfl (pf_setI hK0 c3 hj' hr0) pf_setI2
    rw [e7] at hP1 hD1
    exact h p e s m args below meth c H1 locs1 ls A ρ L0 ρ0 X hK hA hP1 hD1 hS1 hl hoL hoS.2.2 hρ hLL
  rcases hf with hf | ⟨hf, hn1, hn2⟩
  · exact va_put hx hb hts (fun w h => TBc (c4 w h)) ty c5 c6 hown hK.1 hP hD hS q0 hq' c1 j hj (hts _ (TBc hw)) (fun _ h9 => h9) hf (c5 j hj) e8.1 e8.2 (by rw [fvs_len]; exact hj') hd key
  · exact va_putF hx hb hts (fun w h => TBc (c4 w h)) ty c5 c6 hown hK.1 hP hD hS q0 hq' c1 j hj (hts _ (TBc hw)) (fun _ h9 => h9) hf (hnm.trans hn1) hn2 (c5 j hj) e8.1 e8.2 (by rw [fvs_len]; exact hj') hd key
theorem r_putR {a ci j idx : Nat} {v : Option Nat} (hd : decode b pc = .ok (.putfield idx, 3)) (hk : LkP y.cls y.name idx ci j) (hr0 : fR ci j = true) (hK0 : tk a = ci) (h : R l G cy y b nL rt d mc ms Q (pc + 3) lv st (setR S (fid ci j) a v) k n) : R l G cy y b nL rt d mc ms Q pc lv (va_rf v :: .ref a :: st) S k n := by
  intro p e s m args below meth c H locs ls A ρ L0 ρ0 X hK hA hP hD hS hl hoL hoS hρ hLL
  obtain ⟨hx, hb, hr, hml, hown, hts, hlk, hnm⟩ := id X
  obtain ⟨C, T, N, ty, ⟨c1, c2, c3, c4, c5, c6, c7⟩, hj, hw, hf⟩ := hk
  obtain ⟨q0, hq0⟩ := List.getElem?_of_mem hoS.2.1
  have hq' := pool_at (cy := cy) (ρ := ρ) hq0
  rw [pf_obj hK0 c3] at hq'
  have hj' : j < nF ci := by omega
  have e8 : narrow (ty j) (va_rf (v.map ρ)) = va_rf (v.map ρ) ∧ fits (ty j) (va_rf (v.map ρ)) = true := narrow_rf ((c7 j hj).elim (fun h => by rw [hr0] at h; cases h.1) (fun h => h.2))
  have e6 : (va_rf v :: Value.ref a :: st).map (rn ρ) = va_rf (v.map ρ) :: .ref (ρ a) :: st.map (rn ρ) := by rw [List.map_cons, rn_rf]; rfl
  rw [e6]
  have key : ∀ (H1 : Heap) (locs1 : List Loc), va_P G vwCl ((pool cy ρ S).set q0 (ρ a, .inr (ci, (fvs ρ S ci a).set j (va_rf (v.map ρ))))) H1 → va_D A ((pool cy ρ S).set q0 (ρ a, .inr (ci, (fvs ρ S ci a).set j (va_rf (v.map ρ))))) → va_S A s.heap H1 locs1 → W p l e (rmO d mc ms) s m args below meth c H1 locs1 k n (MQ below (Qcn G cy Q A L0 ρ0) args s mc ms A) (F0 m (pc + 3) ls (st.map (rn ρ))) := by
    intro H1 locs1 hP1 hD1 hS1
    have e7 : (pool cy ρ S).set q0 (ρ a, .inr (ci, (fvs ρ S ci a).set j (va_rf (v.map ρ)))) = pool cy ρ (setR S (fid ci j) a v) := pool_set hD hq0 rfl (pf_setR hK0 c3 hj' hr0) pf_setR2
    rw [e7] at hP1 hD1
    exact h p e s m args below meth c H1 locs1 ls A ρ L0 ρ0 X hK hA hP1 hD1 hS1 hl hoL hoS.2.2 hρ hLL
  rcases hf with hf | ⟨hf, hn1, hn2⟩
  · exact va_put hx hb hts (fun w h => TBc (c4 w h)) ty c5 c6 hown hK.1 hP hD hS q0 hq' c1 j hj (hts _ (TBc hw)) (fun _ h9 => h9) hf (c5 j hj) e8.1 e8.2 (by rw [fvs_len]; exact hj') hd key
  · exact va_putF hx hb hts (fun w h => TBc (c4 w h)) ty c5 c6 hown hK.1 hP hD hS q0 hq' c1 j hj (hts _ (TBc hw)) (fun _ h9 => h9) hf (hnm.trans hn1) hn2 (c5 j hj) e8.1 e8.2 (by rw [fvs_len]; exact hj') hd key
theorem r_iald {a : Nat} {i : Int32} (hd : decode b pc = .ok (.iaload, 1)) (hK0 : tk a = 10) (hi : vp_in i (tn a)) (h : R l G cy y b nL rt d mc ms Q (pc + 1) lv (.int (sA S a i.toNatClampNeg) :: st) S k n) : R l G cy y b nL rt d mc ms Q pc lv (.int i :: .ref a :: st) S k n := by
  intro p e s m args below meth c H locs ls A ρ L0 ρ0 X hK hA hP hD hS hl hoL hoS hρ hLL
  obtain ⟨hx, hb, hr, hml, hown, hts, hlk, hnm⟩ := id X
  obtain ⟨q0, hq0⟩ := List.getElem?_of_mem hoS.2.1
  have hq := pool_at (cy := cy) (ρ := ρ) hq0
  rw [pf_arr (by omega) (by omega), hK0] at hq
  exact va_iald hx hb hK.1 hP q0 0 hq rfl hi hd (h p e s m args below meth c H locs ls A ρ L0 ρ0 X hK hA hP hD hS hl hoL ⟨trivial, hoS.2.2⟩ hρ hLL)
theorem r_zald {a : Nat} {i : Int32} (hd : decode b pc = .ok (.baload, 1)) (hK0 : tk a = 11) (hi : vp_in i (tn a)) (h : R l G cy y b nL rt d mc ms Q (pc + 1) lv (.int (sA S a i.toNatClampNeg) :: st) S k n) : R l G cy y b nL rt d mc ms Q pc lv (.int i :: .ref a :: st) S k n := by
  intro p e s m args below meth c H locs ls A ρ L0 ρ0 X hK hA hP hD hS hl hoL hoS hρ hLL
  obtain ⟨hx, hb, hr, hml, hown, hts, hlk, hnm⟩ := id X
  obtain ⟨q0, hq0⟩ := List.getElem?_of_mem hoS.2.1
  have hq := pool_at (cy := cy) (ρ := ρ) hq0
  rw [pf_arr (by omega) (by omega), hK0] at hq
  exact va_zald hx hb hK.1 hP q0 1 hq rfl hi hd (h p e s m args below meth c H locs ls A ρ L0 ρ0 X hK hA hP hD hS hl hoL ⟨trivial, hoS.2.2⟩ hρ hLL)
theorem r_iast {a : Nat} {i x : Int32} (hd : decode b pc = .ok (.iastore, 1)) (hK0 : tk a = 10) (hi : vp_in i (tn a)) (h : R l G cy y b nL rt d mc ms Q (pc + 1) lv st (setA S a (upd (sA S a) i.toNatClampNeg x)) k n) : R l G cy y b nL rt d mc ms Q pc lv (.int x :: .int i :: .ref a :: st) S k n := by
  intro p e s m args below meth c H locs ls A ρ L0 ρ0 X hK hA hP hD hS hl hoL hoS hρ hLL
  obtain ⟨hx, hb, hr, hml, hown, hts, hlk, hnm⟩ := id X
  obtain ⟨q0, hq0⟩ := List.getElem?_of_mem hoS.2.2.1
  have hq := pool_at (cy := cy) (ρ := ρ) hq0
  rw [pf_arr (by omega) (by omega), hK0] at hq
  refine va_iast hx hb hK.1 hP hD hS q0 0 hq rfl hi hd (fun H1 locs1 hP1 hD1 hS1 => ?_)
  have e7 : (pool cy ρ S).set q0 (ρ a, .inl (cy 10, tn a, .inl (upd (sA S a) i.toNatClampNeg x))) = pool cy ρ (setA S a (upd (sA S a) i.toNatClampNeg x)) := pool_set hD hq0 rfl (by rw [← hK0]; exact pf_setA (by omega) (by omega)) pf_setA2
  rw [e7] at hP1 hD1
  exact h p e s m args below meth c H1 locs1 ls A ρ L0 ρ0 X hK hA hP1 hD1 hS1 hl hoL hoS.2.2.2 hρ hLL
theorem r_zast {a : Nat} {i x : Int32} (hd : decode b pc = .ok (.bastore, 1)) (hK0 : tk a = 11) (hi : vp_in i (tn a)) (h : R l G cy y b nL rt d mc ms Q (pc + 1) lv st (setA S a (upd (sA S a) i.toNatClampNeg (vp_nar .boolean x))) k n) : R l G cy y b nL rt d mc ms Q pc lv (.int x :: .int i :: .ref a :: st) S k n := by
  intro p e s m args below meth c H locs ls A ρ L0 ρ0 X hK hA hP hD hS hl hoL hoS hρ hLL
  obtain ⟨hx, hb, hr, hml, hown, hts, hlk, hnm⟩ := id X
  obtain ⟨q0, hq0⟩ := List.getElem?_of_mem hoS.2.2.1
  have hq := pool_at (cy := cy) (ρ := ρ) hq0
  rw [pf_arr (by omega) (by omega), hK0] at hq
  refine va_zast hx hb hK.1 hP hD hS q0 1 hq rfl hi hd (fun H1 locs1 hP1 hD1 hS1 => ?_)
  have e7 : (pool cy ρ S).set q0 (ρ a, .inl (cy 11, tn a, .inl (upd (sA S a) i.toNatClampNeg (vp_nar .boolean x)))) = pool cy ρ (setA S a (upd (sA S a) i.toNatClampNeg (vp_nar .boolean x))) := pool_set hD hq0 rfl (by rw [← hK0]; exact pf_setA (by omega) (by omega)) pf_setA2
  rw [e7] at hP1 hD1
  exact h p e s m args below meth c H1 locs1 ls A ρ L0 ρ0 X hK hA hP1 hD1 hS1 hl hoL hoS.2.2.2 hρ hLL
theorem r_aald12 {a : Nat} {i : Int32} (hd : decode b pc = .ok (.aaload, 1)) (hK0 : tk a = 12) (hi : vp_in i (tn a)) (hv : okV (sL S) (va_rf (sQ S a i.toNatClampNeg))) (h : R l G cy y b nL rt d mc ms Q (pc + 1) lv (va_rf (sQ S a i.toNatClampNeg) :: st) S k n) : R l G cy y b nL rt d mc ms Q pc lv (.int i :: .ref a :: st) S k n := by
  intro p e s m args below meth c H locs ls A ρ L0 ρ0 X hK hA hP hD hS hl hoL hoS hρ hLL
  obtain ⟨hx, hb, hr, hml, hown, hts, hlk, hnm⟩ := id X
  obtain ⟨q0, hq0⟩ := List.getElem?_of_mem hoS.2.1
  have hq := pool_at (cy := cy) (ρ := ρ) hq0
  rw [pf_arq (by omega), hK0] at hq
  have h' := (h p e s m args below meth c H locs ls A ρ L0 ρ0 X hK hA hP hD hS hl hoL ⟨hv, hoS.2.2⟩ hρ hLL)
  rw [List.map_cons, rn_rf] at h'
  exact va_aldq hx hb hK.1 hP q0 2 hq rfl hi hd h'
theorem r_aast12 {a x : Nat} {i : Int32} (hd : decode b pc = .ok (.aastore, 1)) (hK0 : tk a = 12) (hK2 : tk x = 0) (hi : vp_in i (tn a)) (h : R l G cy y b nL rt d mc ms Q (pc + 1) lv st (setQ S a (va_up (sQ S a) i.toNatClampNeg (some x))) k n) : R l G cy y b nL rt d mc ms Q pc lv (.ref x :: .int i :: .ref a :: st) S k n := by
  intro p e s m args below meth c H locs ls A ρ L0 ρ0 X hK hA hP hD hS hl hoL hoS hρ hLL
  obtain ⟨hx, hb, hr, hml, hown, hts, hlk, hnm⟩ := id X
  obtain ⟨q0, hq0⟩ := List.getElem?_of_mem hoS.2.2.1
  have hq := pool_at (cy := cy) (ρ := ρ) hq0
  rw [pf_arq (by omega), hK0] at hq
  obtain ⟨q2, hq2⟩ := List.getElem?_of_mem hoS.1
  have hq2 := pool_at (cy := cy) (ρ := ρ) hq2
  rw [pf_obj hK2 (by omega)] at hq2
  refine va_astq (r := (RX0, TX0, 8)) hx hb hK.1 hP hD hS q0 2 q2 0 hq rfl hq2 rfl hi hd (fun H1 locs1 hP1 hD1 hS1 => ?_)
  have e6 : (va_up (fun i => (sQ S a i).map ρ) i.toNatClampNeg (some (ρ x))) = (fun j => (va_up (sQ S a) i.toNatClampNeg (some x) j).map ρ) := by
    funext j
    unfold va_up
    split <;> rfl
  rw [e6] at hP1 hD1
  have e7 : (pool cy ρ S).set q0 (ρ a, .inl (cy 12, tn a, .inr (.inr (.inr (.inr (fun j => (va_up (sQ S a) i.toNatClampNeg (some x) j).map ρ)))))) = pool cy ρ (setQ S a (va_up (sQ S a) i.toNatClampNeg (some x))) := pool_set hD hq0 rfl (by rw [← hK0]; exact pf_setQ (by omega)) pf_setQ2
  rw [e7] at hP1 hD1
  exact h p e s m args below meth c H1 locs1 ls A ρ L0 ρ0 X hK hA hP1 hD1 hS1 hl hoL hoS.2.2.2 hρ hLL
theorem r_aald13 {a : Nat} {i : Int32} (hd : decode b pc = .ok (.aaload, 1)) (hK0 : tk a = 13) (hi : vp_in i (tn a)) (hv : okV (sL S) (va_rf (sQ S a i.toNatClampNeg))) (h : R l G cy y b nL rt d mc ms Q (pc + 1) lv (va_rf (sQ S a i.toNatClampNeg) :: st) S k n) : R l G cy y b nL rt d mc ms Q pc lv (.int i :: .ref a :: st) S k n := by
  intro p e s m args below meth c H locs ls A ρ L0 ρ0 X hK hA hP hD hS hl hoL hoS hρ hLL
  obtain ⟨hx, hb, hr, hml, hown, hts, hlk, hnm⟩ := id X
  obtain ⟨q0, hq0⟩ := List.getElem?_of_mem hoS.2.1
  have hq := pool_at (cy := cy) (ρ := ρ) hq0
  rw [pf_arq (by omega), hK0] at hq
  have h' := (h p e s m args below meth c H locs ls A ρ L0 ρ0 X hK hA hP hD hS hl hoL ⟨hv, hoS.2.2⟩ hρ hLL)
  rw [List.map_cons, rn_rf] at h'
  exact va_aldq hx hb hK.1 hP q0 3 hq rfl hi hd h'
theorem r_aast13 {a x : Nat} {i : Int32} (hd : decode b pc = .ok (.aastore, 1)) (hK0 : tk a = 13) (hK2 : tk x = 2) (hi : vp_in i (tn a)) (h : R l G cy y b nL rt d mc ms Q (pc + 1) lv st (setQ S a (va_up (sQ S a) i.toNatClampNeg (some x))) k n) : R l G cy y b nL rt d mc ms Q pc lv (.ref x :: .int i :: .ref a :: st) S k n := by
  intro p e s m args below meth c H locs ls A ρ L0 ρ0 X hK hA hP hD hS hl hoL hoS hρ hLL
  obtain ⟨hx, hb, hr, hml, hown, hts, hlk, hnm⟩ := id X
  obtain ⟨q0, hq0⟩ := List.getElem?_of_mem hoS.2.2.1
  have hq := pool_at (cy := cy) (ρ := ρ) hq0
  rw [pf_arq (by omega), hK0] at hq
  obtain ⟨q2, hq2⟩ := List.getElem?_of_mem hoS.1
  have hq2 := pool_at (cy := cy) (ρ := ρ) hq2
  rw [pf_obj hK2 (by omega)] at hq2
  refine va_astq (r := (RX2, TX2, 11)) hx hb hK.1 hP hD hS q0 3 q2 2 hq rfl hq2 rfl hi hd (fun H1 locs1 hP1 hD1 hS1 => ?_)
  have e6 : (va_up (fun i => (sQ S a i).map ρ) i.toNatClampNeg (some (ρ x))) = (fun j => (va_up (sQ S a) i.toNatClampNeg (some x) j).map ρ) := by
    funext j
    unfold va_up
    split <;> rfl
  rw [e6] at hP1 hD1
  have e7 : (pool cy ρ S).set q0 (ρ a, .inl (cy 13, tn a, .inr (.inr (.inr (.inr (fun j => (va_up (sQ S a) i.toNatClampNeg (some x) j).map ρ)))))) = pool cy ρ (setQ S a (va_up (sQ S a) i.toNatClampNeg (some x))) := pool_set hD hq0 rfl (by rw [← hK0]; exact pf_setQ (by omega)) pf_setQ2
  rw [e7] at hP1 hD1
  exact h p e s m args below meth c H1 locs1 ls A ρ L0 ρ0 X hK hA hP1 hD1 hS1 hl hoL hoS.2.2.2 hρ hLL
theorem r_aald14 {a : Nat} {i : Int32} (hd : decode b pc = .ok (.aaload, 1)) (hK0 : tk a = 14) (hi : vp_in i (tn a)) (hv : okV (sL S) (va_rf (sQ S a i.toNatClampNeg))) (h : R l G cy y b nL rt d mc ms Q (pc + 1) lv (va_rf (sQ S a i.toNatClampNeg) :: st) S k n) : R l G cy y b nL rt d mc ms Q pc lv (.int i :: .ref a :: st) S k n := by
  intro p e s m args below meth c H locs ls A ρ L0 ρ0 X hK hA hP hD hS hl hoL hoS hρ hLL
  obtain ⟨hx, hb, hr, hml, hown, hts, hlk, hnm⟩ := id X
  obtain ⟨q0, hq0⟩ := List.getElem?_of_mem hoS.2.1
  have hq := pool_at (cy := cy) (ρ := ρ) hq0
  rw [pf_arq (by omega), hK0] at hq
  have h' := (h p e s m args below meth c H locs ls A ρ L0 ρ0 X hK hA hP hD hS hl hoL ⟨hv, hoS.2.2⟩ hρ hLL)
  rw [List.map_cons, rn_rf] at h'
  exact va_aldq hx hb hK.1 hP q0 4 hq rfl hi hd h'
theorem r_aast14 {a x : Nat} {i : Int32} (hd : decode b pc = .ok (.aastore, 1)) (hK0 : tk a = 14) (hK2 : tk x = 5) (hi : vp_in i (tn a)) (h : R l G cy y b nL rt d mc ms Q (pc + 1) lv st (setQ S a (va_up (sQ S a) i.toNatClampNeg (some x))) k n) : R l G cy y b nL rt d mc ms Q pc lv (.ref x :: .int i :: .ref a :: st) S k n := by
  intro p e s m args below meth c H locs ls A ρ L0 ρ0 X hK hA hP hD hS hl hoL hoS hρ hLL
  obtain ⟨hx, hb, hr, hml, hown, hts, hlk, hnm⟩ := id X
  obtain ⟨q0, hq0⟩ := List.getElem?_of_mem hoS.2.2.1
  have hq := pool_at (cy := cy) (ρ := ρ) hq0
  rw [pf_arq (by omega), hK0] at hq
  obtain ⟨q2, hq2⟩ := List.getElem?_of_mem hoS.1
  have hq2 := pool_at (cy := cy) (ρ := ρ) hq2
  rw [pf_obj hK2 (by omega)] at hq2
  refine va_astq (r := (RX5, TX5, 2)) hx hb hK.1 hP hD hS q0 4 q2 5 hq rfl hq2 rfl hi hd (fun H1 locs1 hP1 hD1 hS1 => ?_)
  have e6 : (va_up (fun i => (sQ S a i).map ρ) i.toNatClampNeg (some (ρ x))) = (fun j => (va_up (sQ S a) i.toNatClampNeg (some x) j).map ρ) := by
    funext j
    unfold va_up
    split <;> rfl
  rw [e6] at hP1 hD1
  have e7 : (pool cy ρ S).set q0 (ρ a, .inl (cy 14, tn a, .inr (.inr (.inr (.inr (fun j => (va_up (sQ S a) i.toNatClampNeg (some x) j).map ρ)))))) = pool cy ρ (setQ S a (va_up (sQ S a) i.toNatClampNeg (some x))) := pool_set hD hq0 rfl (by rw [← hK0]; exact pf_setQ (by omega)) pf_setQ2
  rw [e7] at hP1 hD1
  exact h p e s m args below meth c H1 locs1 ls A ρ L0 ρ0 X hK hA hP1 hD1 hS1 hl hoL hoS.2.2.2 hρ hLL
theorem r_aald15 {a : Nat} {i : Int32} (hd : decode b pc = .ok (.aaload, 1)) (hK0 : tk a = 15) (hi : vp_in i (tn a)) (hv : okV (sL S) (va_rf (sQ S a i.toNatClampNeg))) (h : R l G cy y b nL rt d mc ms Q (pc + 1) lv (va_rf (sQ S a i.toNatClampNeg) :: st) S k n) : R l G cy y b nL rt d mc ms Q pc lv (.int i :: .ref a :: st) S k n := by
  intro p e s m args below meth c H locs ls A ρ L0 ρ0 X hK hA hP hD hS hl hoL hoS hρ hLL
  obtain ⟨hx, hb, hr, hml, hown, hts, hlk, hnm⟩ := id X
  obtain ⟨q0, hq0⟩ := List.getElem?_of_mem hoS.2.1
  have hq := pool_at (cy := cy) (ρ := ρ) hq0
  rw [pf_arq (by omega), hK0] at hq
  have h' := (h p e s m args below meth c H locs ls A ρ L0 ρ0 X hK hA hP hD hS hl hoL ⟨hv, hoS.2.2⟩ hρ hLL)
  rw [List.map_cons, rn_rf] at h'
  exact va_aldq hx hb hK.1 hP q0 5 hq rfl hi hd h'
theorem r_aast15 {a x : Nat} {i : Int32} (hd : decode b pc = .ok (.aastore, 1)) (hK0 : tk a = 15) (hK2 : tk x = 7) (hi : vp_in i (tn a)) (h : R l G cy y b nL rt d mc ms Q (pc + 1) lv st (setQ S a (va_up (sQ S a) i.toNatClampNeg (some x))) k n) : R l G cy y b nL rt d mc ms Q pc lv (.ref x :: .int i :: .ref a :: st) S k n := by
  intro p e s m args below meth c H locs ls A ρ L0 ρ0 X hK hA hP hD hS hl hoL hoS hρ hLL
  obtain ⟨hx, hb, hr, hml, hown, hts, hlk, hnm⟩ := id X
  obtain ⟨q0, hq0⟩ := List.getElem?_of_mem hoS.2.2.1
  have hq := pool_at (cy := cy) (ρ := ρ) hq0
  rw [pf_arq (by omega), hK0] at hq
  obtain ⟨q2, hq2⟩ := List.getElem?_of_mem hoS.1
  have hq2 := pool_at (cy := cy) (ρ := ρ) hq2
  rw [pf_obj hK2 (by omega)] at hq2
  refine va_astq (r := (RX7, TX7, 5)) hx hb hK.1 hP hD hS q0 5 q2 7 hq rfl hq2 rfl hi hd (fun H1 locs1 hP1 hD1 hS1 => ?_)
  have e6 : (va_up (fun i => (sQ S a i).map ρ) i.toNatClampNeg (some (ρ x))) = (fun j => (va_up (sQ S a) i.toNatClampNeg (some x) j).map ρ) := by
    funext j
    unfold va_up
    split <;> rfl
  rw [e6] at hP1 hD1
  have e7 : (pool cy ρ S).set q0 (ρ a, .inl (cy 15, tn a, .inr (.inr (.inr (.inr (fun j => (va_up (sQ S a) i.toNatClampNeg (some x) j).map ρ)))))) = pool cy ρ (setQ S a (va_up (sQ S a) i.toNatClampNeg (some x))) := pool_set hD hq0 rfl (by rw [← hK0]; exact pf_setQ (by omega)) pf_setQ2
  rw [e7] at hP1 hD1
  exact h p e s m args below meth c H1 locs1 ls A ρ L0 ρ0 X hK hA hP1 hD1 hS1 hl hoL hoS.2.2.2 hρ hLL
theorem r_new (t : Nat) {ci idx : Nat} (hd : decode b pc = .ok (.new idx, 3)) (hk : LkN y.cls idx ci) (ht : tk t = ci) (hL : t ∉ sL S) (hF : Fr t S) (h1 : k + 1 ≤ mc) (h2 : n + nF ci ≤ ms) (h : R l G cy y b nL rt d mc ms Q (pc + 3) lv (.ref t :: st) (newO S t) (k + 1) (n + nF ci)) : R l G cy y b nL rt d mc ms Q pc lv st S k n := by
  intro p e s m args below meth c H locs ls A ρ L0 ρ0 X hK hA hP hD hS hl hoL hoS hρ hLL
  obtain ⟨hx, hb, hr, hml, hown, hts, hlk, hnm⟩ := id X
  obtain ⟨C, T, N, ty, ⟨c1, c2, c3, c4, c5, c6, c7⟩, w1, w2, w3⟩ := hk
  subst c2
  refine va_new (fs := dfs ci) hx hb hts (fun w h => TBc (c4 w h)) ty c5 hown (hts _ (TBc w1)) (hts _ (TBc w2)) (hts _ (TBc w3)) hK.1 hP hD hS hA c1 ?_ h1 h2 hd (fun q H1 hP1 hD1 hS1 => ?_)
  · intro j hj
    have e1 : vp_V (dfs ci) j = if fR ci j = true then Value.null else .int 0 := by simp [vp_V, dfs, List.getD, hj]
    rw [e1]
    rcases c7 j hj with ⟨a1, a2⟩ | ⟨a1, a2⟩
    · rw [a1, a2]; rfl
    · rw [a1, if_pos rfl]
      cases ht : ty j <;> rw [ht] at a2 <;> simp [isRefTy] at a2 <;> rfl
  · have hne : ∀ t' ∈ sL S, t' ≠ t := fun t' h1 h2 => hL (h2 ▸ h1)
    have hag : ∀ t' ∈ sL S, va_up ρ t q t' = ρ t' := fun t' h1 => va_up_ne _ _ (hne t' h1)
    have e7 : pool cy ρ S ++ [(q, .inr (ci, dfs ci))] = pool cy (va_up ρ t q) (newO S t) := pool_push rfl (va_up_self _ _ _) (pf_newO ht c3) (fun t' h1 => ⟨hag t' h1, pf_newO2 hF t' (hne t' h1)⟩)
    rw [e7] at hP1 hD1
    have hl' : lhm ls nL (va_up ρ t q) lv := by
      unfold lhm at hl ⊢
      rw [rnL_eq hag hoL]
      exact hl
    have hsub : ∀ t' ∈ sL S, t' ∈ sL (newO S t) := fun t' h1 => List.mem_append_left _ h1
    have h' := h p e s m args below meth c H1 locs ls A (va_up ρ t q) L0 ρ0 X hK hA hP1 hD1 hS1 hl' (okL_mono hsub hoL) ⟨List.mem_append_right _ (List.mem_singleton.mpr rfl), okS_mono hsub hoS⟩ (fun t' h1 => (hag t' (hLL t' h1)).trans (hρ t' h1)) (fun t' h1 => hsub t' (hLL t' h1))
    rw [List.map_cons, rnS_eq hag hoS] at h'
    have e5 : rn (va_up ρ t q) (.ref t) = .ref q := congrArg Value.ref (va_up_self _ _ _)
    rw [e5] at h'
    exact h'

theorem r_newI (t : Nat) {N : Nat} {z : Int32} (hd : decode b pc = .ok (.newarray .int, 2)) (hw : Cond.arrayClass .int ∈ TB) (hz : ¬ z < 0) (hN : z.toNatClampNeg = N) (hs : N * componentBytes .int ≤ 536870912) (ht : tk t = 10) (htn : tn t = N) (hL : t ∉ sL S) (hF : Fr t S) (h1 : k + 1 ≤ mc) (h2 : n + N ≤ ms) (h : R l G cy y b nL rt d mc ms Q (pc + 2) lv (.ref t :: st) (newA S t) (k + 1) (n + N)) : R l G cy y b nL rt d mc ms Q pc lv (.int z :: st) S k n := by
  intro p e s m args below meth c H locs ls A ρ L0 ρ0 X hK hA hP hD hS hl hoL hoS hρ hLL
  obtain ⟨hx, hb, hr, hml, hown, hts, hlk, hnm⟩ := id X
  refine va_newa (atype := .int) (ty := .int) (a0 := (N, .inl (fun _ => 0))) hx hb (hts _ (TBc hw)) rfl hK.1 hP hD hS hA (fun cA => by rw [vp_cell_i] <;> rfl) hz hN hs h1 h2 hd (fun q cA H1 hK1 hP1 hD1 hS1 => ?_)
  have hc : cA = cy 10 := by
    have e1 := (hK1.2 6 (cA, .int) rfl).2
    have e2 := (hK.1.2 0 (cy 10, .int) rfl).2
    exact Option.some.inj (e1.symm.trans e2)
  subst hc
  have hne : ∀ t' ∈ sL S, t' ≠ t := fun t' h1 h2 => hL (h2 ▸ h1)
  have hag : ∀ t' ∈ sL S, va_up ρ t q t' = ρ t' := fun t' h1 => va_up_ne _ _ (hne t' h1)
  have e7 : pool cy ρ S ++ [(q, .inl (cy 10, N, .inl (fun _ => 0)))] = pool cy (va_up ρ t q) (newA S t) := pool_push rfl (va_up_self _ _ _) (by rw [← htn, ← ht]; exact pf_newA (by omega) (by omega)) (fun t' h1 => ⟨hag t' h1, pf_newA2 hF t' (hne t' h1)⟩)
  rw [e7] at hP1 hD1
  have hl' : lhm ls nL (va_up ρ t q) lv := by
    unfold lhm at hl ⊢
    rw [rnL_eq hag hoL]
    exact hl
  have hsub : ∀ t' ∈ sL S, t' ∈ sL (newA S t) := fun t' h1 => List.mem_append_left _ h1
  have h' := h p e s m args below meth c H1 locs ls A (va_up ρ t q) L0 ρ0 X hK hA hP1 hD1 hS1 hl' (okL_mono hsub hoL) ⟨List.mem_append_right _ (List.mem_singleton.mpr rfl), okS_mono hsub hoS.2⟩ (fun t' h1 => (hag t' (hLL t' h1)).trans (hρ t' h1)) (fun t' h1 => hsub t' (hLL t' h1))
  rw [List.map_cons, rnS_eq hag hoS.2] at h'
  have e5 : rn (va_up ρ t q) (.ref t) = .ref q := congrArg Value.ref (va_up_self _ _ _)
  rw [e5] at h'
  exact h'

theorem r_newZ (t : Nat) {N : Nat} {z : Int32} (hd : decode b pc = .ok (.newarray .boolean, 2)) (hw : Cond.arrayClass .boolean ∈ TB) (hz : ¬ z < 0) (hN : z.toNatClampNeg = N) (hs : N * componentBytes .boolean ≤ 536870912) (ht : tk t = 11) (htn : tn t = N) (hL : t ∉ sL S) (hF : Fr t S) (h1 : k + 1 ≤ mc) (h2 : n + N ≤ ms) (h : R l G cy y b nL rt d mc ms Q (pc + 2) lv (.ref t :: st) (newA S t) (k + 1) (n + N)) : R l G cy y b nL rt d mc ms Q pc lv (.int z :: st) S k n := by
  intro p e s m args below meth c H locs ls A ρ L0 ρ0 X hK hA hP hD hS hl hoL hoS hρ hLL
  obtain ⟨hx, hb, hr, hml, hown, hts, hlk, hnm⟩ := id X
  refine va_newa (atype := .boolean) (ty := .boolean) (a0 := (N, .inl (fun _ => 0))) hx hb (hts _ (TBc hw)) rfl hK.1 hP hD hS hA (fun cA => by rw [vp_cell_i] <;> rfl) hz hN hs h1 h2 hd (fun q cA H1 hK1 hP1 hD1 hS1 => ?_)
  have hc : cA = cy 11 := by
    have e1 := (hK1.2 6 (cA, .boolean) rfl).2
    have e2 := (hK.1.2 1 (cy 11, .boolean) rfl).2
    exact Option.some.inj (e1.symm.trans e2)
  subst hc
  have hne : ∀ t' ∈ sL S, t' ≠ t := fun t' h1 h2 => hL (h2 ▸ h1)
  have hag : ∀ t' ∈ sL S, va_up ρ t q t' = ρ t' := fun t' h1 => va_up_ne _ _ (hne t' h1)
  have e7 : pool cy ρ S ++ [(q, .inl (cy 11, N, .inl (fun _ => 0)))] = pool cy (va_up ρ t q) (newA S t) := pool_push rfl (va_up_self _ _ _) (by rw [← htn, ← ht]; exact pf_newA (by omega) (by omega)) (fun t' h1 => ⟨hag t' h1, pf_newA2 hF t' (hne t' h1)⟩)
  rw [e7] at hP1 hD1
  have hl' : lhm ls nL (va_up ρ t q) lv := by
    unfold lhm at hl ⊢
    rw [rnL_eq hag hoL]
    exact hl
  have hsub : ∀ t' ∈ sL S, t' ∈ sL (newA S t) := fun t' h1 => List.mem_append_left _ h1
  have h' := h p e s m args below meth c H1 locs ls A (va_up ρ t q) L0 ρ0 X hK hA hP1 hD1 hS1 hl' (okL_mono hsub hoL) ⟨List.mem_append_right _ (List.mem_singleton.mpr rfl), okS_mono hsub hoS.2⟩ (fun t' h1 => (hag t' (hLL t' h1)).trans (hρ t' h1)) (fun t' h1 => hsub t' (hLL t' h1))
  rw [List.map_cons, rnS_eq hag hoS.2] at h'
  have e5 : rn (va_up ρ t q) (.ref t) = .ref q := congrArg Value.ref (va_up_self _ _ _)
  rw [e5] at h'
  exact h'

theorem r_newq12 (t : Nat) {N idx : Nat} {z : Int32} (hd : decode b pc = .ok (.anewarray idx, 3)) (hw : Cond.classLink y.cls idx RX0 ∈ TB) (hz : ¬ z < 0) (hN : z.toNatClampNeg = N) (hs : N * 4 ≤ 536870912) (ht : tk t = 12) (htn : tn t = N) (hL : t ∉ sL S) (hF : Fr t S) (h1 : k + 1 ≤ mc) (h2 : n + N ≤ ms) (h : R l G cy y b nL rt d mc ms Q (pc + 3) lv (.ref t :: st) (newA S t) (k + 1) (n + N)) : R l G cy y b nL rt d mc ms Q pc lv (.int z :: st) S k n := by
  intro p e s m args below meth c H locs ls A ρ L0 ρ0 X hK hA hP hD hS hl hoL hoS hρ hLL
  obtain ⟨hx, hb, hr, hml, hown, hts, hlk, hnm⟩ := id X
  refine va_newq hx hb hown (hts _ (TBc hw)) hK.2.2.1 hK.1 hP hD hS hA hz hN hs h1 h2 hd (fun q cA H1 hK1 hP1 hD1 hS1 => ?_)
  have hc : cA = cy 12 := by
    obtain ⟨_, _, _, _, _, e1⟩ := (hK1.2 6 (cA, .object RX0) rfl).2
    obtain ⟨_, _, _, _, _, e2⟩ := (hK.1.2 2 (cy 12, .object RX0) rfl).2
    exact Option.some.inj (e1.symm.trans e2)
  subst hc
  have hne : ∀ t' ∈ sL S, t' ≠ t := fun t' h1 h2 => hL (h2 ▸ h1)
  have hag : ∀ t' ∈ sL S, va_up ρ t q t' = ρ t' := fun t' h1 => va_up_ne _ _ (hne t' h1)
  have e7 : pool cy ρ S ++ [(q, .inl (cy 12, N, .inr (.inr (.inr (.inr (fun _ => none))))))] = pool cy (va_up ρ t q) (newA S t) := pool_push rfl (va_up_self _ _ _) (by rw [← htn, ← ht]; exact pf_newQ (by omega)) (fun t' h1 => ⟨hag t' h1, pf_newA2 hF t' (hne t' h1)⟩)
  rw [e7] at hP1 hD1
  have hl' : lhm ls nL (va_up ρ t q) lv := by
    unfold lhm at hl ⊢
    rw [rnL_eq hag hoL]
    exact hl
  have hsub : ∀ t' ∈ sL S, t' ∈ sL (newA S t) := fun t' h1 => List.mem_append_left _ h1
  have h' := h p e s m args below meth c H1 locs ls A (va_up ρ t q) L0 ρ0 X hK hA hP1 hD1 hS1 hl' (okL_mono hsub hoL) ⟨List.mem_append_right _ (List.mem_singleton.mpr rfl), okS_mono hsub hoS.2⟩ (fun t' h1 => (hag t' (hLL t' h1)).trans (hρ t' h1)) (fun t' h1 => hsub t' (hLL t' h1))
  rw [List.map_cons, rnS_eq hag hoS.2] at h'
  have e5 : rn (va_up ρ t q) (.ref t) = .ref q := congrArg Value.ref (va_up_self _ _ _)
  rw [e5] at h'
  exact h'

theorem r_newq13 (t : Nat) {N idx : Nat} {z : Int32} (hd : decode b pc = .ok (.anewarray idx, 3)) (hw : Cond.classLink y.cls idx RX2 ∈ TB) (hz : ¬ z < 0) (hN : z.toNatClampNeg = N) (hs : N * 4 ≤ 536870912) (ht : tk t = 13) (htn : tn t = N) (hL : t ∉ sL S) (hF : Fr t S) (h1 : k + 1 ≤ mc) (h2 : n + N ≤ ms) (h : R l G cy y b nL rt d mc ms Q (pc + 3) lv (.ref t :: st) (newA S t) (k + 1) (n + N)) : R l G cy y b nL rt d mc ms Q pc lv (.int z :: st) S k n := by
  intro p e s m args below meth c H locs ls A ρ L0 ρ0 X hK hA hP hD hS hl hoL hoS hρ hLL
  obtain ⟨hx, hb, hr, hml, hown, hts, hlk, hnm⟩ := id X
  refine va_newq hx hb hown (hts _ (TBc hw)) hK.2.2.2.1 hK.1 hP hD hS hA hz hN hs h1 h2 hd (fun q cA H1 hK1 hP1 hD1 hS1 => ?_)
  have hc : cA = cy 13 := by
    obtain ⟨_, _, _, _, _, e1⟩ := (hK1.2 6 (cA, .object RX2) rfl).2
    obtain ⟨_, _, _, _, _, e2⟩ := (hK.1.2 3 (cy 13, .object RX2) rfl).2
    exact Option.some.inj (e1.symm.trans e2)
  subst hc
  have hne : ∀ t' ∈ sL S, t' ≠ t := fun t' h1 h2 => hL (h2 ▸ h1)
  have hag : ∀ t' ∈ sL S, va_up ρ t q t' = ρ t' := fun t' h1 => va_up_ne _ _ (hne t' h1)
  have e7 : pool cy ρ S ++ [(q, .inl (cy 13, N, .inr (.inr (.inr (.inr (fun _ => none))))))] = pool cy (va_up ρ t q) (newA S t) := pool_push rfl (va_up_self _ _ _) (by rw [← htn, ← ht]; exact pf_newQ (by omega)) (fun t' h1 => ⟨hag t' h1, pf_newA2 hF t' (hne t' h1)⟩)
  rw [e7] at hP1 hD1
  have hl' : lhm ls nL (va_up ρ t q) lv := by
    unfold lhm at hl ⊢
    rw [rnL_eq hag hoL]
    exact hl
  have hsub : ∀ t' ∈ sL S, t' ∈ sL (newA S t) := fun t' h1 => List.mem_append_left _ h1
  have h' := h p e s m args below meth c H1 locs ls A (va_up ρ t q) L0 ρ0 X hK hA hP1 hD1 hS1 hl' (okL_mono hsub hoL) ⟨List.mem_append_right _ (List.mem_singleton.mpr rfl), okS_mono hsub hoS.2⟩ (fun t' h1 => (hag t' (hLL t' h1)).trans (hρ t' h1)) (fun t' h1 => hsub t' (hLL t' h1))
  rw [List.map_cons, rnS_eq hag hoS.2] at h'
  have e5 : rn (va_up ρ t q) (.ref t) = .ref q := congrArg Value.ref (va_up_self _ _ _)
  rw [e5] at h'
  exact h'

theorem r_newq14 (t : Nat) {N idx : Nat} {z : Int32} (hd : decode b pc = .ok (.anewarray idx, 3)) (hw : Cond.classLink y.cls idx RX5 ∈ TB) (hz : ¬ z < 0) (hN : z.toNatClampNeg = N) (hs : N * 4 ≤ 536870912) (ht : tk t = 14) (htn : tn t = N) (hL : t ∉ sL S) (hF : Fr t S) (h1 : k + 1 ≤ mc) (h2 : n + N ≤ ms) (h : R l G cy y b nL rt d mc ms Q (pc + 3) lv (.ref t :: st) (newA S t) (k + 1) (n + N)) : R l G cy y b nL rt d mc ms Q pc lv (.int z :: st) S k n := by
  intro p e s m args below meth c H locs ls A ρ L0 ρ0 X hK hA hP hD hS hl hoL hoS hρ hLL
  obtain ⟨hx, hb, hr, hml, hown, hts, hlk, hnm⟩ := id X
  refine va_newq hx hb hown (hts _ (TBc hw)) hK.2.2.2.2.1 hK.1 hP hD hS hA hz hN hs h1 h2 hd (fun q cA H1 hK1 hP1 hD1 hS1 => ?_)
  have hc : cA = cy 14 := by
    obtain ⟨_, _, _, _, _, e1⟩ := (hK1.2 6 (cA, .object RX5) rfl).2
    obtain ⟨_, _, _, _, _, e2⟩ := (hK.1.2 4 (cy 14, .object RX5) rfl).2
    exact Option.some.inj (e1.symm.trans e2)
  subst hc
  have hne : ∀ t' ∈ sL S, t' ≠ t := fun t' h1 h2 => hL (h2 ▸ h1)
  have hag : ∀ t' ∈ sL S, va_up ρ t q t' = ρ t' := fun t' h1 => va_up_ne _ _ (hne t' h1)
  have e7 : pool cy ρ S ++ [(q, .inl (cy 14, N, .inr (.inr (.inr (.inr (fun _ => none))))))] = pool cy (va_up ρ t q) (newA S t) := pool_push rfl (va_up_self _ _ _) (by rw [← htn, ← ht]; exact pf_newQ (by omega)) (fun t' h1 => ⟨hag t' h1, pf_newA2 hF t' (hne t' h1)⟩)
  rw [e7] at hP1 hD1
  have hl' : lhm ls nL (va_up ρ t q) lv := by
    unfold lhm at hl ⊢
    rw [rnL_eq hag hoL]
    exact hl
  have hsub : ∀ t' ∈ sL S, t' ∈ sL (newA S t) := fun t' h1 => List.mem_append_left _ h1
  have h' := h p e s m args below meth c H1 locs ls A (va_up ρ t q) L0 ρ0 X hK hA hP1 hD1 hS1 hl' (okL_mono hsub hoL) ⟨List.mem_append_right _ (List.mem_singleton.mpr rfl), okS_mono hsub hoS.2⟩ (fun t' h1 => (hag t' (hLL t' h1)).trans (hρ t' h1)) (fun t' h1 => hsub t' (hLL t' h1))
  rw [List.map_cons, rnS_eq hag hoS.2] at h'
  have e5 : rn (va_up ρ t q) (.ref t) = .ref q := congrArg Value.ref (va_up_self _ _ _)
  rw [e5] at h'
  exact h'

theorem r_newq15 (t : Nat) {N idx : Nat} {z : Int32} (hd : decode b pc = .ok (.anewarray idx, 3)) (hw : Cond.classLink y.cls idx RX7 ∈ TB) (hz : ¬ z < 0) (hN : z.toNatClampNeg = N) (hs : N * 4 ≤ 536870912) (ht : tk t = 15) (htn : tn t = N) (hL : t ∉ sL S) (hF : Fr t S) (h1 : k + 1 ≤ mc) (h2 : n + N ≤ ms) (h : R l G cy y b nL rt d mc ms Q (pc + 3) lv (.ref t :: st) (newA S t) (k + 1) (n + N)) : R l G cy y b nL rt d mc ms Q pc lv (.int z :: st) S k n := by
  intro p e s m args below meth c H locs ls A ρ L0 ρ0 X hK hA hP hD hS hl hoL hoS hρ hLL
  obtain ⟨hx, hb, hr, hml, hown, hts, hlk, hnm⟩ := id X
  refine va_newq hx hb hown (hts _ (TBc hw)) hK.2.2.2.2.2 hK.1 hP hD hS hA hz hN hs h1 h2 hd (fun q cA H1 hK1 hP1 hD1 hS1 => ?_)
  have hc : cA = cy 15 := by
    obtain ⟨_, _, _, _, _, e1⟩ := (hK1.2 6 (cA, .object RX7) rfl).2
    obtain ⟨_, _, _, _, _, e2⟩ := (hK.1.2 5 (cy 15, .object RX7) rfl).2
    exact Option.some.inj (e1.symm.trans e2)
  subst hc
  have hne : ∀ t' ∈ sL S, t' ≠ t := fun t' h1 h2 => hL (h2 ▸ h1)
  have hag : ∀ t' ∈ sL S, va_up ρ t q t' = ρ t' := fun t' h1 => va_up_ne _ _ (hne t' h1)
  have e7 : pool cy ρ S ++ [(q, .inl (cy 15, N, .inr (.inr (.inr (.inr (fun _ => none))))))] = pool cy (va_up ρ t q) (newA S t) := pool_push rfl (va_up_self _ _ _) (by rw [← htn, ← ht]; exact pf_newQ (by omega)) (fun t' h1 => ⟨hag t' h1, pf_newA2 hF t' (hne t' h1)⟩)
  rw [e7] at hP1 hD1
  have hl' : lhm ls nL (va_up ρ t q) lv := by
    unfold lhm at hl ⊢
    rw [rnL_eq hag hoL]
    exact hl
  have hsub : ∀ t' ∈ sL S, t' ∈ sL (newA S t) := fun t' h1 => List.mem_append_left _ h1
  have h' := h p e s m args below meth c H1 locs ls A (va_up ρ t q) L0 ρ0 X hK hA hP1 hD1 hS1 hl' (okL_mono hsub hoL) ⟨List.mem_append_right _ (List.mem_singleton.mpr rfl), okS_mono hsub hoS.2⟩ (fun t' h1 => (hag t' (hLL t' h1)).trans (hρ t' h1)) (fun t' h1 => hsub t' (hLL t' h1))
  rw [List.map_cons, rnS_eq hag hoS.2] at h'
  have e5 : rn (va_up ρ t q) (.ref t) = .ref q := congrArg Value.ref (va_up_self _ _ _)
  rw [e5] at h'
  exact h'

theorem cat_map (ρ : Nat → Nat) : ∀ (st : List Value), ((st.map (rn ρ)).map fun v => v.category).sum = (st.map fun v => v.category).sum
  | [] => rfl
  | v :: r => by
    have ih := cat_map ρ r
    simp only [List.map_cons, List.sum_cons, rn_cat] at ih ⊢
    rw [ih]
def LkMmin (own : String) (idx : Nat) : Prop := Cond.methodLink own idx Lib.Math.min.name ∈ TB ∧ Cond.static Lib.Math.min.name ∈ TB ∧ Cond.initialized "java/lang/Math" ∈ TB ∧ Cond.code Lib.Math.min.name Lib.Math.min.code 2 (some .int) ∈ TB
theorem r_mmin {idx : Nat} {x z : Int32} (hd : decode b pc = .ok (.invokestatic idx, 3)) (hw : LkMmin y.cls idx) (hd1 : 1 ≤ d) (hst : (st.map fun v => v.category).sum ≤ 8) (h1 : k ≤ mc) (h2 : n ≤ ms) (h : R l G cy y b nL rt d mc ms Q (pc + 3) lv (.int (if z < x then z else x) :: st) S k n) : R l G cy y b nL rt d mc ms Q pc lv (.int z :: .int x :: st) S k n := by
  intro p e s m args below meth c H locs ls A ρ L0 ρ0 X hK hA hP hD hS hl hoL hoS hρ hLL
  obtain ⟨hx, hb, hr, hml, hown, hts, hlk, hnm⟩ := id X
  have hl1 : c.maxLocals = ls.size := hml.trans hl.1.symm
  exact va_mmin hx hb hl1 hown (hts _ (TBc hw.1)) (hts _ (TBc hw.2.1)) (hts _ (TBc hw.2.2.1)) (hts _ (TBc hw.2.2.2)) hd1 (by rw [cat_map]; show _ ≤ 40 * d; omega) h1 h2 hd (h p e s m args below meth c H locs ls A ρ L0 ρ0 X hK hA hP hD hS hl hoL ⟨trivial, hoS.2.2⟩ hρ hLL)
def LkMmax (own : String) (idx : Nat) : Prop := Cond.methodLink own idx Lib.Math.max.name ∈ TB ∧ Cond.static Lib.Math.max.name ∈ TB ∧ Cond.initialized "java/lang/Math" ∈ TB ∧ Cond.code Lib.Math.max.name Lib.Math.max.code 2 (some .int) ∈ TB
theorem r_mmax {idx : Nat} {x z : Int32} (hd : decode b pc = .ok (.invokestatic idx, 3)) (hw : LkMmax y.cls idx) (hd1 : 1 ≤ d) (hst : (st.map fun v => v.category).sum ≤ 8) (h1 : k ≤ mc) (h2 : n ≤ ms) (h : R l G cy y b nL rt d mc ms Q (pc + 3) lv (.int (if x < z then z else x) :: st) S k n) : R l G cy y b nL rt d mc ms Q pc lv (.int z :: .int x :: st) S k n := by
  intro p e s m args below meth c H locs ls A ρ L0 ρ0 X hK hA hP hD hS hl hoL hoS hρ hLL
  obtain ⟨hx, hb, hr, hml, hown, hts, hlk, hnm⟩ := id X
  have hl1 : c.maxLocals = ls.size := hml.trans hl.1.symm
  exact va_mmax hx hb hl1 hown (hts _ (TBc hw.1)) (hts _ (TBc hw.2.1)) (hts _ (TBc hw.2.2.1)) (hts _ (TBc hw.2.2.2)) hd1 (by rw [cat_map]; show _ ≤ 40 * d; omega) h1 h2 hd (h p e s m args below meth c H locs ls A ρ L0 ρ0 X hK hA hP hD hS hl hoL ⟨trivial, hoS.2.2⟩ hρ hLL)
def LkO (own : String) (idx : Nat) : Prop := Cond.methodLink own idx objectInit ∈ TB ∧ Cond.instanceMethod objectInit ∈ TB ∧ Cond.code objectInit ⟨#[0xb1]⟩ 1 none ∈ TB
theorem r_objInit {idx a : Nat} (hd : decode b pc = .ok (.invokespecial idx, 3)) (hw : LkO y.cls idx) (hd1 : 1 ≤ d) (hst : (st.map fun v => v.category).sum ≤ 8) (h : R l G cy y b nL rt d mc ms Q (pc + 3) lv st S k n) : R l G cy y b nL rt d mc ms Q pc lv (.ref a :: st) S k n := by
  intro p e s m args below meth c H locs ls A ρ L0 ρ0 X hK hA hP hD hS hl hoL hoS hρ hLL
  obtain ⟨hx, hb, hr, hml, hown, hts, hlk, hnm⟩ := id X
  have hl1 : ls.size = c.maxLocals := hl.1.trans hml.symm
  exact W.objInit hx hb hown (hts _ (TBc hw.1)) (hts _ (TBc hw.2.1)) (hts _ (TBc hw.2.2)) rfl hl1 rfl hd hd1 (by have := lv_room (m := m) (pc := pc) (ls := ls) (rest := ((Value.ref a :: st).map (rn ρ))) (st := st.map (rn ρ)) (by rw [cat_map]; exact hst); show _ ≤ 40 * d; omega) (h p e s m args below meth c H locs ls A ρ L0 ρ0 X hK hA hP hD hS hl hoL hoS.2 hρ hLL)
theorem Pcn.blind {ρ : Nat → Nat} {args : List Value} {sz : Nat} : FrameBlind (Pcn G cy ρ args S sz) := by
  intro a U g mk q
  obtain ⟨q0, q1, qP, qK, qD⟩ := q
  exact ⟨q0, q1, qP, qK.calling, qD⟩
theorem TBgood (y b nL rt) (y' b' nL' rt') (h : Cond.code y' b' nL' rt' ∈ TB) : GoodIn (Cond.code y b nL rt :: TB) (Cond.code y' b' nL' rt' :: TB) := by
  intro w hw
  rcases List.mem_cons.mp hw with rfl | hw
  · exact ⟨TBc h, good_of_word (TB_good h)⟩
  · exact ⟨TBc hw, good_of_word (TB_good hw)⟩
theorem okS_app {L : List Nat} : ∀ {a b : List Value}, okS L (a ++ b) ↔ okS L a ∧ okS L b
  | [], b => ⟨fun h => ⟨trivial, h⟩, fun h => h.2⟩
  | v :: r, b => ⟨fun h => ⟨⟨h.1, (okS_app.mp h.2).1⟩, (okS_app.mp h.2).2⟩, fun h => ⟨h.1.1, okS_app.mpr ⟨h.1.2, h.2⟩⟩⟩
theorem okS_rev {L : List Nat} : ∀ {a : List Value}, okS L a.reverse → okS L a
  | [], h => trivial
  | v :: r, h => by
    rw [List.reverse_cons] at h
    exact ⟨(okS_app.mp h).2.1, okS_rev (okS_app.mp h).1⟩
/-- behind any call: the heap is the callee's -/
theorem r_behind {Q' : Option Value → HS → Prop} {mc' ms' : Nat} {st0 rest : List Value} {a : Array Value} {p : Program} {e : Env} {s : State} {m : MethodId} {args : Array Value} {below : List Frame} {meth : Method} {c : Code} {H : Heap} {locs : List Loc} {ls : Array Slot} {A : Nat → Prop} {ρ : Nat → Nat} {L0 : List Nat} {ρ0 : Nat → Nat} (X : Cx y b nL rt p s m args meth c) (hK : KK G cy s) (hA : ∀ q : Nat, s.heap.size ≤ q → A q) (hP : va_P G vwCl (pool cy ρ S) H) (hD : va_D A (pool cy ρ S)) (hS : va_S A s.heap H locs) (hl : lhm ls nL ρ lv) (hoL : okL (sL S) lv) (hoR : okS (sL S) rest) (hρ : ∀ t ∈ L0, ρ t = ρ0 t) (hLL : ∀ t ∈ L0, t ∈ sL S)
    (hr : va_Run p l e (rmO d mc ms) s m args below meth c H locs k n mc' ms' (F0 m pc ls st0) (rest.map (rn ρ)) (Qcn G cy Q' (va_A (pool cy ρ S) H.size) (sL S) ρ a) (va_A (pool cy ρ S) H.size))
    (h : ∀ (v : Option Value) (S' : HS), Q' v S' → R l G cy y b nL rt d mc ms Q (pc + 3) lv (v.toList ++ rest) S' (k + mc') (n + ms')) : W p l e (rmO d mc ms) s m args below meth c H locs k n (MQ below (Qcn G cy Q A L0 ρ0) args s mc ms A) (F0 m pc ls st0) := by
  have hF : ∀ q, va_A (pool cy ρ S) H.size q → A q := by
    intro q hq
    rcases hq with ⟨i, e1, h1⟩ | h1
    · exact hD.2 i (q, e1) h1
    · exact hA q (Nat.le_trans hS.1 h1)
  intro T hT hst
  obtain ⟨v, st₀, t, T', L, h0, X', hL, e1, e2, ⟨⟨v', S', ρ', hv, hq, hρ', hLL', hov, hP1, hD1⟩, hz, hk⟩, stp⟩ := hr T hT hst
  cases hv
  rw [h0] at hz hk
  have hS1 : va_S A s.heap T'.heap (locs ++ L) := by
    refine ⟨Nat.le_trans hS.1 (by rw [e1]; exact hz), fun q h1 h2 => ?_, fun q hq => ?_⟩
    · rw [e1, hk q (Nat.lt_of_lt_of_le h1 hS.1) (fun z => h2 (hF q z))]
      exact hS.2.1 q h1 h2
    · rcases List.mem_append.mp hq with h9 | h9
      · exact hS.2.2 q h9
      · exact hF _ (hL q h9)
  have hl' : lhm ls nL ρ' lv := by
    unfold lhm at hl ⊢
    rw [rnL_eq hρ' hoL]
    exact hl
  have hos : okS (sL S') (v'.toList ++ rest) := by
    refine okS_app.mpr ⟨?_, okS_mono hLL' hoR⟩
    cases v' with
    | none => trivial
    | some x => exact ⟨hov x rfl, trivial⟩
  have e9 : (v'.toList ++ rest).map (rn ρ') = (v'.map (rn ρ')).toList ++ rest.map (rn ρ) := by
    rw [List.map_append, rnS_eq hρ' hoR]
    cases v' <;> rfl
  have hW := h v' S' hq p e s m args below meth c T'.heap (locs ++ L) ls A ρ' L0 ρ0 X hK hA (by rw [e1]; exact hP1) (hD1.weaken (fun i q _ hz => hF q.1 hz)) hS1 hl' (okL_mono hLL' hoL) hos (fun t ht => (hρ' t (hLL t ht)).trans (hρ t ht)) (fun t ht => hLL' t (hLL t ht))
  rw [e9] at hW
  obtain ⟨t2, a1, b1⟩ := hW T' rfl X'
  exact ⟨t2, stp t2 a1, b1⟩
/-- what a call wants of the tables: an instance method (virtual or private), a static one, a constructor, a nest mate's constructor -/
def LkV (own : String) (idx : Nat) (y' : MethodName) (b' : ByteArray) (nL' : Nat) (rt' : Option FieldType) (np ci : Nat) : Prop := Cond.methodLink own idx y' ∈ TB ∧ Cond.instanceMethod y' ∈ TB ∧ Cond.selects y'.cls y' y' ∈ TB ∧ Cond.initialized y'.cls ∈ TB ∧ Cond.code y' b' nL' rt' ∈ TB ∧ (y'.cls ≠ "java/lang/invoke/MethodHandle" ∧ y'.cls ≠ "java/lang/invoke/VarHandle" ∧ (parseMethodDescriptor y'.desc).map (fun d => d.parameters.length) = some np) ∧ nL' ≤ 21 ∧ ci < 10 ∧ ∃ q : vw_C, vwCl[ci]? = some q ∧ q.1 = y'.cls
def LkS (own : String) (idx : Nat) (y' : MethodName) (b' : ByteArray) (nL' : Nat) (rt' : Option FieldType) (np : Nat) : Prop := Cond.methodLink own idx y' ∈ TB ∧ Cond.static y' ∈ TB ∧ Cond.initialized y'.cls ∈ TB ∧ Cond.code y' b' nL' rt' ∈ TB ∧ (y'.cls ≠ "java/lang/invoke/MethodHandle" ∧ y'.cls ≠ "java/lang/invoke/VarHandle" ∧ (parseMethodDescriptor y'.desc).map (fun d => d.parameters.length) = some np) ∧ nL' ≤ 21
def LkI (own : String) (idx : Nat) (y' : MethodName) (b' : ByteArray) (nL' : Nat) (np : Nat) : Prop := (Cond.methodLink own idx y' ∈ TB ∨ Cond.methodLinkNest own idx y' RX8 ∈ nestW) ∧ Cond.instanceMethod y' ∈ TB ∧ Cond.initialized y'.cls ∈ TB ∧ Cond.code y' b' nL' none ∈ TB ∧ (y'.cls ≠ "java/lang/invoke/MethodHandle" ∧ y'.cls ≠ "java/lang/invoke/VarHandle" ∧ (parseMethodDescriptor y'.desc).map (fun d => d.parameters.length) = some np) ∧ nL' ≤ 21 ∧ y'.name = "<init>"

theorem r_callV {y' : MethodName} {b' : ByteArray} {nL' : Nat} {rt' : Option FieldType} {d' mc' ms' np ci idx o : Nat} {As rest : List Value} {Q' : Option Value → HS → Prop} (hd : decode b pc = .ok (.invokevirtual idx, 3)) (hk : LkV y.cls idx y' b' nL' rt' np ci) (hK0 : tk o = ci) (hC : Cn l G cy y' b' nL' rt' d' (.ref o :: As) S mc' ms' Q') (hnp : As.length = np) (hc : (rest.map fun v => v.category).sum ≤ 8) (hdd : d' + 1 ≤ d) (h1 : k + mc' ≤ mc) (h2 : n + ms' ≤ ms) (h : ∀ (v : Option Value) (S' : HS), Q' v S' → R l G cy y b nL rt d mc ms Q (pc + 3) lv (v.toList ++ rest) S' (k + mc') (n + ms')) : R l G cy y b nL rt d mc ms Q pc lv (As.reverse ++ .ref o :: rest) S k n := by
  intro p e s m args below meth c H locs ls A ρ L0 ρ0 X hK hA hP hD hS hl hoL hoS hρ hLL
  obtain ⟨hx, hb, hr, hml, hown, hts, hlk, hnm⟩ := id X
  obtain ⟨w1, w2, w3, w4, w5, w6, w7, w8, vq, w9, w10⟩ := hk
  have ho1 := (okS_app.mp hoS).1
  have ho2 := (okS_app.mp hoS).2
  obtain ⟨q0, hq0⟩ := List.getElem?_of_mem ho2.1
  have hq := pool_at (cy := cy) (ρ := ρ) hq0
  rw [pf_obj hK0 w8] at hq
  have hre := va_recv hK.1 hP w9 hq
  rw [w10] at hre
  have hcb : CallB (rmO d mc ms) s args y.cls idx y' b' nL' rt' (Cond.code y' b' nL' rt' :: TB) (rmO d' mc' ms') mc' ms' np := callB_of np hts (TBgood y b nL rt y' b' nL' rt' w5) rfl rfl rfl (hts _ (TBc w4)) (hts _ (TBc w1)) w6 ⟨hdd, by show 8 + (nL' + 11) + 40 * d' ≤ 40 * d; omega⟩
  exact r_behind X hK hA hP hD hS hl hoL ho2.2 hρ hLL (va_runV (As := As.map (rn ρ)) (b := ρ o) ⟨hx, hb, hml, hown, hts⟩ (hC ⟨ho2.1, okS_rev ho1⟩ H.size ρ) ⟨hcb, hts _ (TBc w2), hts _ (TBc w3)⟩ ⟨Pcn.blind, hre, fun U hU hW => ⟨rfl, by rw [hU], by rw [hU]; exact hP, hK.warm hW, hD.weaken (fun _ _ _ _ => trivial)⟩⟩ rfl (by rw [List.length_map]; exact hnp) hl.1 (by show List.map _ _ = _; rw [List.map_append, List.map_reverse]; rfl) (lv_room (by rw [cat_map]; exact hc)) hd ⟨h1, h2⟩) h
theorem r_callS {y' : MethodName} {b' : ByteArray} {nL' : Nat} {rt' : Option FieldType} {d' mc' ms' np idx : Nat} {As rest : List Value} {Q' : Option Value → HS → Prop} (hd : decode b pc = .ok (.invokestatic idx, 3)) (hk : LkS y.cls idx y' b' nL' rt' np) (hC : Cn l G cy y' b' nL' rt' d' As S mc' ms' Q') (hnp : As.length = np) (hc : (rest.map fun v => v.category).sum ≤ 8) (hdd : d' + 1 ≤ d) (h1 : k + mc' ≤ mc) (h2 : n + ms' ≤ ms) (h : ∀ (v : Option Value) (S' : HS), Q' v S' → R l G cy y b nL rt d mc ms Q (pc + 3) lv (v.toList ++ rest) S' (k + mc') (n + ms')) : R l G cy y b nL rt d mc ms Q pc lv (As.reverse ++ rest) S k n := by
  intro p e s m args below meth c H locs ls A ρ L0 ρ0 X hK hA hP hD hS hl hoL hoS hρ hLL
  obtain ⟨hx, hb, hr, hml, hown, hts, hlk, hnm⟩ := id X
  obtain ⟨w1, w2, w4, w5, w6, w7⟩ := hk
  have ho1 := (okS_app.mp hoS).1
  have ho2 := (okS_app.mp hoS).2
  have hcb : CallB (rmO d mc ms) s args y.cls idx y' b' nL' rt' (Cond.code y' b' nL' rt' :: TB) (rmO d' mc' ms') mc' ms' np := callB_of np hts (TBgood y b nL rt y' b' nL' rt' w5) rfl rfl rfl (hts _ (TBc w4)) (hts _ (TBc w1)) w6 ⟨hdd, by show 8 + (nL' + 11) + 40 * d' ≤ 40 * d; omega⟩
  exact r_behind X hK hA hP hD hS hl hoL ho2 hρ hLL (va_runS (As := As.map (rn ρ)) ⟨hx, hb, hml, hown, hts⟩ (hC (okS_rev ho1) H.size ρ) ⟨hcb, hts _ (TBc w2)⟩ ⟨Pcn.blind, fun U hU hW => ⟨rfl, by rw [hU], by rw [hU]; exact hP, hK.warm hW, hD.weaken (fun _ _ _ _ => trivial)⟩⟩ rfl (by rw [List.length_map]; exact hnp) hl.1 (by show List.map _ _ = _; rw [List.map_append, List.map_reverse]) (lv_room (by rw [cat_map]; exact hc)) hd ⟨h1, h2⟩) h
theorem r_callI {y' : MethodName} {b' : ByteArray} {nL' : Nat} {d' mc' ms' np idx o : Nat} {As rest : List Value} {Q' : Option Value → HS → Prop} (hd : decode b pc = .ok (.invokespecial idx, 3)) (hk : LkI y.cls idx y' b' nL' np) (hC : Cn l G cy y' b' nL' none d' (.ref o :: As) S mc' ms' Q') (hnp : As.length = np) (hc : (rest.map fun v => v.category).sum ≤ 8) (hdd : d' + 1 ≤ d) (h1 : k + mc' ≤ mc) (h2 : n + ms' ≤ ms) (h : ∀ (v : Option Value) (S' : HS), Q' v S' → R l G cy y b nL rt d mc ms Q (pc + 3) lv (v.toList ++ rest) S' (k + mc') (n + ms')) : R l G cy y b nL rt d mc ms Q pc lv (As.reverse ++ .ref o :: rest) S k n := by
  intro p e s m args below meth c H locs ls A ρ L0 ρ0 X hK hA hP hD hS hl hoL hoS hρ hLL
  obtain ⟨hx, hb, hr, hml, hown, hts, hlk, hnm⟩ := id X
  obtain ⟨w1, w2, w4, w5, w6, w7, w8⟩ := hk
  have ho1 := (okS_app.mp hoS).1
  have ho2 := (okS_app.mp hoS).2
  have hM := hC ⟨ho2.1, okS_rev ho1⟩ H.size ρ
  have hpre : PreS s H (Pcn G cy ρ (.ref o :: As) S H.size) ((Value.ref (ρ o) :: As.map (rn ρ))) := ⟨Pcn.blind, fun U hU hW => ⟨rfl, by rw [hU], by rw [hU]; exact hP, hK.warm hW, hD.weaken (fun _ _ _ _ => trivial)⟩⟩
  have hro : (rmO d' mc' ms').frames + 1 ≤ (rmO d mc ms).frames ∧ 8 + (nL' + 11) + (rmO d' mc' ms').locals ≤ (rmO d mc ms).locals := ⟨hdd, by show 8 + (nL' + 11) + 40 * d' ≤ 40 * d; omega⟩
  have hstk : (F0 m pc ls ((As.reverse ++ Value.ref o :: rest).map (rn ρ))).stack = (As.map (rn ρ)).reverse ++ .ref (ρ o) :: rest.map (rn ρ) := by
    show List.map _ _ = _
    rw [List.map_append, List.map_reverse]
    rfl
  rcases w1 with w1 | w1
  · have hcb : CallB (rmO d mc ms) s args y.cls idx y' b' nL' none (Cond.code y' b' nL' none :: TB) (rmO d' mc' ms') mc' ms' np := callB_of np hts (TBgood y b nL rt y' b' nL' none w5) rfl rfl rfl (hts _ (TBc w4)) (hts _ (TBc w1)) w6 hro
    exact r_behind X hK hA hP hD hS hl hoL ho2.2 hρ hLL (va_runI (As := As.map (rn ρ)) (b := ρ o) ⟨hx, hb, hml, hown, hts⟩ hM ⟨hcb, w8, hts _ (TBc w2)⟩ hpre rfl (by rw [List.length_map]; exact hnp) hl.1 hstk (lv_room (by rw [cat_map]; exact hc)) hd ⟨h1, h2⟩) h
  · have hcb := va_cnB (R := rmO d mc ms) (rm := rmO d' mc' ms') (mc := mc') (ms := ms') np hts (TBgood y b nL rt y' b' nL' none w5) rfl rfl rfl (hK.2.1 _ w1) (hts _ (TBc w4)) w6 hro
    exact r_behind X hK hA hP hD hS hl hoL ho2.2 hρ hLL (va_runIN (As := As.map (rn ρ)) (b := ρ o) ⟨hx, hb, hml, hown, hts⟩ hM ⟨hcb, w8, hts _ (TBc w2)⟩ hpre rfl (by rw [List.length_map]; exact hnp) hl.1 hstk (lv_room (by rw [cat_map]; exact hc)) hd ⟨h1, h2⟩) h
-- calls by the number of arguments and the kind of the answer
theorem r_invV0i {y' : MethodName} {b' : ByteArray} {nL' : Nat} {rt' : Option FieldType} {d' mc' ms' idx : Nat} {ci : Nat} {o : Nat}  {Q0 : Int32 → HS → Prop} (hd : decode b pc = .ok (.invokevirtual idx, 3)) (hk : LkV y.cls idx y' b' nL' rt' 0 ci) (hK0 : tk o = ci) (hC : Cn l G cy y' b' nL' rt' d' (.ref o :: []) S mc' ms' (qI Q0)) (hc : (st.map fun v => v.category).sum ≤ 8) (hdd : d' + 1 ≤ d) (h1 : k + mc' ≤ mc) (h2 : n + ms' ≤ ms) (h : ∀ (r : Int32) (S' : HS), Q0 r S' → R l G cy y b nL rt d mc ms Q (pc + 3) lv (.int r :: st) S' (k + mc') (n + ms')) : R l G cy y b nL rt d mc ms Q pc lv (.ref o :: st) S k n := r_callV (As := []) hd hk hK0 hC rfl hc hdd h1 h2 (fun v S2 hq => by obtain ⟨r, rfl, hq⟩ := hq; exact h r S2 hq)
theorem r_invV0v {y' : MethodName} {b' : ByteArray} {nL' : Nat} {rt' : Option FieldType} {d' mc' ms' idx : Nat} {ci : Nat} {o : Nat}  {Q0 : HS → Prop} (hd : decode b pc = .ok (.invokevirtual idx, 3)) (hk : LkV y.cls idx y' b' nL' rt' 0 ci) (hK0 : tk o = ci) (hC : Cn l G cy y' b' nL' rt' d' (.ref o :: []) S mc' ms' (qV Q0)) (hc : (st.map fun v => v.category).sum ≤ 8) (hdd : d' + 1 ≤ d) (h1 : k + mc' ≤ mc) (h2 : n + ms' ≤ ms) (h : ∀ (S' : HS), Q0 S' → R l G cy y b nL rt d mc ms Q (pc + 3) lv st S' (k + mc') (n + ms')) : R l G cy y b nL rt d mc ms Q pc lv (.ref o :: st) S k n := r_callV (As := []) hd hk hK0 hC rfl hc hdd h1 h2 (fun v S2 hq => by obtain ⟨rfl, hq⟩ := hq; exact h S2 hq)
theorem r_invV0r {y' : MethodName} {b' : ByteArray} {nL' : Nat} {rt' : Option FieldType} {d' mc' ms' idx : Nat} {ci : Nat} {o : Nat}  {Q0 : Option Nat → HS → Prop} (hd : decode b pc = .ok (.invokevirtual idx, 3)) (hk : LkV y.cls idx y' b' nL' rt' 0 ci) (hK0 : tk o = ci) (hC : Cn l G cy y' b' nL' rt' d' (.ref o :: []) S mc' ms' (qR Q0)) (hc : (st.map fun v => v.category).sum ≤ 8) (hdd : d' + 1 ≤ d) (h1 : k + mc' ≤ mc) (h2 : n + ms' ≤ ms) (h : ∀ (r : Option Nat) (S' : HS), Q0 r S' → R l G cy y b nL rt d mc ms Q (pc + 3) lv (va_rf r :: st) S' (k + mc') (n + ms')) : R l G cy y b nL rt d mc ms Q pc lv (.ref o :: st) S k n := r_callV (As := []) hd hk hK0 hC rfl hc hdd h1 h2 (fun v S2 hq => by obtain ⟨r, rfl, hq⟩ := hq; exact h r S2 hq)
theorem r_invS0i {y' : MethodName} {b' : ByteArray} {nL' : Nat} {rt' : Option FieldType} {d' mc' ms' idx : Nat}   {Q0 : Int32 → HS → Prop} (hd : decode b pc = .ok (.invokestatic idx, 3)) (hk : LkS y.cls idx y' b' nL' rt' 0) (hC : Cn l G cy y' b' nL' rt' d' [] S mc' ms' (qI Q0)) (hc : (st.map fun v => v.category).sum ≤ 8) (hdd : d' + 1 ≤ d) (h1 : k + mc' ≤ mc) (h2 : n + ms' ≤ ms) (h : ∀ (r : Int32) (S' : HS), Q0 r S' → R l G cy y b nL rt d mc ms Q (pc + 3) lv (.int r :: st) S' (k + mc') (n + ms')) : R l G cy y b nL rt d mc ms Q pc lv (st) S k n := r_callS (As := []) hd hk hC rfl hc hdd h1 h2 (fun v S2 hq => by obtain ⟨r, rfl, hq⟩ := hq; exact h r S2 hq)
theorem r_invS0v {y' : MethodName} {b' : ByteArray} {nL' : Nat} {rt' : Option FieldType} {d' mc' ms' idx : Nat}   {Q0 : HS → Prop} (hd : decode b pc = .ok (.invokestatic idx, 3)) (hk : LkS y.cls idx y' b' nL' rt' 0) (hC : Cn l G cy y' b' nL' rt' d' [] S mc' ms' (qV Q0)) (hc : (st.map fun v => v.category).sum ≤ 8) (hdd : d' + 1 ≤ d) (h1 : k + mc' ≤ mc) (h2 : n + ms' ≤ ms) (h : ∀ (S' : HS), Q0 S' → R l G cy y b nL rt d mc ms Q (pc + 3) lv st S' (k + mc') (n + ms')) : R l G cy y b nL rt d mc ms Q pc lv (st) S k n := r_callS (As := []) hd hk hC rfl hc hdd h1 h2 (fun v S2 hq => by obtain ⟨rfl, hq⟩ := hq; exact h S2 hq)
theorem r_invS0r {y' : MethodName} {b' : ByteArray} {nL' : Nat} {rt' : Option FieldType} {d' mc' ms' idx : Nat}   {Q0 : Option Nat → HS → Prop} (hd : decode b pc = .ok (.invokestatic idx, 3)) (hk : LkS y.cls idx y' b' nL' rt' 0) (hC : Cn l G cy y' b' nL' rt' d' [] S mc' ms' (qR Q0)) (hc : (st.map fun v => v.category).sum ≤ 8) (hdd : d' + 1 ≤ d) (h1 : k + mc' ≤ mc) (h2 : n + ms' ≤ ms) (h : ∀ (r : Option Nat) (S' : HS), Q0 r S' → R l G cy y b nL rt d mc ms Q (pc + 3) lv (va_rf r :: st) S' (k + mc') (n + ms')) : R l G cy y b nL rt d mc ms Q pc lv (st) S k n := r_callS (As := []) hd hk hC rfl hc hdd h1 h2 (fun v S2 hq => by obtain ⟨r, rfl, hq⟩ := hq; exact h r S2 hq)
theorem r_invI0v {y' : MethodName} {b' : ByteArray} {nL' : Nat}  {d' mc' ms' idx : Nat} {o : Nat}  {Q0 : HS → Prop} (hd : decode b pc = .ok (.invokespecial idx, 3)) (hk : LkI y.cls idx y' b' nL' 0) (hC : Cn l G cy y' b' nL' none d' (.ref o :: []) S mc' ms' (qV Q0)) (hc : (st.map fun v => v.category).sum ≤ 8) (hdd : d' + 1 ≤ d) (h1 : k + mc' ≤ mc) (h2 : n + ms' ≤ ms) (h : ∀ (S' : HS), Q0 S' → R l G cy y b nL rt d mc ms Q (pc + 3) lv st S' (k + mc') (n + ms')) : R l G cy y b nL rt d mc ms Q pc lv (.ref o :: st) S k n := r_callI (As := []) hd hk hC rfl hc hdd h1 h2 (fun v S2 hq => by obtain ⟨rfl, hq⟩ := hq; exact h S2 hq)
theorem r_invV1i {y' : MethodName} {b' : ByteArray} {nL' : Nat} {rt' : Option FieldType} {d' mc' ms' idx : Nat} {ci : Nat} {o : Nat} {a1 : Value} {Q0 : Int32 → HS → Prop} (hd : decode b pc = .ok (.invokevirtual idx, 3)) (hk : LkV y.cls idx y' b' nL' rt' 1 ci) (hK0 : tk o = ci) (hC : Cn l G cy y' b' nL' rt' d' (.ref o :: [a1]) S mc' ms' (qI Q0)) (hc : (st.map fun v => v.category).sum ≤ 8) (hdd : d' + 1 ≤ d) (h1 : k + mc' ≤ mc) (h2 : n + ms' ≤ ms) (h : ∀ (r : Int32) (S' : HS), Q0 r S' → R l G cy y b nL rt d mc ms Q (pc + 3) lv (.int r :: st) S' (k + mc') (n + ms')) : R l G cy y b nL rt d mc ms Q pc lv (a1 :: .ref o :: st) S k n := r_callV (As := [a1]) hd hk hK0 hC rfl hc hdd h1 h2 (fun v S2 hq => by obtain ⟨r, rfl, hq⟩ := hq; exact h r S2 hq)
theorem r_invV1v {y' : MethodName} {b' : ByteArray} {nL' : Nat} {rt' : Option FieldType} {d' mc' ms' idx : Nat} {ci : Nat} {o : Nat} {a1 : Value} {Q0 : HS → Prop} (hd : decode b pc = .ok (.invokevirtual idx, 3)) (hk : LkV y.cls idx y' b' nL' rt' 1 ci) (hK0 : tk o = ci) (hC : Cn l G cy y' b' nL' rt' d' (.ref o :: [a1]) S mc' ms' (qV Q0)) (hc : (st.map fun v => v.category).sum ≤ 8) (hdd : d' + 1 ≤ d) (h1 : k + mc' ≤ mc) (h2 : n + ms' ≤ ms) (h : ∀ (S' : HS), Q0 S' → R l G cy y b nL rt d mc ms Q (pc + 3) lv st S' (k + mc') (n + ms')) : R l G cy y b nL rt d mc ms Q pc lv (a1 :: .ref o :: st) S k n := r_callV (As := [a1]) hd hk hK0 hC rfl hc hdd h1 h2 (fun v S2 hq => by obtain ⟨rfl, hq⟩ := hq; exact h S2 hq)
theorem r_invV1r {y' : MethodName} {b' : ByteArray} {nL' : Nat} {rt' : Option FieldType} {d' mc' ms' idx : Nat} {ci : Nat} {o : Nat} {a1 : Value} {Q0 : Option Nat → HS → Prop} (hd : decode b pc = .ok (.invokevirtual idx, 3)) (hk : LkV y.cls idx y' b' nL' rt' 1 ci) (hK0 : tk o = ci) (hC : Cn l G cy y' b' nL' rt' d' (.ref o :: [a1]) S mc' ms' (qR Q0)) (hc : (st.map fun v => v.category).sum ≤ 8) (hdd : d' + 1 ≤ d) (h1 : k + mc' ≤ mc) (h2 : n + ms' ≤ ms) (h : ∀ (r : Option Nat) (S' : HS), Q0 r S' → R l G cy y b nL rt d mc ms Q (pc + 3) lv (va_rf r :: st) S' (k + mc') (n + ms')) : R l G cy y b nL rt d mc ms Q pc lv (a1 :: .ref o :: st) S k n := r_callV (As := [a1]) hd hk hK0 hC rfl hc hdd h1 h2 (fun v S2 hq => by obtain ⟨r, rfl, hq⟩ := hq; exact h r S2 hq)
theorem r_invS1i {y' : MethodName} {b' : ByteArray} {nL' : Nat} {rt' : Option FieldType} {d' mc' ms' idx : Nat}  {a1 : Value} {Q0 : Int32 → HS → Prop} (hd : decode b pc = .ok (.invokestatic idx, 3)) (hk : LkS y.cls idx y' b' nL' rt' 1) (hC : Cn l G cy y' b' nL' rt' d' [a1] S mc' ms' (qI Q0)) (hc : (st.map fun v => v.category).sum ≤ 8) (hdd : d' + 1 ≤ d) (h1 : k + mc' ≤ mc) (h2 : n + ms' ≤ ms) (h : ∀ (r : Int32) (S' : HS), Q0 r S' → R l G cy y b nL rt d mc ms Q (pc + 3) lv (.int r :: st) S' (k + mc') (n + ms')) : R l G cy y b nL rt d mc ms Q pc lv (a1 :: st) S k n := r_callS (As := [a1]) hd hk hC rfl hc hdd h1 h2 (fun v S2 hq => by obtain ⟨r, rfl, hq⟩ := hq; exact h r S2 hq)
theorem r_invS1v {y' : MethodName} {b' : ByteArray} {nL' : Nat} {rt' : Option FieldType} {d' mc' ms' idx : Nat}  {a1 : Value} {Q0 : HS → Prop} (hd : decode b pc = .ok (.invokestatic idx, 3)) (hk : LkS y.cls idx y' b' nL' rt' 1) (hC : Cn l G cy y' b' nL' rt' d' [a1] S mc' ms' (qV Q0)) (hc : (st.map fun v => v.category).sum ≤ 8) (hdd : d' + 1 ≤ d) (h1 : k + mc' ≤ mc) (h2 : n + ms' ≤ ms) (h : ∀ (S' : HS), Q0 S' → R l G cy y b nL rt d mc ms Q (pc + 3) lv st S' (k + mc') (n + ms')) : R l G cy y b nL rt d mc ms Q pc lv (a1 :: st) S k n := r_callS (As := [a1]) hd hk hC rfl hc hdd h1 h2 (fun v S2 hq => by obtain ⟨rfl, hq⟩ := hq; exact h S2 hq)
theorem r_invS1r {y' : MethodName} {b' : ByteArray} {nL' : Nat} {rt' : Option FieldType} {d' mc' ms' idx : Nat}  {a1 : Value} {Q0 : Option Nat → HS → Prop} (hd : decode b pc = .ok (.invokestatic idx, 3)) (hk : LkS y.cls idx y' b' nL' rt' 1) (hC : Cn l G cy y' b' nL' rt' d' [a1] S mc' ms' (qR Q0)) (hc : (st.map fun v => v.category).sum ≤ 8) (hdd : d' + 1 ≤ d) (h1 : k + mc' ≤ mc) (h2 : n + ms' ≤ ms) (h : ∀ (r : Option Nat) (S' : HS), Q0 r S' → R l G cy y b nL rt d mc ms Q (pc + 3) lv (va_rf r :: st) S' (k + mc') (n + ms')) : R l G cy y b nL rt d mc ms Q pc lv (a1 :: st) S k n := r_callS (As := [a1]) hd hk hC rfl hc hdd h1 h2 (fun v S2 hq => by obtain ⟨r, rfl, hq⟩ := hq; exact h r S2 hq)
theorem r_invI1v {y' : MethodName} {b' : ByteArray} {nL' : Nat}  {d' mc' ms' idx : Nat} {o : Nat} {a1 : Value} {Q0 : HS → Prop} (hd : decode b pc = .ok (.invokespecial idx, 3)) (hk : LkI y.cls idx y' b' nL' 1) (hC : Cn l G cy y' b' nL' none d' (.ref o :: [a1]) S mc' ms' (qV Q0)) (hc : (st.map fun v => v.category).sum ≤ 8) (hdd : d' + 1 ≤ d) (h1 : k + mc' ≤ mc) (h2 : n + ms' ≤ ms) (h : ∀ (S' : HS), Q0 S' → R l G cy y b nL rt d mc ms Q (pc + 3) lv st S' (k + mc') (n + ms')) : R l G cy y b nL rt d mc ms Q pc lv (a1 :: .ref o :: st) S k n := r_callI (As := [a1]) hd hk hC rfl hc hdd h1 h2 (fun v S2 hq => by obtain ⟨rfl, hq⟩ := hq; exact h S2 hq)
theorem r_invV2i {y' : MethodName} {b' : ByteArray} {nL' : Nat} {rt' : Option FieldType} {d' mc' ms' idx : Nat} {ci : Nat} {o : Nat} {a1 a2 : Value} {Q0 : Int32 → HS → Prop} (hd : decode b pc = .ok (.invokevirtual idx, 3)) (hk : LkV y.cls idx y' b' nL' rt' 2 ci) (hK0 : tk o = ci) (hC : Cn l G cy y' b' nL' rt' d' (.ref o :: [a1, a2]) S mc' ms' (qI Q0)) (hc : (st.map fun v => v.category).sum ≤ 8) (hdd : d' + 1 ≤ d) (h1 : k + mc' ≤ mc) (h2 : n + ms' ≤ ms) (h : ∀ (r : Int32) (S' : HS), Q0 r S' → R l G cy y b nL rt d mc ms Q (pc + 3) lv (.int r :: st) S' (k + mc') (n + ms')) : R l G cy y b nL rt d mc ms Q pc lv (a2 :: a1 :: .ref o :: st) S k n := r_callV (As := [a1, a2]) hd hk hK0 hC rfl hc hdd h1 h2 (fun v S2 hq => by obtain ⟨r, rfl, hq⟩ := hq; exact h r S2 hq)
theorem r_invV2v {y' : MethodName} {b' : ByteArray} {nL' : Nat} {rt' : Option FieldType} {d' mc' ms' idx : Nat} {ci : Nat} {o : Nat} {a1 a2 : Value} {Q0 : HS → Prop} (hd : decode b pc = .ok (.invokevirtual idx, 3)) (hk : LkV y.cls idx y' b' nL' rt' 2 ci) (hK0 : tk o = ci) (hC : Cn l G cy y' b' nL' rt' d' (.ref o :: [a1, a2]) S mc' ms' (qV Q0)) (hc : (st.map fun v => v.category).sum ≤ 8) (hdd : d' + 1 ≤ d) (h1 : k + mc' ≤ mc) (h2 : n + ms' ≤ ms) (h : ∀ (S' : HS), Q0 S' → R l G cy y b nL rt d mc ms Q (pc + 3) lv st S' (k + mc') (n + ms')) : R l G cy y b nL rt d mc ms Q pc lv (a2 :: a1 :: .ref o :: st) S k n := r_callV (As := [a1, a2]) hd hk hK0 hC rfl hc hdd h1 h2 (fun v S2 hq => by obtain ⟨rfl, hq⟩ := hq; exact h S2 hq)
theorem r_invV2r {y' : MethodName} {b' : ByteArray} {nL' : Nat} {rt' : Option FieldType} {d' mc' ms' idx : Nat} {ci : Nat} {o : Nat} {a1 a2 : Value} {Q0 : Option Nat → HS → Prop} (hd : decode b pc = .ok (.invokevirtual idx, 3)) (hk : LkV y.cls idx y' b' nL' rt' 2 ci) (hK0 : tk o = ci) (hC : Cn l G cy y' b' nL' rt' d' (.ref o :: [a1, a2]) S mc' ms' (qR Q0)) (hc : (st.map fun v => v.category).sum ≤ 8) (hdd : d' + 1 ≤ d) (h1 : k + mc' ≤ mc) (h2 : n + ms' ≤ ms) (h : ∀ (r : Option Nat) (S' : HS), Q0 r S' → R l G cy y b nL rt d mc ms Q (pc + 3) lv (va_rf r :: st) S' (k + mc') (n + ms')) : R l G cy y b nL rt d mc ms Q pc lv (a2 :: a1 :: .ref o :: st) S k n := r_callV (As := [a1, a2]) hd hk hK0 hC rfl hc hdd h1 h2 (fun v S2 hq => by obtain ⟨r, rfl, hq⟩ := hq; exact h r S2 hq)
theorem r_invS2i {y' : MethodName} {b' : ByteArray} {nL' : Nat} {rt' : Option FieldType} {d' mc' ms' idx : Nat}  {a1 a2 : Value} {Q0 : Int32 → HS → Prop} (hd : decode b pc = .ok (.invokestatic idx, 3)) (hk : LkS y.cls idx y' b' nL' rt' 2) (hC : Cn l G cy y' b' nL' rt' d' [a1, a2] S mc' ms' (qI Q0)) (hc : (st.map fun v => v.category).sum ≤ 8) (hdd : d' + 1 ≤ d) (h1 : k + mc' ≤ mc) (h2 : n + ms' ≤ ms) (h : ∀ (r : Int32) (S' : HS), Q0 r S' → R l G cy y b nL rt d mc ms Q (pc + 3) lv (.int r :: st) S' (k + mc') (n + ms')) : R l G cy y b nL rt d mc ms Q pc lv (a2 :: a1 :: st) S k n := r_callS (As := [a1, a2]) hd hk hC rfl hc hdd h1 h2 (fun v S2 hq => by obtain ⟨r, rfl, hq⟩ := hq; exact h r S2 hq)
theorem r_invS2v {y' : MethodName} {b' : ByteArray} {nL' : Nat} {rt' : Option FieldType} {d' mc' ms' idx : Nat}  {a1 a2 : Value} {Q0 : HS → Prop} (hd : decode b pc = .ok (.invokestatic idx, 3)) (hk : LkS y.cls idx y' b' nL' rt' 2) (hC : Cn l G cy y' b' nL' rt' d' [a1, a2] S mc' ms' (qV Q0)) (hc : (st.map fun v => v.category).sum ≤ 8) (hdd : d' + 1 ≤ d) (h1 : k + mc' ≤ mc) (h2 : n + ms' ≤ ms) (h : ∀ (S' : HS), Q0 S' → R l G cy y b nL rt d mc ms Q (pc + 3) lv st S' (k + mc') (n + ms')) : R l G cy y b nL rt d mc ms Q pc lv (a2 :: a1 :: st) S k n := r_callS (As := [a1, a2]) hd hk hC rfl hc hdd h1 h2 (fun v S2 hq => by obtain ⟨rfl, hq⟩ := hq; exact h S2 hq)
theorem r_invS2r {y' : MethodName} {b' : ByteArray} {nL' : Nat} {rt' : Option FieldType} {d' mc' ms' idx : Nat}  {a1 a2 : Value} {Q0 : Option Nat → HS → Prop} (hd : decode b pc = .ok (.invokestatic idx, 3)) (hk : LkS y.cls idx y' b' nL' rt' 2) (hC : Cn l G cy y' b' nL' rt' d' [a1, a2] S mc' ms' (qR Q0)) (hc : (st.map fun v => v.category).sum ≤ 8) (hdd : d' + 1 ≤ d) (h1 : k + mc' ≤ mc) (h2 : n + ms' ≤ ms) (h : ∀ (r : Option Nat) (S' : HS), Q0 r S' → R l G cy y b nL rt d mc ms Q (pc + 3) lv (va_rf r :: st) S' (k + mc') (n + ms')) : R l G cy y b nL rt d mc ms Q pc lv (a2 :: a1 :: st) S k n := r_callS (As := [a1, a2]) hd hk hC rfl hc hdd h1 h2 (fun v S2 hq => by obtain ⟨r, rfl, hq⟩ := hq; exact h r S2 hq)
theorem r_invI2v {y' : MethodName} {b' : ByteArray} {nL' : Nat}  {d' mc' ms' idx : Nat} {o : Nat} {a1 a2 : Value} {Q0 : HS → Prop} (hd : decode b pc = .ok (.invokespecial idx, 3)) (hk : LkI y.cls idx y' b' nL' 2) (hC : Cn l G cy y' b' nL' none d' (.ref o :: [a1, a2]) S mc' ms' (qV Q0)) (hc : (st.map fun v => v.category).sum ≤ 8) (hdd : d' + 1 ≤ d) (h1 : k + mc' ≤ mc) (h2 : n + ms' ≤ ms) (h : ∀ (S' : HS), Q0 S' → R l G cy y b nL rt d mc ms Q (pc + 3) lv st S' (k + mc') (n + ms')) : R l G cy y b nL rt d mc ms Q pc lv (a2 :: a1 :: .ref o :: st) S k n := r_callI (As := [a1, a2]) hd hk hC rfl hc hdd h1 h2 (fun v S2 hq => by obtain ⟨rfl, hq⟩ := hq; exact h S2 hq)
theorem r_invV3i {y' : MethodName} {b' : ByteArray} {nL' : Nat} {rt' : Option FieldType} {d' mc' ms' idx : Nat} {ci : Nat} {o : Nat} {a1 a2 a3 : Value} {Q0 : Int32 → HS → Prop} (hd : decode b pc = .ok (.invokevirtual idx, 3)) (hk : LkV y.cls idx y' b' nL' rt' 3 ci) (hK0 : tk o = ci) (hC : Cn l G cy y' b' nL' rt' d' (.ref o :: [a1, a2, a3]) S mc' ms' (qI Q0)) (hc : (st.map fun v => v.category).sum ≤ 8) (hdd : d' + 1 ≤ d) (h1 : k + mc' ≤ mc) (h2 : n + ms' ≤ ms) (h : ∀ (r : Int32) (S' : HS), Q0 r S' → R l G cy y b nL rt d mc ms Q (pc + 3) lv (.int r :: st) S' (k + mc') (n + ms')) : R l G cy y b nL rt d mc ms Q pc lv (a3 :: a2 :: a1 :: .ref o :: st) S k n := r_callV (As := [a1, a2, a3]) hd hk hK0 hC rfl hc hdd h1 h2 (fun v S2 hq => by obtain ⟨r, rfl, hq⟩ := hq; exact h r S2 hq)
theorem r_invV3v {y' : MethodName} {b' : ByteArray} {nL' : Nat} {rt' : Option FieldType} {d' mc' ms' idx : Nat} {ci : Nat} {o : Nat} {a1 a2 a3 : Value} {Q0 : HS → Prop} (hd : decode b pc = .ok (.invokevirtual idx, 3)) (hk : LkV y.cls idx y' b' nL' rt' 3 ci) (hK0 : tk o = ci) (hC : Cn l G cy y' b' nL' rt' d' (.ref o :: [a1, a2, a3]) S mc' ms' (qV Q0)) (hc : (st.map fun v => v.category).sum ≤ 8) (hdd : d' + 1 ≤ d) (h1 : k + mc' ≤ mc) (h2 : n + ms' ≤ ms) (h : ∀ (S' : HS), Q0 S' → R l G cy y b nL rt d mc ms Q (pc + 3) lv st S' (k + mc') (n + ms')) : R l G cy y b nL rt d mc ms Q pc lv (a3 :: a2 :: a1 :: .ref o :: st) S k n := r_callV (As := [a1, a2, a3]) hd hk hK0 hC rfl hc hdd h1 h2 (fun v S2 hq => by obtain ⟨rfl, hq⟩ := hq; exact h S2 hq)
theorem r_invV3r {y' : MethodName} {b' : ByteArray} {nL' : Nat} {rt' : Option FieldType} {d' mc' ms' idx : Nat} {ci : Nat} {o : Nat} {a1 a2 a3 : Value} {Q0 : Option Nat → HS → Prop} (hd : decode b pc = .ok (.invokevirtual idx, 3)) (hk : LkV y.cls idx y' b' nL' rt' 3 ci) (hK0 : tk o = ci) (hC : Cn l G cy y' b' nL' rt' d' (.ref o :: [a1, a2, a3]) S mc' ms' (qR Q0)) (hc : (st.map fun v => v.category).sum ≤ 8) (hdd : d' + 1 ≤ d) (h1 : k + mc' ≤ mc) (h2 : n + ms' ≤ ms) (h : ∀ (r : Option Nat) (S' : HS), Q0 r S' → R l G cy y b nL rt d mc ms Q (pc + 3) lv (va_rf r :: st) S' (k + mc') (n + ms')) : R l G cy y b nL rt d mc ms Q pc lv (a3 :: a2 :: a1 :: .ref o :: st) S k n := r_callV (As := [a1, a2, a3]) hd hk hK0 hC rfl hc hdd h1 h2 (fun v S2 hq => by obtain ⟨r, rfl, hq⟩ := hq; exact h r S2 hq)
theorem r_invS3i {y' : MethodName} {b' : ByteArray} {nL' : Nat} {rt' : Option FieldType} {d' mc' ms' idx : Nat}  {a1 a2 a3 : Value} {Q0 : Int32 → HS → Prop} (hd : decode b pc = .ok (.invokestatic idx, 3)) (hk : LkS y.cls idx y' b' nL' rt' 3) (hC : Cn l G cy y' b' nL' rt' d' [a1, a2, a3] S mc' ms' (qI Q0)) (hc : (st.map fun v => v.category).sum ≤ 8) (hdd : d' + 1 ≤ d) (h1 : k + mc' ≤ mc) (h2 : n + ms' ≤ ms) (h : ∀ (r : Int32) (S' : HS), Q0 r S' → R l G cy y b nL rt d mc ms Q (pc + 3) lv (.int r :: st) S' (k + mc') (n + ms')) : R l G cy y b nL rt d mc ms Q pc lv (a3 :: a2 :: a1 :: st) S k n := r_callS (As := [a1, a2, a3]) hd hk hC rfl hc hdd h1 h2 (fun v S2 hq => by obtain ⟨r, rfl, hq⟩ := hq; exact h r S2 hq)
theorem r_invS3v {y' : MethodName} {b' : ByteArray} {nL' : Nat} {rt' : Option FieldType} {d' mc' ms' idx : Nat}  {a1 a2 a3 : Value} {Q0 : HS → Prop} (hd : decode b pc = .ok (.invokestatic idx, 3)) (hk : LkS y.cls idx y' b' nL' rt' 3) (hC : Cn l G cy y' b' nL' rt' d' [a1, a2, a3] S mc' ms' (qV Q0)) (hc : (st.map fun v => v.category).sum ≤ 8) (hdd : d' + 1 ≤ d) (h1 : k + mc' ≤ mc) (h2 : n + ms' ≤ ms) (h : ∀ (S' : HS), Q0 S' → R l G cy y b nL rt d mc ms Q (pc + 3) lv st S' (k + mc') (n + ms')) : R l G cy y b nL rt d mc ms Q pc lv (a3 :: a2 :: a1 :: st) S k n := r_callS (As := [a1, a2, a3]) hd hk hC rfl hc hdd h1 h2 (fun v S2 hq => by obtain ⟨rfl, hq⟩ := hq; exact h S2 hq)
theorem r_invS3r {y' : MethodName} {b' : ByteArray} {nL' : Nat} {rt' : Option FieldType} {d' mc' ms' idx : Nat}  {a1 a2 a3 : Value} {Q0 : Option Nat → HS → Prop} (hd : decode b pc = .ok (.invokestatic idx, 3)) (hk : LkS y.cls idx y' b' nL' rt' 3) (hC : Cn l G cy y' b' nL' rt' d' [a1, a2, a3] S mc' ms' (qR Q0)) (hc : (st.map fun v => v.category).sum ≤ 8) (hdd : d' + 1 ≤ d) (h1 : k + mc' ≤ mc) (h2 : n + ms' ≤ ms) (h : ∀ (r : Option Nat) (S' : HS), Q0 r S' → R l G cy y b nL rt d mc ms Q (pc + 3) lv (va_rf r :: st) S' (k + mc') (n + ms')) : R l G cy y b nL rt d mc ms Q pc lv (a3 :: a2 :: a1 :: st) S k n := r_callS (As := [a1, a2, a3]) hd hk hC rfl hc hdd h1 h2 (fun v S2 hq => by obtain ⟨r, rfl, hq⟩ := hq; exact h r S2 hq)
theorem r_invI3v {y' : MethodName} {b' : ByteArray} {nL' : Nat}  {d' mc' ms' idx : Nat} {o : Nat} {a1 a2 a3 : Value} {Q0 : HS → Prop} (hd : decode b pc = .ok (.invokespecial idx, 3)) (hk : LkI y.cls idx y' b' nL' 3) (hC : Cn l G cy y' b' nL' none d' (.ref o :: [a1, a2, a3]) S mc' ms' (qV Q0)) (hc : (st.map fun v => v.category).sum ≤ 8) (hdd : d' + 1 ≤ d) (h1 : k + mc' ≤ mc) (h2 : n + ms' ≤ ms) (h : ∀ (S' : HS), Q0 S' → R l G cy y b nL rt d mc ms Q (pc + 3) lv st S' (k + mc') (n + ms')) : R l G cy y b nL rt d mc ms Q pc lv (a3 :: a2 :: a1 :: .ref o :: st) S k n := r_callI (As := [a1, a2, a3]) hd hk hC rfl hc hdd h1 h2 (fun v S2 hq => by obtain ⟨rfl, hq⟩ := hq; exact h S2 hq)
theorem r_invV4i {y' : MethodName} {b' : ByteArray} {nL' : Nat} {rt' : Option FieldType} {d' mc' ms' idx : Nat} {ci : Nat} {o : Nat} {a1 a2 a3 a4 : Value} {Q0 : Int32 → HS → Prop} (hd : decode b pc = .ok (.invokevirtual idx, 3)) (hk : LkV y.cls idx y' b' nL' rt' 4 ci) (hK0 : tk o = ci) (hC : Cn l G cy y' b' nL' rt' d' (.ref o :: [a1, a2, a3, a4]) S mc' ms' (qI Q0)) (hc : (st.map fun v => v.category).sum ≤ 8) (hdd : d' + 1 ≤ d) (h1 : k + mc' ≤ mc) (h2 : n + ms' ≤ ms) (h : ∀ (r : Int32) (S' : HS), Q0 r S' → R l G cy y b nL rt d mc ms Q (pc + 3) lv (.int r :: st) S' (k + mc') (n + ms')) : R l G cy y b nL rt d mc ms Q pc lv (a4 :: a3 :: a2 :: a1 :: .ref o :: st) S k n := r_callV (As := [a1, a2, a3, a4]) hd hk hK0 hC rfl hc hdd h1 h2 (fun v S2 hq => by obtain ⟨r, rfl, hq⟩ := hq; exact h r S2 hq)
theorem r_invV4v {y' : MethodName} {b' : ByteArray} {nL' : Nat} {rt' : Option FieldType} {d' mc' ms' idx : Nat} {ci : Nat} {o : Nat} {a1 a2 a3 a4 : Value} {Q0 : HS → Prop} (hd : decode b pc = .ok (.invokevirtual idx, 3)) (hk : LkV y.cls idx y' b' nL' rt' 4 ci) (hK0 : tk o = ci) (hC : Cn l G cy y' b' nL' rt' d' (.ref o :: [a1, a2, a3, a4]) S mc' ms' (qV Q0)) (hc : (st.map fun v => v.category).sum ≤ 8) (hdd : d' + 1 ≤ d) (h1 : k + mc' ≤ mc) (h2 : n + ms' ≤ ms) (h : ∀ (S' : HS), Q0 S' → R l G cy y b nL rt d mc ms Q (pc + 3) lv st S' (k + mc') (n + ms')) : R l G cy y b nL rt d mc ms Q pc lv (a4 :: a3 :: a2 :: a1 :: .ref o :: st) S k n := r_callV (As := [a1, a2, a3, a4]) hd hk hK0 hC rfl hc hdd h1 h2 (fun v S2 hq => by obtain ⟨rfl, hq⟩ := hq; exact h S2 hq)
theorem r_invV4r {y' : MethodName} {b' : ByteArray} {nL' : Nat} {rt' : Option FieldType} {d' mc' ms' idx : Nat} {ci : Nat} {o : Nat} {a1 a2 a3 a4 : Value} {Q0 : Option Nat → HS → Prop} (hd : decode b pc = .ok (.invokevirtual idx, 3)) (hk : LkV y.cls idx y' b' nL' rt' 4 ci) (hK0 : tk o = ci) (hC : Cn l G cy y' b' nL' rt' d' (.ref o :: [a1, a2, a3, a4]) S mc' ms' (qR Q0)) (hc : (st.map fun v => v.category).sum ≤ 8) (hdd : d' + 1 ≤ d) (h1 : k + mc' ≤ mc) (h2 : n + ms' ≤ ms) (h : ∀ (r : Option Nat) (S' : HS), Q0 r S' → R l G cy y b nL rt d mc ms Q (pc + 3) lv (va_rf r :: st) S' (k + mc') (n + ms')) : R l G cy y b nL rt d mc ms Q pc lv (a4 :: a3 :: a2 :: a1 :: .ref o :: st) S k n := r_callV (As := [a1, a2, a3, a4]) hd hk hK0 hC rfl hc hdd h1 h2 (fun v S2 hq => by obtain ⟨r, rfl, hq⟩ := hq; exact h r S2 hq)
theorem r_invS4i {y' : MethodName} {b' : ByteArray} {nL' : Nat} {rt' : Option FieldType} {d' mc' ms' idx : Nat}  {a1 a2 a3 a4 : Value} {Q0 : Int32 → HS → Prop} (hd : decode b pc = .ok (.invokestatic idx, 3)) (hk : LkS y.cls idx y' b' nL' rt' 4) (hC : Cn l G cy y' b' nL' rt' d' [a1, a2, a3, a4] S mc' ms' (qI Q0)) (hc : (st.map fun v => v.category).sum ≤ 8) (hdd : d' + 1 ≤ d) (h1 : k + mc' ≤ mc) (h2 : n + ms' ≤ ms) (h : ∀ (r : Int32) (S' : HS), Q0 r S' → R l G cy y b nL rt d mc ms Q (pc + 3) lv (.int r :: st) S' (k + mc') (n + ms')) : R l G cy y b nL rt d mc ms Q pc lv (a4 :: a3 :: a2 :: a1 :: st) S k n := r_callS (As := [a1, a2, a3, a4]) hd hk hC rfl hc hdd h1 h2 (fun v S2 hq => by obtain ⟨r, rfl, hq⟩ := hq; exact h r S2 hq)
theorem r_invS4v {y' : MethodName} {b' : ByteArray} {nL' : Nat} {rt' : Option FieldType} {d' mc' ms' idx : Nat}  {a1 a2 a3 a4 : Value} {Q0 : HS → Prop} (hd : decode b pc = .ok (.invokestatic idx, 3)) (hk : LkS y.cls idx y' b' nL' rt' 4) (hC : Cn l G cy y' b' nL' rt' d' [a1, a2, a3, a4] S mc' ms' (qV Q0)) (hc : (st.map fun v => v.category).sum ≤ 8) (hdd : d' + 1 ≤ d) (h1 : k + mc' ≤ mc) (h2 : n + ms' ≤ ms) (h : ∀ (S' : HS), Q0 S' → R l G cy y b nL rt d mc ms Q (pc + 3) lv st S' (k + mc') (n + ms')) : R l G cy y b nL rt d mc ms Q pc lv (a4 :: a3 :: a2 :: a1 :: st) S k n := r_callS (As := [a1, a2, a3, a4]) hd hk hC rfl hc hdd h1 h2 (fun v S2 hq => by obtain ⟨rfl, hq⟩ := hq; exact h S2 hq)
theorem r_invS4r {y' : MethodName} {b' : ByteArray} {nL' : Nat} {rt' : Option FieldType} {d' mc' ms' idx : Nat}  {a1 a2 a3 a4 : Value} {Q0 : Option Nat → HS → Prop} (hd : decode b pc = .ok (.invokestatic idx, 3)) (hk : LkS y.cls idx y' b' nL' rt' 4) (hC : Cn l G cy y' b' nL' rt' d' [a1, a2, a3, a4] S mc' ms' (qR Q0)) (hc : (st.map fun v => v.category).sum ≤ 8) (hdd : d' + 1 ≤ d) (h1 : k + mc' ≤ mc) (h2 : n + ms' ≤ ms) (h : ∀ (r : Option Nat) (S' : HS), Q0 r S' → R l G cy y b nL rt d mc ms Q (pc + 3) lv (va_rf r :: st) S' (k + mc') (n + ms')) : R l G cy y b nL rt d mc ms Q pc lv (a4 :: a3 :: a2 :: a1 :: st) S k n := r_callS (As := [a1, a2, a3, a4]) hd hk hC rfl hc hdd h1 h2 (fun v S2 hq => by obtain ⟨r, rfl, hq⟩ := hq; exact h r S2 hq)
theorem r_invI4v {y' : MethodName} {b' : ByteArray} {nL' : Nat}  {d' mc' ms' idx : Nat} {o : Nat} {a1 a2 a3 a4 : Value} {Q0 : HS → Prop} (hd : decode b pc = .ok (.invokespecial idx, 3)) (hk : LkI y.cls idx y' b' nL' 4) (hC : Cn l G cy y' b' nL' none d' (.ref o :: [a1, a2, a3, a4]) S mc' ms' (qV Q0)) (hc : (st.map fun v => v.category).sum ≤ 8) (hdd : d' + 1 ≤ d) (h1 : k + mc' ≤ mc) (h2 : n + ms' ≤ ms) (h : ∀ (S' : HS), Q0 S' → R l G cy y b nL rt d mc ms Q (pc + 3) lv st S' (k + mc') (n + ms')) : R l G cy y b nL rt d mc ms Q pc lv (a4 :: a3 :: a2 :: a1 :: .ref o :: st) S k n := r_callI (As := [a1, a2, a3, a4]) hd hk hC rfl hc hdd h1 h2 (fun v S2 hq => by obtain ⟨rfl, hq⟩ := hq; exact h S2 hq)
theorem r_invV5i {y' : MethodName} {b' : ByteArray} {nL' : Nat} {rt' : Option FieldType} {d' mc' ms' idx : Nat} {ci : Nat} {o : Nat} {a1 a2 a3 a4 a5 : Value} {Q0 : Int32 → HS → Prop} (hd : decode b pc = .ok (.invokevirtual idx, 3)) (hk : LkV y.cls idx y' b' nL' rt' 5 ci) (hK0 : tk o = ci) (hC : Cn l G cy y' b' nL' rt' d' (.ref o :: [a1, a2, a3, a4, a5]) S mc' ms' (qI Q0)) (hc : (st.map fun v => v.category).sum ≤ 8) (hdd : d' + 1 ≤ d) (h1 : k + mc' ≤ mc) (h2 : n + ms' ≤ ms) (h : ∀ (r : Int32) (S' : HS), Q0 r S' → R l G cy y b nL rt d mc ms Q (pc + 3) lv (.int r :: st) S' (k + mc') (n + ms')) : R l G cy y b nL rt d mc ms Q pc lv (a5 :: a4 :: a3 :: a2 :: a1 :: .ref o :: st) S k n := r_callV (As := [a1, a2, a3, a4, a5]) hd hk hK0 hC rfl hc hdd h1 h2 (fun v S2 hq => by obtain ⟨r, rfl, hq⟩ := hq; exact h r S2 hq)
theorem r_invV5v {y' : MethodName} {b' : ByteArray} {nL' : Nat} {rt' : Option FieldType} {d' mc' ms' idx : Nat} {ci : Nat} {o : Nat} {a1 a2 a3 a4 a5 : Value} {Q0 : HS → Prop} (hd : decode b pc = .ok (.invokevirtual idx, 3)) (hk : LkV y.cls idx y' b' nL' rt' 5 ci) (hK0 : tk o = ci) (hC : Cn l G cy y' b' nL' rt' d' (.ref o :: [a1, a2, a3, a4, a5]) S mc' ms' (qV Q0)) (hc : (st.map fun v => v.category).sum ≤ 8) (hdd : d' + 1 ≤ d) (h1 : k + mc' ≤ mc) (h2 : n + ms' ≤ ms) (h : ∀ (S' : HS), Q0 S' → R l G cy y b nL rt d mc ms Q (pc + 3) lv st S' (k + mc') (n + ms')) : R l G cy y b nL rt d mc ms Q pc lv (a5 :: a4 :: a3 :: a2 :: a1 :: .ref o :: st) S k n := r_callV (As := [a1, a2, a3, a4, a5]) hd hk hK0 hC rfl hc hdd h1 h2 (fun v S2 hq => by obtain ⟨rfl, hq⟩ := hq; exact h S2 hq)
theorem r_invV5r {y' : MethodName} {b' : ByteArray} {nL' : Nat} {rt' : Option FieldType} {d' mc' ms' idx : Nat} {ci : Nat} {o : Nat} {a1 a2 a3 a4 a5 : Value} {Q0 : Option Nat → HS → Prop} (hd : decode b pc = .ok (.invokevirtual idx, 3)) (hk : LkV y.cls idx y' b' nL' rt' 5 ci) (hK0 : tk o = ci) (hC : Cn l G cy y' b' nL' rt' d' (.ref o :: [a1, a2, a3, a4, a5]) S mc' ms' (qR Q0)) (hc : (st.map fun v => v.category).sum ≤ 8) (hdd : d' + 1 ≤ d) (h1 : k + mc' ≤ mc) (h2 : n + ms' ≤ ms) (h : ∀ (r : Option Nat) (S' : HS), Q0 r S' → R l G cy y b nL rt d mc ms Q (pc + 3) lv (va_rf r :: st) S' (k + mc') (n + ms')) : R l G cy y b nL rt d mc ms Q pc lv (a5 :: a4 :: a3 :: a2 :: a1 :: .ref o :: st) S k n := r_callV (As := [a1, a2, a3, a4, a5]) hd hk hK0 hC rfl hc hdd h1 h2 (fun v S2 hq => by obtain ⟨r, rfl, hq⟩ := hq; exact h r S2 hq)
theorem r_invS5i {y' : MethodName} {b' : ByteArray} {nL' : Nat} {rt' : Option FieldType} {d' mc' ms' idx : Nat}  {a1 a2 a3 a4 a5 : Value} {Q0 : Int32 → HS → Prop} (hd : decode b pc = .ok (.invokestatic idx, 3)) (hk : LkS y.cls idx y' b' nL' rt' 5) (hC : Cn l G cy y' b' nL' rt' d' [a1, a2, a3, a4, a5] S mc' ms' (qI Q0)) (hc : (st.map fun v => v.category).sum ≤ 8) (hdd : d' + 1 ≤ d) (h1 : k + mc' ≤ mc) (h2 : n + ms' ≤ ms) (h : ∀ (r : Int32) (S' : HS), Q0 r S' → R l G cy y b nL rt d mc ms Q (pc + 3) lv (.int r :: st) S' (k + mc') (n + ms')) : R l G cy y b nL rt d mc ms Q pc lv (a5 :: a4 :: a3 :: a2 :: a1 :: st) S k n := r_callS (As := [a1, a2, a3, a4, a5]) hd hk hC rfl hc hdd h1 h2 (fun v S2 hq => by obtain ⟨r, rfl, hq⟩ := hq; exact h r S2 hq)
theorem r_invS5v {y' : MethodName} {b' : ByteArray} {nL' : Nat} {rt' : Option FieldType} {d' mc' ms' idx : Nat}  {a1 a2 a3 a4 a5 : Value} {Q0 : HS → Prop} (hd : decode b pc = .ok (.invokestatic idx, 3)) (hk : LkS y.cls idx y' b' nL' rt' 5) (hC : Cn l G cy y' b' nL' rt' d' [a1, a2, a3, a4, a5] S mc' ms' (qV Q0)) (hc : (st.map fun v => v.category).sum ≤ 8) (hdd : d' + 1 ≤ d) (h1 : k + mc' ≤ mc) (h2 : n + ms' ≤ ms) (h : ∀ (S' : HS), Q0 S' → R l G cy y b nL rt d mc ms Q (pc + 3) lv st S' (k + mc') (n + ms')) : R l G cy y b nL rt d mc ms Q pc lv (a5 :: a4 :: a3 :: a2 :: a1 :: st) S k n := r_callS (As := [a1, a2, a3, a4, a5]) hd hk hC rfl hc hdd h1 h2 (fun v S2 hq => by obtain ⟨rfl, hq⟩ := hq; exact h S2 hq)
theorem r_invS5r {y' : MethodName} {b' : ByteArray} {nL' : Nat} {rt' : Option FieldType} {d' mc' ms' idx : Nat}  {a1 a2 a3 a4 a5 : Value} {Q0 : Option Nat → HS → Prop} (hd : decode b pc = .ok (.invokestatic idx, 3)) (hk : LkS y.cls idx y' b' nL' rt' 5) (hC : Cn l G cy y' b' nL' rt' d' [a1, a2, a3, a4, a5] S mc' ms' (qR Q0)) (hc : (st.map fun v => v.category).sum ≤ 8) (hdd : d' + 1 ≤ d) (h1 : k + mc' ≤ mc) (h2 : n + ms' ≤ ms) (h : ∀ (r : Option Nat) (S' : HS), Q0 r S' → R l G cy y b nL rt d mc ms Q (pc + 3) lv (va_rf r :: st) S' (k + mc') (n + ms')) : R l G cy y b nL rt d mc ms Q pc lv (a5 :: a4 :: a3 :: a2 :: a1 :: st) S k n := r_callS (As := [a1, a2, a3, a4, a5]) hd hk hC rfl hc hdd h1 h2 (fun v S2 hq => by obtain ⟨r, rfl, hq⟩ := hq; exact h r S2 hq)
theorem r_invI5v {y' : MethodName} {b' : ByteArray} {nL' : Nat}  {d' mc' ms' idx : Nat} {o : Nat} {a1 a2 a3 a4 a5 : Value} {Q0 : HS → Prop} (hd : decode b pc = .ok (.invokespecial idx, 3)) (hk : LkI y.cls idx y' b' nL' 5) (hC : Cn l G cy y' b' nL' none d' (.ref o :: [a1, a2, a3, a4, a5]) S mc' ms' (qV Q0)) (hc : (st.map fun v => v.category).sum ≤ 8) (hdd : d' + 1 ≤ d) (h1 : k + mc' ≤ mc) (h2 : n + ms' ≤ ms) (h : ∀ (S' : HS), Q0 S' → R l G cy y b nL rt d mc ms Q (pc + 3) lv st S' (k + mc') (n + ms')) : R l G cy y b nL rt d mc ms Q pc lv (a5 :: a4 :: a3 :: a2 :: a1 :: .ref o :: st) S k n := r_callI (As := [a1, a2, a3, a4, a5]) hd hk hC rfl hc hdd h1 h2 (fun v S2 hq => by obtain ⟨rfl, hq⟩ := hq; exact h S2 hq)
theorem r_invV6i {y' : MethodName} {b' : ByteArray} {nL' : Nat} {rt' : Option FieldType} {d' mc' ms' idx : Nat} {ci : Nat} {o : Nat} {a1 a2 a3 a4 a5 a6 : Value} {Q0 : Int32 → HS → Prop} (hd : decode b pc = .ok (.invokevirtual idx, 3)) (hk : LkV y.cls idx y' b' nL' rt' 6 ci) (hK0 : tk o = ci) (hC : Cn l G cy y' b' nL' rt' d' (.ref o :: [a1, a2, a3, a4, a5, a6]) S mc' ms' (qI Q0)) (hc : (st.map fun v => v.category).sum ≤ 8) (hdd : d' + 1 ≤ d) (h1 : k + mc' ≤ mc) (h2 : n + ms' ≤ ms) (h : ∀ (r : Int32) (S' : HS), Q0 r S' → R l G cy y b nL rt d mc ms Q (pc + 3) lv (.int r :: st) S' (k + mc') (n + ms')) : R l G cy y b nL rt d mc ms Q pc lv (a6 :: a5 :: a4 :: a3 :: a2 :: a1 :: .ref o :: st) S k n := r_callV (As := [a1, a2, a3, a4, a5, a6]) hd hk hK0 hC rfl hc hdd h1 h2 (fun v S2 hq => by obtain ⟨r, rfl, hq⟩ := hq; exact h r S2 hq)
theorem r_invV6v {y' : MethodName} {b' : ByteArray} {nL' : Nat} {rt' : Option FieldType} {d' mc' ms' idx : Nat} {ci : Nat} {o : Nat} {a1 a2 a3 a4 a5 a6 : Value} {Q0 : HS → Prop} (hd : decode b pc = .ok (.invokevirtual idx, 3)) (hk : LkV y.cls idx y' b' nL' rt' 6 ci) (hK0 : tk o = ci) (hC : Cn l G cy y' b' nL' rt' d' (.ref o :: [a1, a2, a3, a4, a5, a6]) S mc' ms' (qV Q0)) (hc : (st.map fun v => v.category).sum ≤ 8) (hdd : d' + 1 ≤ d) (h1 : k + mc' ≤ mc) (h2 : n + ms' ≤ ms) (h : ∀ (S' : HS), Q0 S' → R l G cy y b nL rt d mc ms Q (pc + 3) lv st S' (k + mc') (n + ms')) : R l G cy y b nL rt d mc ms Q pc lv (a6 :: a5 :: a4 :: a3 :: a2 :: a1 :: .ref o :: st) S k n := r_callV (As := [a1, a2, a3, a4, a5, a6]) hd hk hK0 hC rfl hc hdd h1 h2 (fun v S2 hq => by obtain ⟨rfl, hq⟩ := hq; exact h S2 hq)
theorem r_invV6r {y' : MethodName} {b' : ByteArray} {nL' : Nat} {rt' : Option FieldType} {d' mc' ms' idx : Nat} {ci : Nat} {o : Nat} {a1 a2 a3 a4 a5 a6 : Value} {Q0 : Option Nat → HS → Prop} (hd : decode b pc = .ok (.invokevirtual idx, 3)) (hk : LkV y.cls idx y' b' nL' rt' 6 ci) (hK0 : tk o = ci) (hC : Cn l G cy y' b' nL' rt' d' (.ref o :: [a1, a2, a3, a4, a5, a6]) S mc' ms' (qR Q0)) (hc : (st.map fun v => v.category).sum ≤ 8) (hdd : d' + 1 ≤ d) (h1 : k + mc' ≤ mc) (h2 : n + ms' ≤ ms) (h : ∀ (r : Option Nat) (S' : HS), Q0 r S' → R l G cy y b nL rt d mc ms Q (pc + 3) lv (va_rf r :: st) S' (k + mc') (n + ms')) : R l G cy y b nL rt d mc ms Q pc lv (a6 :: a5 :: a4 :: a3 :: a2 :: a1 :: .ref o :: st) S k n := r_callV (As := [a1, a2, a3, a4, a5, a6]) hd hk hK0 hC rfl hc hdd h1 h2 (fun v S2 hq => by obtain ⟨r, rfl, hq⟩ := hq; exact h r S2 hq)
theorem r_invS6i {y' : MethodName} {b' : ByteArray} {nL' : Nat} {rt' : Option FieldType} {d' mc' ms' idx : Nat}  {a1 a2 a3 a4 a5 a6 : Value} {Q0 : Int32 → HS → Prop} (hd : decode b pc = .ok (.invokestatic idx, 3)) (hk : LkS y.cls idx y' b' nL' rt' 6) (hC : Cn l G cy y' b' nL' rt' d' [a1, a2, a3, a4, a5, a6] S mc' ms' (qI Q0)) (hc : (st.map fun v => v.category).sum ≤ 8) (hdd : d' + 1 ≤ d) (h1 : k + mc' ≤ mc) (h2 : n + ms' ≤ ms) (h : ∀ (r : Int32) (S' : HS), Q0 r S' → R l G cy y b nL rt d mc ms Q (pc + 3) lv (.int r :: st) S' (k + mc') (n + ms')) : R l G cy y b nL rt d mc ms Q pc lv (a6 :: a5 :: a4 :: a3 :: a2 :: a1 :: st) S k n := r_callS (As := [a1, a2, a3, a4, a5, a6]) hd hk hC rfl hc hdd h1 h2 (fun v S2 hq => by obtain ⟨r, rfl, hq⟩ := hq; exact h r S2 hq)
theorem r_invS6v {y' : MethodName} {b' : ByteArray} {nL' : Nat} {rt' : Option FieldType} {d' mc' ms' idx : Nat}  {a1 a2 a3 a4 a5 a6 : Value} {Q0 : HS → Prop} (hd : decode b pc = .ok (.invokestatic idx, 3)) (hk : LkS y.cls idx y' b' nL' rt' 6) (hC : Cn l G cy y' b' nL' rt' d' [a1, a2, a3, a4, a5, a6] S mc' ms' (qV Q0)) (hc : (st.map fun v => v.category).sum ≤ 8) (hdd : d' + 1 ≤ d) (h1 : k + mc' ≤ mc) (h2 : n + ms' ≤ ms) (h : ∀ (S' : HS), Q0 S' → R l G cy y b nL rt d mc ms Q (pc + 3) lv st S' (k + mc') (n + ms')) : R l G cy y b nL rt d mc ms Q pc lv (a6 :: a5 :: a4 :: a3 :: a2 :: a1 :: st) S k n := r_callS (As := [a1, a2, a3, a4, a5, a6]) hd hk hC rfl hc hdd h1 h2 (fun v S2 hq => by obtain ⟨rfl, hq⟩ := hq; exact h S2 hq)
theorem r_invS6r {y' : MethodName} {b' : ByteArray} {nL' : Nat} {rt' : Option FieldType} {d' mc' ms' idx : Nat}  {a1 a2 a3 a4 a5 a6 : Value} {Q0 : Option Nat → HS → Prop} (hd : decode b pc = .ok (.invokestatic idx, 3)) (hk : LkS y.cls idx y' b' nL' rt' 6) (hC : Cn l G cy y' b' nL' rt' d' [a1, a2, a3, a4, a5, a6] S mc' ms' (qR Q0)) (hc : (st.map fun v => v.category).sum ≤ 8) (hdd : d' + 1 ≤ d) (h1 : k + mc' ≤ mc) (h2 : n + ms' ≤ ms) (h : ∀ (r : Option Nat) (S' : HS), Q0 r S' → R l G cy y b nL rt d mc ms Q (pc + 3) lv (va_rf r :: st) S' (k + mc') (n + ms')) : R l G cy y b nL rt d mc ms Q pc lv (a6 :: a5 :: a4 :: a3 :: a2 :: a1 :: st) S k n := r_callS (As := [a1, a2, a3, a4, a5, a6]) hd hk hC rfl hc hdd h1 h2 (fun v S2 hq => by obtain ⟨r, rfl, hq⟩ := hq; exact h r S2 hq)
theorem r_invI6v {y' : MethodName} {b' : ByteArray} {nL' : Nat}  {d' mc' ms' idx : Nat} {o : Nat} {a1 a2 a3 a4 a5 a6 : Value} {Q0 : HS → Prop} (hd : decode b pc = .ok (.invokespecial idx, 3)) (hk : LkI y.cls idx y' b' nL' 6) (hC : Cn l G cy y' b' nL' none d' (.ref o :: [a1, a2, a3, a4, a5, a6]) S mc' ms' (qV Q0)) (hc : (st.map fun v => v.category).sum ≤ 8) (hdd : d' + 1 ≤ d) (h1 : k + mc' ≤ mc) (h2 : n + ms' ≤ ms) (h : ∀ (S' : HS), Q0 S' → R l G cy y b nL rt d mc ms Q (pc + 3) lv st S' (k + mc') (n + ms')) : R l G cy y b nL rt d mc ms Q pc lv (a6 :: a5 :: a4 :: a3 :: a2 :: a1 :: .ref o :: st) S k n := r_callI (As := [a1, a2, a3, a4, a5, a6]) hd hk hC rfl hc hdd h1 h2 (fun v S2 hq => by obtain ⟨rfl, hq⟩ := hq; exact h S2 hq)
theorem r_invV7i {y' : MethodName} {b' : ByteArray} {nL' : Nat} {rt' : Option FieldType} {d' mc' ms' idx : Nat} {ci : Nat} {o : Nat} {a1 a2 a3 a4 a5 a6 a7 : Value} {Q0 : Int32 → HS → Prop} (hd : decode b pc = .ok (.invokevirtual idx, 3)) (hk : LkV y.cls idx y' b' nL' rt' 7 ci) (hK0 : tk o = ci) (hC : Cn l G cy y' b' nL' rt' d' (.ref o :: [a1, a2, a3, a4, a5, a6, a7]) S mc' ms' (qI Q0)) (hc : (st.map fun v => v.category).sum ≤ 8) (hdd : d' + 1 ≤ d) (h1 : k + mc' ≤ mc) (h2 : n + ms' ≤ ms) (h : ∀ (r : Int32) (S' : HS), Q0 r S' → R l G cy y b nL rt d mc ms Q (pc + 3) lv (.int r :: st) S' (k + mc') (n + ms')) : R l G cy y b nL rt d mc ms Q pc lv (a7 :: a6 :: a5 :: a4 :: a3 :: a2 :: a1 :: .ref o :: st) S k n := r_callV (As := [a1, a2, a3, a4, a5, a6, a7]) hd hk hK0 hC rfl hc hdd h1 h2 (fun v S2 hq => by obtain ⟨r, rfl, hq⟩ := hq; exact h r S2 hq)
theorem r_invV7v {y' : MethodName} {b' : ByteArray} {nL' : Nat} {rt' : Option FieldType} {d' mc' ms' idx : Nat} {ci : Nat} {o : Nat} {a1 a2 a3 a4 a5 a6 a7 : Value} {Q0 : HS → Prop} (hd : decode b pc = .ok (.invokevirtual idx, 3)) (hk : LkV y.cls idx y' b' nL' rt' 7 ci) (hK0 : tk o = ci) (hC : Cn l G cy y' b' nL' rt' d' (.ref o :: [a1, a2, a3, a4, a5, a6, a7]) S mc' ms' (qV Q0)) (hc : (st.map fun v => v.category).sum ≤ 8) (hdd : d' + 1 ≤ d) (h1 : k + mc' ≤ mc) (h2 : n + ms' ≤ ms) (h : ∀ (S' : HS), Q0 S' → R l G cy y b nL rt d mc ms Q (pc + 3) lv st S' (k + mc') (n + ms')) : R l G cy y b nL rt d mc ms Q pc lv (a7 :: a6 :: a5 :: a4 :: a3 :: a2 :: a1 :: .ref o :: st) S k n := r_callV (As := [a1, a2, a3, a4, a5, a6, a7]) hd hk hK0 hC rfl hc hdd h1 h2 (fun v S2 hq => by obtain ⟨rfl, hq⟩ := hq; exact h S2 hq)
theorem r_invV7r {y' : MethodName} {b' : ByteArray} {nL' : Nat} {rt' : Option FieldType} {d' mc' ms' idx : Nat} {ci : Nat} {o : Nat} {a1 a2 a3 a4 a5 a6 a7 : Value} {Q0 : Option Nat → HS → Prop} (hd : decode b pc = .ok (.invokevirtual idx, 3)) (hk : LkV y.cls idx y' b' nL' rt' 7 ci) (hK0 : tk o = ci) (hC : Cn l G cy y' b' nL' rt' d' (.ref o :: [a1, a2, a3, a4, a5, a6, a7]) S mc' ms' (qR Q0)) (hc : (st.map fun v => v.category).sum ≤ 8) (hdd : d' + 1 ≤ d) (h1 : k + mc' ≤ mc) (h2 : n + ms' ≤ ms) (h : ∀ (r : Option Nat) (S' : HS), Q0 r S' → R l G cy y b nL rt d mc ms Q (pc + 3) lv (va_rf r :: st) S' (k + mc') (n + ms')) : R l G cy y b nL rt d mc ms Q pc lv (a7 :: a6 :: a5 :: a4 :: a3 :: a2 :: a1 :: .ref o :: st) S k n := r_callV (As := [a1, a2, a3, a4, a5, a6, a7]) hd hk hK0 hC rfl hc hdd h1 h2 (fun v S2 hq => by obtain ⟨r, rfl, hq⟩ := hq; exact h r S2 hq)
theorem r_invS7i {y' : MethodName} {b' : ByteArray} {nL' : Nat} {rt' : Option FieldType} {d' mc' ms' idx : Nat}  {a1 a2 a3 a4 a5 a6 a7 : Value} {Q0 : Int32 → HS → Prop} (hd : decode b pc = .ok (.invokestatic idx, 3)) (hk : LkS y.cls idx y' b' nL' rt' 7) (hC : Cn l G cy y' b' nL' rt' d' [a1, a2, a3, a4, a5, a6, a7] S mc' ms' (qI Q0)) (hc : (st.map fun v => v.category).sum ≤ 8) (hdd : d' + 1 ≤ d) (h1 : k + mc' ≤ mc) (h2 : n + ms' ≤ ms) (h : ∀ (r : Int32) (S' : HS), Q0 r S' → R l G cy y b nL rt d mc ms Q (pc + 3) lv (.int r :: st) S' (k + mc') (n + ms')) : R l G cy y b nL rt d mc ms Q pc lv (a7 :: a6 :: a5 :: a4 :: a3 :: a2 :: a1 :: st) S k n := r_callS (As := [a1, a2, a3, a4, a5, a6, a7]) hd hk hC rfl hc hdd h1 h2 (fun v S2 hq => by obtain ⟨r, rfl, hq⟩ := hq; exact h r S2 hq)
theorem r_invS7v {y' : MethodName} {b' : ByteArray} {nL' : Nat} {rt' : Option FieldType} {d' mc' ms' idx : Nat}  {a1 a2 a3 a4 a5 a6 a7 : Value} {Q0 : HS → Prop} (hd : decode b pc = .ok (.invokestatic idx, 3)) (hk : LkS y.cls idx y' b' nL' rt' 7) (hC : Cn l G cy y' b' nL' rt' d' [a1, a2, a3, a4, a5, a6, a7] S mc' ms' (qV Q0)) (hc : (st.map fun v => v.category).sum ≤ 8) (hdd : d' + 1 ≤ d) (h1 : k + mc' ≤ mc) (h2 : n + ms' ≤ ms) (h : ∀ (S' : HS), Q0 S' → R l G cy y b nL rt d mc ms Q (pc + 3) lv st S' (k + mc') (n + ms')) : R l G cy y b nL rt d mc ms Q pc lv (a7 :: a6 :: a5 :: a4 :: a3 :: a2 :: a1 :: st) S k n := r_callS (As := [a1, a2, a3, a4, a5, a6, a7]) hd hk hC rfl hc hdd h1 h2 (fun v S2 hq => by obtain ⟨rfl, hq⟩ := hq; exact h S2 hq)
theorem r_invS7r {y' : MethodName} {b' : ByteArray} {nL' : Nat} {rt' : Option FieldType} {d' mc' ms' idx : Nat}  {a1 a2 a3 a4 a5 a6 a7 : Value} {Q0 : Option Nat → HS → Prop} (hd : decode b pc = .ok (.invokestatic idx, 3)) (hk : LkS y.cls idx y' b' nL' rt' 7) (hC : Cn l G cy y' b' nL' rt' d' [a1, a2, a3, a4, a5, a6, a7] S mc' ms' (qR Q0)) (hc : (st.map fun v => v.category).sum ≤ 8) (hdd : d' + 1 ≤ d) (h1 : k + mc' ≤ mc) (h2 : n + ms' ≤ ms) (h : ∀ (r : Option Nat) (S' : HS), Q0 r S' → R l G cy y b nL rt d mc ms Q (pc + 3) lv (va_rf r :: st) S' (k + mc') (n + ms')) : R l G cy y b nL rt d mc ms Q pc lv (a7 :: a6 :: a5 :: a4 :: a3 :: a2 :: a1 :: st) S k n := r_callS (As := [a1, a2, a3, a4, a5, a6, a7]) hd hk hC rfl hc hdd h1 h2 (fun v S2 hq => by obtain ⟨r, rfl, hq⟩ := hq; exact h r S2 hq)
theorem r_invI7v {y' : MethodName} {b' : ByteArray} {nL' : Nat}  {d' mc' ms' idx : Nat} {o : Nat} {a1 a2 a3 a4 a5 a6 a7 : Value} {Q0 : HS → Prop} (hd : decode b pc = .ok (.invokespecial idx, 3)) (hk : LkI y.cls idx y' b' nL' 7) (hC : Cn l G cy y' b' nL' none d' (.ref o :: [a1, a2, a3, a4, a5, a6, a7]) S mc' ms' (qV Q0)) (hc : (st.map fun v => v.category).sum ≤ 8) (hdd : d' + 1 ≤ d) (h1 : k + mc' ≤ mc) (h2 : n + ms' ≤ ms) (h : ∀ (S' : HS), Q0 S' → R l G cy y b nL rt d mc ms Q (pc + 3) lv st S' (k + mc') (n + ms')) : R l G cy y b nL rt d mc ms Q pc lv (a7 :: a6 :: a5 :: a4 :: a3 :: a2 :: a1 :: .ref o :: st) S k n := r_callI (As := [a1, a2, a3, a4, a5, a6, a7]) hd hk hC rfl hc hdd h1 h2 (fun v S2 hq => by obtain ⟨rfl, hq⟩ := hq; exact h S2 hq)
end RH
end
section
/-! ===== links: what each index of each class names ===== -/
theorem tbI : Cond.arrayClass .int ∈ TB := by decide +kernel
theorem tbZ : Cond.arrayClass .boolean ∈ TB := by decide +kernel
theorem lm_X8_3 : LkO RX8 3 := ⟨by decide +kernel, by decide +kernel, by decide +kernel⟩
theorem ln_X8_9 : LkN RX8 9 4 := ⟨RX4, TX4, 5, tyX4, cfX4, by decide +kernel, by decide +kernel, by decide +kernel⟩
theorem lm_X8_11 : LkI RX8 11 yX4_init cX4_init 1 0 := ⟨Or.inr (by decide +kernel), by decide +kernel, by decide +kernel, by decide +kernel, by decide +kernel, by decide, rfl⟩
theorem lp_X8_12 : LkP RX8 "<init>" 12 8 0 := ⟨RX8, TX8, 18, tyX8, cfX8, by decide, by decide +kernel, Or.inr ⟨rfl, rfl, rfl⟩⟩
theorem la_X8_16 : Cond.classLink RX8 16 RX0 ∈ TB := by decide +kernel
theorem lp_X8_18 : LkP RX8 "<init>" 18 8 1 := ⟨RX8, TX8, 18, tyX8, cfX8, by decide, by decide +kernel, Or.inr ⟨rfl, rfl, rfl⟩⟩
theorem la_X8_22 : Cond.classLink RX8 22 RX7 ∈ TB := by decide +kernel
theorem lp_X8_24 : LkP RX8 "<init>" 24 8 2 := ⟨RX8, TX8, 18, tyX8, cfX8, by decide, by decide +kernel, Or.inr ⟨rfl, rfl, rfl⟩⟩
theorem la_X8_28 : Cond.classLink RX8 28 RX2 ∈ TB := by decide +kernel
theorem lp_X8_30 : LkP RX8 "<init>" 30 8 3 := ⟨RX8, TX8, 18, tyX8, cfX8, by decide, by decide +kernel, Or.inr ⟨rfl, rfl, rfl⟩⟩
theorem ln_X8_34 : LkN RX8 34 5 := ⟨RX5, TX5, 2, tyX5, cfX5, by decide +kernel, by decide +kernel, by decide +kernel⟩
theorem lm_X8_36 : LkI RX8 36 yX5_init cX5_init 1 0 := ⟨Or.inr (by decide +kernel), by decide +kernel, by decide +kernel, by decide +kernel, by decide +kernel, by decide, rfl⟩
theorem lp_X8_37 : LkP RX8 "<init>" 37 8 4 := ⟨RX8, TX8, 18, tyX8, cfX8, by decide, by decide +kernel, Or.inr ⟨rfl, rfl, rfl⟩⟩
theorem la_X8_34 : Cond.classLink RX8 34 RX5 ∈ TB := by decide +kernel
theorem lp_X8_41 : LkP RX8 "<init>" 41 8 5 := ⟨RX8, TX8, 18, tyX8, cfX8, by decide, by decide +kernel, Or.inr ⟨rfl, rfl, rfl⟩⟩
theorem ln_X8_45 : LkN RX8 45 3 := ⟨RX3, TX3, 4, tyX3, cfX3, by decide +kernel, by decide +kernel, by decide +kernel⟩
theorem lm_X8_47 : LkI RX8 47 yX3_init cX3_init 1 0 := ⟨Or.inr (by decide +kernel), by decide +kernel, by decide +kernel, by decide +kernel, by decide +kernel, by decide, rfl⟩
theorem lp_X8_48 : LkP RX8 "<init>" 48 8 6 := ⟨RX8, TX8, 18, tyX8, cfX8, by decide, by decide +kernel, Or.inr ⟨rfl, rfl, rfl⟩⟩
theorem ln_X8_52 : LkN RX8 52 1 := ⟨RX1, TX1, 3, tyX1, cfX1, by decide +kernel, by decide +kernel, by decide +kernel⟩
theorem lm_X8_54 : LkI RX8 54 yX1_init cX1_init 1 0 := ⟨Or.inr (by decide +kernel), by decide +kernel, by decide +kernel, by decide +kernel, by decide +kernel, by decide, rfl⟩
theorem lp_X8_55 : LkP RX8 "<init>" 55 8 7 := ⟨RX8, TX8, 18, tyX8, cfX8, by decide, by decide +kernel, Or.inr ⟨rfl, rfl, rfl⟩⟩
theorem ln_X8_59 : LkN RX8 59 6 := ⟨RX6, TX6, 5, tyX6, cfX6, by decide +kernel, by decide +kernel, by decide +kernel⟩
theorem lm_X8_61 : LkI RX8 61 yX6_init cX6_init 1 0 := ⟨Or.inr (by decide +kernel), by decide +kernel, by decide +kernel, by decide +kernel, by decide +kernel, by decide, rfl⟩
theorem lp_X8_62 : LkP RX8 "<init>" 62 8 8 := ⟨RX8, TX8, 18, tyX8, cfX8, by decide, by decide +kernel, Or.inr ⟨rfl, rfl, rfl⟩⟩
theorem lp_X8_66 (nm : String) : LkP RX8 nm 66 8 13 := ⟨RX8, TX8, 18, tyX8, cfX8, by decide, by decide +kernel, Or.inl rfl⟩
theorem lm_X8_70 : LkS RX8 70 yX4_isCell cX4_isCell 1 (some .boolean) 1 := ⟨by decide +kernel, by decide +kernel, by decide +kernel, by decide +kernel, by decide +kernel, by decide⟩
theorem lm_X8_74 : LkS RX8 74 yX8_isWithin cX8_isWithin 3 (some .boolean) 3 := ⟨by decide +kernel, by decide +kernel, by decide +kernel, by decide +kernel, by decide +kernel, by decide⟩
theorem lf_X8_12 : LkF RX8 12 8 0 := ⟨RX8, TX8, 18, tyX8, cfX8, by decide, by decide +kernel⟩
theorem lf_X8_78 : LkF RX8 78 4 0 := ⟨RX4, TX4, 5, tyX4, cfX4, by decide, by decide +kernel⟩
theorem lf_X8_82 : LkF RX8 82 4 1 := ⟨RX4, TX4, 5, tyX4, cfX4, by decide, by decide +kernel⟩
theorem lp_X8_86 (nm : String) : LkP RX8 nm 86 4 3 := ⟨RX4, TX4, 5, tyX4, cfX4, by decide, by decide +kernel, Or.inl rfl⟩
theorem lf_X8_89 : LkF RX8 89 8 9 := ⟨RX8, TX8, 18, tyX8, cfX8, by decide, by decide +kernel⟩
theorem lf_X8_18 : LkF RX8 18 8 1 := ⟨RX8, TX8, 18, tyX8, cfX8, by decide, by decide +kernel⟩
theorem ln_X8_16 : LkN RX8 16 0 := ⟨RX0, TX0, 8, tyX0, cfX0, by decide +kernel, by decide +kernel, by decide +kernel⟩
theorem lm_X8_92 : LkI RX8 92 yX0_init cX0_init 2 1 := ⟨Or.inl (by decide +kernel), by decide +kernel, by decide +kernel, by decide +kernel, by decide +kernel, by decide, rfl⟩
theorem lp_X8_89 (nm : String) : LkP RX8 nm 89 8 9 := ⟨RX8, TX8, 18, tyX8, cfX8, by decide, by decide +kernel, Or.inl rfl⟩
theorem lm_X8_95 : LkV RX8 95 yX8_boatAt cX8_boatAt 2 (some (.object "HerringSea$Boat")) 1 8 := ⟨by decide +kernel, by decide +kernel, by decide +kernel, by decide +kernel, by decide +kernel, by decide +kernel, by decide, by decide, _, rfl, rfl⟩
theorem lp_X8_99 (nm : String) : LkP RX8 nm 99 0 3 := ⟨RX0, TX0, 8, tyX0, cfX0, by decide, by decide +kernel, Or.inl rfl⟩
theorem lf_X8_102 : LkF RX8 102 0 2 := ⟨RX0, TX0, 8, tyX0, cfX0, by decide, by decide +kernel⟩
theorem lp_X8_102 (nm : String) : LkP RX8 nm 102 0 2 := ⟨RX0, TX0, 8, tyX0, cfX0, by decide, by decide +kernel, Or.inl rfl⟩
theorem lf_X8_105 : LkF RX8 105 8 10 := ⟨RX8, TX8, 18, tyX8, cfX8, by decide, by decide +kernel⟩
theorem lf_X8_24 : LkF RX8 24 8 2 := ⟨RX8, TX8, 18, tyX8, cfX8, by decide, by decide +kernel⟩
theorem ln_X8_22 : LkN RX8 22 7 := ⟨RX7, TX7, 5, tyX7, cfX7, by decide +kernel, by decide +kernel, by decide +kernel⟩
theorem lm_X8_108 : LkI RX8 108 yX7_init cX7_init 3 2 := ⟨Or.inl (by decide +kernel), by decide +kernel, by decide +kernel, by decide +kernel, by decide +kernel, by decide, rfl⟩
theorem lp_X8_105 (nm : String) : LkP RX8 nm 105 8 10 := ⟨RX8, TX8, 18, tyX8, cfX8, by decide, by decide +kernel, Or.inl rfl⟩
theorem lm_X8_111 : LkV RX8 111 yX8_yardAt cX8_yardAt 2 (some (.object "HerringSea$Yard")) 1 8 := ⟨by decide +kernel, by decide +kernel, by decide +kernel, by decide +kernel, by decide +kernel, by decide +kernel, by decide, by decide, _, rfl, rfl⟩
theorem lp_X8_115 (nm : String) : LkP RX8 nm 115 7 3 := ⟨RX7, TX7, 5, tyX7, cfX7, by decide, by decide +kernel, Or.inl rfl⟩
theorem lf_X8_118 : LkF RX8 118 8 12 := ⟨RX8, TX8, 18, tyX8, cfX8, by decide, by decide +kernel⟩
theorem lf_X8_121 : LkF RX8 121 8 11 := ⟨RX8, TX8, 18, tyX8, cfX8, by decide, by decide +kernel⟩
theorem lm_X8_124 : LkV RX8 124 yX8_beginNight cX8_beginNight 4 none 1 8 := ⟨by decide +kernel, by decide +kernel, by decide +kernel, by decide +kernel, by decide +kernel, by decide +kernel, by decide, by decide, _, rfl, rfl⟩
theorem lm_X8_128 : LkV RX8 128 yX8_haulEverywhere cX8_haulEverywhere 4 (some .int) 1 8 := ⟨by decide +kernel, by decide +kernel, by decide +kernel, by decide +kernel, by decide +kernel, by decide +kernel, by decide, by decide, _, rfl, rfl⟩
theorem lm_X8_132 : LkV RX8 132 yX4_moveShoals cX4_moveShoals 4 none 0 4 := ⟨by decide +kernel, by decide +kernel, by decide +kernel, by decide +kernel, by decide +kernel, by decide +kernel, by decide, by decide, _, rfl, rfl⟩
theorem lm_X8_135 : LkV RX8 135 yX8_sellAllCatches cX8_sellAllCatches 4 none 0 8 := ⟨by decide +kernel, by decide +kernel, by decide +kernel, by decide +kernel, by decide +kernel, by decide +kernel, by decide, by decide, _, rfl, rfl⟩
theorem lm_X8_138 : LkV RX8 138 yX8_gutLotsFrom cX8_gutLotsFrom 4 none 1 8 := ⟨by decide +kernel, by decide +kernel, by decide +kernel, by decide +kernel, by decide +kernel, by decide +kernel, by decide, by decide, _, rfl, rfl⟩
theorem lp_X8_118 (nm : String) : LkP RX8 nm 118 8 12 := ⟨RX8, TX8, 18, tyX8, cfX8, by decide, by decide +kernel, Or.inl rfl⟩
theorem lm_X8_141 : LkS RX8 141 yX5_bytesIn cX5_bytesIn 3 (some .int) 1 := ⟨by decide +kernel, by decide +kernel, by decide +kernel, by decide +kernel, by decide +kernel, by decide⟩
theorem lf_X8_37 : LkF RX8 37 8 4 := ⟨RX8, TX8, 18, tyX8, cfX8, by decide, by decide +kernel⟩
theorem lf_X8_145 : LkF RX8 145 5 1 := ⟨RX5, TX5, 2, tyX5, cfX5, by decide, by decide +kernel⟩
theorem lm_X8_148 : LkV RX8 148 yX5_addWord cX5_addWord 4 none 1 5 := ⟨by decide +kernel, by decide +kernel, by decide +kernel, by decide +kernel, by decide +kernel, by decide +kernel, by decide, by decide, _, rfl, rfl⟩
theorem lp_X8_145 (nm : String) : LkP RX8 nm 145 5 1 := ⟨RX5, TX5, 2, tyX5, cfX5, by decide, by decide +kernel, Or.inl rfl⟩
theorem lf_X8_55 : LkF RX8 55 8 7 := ⟨RX8, TX8, 18, tyX8, cfX8, by decide, by decide +kernel⟩
theorem lm_X8_151 : LkV RX8 151 yX1_faultOf cX1_faultOf 3 (some .int) 1 1 := ⟨by decide +kernel, by decide +kernel, by decide +kernel, by decide +kernel, by decide +kernel, by decide +kernel, by decide, by decide, _, rfl, rfl⟩
theorem lf_X8_41 : LkF RX8 41 8 5 := ⟨RX8, TX8, 18, tyX8, cfX8, by decide, by decide +kernel⟩
theorem lm_X8_155 : LkV RX8 155 yX5_copyFrom cX5_copyFrom 3 none 1 5 := ⟨by decide +kernel, by decide +kernel, by decide +kernel, by decide +kernel, by decide +kernel, by decide +kernel, by decide, by decide, _, rfl, rfl⟩
theorem lm_X8_159 : LkV RX8 159 yX8_textAt cX8_textAt 2 (some (.object "HerringSea$Text")) 1 8 := ⟨by decide +kernel, by decide +kernel, by decide +kernel, by decide +kernel, by decide +kernel, by decide +kernel, by decide, by decide, _, rfl, rfl⟩
theorem lm_X8_163 : LkV RX8 163 yX8_lotAt cX8_lotAt 2 (some (.object "HerringSea$Lot")) 1 8 := ⟨by decide +kernel, by decide +kernel, by decide +kernel, by decide +kernel, by decide +kernel, by decide +kernel, by decide, by decide, _, rfl, rfl⟩
theorem lf_X8_62 : LkF RX8 62 8 8 := ⟨RX8, TX8, 18, tyX8, cfX8, by decide, by decide +kernel⟩
theorem lm_X8_167 : LkV RX8 167 yX6_holds cX6_holds 5 (some .boolean) 3 6 := ⟨by decide +kernel, by decide +kernel, by decide +kernel, by decide +kernel, by decide +kernel, by decide +kernel, by decide, by decide, _, rfl, rfl⟩
theorem lm_X8_171 : LkS RX8 171 yX0_isHand cX0_isHand 1 (some .boolean) 1 := ⟨by decide +kernel, by decide +kernel, by decide +kernel, by decide +kernel, by decide +kernel, by decide⟩
theorem lf_X8_174 : LkF RX8 174 0 0 := ⟨RX0, TX0, 8, tyX0, cfX0, by decide, by decide +kernel⟩
theorem lf_X8_177 : LkF RX8 177 0 6 := ⟨RX0, TX0, 8, tyX0, cfX0, by decide, by decide +kernel⟩
theorem lf_X8_48 : LkF RX8 48 8 6 := ⟨RX8, TX8, 18, tyX8, cfX8, by decide, by decide +kernel⟩
theorem lm_X8_180 : LkV RX8 180 yX3_clear cX3_clear 2 none 0 3 := ⟨by decide +kernel, by decide +kernel, by decide +kernel, by decide +kernel, by decide +kernel, by decide +kernel, by decide, by decide, _, rfl, rfl⟩
theorem lm_X8_183 : LkV RX8 183 yX3_addMeasure cX3_addMeasure 3 none 2 3 := ⟨by decide +kernel, by decide +kernel, by decide +kernel, by decide +kernel, by decide +kernel, by decide +kernel, by decide, by decide, _, rfl, rfl⟩
theorem lf_X8_186 : LkF RX8 186 3 3 := ⟨RX3, TX3, 4, tyX3, cfX3, by decide, by decide +kernel⟩
theorem lm_X8_189 : LkV RX8 189 yX3_part cX3_part 6 none 1 3 := ⟨by decide +kernel, by decide +kernel, by decide +kernel, by decide +kernel, by decide +kernel, by decide +kernel, by decide, by decide, _, rfl, rfl⟩
theorem lf_X8_192 : LkF RX8 192 0 1 := ⟨RX0, TX0, 8, tyX0, cfX0, by decide, by decide +kernel⟩
theorem lf_X8_195 : LkF RX8 195 3 0 := ⟨RX3, TX3, 4, tyX3, cfX3, by decide, by decide +kernel⟩
theorem lp_X8_177 (nm : String) : LkP RX8 nm 177 0 6 := ⟨RX0, TX0, 8, tyX0, cfX0, by decide, by decide +kernel, Or.inl rfl⟩
theorem lf_X8_99 : LkF RX8 99 0 3 := ⟨RX0, TX0, 8, tyX0, cfX0, by decide, by decide +kernel⟩
theorem lf_X8_198 : LkF RX8 198 0 4 := ⟨RX0, TX0, 8, tyX0, cfX0, by decide, by decide +kernel⟩
theorem lf_X8_201 : LkF RX8 201 0 7 := ⟨RX0, TX0, 8, tyX0, cfX0, by decide, by decide +kernel⟩
theorem lf_X8_204 : LkF RX8 204 0 5 := ⟨RX0, TX0, 8, tyX0, cfX0, by decide, by decide +kernel⟩
theorem lf_X8_207 : LkF RX8 207 2 0 := ⟨RX2, TX2, 11, tyX2, cfX2, by decide, by decide +kernel⟩
theorem lf_X8_210 : LkF RX8 210 2 1 := ⟨RX2, TX2, 11, tyX2, cfX2, by decide, by decide +kernel⟩
theorem lf_X8_213 : LkF RX8 213 2 2 := ⟨RX2, TX2, 11, tyX2, cfX2, by decide, by decide +kernel⟩
theorem lf_X8_214 : LkF RX8 214 2 3 := ⟨RX2, TX2, 11, tyX2, cfX2, by decide, by decide +kernel⟩
theorem lf_X8_217 : LkF RX8 217 2 4 := ⟨RX2, TX2, 11, tyX2, cfX2, by decide, by decide +kernel⟩
theorem lf_X8_219 : LkF RX8 219 2 7 := ⟨RX2, TX2, 11, tyX2, cfX2, by decide, by decide +kernel⟩
theorem lf_X8_222 : LkF RX8 222 2 8 := ⟨RX2, TX2, 11, tyX2, cfX2, by decide, by decide +kernel⟩
theorem lf_X8_225 : LkF RX8 225 2 5 := ⟨RX2, TX2, 11, tyX2, cfX2, by decide, by decide +kernel⟩
theorem lf_X8_228 : LkF RX8 228 2 6 := ⟨RX2, TX2, 11, tyX2, cfX2, by decide, by decide +kernel⟩
theorem lf_X8_231 : LkF RX8 231 2 9 := ⟨RX2, TX2, 11, tyX2, cfX2, by decide, by decide +kernel⟩
theorem lf_X8_234 : LkF RX8 234 2 10 := ⟨RX2, TX2, 11, tyX2, cfX2, by decide, by decide +kernel⟩
theorem lm_X8_237 : LkV RX8 237 yX4_cransInAll cX4_cransInAll 3 (some .int) 0 4 := ⟨by decide +kernel, by decide +kernel, by decide +kernel, by decide +kernel, by decide +kernel, by decide +kernel, by decide, by decide, _, rfl, rfl⟩
theorem lf_X8_241 : LkF RX8 241 8 14 := ⟨RX8, TX8, 18, tyX8, cfX8, by decide, by decide +kernel⟩
theorem lf_X8_242 : LkF RX8 242 8 15 := ⟨RX8, TX8, 18, tyX8, cfX8, by decide, by decide +kernel⟩
theorem lf_X8_245 : LkF RX8 245 8 16 := ⟨RX8, TX8, 18, tyX8, cfX8, by decide, by decide +kernel⟩
theorem lf_X8_248 : LkF RX8 248 4 4 := ⟨RX4, TX4, 5, tyX4, cfX4, by decide, by decide +kernel⟩
theorem lf_X8_251 : LkF RX8 251 8 17 := ⟨RX8, TX8, 18, tyX8, cfX8, by decide, by decide +kernel⟩
theorem lm_X8_254 : LkV RX8 254 yX8_owedInAll cX8_owedInAll 4 (some .int) 0 8 := ⟨by decide +kernel, by decide +kernel, by decide +kernel, by decide +kernel, by decide +kernel, by decide +kernel, by decide, by decide, _, rfl, rfl⟩
theorem lf_X8_30 : LkF RX8 30 8 3 := ⟨RX8, TX8, 18, tyX8, cfX8, by decide, by decide +kernel⟩
theorem lp_X8_204 (nm : String) : LkP RX8 nm 204 0 5 := ⟨RX0, TX0, 8, tyX0, cfX0, by decide, by decide +kernel, Or.inl rfl⟩
theorem lm_X8_257 : LkV RX8 257 yX8_isStormy cX8_isStormy 3 (some .boolean) 2 8 := ⟨by decide +kernel, by decide +kernel, by decide +kernel, by decide +kernel, by decide +kernel, by decide +kernel, by decide, by decide, _, rfl, rfl⟩
theorem lm_X8_261 : LkV RX8 261 yX0_loseNets cX0_loseNets 2 none 0 0 := ⟨by decide +kernel, by decide +kernel, by decide +kernel, by decide +kernel, by decide +kernel, by decide +kernel, by decide, by decide, _, rfl, rfl⟩
theorem lm_X8_264 : LkV RX8 264 yX7_beginDay cX7_beginDay 2 none 0 7 := ⟨by decide +kernel, by decide +kernel, by decide +kernel, by decide +kernel, by decide +kernel, by decide +kernel, by decide, by decide, _, rfl, rfl⟩
theorem lm_X8_267 : LkV RX8 267 yX8_haulIn cX8_haulIn 5 (some .int) 1 8 := ⟨by decide +kernel, by decide +kernel, by decide +kernel, by decide +kernel, by decide +kernel, by decide +kernel, by decide, by decide, _, rfl, rfl⟩
theorem lp_X8_241 (nm : String) : LkP RX8 nm 241 8 14 := ⟨RX8, TX8, 18, tyX8, cfX8, by decide, by decide +kernel, Or.inl rfl⟩
theorem lm_X8_270 : LkMmin RX8 270 := ⟨by decide +kernel, by decide +kernel, by decide +kernel, by decide +kernel⟩
theorem lm_X8_276 : LkV RX8 276 yX0_takeIn cX0_takeIn 2 none 1 0 := ⟨by decide +kernel, by decide +kernel, by decide +kernel, by decide +kernel, by decide +kernel, by decide +kernel, by decide, by decide, _, rfl, rfl⟩
theorem lm_X8_279 : LkS RX8 279 yX4_stepsFrom cX4_stepsFrom 1 (some .int) 1 := ⟨by decide +kernel, by decide +kernel, by decide +kernel, by decide +kernel, by decide +kernel, by decide⟩
theorem lm_X8_282 : LkV RX8 282 yX8_sellCatch cX8_sellCatch 9 none 3 8 := ⟨by decide +kernel, by decide +kernel, by decide +kernel, by decide +kernel, by decide +kernel, by decide +kernel, by decide, by decide, _, rfl, rfl⟩
theorem lm_X8_286 : LkV RX8 286 yX8_bestBidder cX8_bestBidder 5 (some .int) 0 8 := ⟨by decide +kernel, by decide +kernel, by decide +kernel, by decide +kernel, by decide +kernel, by decide +kernel, by decide, by decide, _, rfl, rfl⟩
theorem lf_X8_289 : LkF RX8 289 7 4 := ⟨RX7, TX7, 5, tyX7, cfX7, by decide, by decide +kernel⟩
theorem ln_X8_28 : LkN RX8 28 2 := ⟨RX2, TX2, 11, tyX2, cfX2, by decide +kernel, by decide +kernel, by decide +kernel⟩
theorem lf_X8_115 : LkF RX8 115 7 3 := ⟨RX7, TX7, 5, tyX7, cfX7, by decide, by decide +kernel⟩
theorem lm_X8_292 : LkI RX8 292 yX2_init cX2_init 8 7 := ⟨Or.inl (by decide +kernel), by decide +kernel, by decide +kernel, by decide +kernel, by decide +kernel, by decide, rfl⟩
theorem lp_X8_121 (nm : String) : LkP RX8 nm 121 8 11 := ⟨RX8, TX8, 18, tyX8, cfX8, by decide, by decide +kernel, Or.inl rfl⟩
theorem lp_X8_289 (nm : String) : LkP RX8 nm 289 7 4 := ⟨RX7, TX7, 5, tyX7, cfX7, by decide, by decide +kernel, Or.inl rfl⟩
theorem lp_X8_251 (nm : String) : LkP RX8 nm 251 8 17 := ⟨RX8, TX8, 18, tyX8, cfX8, by decide, by decide +kernel, Or.inl rfl⟩
theorem lm_X8_295 : LkV RX8 295 yX8_gutLot cX8_gutLot 3 none 1 8 := ⟨by decide +kernel, by decide +kernel, by decide +kernel, by decide +kernel, by decide +kernel, by decide +kernel, by decide, by decide, _, rfl, rfl⟩
theorem lf_X8_66 : LkF RX8 66 8 13 := ⟨RX8, TX8, 18, tyX8, cfX8, by decide, by decide +kernel⟩
theorem lm_X8_299 : LkV RX8 299 yX7_gut cX7_gut 6 none 2 7 := ⟨by decide +kernel, by decide +kernel, by decide +kernel, by decide +kernel, by decide +kernel, by decide +kernel, by decide, by decide, _, rfl, rfl⟩
theorem lp_X8_242 (nm : String) : LkP RX8 nm 242 8 15 := ⟨RX8, TX8, 18, tyX8, cfX8, by decide, by decide +kernel, Or.inl rfl⟩
theorem lp_X8_245 (nm : String) : LkP RX8 nm 245 8 16 := ⟨RX8, TX8, 18, tyX8, cfX8, by decide, by decide +kernel, Or.inl rfl⟩
theorem lm_X9_1 : LkO RX9 1 := ⟨by decide +kernel, by decide +kernel, by decide +kernel⟩
theorem lp_X9_9 : LkP RX9 "<init>" 9 9 0 := ⟨RX9, TX9, 53, tyX9, cfX9, by decide, by decide +kernel, Or.inr ⟨rfl, rfl, rfl⟩⟩
theorem lp_X9_13 : LkP RX9 "<init>" 13 9 1 := ⟨RX9, TX9, 53, tyX9, cfX9, by decide, by decide +kernel, Or.inr ⟨rfl, rfl, rfl⟩⟩
theorem lp_X9_17 : LkP RX9 "<init>" 17 9 2 := ⟨RX9, TX9, 53, tyX9, cfX9, by decide, by decide +kernel, Or.inr ⟨rfl, rfl, rfl⟩⟩
theorem lp_X9_20 : LkP RX9 "<init>" 20 9 3 := ⟨RX9, TX9, 53, tyX9, cfX9, by decide, by decide +kernel, Or.inr ⟨rfl, rfl, rfl⟩⟩
theorem lp_X9_23 : LkP RX9 "<init>" 23 9 4 := ⟨RX9, TX9, 53, tyX9, cfX9, by decide, by decide +kernel, Or.inr ⟨rfl, rfl, rfl⟩⟩
theorem lp_X9_26 : LkP RX9 "<init>" 26 9 5 := ⟨RX9, TX9, 53, tyX9, cfX9, by decide, by decide +kernel, Or.inr ⟨rfl, rfl, rfl⟩⟩
theorem lp_X9_29 : LkP RX9 "<init>" 29 9 6 := ⟨RX9, TX9, 53, tyX9, cfX9, by decide, by decide +kernel, Or.inr ⟨rfl, rfl, rfl⟩⟩
theorem lp_X9_32 : LkP RX9 "<init>" 32 9 7 := ⟨RX9, TX9, 53, tyX9, cfX9, by decide, by decide +kernel, Or.inr ⟨rfl, rfl, rfl⟩⟩
theorem lp_X9_35 : LkP RX9 "<init>" 35 9 8 := ⟨RX9, TX9, 53, tyX9, cfX9, by decide, by decide +kernel, Or.inr ⟨rfl, rfl, rfl⟩⟩
theorem lp_X9_38 : LkP RX9 "<init>" 38 9 9 := ⟨RX9, TX9, 53, tyX9, cfX9, by decide, by decide +kernel, Or.inr ⟨rfl, rfl, rfl⟩⟩
theorem lp_X9_41 : LkP RX9 "<init>" 41 9 10 := ⟨RX9, TX9, 53, tyX9, cfX9, by decide, by decide +kernel, Or.inr ⟨rfl, rfl, rfl⟩⟩
theorem lp_X9_44 : LkP RX9 "<init>" 44 9 11 := ⟨RX9, TX9, 53, tyX9, cfX9, by decide, by decide +kernel, Or.inr ⟨rfl, rfl, rfl⟩⟩
theorem lp_X9_47 : LkP RX9 "<init>" 47 9 12 := ⟨RX9, TX9, 53, tyX9, cfX9, by decide, by decide +kernel, Or.inr ⟨rfl, rfl, rfl⟩⟩
theorem lp_X9_50 : LkP RX9 "<init>" 50 9 13 := ⟨RX9, TX9, 53, tyX9, cfX9, by decide, by decide +kernel, Or.inr ⟨rfl, rfl, rfl⟩⟩
theorem lp_X9_53 : LkP RX9 "<init>" 53 9 14 := ⟨RX9, TX9, 53, tyX9, cfX9, by decide, by decide +kernel, Or.inr ⟨rfl, rfl, rfl⟩⟩
theorem lp_X9_56 : LkP RX9 "<init>" 56 9 15 := ⟨RX9, TX9, 53, tyX9, cfX9, by decide, by decide +kernel, Or.inr ⟨rfl, rfl, rfl⟩⟩
theorem lp_X9_59 : LkP RX9 "<init>" 59 9 16 := ⟨RX9, TX9, 53, tyX9, cfX9, by decide, by decide +kernel, Or.inr ⟨rfl, rfl, rfl⟩⟩
theorem lp_X9_62 : LkP RX9 "<init>" 62 9 17 := ⟨RX9, TX9, 53, tyX9, cfX9, by decide, by decide +kernel, Or.inr ⟨rfl, rfl, rfl⟩⟩
theorem lp_X9_65 : LkP RX9 "<init>" 65 9 18 := ⟨RX9, TX9, 53, tyX9, cfX9, by decide, by decide +kernel, Or.inr ⟨rfl, rfl, rfl⟩⟩
theorem lp_X9_68 : LkP RX9 "<init>" 68 9 19 := ⟨RX9, TX9, 53, tyX9, cfX9, by decide, by decide +kernel, Or.inr ⟨rfl, rfl, rfl⟩⟩
theorem lp_X9_71 : LkP RX9 "<init>" 71 9 20 := ⟨RX9, TX9, 53, tyX9, cfX9, by decide, by decide +kernel, Or.inr ⟨rfl, rfl, rfl⟩⟩
theorem lp_X9_74 : LkP RX9 "<init>" 74 9 21 := ⟨RX9, TX9, 53, tyX9, cfX9, by decide, by decide +kernel, Or.inr ⟨rfl, rfl, rfl⟩⟩
theorem lp_X9_77 : LkP RX9 "<init>" 77 9 22 := ⟨RX9, TX9, 53, tyX9, cfX9, by decide, by decide +kernel, Or.inr ⟨rfl, rfl, rfl⟩⟩
theorem lp_X9_80 : LkP RX9 "<init>" 80 9 23 := ⟨RX9, TX9, 53, tyX9, cfX9, by decide, by decide +kernel, Or.inr ⟨rfl, rfl, rfl⟩⟩
theorem lp_X9_83 (nm : String) : LkP RX9 nm 83 9 29 := ⟨RX9, TX9, 53, tyX9, cfX9, by decide, by decide +kernel, Or.inl rfl⟩
theorem lp_X9_87 : LkP RX9 "<init>" 87 9 35 := ⟨RX9, TX9, 53, tyX9, cfX9, by decide, by decide +kernel, Or.inr ⟨rfl, rfl, rfl⟩⟩
theorem lp_X9_90 : LkP RX9 "<init>" 90 9 36 := ⟨RX9, TX9, 53, tyX9, cfX9, by decide, by decide +kernel, Or.inr ⟨rfl, rfl, rfl⟩⟩
theorem lp_X9_93 : LkP RX9 "<init>" 93 9 37 := ⟨RX9, TX9, 53, tyX9, cfX9, by decide, by decide +kernel, Or.inr ⟨rfl, rfl, rfl⟩⟩
theorem lp_X9_96 : LkP RX9 "<init>" 96 9 38 := ⟨RX9, TX9, 53, tyX9, cfX9, by decide, by decide +kernel, Or.inr ⟨rfl, rfl, rfl⟩⟩
theorem lp_X9_99 : LkP RX9 "<init>" 99 9 39 := ⟨RX9, TX9, 53, tyX9, cfX9, by decide, by decide +kernel, Or.inr ⟨rfl, rfl, rfl⟩⟩
theorem lp_X9_102 : LkP RX9 "<init>" 102 9 40 := ⟨RX9, TX9, 53, tyX9, cfX9, by decide, by decide +kernel, Or.inr ⟨rfl, rfl, rfl⟩⟩
theorem lp_X9_105 : LkP RX9 "<init>" 105 9 41 := ⟨RX9, TX9, 53, tyX9, cfX9, by decide, by decide +kernel, Or.inr ⟨rfl, rfl, rfl⟩⟩
theorem lp_X9_108 : LkP RX9 "<init>" 108 9 42 := ⟨RX9, TX9, 53, tyX9, cfX9, by decide, by decide +kernel, Or.inr ⟨rfl, rfl, rfl⟩⟩
theorem lp_X9_111 : LkP RX9 "<init>" 111 9 43 := ⟨RX9, TX9, 53, tyX9, cfX9, by decide, by decide +kernel, Or.inr ⟨rfl, rfl, rfl⟩⟩
theorem lp_X9_114 : LkP RX9 "<init>" 114 9 44 := ⟨RX9, TX9, 53, tyX9, cfX9, by decide, by decide +kernel, Or.inr ⟨rfl, rfl, rfl⟩⟩
theorem lp_X9_117 : LkP RX9 "<init>" 117 9 45 := ⟨RX9, TX9, 53, tyX9, cfX9, by decide, by decide +kernel, Or.inr ⟨rfl, rfl, rfl⟩⟩
theorem lp_X9_120 : LkP RX9 "<init>" 120 9 46 := ⟨RX9, TX9, 53, tyX9, cfX9, by decide, by decide +kernel, Or.inr ⟨rfl, rfl, rfl⟩⟩
theorem lp_X9_123 : LkP RX9 "<init>" 123 9 52 := ⟨RX9, TX9, 53, tyX9, cfX9, by decide, by decide +kernel, Or.inr ⟨rfl, rfl, rfl⟩⟩
theorem lf_X9_126 : LkF RX9 126 9 25 := ⟨RX9, TX9, 53, tyX9, cfX9, by decide, by decide +kernel⟩
theorem lm_X9_129 : LkS RX9 129 yX9_in cX9_in 3 (some .boolean) 3 := ⟨by decide +kernel, by decide +kernel, by decide +kernel, by decide +kernel, by decide +kernel, by decide⟩
theorem lf_X9_87 : LkF RX9 87 9 35 := ⟨RX9, TX9, 53, tyX9, cfX9, by decide, by decide +kernel⟩
theorem lf_X9_90 : LkF RX9 90 9 36 := ⟨RX9, TX9, 53, tyX9, cfX9, by decide, by decide +kernel⟩
theorem lf_X9_93 : LkF RX9 93 9 37 := ⟨RX9, TX9, 53, tyX9, cfX9, by decide, by decide +kernel⟩
theorem lf_X9_9 : LkF RX9 9 9 0 := ⟨RX9, TX9, 53, tyX9, cfX9, by decide, by decide +kernel⟩
theorem lf_X9_13 : LkF RX9 13 9 1 := ⟨RX9, TX9, 53, tyX9, cfX9, by decide, by decide +kernel⟩
theorem lp_X9_133 (nm : String) : LkP RX9 nm 133 9 28 := ⟨RX9, TX9, 53, tyX9, cfX9, by decide, by decide +kernel, Or.inl rfl⟩
theorem lf_X9_17 : LkF RX9 17 9 2 := ⟨RX9, TX9, 53, tyX9, cfX9, by decide, by decide +kernel⟩
theorem lf_X9_20 : LkF RX9 20 9 3 := ⟨RX9, TX9, 53, tyX9, cfX9, by decide, by decide +kernel⟩
theorem lp_X9_126 (nm : String) : LkP RX9 nm 126 9 25 := ⟨RX9, TX9, 53, tyX9, cfX9, by decide, by decide +kernel, Or.inl rfl⟩
theorem lm_X9_136 : LkV RX9 136 yX9_isBoat cX9_isBoat 2 (some .boolean) 1 9 := ⟨by decide +kernel, by decide +kernel, by decide +kernel, by decide +kernel, by decide +kernel, by decide +kernel, by decide, by decide, _, rfl, rfl⟩
theorem lf_X9_140 : LkF RX9 140 9 26 := ⟨RX9, TX9, 53, tyX9, cfX9, by decide, by decide +kernel⟩
theorem lf_X9_41 : LkF RX9 41 9 10 := ⟨RX9, TX9, 53, tyX9, cfX9, by decide, by decide +kernel⟩
theorem lf_X9_44 : LkF RX9 44 9 11 := ⟨RX9, TX9, 53, tyX9, cfX9, by decide, by decide +kernel⟩
theorem lp_X9_140 (nm : String) : LkP RX9 nm 140 9 26 := ⟨RX9, TX9, 53, tyX9, cfX9, by decide, by decide +kernel, Or.inl rfl⟩
theorem lf_X9_47 : LkF RX9 47 9 12 := ⟨RX9, TX9, 53, tyX9, cfX9, by decide, by decide +kernel⟩
theorem lf_X9_96 : LkF RX9 96 9 38 := ⟨RX9, TX9, 53, tyX9, cfX9, by decide, by decide +kernel⟩
theorem lm_X9_143 : LkMmin RX9 143 := ⟨by decide +kernel, by decide +kernel, by decide +kernel, by decide +kernel⟩
theorem lm_X9_149 : LkV RX9 149 yX9_partAmong cX9_partAmong 14 none 2 9 := ⟨by decide +kernel, by decide +kernel, by decide +kernel, by decide +kernel, by decide +kernel, by decide +kernel, by decide, by decide, _, rfl, rfl⟩
theorem lf_X9_26 : LkF RX9 26 9 5 := ⟨RX9, TX9, 53, tyX9, cfX9, by decide, by decide +kernel⟩
theorem lf_X9_23 : LkF RX9 23 9 4 := ⟨RX9, TX9, 53, tyX9, cfX9, by decide, by decide +kernel⟩
theorem lf_X9_32 : LkF RX9 32 9 7 := ⟨RX9, TX9, 53, tyX9, cfX9, by decide, by decide +kernel⟩
theorem lf_X9_133 : LkF RX9 133 9 28 := ⟨RX9, TX9, 53, tyX9, cfX9, by decide, by decide +kernel⟩
theorem lf_X9_99 : LkF RX9 99 9 39 := ⟨RX9, TX9, 53, tyX9, cfX9, by decide, by decide +kernel⟩
theorem lm_X9_153 : LkV RX9 153 yX9_beside cX9_beside 4 (some .int) 1 9 := ⟨by decide +kernel, by decide +kernel, by decide +kernel, by decide +kernel, by decide +kernel, by decide +kernel, by decide, by decide, _, rfl, rfl⟩
theorem lf_X9_157 : LkF RX9 157 9 33 := ⟨RX9, TX9, 53, tyX9, cfX9, by decide, by decide +kernel⟩
theorem lm_X9_160 : LkMmax RX9 160 := ⟨by decide +kernel, by decide +kernel, by decide +kernel, by decide +kernel⟩
theorem lp_X9_157 (nm : String) : LkP RX9 nm 157 9 33 := ⟨RX9, TX9, 53, tyX9, cfX9, by decide, by decide +kernel, Or.inl rfl⟩
theorem lf_X9_105 : LkF RX9 105 9 41 := ⟨RX9, TX9, 53, tyX9, cfX9, by decide, by decide +kernel⟩
theorem lm_X9_163 : LkV RX9 163 yX9_minute cX9_minute 2 (some .int) 1 9 := ⟨by decide +kernel, by decide +kernel, by decide +kernel, by decide +kernel, by decide +kernel, by decide +kernel, by decide, by decide, _, rfl, rfl⟩
theorem lf_X9_102 : LkF RX9 102 9 40 := ⟨RX9, TX9, 53, tyX9, cfX9, by decide, by decide +kernel⟩
theorem lm_X9_166 : LkV RX9 166 yX9_nextBoat cX9_nextBoat 3 (some .int) 0 9 := ⟨by decide +kernel, by decide +kernel, by decide +kernel, by decide +kernel, by decide +kernel, by decide +kernel, by decide, by decide, _, rfl, rfl⟩
theorem lm_X9_170 : LkV RX9 170 yX9_bestYard cX9_bestYard 3 (some .int) 0 9 := ⟨by decide +kernel, by decide +kernel, by decide +kernel, by decide +kernel, by decide +kernel, by decide +kernel, by decide, by decide, _, rfl, rfl⟩
theorem lf_X9_173 : LkF RX9 173 9 27 := ⟨RX9, TX9, 53, tyX9, cfX9, by decide, by decide +kernel⟩
theorem lm_X9_176 : LkV RX9 176 yX9_sell cX9_sell 4 none 3 9 := ⟨by decide +kernel, by decide +kernel, by decide +kernel, by decide +kernel, by decide +kernel, by decide +kernel, by decide, by decide, _, rfl, rfl⟩
theorem lf_X9_180 : LkF RX9 180 9 34 := ⟨RX9, TX9, 53, tyX9, cfX9, by decide, by decide +kernel⟩
theorem lp_X9_180 (nm : String) : LkP RX9 nm 180 9 34 := ⟨RX9, TX9, 53, tyX9, cfX9, by decide, by decide +kernel, Or.inl rfl⟩
theorem lf_X9_29 : LkF RX9 29 9 6 := ⟨RX9, TX9, 53, tyX9, cfX9, by decide, by decide +kernel⟩
theorem lf_X9_50 : LkF RX9 50 9 13 := ⟨RX9, TX9, 53, tyX9, cfX9, by decide, by decide +kernel⟩
theorem lf_X9_183 : LkF RX9 183 9 24 := ⟨RX9, TX9, 53, tyX9, cfX9, by decide, by decide +kernel⟩
theorem lf_X9_53 : LkF RX9 53 9 14 := ⟨RX9, TX9, 53, tyX9, cfX9, by decide, by decide +kernel⟩
theorem lf_X9_56 : LkF RX9 56 9 15 := ⟨RX9, TX9, 53, tyX9, cfX9, by decide, by decide +kernel⟩
theorem lf_X9_59 : LkF RX9 59 9 16 := ⟨RX9, TX9, 53, tyX9, cfX9, by decide, by decide +kernel⟩
theorem lf_X9_62 : LkF RX9 62 9 17 := ⟨RX9, TX9, 53, tyX9, cfX9, by decide, by decide +kernel⟩
theorem lf_X9_71 : LkF RX9 71 9 20 := ⟨RX9, TX9, 53, tyX9, cfX9, by decide, by decide +kernel⟩
theorem lf_X9_74 : LkF RX9 74 9 21 := ⟨RX9, TX9, 53, tyX9, cfX9, by decide, by decide +kernel⟩
theorem lp_X9_173 (nm : String) : LkP RX9 nm 173 9 27 := ⟨RX9, TX9, 53, tyX9, cfX9, by decide, by decide +kernel, Or.inl rfl⟩
theorem lf_X9_108 : LkF RX9 108 9 42 := ⟨RX9, TX9, 53, tyX9, cfX9, by decide, by decide +kernel⟩
theorem lf_X9_83 : LkF RX9 83 9 29 := ⟨RX9, TX9, 53, tyX9, cfX9, by decide, by decide +kernel⟩
theorem lf_X9_68 : LkF RX9 68 9 19 := ⟨RX9, TX9, 53, tyX9, cfX9, by decide, by decide +kernel⟩
theorem lf_X9_186 : LkF RX9 186 9 32 := ⟨RX9, TX9, 53, tyX9, cfX9, by decide, by decide +kernel⟩
theorem lp_X9_186 (nm : String) : LkP RX9 nm 186 9 32 := ⟨RX9, TX9, 53, tyX9, cfX9, by decide, by decide +kernel, Or.inl rfl⟩
theorem lf_X9_65 : LkF RX9 65 9 18 := ⟨RX9, TX9, 53, tyX9, cfX9, by decide, by decide +kernel⟩
theorem lf_X9_189 : LkF RX9 189 9 31 := ⟨RX9, TX9, 53, tyX9, cfX9, by decide, by decide +kernel⟩
theorem lp_X9_189 (nm : String) : LkP RX9 nm 189 9 31 := ⟨RX9, TX9, 53, tyX9, cfX9, by decide, by decide +kernel, Or.inl rfl⟩
theorem lf_X9_77 : LkF RX9 77 9 22 := ⟨RX9, TX9, 53, tyX9, cfX9, by decide, by decide +kernel⟩
theorem lf_X9_80 : LkF RX9 80 9 23 := ⟨RX9, TX9, 53, tyX9, cfX9, by decide, by decide +kernel⟩
theorem lm_X9_192 : LkV RX9 192 yX9_haul cX9_haul 6 (some .int) 1 9 := ⟨by decide +kernel, by decide +kernel, by decide +kernel, by decide +kernel, by decide +kernel, by decide +kernel, by decide, by decide, _, rfl, rfl⟩
theorem lm_X9_195 : LkV RX9 195 yX9_storm cX9_storm 3 none 0 9 := ⟨by decide +kernel, by decide +kernel, by decide +kernel, by decide +kernel, by decide +kernel, by decide +kernel, by decide, by decide, _, rfl, rfl⟩
theorem lf_X9_198 : LkF RX9 198 9 30 := ⟨RX9, TX9, 53, tyX9, cfX9, by decide, by decide +kernel⟩
theorem lp_X9_198 (nm : String) : LkP RX9 nm 198 9 30 := ⟨RX9, TX9, 53, tyX9, cfX9, by decide, by decide +kernel, Or.inl rfl⟩
theorem lm_X9_201 : LkV RX9 201 yX9_driftAll cX9_driftAll 3 none 0 9 := ⟨by decide +kernel, by decide +kernel, by decide +kernel, by decide +kernel, by decide +kernel, by decide +kernel, by decide, by decide, _, rfl, rfl⟩
theorem lm_X9_204 : LkV RX9 204 yX9_sellAll cX9_sellAll 5 none 0 9 := ⟨by decide +kernel, by decide +kernel, by decide +kernel, by decide +kernel, by decide +kernel, by decide +kernel, by decide, by decide, _, rfl, rfl⟩
theorem lm_X9_207 : LkV RX9 207 yX9_work cX9_work 8 none 2 9 := ⟨by decide +kernel, by decide +kernel, by decide +kernel, by decide +kernel, by decide +kernel, by decide +kernel, by decide, by decide, _, rfl, rfl⟩
theorem lp_X9_183 (nm : String) : LkP RX9 nm 183 9 24 := ⟨RX9, TX9, 53, tyX9, cfX9, by decide, by decide +kernel, Or.inl rfl⟩
theorem lm_X9_211 : LkS RX9 211 yX9_byteOf cX9_byteOf 7 (some .int) 6 := ⟨by decide +kernel, by decide +kernel, by decide +kernel, by decide +kernel, by decide +kernel, by decide⟩
theorem lf_X9_215 : LkF RX9 215 9 47 := ⟨RX9, TX9, 53, tyX9, cfX9, by decide, by decide +kernel⟩
theorem lf_X9_111 : LkF RX9 111 9 43 := ⟨RX9, TX9, 53, tyX9, cfX9, by decide, by decide +kernel⟩
theorem lp_X9_215 (nm : String) : LkP RX9 nm 215 9 47 := ⟨RX9, TX9, 53, tyX9, cfX9, by decide, by decide +kernel, Or.inl rfl⟩
theorem lf_X9_218 : LkF RX9 218 9 48 := ⟨RX9, TX9, 53, tyX9, cfX9, by decide, by decide +kernel⟩
theorem lp_X9_218 (nm : String) : LkP RX9 nm 218 9 48 := ⟨RX9, TX9, 53, tyX9, cfX9, by decide, by decide +kernel, Or.inl rfl⟩
theorem lf_X9_221 : LkF RX9 221 9 49 := ⟨RX9, TX9, 53, tyX9, cfX9, by decide, by decide +kernel⟩
theorem lp_X9_221 (nm : String) : LkP RX9 nm 221 9 49 := ⟨RX9, TX9, 53, tyX9, cfX9, by decide, by decide +kernel, Or.inl rfl⟩
theorem lf_X9_117 : LkF RX9 117 9 45 := ⟨RX9, TX9, 53, tyX9, cfX9, by decide, by decide +kernel⟩
theorem lf_X9_224 : LkF RX9 224 9 51 := ⟨RX9, TX9, 53, tyX9, cfX9, by decide, by decide +kernel⟩
theorem lp_X9_224 (nm : String) : LkP RX9 nm 224 9 51 := ⟨RX9, TX9, 53, tyX9, cfX9, by decide, by decide +kernel, Or.inl rfl⟩
theorem lm_X9_227 : LkV RX9 227 yX9_look cX9_look 1 (some .int) 0 9 := ⟨by decide +kernel, by decide +kernel, by decide +kernel, by decide +kernel, by decide +kernel, by decide +kernel, by decide, by decide, _, rfl, rfl⟩
theorem lf_X9_230 : LkF RX9 230 9 50 := ⟨RX9, TX9, 53, tyX9, cfX9, by decide, by decide +kernel⟩
theorem lp_X9_230 (nm : String) : LkP RX9 nm 230 9 50 := ⟨RX9, TX9, 53, tyX9, cfX9, by decide, by decide +kernel, Or.inl rfl⟩
theorem lm_X9_233 : LkV RX9 233 yX9_whole cX9_whole 1 none 0 9 := ⟨by decide +kernel, by decide +kernel, by decide +kernel, by decide +kernel, by decide +kernel, by decide +kernel, by decide, by decide, _, rfl, rfl⟩
theorem lm_X9_236 : LkV RX9 236 yX9_fail cX9_fail 1 none 0 9 := ⟨by decide +kernel, by decide +kernel, by decide +kernel, by decide +kernel, by decide +kernel, by decide +kernel, by decide, by decide, _, rfl, rfl⟩
theorem lm_X9_239 : LkV RX9 239 yX9_say cX9_say 2 none 1 9 := ⟨by decide +kernel, by decide +kernel, by decide +kernel, by decide +kernel, by decide +kernel, by decide +kernel, by decide, by decide, _, rfl, rfl⟩
theorem lm_X9_243 : LkV RX9 243 yX9_number cX9_number 4 none 0 9 := ⟨by decide +kernel, by decide +kernel, by decide +kernel, by decide +kernel, by decide +kernel, by decide +kernel, by decide, by decide, _, rfl, rfl⟩
theorem lm_X9_246 : LkV RX9 246 yX9_unit cX9_unit 4 none 0 9 := ⟨by decide +kernel, by decide +kernel, by decide +kernel, by decide +kernel, by decide +kernel, by decide +kernel, by decide, by decide, _, rfl, rfl⟩
theorem lm_X9_249 : LkV RX9 249 yX9_part cX9_part 1 none 0 9 := ⟨by decide +kernel, by decide +kernel, by decide +kernel, by decide +kernel, by decide +kernel, by decide +kernel, by decide, by decide, _, rfl, rfl⟩
theorem lm_X9_252 : LkV RX9 252 yX9_fault cX9_fault 1 (some .int) 0 9 := ⟨by decide +kernel, by decide +kernel, by decide +kernel, by decide +kernel, by decide +kernel, by decide +kernel, by decide, by decide, _, rfl, rfl⟩
theorem lf_X9_114 : LkF RX9 114 9 44 := ⟨RX9, TX9, 53, tyX9, cfX9, by decide, by decide +kernel⟩
theorem lf_X9_120 : LkF RX9 120 9 46 := ⟨RX9, TX9, 53, tyX9, cfX9, by decide, by decide +kernel⟩
theorem lm_X9_255 : LkV RX9 255 yX9_value cX9_value 3 (some .int) 2 9 := ⟨by decide +kernel, by decide +kernel, by decide +kernel, by decide +kernel, by decide +kernel, by decide +kernel, by decide, by decide, _, rfl, rfl⟩
theorem lf_X9_123 : LkF RX9 123 9 52 := ⟨RX9, TX9, 53, tyX9, cfX9, by decide, by decide +kernel⟩
theorem lm_X9_258 : LkV RX9 258 yX9_isLot cX9_isLot 2 (some .boolean) 1 9 := ⟨by decide +kernel, by decide +kernel, by decide +kernel, by decide +kernel, by decide +kernel, by decide +kernel, by decide, by decide, _, rfl, rfl⟩
theorem lm_X9_261 : LkV RX9 261 yX9_holds cX9_holds 7 (some .boolean) 2 9 := ⟨by decide +kernel, by decide +kernel, by decide +kernel, by decide +kernel, by decide +kernel, by decide +kernel, by decide, by decide, _, rfl, rfl⟩
theorem lf_X9_35 : LkF RX9 35 9 8 := ⟨RX9, TX9, 53, tyX9, cfX9, by decide, by decide +kernel⟩
theorem lf_X9_38 : LkF RX9 38 9 9 := ⟨RX9, TX9, 53, tyX9, cfX9, by decide, by decide +kernel⟩
theorem lm_X0_3 : LkO RX0 3 := ⟨by decide +kernel, by decide +kernel, by decide +kernel⟩
theorem lp_X0_9 : LkP RX0 "<init>" 9 0 0 := ⟨RX0, TX0, 8, tyX0, cfX0, by decide, by decide +kernel, Or.inr ⟨rfl, rfl, rfl⟩⟩
theorem lp_X0_15 : LkP RX0 "<init>" 15 0 1 := ⟨RX0, TX0, 8, tyX0, cfX0, by decide, by decide +kernel, Or.inr ⟨rfl, rfl, rfl⟩⟩
theorem lp_X0_18 (nm : String) : LkP RX0 nm 18 0 3 := ⟨RX0, TX0, 8, tyX0, cfX0, by decide, by decide +kernel, Or.inl rfl⟩
theorem lp_X0_22 (nm : String) : LkP RX0 nm 22 0 2 := ⟨RX0, TX0, 8, tyX0, cfX0, by decide, by decide +kernel, Or.inl rfl⟩
theorem lf_X0_22 : LkF RX0 22 0 2 := ⟨RX0, TX0, 8, tyX0, cfX0, by decide, by decide +kernel⟩
theorem lf_X0_25 : LkF RX0 25 0 7 := ⟨RX0, TX0, 8, tyX0, cfX0, by decide, by decide +kernel⟩
theorem lp_X0_25 (nm : String) : LkP RX0 nm 25 0 7 := ⟨RX0, TX0, 8, tyX0, cfX0, by decide, by decide +kernel, Or.inl rfl⟩
theorem lf_X0_28 : LkF RX0 28 0 5 := ⟨RX0, TX0, 8, tyX0, cfX0, by decide, by decide +kernel⟩
theorem lp_X0_28 (nm : String) : LkP RX0 nm 28 0 5 := ⟨RX0, TX0, 8, tyX0, cfX0, by decide, by decide +kernel, Or.inl rfl⟩
theorem lf_X0_31 : LkF RX0 31 0 4 := ⟨RX0, TX0, 8, tyX0, cfX0, by decide, by decide +kernel⟩
theorem lp_X0_31 (nm : String) : LkP RX0 nm 31 0 4 := ⟨RX0, TX0, 8, tyX0, cfX0, by decide, by decide +kernel, Or.inl rfl⟩
theorem lm_X1_3 : LkO RX1 3 := ⟨by decide +kernel, by decide +kernel, by decide +kernel⟩
theorem lp_X1_11 (nm : String) : LkP RX1 nm 11 1 0 := ⟨RX1, TX1, 3, tyX1, cfX1, by decide, by decide +kernel, Or.inl rfl⟩
theorem lp_X1_15 (nm : String) : LkP RX1 nm 15 1 1 := ⟨RX1, TX1, 3, tyX1, cfX1, by decide, by decide +kernel, Or.inl rfl⟩
theorem lp_X1_18 (nm : String) : LkP RX1 nm 18 1 2 := ⟨RX1, TX1, 3, tyX1, cfX1, by decide, by decide +kernel, Or.inl rfl⟩
theorem lf_X1_21 : LkF RX1 21 5 1 := ⟨RX5, TX5, 2, tyX5, cfX5, by decide, by decide +kernel⟩
theorem lm_X1_26 : LkV RX1 26 yX5_byteAt cX5_byteAt 2 (some .int) 1 5 := ⟨by decide +kernel, by decide +kernel, by decide +kernel, by decide +kernel, by decide +kernel, by decide +kernel, by decide, by decide, _, rfl, rfl⟩
theorem lm_X1_30 : LkV RX1 30 yX1_takes cX1_takes 2 (some .boolean) 1 1 := ⟨by decide +kernel, by decide +kernel, by decide +kernel, by decide +kernel, by decide +kernel, by decide +kernel, by decide, by decide, _, rfl, rfl⟩
theorem lf_X1_11 : LkF RX1 11 1 0 := ⟨RX1, TX1, 3, tyX1, cfX1, by decide, by decide +kernel⟩
theorem lf_X1_15 : LkF RX1 15 1 1 := ⟨RX1, TX1, 3, tyX1, cfX1, by decide, by decide +kernel⟩
theorem lm_X1_34 : LkV RX1 34 yX1_takesUnit cX1_takesUnit 2 (some .boolean) 1 1 := ⟨by decide +kernel, by decide +kernel, by decide +kernel, by decide +kernel, by decide +kernel, by decide +kernel, by decide, by decide, _, rfl, rfl⟩
theorem lm_X1_37 : LkV RX1 37 yX1_takesSign cX1_takesSign 2 (some .boolean) 1 1 := ⟨by decide +kernel, by decide +kernel, by decide +kernel, by decide +kernel, by decide +kernel, by decide +kernel, by decide, by decide, _, rfl, rfl⟩
theorem lm_X1_40 : LkV RX1 40 yX1_takesFirstDigit cX1_takesFirstDigit 2 (some .boolean) 1 1 := ⟨by decide +kernel, by decide +kernel, by decide +kernel, by decide +kernel, by decide +kernel, by decide +kernel, by decide, by decide, _, rfl, rfl⟩
theorem lm_X1_43 : LkV RX1 43 yX1_takesBehindUnit cX1_takesBehindUnit 2 (some .boolean) 1 1 := ⟨by decide +kernel, by decide +kernel, by decide +kernel, by decide +kernel, by decide +kernel, by decide +kernel, by decide, by decide, _, rfl, rfl⟩
theorem lm_X1_46 : LkS RX1 46 yX1_isDigit cX1_isDigit 1 (some .boolean) 1 := ⟨by decide +kernel, by decide +kernel, by decide +kernel, by decide +kernel, by decide +kernel, by decide⟩
theorem lf_X1_18 : LkF RX1 18 1 2 := ⟨RX1, TX1, 3, tyX1, cfX1, by decide, by decide +kernel⟩
theorem lm_X2_3 : LkO RX2 3 := ⟨by decide +kernel, by decide +kernel, by decide +kernel⟩
theorem lp_X2_9 : LkP RX2 "<init>" 9 2 0 := ⟨RX2, TX2, 11, tyX2, cfX2, by decide, by decide +kernel, Or.inr ⟨rfl, rfl, rfl⟩⟩
theorem lp_X2_15 : LkP RX2 "<init>" 15 2 1 := ⟨RX2, TX2, 11, tyX2, cfX2, by decide, by decide +kernel, Or.inr ⟨rfl, rfl, rfl⟩⟩
theorem lp_X2_18 : LkP RX2 "<init>" 18 2 2 := ⟨RX2, TX2, 11, tyX2, cfX2, by decide, by decide +kernel, Or.inr ⟨rfl, rfl, rfl⟩⟩
theorem lp_X2_21 : LkP RX2 "<init>" 21 2 3 := ⟨RX2, TX2, 11, tyX2, cfX2, by decide, by decide +kernel, Or.inr ⟨rfl, rfl, rfl⟩⟩
theorem lp_X2_24 : LkP RX2 "<init>" 24 2 4 := ⟨RX2, TX2, 11, tyX2, cfX2, by decide, by decide +kernel, Or.inr ⟨rfl, rfl, rfl⟩⟩
theorem lp_X2_27 : LkP RX2 "<init>" 27 2 5 := ⟨RX2, TX2, 11, tyX2, cfX2, by decide, by decide +kernel, Or.inr ⟨rfl, rfl, rfl⟩⟩
theorem lp_X2_30 : LkP RX2 "<init>" 30 2 6 := ⟨RX2, TX2, 11, tyX2, cfX2, by decide, by decide +kernel, Or.inr ⟨rfl, rfl, rfl⟩⟩
theorem lf_X2_33 : LkF RX2 33 2 7 := ⟨RX2, TX2, 11, tyX2, cfX2, by decide, by decide +kernel⟩
theorem lp_X2_33 (nm : String) : LkP RX2 nm 33 2 7 := ⟨RX2, TX2, 11, tyX2, cfX2, by decide, by decide +kernel, Or.inl rfl⟩
theorem lf_X2_36 : LkF RX2 36 2 9 := ⟨RX2, TX2, 11, tyX2, cfX2, by decide, by decide +kernel⟩
theorem lf_X2_27 : LkF RX2 27 2 5 := ⟨RX2, TX2, 11, tyX2, cfX2, by decide, by decide +kernel⟩
theorem lm_X2_39 : LkMmax RX2 39 := ⟨by decide +kernel, by decide +kernel, by decide +kernel, by decide +kernel⟩
theorem lp_X2_36 (nm : String) : LkP RX2 nm 36 2 9 := ⟨RX2, TX2, 11, tyX2, cfX2, by decide, by decide +kernel, Or.inl rfl⟩
theorem lf_X2_45 : LkF RX2 45 2 10 := ⟨RX2, TX2, 11, tyX2, cfX2, by decide, by decide +kernel⟩
theorem lp_X2_45 (nm : String) : LkP RX2 nm 45 2 10 := ⟨RX2, TX2, 11, tyX2, cfX2, by decide, by decide +kernel, Or.inl rfl⟩
theorem lf_X2_48 : LkF RX2 48 2 8 := ⟨RX2, TX2, 11, tyX2, cfX2, by decide, by decide +kernel⟩
theorem lf_X2_9 : LkF RX2 9 2 0 := ⟨RX2, TX2, 11, tyX2, cfX2, by decide, by decide +kernel⟩
theorem lf_X2_30 : LkF RX2 30 2 6 := ⟨RX2, TX2, 11, tyX2, cfX2, by decide, by decide +kernel⟩
theorem lm_X3_3 : LkO RX3 3 := ⟨by decide +kernel, by decide +kernel, by decide +kernel⟩
theorem lp_X3_9 : LkP RX3 "<init>" 9 3 0 := ⟨RX3, TX3, 4, tyX3, cfX3, by decide, by decide +kernel, Or.inr ⟨rfl, rfl, rfl⟩⟩
theorem lp_X3_15 : LkP RX3 "<init>" 15 3 1 := ⟨RX3, TX3, 4, tyX3, cfX3, by decide, by decide +kernel, Or.inr ⟨rfl, rfl, rfl⟩⟩
theorem lp_X3_18 : LkP RX3 "<init>" 18 3 2 := ⟨RX3, TX3, 4, tyX3, cfX3, by decide, by decide +kernel, Or.inr ⟨rfl, rfl, rfl⟩⟩
theorem lp_X3_21 (nm : String) : LkP RX3 nm 21 3 3 := ⟨RX3, TX3, 4, tyX3, cfX3, by decide, by decide +kernel, Or.inl rfl⟩
theorem lf_X3_15 : LkF RX3 15 3 1 := ⟨RX3, TX3, 4, tyX3, cfX3, by decide, by decide +kernel⟩
theorem lf_X3_9 : LkF RX3 9 3 0 := ⟨RX3, TX3, 4, tyX3, cfX3, by decide, by decide +kernel⟩
theorem lf_X3_21 : LkF RX3 21 3 3 := ⟨RX3, TX3, 4, tyX3, cfX3, by decide, by decide +kernel⟩
theorem lf_X3_18 : LkF RX3 18 3 2 := ⟨RX3, TX3, 4, tyX3, cfX3, by decide, by decide +kernel⟩
theorem lm_X3_25 : LkV RX3 25 yX3_greatestRest cX3_greatestRest 3 (some .int) 0 3 := ⟨by decide +kernel, by decide +kernel, by decide +kernel, by decide +kernel, by decide +kernel, by decide +kernel, by decide, by decide, _, rfl, rfl⟩
theorem lm_X4_3 : LkO RX4 3 := ⟨by decide +kernel, by decide +kernel, by decide +kernel⟩
theorem lp_X4_9 : LkP RX4 "<init>" 9 4 0 := ⟨RX4, TX4, 5, tyX4, cfX4, by decide, by decide +kernel, Or.inr ⟨rfl, rfl, rfl⟩⟩
theorem lp_X4_15 : LkP RX4 "<init>" 15 4 1 := ⟨RX4, TX4, 5, tyX4, cfX4, by decide, by decide +kernel, Or.inr ⟨rfl, rfl, rfl⟩⟩
theorem lp_X4_19 : LkP RX4 "<init>" 19 4 2 := ⟨RX4, TX4, 5, tyX4, cfX4, by decide, by decide +kernel, Or.inr ⟨rfl, rfl, rfl⟩⟩
theorem lm_X4_22 : LkS RX4 22 yX4_isCell cX4_isCell 1 (some .boolean) 1 := ⟨by decide +kernel, by decide +kernel, by decide +kernel, by decide +kernel, by decide +kernel, by decide⟩
theorem lf_X4_19 : LkF RX4 19 4 2 := ⟨RX4, TX4, 5, tyX4, cfX4, by decide, by decide +kernel⟩
theorem lf_X4_26 : LkF RX4 26 4 3 := ⟨RX4, TX4, 5, tyX4, cfX4, by decide, by decide +kernel⟩
theorem lm_X4_30 : LkS RX4 30 yX4_nextCell cX4_nextCell 4 (some .int) 2 := ⟨by decide +kernel, by decide +kernel, by decide +kernel, by decide +kernel, by decide +kernel, by decide⟩
theorem lf_X4_9 : LkF RX4 9 4 0 := ⟨RX4, TX4, 5, tyX4, cfX4, by decide, by decide +kernel⟩
theorem lm_X4_34 : LkMmin RX4 34 := ⟨by decide +kernel, by decide +kernel, by decide +kernel, by decide +kernel⟩
theorem lf_X4_39 : LkF RX4 39 4 4 := ⟨RX4, TX4, 5, tyX4, cfX4, by decide, by decide +kernel⟩
theorem lp_X4_39 (nm : String) : LkP RX4 nm 39 4 4 := ⟨RX4, TX4, 5, tyX4, cfX4, by decide, by decide +kernel, Or.inl rfl⟩
theorem lm_X5_3 : LkO RX5 3 := ⟨by decide +kernel, by decide +kernel, by decide +kernel⟩
theorem lp_X5_9 : LkP RX5 "<init>" 9 5 0 := ⟨RX5, TX5, 2, tyX5, cfX5, by decide, by decide +kernel, Or.inr ⟨rfl, rfl, rfl⟩⟩
theorem lf_X5_15 : LkF RX5 15 5 1 := ⟨RX5, TX5, 2, tyX5, cfX5, by decide, by decide +kernel⟩
theorem lf_X5_9 : LkF RX5 9 5 0 := ⟨RX5, TX5, 2, tyX5, cfX5, by decide, by decide +kernel⟩
theorem lp_X5_15 (nm : String) : LkP RX5 nm 15 5 1 := ⟨RX5, TX5, 2, tyX5, cfX5, by decide, by decide +kernel, Or.inl rfl⟩
theorem lm_X5_19 : LkV RX5 19 yX5_byteAt cX5_byteAt 2 (some .int) 1 5 := ⟨by decide +kernel, by decide +kernel, by decide +kernel, by decide +kernel, by decide +kernel, by decide +kernel, by decide, by decide, _, rfl, rfl⟩
theorem lm_X6_1 : LkO RX6 1 := ⟨by decide +kernel, by decide +kernel, by decide +kernel⟩
theorem lp_X6_7 (nm : String) : LkP RX6 nm 7 6 0 := ⟨RX6, TX6, 5, tyX6, cfX6, by decide, by decide +kernel, Or.inl rfl⟩
theorem lp_X6_13 (nm : String) : LkP RX6 nm 13 6 1 := ⟨RX6, TX6, 5, tyX6, cfX6, by decide, by decide +kernel, Or.inl rfl⟩
theorem lp_X6_16 (nm : String) : LkP RX6 nm 16 6 2 := ⟨RX6, TX6, 5, tyX6, cfX6, by decide, by decide +kernel, Or.inl rfl⟩
theorem lf_X6_19 : LkF RX6 19 5 1 := ⟨RX5, TX5, 2, tyX5, cfX5, by decide, by decide +kernel⟩
theorem lm_X6_24 : LkV RX6 24 yX5_byteAt cX5_byteAt 2 (some .int) 1 5 := ⟨by decide +kernel, by decide +kernel, by decide +kernel, by decide +kernel, by decide +kernel, by decide +kernel, by decide, by decide, _, rfl, rfl⟩
theorem lm_X6_28 : LkV RX6 28 yX6_read cX6_read 4 none 3 6 := ⟨by decide +kernel, by decide +kernel, by decide +kernel, by decide +kernel, by decide +kernel, by decide +kernel, by decide, by decide, _, rfl, rfl⟩
theorem lm_X6_32 : LkV RX6 32 yX6_endComparison cX6_endComparison 3 none 2 6 := ⟨by decide +kernel, by decide +kernel, by decide +kernel, by decide +kernel, by decide +kernel, by decide +kernel, by decide, by decide, _, rfl, rfl⟩
theorem lm_X6_36 : LkV RX6 36 yX6_endPart cX6_endPart 1 none 0 6 := ⟨by decide +kernel, by decide +kernel, by decide +kernel, by decide +kernel, by decide +kernel, by decide +kernel, by decide, by decide, _, rfl, rfl⟩
theorem lf_X6_7 : LkF RX6 7 6 0 := ⟨RX6, TX6, 5, tyX6, cfX6, by decide, by decide +kernel⟩
theorem lm_X6_39 : LkS RX6 39 yX1_isDigit cX1_isDigit 1 (some .boolean) 1 := ⟨by decide +kernel, by decide +kernel, by decide +kernel, by decide +kernel, by decide +kernel, by decide⟩
theorem lf_X6_45 : LkF RX6 45 6 4 := ⟨RX6, TX6, 5, tyX6, cfX6, by decide, by decide +kernel⟩
theorem lp_X6_45 (nm : String) : LkP RX6 nm 45 6 4 := ⟨RX6, TX6, 5, tyX6, cfX6, by decide, by decide +kernel, Or.inl rfl⟩
theorem lf_X6_13 : LkF RX6 13 6 1 := ⟨RX6, TX6, 5, tyX6, cfX6, by decide, by decide +kernel⟩
theorem lm_X6_48 : LkV RX6 48 yX6_endBracket cX6_endBracket 2 none 0 6 := ⟨by decide +kernel, by decide +kernel, by decide +kernel, by decide +kernel, by decide +kernel, by decide +kernel, by decide, by decide, _, rfl, rfl⟩
theorem lp_X6_51 (nm : String) : LkP RX6 nm 51 6 3 := ⟨RX6, TX6, 5, tyX6, cfX6, by decide, by decide +kernel, Or.inl rfl⟩
theorem lf_X6_16 : LkF RX6 16 6 2 := ⟨RX6, TX6, 5, tyX6, cfX6, by decide, by decide +kernel⟩
theorem lm_X6_54 : LkV RX6 54 yX2_measure cX2_measure 3 (some .int) 2 2 := ⟨by decide +kernel, by decide +kernel, by decide +kernel, by decide +kernel, by decide +kernel, by decide +kernel, by decide, by decide, _, rfl, rfl⟩
theorem lm_X6_60 : LkV RX6 60 yX6_compares cX6_compares 2 (some .boolean) 1 6 := ⟨by decide +kernel, by decide +kernel, by decide +kernel, by decide +kernel, by decide +kernel, by decide +kernel, by decide, by decide, _, rfl, rfl⟩
theorem lm_X6_63 : LkV RX6 63 yX6_addUnit cX6_addUnit 2 none 1 6 := ⟨by decide +kernel, by decide +kernel, by decide +kernel, by decide +kernel, by decide +kernel, by decide +kernel, by decide, by decide, _, rfl, rfl⟩
theorem lf_X6_51 : LkF RX6 51 6 3 := ⟨RX6, TX6, 5, tyX6, cfX6, by decide, by decide +kernel⟩
theorem lm_X7_3 : LkO RX7 3 := ⟨by decide +kernel, by decide +kernel, by decide +kernel⟩
theorem lp_X7_9 : LkP RX7 "<init>" 9 7 0 := ⟨RX7, TX7, 5, tyX7, cfX7, by decide, by decide +kernel, Or.inr ⟨rfl, rfl, rfl⟩⟩
theorem lm_X7_15 : LkMmin RX7 15 := ⟨by decide +kernel, by decide +kernel, by decide +kernel, by decide +kernel⟩
theorem lp_X7_21 : LkP RX7 "<init>" 21 7 1 := ⟨RX7, TX7, 5, tyX7, cfX7, by decide, by decide +kernel, Or.inr ⟨rfl, rfl, rfl⟩⟩
theorem lp_X7_25 : LkP RX7 "<init>" 25 7 2 := ⟨RX7, TX7, 5, tyX7, cfX7, by decide, by decide +kernel, Or.inr ⟨rfl, rfl, rfl⟩⟩
theorem lf_X7_25 : LkF RX7 25 7 2 := ⟨RX7, TX7, 5, tyX7, cfX7, by decide, by decide +kernel⟩
theorem lp_X7_28 (nm : String) : LkP RX7 nm 28 7 4 := ⟨RX7, TX7, 5, tyX7, cfX7, by decide, by decide +kernel, Or.inl rfl⟩
theorem lf_X7_9 : LkF RX7 9 7 0 := ⟨RX7, TX7, 5, tyX7, cfX7, by decide, by decide +kernel⟩
theorem lf_X7_31 : LkF RX7 31 2 4 := ⟨RX2, TX2, 11, tyX2, cfX2, by decide, by decide +kernel⟩
theorem lm_X7_36 : LkV RX7 36 yX7_firstFreeCrew cX7_firstFreeCrew 3 (some .int) 0 7 := ⟨by decide +kernel, by decide +kernel, by decide +kernel, by decide +kernel, by decide +kernel, by decide +kernel, by decide, by decide, _, rfl, rfl⟩
theorem lf_X7_40 : LkF RX7 40 2 5 := ⟨RX2, TX2, 11, tyX2, cfX2, by decide, by decide +kernel⟩
theorem lm_X7_43 : LkMmax RX7 43 := ⟨by decide +kernel, by decide +kernel, by decide +kernel, by decide +kernel⟩
theorem lm_X7_46 : LkV RX7 46 yX2_cureOne cX2_cureOne 2 none 1 2 := ⟨by decide +kernel, by decide +kernel, by decide +kernel, by decide +kernel, by decide +kernel, by decide +kernel, by decide, by decide, _, rfl, rfl⟩
theorem lf_X7_50 : LkF RX7 50 2 7 := ⟨RX2, TX2, 11, tyX2, cfX2, by decide, by decide +kernel⟩
theorem lp_X7_53 (nm : String) : LkP RX7 nm 53 2 8 := ⟨RX2, TX2, 11, tyX2, cfX2, by decide, by decide +kernel, Or.inl rfl⟩
theorem lf_X7_21 : LkF RX7 21 7 1 := ⟨RX7, TX7, 5, tyX7, cfX7, by decide, by decide +kernel⟩
end
section
theorem dX8_init_0 : decode cX8_init 0 = .ok (.aload_n 0, 1) := by decide +kernel
theorem dX8_init_1 : decode cX8_init 1 = .ok (.invokespecial 3, 3) := by decide +kernel
theorem dX8_init_4 : decode cX8_init 4 = .ok (.aload_n 0, 1) := by decide +kernel
theorem dX8_init_5 : decode cX8_init 5 = .ok (.new 9, 3) := by decide +kernel
theorem dX8_init_8 : decode cX8_init 8 = .ok (.dup, 1) := by decide +kernel
theorem dX8_init_9 : decode cX8_init 9 = .ok (.invokespecial 11, 3) := by decide +kernel
theorem dX8_init_12 : decode cX8_init 12 = .ok (.putfield 12, 3) := by decide +kernel
theorem dX8_init_15 : decode cX8_init 15 = .ok (.aload_n 0, 1) := by decide +kernel
theorem dX8_init_16 : decode cX8_init 16 = .ok (.bipush 12, 2) := by decide +kernel
theorem dX8_init_18 : decode cX8_init 18 = .ok (.anewarray 16, 3) := by decide +kernel
theorem dX8_init_21 : decode cX8_init 21 = .ok (.putfield 18, 3) := by decide +kernel
theorem dX8_init_24 : decode cX8_init 24 = .ok (.aload_n 0, 1) := by decide +kernel
theorem dX8_init_25 : decode cX8_init 25 = .ok (.iconst 4, 1) := by decide +kernel
theorem dX8_init_26 : decode cX8_init 26 = .ok (.anewarray 22, 3) := by decide +kernel
theorem dX8_init_29 : decode cX8_init 29 = .ok (.putfield 24, 3) := by decide +kernel
theorem dX8_init_32 : decode cX8_init 32 = .ok (.aload_n 0, 1) := by decide +kernel
theorem dX8_init_33 : decode cX8_init 33 = .ok (.sipush 400, 3) := by decide +kernel
theorem dX8_init_36 : decode cX8_init 36 = .ok (.anewarray 28, 3) := by decide +kernel
theorem dX8_init_39 : decode cX8_init 39 = .ok (.putfield 30, 3) := by decide +kernel
theorem dX8_init_42 : decode cX8_init 42 = .ok (.aload_n 0, 1) := by decide +kernel
theorem dX8_init_43 : decode cX8_init 43 = .ok (.new 34, 3) := by decide +kernel
theorem dX8_init_46 : decode cX8_init 46 = .ok (.dup, 1) := by decide +kernel
theorem dX8_init_47 : decode cX8_init 47 = .ok (.invokespecial 36, 3) := by decide +kernel
theorem dX8_init_50 : decode cX8_init 50 = .ok (.putfield 37, 3) := by decide +kernel
theorem dX8_init_53 : decode cX8_init 53 = .ok (.aload_n 0, 1) := by decide +kernel
theorem dX8_init_54 : decode cX8_init 54 = .ok (.iconst 4, 1) := by decide +kernel
theorem dX8_init_55 : decode cX8_init 55 = .ok (.anewarray 34, 3) := by decide +kernel
theorem dX8_init_58 : decode cX8_init 58 = .ok (.putfield 41, 3) := by decide +kernel
theorem dX8_init_61 : decode cX8_init 61 = .ok (.aload_n 0, 1) := by decide +kernel
theorem dX8_init_62 : decode cX8_init 62 = .ok (.new 45, 3) := by decide +kernel
theorem dX8_init_65 : decode cX8_init 65 = .ok (.dup, 1) := by decide +kernel
theorem dX8_init_66 : decode cX8_init 66 = .ok (.invokespecial 47, 3) := by decide +kernel
theorem dX8_init_69 : decode cX8_init 69 = .ok (.putfield 48, 3) := by decide +kernel
theorem dX8_init_72 : decode cX8_init 72 = .ok (.aload_n 0, 1) := by decide +kernel
theorem dX8_init_73 : decode cX8_init 73 = .ok (.new 52, 3) := by decide +kernel
theorem dX8_init_76 : decode cX8_init 76 = .ok (.dup, 1) := by decide +kernel
theorem dX8_init_77 : decode cX8_init 77 = .ok (.invokespecial 54, 3) := by decide +kernel
theorem dX8_init_80 : decode cX8_init 80 = .ok (.putfield 55, 3) := by decide +kernel
theorem dX8_init_83 : decode cX8_init 83 = .ok (.aload_n 0, 1) := by decide +kernel
theorem dX8_init_84 : decode cX8_init 84 = .ok (.new 59, 3) := by decide +kernel
theorem dX8_init_87 : decode cX8_init 87 = .ok (.dup, 1) := by decide +kernel
theorem dX8_init_88 : decode cX8_init 88 = .ok (.invokespecial 61, 3) := by decide +kernel
theorem dX8_init_91 : decode cX8_init 91 = .ok (.putfield 62, 3) := by decide +kernel
theorem dX8_init_94 : decode cX8_init 94 = .ok (.aload_n 0, 1) := by decide +kernel
theorem dX8_init_95 : decode cX8_init 95 = .ok (.sipush 300, 3) := by decide +kernel
theorem dX8_init_98 : decode cX8_init 98 = .ok (.putfield 66, 3) := by decide +kernel
theorem dX8_init_101 : decode cX8_init 101 = .ok (.return_, 1) := by decide +kernel
theorem dX8_shoal_0 : decode cX8_shoal 0 = .ok (.iload_n 1, 1) := by decide +kernel
theorem dX8_shoal_1 : decode cX8_shoal 1 = .ok (.invokestatic 70, 3) := by decide +kernel
theorem dX8_shoal_4 : decode cX8_shoal 4 = .ok (.ifCond .eq 14, 3) := by decide +kernel
theorem dX8_shoal_7 : decode cX8_shoal 7 = .ok (.iload_n 2, 1) := by decide +kernel
theorem dX8_shoal_8 : decode cX8_shoal 8 = .ok (.iconst 0, 1) := by decide +kernel
theorem dX8_shoal_9 : decode cX8_shoal 9 = .ok (.sipush 10000, 3) := by decide +kernel
theorem dX8_shoal_12 : decode cX8_shoal 12 = .ok (.invokestatic 74, 3) := by decide +kernel
theorem dX8_shoal_15 : decode cX8_shoal 15 = .ok (.ifCond .ne 5, 3) := by decide +kernel
theorem dX8_shoal_18 : decode cX8_shoal 18 = .ok (.iconst 0, 1) := by decide +kernel
theorem dX8_shoal_19 : decode cX8_shoal 19 = .ok (.ireturn, 1) := by decide +kernel
theorem dX8_shoal_20 : decode cX8_shoal 20 = .ok (.aload_n 0, 1) := by decide +kernel
theorem dX8_shoal_21 : decode cX8_shoal 21 = .ok (.getfield 12, 3) := by decide +kernel
theorem dX8_shoal_24 : decode cX8_shoal 24 = .ok (.getfield 78, 3) := by decide +kernel
theorem dX8_shoal_27 : decode cX8_shoal 27 = .ok (.iload_n 1, 1) := by decide +kernel
theorem dX8_shoal_28 : decode cX8_shoal 28 = .ok (.iload_n 2, 1) := by decide +kernel
theorem dX8_shoal_29 : decode cX8_shoal 29 = .ok (.iastore, 1) := by decide +kernel
theorem dX8_shoal_30 : decode cX8_shoal 30 = .ok (.iconst 1, 1) := by decide +kernel
theorem dX8_shoal_31 : decode cX8_shoal 31 = .ok (.ireturn, 1) := by decide +kernel
theorem dX8_open_0 : decode cX8_open 0 = .ok (.iload_n 1, 1) := by decide +kernel
theorem dX8_open_1 : decode cX8_open 1 = .ok (.invokestatic 70, 3) := by decide +kernel
theorem dX8_open_4 : decode cX8_open 4 = .ok (.ifCond .eq 16, 3) := by decide +kernel
theorem dX8_open_7 : decode cX8_open 7 = .ok (.aload_n 0, 1) := by decide +kernel
theorem dX8_open_8 : decode cX8_open 8 = .ok (.getfield 12, 3) := by decide +kernel
theorem dX8_open_11 : decode cX8_open 11 = .ok (.getfield 82, 3) := by decide +kernel
theorem dX8_open_14 : decode cX8_open 14 = .ok (.iload_n 1, 1) := by decide +kernel
theorem dX8_open_15 : decode cX8_open 15 = .ok (.baload, 1) := by decide +kernel
theorem dX8_open_16 : decode cX8_open 16 = .ok (.iload_n 2, 1) := by decide +kernel
theorem dX8_open_17 : decode cX8_open 17 = .ok (.if_icmp .ne 5, 3) := by decide +kernel
theorem dX8_open_20 : decode cX8_open 20 = .ok (.iconst 0, 1) := by decide +kernel
theorem dX8_open_21 : decode cX8_open 21 = .ok (.ireturn, 1) := by decide +kernel
theorem dX8_open_22 : decode cX8_open 22 = .ok (.aload_n 0, 1) := by decide +kernel
theorem dX8_open_23 : decode cX8_open 23 = .ok (.getfield 12, 3) := by decide +kernel
theorem dX8_open_26 : decode cX8_open 26 = .ok (.getfield 82, 3) := by decide +kernel
theorem dX8_open_29 : decode cX8_open 29 = .ok (.iload_n 1, 1) := by decide +kernel
theorem dX8_open_30 : decode cX8_open 30 = .ok (.iload_n 2, 1) := by decide +kernel
theorem dX8_open_31 : decode cX8_open 31 = .ok (.bastore, 1) := by decide +kernel
theorem dX8_open_32 : decode cX8_open 32 = .ok (.iconst 1, 1) := by decide +kernel
theorem dX8_open_33 : decode cX8_open 33 = .ok (.ireturn, 1) := by decide +kernel
theorem dX8_drift_0 : decode cX8_drift 0 = .ok (.iload_n 1, 1) := by decide +kernel
theorem dX8_drift_1 : decode cX8_drift 1 = .ok (.iconst 0, 1) := by decide +kernel
theorem dX8_drift_2 : decode cX8_drift 2 = .ok (.iconst 4, 1) := by decide +kernel
theorem dX8_drift_3 : decode cX8_drift 3 = .ok (.invokestatic 74, 3) := by decide +kernel
theorem dX8_drift_6 : decode cX8_drift 6 = .ok (.ifCond .ne 5, 3) := by decide +kernel
theorem dX8_drift_9 : decode cX8_drift 9 = .ok (.iconst 0, 1) := by decide +kernel
theorem dX8_drift_10 : decode cX8_drift 10 = .ok (.ireturn, 1) := by decide +kernel
theorem dX8_drift_11 : decode cX8_drift 11 = .ok (.aload_n 0, 1) := by decide +kernel
theorem dX8_drift_12 : decode cX8_drift 12 = .ok (.getfield 12, 3) := by decide +kernel
theorem dX8_drift_15 : decode cX8_drift 15 = .ok (.iload_n 1, 1) := by decide +kernel
theorem dX8_drift_16 : decode cX8_drift 16 = .ok (.putfield 86, 3) := by decide +kernel
theorem dX8_drift_19 : decode cX8_drift 19 = .ok (.iconst 1, 1) := by decide +kernel
theorem dX8_drift_20 : decode cX8_drift 20 = .ok (.ireturn, 1) := by decide +kernel
theorem dX8_boat_0 : decode cX8_boat 0 = .ok (.aload_n 0, 1) := by decide +kernel
theorem dX8_boat_1 : decode cX8_boat 1 = .ok (.getfield 89, 3) := by decide +kernel
theorem dX8_boat_4 : decode cX8_boat 4 = .ok (.bipush 12, 2) := by decide +kernel
theorem dX8_boat_6 : decode cX8_boat 6 = .ok (.if_icmp .ge 13, 3) := by decide +kernel
theorem dX8_boat_9 : decode cX8_boat 9 = .ok (.iload_n 1, 1) := by decide +kernel
theorem dX8_boat_10 : decode cX8_boat 10 = .ok (.iconst 0, 1) := by decide +kernel
theorem dX8_boat_11 : decode cX8_boat 11 = .ok (.bipush 60, 2) := by decide +kernel
theorem dX8_boat_13 : decode cX8_boat 13 = .ok (.invokestatic 74, 3) := by decide +kernel
theorem dX8_boat_16 : decode cX8_boat 16 = .ok (.ifCond .ne 5, 3) := by decide +kernel
theorem dX8_boat_19 : decode cX8_boat 19 = .ok (.iconst (-1), 1) := by decide +kernel
theorem dX8_boat_20 : decode cX8_boat 20 = .ok (.ireturn, 1) := by decide +kernel
theorem dX8_boat_21 : decode cX8_boat 21 = .ok (.aload_n 0, 1) := by decide +kernel
theorem dX8_boat_22 : decode cX8_boat 22 = .ok (.getfield 18, 3) := by decide +kernel
theorem dX8_boat_25 : decode cX8_boat 25 = .ok (.aload_n 0, 1) := by decide +kernel
theorem dX8_boat_26 : decode cX8_boat 26 = .ok (.getfield 89, 3) := by decide +kernel
theorem dX8_boat_29 : decode cX8_boat 29 = .ok (.new 16, 3) := by decide +kernel
theorem dX8_boat_32 : decode cX8_boat 32 = .ok (.dup, 1) := by decide +kernel
theorem dX8_boat_33 : decode cX8_boat 33 = .ok (.iload_n 1, 1) := by decide +kernel
theorem dX8_boat_34 : decode cX8_boat 34 = .ok (.invokespecial 92, 3) := by decide +kernel
theorem dX8_boat_37 : decode cX8_boat 37 = .ok (.aastore, 1) := by decide +kernel
theorem dX8_boat_38 : decode cX8_boat 38 = .ok (.aload_n 0, 1) := by decide +kernel
theorem dX8_boat_39 : decode cX8_boat 39 = .ok (.dup, 1) := by decide +kernel
theorem dX8_boat_40 : decode cX8_boat 40 = .ok (.getfield 89, 3) := by decide +kernel
theorem dX8_boat_43 : decode cX8_boat 43 = .ok (.iconst 1, 1) := by decide +kernel
theorem dX8_boat_44 : decode cX8_boat 44 = .ok (.iadd, 1) := by decide +kernel
theorem dX8_boat_45 : decode cX8_boat 45 = .ok (.putfield 89, 3) := by decide +kernel
theorem dX8_boat_48 : decode cX8_boat 48 = .ok (.aload_n 0, 1) := by decide +kernel
theorem dX8_boat_49 : decode cX8_boat 49 = .ok (.getfield 89, 3) := by decide +kernel
theorem dX8_boat_52 : decode cX8_boat 52 = .ok (.iconst 1, 1) := by decide +kernel
theorem dX8_boat_53 : decode cX8_boat 53 = .ok (.isub, 1) := by decide +kernel
theorem dX8_boat_54 : decode cX8_boat 54 = .ok (.ireturn, 1) := by decide +kernel
theorem dX8_go_0 : decode cX8_go 0 = .ok (.aload_n 0, 1) := by decide +kernel
theorem dX8_go_1 : decode cX8_go 1 = .ok (.iload_n 1, 1) := by decide +kernel
theorem dX8_go_2 : decode cX8_go 2 = .ok (.invokevirtual 95, 3) := by decide +kernel
theorem dX8_go_5 : decode cX8_go 5 = .ok (.astore_n 3, 1) := by decide +kernel
theorem dX8_go_6 : decode cX8_go 6 = .ok (.aload_n 3, 1) := by decide +kernel
theorem dX8_go_7 : decode cX8_go 7 = .ok (.ifnull 15, 3) := by decide +kernel
theorem dX8_go_10 : decode cX8_go 10 = .ok (.iload_n 2, 1) := by decide +kernel
theorem dX8_go_11 : decode cX8_go 11 = .ok (.iconst (-1), 1) := by decide +kernel
theorem dX8_go_12 : decode cX8_go 12 = .ok (.if_icmp .eq 12, 3) := by decide +kernel
theorem dX8_go_15 : decode cX8_go 15 = .ok (.iload_n 2, 1) := by decide +kernel
theorem dX8_go_16 : decode cX8_go 16 = .ok (.invokestatic 70, 3) := by decide +kernel
theorem dX8_go_19 : decode cX8_go 19 = .ok (.ifCond .ne 5, 3) := by decide +kernel
theorem dX8_go_22 : decode cX8_go 22 = .ok (.iconst 0, 1) := by decide +kernel
theorem dX8_go_23 : decode cX8_go 23 = .ok (.ireturn, 1) := by decide +kernel
theorem dX8_go_24 : decode cX8_go 24 = .ok (.aload_n 3, 1) := by decide +kernel
theorem dX8_go_25 : decode cX8_go 25 = .ok (.iload_n 2, 1) := by decide +kernel
theorem dX8_go_26 : decode cX8_go 26 = .ok (.putfield 99, 3) := by decide +kernel
theorem dX8_go_29 : decode cX8_go 29 = .ok (.iconst 1, 1) := by decide +kernel
theorem dX8_go_30 : decode cX8_go 30 = .ok (.ireturn, 1) := by decide +kernel
theorem dX8_mend_0 : decode cX8_mend 0 = .ok (.aload_n 0, 1) := by decide +kernel
theorem dX8_mend_1 : decode cX8_mend 1 = .ok (.iload_n 1, 1) := by decide +kernel
theorem dX8_mend_2 : decode cX8_mend 2 = .ok (.invokevirtual 95, 3) := by decide +kernel
theorem dX8_mend_5 : decode cX8_mend 5 = .ok (.astore_n 3, 1) := by decide +kernel
theorem dX8_mend_6 : decode cX8_mend 6 = .ok (.aload_n 3, 1) := by decide +kernel
theorem dX8_mend_7 : decode cX8_mend 7 = .ok (.ifnull 19, 3) := by decide +kernel
theorem dX8_mend_10 : decode cX8_mend 10 = .ok (.iload_n 2, 1) := by decide +kernel
theorem dX8_mend_11 : decode cX8_mend 11 = .ok (.iconst 1, 1) := by decide +kernel
theorem dX8_mend_12 : decode cX8_mend 12 = .ok (.if_icmp .lt 14, 3) := by decide +kernel
theorem dX8_mend_15 : decode cX8_mend 15 = .ok (.iload_n 2, 1) := by decide +kernel
theorem dX8_mend_16 : decode cX8_mend 16 = .ok (.bipush 60, 2) := by decide +kernel
theorem dX8_mend_18 : decode cX8_mend 18 = .ok (.aload_n 3, 1) := by decide +kernel
theorem dX8_mend_19 : decode cX8_mend 19 = .ok (.getfield 102, 3) := by decide +kernel
theorem dX8_mend_22 : decode cX8_mend 22 = .ok (.isub, 1) := by decide +kernel
theorem dX8_mend_23 : decode cX8_mend 23 = .ok (.if_icmp .le 5, 3) := by decide +kernel
theorem dX8_mend_26 : decode cX8_mend 26 = .ok (.iconst (-1), 1) := by decide +kernel
theorem dX8_mend_27 : decode cX8_mend 27 = .ok (.ireturn, 1) := by decide +kernel
theorem dX8_mend_28 : decode cX8_mend 28 = .ok (.aload_n 3, 1) := by decide +kernel
theorem dX8_mend_29 : decode cX8_mend 29 = .ok (.dup, 1) := by decide +kernel
theorem dX8_mend_30 : decode cX8_mend 30 = .ok (.getfield 102, 3) := by decide +kernel
theorem dX8_mend_33 : decode cX8_mend 33 = .ok (.iload_n 2, 1) := by decide +kernel
theorem dX8_mend_34 : decode cX8_mend 34 = .ok (.iadd, 1) := by decide +kernel
theorem dX8_mend_35 : decode cX8_mend 35 = .ok (.putfield 102, 3) := by decide +kernel
theorem dX8_mend_38 : decode cX8_mend 38 = .ok (.aload_n 3, 1) := by decide +kernel
theorem dX8_mend_39 : decode cX8_mend 39 = .ok (.getfield 102, 3) := by decide +kernel
theorem dX8_mend_42 : decode cX8_mend 42 = .ok (.ireturn, 1) := by decide +kernel
theorem dX8_yard_0 : decode cX8_yard 0 = .ok (.aload_n 0, 1) := by decide +kernel
theorem dX8_yard_1 : decode cX8_yard 1 = .ok (.getfield 105, 3) := by decide +kernel
theorem dX8_yard_4 : decode cX8_yard 4 = .ok (.iconst 4, 1) := by decide +kernel
theorem dX8_yard_5 : decode cX8_yard 5 = .ok (.if_icmp .ge 24, 3) := by decide +kernel
theorem dX8_yard_8 : decode cX8_yard 8 = .ok (.iload_n 1, 1) := by decide +kernel
theorem dX8_yard_9 : decode cX8_yard 9 = .ok (.iconst 1, 1) := by decide +kernel
theorem dX8_yard_10 : decode cX8_yard 10 = .ok (.bipush 6, 2) := by decide +kernel
theorem dX8_yard_12 : decode cX8_yard 12 = .ok (.invokestatic 74, 3) := by decide +kernel
theorem dX8_yard_15 : decode cX8_yard 15 = .ok (.ifCond .eq 14, 3) := by decide +kernel
theorem dX8_yard_18 : decode cX8_yard 18 = .ok (.iload_n 2, 1) := by decide +kernel
theorem dX8_yard_19 : decode cX8_yard 19 = .ok (.iconst 1, 1) := by decide +kernel
theorem dX8_yard_20 : decode cX8_yard 20 = .ok (.sipush 500, 3) := by decide +kernel
theorem dX8_yard_23 : decode cX8_yard 23 = .ok (.invokestatic 74, 3) := by decide +kernel
theorem dX8_yard_26 : decode cX8_yard 26 = .ok (.ifCond .ne 5, 3) := by decide +kernel
theorem dX8_yard_29 : decode cX8_yard 29 = .ok (.iconst (-1), 1) := by decide +kernel
theorem dX8_yard_30 : decode cX8_yard 30 = .ok (.ireturn, 1) := by decide +kernel
theorem dX8_yard_31 : decode cX8_yard 31 = .ok (.aload_n 0, 1) := by decide +kernel
theorem dX8_yard_32 : decode cX8_yard 32 = .ok (.getfield 24, 3) := by decide +kernel
theorem dX8_yard_35 : decode cX8_yard 35 = .ok (.aload_n 0, 1) := by decide +kernel
theorem dX8_yard_36 : decode cX8_yard 36 = .ok (.getfield 105, 3) := by decide +kernel
theorem dX8_yard_39 : decode cX8_yard 39 = .ok (.new 22, 3) := by decide +kernel
theorem dX8_yard_42 : decode cX8_yard 42 = .ok (.dup, 1) := by decide +kernel
theorem dX8_yard_43 : decode cX8_yard 43 = .ok (.iload_n 1, 1) := by decide +kernel
theorem dX8_yard_44 : decode cX8_yard 44 = .ok (.iload_n 2, 1) := by decide +kernel
theorem dX8_yard_45 : decode cX8_yard 45 = .ok (.invokespecial 108, 3) := by decide +kernel
theorem dX8_yard_48 : decode cX8_yard 48 = .ok (.aastore, 1) := by decide +kernel
theorem dX8_yard_49 : decode cX8_yard 49 = .ok (.aload_n 0, 1) := by decide +kernel
theorem dX8_yard_50 : decode cX8_yard 50 = .ok (.dup, 1) := by decide +kernel
theorem dX8_yard_51 : decode cX8_yard 51 = .ok (.getfield 105, 3) := by decide +kernel
theorem dX8_yard_54 : decode cX8_yard 54 = .ok (.iconst 1, 1) := by decide +kernel
theorem dX8_yard_55 : decode cX8_yard 55 = .ok (.iadd, 1) := by decide +kernel
theorem dX8_yard_56 : decode cX8_yard 56 = .ok (.putfield 105, 3) := by decide +kernel
theorem dX8_yard_59 : decode cX8_yard 59 = .ok (.aload_n 0, 1) := by decide +kernel
theorem dX8_yard_60 : decode cX8_yard 60 = .ok (.getfield 105, 3) := by decide +kernel
theorem dX8_yard_63 : decode cX8_yard 63 = .ok (.iconst 1, 1) := by decide +kernel
theorem dX8_yard_64 : decode cX8_yard 64 = .ok (.isub, 1) := by decide +kernel
theorem dX8_yard_65 : decode cX8_yard 65 = .ok (.ireturn, 1) := by decide +kernel
theorem dX8_bid_0 : decode cX8_bid 0 = .ok (.aload_n 0, 1) := by decide +kernel
theorem dX8_bid_1 : decode cX8_bid 1 = .ok (.iload_n 1, 1) := by decide +kernel
theorem dX8_bid_2 : decode cX8_bid 2 = .ok (.invokevirtual 111, 3) := by decide +kernel
theorem dX8_bid_5 : decode cX8_bid 5 = .ok (.astore_n 3, 1) := by decide +kernel
theorem dX8_bid_6 : decode cX8_bid 6 = .ok (.aload_n 3, 1) := by decide +kernel
theorem dX8_bid_7 : decode cX8_bid 7 = .ok (.ifnull 13, 3) := by decide +kernel
theorem dX8_bid_10 : decode cX8_bid 10 = .ok (.iload_n 2, 1) := by decide +kernel
theorem dX8_bid_11 : decode cX8_bid 11 = .ok (.iconst 0, 1) := by decide +kernel
theorem dX8_bid_12 : decode cX8_bid 12 = .ok (.bipush 100, 2) := by decide +kernel
theorem dX8_bid_14 : decode cX8_bid 14 = .ok (.invokestatic 74, 3) := by decide +kernel
theorem dX8_bid_17 : decode cX8_bid 17 = .ok (.ifCond .ne 5, 3) := by decide +kernel
theorem dX8_bid_20 : decode cX8_bid 20 = .ok (.iconst 0, 1) := by decide +kernel
theorem dX8_bid_21 : decode cX8_bid 21 = .ok (.ireturn, 1) := by decide +kernel
theorem dX8_bid_22 : decode cX8_bid 22 = .ok (.aload_n 3, 1) := by decide +kernel
theorem dX8_bid_23 : decode cX8_bid 23 = .ok (.iload_n 2, 1) := by decide +kernel
theorem dX8_bid_24 : decode cX8_bid 24 = .ok (.putfield 115, 3) := by decide +kernel
theorem dX8_bid_27 : decode cX8_bid 27 = .ok (.iconst 1, 1) := by decide +kernel
theorem dX8_bid_28 : decode cX8_bid 28 = .ok (.ireturn, 1) := by decide +kernel
theorem dX8_soft_0 : decode cX8_soft 0 = .ok (.iload_n 1, 1) := by decide +kernel
theorem dX8_soft_1 : decode cX8_soft 1 = .ok (.iconst 0, 1) := by decide +kernel
theorem dX8_soft_2 : decode cX8_soft 2 = .ok (.sipush 2000, 3) := by decide +kernel
theorem dX8_soft_5 : decode cX8_soft 5 = .ok (.invokestatic 74, 3) := by decide +kernel
theorem dX8_soft_8 : decode cX8_soft 8 = .ok (.ifCond .ne 5, 3) := by decide +kernel
theorem dX8_soft_11 : decode cX8_soft 11 = .ok (.iconst 0, 1) := by decide +kernel
theorem dX8_soft_12 : decode cX8_soft 12 = .ok (.ireturn, 1) := by decide +kernel
theorem dX8_soft_13 : decode cX8_soft 13 = .ok (.aload_n 0, 1) := by decide +kernel
theorem dX8_soft_14 : decode cX8_soft 14 = .ok (.iload_n 1, 1) := by decide +kernel
theorem dX8_soft_15 : decode cX8_soft 15 = .ok (.putfield 66, 3) := by decide +kernel
theorem dX8_soft_18 : decode cX8_soft 18 = .ok (.iconst 1, 1) := by decide +kernel
theorem dX8_soft_19 : decode cX8_soft 19 = .ok (.ireturn, 1) := by decide +kernel
theorem dX8_night_0 : decode cX8_night 0 = .ok (.aload_n 0, 1) := by decide +kernel
theorem dX8_night_1 : decode cX8_night 1 = .ok (.getfield 118, 3) := by decide +kernel
theorem dX8_night_4 : decode cX8_night 4 = .ok (.sipush 300, 3) := by decide +kernel
theorem dX8_night_7 : decode cX8_night 7 = .ok (.if_icmp .lt 5, 3) := by decide +kernel
theorem dX8_night_10 : decode cX8_night 10 = .ok (.iconst (-1), 1) := by decide +kernel
theorem dX8_night_11 : decode cX8_night 11 = .ok (.ireturn, 1) := by decide +kernel
theorem dX8_night_12 : decode cX8_night 12 = .ok (.aload_n 0, 1) := by decide +kernel
theorem dX8_night_13 : decode cX8_night 13 = .ok (.getfield 121, 3) := by decide +kernel
theorem dX8_night_16 : decode cX8_night 16 = .ok (.istore_n 2, 1) := by decide +kernel
theorem dX8_night_17 : decode cX8_night 17 = .ok (.aload_n 0, 1) := by decide +kernel
theorem dX8_night_18 : decode cX8_night 18 = .ok (.iload_n 1, 1) := by decide +kernel
theorem dX8_night_19 : decode cX8_night 19 = .ok (.invokevirtual 124, 3) := by decide +kernel
theorem dX8_night_22 : decode cX8_night 22 = .ok (.aload_n 0, 1) := by decide +kernel
theorem dX8_night_23 : decode cX8_night 23 = .ok (.iload_n 1, 1) := by decide +kernel
theorem dX8_night_24 : decode cX8_night 24 = .ok (.invokevirtual 128, 3) := by decide +kernel
theorem dX8_night_27 : decode cX8_night 27 = .ok (.istore_n 3, 1) := by decide +kernel
theorem dX8_night_28 : decode cX8_night 28 = .ok (.aload_n 0, 1) := by decide +kernel
theorem dX8_night_29 : decode cX8_night 29 = .ok (.getfield 12, 3) := by decide +kernel
theorem dX8_night_32 : decode cX8_night 32 = .ok (.invokevirtual 132, 3) := by decide +kernel
theorem dX8_night_35 : decode cX8_night 35 = .ok (.aload_n 0, 1) := by decide +kernel
theorem dX8_night_36 : decode cX8_night 36 = .ok (.invokevirtual 135, 3) := by decide +kernel
theorem dX8_night_39 : decode cX8_night 39 = .ok (.aload_n 0, 1) := by decide +kernel
theorem dX8_night_40 : decode cX8_night 40 = .ok (.iload_n 2, 1) := by decide +kernel
theorem dX8_night_41 : decode cX8_night 41 = .ok (.invokevirtual 138, 3) := by decide +kernel
theorem dX8_night_44 : decode cX8_night 44 = .ok (.aload_n 0, 1) := by decide +kernel
theorem dX8_night_45 : decode cX8_night 45 = .ok (.dup, 1) := by decide +kernel
theorem dX8_night_46 : decode cX8_night 46 = .ok (.getfield 118, 3) := by decide +kernel
theorem dX8_night_49 : decode cX8_night 49 = .ok (.iconst 1, 1) := by decide +kernel
theorem dX8_night_50 : decode cX8_night 50 = .ok (.iadd, 1) := by decide +kernel
theorem dX8_night_51 : decode cX8_night 51 = .ok (.putfield 118, 3) := by decide +kernel
theorem dX8_night_54 : decode cX8_night 54 = .ok (.iload_n 3, 1) := by decide +kernel
theorem dX8_night_55 : decode cX8_night 55 = .ok (.ireturn, 1) := by decide +kernel
theorem dX8_feed_0 : decode cX8_feed 0 = .ok (.iload_n 1, 1) := by decide +kernel
theorem dX8_feed_1 : decode cX8_feed 1 = .ok (.invokestatic 141, 3) := by decide +kernel
theorem dX8_feed_4 : decode cX8_feed 4 = .ok (.iload_n 2, 1) := by decide +kernel
theorem dX8_feed_5 : decode cX8_feed 5 = .ok (.invokestatic 141, 3) := by decide +kernel
theorem dX8_feed_8 : decode cX8_feed 8 = .ok (.iadd, 1) := by decide +kernel
theorem dX8_feed_9 : decode cX8_feed 9 = .ok (.iload_n 3, 1) := by decide +kernel
theorem dX8_feed_10 : decode cX8_feed 10 = .ok (.invokestatic 141, 3) := by decide +kernel
theorem dX8_feed_13 : decode cX8_feed 13 = .ok (.iadd, 1) := by decide +kernel
theorem dX8_feed_14 : decode cX8_feed 14 = .ok (.iload 4, 2) := by decide +kernel
theorem dX8_feed_16 : decode cX8_feed 16 = .ok (.invokestatic 141, 3) := by decide +kernel
theorem dX8_feed_19 : decode cX8_feed 19 = .ok (.iadd, 1) := by decide +kernel
theorem dX8_feed_20 : decode cX8_feed 20 = .ok (.iload 5, 2) := by decide +kernel
theorem dX8_feed_22 : decode cX8_feed 22 = .ok (.invokestatic 141, 3) := by decide +kernel
theorem dX8_feed_25 : decode cX8_feed 25 = .ok (.iadd, 1) := by decide +kernel
theorem dX8_feed_26 : decode cX8_feed 26 = .ok (.istore 6, 2) := by decide +kernel
theorem dX8_feed_28 : decode cX8_feed 28 = .ok (.iload 6, 2) := by decide +kernel
theorem dX8_feed_30 : decode cX8_feed 30 = .ok (.sipush 200, 3) := by decide +kernel
theorem dX8_feed_33 : decode cX8_feed 33 = .ok (.aload_n 0, 1) := by decide +kernel
theorem dX8_feed_34 : decode cX8_feed 34 = .ok (.getfield 37, 3) := by decide +kernel
theorem dX8_feed_37 : decode cX8_feed 37 = .ok (.getfield 145, 3) := by decide +kernel
theorem dX8_feed_40 : decode cX8_feed 40 = .ok (.isub, 1) := by decide +kernel
theorem dX8_feed_41 : decode cX8_feed 41 = .ok (.if_icmp .le 5, 3) := by decide +kernel
theorem dX8_feed_44 : decode cX8_feed 44 = .ok (.iconst (-1), 1) := by decide +kernel
theorem dX8_feed_45 : decode cX8_feed 45 = .ok (.ireturn, 1) := by decide +kernel
theorem dX8_feed_46 : decode cX8_feed 46 = .ok (.aload_n 0, 1) := by decide +kernel
theorem dX8_feed_47 : decode cX8_feed 47 = .ok (.getfield 37, 3) := by decide +kernel
theorem dX8_feed_50 : decode cX8_feed 50 = .ok (.iload_n 1, 1) := by decide +kernel
theorem dX8_feed_51 : decode cX8_feed 51 = .ok (.invokevirtual 148, 3) := by decide +kernel
theorem dX8_feed_54 : decode cX8_feed 54 = .ok (.aload_n 0, 1) := by decide +kernel
theorem dX8_feed_55 : decode cX8_feed 55 = .ok (.getfield 37, 3) := by decide +kernel
theorem dX8_feed_58 : decode cX8_feed 58 = .ok (.iload_n 2, 1) := by decide +kernel
theorem dX8_feed_59 : decode cX8_feed 59 = .ok (.invokevirtual 148, 3) := by decide +kernel
theorem dX8_feed_62 : decode cX8_feed 62 = .ok (.aload_n 0, 1) := by decide +kernel
theorem dX8_feed_63 : decode cX8_feed 63 = .ok (.getfield 37, 3) := by decide +kernel
theorem dX8_feed_66 : decode cX8_feed 66 = .ok (.iload_n 3, 1) := by decide +kernel
theorem dX8_feed_67 : decode cX8_feed 67 = .ok (.invokevirtual 148, 3) := by decide +kernel
theorem dX8_feed_70 : decode cX8_feed 70 = .ok (.aload_n 0, 1) := by decide +kernel
theorem dX8_feed_71 : decode cX8_feed 71 = .ok (.getfield 37, 3) := by decide +kernel
theorem dX8_feed_74 : decode cX8_feed 74 = .ok (.iload 4, 2) := by decide +kernel
theorem dX8_feed_76 : decode cX8_feed 76 = .ok (.invokevirtual 148, 3) := by decide +kernel
theorem dX8_feed_79 : decode cX8_feed 79 = .ok (.aload_n 0, 1) := by decide +kernel
theorem dX8_feed_80 : decode cX8_feed 80 = .ok (.getfield 37, 3) := by decide +kernel
theorem dX8_feed_83 : decode cX8_feed 83 = .ok (.iload 5, 2) := by decide +kernel
theorem dX8_feed_85 : decode cX8_feed 85 = .ok (.invokevirtual 148, 3) := by decide +kernel
theorem dX8_feed_88 : decode cX8_feed 88 = .ok (.aload_n 0, 1) := by decide +kernel
theorem dX8_feed_89 : decode cX8_feed 89 = .ok (.getfield 37, 3) := by decide +kernel
theorem dX8_feed_92 : decode cX8_feed 92 = .ok (.getfield 145, 3) := by decide +kernel
theorem dX8_feed_95 : decode cX8_feed 95 = .ok (.ireturn, 1) := by decide +kernel
theorem dX8_end_0 : decode cX8_end 0 = .ok (.iload_n 1, 1) := by decide +kernel
theorem dX8_end_1 : decode cX8_end 1 = .ok (.iconst 0, 1) := by decide +kernel
theorem dX8_end_2 : decode cX8_end 2 = .ok (.aload_n 0, 1) := by decide +kernel
theorem dX8_end_3 : decode cX8_end 3 = .ok (.getfield 37, 3) := by decide +kernel
theorem dX8_end_6 : decode cX8_end 6 = .ok (.getfield 145, 3) := by decide +kernel
theorem dX8_end_9 : decode cX8_end 9 = .ok (.invokestatic 74, 3) := by decide +kernel
theorem dX8_end_12 : decode cX8_end 12 = .ok (.ifCond .ne 5, 3) := by decide +kernel
theorem dX8_end_15 : decode cX8_end 15 = .ok (.iconst 0, 1) := by decide +kernel
theorem dX8_end_16 : decode cX8_end 16 = .ok (.ireturn, 1) := by decide +kernel
theorem dX8_end_17 : decode cX8_end 17 = .ok (.aload_n 0, 1) := by decide +kernel
theorem dX8_end_18 : decode cX8_end 18 = .ok (.getfield 37, 3) := by decide +kernel
theorem dX8_end_21 : decode cX8_end 21 = .ok (.iload_n 1, 1) := by decide +kernel
theorem dX8_end_22 : decode cX8_end 22 = .ok (.putfield 145, 3) := by decide +kernel
theorem dX8_end_25 : decode cX8_end 25 = .ok (.iconst 1, 1) := by decide +kernel
theorem dX8_end_26 : decode cX8_end 26 = .ok (.ireturn, 1) := by decide +kernel
theorem dX8_fault_0 : decode cX8_fault 0 = .ok (.aload_n 0, 1) := by decide +kernel
theorem dX8_fault_1 : decode cX8_fault 1 = .ok (.getfield 55, 3) := by decide +kernel
theorem dX8_fault_4 : decode cX8_fault 4 = .ok (.aload_n 0, 1) := by decide +kernel
theorem dX8_fault_5 : decode cX8_fault 5 = .ok (.getfield 37, 3) := by decide +kernel
theorem dX8_fault_8 : decode cX8_fault 8 = .ok (.invokevirtual 151, 3) := by decide +kernel
theorem dX8_fault_11 : decode cX8_fault 11 = .ok (.ireturn, 1) := by decide +kernel
theorem dX8_brand_0 : decode cX8_brand 0 = .ok (.iload_n 1, 1) := by decide +kernel
theorem dX8_brand_1 : decode cX8_brand 1 = .ok (.iconst 0, 1) := by decide +kernel
theorem dX8_brand_2 : decode cX8_brand 2 = .ok (.iconst 3, 1) := by decide +kernel
theorem dX8_brand_3 : decode cX8_brand 3 = .ok (.invokestatic 74, 3) := by decide +kernel
theorem dX8_brand_6 : decode cX8_brand 6 = .ok (.ifCond .eq 18, 3) := by decide +kernel
theorem dX8_brand_9 : decode cX8_brand 9 = .ok (.aload_n 0, 1) := by decide +kernel
theorem dX8_brand_10 : decode cX8_brand 10 = .ok (.getfield 55, 3) := by decide +kernel
theorem dX8_brand_13 : decode cX8_brand 13 = .ok (.aload_n 0, 1) := by decide +kernel
theorem dX8_brand_14 : decode cX8_brand 14 = .ok (.getfield 37, 3) := by decide +kernel
theorem dX8_brand_17 : decode cX8_brand 17 = .ok (.invokevirtual 151, 3) := by decide +kernel
theorem dX8_brand_20 : decode cX8_brand 20 = .ok (.iconst (-1), 1) := by decide +kernel
theorem dX8_brand_21 : decode cX8_brand 21 = .ok (.if_icmp .eq 5, 3) := by decide +kernel
theorem dX8_brand_24 : decode cX8_brand 24 = .ok (.iconst 0, 1) := by decide +kernel
theorem dX8_brand_25 : decode cX8_brand 25 = .ok (.ireturn, 1) := by decide +kernel
theorem dX8_brand_26 : decode cX8_brand 26 = .ok (.aload_n 0, 1) := by decide +kernel
theorem dX8_brand_27 : decode cX8_brand 27 = .ok (.getfield 41, 3) := by decide +kernel
theorem dX8_brand_30 : decode cX8_brand 30 = .ok (.iload_n 1, 1) := by decide +kernel
theorem dX8_brand_31 : decode cX8_brand 31 = .ok (.aaload, 1) := by decide +kernel
theorem dX8_brand_32 : decode cX8_brand 32 = .ok (.astore_n 2, 1) := by decide +kernel
theorem dX8_brand_33 : decode cX8_brand 33 = .ok (.aload_n 2, 1) := by decide +kernel
theorem dX8_brand_34 : decode cX8_brand 34 = .ok (.ifnonnull 18, 3) := by decide +kernel
theorem dX8_brand_37 : decode cX8_brand 37 = .ok (.new 34, 3) := by decide +kernel
theorem dX8_brand_40 : decode cX8_brand 40 = .ok (.dup, 1) := by decide +kernel
theorem dX8_brand_41 : decode cX8_brand 41 = .ok (.invokespecial 36, 3) := by decide +kernel
theorem dX8_brand_44 : decode cX8_brand 44 = .ok (.astore_n 2, 1) := by decide +kernel
theorem dX8_brand_45 : decode cX8_brand 45 = .ok (.aload_n 0, 1) := by decide +kernel
theorem dX8_brand_46 : decode cX8_brand 46 = .ok (.getfield 41, 3) := by decide +kernel
theorem dX8_brand_49 : decode cX8_brand 49 = .ok (.iload_n 1, 1) := by decide +kernel
theorem dX8_brand_50 : decode cX8_brand 50 = .ok (.aload_n 2, 1) := by decide +kernel
theorem dX8_brand_51 : decode cX8_brand 51 = .ok (.aastore, 1) := by decide +kernel
theorem dX8_brand_52 : decode cX8_brand 52 = .ok (.aload_n 2, 1) := by decide +kernel
theorem dX8_brand_53 : decode cX8_brand 53 = .ok (.aload_n 0, 1) := by decide +kernel
theorem dX8_brand_54 : decode cX8_brand 54 = .ok (.getfield 37, 3) := by decide +kernel
theorem dX8_brand_57 : decode cX8_brand 57 = .ok (.invokevirtual 155, 3) := by decide +kernel
theorem dX8_brand_60 : decode cX8_brand 60 = .ok (.aload_n 0, 1) := by decide +kernel
theorem dX8_brand_61 : decode cX8_brand 61 = .ok (.getfield 37, 3) := by decide +kernel
theorem dX8_brand_64 : decode cX8_brand 64 = .ok (.iconst 0, 1) := by decide +kernel
theorem dX8_brand_65 : decode cX8_brand 65 = .ok (.putfield 145, 3) := by decide +kernel
theorem dX8_brand_68 : decode cX8_brand 68 = .ok (.iconst 1, 1) := by decide +kernel
theorem dX8_brand_69 : decode cX8_brand 69 = .ok (.ireturn, 1) := by decide +kernel
theorem dX8_judge_0 : decode cX8_judge 0 = .ok (.aload_n 0, 1) := by decide +kernel
theorem dX8_judge_1 : decode cX8_judge 1 = .ok (.iload_n 1, 1) := by decide +kernel
theorem dX8_judge_2 : decode cX8_judge 2 = .ok (.invokevirtual 159, 3) := by decide +kernel
theorem dX8_judge_5 : decode cX8_judge 5 = .ok (.astore_n 3, 1) := by decide +kernel
theorem dX8_judge_6 : decode cX8_judge 6 = .ok (.aload_n 0, 1) := by decide +kernel
theorem dX8_judge_7 : decode cX8_judge 7 = .ok (.iload_n 2, 1) := by decide +kernel
theorem dX8_judge_8 : decode cX8_judge 8 = .ok (.invokevirtual 163, 3) := by decide +kernel
theorem dX8_judge_11 : decode cX8_judge 11 = .ok (.astore 4, 2) := by decide +kernel
theorem dX8_judge_13 : decode cX8_judge 13 = .ok (.aload_n 3, 1) := by decide +kernel
theorem dX8_judge_14 : decode cX8_judge 14 = .ok (.ifnull 8, 3) := by decide +kernel
theorem dX8_judge_17 : decode cX8_judge 17 = .ok (.aload 4, 2) := by decide +kernel
theorem dX8_judge_19 : decode cX8_judge 19 = .ok (.ifnonnull 5, 3) := by decide +kernel
theorem dX8_judge_22 : decode cX8_judge 22 = .ok (.iconst (-1), 1) := by decide +kernel
theorem dX8_judge_23 : decode cX8_judge 23 = .ok (.ireturn, 1) := by decide +kernel
theorem dX8_judge_24 : decode cX8_judge 24 = .ok (.aload_n 0, 1) := by decide +kernel
theorem dX8_judge_25 : decode cX8_judge 25 = .ok (.getfield 62, 3) := by decide +kernel
theorem dX8_judge_28 : decode cX8_judge 28 = .ok (.aload_n 3, 1) := by decide +kernel
theorem dX8_judge_29 : decode cX8_judge 29 = .ok (.aload 4, 2) := by decide +kernel
theorem dX8_judge_31 : decode cX8_judge 31 = .ok (.aload_n 0, 1) := by decide +kernel
theorem dX8_judge_32 : decode cX8_judge 32 = .ok (.getfield 118, 3) := by decide +kernel
theorem dX8_judge_35 : decode cX8_judge 35 = .ok (.invokevirtual 167, 3) := by decide +kernel
theorem dX8_judge_38 : decode cX8_judge 38 = .ok (.ifCond .eq 7, 3) := by decide +kernel
theorem dX8_judge_41 : decode cX8_judge 41 = .ok (.iconst 1, 1) := by decide +kernel
theorem dX8_judge_42 : decode cX8_judge 42 = .ok (.goto 4, 3) := by decide +kernel
theorem dX8_judge_45 : decode cX8_judge 45 = .ok (.iconst 0, 1) := by decide +kernel
theorem dX8_judge_46 : decode cX8_judge 46 = .ok (.ireturn, 1) := by decide +kernel
theorem dX8_branded_0 : decode cX8_branded 0 = .ok (.aload_n 0, 1) := by decide +kernel
theorem dX8_branded_1 : decode cX8_branded 1 = .ok (.iload_n 1, 1) := by decide +kernel
theorem dX8_branded_2 : decode cX8_branded 2 = .ok (.invokevirtual 163, 3) := by decide +kernel
theorem dX8_branded_5 : decode cX8_branded 5 = .ok (.astore_n 2, 1) := by decide +kernel
theorem dX8_branded_6 : decode cX8_branded 6 = .ok (.aload_n 2, 1) := by decide +kernel
theorem dX8_branded_7 : decode cX8_branded 7 = .ok (.ifnonnull 5, 3) := by decide +kernel
theorem dX8_branded_10 : decode cX8_branded 10 = .ok (.iconst (-1), 1) := by decide +kernel
theorem dX8_branded_11 : decode cX8_branded 11 = .ok (.ireturn, 1) := by decide +kernel
theorem dX8_branded_12 : decode cX8_branded 12 = .ok (.iconst 0, 1) := by decide +kernel
theorem dX8_branded_13 : decode cX8_branded 13 = .ok (.istore_n 3, 1) := by decide +kernel
theorem dX8_branded_14 : decode cX8_branded 14 = .ok (.iload_n 3, 1) := by decide +kernel
theorem dX8_branded_15 : decode cX8_branded 15 = .ok (.iconst 4, 1) := by decide +kernel
theorem dX8_branded_16 : decode cX8_branded 16 = .ok (.if_icmp .ge 40, 3) := by decide +kernel
theorem dX8_branded_19 : decode cX8_branded 19 = .ok (.aload_n 0, 1) := by decide +kernel
theorem dX8_branded_20 : decode cX8_branded 20 = .ok (.iload_n 3, 1) := by decide +kernel
theorem dX8_branded_21 : decode cX8_branded 21 = .ok (.invokevirtual 159, 3) := by decide +kernel
theorem dX8_branded_24 : decode cX8_branded 24 = .ok (.astore 4, 2) := by decide +kernel
theorem dX8_branded_26 : decode cX8_branded 26 = .ok (.aload 4, 2) := by decide +kernel
theorem dX8_branded_28 : decode cX8_branded 28 = .ok (.ifnull 22, 3) := by decide +kernel
theorem dX8_branded_31 : decode cX8_branded 31 = .ok (.aload_n 0, 1) := by decide +kernel
theorem dX8_branded_32 : decode cX8_branded 32 = .ok (.getfield 62, 3) := by decide +kernel
theorem dX8_branded_35 : decode cX8_branded 35 = .ok (.aload 4, 2) := by decide +kernel
theorem dX8_branded_37 : decode cX8_branded 37 = .ok (.aload_n 2, 1) := by decide +kernel
theorem dX8_branded_38 : decode cX8_branded 38 = .ok (.aload_n 0, 1) := by decide +kernel
theorem dX8_branded_39 : decode cX8_branded 39 = .ok (.getfield 118, 3) := by decide +kernel
theorem dX8_branded_42 : decode cX8_branded 42 = .ok (.invokevirtual 167, 3) := by decide +kernel
theorem dX8_branded_45 : decode cX8_branded 45 = .ok (.ifCond .eq 5, 3) := by decide +kernel
theorem dX8_branded_48 : decode cX8_branded 48 = .ok (.iload_n 3, 1) := by decide +kernel
theorem dX8_branded_49 : decode cX8_branded 49 = .ok (.ireturn, 1) := by decide +kernel
theorem dX8_branded_50 : decode cX8_branded 50 = .ok (.iinc 3 1, 3) := by decide +kernel
theorem dX8_branded_53 : decode cX8_branded 53 = .ok (.goto (-39), 3) := by decide +kernel
theorem dX8_branded_56 : decode cX8_branded 56 = .ok (.iconst (-1), 1) := by decide +kernel
theorem dX8_branded_57 : decode cX8_branded 57 = .ok (.ireturn, 1) := by decide +kernel
theorem dX8_share_0 : decode cX8_share 0 = .ok (.aload_n 0, 1) := by decide +kernel
theorem dX8_share_1 : decode cX8_share 1 = .ok (.iload_n 1, 1) := by decide +kernel
theorem dX8_share_2 : decode cX8_share 2 = .ok (.invokevirtual 95, 3) := by decide +kernel
theorem dX8_share_5 : decode cX8_share 5 = .ok (.astore 4, 2) := by decide +kernel
theorem dX8_share_7 : decode cX8_share 7 = .ok (.aload 4, 2) := by decide +kernel
theorem dX8_share_9 : decode cX8_share 9 = .ok (.ifnull 20, 3) := by decide +kernel
theorem dX8_share_12 : decode cX8_share 12 = .ok (.iload_n 2, 1) := by decide +kernel
theorem dX8_share_13 : decode cX8_share 13 = .ok (.invokestatic 171, 3) := by decide +kernel
theorem dX8_share_16 : decode cX8_share 16 = .ok (.ifCond .eq 13, 3) := by decide +kernel
theorem dX8_share_19 : decode cX8_share 19 = .ok (.iload_n 3, 1) := by decide +kernel
theorem dX8_share_20 : decode cX8_share 20 = .ok (.iconst 0, 1) := by decide +kernel
theorem dX8_share_21 : decode cX8_share 21 = .ok (.bipush 100, 2) := by decide +kernel
theorem dX8_share_23 : decode cX8_share 23 = .ok (.invokestatic 74, 3) := by decide +kernel
theorem dX8_share_26 : decode cX8_share 26 = .ok (.ifCond .ne 5, 3) := by decide +kernel
theorem dX8_share_29 : decode cX8_share 29 = .ok (.iconst 0, 1) := by decide +kernel
theorem dX8_share_30 : decode cX8_share 30 = .ok (.ireturn, 1) := by decide +kernel
theorem dX8_share_31 : decode cX8_share 31 = .ok (.aload 4, 2) := by decide +kernel
theorem dX8_share_33 : decode cX8_share 33 = .ok (.getfield 174, 3) := by decide +kernel
theorem dX8_share_36 : decode cX8_share 36 = .ok (.iload_n 2, 1) := by decide +kernel
theorem dX8_share_37 : decode cX8_share 37 = .ok (.iload_n 3, 1) := by decide +kernel
theorem dX8_share_38 : decode cX8_share 38 = .ok (.iastore, 1) := by decide +kernel
theorem dX8_share_39 : decode cX8_share 39 = .ok (.iconst 1, 1) := by decide +kernel
theorem dX8_share_40 : decode cX8_share 40 = .ok (.ireturn, 1) := by decide +kernel
theorem dX8_settle_0 : decode cX8_settle 0 = .ok (.aload_n 0, 1) := by decide +kernel
theorem dX8_settle_1 : decode cX8_settle 1 = .ok (.iload_n 1, 1) := by decide +kernel
theorem dX8_settle_2 : decode cX8_settle 2 = .ok (.invokevirtual 95, 3) := by decide +kernel
theorem dX8_settle_5 : decode cX8_settle 5 = .ok (.astore_n 2, 1) := by decide +kernel
theorem dX8_settle_6 : decode cX8_settle 6 = .ok (.aload_n 2, 1) := by decide +kernel
theorem dX8_settle_7 : decode cX8_settle 7 = .ok (.ifnull 10, 3) := by decide +kernel
theorem dX8_settle_10 : decode cX8_settle 10 = .ok (.aload_n 2, 1) := by decide +kernel
theorem dX8_settle_11 : decode cX8_settle 11 = .ok (.getfield 177, 3) := by decide +kernel
theorem dX8_settle_14 : decode cX8_settle 14 = .ok (.ifCond .ne 5, 3) := by decide +kernel
theorem dX8_settle_17 : decode cX8_settle 17 = .ok (.iconst (-1), 1) := by decide +kernel
theorem dX8_settle_18 : decode cX8_settle 18 = .ok (.ireturn, 1) := by decide +kernel
theorem dX8_settle_19 : decode cX8_settle 19 = .ok (.aload_n 0, 1) := by decide +kernel
theorem dX8_settle_20 : decode cX8_settle 20 = .ok (.getfield 48, 3) := by decide +kernel
theorem dX8_settle_23 : decode cX8_settle 23 = .ok (.invokevirtual 180, 3) := by decide +kernel
theorem dX8_settle_26 : decode cX8_settle 26 = .ok (.iconst 0, 1) := by decide +kernel
theorem dX8_settle_27 : decode cX8_settle 27 = .ok (.istore_n 3, 1) := by decide +kernel
theorem dX8_settle_28 : decode cX8_settle 28 = .ok (.iload_n 3, 1) := by decide +kernel
theorem dX8_settle_29 : decode cX8_settle 29 = .ok (.bipush 8, 2) := by decide +kernel
theorem dX8_settle_31 : decode cX8_settle 31 = .ok (.if_icmp .ge 23, 3) := by decide +kernel
theorem dX8_settle_34 : decode cX8_settle 34 = .ok (.aload_n 0, 1) := by decide +kernel
theorem dX8_settle_35 : decode cX8_settle 35 = .ok (.getfield 48, 3) := by decide +kernel
theorem dX8_settle_38 : decode cX8_settle 38 = .ok (.iload_n 3, 1) := by decide +kernel
theorem dX8_settle_39 : decode cX8_settle 39 = .ok (.aload_n 2, 1) := by decide +kernel
theorem dX8_settle_40 : decode cX8_settle 40 = .ok (.getfield 174, 3) := by decide +kernel
theorem dX8_settle_43 : decode cX8_settle 43 = .ok (.iload_n 3, 1) := by decide +kernel
theorem dX8_settle_44 : decode cX8_settle 44 = .ok (.iaload, 1) := by decide +kernel
theorem dX8_settle_45 : decode cX8_settle 45 = .ok (.invokevirtual 183, 3) := by decide +kernel
theorem dX8_settle_48 : decode cX8_settle 48 = .ok (.iinc 3 1, 3) := by decide +kernel
theorem dX8_settle_51 : decode cX8_settle 51 = .ok (.goto (-23), 3) := by decide +kernel
theorem dX8_settle_54 : decode cX8_settle 54 = .ok (.aload_n 0, 1) := by decide +kernel
theorem dX8_settle_55 : decode cX8_settle 55 = .ok (.getfield 48, 3) := by decide +kernel
theorem dX8_settle_58 : decode cX8_settle 58 = .ok (.getfield 186, 3) := by decide +kernel
theorem dX8_settle_61 : decode cX8_settle 61 = .ok (.ifCond .ne 5, 3) := by decide +kernel
theorem dX8_settle_64 : decode cX8_settle 64 = .ok (.iconst (-1), 1) := by decide +kernel
theorem dX8_settle_65 : decode cX8_settle 65 = .ok (.ireturn, 1) := by decide +kernel
theorem dX8_settle_66 : decode cX8_settle 66 = .ok (.aload_n 2, 1) := by decide +kernel
theorem dX8_settle_67 : decode cX8_settle 67 = .ok (.getfield 177, 3) := by decide +kernel
theorem dX8_settle_70 : decode cX8_settle 70 = .ok (.istore_n 3, 1) := by decide +kernel
theorem dX8_settle_71 : decode cX8_settle 71 = .ok (.aload_n 0, 1) := by decide +kernel
theorem dX8_settle_72 : decode cX8_settle 72 = .ok (.getfield 48, 3) := by decide +kernel
theorem dX8_settle_75 : decode cX8_settle 75 = .ok (.iload_n 3, 1) := by decide +kernel
theorem dX8_settle_76 : decode cX8_settle 76 = .ok (.invokevirtual 189, 3) := by decide +kernel
theorem dX8_settle_79 : decode cX8_settle 79 = .ok (.iconst 0, 1) := by decide +kernel
theorem dX8_settle_80 : decode cX8_settle 80 = .ok (.istore 4, 2) := by decide +kernel
theorem dX8_settle_82 : decode cX8_settle 82 = .ok (.iload 4, 2) := by decide +kernel
theorem dX8_settle_84 : decode cX8_settle 84 = .ok (.bipush 8, 2) := by decide +kernel
theorem dX8_settle_86 : decode cX8_settle 86 = .ok (.if_icmp .ge 29, 3) := by decide +kernel
theorem dX8_settle_89 : decode cX8_settle 89 = .ok (.aload_n 2, 1) := by decide +kernel
theorem dX8_settle_90 : decode cX8_settle 90 = .ok (.getfield 192, 3) := by decide +kernel
theorem dX8_settle_93 : decode cX8_settle 93 = .ok (.iload 4, 2) := by decide +kernel
theorem dX8_settle_95 : decode cX8_settle 95 = .ok (.dup2, 1) := by decide +kernel
theorem dX8_settle_96 : decode cX8_settle 96 = .ok (.iaload, 1) := by decide +kernel
theorem dX8_settle_97 : decode cX8_settle 97 = .ok (.aload_n 0, 1) := by decide +kernel
theorem dX8_settle_98 : decode cX8_settle 98 = .ok (.getfield 48, 3) := by decide +kernel
theorem dX8_settle_101 : decode cX8_settle 101 = .ok (.getfield 195, 3) := by decide +kernel
theorem dX8_settle_104 : decode cX8_settle 104 = .ok (.iload 4, 2) := by decide +kernel
theorem dX8_settle_106 : decode cX8_settle 106 = .ok (.iaload, 1) := by decide +kernel
theorem dX8_settle_107 : decode cX8_settle 107 = .ok (.iadd, 1) := by decide +kernel
theorem dX8_settle_108 : decode cX8_settle 108 = .ok (.iastore, 1) := by decide +kernel
theorem dX8_settle_109 : decode cX8_settle 109 = .ok (.iinc 4 1, 3) := by decide +kernel
theorem dX8_settle_112 : decode cX8_settle 112 = .ok (.goto (-30), 3) := by decide +kernel
theorem dX8_settle_115 : decode cX8_settle 115 = .ok (.aload_n 2, 1) := by decide +kernel
theorem dX8_settle_116 : decode cX8_settle 116 = .ok (.iconst 0, 1) := by decide +kernel
theorem dX8_settle_117 : decode cX8_settle 117 = .ok (.putfield 177, 3) := by decide +kernel
theorem dX8_settle_120 : decode cX8_settle 120 = .ok (.iload_n 3, 1) := by decide +kernel
theorem dX8_settle_121 : decode cX8_settle 121 = .ok (.ireturn, 1) := by decide +kernel
theorem dX8_coins_0 : decode cX8_coins 0 = .ok (.aload_n 0, 1) := by decide +kernel
theorem dX8_coins_1 : decode cX8_coins 1 = .ok (.iload_n 1, 1) := by decide +kernel
theorem dX8_coins_2 : decode cX8_coins 2 = .ok (.invokevirtual 95, 3) := by decide +kernel
theorem dX8_coins_5 : decode cX8_coins 5 = .ok (.astore_n 3, 1) := by decide +kernel
theorem dX8_coins_6 : decode cX8_coins 6 = .ok (.aload_n 3, 1) := by decide +kernel
theorem dX8_coins_7 : decode cX8_coins 7 = .ok (.ifnull 10, 3) := by decide +kernel
theorem dX8_coins_10 : decode cX8_coins 10 = .ok (.iload_n 2, 1) := by decide +kernel
theorem dX8_coins_11 : decode cX8_coins 11 = .ok (.invokestatic 171, 3) := by decide +kernel
theorem dX8_coins_14 : decode cX8_coins 14 = .ok (.ifCond .ne 5, 3) := by decide +kernel
theorem dX8_coins_17 : decode cX8_coins 17 = .ok (.iconst 0, 1) := by decide +kernel
theorem dX8_coins_18 : decode cX8_coins 18 = .ok (.ireturn, 1) := by decide +kernel
theorem dX8_coins_19 : decode cX8_coins 19 = .ok (.aload_n 3, 1) := by decide +kernel
theorem dX8_coins_20 : decode cX8_coins 20 = .ok (.getfield 192, 3) := by decide +kernel
theorem dX8_coins_23 : decode cX8_coins 23 = .ok (.iload_n 2, 1) := by decide +kernel
theorem dX8_coins_24 : decode cX8_coins 24 = .ok (.iaload, 1) := by decide +kernel
theorem dX8_coins_25 : decode cX8_coins 25 = .ok (.ireturn, 1) := by decide +kernel
theorem dX8_cell_0 : decode cX8_cell 0 = .ok (.iload_n 1, 1) := by decide +kernel
theorem dX8_cell_1 : decode cX8_cell 1 = .ok (.invokestatic 70, 3) := by decide +kernel
theorem dX8_cell_4 : decode cX8_cell 4 = .ok (.ifCond .ne 5, 3) := by decide +kernel
theorem dX8_cell_7 : decode cX8_cell 7 = .ok (.iconst (-1), 1) := by decide +kernel
theorem dX8_cell_8 : decode cX8_cell 8 = .ok (.ireturn, 1) := by decide +kernel
theorem dX8_cell_9 : decode cX8_cell 9 = .ok (.iload_n 2, 1) := by decide +kernel
theorem dX8_cell_10 : decode cX8_cell 10 = .ok (.lookupswitch 54 #[(0, 26), (1, 36)], 26) := by decide +kernel
theorem dX8_cell_36 : decode cX8_cell 36 = .ok (.aload_n 0, 1) := by decide +kernel
theorem dX8_cell_37 : decode cX8_cell 37 = .ok (.getfield 12, 3) := by decide +kernel
theorem dX8_cell_40 : decode cX8_cell 40 = .ok (.getfield 78, 3) := by decide +kernel
theorem dX8_cell_43 : decode cX8_cell 43 = .ok (.iload_n 1, 1) := by decide +kernel
theorem dX8_cell_44 : decode cX8_cell 44 = .ok (.iaload, 1) := by decide +kernel
theorem dX8_cell_45 : decode cX8_cell 45 = .ok (.ireturn, 1) := by decide +kernel
theorem dX8_cell_46 : decode cX8_cell 46 = .ok (.aload_n 0, 1) := by decide +kernel
theorem dX8_cell_47 : decode cX8_cell 47 = .ok (.getfield 12, 3) := by decide +kernel
theorem dX8_cell_50 : decode cX8_cell 50 = .ok (.getfield 82, 3) := by decide +kernel
theorem dX8_cell_53 : decode cX8_cell 53 = .ok (.iload_n 1, 1) := by decide +kernel
theorem dX8_cell_54 : decode cX8_cell 54 = .ok (.baload, 1) := by decide +kernel
theorem dX8_cell_55 : decode cX8_cell 55 = .ok (.ifCond .eq 7, 3) := by decide +kernel
theorem dX8_cell_58 : decode cX8_cell 58 = .ok (.iconst 1, 1) := by decide +kernel
theorem dX8_cell_59 : decode cX8_cell 59 = .ok (.goto 4, 3) := by decide +kernel
theorem dX8_cell_62 : decode cX8_cell 62 = .ok (.iconst 0, 1) := by decide +kernel
theorem dX8_cell_63 : decode cX8_cell 63 = .ok (.ireturn, 1) := by decide +kernel
theorem dX8_cell_64 : decode cX8_cell 64 = .ok (.iconst (-1), 1) := by decide +kernel
theorem dX8_cell_65 : decode cX8_cell 65 = .ok (.ireturn, 1) := by decide +kernel
theorem dX8_told_0 : decode cX8_told 0 = .ok (.aload_n 0, 1) := by decide +kernel
theorem dX8_told_1 : decode cX8_told 1 = .ok (.iload_n 1, 1) := by decide +kernel
theorem dX8_told_2 : decode cX8_told 2 = .ok (.invokevirtual 95, 3) := by decide +kernel
theorem dX8_told_5 : decode cX8_told 5 = .ok (.astore_n 3, 1) := by decide +kernel
theorem dX8_told_6 : decode cX8_told 6 = .ok (.aload_n 3, 1) := by decide +kernel
theorem dX8_told_7 : decode cX8_told 7 = .ok (.ifnonnull 5, 3) := by decide +kernel
theorem dX8_told_10 : decode cX8_told 10 = .ok (.iconst (-1), 1) := by decide +kernel
theorem dX8_told_11 : decode cX8_told 11 = .ok (.ireturn, 1) := by decide +kernel
theorem dX8_told_12 : decode cX8_told 12 = .ok (.iload_n 2, 1) := by decide +kernel
theorem dX8_told_13 : decode cX8_told 13 = .ok (.tableswitch 69 0 5 #[39, 44, 49, 54, 59, 64], 39) := by decide +kernel
theorem dX8_told_52 : decode cX8_told 52 = .ok (.aload_n 3, 1) := by decide +kernel
theorem dX8_told_53 : decode cX8_told 53 = .ok (.getfield 102, 3) := by decide +kernel
theorem dX8_told_56 : decode cX8_told 56 = .ok (.ireturn, 1) := by decide +kernel
theorem dX8_told_57 : decode cX8_told 57 = .ok (.aload_n 3, 1) := by decide +kernel
theorem dX8_told_58 : decode cX8_told 58 = .ok (.getfield 99, 3) := by decide +kernel
theorem dX8_told_61 : decode cX8_told 61 = .ok (.ireturn, 1) := by decide +kernel
theorem dX8_told_62 : decode cX8_told 62 = .ok (.aload_n 3, 1) := by decide +kernel
theorem dX8_told_63 : decode cX8_told 63 = .ok (.getfield 198, 3) := by decide +kernel
theorem dX8_told_66 : decode cX8_told 66 = .ok (.ireturn, 1) := by decide +kernel
theorem dX8_told_67 : decode cX8_told 67 = .ok (.aload_n 3, 1) := by decide +kernel
theorem dX8_told_68 : decode cX8_told 68 = .ok (.getfield 177, 3) := by decide +kernel
theorem dX8_told_71 : decode cX8_told 71 = .ok (.ireturn, 1) := by decide +kernel
theorem dX8_told_72 : decode cX8_told 72 = .ok (.aload_n 3, 1) := by decide +kernel
theorem dX8_told_73 : decode cX8_told 73 = .ok (.getfield 201, 3) := by decide +kernel
theorem dX8_told_76 : decode cX8_told 76 = .ok (.ireturn, 1) := by decide +kernel
theorem dX8_told_77 : decode cX8_told 77 = .ok (.aload_n 3, 1) := by decide +kernel
theorem dX8_told_78 : decode cX8_told 78 = .ok (.getfield 204, 3) := by decide +kernel
theorem dX8_told_81 : decode cX8_told 81 = .ok (.ireturn, 1) := by decide +kernel
theorem dX8_told_82 : decode cX8_told 82 = .ok (.iconst (-1), 1) := by decide +kernel
theorem dX8_told_83 : decode cX8_told 83 = .ok (.ireturn, 1) := by decide +kernel
theorem dX8_lot_0 : decode cX8_lot 0 = .ok (.aload_n 0, 1) := by decide +kernel
theorem dX8_lot_1 : decode cX8_lot 1 = .ok (.iload_n 1, 1) := by decide +kernel
theorem dX8_lot_2 : decode cX8_lot 2 = .ok (.invokevirtual 163, 3) := by decide +kernel
theorem dX8_lot_5 : decode cX8_lot 5 = .ok (.astore_n 3, 1) := by decide +kernel
theorem dX8_lot_6 : decode cX8_lot 6 = .ok (.aload_n 3, 1) := by decide +kernel
theorem dX8_lot_7 : decode cX8_lot 7 = .ok (.ifnonnull 5, 3) := by decide +kernel
theorem dX8_lot_10 : decode cX8_lot 10 = .ok (.iconst (-1), 1) := by decide +kernel
theorem dX8_lot_11 : decode cX8_lot 11 = .ok (.ireturn, 1) := by decide +kernel
theorem dX8_lot_12 : decode cX8_lot 12 = .ok (.iload_n 2, 1) := by decide +kernel
theorem dX8_lot_13 : decode cX8_lot 13 = .ok (.tableswitch 114 0 10 #[59, 64, 69, 74, 79, 84, 89, 94, 99, 104, 109], 59) := by decide +kernel
theorem dX8_lot_72 : decode cX8_lot 72 = .ok (.aload_n 3, 1) := by decide +kernel
theorem dX8_lot_73 : decode cX8_lot 73 = .ok (.getfield 207, 3) := by decide +kernel
theorem dX8_lot_76 : decode cX8_lot 76 = .ok (.ireturn, 1) := by decide +kernel
theorem dX8_lot_77 : decode cX8_lot 77 = .ok (.aload_n 3, 1) := by decide +kernel
theorem dX8_lot_78 : decode cX8_lot 78 = .ok (.getfield 210, 3) := by decide +kernel
theorem dX8_lot_81 : decode cX8_lot 81 = .ok (.ireturn, 1) := by decide +kernel
theorem dX8_lot_82 : decode cX8_lot 82 = .ok (.aload_n 3, 1) := by decide +kernel
theorem dX8_lot_83 : decode cX8_lot 83 = .ok (.getfield 213, 3) := by decide +kernel
theorem dX8_lot_86 : decode cX8_lot 86 = .ok (.ireturn, 1) := by decide +kernel
theorem dX8_lot_87 : decode cX8_lot 87 = .ok (.aload_n 3, 1) := by decide +kernel
theorem dX8_lot_88 : decode cX8_lot 88 = .ok (.getfield 214, 3) := by decide +kernel
theorem dX8_lot_91 : decode cX8_lot 91 = .ok (.ireturn, 1) := by decide +kernel
theorem dX8_lot_92 : decode cX8_lot 92 = .ok (.aload_n 3, 1) := by decide +kernel
theorem dX8_lot_93 : decode cX8_lot 93 = .ok (.getfield 217, 3) := by decide +kernel
theorem dX8_lot_96 : decode cX8_lot 96 = .ok (.ireturn, 1) := by decide +kernel
theorem dX8_lot_97 : decode cX8_lot 97 = .ok (.aload_n 3, 1) := by decide +kernel
theorem dX8_lot_98 : decode cX8_lot 98 = .ok (.getfield 219, 3) := by decide +kernel
theorem dX8_lot_101 : decode cX8_lot 101 = .ok (.ireturn, 1) := by decide +kernel
theorem dX8_lot_102 : decode cX8_lot 102 = .ok (.aload_n 3, 1) := by decide +kernel
theorem dX8_lot_103 : decode cX8_lot 103 = .ok (.getfield 222, 3) := by decide +kernel
theorem dX8_lot_106 : decode cX8_lot 106 = .ok (.ireturn, 1) := by decide +kernel
theorem dX8_lot_107 : decode cX8_lot 107 = .ok (.aload_n 3, 1) := by decide +kernel
theorem dX8_lot_108 : decode cX8_lot 108 = .ok (.getfield 225, 3) := by decide +kernel
theorem dX8_lot_111 : decode cX8_lot 111 = .ok (.ireturn, 1) := by decide +kernel
theorem dX8_lot_112 : decode cX8_lot 112 = .ok (.aload_n 3, 1) := by decide +kernel
theorem dX8_lot_113 : decode cX8_lot 113 = .ok (.getfield 228, 3) := by decide +kernel
theorem dX8_lot_116 : decode cX8_lot 116 = .ok (.ireturn, 1) := by decide +kernel
theorem dX8_lot_117 : decode cX8_lot 117 = .ok (.aload_n 3, 1) := by decide +kernel
theorem dX8_lot_118 : decode cX8_lot 118 = .ok (.getfield 231, 3) := by decide +kernel
theorem dX8_lot_121 : decode cX8_lot 121 = .ok (.ireturn, 1) := by decide +kernel
theorem dX8_lot_122 : decode cX8_lot 122 = .ok (.aload_n 3, 1) := by decide +kernel
theorem dX8_lot_123 : decode cX8_lot 123 = .ok (.getfield 234, 3) := by decide +kernel
theorem dX8_lot_126 : decode cX8_lot 126 = .ok (.ireturn, 1) := by decide +kernel
theorem dX8_lot_127 : decode cX8_lot 127 = .ok (.iconst (-1), 1) := by decide +kernel
theorem dX8_lot_128 : decode cX8_lot 128 = .ok (.ireturn, 1) := by decide +kernel
theorem dX8_count_0 : decode cX8_count 0 = .ok (.iload_n 1, 1) := by decide +kernel
theorem dX8_count_1 : decode cX8_count 1 = .ok (.tableswitch 132 0 11 #[63, 68, 73, 78, 83, 91, 96, 101, 106, 114, 119, 124], 63) := by decide +kernel
theorem dX8_count_64 : decode cX8_count 64 = .ok (.aload_n 0, 1) := by decide +kernel
theorem dX8_count_65 : decode cX8_count 65 = .ok (.getfield 118, 3) := by decide +kernel
theorem dX8_count_68 : decode cX8_count 68 = .ok (.ireturn, 1) := by decide +kernel
theorem dX8_count_69 : decode cX8_count 69 = .ok (.aload_n 0, 1) := by decide +kernel
theorem dX8_count_70 : decode cX8_count 70 = .ok (.getfield 89, 3) := by decide +kernel
theorem dX8_count_73 : decode cX8_count 73 = .ok (.ireturn, 1) := by decide +kernel
theorem dX8_count_74 : decode cX8_count 74 = .ok (.aload_n 0, 1) := by decide +kernel
theorem dX8_count_75 : decode cX8_count 75 = .ok (.getfield 105, 3) := by decide +kernel
theorem dX8_count_78 : decode cX8_count 78 = .ok (.ireturn, 1) := by decide +kernel
theorem dX8_count_79 : decode cX8_count 79 = .ok (.aload_n 0, 1) := by decide +kernel
theorem dX8_count_80 : decode cX8_count 80 = .ok (.getfield 121, 3) := by decide +kernel
theorem dX8_count_83 : decode cX8_count 83 = .ok (.ireturn, 1) := by decide +kernel
theorem dX8_count_84 : decode cX8_count 84 = .ok (.aload_n 0, 1) := by decide +kernel
theorem dX8_count_85 : decode cX8_count 85 = .ok (.getfield 12, 3) := by decide +kernel
theorem dX8_count_88 : decode cX8_count 88 = .ok (.invokevirtual 237, 3) := by decide +kernel
theorem dX8_count_91 : decode cX8_count 91 = .ok (.ireturn, 1) := by decide +kernel
theorem dX8_count_92 : decode cX8_count 92 = .ok (.aload_n 0, 1) := by decide +kernel
theorem dX8_count_93 : decode cX8_count 93 = .ok (.getfield 241, 3) := by decide +kernel
theorem dX8_count_96 : decode cX8_count 96 = .ok (.ireturn, 1) := by decide +kernel
theorem dX8_count_97 : decode cX8_count 97 = .ok (.aload_n 0, 1) := by decide +kernel
theorem dX8_count_98 : decode cX8_count 98 = .ok (.getfield 242, 3) := by decide +kernel
theorem dX8_count_101 : decode cX8_count 101 = .ok (.ireturn, 1) := by decide +kernel
theorem dX8_count_102 : decode cX8_count 102 = .ok (.aload_n 0, 1) := by decide +kernel
theorem dX8_count_103 : decode cX8_count 103 = .ok (.getfield 245, 3) := by decide +kernel
theorem dX8_count_106 : decode cX8_count 106 = .ok (.ireturn, 1) := by decide +kernel
theorem dX8_count_107 : decode cX8_count 107 = .ok (.aload_n 0, 1) := by decide +kernel
theorem dX8_count_108 : decode cX8_count 108 = .ok (.getfield 12, 3) := by decide +kernel
theorem dX8_count_111 : decode cX8_count 111 = .ok (.getfield 248, 3) := by decide +kernel
theorem dX8_count_114 : decode cX8_count 114 = .ok (.ireturn, 1) := by decide +kernel
theorem dX8_count_115 : decode cX8_count 115 = .ok (.aload_n 0, 1) := by decide +kernel
theorem dX8_count_116 : decode cX8_count 116 = .ok (.getfield 251, 3) := by decide +kernel
theorem dX8_count_119 : decode cX8_count 119 = .ok (.ireturn, 1) := by decide +kernel
theorem dX8_count_120 : decode cX8_count 120 = .ok (.aload_n 0, 1) := by decide +kernel
theorem dX8_count_121 : decode cX8_count 121 = .ok (.invokevirtual 254, 3) := by decide +kernel
theorem dX8_count_124 : decode cX8_count 124 = .ok (.ireturn, 1) := by decide +kernel
theorem dX8_count_125 : decode cX8_count 125 = .ok (.aload_n 0, 1) := by decide +kernel
theorem dX8_count_126 : decode cX8_count 126 = .ok (.getfield 37, 3) := by decide +kernel
theorem dX8_count_129 : decode cX8_count 129 = .ok (.getfield 145, 3) := by decide +kernel
theorem dX8_count_132 : decode cX8_count 132 = .ok (.ireturn, 1) := by decide +kernel
theorem dX8_count_133 : decode cX8_count 133 = .ok (.iconst (-1), 1) := by decide +kernel
theorem dX8_count_134 : decode cX8_count 134 = .ok (.ireturn, 1) := by decide +kernel
theorem dX8_isWithin_0 : decode cX8_isWithin 0 = .ok (.iload_n 0, 1) := by decide +kernel
theorem dX8_isWithin_1 : decode cX8_isWithin 1 = .ok (.iload_n 1, 1) := by decide +kernel
theorem dX8_isWithin_2 : decode cX8_isWithin 2 = .ok (.if_icmp .lt 12, 3) := by decide +kernel
theorem dX8_isWithin_5 : decode cX8_isWithin 5 = .ok (.iload_n 0, 1) := by decide +kernel
theorem dX8_isWithin_6 : decode cX8_isWithin 6 = .ok (.iload_n 2, 1) := by decide +kernel
theorem dX8_isWithin_7 : decode cX8_isWithin 7 = .ok (.if_icmp .gt 7, 3) := by decide +kernel
theorem dX8_isWithin_10 : decode cX8_isWithin 10 = .ok (.iconst 1, 1) := by decide +kernel
theorem dX8_isWithin_11 : decode cX8_isWithin 11 = .ok (.goto 4, 3) := by decide +kernel
theorem dX8_isWithin_14 : decode cX8_isWithin 14 = .ok (.iconst 0, 1) := by decide +kernel
theorem dX8_isWithin_15 : decode cX8_isWithin 15 = .ok (.ireturn, 1) := by decide +kernel
theorem dX8_boatAt_0 : decode cX8_boatAt 0 = .ok (.iload_n 1, 1) := by decide +kernel
theorem dX8_boatAt_1 : decode cX8_boatAt 1 = .ok (.iconst 0, 1) := by decide +kernel
theorem dX8_boatAt_2 : decode cX8_boatAt 2 = .ok (.bipush 11, 2) := by decide +kernel
theorem dX8_boatAt_4 : decode cX8_boatAt 4 = .ok (.invokestatic 74, 3) := by decide +kernel
theorem dX8_boatAt_7 : decode cX8_boatAt 7 = .ok (.ifCond .eq 12, 3) := by decide +kernel
theorem dX8_boatAt_10 : decode cX8_boatAt 10 = .ok (.aload_n 0, 1) := by decide +kernel
theorem dX8_boatAt_11 : decode cX8_boatAt 11 = .ok (.getfield 18, 3) := by decide +kernel
theorem dX8_boatAt_14 : decode cX8_boatAt 14 = .ok (.iload_n 1, 1) := by decide +kernel
theorem dX8_boatAt_15 : decode cX8_boatAt 15 = .ok (.aaload, 1) := by decide +kernel
theorem dX8_boatAt_16 : decode cX8_boatAt 16 = .ok (.goto 4, 3) := by decide +kernel
theorem dX8_boatAt_19 : decode cX8_boatAt 19 = .ok (.aconst_null, 1) := by decide +kernel
theorem dX8_boatAt_20 : decode cX8_boatAt 20 = .ok (.areturn, 1) := by decide +kernel
theorem dX8_yardAt_0 : decode cX8_yardAt 0 = .ok (.iload_n 1, 1) := by decide +kernel
theorem dX8_yardAt_1 : decode cX8_yardAt 1 = .ok (.iconst 0, 1) := by decide +kernel
theorem dX8_yardAt_2 : decode cX8_yardAt 2 = .ok (.iconst 3, 1) := by decide +kernel
theorem dX8_yardAt_3 : decode cX8_yardAt 3 = .ok (.invokestatic 74, 3) := by decide +kernel
theorem dX8_yardAt_6 : decode cX8_yardAt 6 = .ok (.ifCond .eq 12, 3) := by decide +kernel
theorem dX8_yardAt_9 : decode cX8_yardAt 9 = .ok (.aload_n 0, 1) := by decide +kernel
theorem dX8_yardAt_10 : decode cX8_yardAt 10 = .ok (.getfield 24, 3) := by decide +kernel
theorem dX8_yardAt_13 : decode cX8_yardAt 13 = .ok (.iload_n 1, 1) := by decide +kernel
theorem dX8_yardAt_14 : decode cX8_yardAt 14 = .ok (.aaload, 1) := by decide +kernel
theorem dX8_yardAt_15 : decode cX8_yardAt 15 = .ok (.goto 4, 3) := by decide +kernel
theorem dX8_yardAt_18 : decode cX8_yardAt 18 = .ok (.aconst_null, 1) := by decide +kernel
theorem dX8_yardAt_19 : decode cX8_yardAt 19 = .ok (.areturn, 1) := by decide +kernel
theorem dX8_lotAt_0 : decode cX8_lotAt 0 = .ok (.iload_n 1, 1) := by decide +kernel
theorem dX8_lotAt_1 : decode cX8_lotAt 1 = .ok (.iconst 0, 1) := by decide +kernel
theorem dX8_lotAt_2 : decode cX8_lotAt 2 = .ok (.sipush 399, 3) := by decide +kernel
theorem dX8_lotAt_5 : decode cX8_lotAt 5 = .ok (.invokestatic 74, 3) := by decide +kernel
theorem dX8_lotAt_8 : decode cX8_lotAt 8 = .ok (.ifCond .eq 12, 3) := by decide +kernel
theorem dX8_lotAt_11 : decode cX8_lotAt 11 = .ok (.aload_n 0, 1) := by decide +kernel
theorem dX8_lotAt_12 : decode cX8_lotAt 12 = .ok (.getfield 30, 3) := by decide +kernel
theorem dX8_lotAt_15 : decode cX8_lotAt 15 = .ok (.iload_n 1, 1) := by decide +kernel
theorem dX8_lotAt_16 : decode cX8_lotAt 16 = .ok (.aaload, 1) := by decide +kernel
theorem dX8_lotAt_17 : decode cX8_lotAt 17 = .ok (.goto 4, 3) := by decide +kernel
theorem dX8_lotAt_20 : decode cX8_lotAt 20 = .ok (.aconst_null, 1) := by decide +kernel
theorem dX8_lotAt_21 : decode cX8_lotAt 21 = .ok (.areturn, 1) := by decide +kernel
theorem dX8_textAt_0 : decode cX8_textAt 0 = .ok (.iload_n 1, 1) := by decide +kernel
theorem dX8_textAt_1 : decode cX8_textAt 1 = .ok (.iconst 0, 1) := by decide +kernel
theorem dX8_textAt_2 : decode cX8_textAt 2 = .ok (.iconst 3, 1) := by decide +kernel
theorem dX8_textAt_3 : decode cX8_textAt 3 = .ok (.invokestatic 74, 3) := by decide +kernel
theorem dX8_textAt_6 : decode cX8_textAt 6 = .ok (.ifCond .eq 12, 3) := by decide +kernel
theorem dX8_textAt_9 : decode cX8_textAt 9 = .ok (.aload_n 0, 1) := by decide +kernel
theorem dX8_textAt_10 : decode cX8_textAt 10 = .ok (.getfield 41, 3) := by decide +kernel
theorem dX8_textAt_13 : decode cX8_textAt 13 = .ok (.iload_n 1, 1) := by decide +kernel
theorem dX8_textAt_14 : decode cX8_textAt 14 = .ok (.aaload, 1) := by decide +kernel
theorem dX8_textAt_15 : decode cX8_textAt 15 = .ok (.goto 4, 3) := by decide +kernel
theorem dX8_textAt_18 : decode cX8_textAt 18 = .ok (.aconst_null, 1) := by decide +kernel
theorem dX8_textAt_19 : decode cX8_textAt 19 = .ok (.areturn, 1) := by decide +kernel
theorem dX8_owedInAll_0 : decode cX8_owedInAll 0 = .ok (.iconst 0, 1) := by decide +kernel
theorem dX8_owedInAll_1 : decode cX8_owedInAll 1 = .ok (.istore_n 1, 1) := by decide +kernel
theorem dX8_owedInAll_2 : decode cX8_owedInAll 2 = .ok (.iconst 0, 1) := by decide +kernel
theorem dX8_owedInAll_3 : decode cX8_owedInAll 3 = .ok (.istore_n 2, 1) := by decide +kernel
theorem dX8_owedInAll_4 : decode cX8_owedInAll 4 = .ok (.iload_n 2, 1) := by decide +kernel
theorem dX8_owedInAll_5 : decode cX8_owedInAll 5 = .ok (.aload_n 0, 1) := by decide +kernel
theorem dX8_owedInAll_6 : decode cX8_owedInAll 6 = .ok (.getfield 89, 3) := by decide +kernel
theorem dX8_owedInAll_9 : decode cX8_owedInAll 9 = .ok (.if_icmp .ge 26, 3) := by decide +kernel
theorem dX8_owedInAll_12 : decode cX8_owedInAll 12 = .ok (.aload_n 0, 1) := by decide +kernel
theorem dX8_owedInAll_13 : decode cX8_owedInAll 13 = .ok (.iload_n 2, 1) := by decide +kernel
theorem dX8_owedInAll_14 : decode cX8_owedInAll 14 = .ok (.invokevirtual 95, 3) := by decide +kernel
theorem dX8_owedInAll_17 : decode cX8_owedInAll 17 = .ok (.astore_n 3, 1) := by decide +kernel
theorem dX8_owedInAll_18 : decode cX8_owedInAll 18 = .ok (.aload_n 3, 1) := by decide +kernel
theorem dX8_owedInAll_19 : decode cX8_owedInAll 19 = .ok (.ifnull 10, 3) := by decide +kernel
theorem dX8_owedInAll_22 : decode cX8_owedInAll 22 = .ok (.iload_n 1, 1) := by decide +kernel
theorem dX8_owedInAll_23 : decode cX8_owedInAll 23 = .ok (.aload_n 3, 1) := by decide +kernel
theorem dX8_owedInAll_24 : decode cX8_owedInAll 24 = .ok (.getfield 177, 3) := by decide +kernel
theorem dX8_owedInAll_27 : decode cX8_owedInAll 27 = .ok (.iadd, 1) := by decide +kernel
theorem dX8_owedInAll_28 : decode cX8_owedInAll 28 = .ok (.istore_n 1, 1) := by decide +kernel
theorem dX8_owedInAll_29 : decode cX8_owedInAll 29 = .ok (.iinc 2 1, 3) := by decide +kernel
theorem dX8_owedInAll_32 : decode cX8_owedInAll 32 = .ok (.goto (-28), 3) := by decide +kernel
theorem dX8_owedInAll_35 : decode cX8_owedInAll 35 = .ok (.iload_n 1, 1) := by decide +kernel
theorem dX8_owedInAll_36 : decode cX8_owedInAll 36 = .ok (.ireturn, 1) := by decide +kernel
theorem dX8_beginNight_0 : decode cX8_beginNight 0 = .ok (.iconst 0, 1) := by decide +kernel
theorem dX8_beginNight_1 : decode cX8_beginNight 1 = .ok (.istore_n 2, 1) := by decide +kernel
theorem dX8_beginNight_2 : decode cX8_beginNight 2 = .ok (.iload_n 2, 1) := by decide +kernel
theorem dX8_beginNight_3 : decode cX8_beginNight 3 = .ok (.aload_n 0, 1) := by decide +kernel
theorem dX8_beginNight_4 : decode cX8_beginNight 4 = .ok (.getfield 89, 3) := by decide +kernel
theorem dX8_beginNight_7 : decode cX8_beginNight 7 = .ok (.if_icmp .ge 40, 3) := by decide +kernel
theorem dX8_beginNight_10 : decode cX8_beginNight 10 = .ok (.aload_n 0, 1) := by decide +kernel
theorem dX8_beginNight_11 : decode cX8_beginNight 11 = .ok (.iload_n 2, 1) := by decide +kernel
theorem dX8_beginNight_12 : decode cX8_beginNight 12 = .ok (.invokevirtual 95, 3) := by decide +kernel
theorem dX8_beginNight_15 : decode cX8_beginNight 15 = .ok (.astore_n 3, 1) := by decide +kernel
theorem dX8_beginNight_16 : decode cX8_beginNight 16 = .ok (.aload_n 3, 1) := by decide +kernel
theorem dX8_beginNight_17 : decode cX8_beginNight 17 = .ok (.ifnull 24, 3) := by decide +kernel
theorem dX8_beginNight_20 : decode cX8_beginNight 20 = .ok (.aload_n 3, 1) := by decide +kernel
theorem dX8_beginNight_21 : decode cX8_beginNight 21 = .ok (.iconst 0, 1) := by decide +kernel
theorem dX8_beginNight_22 : decode cX8_beginNight 22 = .ok (.putfield 204, 3) := by decide +kernel
theorem dX8_beginNight_25 : decode cX8_beginNight 25 = .ok (.aload_n 0, 1) := by decide +kernel
theorem dX8_beginNight_26 : decode cX8_beginNight 26 = .ok (.aload_n 3, 1) := by decide +kernel
theorem dX8_beginNight_27 : decode cX8_beginNight 27 = .ok (.getfield 99, 3) := by decide +kernel
theorem dX8_beginNight_30 : decode cX8_beginNight 30 = .ok (.iload_n 1, 1) := by decide +kernel
theorem dX8_beginNight_31 : decode cX8_beginNight 31 = .ok (.invokevirtual 257, 3) := by decide +kernel
theorem dX8_beginNight_34 : decode cX8_beginNight 34 = .ok (.ifCond .eq 7, 3) := by decide +kernel
theorem dX8_beginNight_37 : decode cX8_beginNight 37 = .ok (.aload_n 3, 1) := by decide +kernel
theorem dX8_beginNight_38 : decode cX8_beginNight 38 = .ok (.invokevirtual 261, 3) := by decide +kernel
theorem dX8_beginNight_41 : decode cX8_beginNight 41 = .ok (.iinc 2 1, 3) := by decide +kernel
theorem dX8_beginNight_44 : decode cX8_beginNight 44 = .ok (.goto (-42), 3) := by decide +kernel
theorem dX8_beginNight_47 : decode cX8_beginNight 47 = .ok (.iconst 0, 1) := by decide +kernel
theorem dX8_beginNight_48 : decode cX8_beginNight 48 = .ok (.istore_n 2, 1) := by decide +kernel
theorem dX8_beginNight_49 : decode cX8_beginNight 49 = .ok (.iload_n 2, 1) := by decide +kernel
theorem dX8_beginNight_50 : decode cX8_beginNight 50 = .ok (.aload_n 0, 1) := by decide +kernel
theorem dX8_beginNight_51 : decode cX8_beginNight 51 = .ok (.getfield 105, 3) := by decide +kernel
theorem dX8_beginNight_54 : decode cX8_beginNight 54 = .ok (.if_icmp .ge 23, 3) := by decide +kernel
theorem dX8_beginNight_57 : decode cX8_beginNight 57 = .ok (.aload_n 0, 1) := by decide +kernel
theorem dX8_beginNight_58 : decode cX8_beginNight 58 = .ok (.iload_n 2, 1) := by decide +kernel
theorem dX8_beginNight_59 : decode cX8_beginNight 59 = .ok (.invokevirtual 111, 3) := by decide +kernel
theorem dX8_beginNight_62 : decode cX8_beginNight 62 = .ok (.astore_n 3, 1) := by decide +kernel
theorem dX8_beginNight_63 : decode cX8_beginNight 63 = .ok (.aload_n 3, 1) := by decide +kernel
theorem dX8_beginNight_64 : decode cX8_beginNight 64 = .ok (.ifnull 7, 3) := by decide +kernel
theorem dX8_beginNight_67 : decode cX8_beginNight 67 = .ok (.aload_n 3, 1) := by decide +kernel
theorem dX8_beginNight_68 : decode cX8_beginNight 68 = .ok (.invokevirtual 264, 3) := by decide +kernel
theorem dX8_beginNight_71 : decode cX8_beginNight 71 = .ok (.iinc 2 1, 3) := by decide +kernel
theorem dX8_beginNight_74 : decode cX8_beginNight 74 = .ok (.goto (-25), 3) := by decide +kernel
theorem dX8_beginNight_77 : decode cX8_beginNight 77 = .ok (.return_, 1) := by decide +kernel
theorem dX8_isStormy_0 : decode cX8_isStormy 0 = .ok (.iload_n 2, 1) := by decide +kernel
theorem dX8_isStormy_1 : decode cX8_isStormy 1 = .ok (.ifCond .eq 26, 3) := by decide +kernel
theorem dX8_isStormy_4 : decode cX8_isStormy 4 = .ok (.iload_n 1, 1) := by decide +kernel
theorem dX8_isStormy_5 : decode cX8_isStormy 5 = .ok (.invokestatic 70, 3) := by decide +kernel
theorem dX8_isStormy_8 : decode cX8_isStormy 8 = .ok (.ifCond .eq 19, 3) := by decide +kernel
theorem dX8_isStormy_11 : decode cX8_isStormy 11 = .ok (.aload_n 0, 1) := by decide +kernel
theorem dX8_isStormy_12 : decode cX8_isStormy 12 = .ok (.getfield 12, 3) := by decide +kernel
theorem dX8_isStormy_15 : decode cX8_isStormy 15 = .ok (.getfield 82, 3) := by decide +kernel
theorem dX8_isStormy_18 : decode cX8_isStormy 18 = .ok (.iload_n 1, 1) := by decide +kernel
theorem dX8_isStormy_19 : decode cX8_isStormy 19 = .ok (.baload, 1) := by decide +kernel
theorem dX8_isStormy_20 : decode cX8_isStormy 20 = .ok (.ifCond .eq 7, 3) := by decide +kernel
theorem dX8_isStormy_23 : decode cX8_isStormy 23 = .ok (.iconst 1, 1) := by decide +kernel
theorem dX8_isStormy_24 : decode cX8_isStormy 24 = .ok (.goto 4, 3) := by decide +kernel
theorem dX8_isStormy_27 : decode cX8_isStormy 27 = .ok (.iconst 0, 1) := by decide +kernel
theorem dX8_isStormy_28 : decode cX8_isStormy 28 = .ok (.ireturn, 1) := by decide +kernel
theorem dX8_haulEverywhere_0 : decode cX8_haulEverywhere 0 = .ok (.iconst 0, 1) := by decide +kernel
theorem dX8_haulEverywhere_1 : decode cX8_haulEverywhere 1 = .ok (.istore_n 2, 1) := by decide +kernel
theorem dX8_haulEverywhere_2 : decode cX8_haulEverywhere 2 = .ok (.iconst 0, 1) := by decide +kernel
theorem dX8_haulEverywhere_3 : decode cX8_haulEverywhere 3 = .ok (.istore_n 3, 1) := by decide +kernel
theorem dX8_haulEverywhere_4 : decode cX8_haulEverywhere 4 = .ok (.iload_n 3, 1) := by decide +kernel
theorem dX8_haulEverywhere_5 : decode cX8_haulEverywhere 5 = .ok (.bipush 36, 2) := by decide +kernel
theorem dX8_haulEverywhere_7 : decode cX8_haulEverywhere 7 = .ok (.if_icmp .ge 26, 3) := by decide +kernel
theorem dX8_haulEverywhere_10 : decode cX8_haulEverywhere 10 = .ok (.aload_n 0, 1) := by decide +kernel
theorem dX8_haulEverywhere_11 : decode cX8_haulEverywhere 11 = .ok (.iload_n 3, 1) := by decide +kernel
theorem dX8_haulEverywhere_12 : decode cX8_haulEverywhere 12 = .ok (.iload_n 1, 1) := by decide +kernel
theorem dX8_haulEverywhere_13 : decode cX8_haulEverywhere 13 = .ok (.invokevirtual 257, 3) := by decide +kernel
theorem dX8_haulEverywhere_16 : decode cX8_haulEverywhere 16 = .ok (.ifCond .ne 11, 3) := by decide +kernel
theorem dX8_haulEverywhere_19 : decode cX8_haulEverywhere 19 = .ok (.iload_n 2, 1) := by decide +kernel
theorem dX8_haulEverywhere_20 : decode cX8_haulEverywhere 20 = .ok (.aload_n 0, 1) := by decide +kernel
theorem dX8_haulEverywhere_21 : decode cX8_haulEverywhere 21 = .ok (.iload_n 3, 1) := by decide +kernel
theorem dX8_haulEverywhere_22 : decode cX8_haulEverywhere 22 = .ok (.invokevirtual 267, 3) := by decide +kernel
theorem dX8_haulEverywhere_25 : decode cX8_haulEverywhere 25 = .ok (.iadd, 1) := by decide +kernel
theorem dX8_haulEverywhere_26 : decode cX8_haulEverywhere 26 = .ok (.istore_n 2, 1) := by decide +kernel
theorem dX8_haulEverywhere_27 : decode cX8_haulEverywhere 27 = .ok (.iinc 3 1, 3) := by decide +kernel
theorem dX8_haulEverywhere_30 : decode cX8_haulEverywhere 30 = .ok (.goto (-26), 3) := by decide +kernel
theorem dX8_haulEverywhere_33 : decode cX8_haulEverywhere 33 = .ok (.aload_n 0, 1) := by decide +kernel
theorem dX8_haulEverywhere_34 : decode cX8_haulEverywhere 34 = .ok (.dup, 1) := by decide +kernel
theorem dX8_haulEverywhere_35 : decode cX8_haulEverywhere 35 = .ok (.getfield 241, 3) := by decide +kernel
theorem dX8_haulEverywhere_38 : decode cX8_haulEverywhere 38 = .ok (.iload_n 2, 1) := by decide +kernel
theorem dX8_haulEverywhere_39 : decode cX8_haulEverywhere 39 = .ok (.iadd, 1) := by decide +kernel
theorem dX8_haulEverywhere_40 : decode cX8_haulEverywhere 40 = .ok (.putfield 241, 3) := by decide +kernel
theorem dX8_haulEverywhere_43 : decode cX8_haulEverywhere 43 = .ok (.iload_n 2, 1) := by decide +kernel
theorem dX8_haulEverywhere_44 : decode cX8_haulEverywhere 44 = .ok (.ireturn, 1) := by decide +kernel
theorem dX8_haulIn_0 : decode cX8_haulIn 0 = .ok (.aload_n 0, 1) := by decide +kernel
theorem dX8_haulIn_1 : decode cX8_haulIn 1 = .ok (.getfield 48, 3) := by decide +kernel
theorem dX8_haulIn_4 : decode cX8_haulIn 4 = .ok (.invokevirtual 180, 3) := by decide +kernel
theorem dX8_haulIn_7 : decode cX8_haulIn 7 = .ok (.iconst 0, 1) := by decide +kernel
theorem dX8_haulIn_8 : decode cX8_haulIn 8 = .ok (.istore_n 2, 1) := by decide +kernel
theorem dX8_haulIn_9 : decode cX8_haulIn 9 = .ok (.iload_n 2, 1) := by decide +kernel
theorem dX8_haulIn_10 : decode cX8_haulIn 10 = .ok (.aload_n 0, 1) := by decide +kernel
theorem dX8_haulIn_11 : decode cX8_haulIn 11 = .ok (.getfield 89, 3) := by decide +kernel
theorem dX8_haulIn_14 : decode cX8_haulIn 14 = .ok (.if_icmp .ge 39, 3) := by decide +kernel
theorem dX8_haulIn_17 : decode cX8_haulIn 17 = .ok (.aload_n 0, 1) := by decide +kernel
theorem dX8_haulIn_18 : decode cX8_haulIn 18 = .ok (.iload_n 2, 1) := by decide +kernel
theorem dX8_haulIn_19 : decode cX8_haulIn 19 = .ok (.invokevirtual 95, 3) := by decide +kernel
theorem dX8_haulIn_22 : decode cX8_haulIn 22 = .ok (.astore_n 3, 1) := by decide +kernel
theorem dX8_haulIn_23 : decode cX8_haulIn 23 = .ok (.aload_n 3, 1) := by decide +kernel
theorem dX8_haulIn_24 : decode cX8_haulIn 24 = .ok (.ifnull 23, 3) := by decide +kernel
theorem dX8_haulIn_27 : decode cX8_haulIn 27 = .ok (.aload_n 3, 1) := by decide +kernel
theorem dX8_haulIn_28 : decode cX8_haulIn 28 = .ok (.getfield 99, 3) := by decide +kernel
theorem dX8_haulIn_31 : decode cX8_haulIn 31 = .ok (.iload_n 1, 1) := by decide +kernel
theorem dX8_haulIn_32 : decode cX8_haulIn 32 = .ok (.if_icmp .ne 15, 3) := by decide +kernel
theorem dX8_haulIn_35 : decode cX8_haulIn 35 = .ok (.aload_n 0, 1) := by decide +kernel
theorem dX8_haulIn_36 : decode cX8_haulIn 36 = .ok (.getfield 48, 3) := by decide +kernel
theorem dX8_haulIn_39 : decode cX8_haulIn 39 = .ok (.iload_n 2, 1) := by decide +kernel
theorem dX8_haulIn_40 : decode cX8_haulIn 40 = .ok (.aload_n 3, 1) := by decide +kernel
theorem dX8_haulIn_41 : decode cX8_haulIn 41 = .ok (.getfield 102, 3) := by decide +kernel
theorem dX8_haulIn_44 : decode cX8_haulIn 44 = .ok (.invokevirtual 183, 3) := by decide +kernel
theorem dX8_haulIn_47 : decode cX8_haulIn 47 = .ok (.iinc 2 1, 3) := by decide +kernel
theorem dX8_haulIn_50 : decode cX8_haulIn 50 = .ok (.goto (-41), 3) := by decide +kernel
theorem dX8_haulIn_53 : decode cX8_haulIn 53 = .ok (.iconst 2, 1) := by decide +kernel
theorem dX8_haulIn_54 : decode cX8_haulIn 54 = .ok (.aload_n 0, 1) := by decide +kernel
theorem dX8_haulIn_55 : decode cX8_haulIn 55 = .ok (.getfield 48, 3) := by decide +kernel
theorem dX8_haulIn_58 : decode cX8_haulIn 58 = .ok (.getfield 186, 3) := by decide +kernel
theorem dX8_haulIn_61 : decode cX8_haulIn 61 = .ok (.imul, 1) := by decide +kernel
theorem dX8_haulIn_62 : decode cX8_haulIn 62 = .ok (.aload_n 0, 1) := by decide +kernel
theorem dX8_haulIn_63 : decode cX8_haulIn 63 = .ok (.getfield 12, 3) := by decide +kernel
theorem dX8_haulIn_66 : decode cX8_haulIn 66 = .ok (.getfield 78, 3) := by decide +kernel
theorem dX8_haulIn_69 : decode cX8_haulIn 69 = .ok (.iload_n 1, 1) := by decide +kernel
theorem dX8_haulIn_70 : decode cX8_haulIn 70 = .ok (.iaload, 1) := by decide +kernel
theorem dX8_haulIn_71 : decode cX8_haulIn 71 = .ok (.invokestatic 270, 3) := by decide +kernel
theorem dX8_haulIn_74 : decode cX8_haulIn 74 = .ok (.istore_n 2, 1) := by decide +kernel
theorem dX8_haulIn_75 : decode cX8_haulIn 75 = .ok (.iload_n 2, 1) := by decide +kernel
theorem dX8_haulIn_76 : decode cX8_haulIn 76 = .ok (.ifCond .ne 5, 3) := by decide +kernel
theorem dX8_haulIn_79 : decode cX8_haulIn 79 = .ok (.iconst 0, 1) := by decide +kernel
theorem dX8_haulIn_80 : decode cX8_haulIn 80 = .ok (.ireturn, 1) := by decide +kernel
theorem dX8_haulIn_81 : decode cX8_haulIn 81 = .ok (.aload_n 0, 1) := by decide +kernel
theorem dX8_haulIn_82 : decode cX8_haulIn 82 = .ok (.getfield 48, 3) := by decide +kernel
theorem dX8_haulIn_85 : decode cX8_haulIn 85 = .ok (.iload_n 2, 1) := by decide +kernel
theorem dX8_haulIn_86 : decode cX8_haulIn 86 = .ok (.invokevirtual 189, 3) := by decide +kernel
theorem dX8_haulIn_89 : decode cX8_haulIn 89 = .ok (.iconst 0, 1) := by decide +kernel
theorem dX8_haulIn_90 : decode cX8_haulIn 90 = .ok (.istore_n 3, 1) := by decide +kernel
theorem dX8_haulIn_91 : decode cX8_haulIn 91 = .ok (.iload_n 3, 1) := by decide +kernel
theorem dX8_haulIn_92 : decode cX8_haulIn 92 = .ok (.aload_n 0, 1) := by decide +kernel
theorem dX8_haulIn_93 : decode cX8_haulIn 93 = .ok (.getfield 89, 3) := by decide +kernel
theorem dX8_haulIn_96 : decode cX8_haulIn 96 = .ok (.if_icmp .ge 35, 3) := by decide +kernel
theorem dX8_haulIn_99 : decode cX8_haulIn 99 = .ok (.aload_n 0, 1) := by decide +kernel
theorem dX8_haulIn_100 : decode cX8_haulIn 100 = .ok (.iload_n 3, 1) := by decide +kernel
theorem dX8_haulIn_101 : decode cX8_haulIn 101 = .ok (.invokevirtual 95, 3) := by decide +kernel
theorem dX8_haulIn_104 : decode cX8_haulIn 104 = .ok (.astore 4, 2) := by decide +kernel
theorem dX8_haulIn_106 : decode cX8_haulIn 106 = .ok (.aload 4, 2) := by decide +kernel
theorem dX8_haulIn_108 : decode cX8_haulIn 108 = .ok (.ifnull 17, 3) := by decide +kernel
theorem dX8_haulIn_111 : decode cX8_haulIn 111 = .ok (.aload 4, 2) := by decide +kernel
theorem dX8_haulIn_113 : decode cX8_haulIn 113 = .ok (.aload_n 0, 1) := by decide +kernel
theorem dX8_haulIn_114 : decode cX8_haulIn 114 = .ok (.getfield 48, 3) := by decide +kernel
theorem dX8_haulIn_117 : decode cX8_haulIn 117 = .ok (.getfield 195, 3) := by decide +kernel
theorem dX8_haulIn_120 : decode cX8_haulIn 120 = .ok (.iload_n 3, 1) := by decide +kernel
theorem dX8_haulIn_121 : decode cX8_haulIn 121 = .ok (.iaload, 1) := by decide +kernel
theorem dX8_haulIn_122 : decode cX8_haulIn 122 = .ok (.invokevirtual 276, 3) := by decide +kernel
theorem dX8_haulIn_125 : decode cX8_haulIn 125 = .ok (.iinc 3 1, 3) := by decide +kernel
theorem dX8_haulIn_128 : decode cX8_haulIn 128 = .ok (.goto (-37), 3) := by decide +kernel
theorem dX8_haulIn_131 : decode cX8_haulIn 131 = .ok (.aload_n 0, 1) := by decide +kernel
theorem dX8_haulIn_132 : decode cX8_haulIn 132 = .ok (.getfield 12, 3) := by decide +kernel
theorem dX8_haulIn_135 : decode cX8_haulIn 135 = .ok (.getfield 78, 3) := by decide +kernel
theorem dX8_haulIn_138 : decode cX8_haulIn 138 = .ok (.iload_n 1, 1) := by decide +kernel
theorem dX8_haulIn_139 : decode cX8_haulIn 139 = .ok (.dup2, 1) := by decide +kernel
theorem dX8_haulIn_140 : decode cX8_haulIn 140 = .ok (.iaload, 1) := by decide +kernel
theorem dX8_haulIn_141 : decode cX8_haulIn 141 = .ok (.iload_n 2, 1) := by decide +kernel
theorem dX8_haulIn_142 : decode cX8_haulIn 142 = .ok (.isub, 1) := by decide +kernel
theorem dX8_haulIn_143 : decode cX8_haulIn 143 = .ok (.iastore, 1) := by decide +kernel
theorem dX8_haulIn_144 : decode cX8_haulIn 144 = .ok (.iload_n 2, 1) := by decide +kernel
theorem dX8_haulIn_145 : decode cX8_haulIn 145 = .ok (.ireturn, 1) := by decide +kernel
theorem dX8_sellAllCatches_0 : decode cX8_sellAllCatches 0 = .ok (.iconst 0, 1) := by decide +kernel
theorem dX8_sellAllCatches_1 : decode cX8_sellAllCatches 1 = .ok (.istore_n 1, 1) := by decide +kernel
theorem dX8_sellAllCatches_2 : decode cX8_sellAllCatches 2 = .ok (.iload_n 1, 1) := by decide +kernel
theorem dX8_sellAllCatches_3 : decode cX8_sellAllCatches 3 = .ok (.bipush 10, 2) := by decide +kernel
theorem dX8_sellAllCatches_5 : decode cX8_sellAllCatches 5 = .ok (.if_icmp .gt 65, 3) := by decide +kernel
theorem dX8_sellAllCatches_8 : decode cX8_sellAllCatches 8 = .ok (.iconst 0, 1) := by decide +kernel
theorem dX8_sellAllCatches_9 : decode cX8_sellAllCatches 9 = .ok (.istore_n 2, 1) := by decide +kernel
theorem dX8_sellAllCatches_10 : decode cX8_sellAllCatches 10 = .ok (.iload_n 2, 1) := by decide +kernel
theorem dX8_sellAllCatches_11 : decode cX8_sellAllCatches 11 = .ok (.aload_n 0, 1) := by decide +kernel
theorem dX8_sellAllCatches_12 : decode cX8_sellAllCatches 12 = .ok (.getfield 89, 3) := by decide +kernel
theorem dX8_sellAllCatches_15 : decode cX8_sellAllCatches 15 = .ok (.if_icmp .ge 49, 3) := by decide +kernel
theorem dX8_sellAllCatches_18 : decode cX8_sellAllCatches 18 = .ok (.aload_n 0, 1) := by decide +kernel
theorem dX8_sellAllCatches_19 : decode cX8_sellAllCatches 19 = .ok (.iload_n 2, 1) := by decide +kernel
theorem dX8_sellAllCatches_20 : decode cX8_sellAllCatches 20 = .ok (.invokevirtual 95, 3) := by decide +kernel
theorem dX8_sellAllCatches_23 : decode cX8_sellAllCatches 23 = .ok (.astore_n 3, 1) := by decide +kernel
theorem dX8_sellAllCatches_24 : decode cX8_sellAllCatches 24 = .ok (.aload_n 3, 1) := by decide +kernel
theorem dX8_sellAllCatches_25 : decode cX8_sellAllCatches 25 = .ok (.ifnull 33, 3) := by decide +kernel
theorem dX8_sellAllCatches_28 : decode cX8_sellAllCatches 28 = .ok (.aload_n 3, 1) := by decide +kernel
theorem dX8_sellAllCatches_29 : decode cX8_sellAllCatches 29 = .ok (.getfield 204, 3) := by decide +kernel
theorem dX8_sellAllCatches_32 : decode cX8_sellAllCatches 32 = .ok (.ifCond .le 26, 3) := by decide +kernel
theorem dX8_sellAllCatches_35 : decode cX8_sellAllCatches 35 = .ok (.aload_n 3, 1) := by decide +kernel
theorem dX8_sellAllCatches_36 : decode cX8_sellAllCatches 36 = .ok (.getfield 99, 3) := by decide +kernel
theorem dX8_sellAllCatches_39 : decode cX8_sellAllCatches 39 = .ok (.invokestatic 279, 3) := by decide +kernel
theorem dX8_sellAllCatches_42 : decode cX8_sellAllCatches 42 = .ok (.iload_n 1, 1) := by decide +kernel
theorem dX8_sellAllCatches_43 : decode cX8_sellAllCatches 43 = .ok (.if_icmp .ne 15, 3) := by decide +kernel
theorem dX8_sellAllCatches_46 : decode cX8_sellAllCatches 46 = .ok (.aload_n 0, 1) := by decide +kernel
theorem dX8_sellAllCatches_47 : decode cX8_sellAllCatches 47 = .ok (.iload_n 2, 1) := by decide +kernel
theorem dX8_sellAllCatches_48 : decode cX8_sellAllCatches 48 = .ok (.aload_n 3, 1) := by decide +kernel
theorem dX8_sellAllCatches_49 : decode cX8_sellAllCatches 49 = .ok (.bipush 30, 2) := by decide +kernel
theorem dX8_sellAllCatches_51 : decode cX8_sellAllCatches 51 = .ok (.iload_n 1, 1) := by decide +kernel
theorem dX8_sellAllCatches_52 : decode cX8_sellAllCatches 52 = .ok (.iconst 1, 1) := by decide +kernel
theorem dX8_sellAllCatches_53 : decode cX8_sellAllCatches 53 = .ok (.iadd, 1) := by decide +kernel
theorem dX8_sellAllCatches_54 : decode cX8_sellAllCatches 54 = .ok (.imul, 1) := by decide +kernel
theorem dX8_sellAllCatches_55 : decode cX8_sellAllCatches 55 = .ok (.invokevirtual 282, 3) := by decide +kernel
theorem dX8_sellAllCatches_58 : decode cX8_sellAllCatches 58 = .ok (.iinc 2 1, 3) := by decide +kernel
theorem dX8_sellAllCatches_61 : decode cX8_sellAllCatches 61 = .ok (.goto (-51), 3) := by decide +kernel
theorem dX8_sellAllCatches_64 : decode cX8_sellAllCatches 64 = .ok (.iinc 1 1, 3) := by decide +kernel
theorem dX8_sellAllCatches_67 : decode cX8_sellAllCatches 67 = .ok (.goto (-65), 3) := by decide +kernel
theorem dX8_sellAllCatches_70 : decode cX8_sellAllCatches 70 = .ok (.return_, 1) := by decide +kernel
theorem dX8_sellCatch_0 : decode cX8_sellCatch 0 = .ok (.aload_n 2, 1) := by decide +kernel
theorem dX8_sellCatch_1 : decode cX8_sellCatch 1 = .ok (.getfield 204, 3) := by decide +kernel
theorem dX8_sellCatch_4 : decode cX8_sellCatch 4 = .ok (.istore 4, 2) := by decide +kernel
theorem dX8_sellCatch_6 : decode cX8_sellCatch 6 = .ok (.iconst 0, 1) := by decide +kernel
theorem dX8_sellCatch_7 : decode cX8_sellCatch 7 = .ok (.istore 5, 2) := by decide +kernel
theorem dX8_sellCatch_9 : decode cX8_sellCatch 9 = .ok (.iload 5, 2) := by decide +kernel
theorem dX8_sellCatch_11 : decode cX8_sellCatch 11 = .ok (.iconst 4, 1) := by decide +kernel
theorem dX8_sellCatch_12 : decode cX8_sellCatch 12 = .ok (.if_icmp .ge 139, 3) := by decide +kernel
theorem dX8_sellCatch_15 : decode cX8_sellCatch 15 = .ok (.iload 4, 2) := by decide +kernel
theorem dX8_sellCatch_17 : decode cX8_sellCatch 17 = .ok (.ifCond .le 134, 3) := by decide +kernel
theorem dX8_sellCatch_20 : decode cX8_sellCatch 20 = .ok (.aload_n 0, 1) := by decide +kernel
theorem dX8_sellCatch_21 : decode cX8_sellCatch 21 = .ok (.invokevirtual 286, 3) := by decide +kernel
theorem dX8_sellCatch_24 : decode cX8_sellCatch 24 = .ok (.istore 6, 2) := by decide +kernel
theorem dX8_sellCatch_26 : decode cX8_sellCatch 26 = .ok (.aload_n 0, 1) := by decide +kernel
theorem dX8_sellCatch_27 : decode cX8_sellCatch 27 = .ok (.iload 6, 2) := by decide +kernel
theorem dX8_sellCatch_29 : decode cX8_sellCatch 29 = .ok (.invokevirtual 111, 3) := by decide +kernel
theorem dX8_sellCatch_32 : decode cX8_sellCatch 32 = .ok (.astore 7, 2) := by decide +kernel
theorem dX8_sellCatch_34 : decode cX8_sellCatch 34 = .ok (.aload 7, 2) := by decide +kernel
theorem dX8_sellCatch_36 : decode cX8_sellCatch 36 = .ok (.ifnull 115, 3) := by decide +kernel
theorem dX8_sellCatch_39 : decode cX8_sellCatch 39 = .ok (.aload_n 0, 1) := by decide +kernel
theorem dX8_sellCatch_40 : decode cX8_sellCatch 40 = .ok (.getfield 121, 3) := by decide +kernel
theorem dX8_sellCatch_43 : decode cX8_sellCatch 43 = .ok (.sipush 400, 3) := by decide +kernel
theorem dX8_sellCatch_46 : decode cX8_sellCatch 46 = .ok (.if_icmp .lt 6, 3) := by decide +kernel
theorem dX8_sellCatch_49 : decode cX8_sellCatch 49 = .ok (.goto 102, 3) := by decide +kernel
theorem dX8_sellCatch_52 : decode cX8_sellCatch 52 = .ok (.iload 4, 2) := by decide +kernel
theorem dX8_sellCatch_54 : decode cX8_sellCatch 54 = .ok (.aload 7, 2) := by decide +kernel
theorem dX8_sellCatch_56 : decode cX8_sellCatch 56 = .ok (.getfield 289, 3) := by decide +kernel
theorem dX8_sellCatch_59 : decode cX8_sellCatch 59 = .ok (.invokestatic 270, 3) := by decide +kernel
theorem dX8_sellCatch_62 : decode cX8_sellCatch 62 = .ok (.istore 8, 2) := by decide +kernel
theorem dX8_sellCatch_64 : decode cX8_sellCatch 64 = .ok (.aload_n 0, 1) := by decide +kernel
theorem dX8_sellCatch_65 : decode cX8_sellCatch 65 = .ok (.getfield 30, 3) := by decide +kernel
theorem dX8_sellCatch_68 : decode cX8_sellCatch 68 = .ok (.aload_n 0, 1) := by decide +kernel
theorem dX8_sellCatch_69 : decode cX8_sellCatch 69 = .ok (.getfield 121, 3) := by decide +kernel
theorem dX8_sellCatch_72 : decode cX8_sellCatch 72 = .ok (.new 28, 3) := by decide +kernel
theorem dX8_sellCatch_75 : decode cX8_sellCatch 75 = .ok (.dup, 1) := by decide +kernel
theorem dX8_sellCatch_76 : decode cX8_sellCatch 76 = .ok (.aload_n 0, 1) := by decide +kernel
theorem dX8_sellCatch_77 : decode cX8_sellCatch 77 = .ok (.getfield 118, 3) := by decide +kernel
theorem dX8_sellCatch_80 : decode cX8_sellCatch 80 = .ok (.iload_n 1, 1) := by decide +kernel
theorem dX8_sellCatch_81 : decode cX8_sellCatch 81 = .ok (.aload_n 2, 1) := by decide +kernel
theorem dX8_sellCatch_82 : decode cX8_sellCatch 82 = .ok (.getfield 99, 3) := by decide +kernel
theorem dX8_sellCatch_85 : decode cX8_sellCatch 85 = .ok (.iload 6, 2) := by decide +kernel
theorem dX8_sellCatch_87 : decode cX8_sellCatch 87 = .ok (.iload 8, 2) := by decide +kernel
theorem dX8_sellCatch_89 : decode cX8_sellCatch 89 = .ok (.iload_n 3, 1) := by decide +kernel
theorem dX8_sellCatch_90 : decode cX8_sellCatch 90 = .ok (.aload 7, 2) := by decide +kernel
theorem dX8_sellCatch_92 : decode cX8_sellCatch 92 = .ok (.getfield 115, 3) := by decide +kernel
theorem dX8_sellCatch_95 : decode cX8_sellCatch 95 = .ok (.invokespecial 292, 3) := by decide +kernel
theorem dX8_sellCatch_98 : decode cX8_sellCatch 98 = .ok (.aastore, 1) := by decide +kernel
theorem dX8_sellCatch_99 : decode cX8_sellCatch 99 = .ok (.aload_n 0, 1) := by decide +kernel
theorem dX8_sellCatch_100 : decode cX8_sellCatch 100 = .ok (.dup, 1) := by decide +kernel
theorem dX8_sellCatch_101 : decode cX8_sellCatch 101 = .ok (.getfield 121, 3) := by decide +kernel
theorem dX8_sellCatch_104 : decode cX8_sellCatch 104 = .ok (.iconst 1, 1) := by decide +kernel
theorem dX8_sellCatch_105 : decode cX8_sellCatch 105 = .ok (.iadd, 1) := by decide +kernel
theorem dX8_sellCatch_106 : decode cX8_sellCatch 106 = .ok (.putfield 121, 3) := by decide +kernel
theorem dX8_sellCatch_109 : decode cX8_sellCatch 109 = .ok (.aload 7, 2) := by decide +kernel
theorem dX8_sellCatch_111 : decode cX8_sellCatch 111 = .ok (.dup, 1) := by decide +kernel
theorem dX8_sellCatch_112 : decode cX8_sellCatch 112 = .ok (.getfield 289, 3) := by decide +kernel
theorem dX8_sellCatch_115 : decode cX8_sellCatch 115 = .ok (.iload 8, 2) := by decide +kernel
theorem dX8_sellCatch_117 : decode cX8_sellCatch 117 = .ok (.isub, 1) := by decide +kernel
theorem dX8_sellCatch_118 : decode cX8_sellCatch 118 = .ok (.putfield 289, 3) := by decide +kernel
theorem dX8_sellCatch_121 : decode cX8_sellCatch 121 = .ok (.aload_n 2, 1) := by decide +kernel
theorem dX8_sellCatch_122 : decode cX8_sellCatch 122 = .ok (.dup, 1) := by decide +kernel
theorem dX8_sellCatch_123 : decode cX8_sellCatch 123 = .ok (.getfield 177, 3) := by decide +kernel
theorem dX8_sellCatch_126 : decode cX8_sellCatch 126 = .ok (.iload 8, 2) := by decide +kernel
theorem dX8_sellCatch_128 : decode cX8_sellCatch 128 = .ok (.aload 7, 2) := by decide +kernel
theorem dX8_sellCatch_130 : decode cX8_sellCatch 130 = .ok (.getfield 115, 3) := by decide +kernel
theorem dX8_sellCatch_133 : decode cX8_sellCatch 133 = .ok (.imul, 1) := by decide +kernel
theorem dX8_sellCatch_134 : decode cX8_sellCatch 134 = .ok (.iadd, 1) := by decide +kernel
theorem dX8_sellCatch_135 : decode cX8_sellCatch 135 = .ok (.putfield 177, 3) := by decide +kernel
theorem dX8_sellCatch_138 : decode cX8_sellCatch 138 = .ok (.iload 4, 2) := by decide +kernel
theorem dX8_sellCatch_140 : decode cX8_sellCatch 140 = .ok (.iload 8, 2) := by decide +kernel
theorem dX8_sellCatch_142 : decode cX8_sellCatch 142 = .ok (.isub, 1) := by decide +kernel
theorem dX8_sellCatch_143 : decode cX8_sellCatch 143 = .ok (.istore 4, 2) := by decide +kernel
theorem dX8_sellCatch_145 : decode cX8_sellCatch 145 = .ok (.iinc 5 1, 3) := by decide +kernel
theorem dX8_sellCatch_148 : decode cX8_sellCatch 148 = .ok (.goto (-139), 3) := by decide +kernel
theorem dX8_sellCatch_151 : decode cX8_sellCatch 151 = .ok (.aload_n 0, 1) := by decide +kernel
theorem dX8_sellCatch_152 : decode cX8_sellCatch 152 = .ok (.dup, 1) := by decide +kernel
theorem dX8_sellCatch_153 : decode cX8_sellCatch 153 = .ok (.getfield 251, 3) := by decide +kernel
theorem dX8_sellCatch_156 : decode cX8_sellCatch 156 = .ok (.iload 4, 2) := by decide +kernel
theorem dX8_sellCatch_158 : decode cX8_sellCatch 158 = .ok (.iadd, 1) := by decide +kernel
theorem dX8_sellCatch_159 : decode cX8_sellCatch 159 = .ok (.putfield 251, 3) := by decide +kernel
theorem dX8_sellCatch_162 : decode cX8_sellCatch 162 = .ok (.return_, 1) := by decide +kernel
theorem dX8_bestBidder_0 : decode cX8_bestBidder 0 = .ok (.iconst (-1), 1) := by decide +kernel
theorem dX8_bestBidder_1 : decode cX8_bestBidder 1 = .ok (.istore_n 1, 1) := by decide +kernel
theorem dX8_bestBidder_2 : decode cX8_bestBidder 2 = .ok (.iconst (-1), 1) := by decide +kernel
theorem dX8_bestBidder_3 : decode cX8_bestBidder 3 = .ok (.istore_n 2, 1) := by decide +kernel
theorem dX8_bestBidder_4 : decode cX8_bestBidder 4 = .ok (.iconst 0, 1) := by decide +kernel
theorem dX8_bestBidder_5 : decode cX8_bestBidder 5 = .ok (.istore_n 3, 1) := by decide +kernel
theorem dX8_bestBidder_6 : decode cX8_bestBidder 6 = .ok (.iload_n 3, 1) := by decide +kernel
theorem dX8_bestBidder_7 : decode cX8_bestBidder 7 = .ok (.aload_n 0, 1) := by decide +kernel
theorem dX8_bestBidder_8 : decode cX8_bestBidder 8 = .ok (.getfield 105, 3) := by decide +kernel
theorem dX8_bestBidder_11 : decode cX8_bestBidder 11 = .ok (.if_icmp .ge 46, 3) := by decide +kernel
theorem dX8_bestBidder_14 : decode cX8_bestBidder 14 = .ok (.aload_n 0, 1) := by decide +kernel
theorem dX8_bestBidder_15 : decode cX8_bestBidder 15 = .ok (.iload_n 3, 1) := by decide +kernel
theorem dX8_bestBidder_16 : decode cX8_bestBidder 16 = .ok (.invokevirtual 111, 3) := by decide +kernel
theorem dX8_bestBidder_19 : decode cX8_bestBidder 19 = .ok (.astore 4, 2) := by decide +kernel
theorem dX8_bestBidder_21 : decode cX8_bestBidder 21 = .ok (.aload 4, 2) := by decide +kernel
theorem dX8_bestBidder_23 : decode cX8_bestBidder 23 = .ok (.ifnull 28, 3) := by decide +kernel
theorem dX8_bestBidder_26 : decode cX8_bestBidder 26 = .ok (.aload 4, 2) := by decide +kernel
theorem dX8_bestBidder_28 : decode cX8_bestBidder 28 = .ok (.getfield 289, 3) := by decide +kernel
theorem dX8_bestBidder_31 : decode cX8_bestBidder 31 = .ok (.ifCond .le 20, 3) := by decide +kernel
theorem dX8_bestBidder_34 : decode cX8_bestBidder 34 = .ok (.aload 4, 2) := by decide +kernel
theorem dX8_bestBidder_36 : decode cX8_bestBidder 36 = .ok (.getfield 115, 3) := by decide +kernel
theorem dX8_bestBidder_39 : decode cX8_bestBidder 39 = .ok (.iload_n 2, 1) := by decide +kernel
theorem dX8_bestBidder_40 : decode cX8_bestBidder 40 = .ok (.if_icmp .le 11, 3) := by decide +kernel
theorem dX8_bestBidder_43 : decode cX8_bestBidder 43 = .ok (.iload_n 3, 1) := by decide +kernel
theorem dX8_bestBidder_44 : decode cX8_bestBidder 44 = .ok (.istore_n 1, 1) := by decide +kernel
theorem dX8_bestBidder_45 : decode cX8_bestBidder 45 = .ok (.aload 4, 2) := by decide +kernel
theorem dX8_bestBidder_47 : decode cX8_bestBidder 47 = .ok (.getfield 115, 3) := by decide +kernel
theorem dX8_bestBidder_50 : decode cX8_bestBidder 50 = .ok (.istore_n 2, 1) := by decide +kernel
theorem dX8_bestBidder_51 : decode cX8_bestBidder 51 = .ok (.iinc 3 1, 3) := by decide +kernel
theorem dX8_bestBidder_54 : decode cX8_bestBidder 54 = .ok (.goto (-48), 3) := by decide +kernel
theorem dX8_bestBidder_57 : decode cX8_bestBidder 57 = .ok (.iload_n 1, 1) := by decide +kernel
theorem dX8_bestBidder_58 : decode cX8_bestBidder 58 = .ok (.ireturn, 1) := by decide +kernel
theorem dX8_gutLotsFrom_0 : decode cX8_gutLotsFrom 0 = .ok (.iload_n 1, 1) := by decide +kernel
theorem dX8_gutLotsFrom_1 : decode cX8_gutLotsFrom 1 = .ok (.istore_n 2, 1) := by decide +kernel
theorem dX8_gutLotsFrom_2 : decode cX8_gutLotsFrom 2 = .ok (.iload_n 2, 1) := by decide +kernel
theorem dX8_gutLotsFrom_3 : decode cX8_gutLotsFrom 3 = .ok (.aload_n 0, 1) := by decide +kernel
theorem dX8_gutLotsFrom_4 : decode cX8_gutLotsFrom 4 = .ok (.getfield 121, 3) := by decide +kernel
theorem dX8_gutLotsFrom_7 : decode cX8_gutLotsFrom 7 = .ok (.if_icmp .ge 24, 3) := by decide +kernel
theorem dX8_gutLotsFrom_10 : decode cX8_gutLotsFrom 10 = .ok (.aload_n 0, 1) := by decide +kernel
theorem dX8_gutLotsFrom_11 : decode cX8_gutLotsFrom 11 = .ok (.iload_n 2, 1) := by decide +kernel
theorem dX8_gutLotsFrom_12 : decode cX8_gutLotsFrom 12 = .ok (.invokevirtual 163, 3) := by decide +kernel
theorem dX8_gutLotsFrom_15 : decode cX8_gutLotsFrom 15 = .ok (.astore_n 3, 1) := by decide +kernel
theorem dX8_gutLotsFrom_16 : decode cX8_gutLotsFrom 16 = .ok (.aload_n 3, 1) := by decide +kernel
theorem dX8_gutLotsFrom_17 : decode cX8_gutLotsFrom 17 = .ok (.ifnull 8, 3) := by decide +kernel
theorem dX8_gutLotsFrom_20 : decode cX8_gutLotsFrom 20 = .ok (.aload_n 0, 1) := by decide +kernel
theorem dX8_gutLotsFrom_21 : decode cX8_gutLotsFrom 21 = .ok (.aload_n 3, 1) := by decide +kernel
theorem dX8_gutLotsFrom_22 : decode cX8_gutLotsFrom 22 = .ok (.invokevirtual 295, 3) := by decide +kernel
theorem dX8_gutLotsFrom_25 : decode cX8_gutLotsFrom 25 = .ok (.iinc 2 1, 3) := by decide +kernel
theorem dX8_gutLotsFrom_28 : decode cX8_gutLotsFrom 28 = .ok (.goto (-26), 3) := by decide +kernel
theorem dX8_gutLotsFrom_31 : decode cX8_gutLotsFrom 31 = .ok (.return_, 1) := by decide +kernel
theorem dX8_gutLot_0 : decode cX8_gutLot 0 = .ok (.aload_n 0, 1) := by decide +kernel
theorem dX8_gutLot_1 : decode cX8_gutLot 1 = .ok (.aload_n 1, 1) := by decide +kernel
theorem dX8_gutLot_2 : decode cX8_gutLot 2 = .ok (.getfield 214, 3) := by decide +kernel
theorem dX8_gutLot_5 : decode cX8_gutLot 5 = .ok (.invokevirtual 111, 3) := by decide +kernel
theorem dX8_gutLot_8 : decode cX8_gutLot 8 = .ok (.astore_n 2, 1) := by decide +kernel
theorem dX8_gutLot_9 : decode cX8_gutLot 9 = .ok (.aload_n 2, 1) := by decide +kernel
theorem dX8_gutLot_10 : decode cX8_gutLot 10 = .ok (.ifnonnull 4, 3) := by decide +kernel
theorem dX8_gutLot_13 : decode cX8_gutLot 13 = .ok (.return_, 1) := by decide +kernel
theorem dX8_gutLot_14 : decode cX8_gutLot 14 = .ok (.aload_n 2, 1) := by decide +kernel
theorem dX8_gutLot_15 : decode cX8_gutLot 15 = .ok (.aload_n 1, 1) := by decide +kernel
theorem dX8_gutLot_16 : decode cX8_gutLot 16 = .ok (.aload_n 0, 1) := by decide +kernel
theorem dX8_gutLot_17 : decode cX8_gutLot 17 = .ok (.getfield 66, 3) := by decide +kernel
theorem dX8_gutLot_20 : decode cX8_gutLot 20 = .ok (.invokevirtual 299, 3) := by decide +kernel
theorem dX8_gutLot_23 : decode cX8_gutLot 23 = .ok (.aload_n 0, 1) := by decide +kernel
theorem dX8_gutLot_24 : decode cX8_gutLot 24 = .ok (.dup, 1) := by decide +kernel
theorem dX8_gutLot_25 : decode cX8_gutLot 25 = .ok (.getfield 242, 3) := by decide +kernel
theorem dX8_gutLot_28 : decode cX8_gutLot 28 = .ok (.aload_n 1, 1) := by decide +kernel
theorem dX8_gutLot_29 : decode cX8_gutLot 29 = .ok (.getfield 219, 3) := by decide +kernel
theorem dX8_gutLot_32 : decode cX8_gutLot 32 = .ok (.iadd, 1) := by decide +kernel
theorem dX8_gutLot_33 : decode cX8_gutLot 33 = .ok (.putfield 242, 3) := by decide +kernel
theorem dX8_gutLot_36 : decode cX8_gutLot 36 = .ok (.aload_n 0, 1) := by decide +kernel
theorem dX8_gutLot_37 : decode cX8_gutLot 37 = .ok (.dup, 1) := by decide +kernel
theorem dX8_gutLot_38 : decode cX8_gutLot 38 = .ok (.getfield 245, 3) := by decide +kernel
theorem dX8_gutLot_41 : decode cX8_gutLot 41 = .ok (.aload_n 1, 1) := by decide +kernel
theorem dX8_gutLot_42 : decode cX8_gutLot 42 = .ok (.getfield 222, 3) := by decide +kernel
theorem dX8_gutLot_45 : decode cX8_gutLot 45 = .ok (.iadd, 1) := by decide +kernel
theorem dX8_gutLot_46 : decode cX8_gutLot 46 = .ok (.putfield 245, 3) := by decide +kernel
theorem dX8_gutLot_49 : decode cX8_gutLot 49 = .ok (.return_, 1) := by decide +kernel
end
section
theorem dX9_init_0 : decode cX9_init 0 = .ok (.aload_n 0, 1) := by decide +kernel
theorem dX9_init_1 : decode cX9_init 1 = .ok (.invokespecial 1, 3) := by decide +kernel
theorem dX9_init_4 : decode cX9_init 4 = .ok (.aload_n 0, 1) := by decide +kernel
theorem dX9_init_5 : decode cX9_init 5 = .ok (.bipush 36, 2) := by decide +kernel
theorem dX9_init_7 : decode cX9_init 7 = .ok (.newarray .int, 2) := by decide +kernel
theorem dX9_init_9 : decode cX9_init 9 = .ok (.putfield 9, 3) := by decide +kernel
theorem dX9_init_12 : decode cX9_init 12 = .ok (.aload_n 0, 1) := by decide +kernel
theorem dX9_init_13 : decode cX9_init 13 = .ok (.bipush 36, 2) := by decide +kernel
theorem dX9_init_15 : decode cX9_init 15 = .ok (.newarray .boolean, 2) := by decide +kernel
theorem dX9_init_17 : decode cX9_init 17 = .ok (.putfield 13, 3) := by decide +kernel
theorem dX9_init_20 : decode cX9_init 20 = .ok (.aload_n 0, 1) := by decide +kernel
theorem dX9_init_21 : decode cX9_init 21 = .ok (.bipush 12, 2) := by decide +kernel
theorem dX9_init_23 : decode cX9_init 23 = .ok (.newarray .int, 2) := by decide +kernel
theorem dX9_init_25 : decode cX9_init 25 = .ok (.putfield 17, 3) := by decide +kernel
theorem dX9_init_28 : decode cX9_init 28 = .ok (.aload_n 0, 1) := by decide +kernel
theorem dX9_init_29 : decode cX9_init 29 = .ok (.bipush 12, 2) := by decide +kernel
theorem dX9_init_31 : decode cX9_init 31 = .ok (.newarray .int, 2) := by decide +kernel
theorem dX9_init_33 : decode cX9_init 33 = .ok (.putfield 20, 3) := by decide +kernel
theorem dX9_init_36 : decode cX9_init 36 = .ok (.aload_n 0, 1) := by decide +kernel
theorem dX9_init_37 : decode cX9_init 37 = .ok (.bipush 12, 2) := by decide +kernel
theorem dX9_init_39 : decode cX9_init 39 = .ok (.newarray .int, 2) := by decide +kernel
theorem dX9_init_41 : decode cX9_init 41 = .ok (.putfield 23, 3) := by decide +kernel
theorem dX9_init_44 : decode cX9_init 44 = .ok (.aload_n 0, 1) := by decide +kernel
theorem dX9_init_45 : decode cX9_init 45 = .ok (.bipush 12, 2) := by decide +kernel
theorem dX9_init_47 : decode cX9_init 47 = .ok (.newarray .int, 2) := by decide +kernel
theorem dX9_init_49 : decode cX9_init 49 = .ok (.putfield 26, 3) := by decide +kernel
theorem dX9_init_52 : decode cX9_init 52 = .ok (.aload_n 0, 1) := by decide +kernel
theorem dX9_init_53 : decode cX9_init 53 = .ok (.bipush 12, 2) := by decide +kernel
theorem dX9_init_55 : decode cX9_init 55 = .ok (.newarray .int, 2) := by decide +kernel
theorem dX9_init_57 : decode cX9_init 57 = .ok (.putfield 29, 3) := by decide +kernel
theorem dX9_init_60 : decode cX9_init 60 = .ok (.aload_n 0, 1) := by decide +kernel
theorem dX9_init_61 : decode cX9_init 61 = .ok (.bipush 12, 2) := by decide +kernel
theorem dX9_init_63 : decode cX9_init 63 = .ok (.newarray .int, 2) := by decide +kernel
theorem dX9_init_65 : decode cX9_init 65 = .ok (.putfield 32, 3) := by decide +kernel
theorem dX9_init_68 : decode cX9_init 68 = .ok (.aload_n 0, 1) := by decide +kernel
theorem dX9_init_69 : decode cX9_init 69 = .ok (.bipush 96, 2) := by decide +kernel
theorem dX9_init_71 : decode cX9_init 71 = .ok (.newarray .int, 2) := by decide +kernel
theorem dX9_init_73 : decode cX9_init 73 = .ok (.putfield 35, 3) := by decide +kernel
theorem dX9_init_76 : decode cX9_init 76 = .ok (.aload_n 0, 1) := by decide +kernel
theorem dX9_init_77 : decode cX9_init 77 = .ok (.bipush 96, 2) := by decide +kernel
theorem dX9_init_79 : decode cX9_init 79 = .ok (.newarray .int, 2) := by decide +kernel
theorem dX9_init_81 : decode cX9_init 81 = .ok (.putfield 38, 3) := by decide +kernel
theorem dX9_init_84 : decode cX9_init 84 = .ok (.aload_n 0, 1) := by decide +kernel
theorem dX9_init_85 : decode cX9_init 85 = .ok (.iconst 4, 1) := by decide +kernel
theorem dX9_init_86 : decode cX9_init 86 = .ok (.newarray .int, 2) := by decide +kernel
theorem dX9_init_88 : decode cX9_init 88 = .ok (.putfield 41, 3) := by decide +kernel
theorem dX9_init_91 : decode cX9_init 91 = .ok (.aload_n 0, 1) := by decide +kernel
theorem dX9_init_92 : decode cX9_init 92 = .ok (.iconst 4, 1) := by decide +kernel
theorem dX9_init_93 : decode cX9_init 93 = .ok (.newarray .int, 2) := by decide +kernel
theorem dX9_init_95 : decode cX9_init 95 = .ok (.putfield 44, 3) := by decide +kernel
theorem dX9_init_98 : decode cX9_init 98 = .ok (.aload_n 0, 1) := by decide +kernel
theorem dX9_init_99 : decode cX9_init 99 = .ok (.iconst 4, 1) := by decide +kernel
theorem dX9_init_100 : decode cX9_init 100 = .ok (.newarray .int, 2) := by decide +kernel
theorem dX9_init_102 : decode cX9_init 102 = .ok (.putfield 47, 3) := by decide +kernel
theorem dX9_init_105 : decode cX9_init 105 = .ok (.aload_n 0, 1) := by decide +kernel
theorem dX9_init_106 : decode cX9_init 106 = .ok (.sipush 400, 3) := by decide +kernel
theorem dX9_init_109 : decode cX9_init 109 = .ok (.newarray .int, 2) := by decide +kernel
theorem dX9_init_111 : decode cX9_init 111 = .ok (.putfield 50, 3) := by decide +kernel
theorem dX9_init_114 : decode cX9_init 114 = .ok (.aload_n 0, 1) := by decide +kernel
theorem dX9_init_115 : decode cX9_init 115 = .ok (.sipush 400, 3) := by decide +kernel
theorem dX9_init_118 : decode cX9_init 118 = .ok (.newarray .int, 2) := by decide +kernel
theorem dX9_init_120 : decode cX9_init 120 = .ok (.putfield 53, 3) := by decide +kernel
theorem dX9_init_123 : decode cX9_init 123 = .ok (.aload_n 0, 1) := by decide +kernel
theorem dX9_init_124 : decode cX9_init 124 = .ok (.sipush 400, 3) := by decide +kernel
theorem dX9_init_127 : decode cX9_init 127 = .ok (.newarray .int, 2) := by decide +kernel
theorem dX9_init_129 : decode cX9_init 129 = .ok (.putfield 56, 3) := by decide +kernel
theorem dX9_init_132 : decode cX9_init 132 = .ok (.aload_n 0, 1) := by decide +kernel
theorem dX9_init_133 : decode cX9_init 133 = .ok (.sipush 400, 3) := by decide +kernel
theorem dX9_init_136 : decode cX9_init 136 = .ok (.newarray .int, 2) := by decide +kernel
theorem dX9_init_138 : decode cX9_init 138 = .ok (.putfield 59, 3) := by decide +kernel
theorem dX9_init_141 : decode cX9_init 141 = .ok (.aload_n 0, 1) := by decide +kernel
theorem dX9_init_142 : decode cX9_init 142 = .ok (.sipush 400, 3) := by decide +kernel
theorem dX9_init_145 : decode cX9_init 145 = .ok (.newarray .int, 2) := by decide +kernel
theorem dX9_init_147 : decode cX9_init 147 = .ok (.putfield 62, 3) := by decide +kernel
theorem dX9_init_150 : decode cX9_init 150 = .ok (.aload_n 0, 1) := by decide +kernel
theorem dX9_init_151 : decode cX9_init 151 = .ok (.sipush 400, 3) := by decide +kernel
theorem dX9_init_154 : decode cX9_init 154 = .ok (.newarray .int, 2) := by decide +kernel
theorem dX9_init_156 : decode cX9_init 156 = .ok (.putfield 65, 3) := by decide +kernel
theorem dX9_init_159 : decode cX9_init 159 = .ok (.aload_n 0, 1) := by decide +kernel
theorem dX9_init_160 : decode cX9_init 160 = .ok (.sipush 400, 3) := by decide +kernel
theorem dX9_init_163 : decode cX9_init 163 = .ok (.newarray .int, 2) := by decide +kernel
theorem dX9_init_165 : decode cX9_init 165 = .ok (.putfield 68, 3) := by decide +kernel
theorem dX9_init_168 : decode cX9_init 168 = .ok (.aload_n 0, 1) := by decide +kernel
theorem dX9_init_169 : decode cX9_init 169 = .ok (.sipush 400, 3) := by decide +kernel
theorem dX9_init_172 : decode cX9_init 172 = .ok (.newarray .int, 2) := by decide +kernel
theorem dX9_init_174 : decode cX9_init 174 = .ok (.putfield 71, 3) := by decide +kernel
theorem dX9_init_177 : decode cX9_init 177 = .ok (.aload_n 0, 1) := by decide +kernel
theorem dX9_init_178 : decode cX9_init 178 = .ok (.sipush 400, 3) := by decide +kernel
theorem dX9_init_181 : decode cX9_init 181 = .ok (.newarray .int, 2) := by decide +kernel
theorem dX9_init_183 : decode cX9_init 183 = .ok (.putfield 74, 3) := by decide +kernel
theorem dX9_init_186 : decode cX9_init 186 = .ok (.aload_n 0, 1) := by decide +kernel
theorem dX9_init_187 : decode cX9_init 187 = .ok (.sipush 400, 3) := by decide +kernel
theorem dX9_init_190 : decode cX9_init 190 = .ok (.newarray .int, 2) := by decide +kernel
theorem dX9_init_192 : decode cX9_init 192 = .ok (.putfield 77, 3) := by decide +kernel
theorem dX9_init_195 : decode cX9_init 195 = .ok (.aload_n 0, 1) := by decide +kernel
theorem dX9_init_196 : decode cX9_init 196 = .ok (.sipush 400, 3) := by decide +kernel
theorem dX9_init_199 : decode cX9_init 199 = .ok (.newarray .int, 2) := by decide +kernel
theorem dX9_init_201 : decode cX9_init 201 = .ok (.putfield 80, 3) := by decide +kernel
theorem dX9_init_204 : decode cX9_init 204 = .ok (.aload_n 0, 1) := by decide +kernel
theorem dX9_init_205 : decode cX9_init 205 = .ok (.sipush 300, 3) := by decide +kernel
theorem dX9_init_208 : decode cX9_init 208 = .ok (.putfield 83, 3) := by decide +kernel
theorem dX9_init_211 : decode cX9_init 211 = .ok (.aload_n 0, 1) := by decide +kernel
theorem dX9_init_212 : decode cX9_init 212 = .ok (.bipush 12, 2) := by decide +kernel
theorem dX9_init_214 : decode cX9_init 214 = .ok (.newarray .int, 2) := by decide +kernel
theorem dX9_init_216 : decode cX9_init 216 = .ok (.putfield 87, 3) := by decide +kernel
theorem dX9_init_219 : decode cX9_init 219 = .ok (.aload_n 0, 1) := by decide +kernel
theorem dX9_init_220 : decode cX9_init 220 = .ok (.bipush 12, 2) := by decide +kernel
theorem dX9_init_222 : decode cX9_init 222 = .ok (.newarray .int, 2) := by decide +kernel
theorem dX9_init_224 : decode cX9_init 224 = .ok (.putfield 90, 3) := by decide +kernel
theorem dX9_init_227 : decode cX9_init 227 = .ok (.aload_n 0, 1) := by decide +kernel
theorem dX9_init_228 : decode cX9_init 228 = .ok (.bipush 12, 2) := by decide +kernel
theorem dX9_init_230 : decode cX9_init 230 = .ok (.newarray .boolean, 2) := by decide +kernel
theorem dX9_init_232 : decode cX9_init 232 = .ok (.putfield 93, 3) := by decide +kernel
theorem dX9_init_235 : decode cX9_init 235 = .ok (.aload_n 0, 1) := by decide +kernel
theorem dX9_init_236 : decode cX9_init 236 = .ok (.bipush 12, 2) := by decide +kernel
theorem dX9_init_238 : decode cX9_init 238 = .ok (.newarray .int, 2) := by decide +kernel
theorem dX9_init_240 : decode cX9_init 240 = .ok (.putfield 96, 3) := by decide +kernel
theorem dX9_init_243 : decode cX9_init 243 = .ok (.aload_n 0, 1) := by decide +kernel
theorem dX9_init_244 : decode cX9_init 244 = .ok (.bipush 36, 2) := by decide +kernel
theorem dX9_init_246 : decode cX9_init 246 = .ok (.newarray .int, 2) := by decide +kernel
theorem dX9_init_248 : decode cX9_init 248 = .ok (.putfield 99, 3) := by decide +kernel
theorem dX9_init_251 : decode cX9_init 251 = .ok (.aload_n 0, 1) := by decide +kernel
theorem dX9_init_252 : decode cX9_init 252 = .ok (.iconst 4, 1) := by decide +kernel
theorem dX9_init_253 : decode cX9_init 253 = .ok (.newarray .int, 2) := by decide +kernel
theorem dX9_init_255 : decode cX9_init 255 = .ok (.putfield 102, 3) := by decide +kernel
theorem dX9_init_258 : decode cX9_init 258 = .ok (.aload_n 0, 1) := by decide +kernel
theorem dX9_init_259 : decode cX9_init 259 = .ok (.bipush 12, 2) := by decide +kernel
theorem dX9_init_261 : decode cX9_init 261 = .ok (.newarray .boolean, 2) := by decide +kernel
theorem dX9_init_263 : decode cX9_init 263 = .ok (.putfield 105, 3) := by decide +kernel
theorem dX9_init_266 : decode cX9_init 266 = .ok (.aload_n 0, 1) := by decide +kernel
theorem dX9_init_267 : decode cX9_init 267 = .ok (.bipush 6, 2) := by decide +kernel
theorem dX9_init_269 : decode cX9_init 269 = .ok (.newarray .int, 2) := by decide +kernel
theorem dX9_init_271 : decode cX9_init 271 = .ok (.putfield 108, 3) := by decide +kernel
theorem dX9_init_274 : decode cX9_init 274 = .ok (.aload_n 0, 1) := by decide +kernel
theorem dX9_init_275 : decode cX9_init 275 = .ok (.sipush 220, 3) := by decide +kernel
theorem dX9_init_278 : decode cX9_init 278 = .ok (.newarray .int, 2) := by decide +kernel
theorem dX9_init_280 : decode cX9_init 280 = .ok (.putfield 111, 3) := by decide +kernel
theorem dX9_init_283 : decode cX9_init 283 = .ok (.aload_n 0, 1) := by decide +kernel
theorem dX9_init_284 : decode cX9_init 284 = .ok (.sipush 1680, 3) := by decide +kernel
theorem dX9_init_287 : decode cX9_init 287 = .ok (.newarray .int, 2) := by decide +kernel
theorem dX9_init_289 : decode cX9_init 289 = .ok (.putfield 114, 3) := by decide +kernel
theorem dX9_init_292 : decode cX9_init 292 = .ok (.aload_n 0, 1) := by decide +kernel
theorem dX9_init_293 : decode cX9_init 293 = .ok (.sipush 420, 3) := by decide +kernel
theorem dX9_init_296 : decode cX9_init 296 = .ok (.newarray .int, 2) := by decide +kernel
theorem dX9_init_298 : decode cX9_init 298 = .ok (.putfield 117, 3) := by decide +kernel
theorem dX9_init_301 : decode cX9_init 301 = .ok (.aload_n 0, 1) := by decide +kernel
theorem dX9_init_302 : decode cX9_init 302 = .ok (.iconst 4, 1) := by decide +kernel
theorem dX9_init_303 : decode cX9_init 303 = .ok (.newarray .boolean, 2) := by decide +kernel
theorem dX9_init_305 : decode cX9_init 305 = .ok (.putfield 120, 3) := by decide +kernel
theorem dX9_init_308 : decode cX9_init 308 = .ok (.aload_n 0, 1) := by decide +kernel
theorem dX9_init_309 : decode cX9_init 309 = .ok (.sipush 420, 3) := by decide +kernel
theorem dX9_init_312 : decode cX9_init 312 = .ok (.newarray .boolean, 2) := by decide +kernel
theorem dX9_init_314 : decode cX9_init 314 = .ok (.putfield 123, 3) := by decide +kernel
theorem dX9_init_317 : decode cX9_init 317 = .ok (.return_, 1) := by decide +kernel
theorem dX9_in_0 : decode cX9_in 0 = .ok (.iload_n 0, 1) := by decide +kernel
theorem dX9_in_1 : decode cX9_in 1 = .ok (.iload_n 1, 1) := by decide +kernel
theorem dX9_in_2 : decode cX9_in 2 = .ok (.if_icmp .lt 12, 3) := by decide +kernel
theorem dX9_in_5 : decode cX9_in 5 = .ok (.iload_n 0, 1) := by decide +kernel
theorem dX9_in_6 : decode cX9_in 6 = .ok (.iload_n 2, 1) := by decide +kernel
theorem dX9_in_7 : decode cX9_in 7 = .ok (.if_icmp .gt 7, 3) := by decide +kernel
theorem dX9_in_10 : decode cX9_in 10 = .ok (.iconst 1, 1) := by decide +kernel
theorem dX9_in_11 : decode cX9_in 11 = .ok (.goto 4, 3) := by decide +kernel
theorem dX9_in_14 : decode cX9_in 14 = .ok (.iconst 0, 1) := by decide +kernel
theorem dX9_in_15 : decode cX9_in 15 = .ok (.ireturn, 1) := by decide +kernel
theorem dX9_isBoat_0 : decode cX9_isBoat 0 = .ok (.iload_n 1, 1) := by decide +kernel
theorem dX9_isBoat_1 : decode cX9_isBoat 1 = .ok (.iconst 0, 1) := by decide +kernel
theorem dX9_isBoat_2 : decode cX9_isBoat 2 = .ok (.aload_n 0, 1) := by decide +kernel
theorem dX9_isBoat_3 : decode cX9_isBoat 3 = .ok (.getfield 126, 3) := by decide +kernel
theorem dX9_isBoat_6 : decode cX9_isBoat 6 = .ok (.iconst 1, 1) := by decide +kernel
theorem dX9_isBoat_7 : decode cX9_isBoat 7 = .ok (.isub, 1) := by decide +kernel
theorem dX9_isBoat_8 : decode cX9_isBoat 8 = .ok (.invokestatic 129, 3) := by decide +kernel
theorem dX9_isBoat_11 : decode cX9_isBoat 11 = .ok (.ireturn, 1) := by decide +kernel
theorem dX9_partAmong_0 : decode cX9_partAmong 0 = .ok (.lconst 0, 1) := by decide +kernel
theorem dX9_partAmong_1 : decode cX9_partAmong 1 = .ok (.lstore 4, 2) := by decide +kernel
theorem dX9_partAmong_3 : decode cX9_partAmong 3 = .ok (.iconst 0, 1) := by decide +kernel
theorem dX9_partAmong_4 : decode cX9_partAmong 4 = .ok (.istore 6, 2) := by decide +kernel
theorem dX9_partAmong_6 : decode cX9_partAmong 6 = .ok (.iload 6, 2) := by decide +kernel
theorem dX9_partAmong_8 : decode cX9_partAmong 8 = .ok (.iload_n 3, 1) := by decide +kernel
theorem dX9_partAmong_9 : decode cX9_partAmong 9 = .ok (.if_icmp .ge 22, 3) := by decide +kernel
theorem dX9_partAmong_12 : decode cX9_partAmong 12 = .ok (.lload 4, 2) := by decide +kernel
theorem dX9_partAmong_14 : decode cX9_partAmong 14 = .ok (.aload_n 0, 1) := by decide +kernel
theorem dX9_partAmong_15 : decode cX9_partAmong 15 = .ok (.getfield 87, 3) := by decide +kernel
theorem dX9_partAmong_18 : decode cX9_partAmong 18 = .ok (.iload 6, 2) := by decide +kernel
theorem dX9_partAmong_20 : decode cX9_partAmong 20 = .ok (.iaload, 1) := by decide +kernel
theorem dX9_partAmong_21 : decode cX9_partAmong 21 = .ok (.i2l, 1) := by decide +kernel
theorem dX9_partAmong_22 : decode cX9_partAmong 22 = .ok (.ladd, 1) := by decide +kernel
theorem dX9_partAmong_23 : decode cX9_partAmong 23 = .ok (.lstore 4, 2) := by decide +kernel
theorem dX9_partAmong_25 : decode cX9_partAmong 25 = .ok (.iinc 6 1, 3) := by decide +kernel
theorem dX9_partAmong_28 : decode cX9_partAmong 28 = .ok (.goto (-22), 3) := by decide +kernel
theorem dX9_partAmong_31 : decode cX9_partAmong 31 = .ok (.lload_n 1, 1) := by decide +kernel
theorem dX9_partAmong_32 : decode cX9_partAmong 32 = .ok (.lstore 6, 2) := by decide +kernel
theorem dX9_partAmong_34 : decode cX9_partAmong 34 = .ok (.iconst 0, 1) := by decide +kernel
theorem dX9_partAmong_35 : decode cX9_partAmong 35 = .ok (.istore 8, 2) := by decide +kernel
theorem dX9_partAmong_37 : decode cX9_partAmong 37 = .ok (.iload 8, 2) := by decide +kernel
theorem dX9_partAmong_39 : decode cX9_partAmong 39 = .ok (.iload_n 3, 1) := by decide +kernel
theorem dX9_partAmong_40 : decode cX9_partAmong 40 = .ok (.if_icmp .ge 51, 3) := by decide +kernel
theorem dX9_partAmong_43 : decode cX9_partAmong 43 = .ok (.aload_n 0, 1) := by decide +kernel
theorem dX9_partAmong_44 : decode cX9_partAmong 44 = .ok (.getfield 90, 3) := by decide +kernel
theorem dX9_partAmong_47 : decode cX9_partAmong 47 = .ok (.iload 8, 2) := by decide +kernel
theorem dX9_partAmong_49 : decode cX9_partAmong 49 = .ok (.lload_n 1, 1) := by decide +kernel
theorem dX9_partAmong_50 : decode cX9_partAmong 50 = .ok (.aload_n 0, 1) := by decide +kernel
theorem dX9_partAmong_51 : decode cX9_partAmong 51 = .ok (.getfield 87, 3) := by decide +kernel
theorem dX9_partAmong_54 : decode cX9_partAmong 54 = .ok (.iload 8, 2) := by decide +kernel
theorem dX9_partAmong_56 : decode cX9_partAmong 56 = .ok (.iaload, 1) := by decide +kernel
theorem dX9_partAmong_57 : decode cX9_partAmong 57 = .ok (.i2l, 1) := by decide +kernel
theorem dX9_partAmong_58 : decode cX9_partAmong 58 = .ok (.lmul, 1) := by decide +kernel
theorem dX9_partAmong_59 : decode cX9_partAmong 59 = .ok (.lload 4, 2) := by decide +kernel
theorem dX9_partAmong_61 : decode cX9_partAmong 61 = .ok (.ldiv, 1) := by decide +kernel
theorem dX9_partAmong_62 : decode cX9_partAmong 62 = .ok (.l2i, 1) := by decide +kernel
theorem dX9_partAmong_63 : decode cX9_partAmong 63 = .ok (.iastore, 1) := by decide +kernel
theorem dX9_partAmong_64 : decode cX9_partAmong 64 = .ok (.lload 6, 2) := by decide +kernel
theorem dX9_partAmong_66 : decode cX9_partAmong 66 = .ok (.aload_n 0, 1) := by decide +kernel
theorem dX9_partAmong_67 : decode cX9_partAmong 67 = .ok (.getfield 90, 3) := by decide +kernel
theorem dX9_partAmong_70 : decode cX9_partAmong 70 = .ok (.iload 8, 2) := by decide +kernel
theorem dX9_partAmong_72 : decode cX9_partAmong 72 = .ok (.iaload, 1) := by decide +kernel
theorem dX9_partAmong_73 : decode cX9_partAmong 73 = .ok (.i2l, 1) := by decide +kernel
theorem dX9_partAmong_74 : decode cX9_partAmong 74 = .ok (.lsub, 1) := by decide +kernel
theorem dX9_partAmong_75 : decode cX9_partAmong 75 = .ok (.lstore 6, 2) := by decide +kernel
theorem dX9_partAmong_77 : decode cX9_partAmong 77 = .ok (.aload_n 0, 1) := by decide +kernel
theorem dX9_partAmong_78 : decode cX9_partAmong 78 = .ok (.getfield 93, 3) := by decide +kernel
theorem dX9_partAmong_81 : decode cX9_partAmong 81 = .ok (.iload 8, 2) := by decide +kernel
theorem dX9_partAmong_83 : decode cX9_partAmong 83 = .ok (.iconst 0, 1) := by decide +kernel
theorem dX9_partAmong_84 : decode cX9_partAmong 84 = .ok (.bastore, 1) := by decide +kernel
theorem dX9_partAmong_85 : decode cX9_partAmong 85 = .ok (.iinc 8 1, 3) := by decide +kernel
theorem dX9_partAmong_88 : decode cX9_partAmong 88 = .ok (.goto (-51), 3) := by decide +kernel
theorem dX9_partAmong_91 : decode cX9_partAmong 91 = .ok (.lload 6, 2) := by decide +kernel
theorem dX9_partAmong_93 : decode cX9_partAmong 93 = .ok (.lconst 0, 1) := by decide +kernel
theorem dX9_partAmong_94 : decode cX9_partAmong 94 = .ok (.lcmp, 1) := by decide +kernel
theorem dX9_partAmong_95 : decode cX9_partAmong 95 = .ok (.ifCond .le 99, 3) := by decide +kernel
theorem dX9_partAmong_98 : decode cX9_partAmong 98 = .ok (.iconst (-1), 1) := by decide +kernel
theorem dX9_partAmong_99 : decode cX9_partAmong 99 = .ok (.istore 8, 2) := by decide +kernel
theorem dX9_partAmong_101 : decode cX9_partAmong 101 = .ok (.lconst 0, 1) := by decide +kernel
theorem dX9_partAmong_102 : decode cX9_partAmong 102 = .ok (.lstore 9, 2) := by decide +kernel
theorem dX9_partAmong_104 : decode cX9_partAmong 104 = .ok (.iconst 0, 1) := by decide +kernel
theorem dX9_partAmong_105 : decode cX9_partAmong 105 = .ok (.istore 11, 2) := by decide +kernel
theorem dX9_partAmong_107 : decode cX9_partAmong 107 = .ok (.iload 11, 2) := by decide +kernel
theorem dX9_partAmong_109 : decode cX9_partAmong 109 = .ok (.iload_n 3, 1) := by decide +kernel
theorem dX9_partAmong_110 : decode cX9_partAmong 110 = .ok (.if_icmp .ge 56, 3) := by decide +kernel
theorem dX9_partAmong_113 : decode cX9_partAmong 113 = .ok (.lload_n 1, 1) := by decide +kernel
theorem dX9_partAmong_114 : decode cX9_partAmong 114 = .ok (.aload_n 0, 1) := by decide +kernel
theorem dX9_partAmong_115 : decode cX9_partAmong 115 = .ok (.getfield 87, 3) := by decide +kernel
theorem dX9_partAmong_118 : decode cX9_partAmong 118 = .ok (.iload 11, 2) := by decide +kernel
theorem dX9_partAmong_120 : decode cX9_partAmong 120 = .ok (.iaload, 1) := by decide +kernel
theorem dX9_partAmong_121 : decode cX9_partAmong 121 = .ok (.i2l, 1) := by decide +kernel
theorem dX9_partAmong_122 : decode cX9_partAmong 122 = .ok (.lmul, 1) := by decide +kernel
theorem dX9_partAmong_123 : decode cX9_partAmong 123 = .ok (.lload 4, 2) := by decide +kernel
theorem dX9_partAmong_125 : decode cX9_partAmong 125 = .ok (.lrem, 1) := by decide +kernel
theorem dX9_partAmong_126 : decode cX9_partAmong 126 = .ok (.lstore 12, 2) := by decide +kernel
theorem dX9_partAmong_128 : decode cX9_partAmong 128 = .ok (.aload_n 0, 1) := by decide +kernel
theorem dX9_partAmong_129 : decode cX9_partAmong 129 = .ok (.getfield 93, 3) := by decide +kernel
theorem dX9_partAmong_132 : decode cX9_partAmong 132 = .ok (.iload 11, 2) := by decide +kernel
theorem dX9_partAmong_134 : decode cX9_partAmong 134 = .ok (.baload, 1) := by decide +kernel
theorem dX9_partAmong_135 : decode cX9_partAmong 135 = .ok (.ifCond .ne 25, 3) := by decide +kernel
theorem dX9_partAmong_138 : decode cX9_partAmong 138 = .ok (.iload 8, 2) := by decide +kernel
theorem dX9_partAmong_140 : decode cX9_partAmong 140 = .ok (.iconst (-1), 1) := by decide +kernel
theorem dX9_partAmong_141 : decode cX9_partAmong 141 = .ok (.if_icmp .eq 11, 3) := by decide +kernel
theorem dX9_partAmong_144 : decode cX9_partAmong 144 = .ok (.lload 12, 2) := by decide +kernel
theorem dX9_partAmong_146 : decode cX9_partAmong 146 = .ok (.lload 9, 2) := by decide +kernel
theorem dX9_partAmong_148 : decode cX9_partAmong 148 = .ok (.lcmp, 1) := by decide +kernel
theorem dX9_partAmong_149 : decode cX9_partAmong 149 = .ok (.ifCond .le 11, 3) := by decide +kernel
theorem dX9_partAmong_152 : decode cX9_partAmong 152 = .ok (.iload 11, 2) := by decide +kernel
theorem dX9_partAmong_154 : decode cX9_partAmong 154 = .ok (.istore 8, 2) := by decide +kernel
theorem dX9_partAmong_156 : decode cX9_partAmong 156 = .ok (.lload 12, 2) := by decide +kernel
theorem dX9_partAmong_158 : decode cX9_partAmong 158 = .ok (.lstore 9, 2) := by decide +kernel
theorem dX9_partAmong_160 : decode cX9_partAmong 160 = .ok (.iinc 11 1, 3) := by decide +kernel
theorem dX9_partAmong_163 : decode cX9_partAmong 163 = .ok (.goto (-56), 3) := by decide +kernel
theorem dX9_partAmong_166 : decode cX9_partAmong 166 = .ok (.aload_n 0, 1) := by decide +kernel
theorem dX9_partAmong_167 : decode cX9_partAmong 167 = .ok (.getfield 93, 3) := by decide +kernel
theorem dX9_partAmong_170 : decode cX9_partAmong 170 = .ok (.iload 8, 2) := by decide +kernel
theorem dX9_partAmong_172 : decode cX9_partAmong 172 = .ok (.iconst 1, 1) := by decide +kernel
theorem dX9_partAmong_173 : decode cX9_partAmong 173 = .ok (.bastore, 1) := by decide +kernel
theorem dX9_partAmong_174 : decode cX9_partAmong 174 = .ok (.aload_n 0, 1) := by decide +kernel
theorem dX9_partAmong_175 : decode cX9_partAmong 175 = .ok (.getfield 90, 3) := by decide +kernel
theorem dX9_partAmong_178 : decode cX9_partAmong 178 = .ok (.iload 8, 2) := by decide +kernel
theorem dX9_partAmong_180 : decode cX9_partAmong 180 = .ok (.dup2, 1) := by decide +kernel
theorem dX9_partAmong_181 : decode cX9_partAmong 181 = .ok (.iaload, 1) := by decide +kernel
theorem dX9_partAmong_182 : decode cX9_partAmong 182 = .ok (.iconst 1, 1) := by decide +kernel
theorem dX9_partAmong_183 : decode cX9_partAmong 183 = .ok (.iadd, 1) := by decide +kernel
theorem dX9_partAmong_184 : decode cX9_partAmong 184 = .ok (.iastore, 1) := by decide +kernel
theorem dX9_partAmong_185 : decode cX9_partAmong 185 = .ok (.lload 6, 2) := by decide +kernel
theorem dX9_partAmong_187 : decode cX9_partAmong 187 = .ok (.lconst 1, 1) := by decide +kernel
theorem dX9_partAmong_188 : decode cX9_partAmong 188 = .ok (.lsub, 1) := by decide +kernel
theorem dX9_partAmong_189 : decode cX9_partAmong 189 = .ok (.lstore 6, 2) := by decide +kernel
theorem dX9_partAmong_191 : decode cX9_partAmong 191 = .ok (.goto (-100), 3) := by decide +kernel
theorem dX9_partAmong_194 : decode cX9_partAmong 194 = .ok (.return_, 1) := by decide +kernel
theorem dX9_shoal_0 : decode cX9_shoal 0 = .ok (.iload_n 1, 1) := by decide +kernel
theorem dX9_shoal_1 : decode cX9_shoal 1 = .ok (.iconst 0, 1) := by decide +kernel
theorem dX9_shoal_2 : decode cX9_shoal 2 = .ok (.bipush 35, 2) := by decide +kernel
theorem dX9_shoal_4 : decode cX9_shoal 4 = .ok (.invokestatic 129, 3) := by decide +kernel
theorem dX9_shoal_7 : decode cX9_shoal 7 = .ok (.ifCond .eq 14, 3) := by decide +kernel
theorem dX9_shoal_10 : decode cX9_shoal 10 = .ok (.iload_n 2, 1) := by decide +kernel
theorem dX9_shoal_11 : decode cX9_shoal 11 = .ok (.iconst 0, 1) := by decide +kernel
theorem dX9_shoal_12 : decode cX9_shoal 12 = .ok (.sipush 10000, 3) := by decide +kernel
theorem dX9_shoal_15 : decode cX9_shoal 15 = .ok (.invokestatic 129, 3) := by decide +kernel
theorem dX9_shoal_18 : decode cX9_shoal 18 = .ok (.ifCond .ne 5, 3) := by decide +kernel
theorem dX9_shoal_21 : decode cX9_shoal 21 = .ok (.iconst 0, 1) := by decide +kernel
theorem dX9_shoal_22 : decode cX9_shoal 22 = .ok (.ireturn, 1) := by decide +kernel
theorem dX9_shoal_23 : decode cX9_shoal 23 = .ok (.aload_n 0, 1) := by decide +kernel
theorem dX9_shoal_24 : decode cX9_shoal 24 = .ok (.getfield 9, 3) := by decide +kernel
theorem dX9_shoal_27 : decode cX9_shoal 27 = .ok (.iload_n 1, 1) := by decide +kernel
theorem dX9_shoal_28 : decode cX9_shoal 28 = .ok (.iload_n 2, 1) := by decide +kernel
theorem dX9_shoal_29 : decode cX9_shoal 29 = .ok (.iastore, 1) := by decide +kernel
theorem dX9_shoal_30 : decode cX9_shoal 30 = .ok (.iconst 1, 1) := by decide +kernel
theorem dX9_shoal_31 : decode cX9_shoal 31 = .ok (.ireturn, 1) := by decide +kernel
theorem dX9_open_0 : decode cX9_open 0 = .ok (.iload_n 1, 1) := by decide +kernel
theorem dX9_open_1 : decode cX9_open 1 = .ok (.iconst 0, 1) := by decide +kernel
theorem dX9_open_2 : decode cX9_open 2 = .ok (.bipush 35, 2) := by decide +kernel
theorem dX9_open_4 : decode cX9_open 4 = .ok (.invokestatic 129, 3) := by decide +kernel
theorem dX9_open_7 : decode cX9_open 7 = .ok (.ifCond .eq 13, 3) := by decide +kernel
theorem dX9_open_10 : decode cX9_open 10 = .ok (.aload_n 0, 1) := by decide +kernel
theorem dX9_open_11 : decode cX9_open 11 = .ok (.getfield 13, 3) := by decide +kernel
theorem dX9_open_14 : decode cX9_open 14 = .ok (.iload_n 1, 1) := by decide +kernel
theorem dX9_open_15 : decode cX9_open 15 = .ok (.baload, 1) := by decide +kernel
theorem dX9_open_16 : decode cX9_open 16 = .ok (.iload_n 2, 1) := by decide +kernel
theorem dX9_open_17 : decode cX9_open 17 = .ok (.if_icmp .ne 5, 3) := by decide +kernel
theorem dX9_open_20 : decode cX9_open 20 = .ok (.iconst 0, 1) := by decide +kernel
theorem dX9_open_21 : decode cX9_open 21 = .ok (.ireturn, 1) := by decide +kernel
theorem dX9_open_22 : decode cX9_open 22 = .ok (.aload_n 0, 1) := by decide +kernel
theorem dX9_open_23 : decode cX9_open 23 = .ok (.getfield 13, 3) := by decide +kernel
theorem dX9_open_26 : decode cX9_open 26 = .ok (.iload_n 1, 1) := by decide +kernel
theorem dX9_open_27 : decode cX9_open 27 = .ok (.iload_n 2, 1) := by decide +kernel
theorem dX9_open_28 : decode cX9_open 28 = .ok (.bastore, 1) := by decide +kernel
theorem dX9_open_29 : decode cX9_open 29 = .ok (.iconst 1, 1) := by decide +kernel
theorem dX9_open_30 : decode cX9_open 30 = .ok (.ireturn, 1) := by decide +kernel
theorem dX9_drift_0 : decode cX9_drift 0 = .ok (.iload_n 1, 1) := by decide +kernel
theorem dX9_drift_1 : decode cX9_drift 1 = .ok (.iconst 0, 1) := by decide +kernel
theorem dX9_drift_2 : decode cX9_drift 2 = .ok (.iconst 4, 1) := by decide +kernel
theorem dX9_drift_3 : decode cX9_drift 3 = .ok (.invokestatic 129, 3) := by decide +kernel
theorem dX9_drift_6 : decode cX9_drift 6 = .ok (.ifCond .ne 5, 3) := by decide +kernel
theorem dX9_drift_9 : decode cX9_drift 9 = .ok (.iconst 0, 1) := by decide +kernel
theorem dX9_drift_10 : decode cX9_drift 10 = .ok (.ireturn, 1) := by decide +kernel
theorem dX9_drift_11 : decode cX9_drift 11 = .ok (.aload_n 0, 1) := by decide +kernel
theorem dX9_drift_12 : decode cX9_drift 12 = .ok (.iload_n 1, 1) := by decide +kernel
theorem dX9_drift_13 : decode cX9_drift 13 = .ok (.putfield 133, 3) := by decide +kernel
theorem dX9_drift_16 : decode cX9_drift 16 = .ok (.iconst 1, 1) := by decide +kernel
theorem dX9_drift_17 : decode cX9_drift 17 = .ok (.ireturn, 1) := by decide +kernel
theorem dX9_boat_0 : decode cX9_boat 0 = .ok (.aload_n 0, 1) := by decide +kernel
theorem dX9_boat_1 : decode cX9_boat 1 = .ok (.getfield 126, 3) := by decide +kernel
theorem dX9_boat_4 : decode cX9_boat 4 = .ok (.bipush 12, 2) := by decide +kernel
theorem dX9_boat_6 : decode cX9_boat 6 = .ok (.if_icmp .eq 13, 3) := by decide +kernel
theorem dX9_boat_9 : decode cX9_boat 9 = .ok (.iload_n 1, 1) := by decide +kernel
theorem dX9_boat_10 : decode cX9_boat 10 = .ok (.iconst 0, 1) := by decide +kernel
theorem dX9_boat_11 : decode cX9_boat 11 = .ok (.bipush 60, 2) := by decide +kernel
theorem dX9_boat_13 : decode cX9_boat 13 = .ok (.invokestatic 129, 3) := by decide +kernel
theorem dX9_boat_16 : decode cX9_boat 16 = .ok (.ifCond .ne 5, 3) := by decide +kernel
theorem dX9_boat_19 : decode cX9_boat 19 = .ok (.iconst (-1), 1) := by decide +kernel
theorem dX9_boat_20 : decode cX9_boat 20 = .ok (.ireturn, 1) := by decide +kernel
theorem dX9_boat_21 : decode cX9_boat 21 = .ok (.aload_n 0, 1) := by decide +kernel
theorem dX9_boat_22 : decode cX9_boat 22 = .ok (.getfield 17, 3) := by decide +kernel
theorem dX9_boat_25 : decode cX9_boat 25 = .ok (.aload_n 0, 1) := by decide +kernel
theorem dX9_boat_26 : decode cX9_boat 26 = .ok (.getfield 126, 3) := by decide +kernel
theorem dX9_boat_29 : decode cX9_boat 29 = .ok (.iload_n 1, 1) := by decide +kernel
theorem dX9_boat_30 : decode cX9_boat 30 = .ok (.iastore, 1) := by decide +kernel
theorem dX9_boat_31 : decode cX9_boat 31 = .ok (.aload_n 0, 1) := by decide +kernel
theorem dX9_boat_32 : decode cX9_boat 32 = .ok (.getfield 20, 3) := by decide +kernel
theorem dX9_boat_35 : decode cX9_boat 35 = .ok (.aload_n 0, 1) := by decide +kernel
theorem dX9_boat_36 : decode cX9_boat 36 = .ok (.getfield 126, 3) := by decide +kernel
theorem dX9_boat_39 : decode cX9_boat 39 = .ok (.iconst (-1), 1) := by decide +kernel
theorem dX9_boat_40 : decode cX9_boat 40 = .ok (.iastore, 1) := by decide +kernel
theorem dX9_boat_41 : decode cX9_boat 41 = .ok (.aload_n 0, 1) := by decide +kernel
theorem dX9_boat_42 : decode cX9_boat 42 = .ok (.dup, 1) := by decide +kernel
theorem dX9_boat_43 : decode cX9_boat 43 = .ok (.getfield 126, 3) := by decide +kernel
theorem dX9_boat_46 : decode cX9_boat 46 = .ok (.iconst 1, 1) := by decide +kernel
theorem dX9_boat_47 : decode cX9_boat 47 = .ok (.iadd, 1) := by decide +kernel
theorem dX9_boat_48 : decode cX9_boat 48 = .ok (.putfield 126, 3) := by decide +kernel
theorem dX9_boat_51 : decode cX9_boat 51 = .ok (.aload_n 0, 1) := by decide +kernel
theorem dX9_boat_52 : decode cX9_boat 52 = .ok (.getfield 126, 3) := by decide +kernel
theorem dX9_boat_55 : decode cX9_boat 55 = .ok (.iconst 1, 1) := by decide +kernel
theorem dX9_boat_56 : decode cX9_boat 56 = .ok (.isub, 1) := by decide +kernel
theorem dX9_boat_57 : decode cX9_boat 57 = .ok (.ireturn, 1) := by decide +kernel
theorem dX9_go_0 : decode cX9_go 0 = .ok (.aload_n 0, 1) := by decide +kernel
theorem dX9_go_1 : decode cX9_go 1 = .ok (.iload_n 1, 1) := by decide +kernel
theorem dX9_go_2 : decode cX9_go 2 = .ok (.invokevirtual 136, 3) := by decide +kernel
theorem dX9_go_5 : decode cX9_go 5 = .ok (.ifCond .eq 13, 3) := by decide +kernel
theorem dX9_go_8 : decode cX9_go 8 = .ok (.iload_n 2, 1) := by decide +kernel
theorem dX9_go_9 : decode cX9_go 9 = .ok (.iconst (-1), 1) := by decide +kernel
theorem dX9_go_10 : decode cX9_go 10 = .ok (.bipush 35, 2) := by decide +kernel
theorem dX9_go_12 : decode cX9_go 12 = .ok (.invokestatic 129, 3) := by decide +kernel
theorem dX9_go_15 : decode cX9_go 15 = .ok (.ifCond .ne 5, 3) := by decide +kernel
theorem dX9_go_18 : decode cX9_go 18 = .ok (.iconst 0, 1) := by decide +kernel
theorem dX9_go_19 : decode cX9_go 19 = .ok (.ireturn, 1) := by decide +kernel
theorem dX9_go_20 : decode cX9_go 20 = .ok (.aload_n 0, 1) := by decide +kernel
theorem dX9_go_21 : decode cX9_go 21 = .ok (.getfield 20, 3) := by decide +kernel
theorem dX9_go_24 : decode cX9_go 24 = .ok (.iload_n 1, 1) := by decide +kernel
theorem dX9_go_25 : decode cX9_go 25 = .ok (.iload_n 2, 1) := by decide +kernel
theorem dX9_go_26 : decode cX9_go 26 = .ok (.iastore, 1) := by decide +kernel
theorem dX9_go_27 : decode cX9_go 27 = .ok (.iconst 1, 1) := by decide +kernel
theorem dX9_go_28 : decode cX9_go 28 = .ok (.ireturn, 1) := by decide +kernel
theorem dX9_mend_0 : decode cX9_mend 0 = .ok (.aload_n 0, 1) := by decide +kernel
theorem dX9_mend_1 : decode cX9_mend 1 = .ok (.iload_n 1, 1) := by decide +kernel
theorem dX9_mend_2 : decode cX9_mend 2 = .ok (.invokevirtual 136, 3) := by decide +kernel
theorem dX9_mend_5 : decode cX9_mend 5 = .ok (.ifCond .eq 26, 3) := by decide +kernel
theorem dX9_mend_8 : decode cX9_mend 8 = .ok (.iload_n 2, 1) := by decide +kernel
theorem dX9_mend_9 : decode cX9_mend 9 = .ok (.iconst 1, 1) := by decide +kernel
theorem dX9_mend_10 : decode cX9_mend 10 = .ok (.bipush 60, 2) := by decide +kernel
theorem dX9_mend_12 : decode cX9_mend 12 = .ok (.invokestatic 129, 3) := by decide +kernel
theorem dX9_mend_15 : decode cX9_mend 15 = .ok (.ifCond .eq 16, 3) := by decide +kernel
theorem dX9_mend_18 : decode cX9_mend 18 = .ok (.aload_n 0, 1) := by decide +kernel
theorem dX9_mend_19 : decode cX9_mend 19 = .ok (.getfield 17, 3) := by decide +kernel
theorem dX9_mend_22 : decode cX9_mend 22 = .ok (.iload_n 1, 1) := by decide +kernel
theorem dX9_mend_23 : decode cX9_mend 23 = .ok (.iaload, 1) := by decide +kernel
theorem dX9_mend_24 : decode cX9_mend 24 = .ok (.iload_n 2, 1) := by decide +kernel
theorem dX9_mend_25 : decode cX9_mend 25 = .ok (.iadd, 1) := by decide +kernel
theorem dX9_mend_26 : decode cX9_mend 26 = .ok (.bipush 60, 2) := by decide +kernel
theorem dX9_mend_28 : decode cX9_mend 28 = .ok (.if_icmp .le 5, 3) := by decide +kernel
theorem dX9_mend_31 : decode cX9_mend 31 = .ok (.iconst (-1), 1) := by decide +kernel
theorem dX9_mend_32 : decode cX9_mend 32 = .ok (.ireturn, 1) := by decide +kernel
theorem dX9_mend_33 : decode cX9_mend 33 = .ok (.aload_n 0, 1) := by decide +kernel
theorem dX9_mend_34 : decode cX9_mend 34 = .ok (.getfield 17, 3) := by decide +kernel
theorem dX9_mend_37 : decode cX9_mend 37 = .ok (.iload_n 1, 1) := by decide +kernel
theorem dX9_mend_38 : decode cX9_mend 38 = .ok (.dup2, 1) := by decide +kernel
theorem dX9_mend_39 : decode cX9_mend 39 = .ok (.iaload, 1) := by decide +kernel
theorem dX9_mend_40 : decode cX9_mend 40 = .ok (.iload_n 2, 1) := by decide +kernel
theorem dX9_mend_41 : decode cX9_mend 41 = .ok (.iadd, 1) := by decide +kernel
theorem dX9_mend_42 : decode cX9_mend 42 = .ok (.iastore, 1) := by decide +kernel
theorem dX9_mend_43 : decode cX9_mend 43 = .ok (.aload_n 0, 1) := by decide +kernel
theorem dX9_mend_44 : decode cX9_mend 44 = .ok (.getfield 17, 3) := by decide +kernel
theorem dX9_mend_47 : decode cX9_mend 47 = .ok (.iload_n 1, 1) := by decide +kernel
theorem dX9_mend_48 : decode cX9_mend 48 = .ok (.iaload, 1) := by decide +kernel
theorem dX9_mend_49 : decode cX9_mend 49 = .ok (.ireturn, 1) := by decide +kernel
theorem dX9_yard_0 : decode cX9_yard 0 = .ok (.aload_n 0, 1) := by decide +kernel
theorem dX9_yard_1 : decode cX9_yard 1 = .ok (.getfield 140, 3) := by decide +kernel
theorem dX9_yard_4 : decode cX9_yard 4 = .ok (.iconst 4, 1) := by decide +kernel
theorem dX9_yard_5 : decode cX9_yard 5 = .ok (.if_icmp .eq 24, 3) := by decide +kernel
theorem dX9_yard_8 : decode cX9_yard 8 = .ok (.iload_n 1, 1) := by decide +kernel
theorem dX9_yard_9 : decode cX9_yard 9 = .ok (.iconst 1, 1) := by decide +kernel
theorem dX9_yard_10 : decode cX9_yard 10 = .ok (.bipush 6, 2) := by decide +kernel
theorem dX9_yard_12 : decode cX9_yard 12 = .ok (.invokestatic 129, 3) := by decide +kernel
theorem dX9_yard_15 : decode cX9_yard 15 = .ok (.ifCond .eq 14, 3) := by decide +kernel
theorem dX9_yard_18 : decode cX9_yard 18 = .ok (.iload_n 2, 1) := by decide +kernel
theorem dX9_yard_19 : decode cX9_yard 19 = .ok (.iconst 1, 1) := by decide +kernel
theorem dX9_yard_20 : decode cX9_yard 20 = .ok (.sipush 500, 3) := by decide +kernel
theorem dX9_yard_23 : decode cX9_yard 23 = .ok (.invokestatic 129, 3) := by decide +kernel
theorem dX9_yard_26 : decode cX9_yard 26 = .ok (.ifCond .ne 5, 3) := by decide +kernel
theorem dX9_yard_29 : decode cX9_yard 29 = .ok (.iconst (-1), 1) := by decide +kernel
theorem dX9_yard_30 : decode cX9_yard 30 = .ok (.ireturn, 1) := by decide +kernel
theorem dX9_yard_31 : decode cX9_yard 31 = .ok (.aload_n 0, 1) := by decide +kernel
theorem dX9_yard_32 : decode cX9_yard 32 = .ok (.getfield 41, 3) := by decide +kernel
theorem dX9_yard_35 : decode cX9_yard 35 = .ok (.aload_n 0, 1) := by decide +kernel
theorem dX9_yard_36 : decode cX9_yard 36 = .ok (.getfield 140, 3) := by decide +kernel
theorem dX9_yard_39 : decode cX9_yard 39 = .ok (.iload_n 1, 1) := by decide +kernel
theorem dX9_yard_40 : decode cX9_yard 40 = .ok (.iastore, 1) := by decide +kernel
theorem dX9_yard_41 : decode cX9_yard 41 = .ok (.aload_n 0, 1) := by decide +kernel
theorem dX9_yard_42 : decode cX9_yard 42 = .ok (.getfield 44, 3) := by decide +kernel
theorem dX9_yard_45 : decode cX9_yard 45 = .ok (.aload_n 0, 1) := by decide +kernel
theorem dX9_yard_46 : decode cX9_yard 46 = .ok (.getfield 140, 3) := by decide +kernel
theorem dX9_yard_49 : decode cX9_yard 49 = .ok (.iload_n 2, 1) := by decide +kernel
theorem dX9_yard_50 : decode cX9_yard 50 = .ok (.iastore, 1) := by decide +kernel
theorem dX9_yard_51 : decode cX9_yard 51 = .ok (.aload_n 0, 1) := by decide +kernel
theorem dX9_yard_52 : decode cX9_yard 52 = .ok (.dup, 1) := by decide +kernel
theorem dX9_yard_53 : decode cX9_yard 53 = .ok (.getfield 140, 3) := by decide +kernel
theorem dX9_yard_56 : decode cX9_yard 56 = .ok (.iconst 1, 1) := by decide +kernel
theorem dX9_yard_57 : decode cX9_yard 57 = .ok (.iadd, 1) := by decide +kernel
theorem dX9_yard_58 : decode cX9_yard 58 = .ok (.putfield 140, 3) := by decide +kernel
theorem dX9_yard_61 : decode cX9_yard 61 = .ok (.aload_n 0, 1) := by decide +kernel
theorem dX9_yard_62 : decode cX9_yard 62 = .ok (.getfield 140, 3) := by decide +kernel
theorem dX9_yard_65 : decode cX9_yard 65 = .ok (.iconst 1, 1) := by decide +kernel
theorem dX9_yard_66 : decode cX9_yard 66 = .ok (.isub, 1) := by decide +kernel
theorem dX9_yard_67 : decode cX9_yard 67 = .ok (.ireturn, 1) := by decide +kernel
theorem dX9_bid_0 : decode cX9_bid 0 = .ok (.iload_n 1, 1) := by decide +kernel
theorem dX9_bid_1 : decode cX9_bid 1 = .ok (.iconst 0, 1) := by decide +kernel
theorem dX9_bid_2 : decode cX9_bid 2 = .ok (.aload_n 0, 1) := by decide +kernel
theorem dX9_bid_3 : decode cX9_bid 3 = .ok (.getfield 140, 3) := by decide +kernel
theorem dX9_bid_6 : decode cX9_bid 6 = .ok (.iconst 1, 1) := by decide +kernel
theorem dX9_bid_7 : decode cX9_bid 7 = .ok (.isub, 1) := by decide +kernel
theorem dX9_bid_8 : decode cX9_bid 8 = .ok (.invokestatic 129, 3) := by decide +kernel
theorem dX9_bid_11 : decode cX9_bid 11 = .ok (.ifCond .eq 13, 3) := by decide +kernel
theorem dX9_bid_14 : decode cX9_bid 14 = .ok (.iload_n 2, 1) := by decide +kernel
theorem dX9_bid_15 : decode cX9_bid 15 = .ok (.iconst 0, 1) := by decide +kernel
theorem dX9_bid_16 : decode cX9_bid 16 = .ok (.bipush 100, 2) := by decide +kernel
theorem dX9_bid_18 : decode cX9_bid 18 = .ok (.invokestatic 129, 3) := by decide +kernel
theorem dX9_bid_21 : decode cX9_bid 21 = .ok (.ifCond .ne 5, 3) := by decide +kernel
theorem dX9_bid_24 : decode cX9_bid 24 = .ok (.iconst 0, 1) := by decide +kernel
theorem dX9_bid_25 : decode cX9_bid 25 = .ok (.ireturn, 1) := by decide +kernel
theorem dX9_bid_26 : decode cX9_bid 26 = .ok (.aload_n 0, 1) := by decide +kernel
theorem dX9_bid_27 : decode cX9_bid 27 = .ok (.getfield 47, 3) := by decide +kernel
theorem dX9_bid_30 : decode cX9_bid 30 = .ok (.iload_n 1, 1) := by decide +kernel
theorem dX9_bid_31 : decode cX9_bid 31 = .ok (.iload_n 2, 1) := by decide +kernel
theorem dX9_bid_32 : decode cX9_bid 32 = .ok (.iastore, 1) := by decide +kernel
theorem dX9_bid_33 : decode cX9_bid 33 = .ok (.iconst 1, 1) := by decide +kernel
theorem dX9_bid_34 : decode cX9_bid 34 = .ok (.ireturn, 1) := by decide +kernel
theorem dX9_soft_0 : decode cX9_soft 0 = .ok (.iload_n 1, 1) := by decide +kernel
theorem dX9_soft_1 : decode cX9_soft 1 = .ok (.iconst 0, 1) := by decide +kernel
theorem dX9_soft_2 : decode cX9_soft 2 = .ok (.sipush 2000, 3) := by decide +kernel
theorem dX9_soft_5 : decode cX9_soft 5 = .ok (.invokestatic 129, 3) := by decide +kernel
theorem dX9_soft_8 : decode cX9_soft 8 = .ok (.ifCond .ne 5, 3) := by decide +kernel
theorem dX9_soft_11 : decode cX9_soft 11 = .ok (.iconst 0, 1) := by decide +kernel
theorem dX9_soft_12 : decode cX9_soft 12 = .ok (.ireturn, 1) := by decide +kernel
theorem dX9_soft_13 : decode cX9_soft 13 = .ok (.aload_n 0, 1) := by decide +kernel
theorem dX9_soft_14 : decode cX9_soft 14 = .ok (.iload_n 1, 1) := by decide +kernel
theorem dX9_soft_15 : decode cX9_soft 15 = .ok (.putfield 83, 3) := by decide +kernel
theorem dX9_soft_18 : decode cX9_soft 18 = .ok (.iconst 1, 1) := by decide +kernel
theorem dX9_soft_19 : decode cX9_soft 19 = .ok (.ireturn, 1) := by decide +kernel
theorem dX9_haul_0 : decode cX9_haul 0 = .ok (.iconst 0, 1) := by decide +kernel
theorem dX9_haul_1 : decode cX9_haul 1 = .ok (.istore_n 2, 1) := by decide +kernel
theorem dX9_haul_2 : decode cX9_haul 2 = .ok (.iconst 0, 1) := by decide +kernel
theorem dX9_haul_3 : decode cX9_haul 3 = .ok (.istore_n 3, 1) := by decide +kernel
theorem dX9_haul_4 : decode cX9_haul 4 = .ok (.iconst 0, 1) := by decide +kernel
theorem dX9_haul_5 : decode cX9_haul 5 = .ok (.istore 4, 2) := by decide +kernel
theorem dX9_haul_7 : decode cX9_haul 7 = .ok (.iload 4, 2) := by decide +kernel
theorem dX9_haul_9 : decode cX9_haul 9 = .ok (.aload_n 0, 1) := by decide +kernel
theorem dX9_haul_10 : decode cX9_haul 10 = .ok (.getfield 126, 3) := by decide +kernel
theorem dX9_haul_13 : decode cX9_haul 13 = .ok (.if_icmp .ge 64, 3) := by decide +kernel
theorem dX9_haul_16 : decode cX9_haul 16 = .ok (.aload_n 0, 1) := by decide +kernel
theorem dX9_haul_17 : decode cX9_haul 17 = .ok (.getfield 20, 3) := by decide +kernel
theorem dX9_haul_20 : decode cX9_haul 20 = .ok (.iload 4, 2) := by decide +kernel
theorem dX9_haul_22 : decode cX9_haul 22 = .ok (.iaload, 1) := by decide +kernel
theorem dX9_haul_23 : decode cX9_haul 23 = .ok (.iload_n 1, 1) := by decide +kernel
theorem dX9_haul_24 : decode cX9_haul 24 = .ok (.if_icmp .ne 47, 3) := by decide +kernel
theorem dX9_haul_27 : decode cX9_haul 27 = .ok (.aload_n 0, 1) := by decide +kernel
theorem dX9_haul_28 : decode cX9_haul 28 = .ok (.getfield 17, 3) := by decide +kernel
theorem dX9_haul_31 : decode cX9_haul 31 = .ok (.iload 4, 2) := by decide +kernel
theorem dX9_haul_33 : decode cX9_haul 33 = .ok (.iaload, 1) := by decide +kernel
theorem dX9_haul_34 : decode cX9_haul 34 = .ok (.ifCond .le 37, 3) := by decide +kernel
theorem dX9_haul_37 : decode cX9_haul 37 = .ok (.aload_n 0, 1) := by decide +kernel
theorem dX9_haul_38 : decode cX9_haul 38 = .ok (.getfield 96, 3) := by decide +kernel
theorem dX9_haul_41 : decode cX9_haul 41 = .ok (.iload_n 2, 1) := by decide +kernel
theorem dX9_haul_42 : decode cX9_haul 42 = .ok (.iload 4, 2) := by decide +kernel
theorem dX9_haul_44 : decode cX9_haul 44 = .ok (.iastore, 1) := by decide +kernel
theorem dX9_haul_45 : decode cX9_haul 45 = .ok (.aload_n 0, 1) := by decide +kernel
theorem dX9_haul_46 : decode cX9_haul 46 = .ok (.getfield 87, 3) := by decide +kernel
theorem dX9_haul_49 : decode cX9_haul 49 = .ok (.iload_n 2, 1) := by decide +kernel
theorem dX9_haul_50 : decode cX9_haul 50 = .ok (.aload_n 0, 1) := by decide +kernel
theorem dX9_haul_51 : decode cX9_haul 51 = .ok (.getfield 17, 3) := by decide +kernel
theorem dX9_haul_54 : decode cX9_haul 54 = .ok (.iload 4, 2) := by decide +kernel
theorem dX9_haul_56 : decode cX9_haul 56 = .ok (.iaload, 1) := by decide +kernel
theorem dX9_haul_57 : decode cX9_haul 57 = .ok (.iastore, 1) := by decide +kernel
theorem dX9_haul_58 : decode cX9_haul 58 = .ok (.iload_n 3, 1) := by decide +kernel
theorem dX9_haul_59 : decode cX9_haul 59 = .ok (.aload_n 0, 1) := by decide +kernel
theorem dX9_haul_60 : decode cX9_haul 60 = .ok (.getfield 17, 3) := by decide +kernel
theorem dX9_haul_63 : decode cX9_haul 63 = .ok (.iload 4, 2) := by decide +kernel
theorem dX9_haul_65 : decode cX9_haul 65 = .ok (.iaload, 1) := by decide +kernel
theorem dX9_haul_66 : decode cX9_haul 66 = .ok (.iadd, 1) := by decide +kernel
theorem dX9_haul_67 : decode cX9_haul 67 = .ok (.istore_n 3, 1) := by decide +kernel
theorem dX9_haul_68 : decode cX9_haul 68 = .ok (.iinc 2 1, 3) := by decide +kernel
theorem dX9_haul_71 : decode cX9_haul 71 = .ok (.iinc 4 1, 3) := by decide +kernel
theorem dX9_haul_74 : decode cX9_haul 74 = .ok (.goto (-67), 3) := by decide +kernel
theorem dX9_haul_77 : decode cX9_haul 77 = .ok (.iload_n 2, 1) := by decide +kernel
theorem dX9_haul_78 : decode cX9_haul 78 = .ok (.ifCond .ne 5, 3) := by decide +kernel
theorem dX9_haul_81 : decode cX9_haul 81 = .ok (.iconst 0, 1) := by decide +kernel
theorem dX9_haul_82 : decode cX9_haul 82 = .ok (.ireturn, 1) := by decide +kernel
theorem dX9_haul_83 : decode cX9_haul 83 = .ok (.iconst 2, 1) := by decide +kernel
theorem dX9_haul_84 : decode cX9_haul 84 = .ok (.iload_n 3, 1) := by decide +kernel
theorem dX9_haul_85 : decode cX9_haul 85 = .ok (.imul, 1) := by decide +kernel
theorem dX9_haul_86 : decode cX9_haul 86 = .ok (.aload_n 0, 1) := by decide +kernel
theorem dX9_haul_87 : decode cX9_haul 87 = .ok (.getfield 9, 3) := by decide +kernel
theorem dX9_haul_90 : decode cX9_haul 90 = .ok (.iload_n 1, 1) := by decide +kernel
theorem dX9_haul_91 : decode cX9_haul 91 = .ok (.iaload, 1) := by decide +kernel
theorem dX9_haul_92 : decode cX9_haul 92 = .ok (.invokestatic 143, 3) := by decide +kernel
theorem dX9_haul_95 : decode cX9_haul 95 = .ok (.istore 4, 2) := by decide +kernel
theorem dX9_haul_97 : decode cX9_haul 97 = .ok (.aload_n 0, 1) := by decide +kernel
theorem dX9_haul_98 : decode cX9_haul 98 = .ok (.iload 4, 2) := by decide +kernel
theorem dX9_haul_100 : decode cX9_haul 100 = .ok (.i2l, 1) := by decide +kernel
theorem dX9_haul_101 : decode cX9_haul 101 = .ok (.iload_n 2, 1) := by decide +kernel
theorem dX9_haul_102 : decode cX9_haul 102 = .ok (.invokevirtual 149, 3) := by decide +kernel
theorem dX9_haul_105 : decode cX9_haul 105 = .ok (.iconst 0, 1) := by decide +kernel
theorem dX9_haul_106 : decode cX9_haul 106 = .ok (.istore 5, 2) := by decide +kernel
theorem dX9_haul_108 : decode cX9_haul 108 = .ok (.iload 5, 2) := by decide +kernel
theorem dX9_haul_110 : decode cX9_haul 110 = .ok (.iload_n 2, 1) := by decide +kernel
theorem dX9_haul_111 : decode cX9_haul 111 = .ok (.if_icmp .ge 50, 3) := by decide +kernel
theorem dX9_haul_114 : decode cX9_haul 114 = .ok (.aload_n 0, 1) := by decide +kernel
theorem dX9_haul_115 : decode cX9_haul 115 = .ok (.getfield 26, 3) := by decide +kernel
theorem dX9_haul_118 : decode cX9_haul 118 = .ok (.aload_n 0, 1) := by decide +kernel
theorem dX9_haul_119 : decode cX9_haul 119 = .ok (.getfield 96, 3) := by decide +kernel
theorem dX9_haul_122 : decode cX9_haul 122 = .ok (.iload 5, 2) := by decide +kernel
theorem dX9_haul_124 : decode cX9_haul 124 = .ok (.iaload, 1) := by decide +kernel
theorem dX9_haul_125 : decode cX9_haul 125 = .ok (.aload_n 0, 1) := by decide +kernel
theorem dX9_haul_126 : decode cX9_haul 126 = .ok (.getfield 90, 3) := by decide +kernel
theorem dX9_haul_129 : decode cX9_haul 129 = .ok (.iload 5, 2) := by decide +kernel
theorem dX9_haul_131 : decode cX9_haul 131 = .ok (.iaload, 1) := by decide +kernel
theorem dX9_haul_132 : decode cX9_haul 132 = .ok (.iastore, 1) := by decide +kernel
theorem dX9_haul_133 : decode cX9_haul 133 = .ok (.aload_n 0, 1) := by decide +kernel
theorem dX9_haul_134 : decode cX9_haul 134 = .ok (.getfield 23, 3) := by decide +kernel
theorem dX9_haul_137 : decode cX9_haul 137 = .ok (.aload_n 0, 1) := by decide +kernel
theorem dX9_haul_138 : decode cX9_haul 138 = .ok (.getfield 96, 3) := by decide +kernel
theorem dX9_haul_141 : decode cX9_haul 141 = .ok (.iload 5, 2) := by decide +kernel
theorem dX9_haul_143 : decode cX9_haul 143 = .ok (.iaload, 1) := by decide +kernel
theorem dX9_haul_144 : decode cX9_haul 144 = .ok (.dup2, 1) := by decide +kernel
theorem dX9_haul_145 : decode cX9_haul 145 = .ok (.iaload, 1) := by decide +kernel
theorem dX9_haul_146 : decode cX9_haul 146 = .ok (.aload_n 0, 1) := by decide +kernel
theorem dX9_haul_147 : decode cX9_haul 147 = .ok (.getfield 90, 3) := by decide +kernel
theorem dX9_haul_150 : decode cX9_haul 150 = .ok (.iload 5, 2) := by decide +kernel
theorem dX9_haul_152 : decode cX9_haul 152 = .ok (.iaload, 1) := by decide +kernel
theorem dX9_haul_153 : decode cX9_haul 153 = .ok (.iadd, 1) := by decide +kernel
theorem dX9_haul_154 : decode cX9_haul 154 = .ok (.iastore, 1) := by decide +kernel
theorem dX9_haul_155 : decode cX9_haul 155 = .ok (.iinc 5 1, 3) := by decide +kernel
theorem dX9_haul_158 : decode cX9_haul 158 = .ok (.goto (-50), 3) := by decide +kernel
theorem dX9_haul_161 : decode cX9_haul 161 = .ok (.aload_n 0, 1) := by decide +kernel
theorem dX9_haul_162 : decode cX9_haul 162 = .ok (.getfield 9, 3) := by decide +kernel
theorem dX9_haul_165 : decode cX9_haul 165 = .ok (.iload_n 1, 1) := by decide +kernel
theorem dX9_haul_166 : decode cX9_haul 166 = .ok (.dup2, 1) := by decide +kernel
theorem dX9_haul_167 : decode cX9_haul 167 = .ok (.iaload, 1) := by decide +kernel
theorem dX9_haul_168 : decode cX9_haul 168 = .ok (.iload 4, 2) := by decide +kernel
theorem dX9_haul_170 : decode cX9_haul 170 = .ok (.isub, 1) := by decide +kernel
theorem dX9_haul_171 : decode cX9_haul 171 = .ok (.iastore, 1) := by decide +kernel
theorem dX9_haul_172 : decode cX9_haul 172 = .ok (.iload 4, 2) := by decide +kernel
theorem dX9_haul_174 : decode cX9_haul 174 = .ok (.ireturn, 1) := by decide +kernel
theorem dX9_storm_0 : decode cX9_storm 0 = .ok (.iconst 0, 1) := by decide +kernel
theorem dX9_storm_1 : decode cX9_storm 1 = .ok (.istore_n 1, 1) := by decide +kernel
theorem dX9_storm_2 : decode cX9_storm 2 = .ok (.iload_n 1, 1) := by decide +kernel
theorem dX9_storm_3 : decode cX9_storm 3 = .ok (.aload_n 0, 1) := by decide +kernel
theorem dX9_storm_4 : decode cX9_storm 4 = .ok (.getfield 126, 3) := by decide +kernel
theorem dX9_storm_7 : decode cX9_storm 7 = .ok (.if_icmp .ge 62, 3) := by decide +kernel
theorem dX9_storm_10 : decode cX9_storm 10 = .ok (.aload_n 0, 1) := by decide +kernel
theorem dX9_storm_11 : decode cX9_storm 11 = .ok (.getfield 20, 3) := by decide +kernel
theorem dX9_storm_14 : decode cX9_storm 14 = .ok (.iload_n 1, 1) := by decide +kernel
theorem dX9_storm_15 : decode cX9_storm 15 = .ok (.iaload, 1) := by decide +kernel
theorem dX9_storm_16 : decode cX9_storm 16 = .ok (.iconst (-1), 1) := by decide +kernel
theorem dX9_storm_17 : decode cX9_storm 17 = .ok (.if_icmp .eq 46, 3) := by decide +kernel
theorem dX9_storm_20 : decode cX9_storm 20 = .ok (.aload_n 0, 1) := by decide +kernel
theorem dX9_storm_21 : decode cX9_storm 21 = .ok (.getfield 13, 3) := by decide +kernel
theorem dX9_storm_24 : decode cX9_storm 24 = .ok (.aload_n 0, 1) := by decide +kernel
theorem dX9_storm_25 : decode cX9_storm 25 = .ok (.getfield 20, 3) := by decide +kernel
theorem dX9_storm_28 : decode cX9_storm 28 = .ok (.iload_n 1, 1) := by decide +kernel
theorem dX9_storm_29 : decode cX9_storm 29 = .ok (.iaload, 1) := by decide +kernel
theorem dX9_storm_30 : decode cX9_storm 30 = .ok (.baload, 1) := by decide +kernel
theorem dX9_storm_31 : decode cX9_storm 31 = .ok (.ifCond .eq 32, 3) := by decide +kernel
theorem dX9_storm_34 : decode cX9_storm 34 = .ok (.aload_n 0, 1) := by decide +kernel
theorem dX9_storm_35 : decode cX9_storm 35 = .ok (.getfield 17, 3) := by decide +kernel
theorem dX9_storm_38 : decode cX9_storm 38 = .ok (.iload_n 1, 1) := by decide +kernel
theorem dX9_storm_39 : decode cX9_storm 39 = .ok (.iaload, 1) := by decide +kernel
theorem dX9_storm_40 : decode cX9_storm 40 = .ok (.iconst 5, 1) := by decide +kernel
theorem dX9_storm_41 : decode cX9_storm 41 = .ok (.idiv, 1) := by decide +kernel
theorem dX9_storm_42 : decode cX9_storm 42 = .ok (.istore_n 2, 1) := by decide +kernel
theorem dX9_storm_43 : decode cX9_storm 43 = .ok (.aload_n 0, 1) := by decide +kernel
theorem dX9_storm_44 : decode cX9_storm 44 = .ok (.getfield 17, 3) := by decide +kernel
theorem dX9_storm_47 : decode cX9_storm 47 = .ok (.iload_n 1, 1) := by decide +kernel
theorem dX9_storm_48 : decode cX9_storm 48 = .ok (.dup2, 1) := by decide +kernel
theorem dX9_storm_49 : decode cX9_storm 49 = .ok (.iaload, 1) := by decide +kernel
theorem dX9_storm_50 : decode cX9_storm 50 = .ok (.iload_n 2, 1) := by decide +kernel
theorem dX9_storm_51 : decode cX9_storm 51 = .ok (.isub, 1) := by decide +kernel
theorem dX9_storm_52 : decode cX9_storm 52 = .ok (.iastore, 1) := by decide +kernel
theorem dX9_storm_53 : decode cX9_storm 53 = .ok (.aload_n 0, 1) := by decide +kernel
theorem dX9_storm_54 : decode cX9_storm 54 = .ok (.getfield 32, 3) := by decide +kernel
theorem dX9_storm_57 : decode cX9_storm 57 = .ok (.iload_n 1, 1) := by decide +kernel
theorem dX9_storm_58 : decode cX9_storm 58 = .ok (.dup2, 1) := by decide +kernel
theorem dX9_storm_59 : decode cX9_storm 59 = .ok (.iaload, 1) := by decide +kernel
theorem dX9_storm_60 : decode cX9_storm 60 = .ok (.iload_n 2, 1) := by decide +kernel
theorem dX9_storm_61 : decode cX9_storm 61 = .ok (.iadd, 1) := by decide +kernel
theorem dX9_storm_62 : decode cX9_storm 62 = .ok (.iastore, 1) := by decide +kernel
theorem dX9_storm_63 : decode cX9_storm 63 = .ok (.iinc 1 1, 3) := by decide +kernel
theorem dX9_storm_66 : decode cX9_storm 66 = .ok (.goto (-64), 3) := by decide +kernel
theorem dX9_storm_69 : decode cX9_storm 69 = .ok (.return_, 1) := by decide +kernel
theorem dX9_beside_0 : decode cX9_beside 0 = .ok (.iload_n 1, 1) := by decide +kernel
theorem dX9_beside_1 : decode cX9_beside 1 = .ok (.bipush 6, 2) := by decide +kernel
theorem dX9_beside_3 : decode cX9_beside 3 = .ok (.irem, 1) := by decide +kernel
theorem dX9_beside_4 : decode cX9_beside 4 = .ok (.aload_n 0, 1) := by decide +kernel
theorem dX9_beside_5 : decode cX9_beside 5 = .ok (.getfield 133, 3) := by decide +kernel
theorem dX9_beside_8 : decode cX9_beside 8 = .ok (.iconst 1, 1) := by decide +kernel
theorem dX9_beside_9 : decode cX9_beside 9 = .ok (.if_icmp .ne 7, 3) := by decide +kernel
theorem dX9_beside_12 : decode cX9_beside 12 = .ok (.iconst 1, 1) := by decide +kernel
theorem dX9_beside_13 : decode cX9_beside 13 = .ok (.goto 16, 3) := by decide +kernel
theorem dX9_beside_16 : decode cX9_beside 16 = .ok (.aload_n 0, 1) := by decide +kernel
theorem dX9_beside_17 : decode cX9_beside 17 = .ok (.getfield 133, 3) := by decide +kernel
theorem dX9_beside_20 : decode cX9_beside 20 = .ok (.iconst 2, 1) := by decide +kernel
theorem dX9_beside_21 : decode cX9_beside 21 = .ok (.if_icmp .ne 7, 3) := by decide +kernel
theorem dX9_beside_24 : decode cX9_beside 24 = .ok (.iconst (-1), 1) := by decide +kernel
theorem dX9_beside_25 : decode cX9_beside 25 = .ok (.goto 4, 3) := by decide +kernel
theorem dX9_beside_28 : decode cX9_beside 28 = .ok (.iconst 0, 1) := by decide +kernel
theorem dX9_beside_29 : decode cX9_beside 29 = .ok (.iadd, 1) := by decide +kernel
theorem dX9_beside_30 : decode cX9_beside 30 = .ok (.istore_n 2, 1) := by decide +kernel
theorem dX9_beside_31 : decode cX9_beside 31 = .ok (.iload_n 1, 1) := by decide +kernel
theorem dX9_beside_32 : decode cX9_beside 32 = .ok (.bipush 6, 2) := by decide +kernel
theorem dX9_beside_34 : decode cX9_beside 34 = .ok (.idiv, 1) := by decide +kernel
theorem dX9_beside_35 : decode cX9_beside 35 = .ok (.aload_n 0, 1) := by decide +kernel
theorem dX9_beside_36 : decode cX9_beside 36 = .ok (.getfield 133, 3) := by decide +kernel
theorem dX9_beside_39 : decode cX9_beside 39 = .ok (.iconst 3, 1) := by decide +kernel
theorem dX9_beside_40 : decode cX9_beside 40 = .ok (.if_icmp .ne 7, 3) := by decide +kernel
theorem dX9_beside_43 : decode cX9_beside 43 = .ok (.iconst 1, 1) := by decide +kernel
theorem dX9_beside_44 : decode cX9_beside 44 = .ok (.goto 16, 3) := by decide +kernel
theorem dX9_beside_47 : decode cX9_beside 47 = .ok (.aload_n 0, 1) := by decide +kernel
theorem dX9_beside_48 : decode cX9_beside 48 = .ok (.getfield 133, 3) := by decide +kernel
theorem dX9_beside_51 : decode cX9_beside 51 = .ok (.iconst 4, 1) := by decide +kernel
theorem dX9_beside_52 : decode cX9_beside 52 = .ok (.if_icmp .ne 7, 3) := by decide +kernel
theorem dX9_beside_55 : decode cX9_beside 55 = .ok (.iconst (-1), 1) := by decide +kernel
theorem dX9_beside_56 : decode cX9_beside 56 = .ok (.goto 4, 3) := by decide +kernel
theorem dX9_beside_59 : decode cX9_beside 59 = .ok (.iconst 0, 1) := by decide +kernel
theorem dX9_beside_60 : decode cX9_beside 60 = .ok (.iadd, 1) := by decide +kernel
theorem dX9_beside_61 : decode cX9_beside 61 = .ok (.istore_n 3, 1) := by decide +kernel
theorem dX9_beside_62 : decode cX9_beside 62 = .ok (.iload_n 2, 1) := by decide +kernel
theorem dX9_beside_63 : decode cX9_beside 63 = .ok (.iconst 0, 1) := by decide +kernel
theorem dX9_beside_64 : decode cX9_beside 64 = .ok (.iconst 5, 1) := by decide +kernel
theorem dX9_beside_65 : decode cX9_beside 65 = .ok (.invokestatic 129, 3) := by decide +kernel
theorem dX9_beside_68 : decode cX9_beside 68 = .ok (.ifCond .eq 21, 3) := by decide +kernel
theorem dX9_beside_71 : decode cX9_beside 71 = .ok (.iload_n 3, 1) := by decide +kernel
theorem dX9_beside_72 : decode cX9_beside 72 = .ok (.iconst 0, 1) := by decide +kernel
theorem dX9_beside_73 : decode cX9_beside 73 = .ok (.iconst 5, 1) := by decide +kernel
theorem dX9_beside_74 : decode cX9_beside 74 = .ok (.invokestatic 129, 3) := by decide +kernel
theorem dX9_beside_77 : decode cX9_beside 77 = .ok (.ifCond .eq 12, 3) := by decide +kernel
theorem dX9_beside_80 : decode cX9_beside 80 = .ok (.bipush 6, 2) := by decide +kernel
theorem dX9_beside_82 : decode cX9_beside 82 = .ok (.iload_n 3, 1) := by decide +kernel
theorem dX9_beside_83 : decode cX9_beside 83 = .ok (.imul, 1) := by decide +kernel
theorem dX9_beside_84 : decode cX9_beside 84 = .ok (.iload_n 2, 1) := by decide +kernel
theorem dX9_beside_85 : decode cX9_beside 85 = .ok (.iadd, 1) := by decide +kernel
theorem dX9_beside_86 : decode cX9_beside 86 = .ok (.goto 4, 3) := by decide +kernel
theorem dX9_beside_89 : decode cX9_beside 89 = .ok (.iload_n 1, 1) := by decide +kernel
theorem dX9_beside_90 : decode cX9_beside 90 = .ok (.ireturn, 1) := by decide +kernel
theorem dX9_driftAll_0 : decode cX9_driftAll 0 = .ok (.iconst 0, 1) := by decide +kernel
theorem dX9_driftAll_1 : decode cX9_driftAll 1 = .ok (.istore_n 1, 1) := by decide +kernel
theorem dX9_driftAll_2 : decode cX9_driftAll 2 = .ok (.iload_n 1, 1) := by decide +kernel
theorem dX9_driftAll_3 : decode cX9_driftAll 3 = .ok (.bipush 36, 2) := by decide +kernel
theorem dX9_driftAll_5 : decode cX9_driftAll 5 = .ok (.if_icmp .ge 16, 3) := by decide +kernel
theorem dX9_driftAll_8 : decode cX9_driftAll 8 = .ok (.aload_n 0, 1) := by decide +kernel
theorem dX9_driftAll_9 : decode cX9_driftAll 9 = .ok (.getfield 99, 3) := by decide +kernel
theorem dX9_driftAll_12 : decode cX9_driftAll 12 = .ok (.iload_n 1, 1) := by decide +kernel
theorem dX9_driftAll_13 : decode cX9_driftAll 13 = .ok (.iconst 0, 1) := by decide +kernel
theorem dX9_driftAll_14 : decode cX9_driftAll 14 = .ok (.iastore, 1) := by decide +kernel
theorem dX9_driftAll_15 : decode cX9_driftAll 15 = .ok (.iinc 1 1, 3) := by decide +kernel
theorem dX9_driftAll_18 : decode cX9_driftAll 18 = .ok (.goto (-16), 3) := by decide +kernel
theorem dX9_driftAll_21 : decode cX9_driftAll 21 = .ok (.iconst 0, 1) := by decide +kernel
theorem dX9_driftAll_22 : decode cX9_driftAll 22 = .ok (.istore_n 1, 1) := by decide +kernel
theorem dX9_driftAll_23 : decode cX9_driftAll 23 = .ok (.iload_n 1, 1) := by decide +kernel
theorem dX9_driftAll_24 : decode cX9_driftAll 24 = .ok (.bipush 36, 2) := by decide +kernel
theorem dX9_driftAll_26 : decode cX9_driftAll 26 = .ok (.if_icmp .ge 42, 3) := by decide +kernel
theorem dX9_driftAll_29 : decode cX9_driftAll 29 = .ok (.aload_n 0, 1) := by decide +kernel
theorem dX9_driftAll_30 : decode cX9_driftAll 30 = .ok (.getfield 9, 3) := by decide +kernel
theorem dX9_driftAll_33 : decode cX9_driftAll 33 = .ok (.iload_n 1, 1) := by decide +kernel
theorem dX9_driftAll_34 : decode cX9_driftAll 34 = .ok (.iaload, 1) := by decide +kernel
theorem dX9_driftAll_35 : decode cX9_driftAll 35 = .ok (.iconst 4, 1) := by decide +kernel
theorem dX9_driftAll_36 : decode cX9_driftAll 36 = .ok (.idiv, 1) := by decide +kernel
theorem dX9_driftAll_37 : decode cX9_driftAll 37 = .ok (.istore_n 2, 1) := by decide +kernel
theorem dX9_driftAll_38 : decode cX9_driftAll 38 = .ok (.aload_n 0, 1) := by decide +kernel
theorem dX9_driftAll_39 : decode cX9_driftAll 39 = .ok (.getfield 99, 3) := by decide +kernel
theorem dX9_driftAll_42 : decode cX9_driftAll 42 = .ok (.aload_n 0, 1) := by decide +kernel
theorem dX9_driftAll_43 : decode cX9_driftAll 43 = .ok (.iload_n 1, 1) := by decide +kernel
theorem dX9_driftAll_44 : decode cX9_driftAll 44 = .ok (.invokevirtual 153, 3) := by decide +kernel
theorem dX9_driftAll_47 : decode cX9_driftAll 47 = .ok (.dup2, 1) := by decide +kernel
theorem dX9_driftAll_48 : decode cX9_driftAll 48 = .ok (.iaload, 1) := by decide +kernel
theorem dX9_driftAll_49 : decode cX9_driftAll 49 = .ok (.iload_n 2, 1) := by decide +kernel
theorem dX9_driftAll_50 : decode cX9_driftAll 50 = .ok (.iadd, 1) := by decide +kernel
theorem dX9_driftAll_51 : decode cX9_driftAll 51 = .ok (.iastore, 1) := by decide +kernel
theorem dX9_driftAll_52 : decode cX9_driftAll 52 = .ok (.aload_n 0, 1) := by decide +kernel
theorem dX9_driftAll_53 : decode cX9_driftAll 53 = .ok (.getfield 99, 3) := by decide +kernel
theorem dX9_driftAll_56 : decode cX9_driftAll 56 = .ok (.iload_n 1, 1) := by decide +kernel
theorem dX9_driftAll_57 : decode cX9_driftAll 57 = .ok (.dup2, 1) := by decide +kernel
theorem dX9_driftAll_58 : decode cX9_driftAll 58 = .ok (.iaload, 1) := by decide +kernel
theorem dX9_driftAll_59 : decode cX9_driftAll 59 = .ok (.iload_n 2, 1) := by decide +kernel
theorem dX9_driftAll_60 : decode cX9_driftAll 60 = .ok (.isub, 1) := by decide +kernel
theorem dX9_driftAll_61 : decode cX9_driftAll 61 = .ok (.iastore, 1) := by decide +kernel
theorem dX9_driftAll_62 : decode cX9_driftAll 62 = .ok (.iinc 1 1, 3) := by decide +kernel
theorem dX9_driftAll_65 : decode cX9_driftAll 65 = .ok (.goto (-42), 3) := by decide +kernel
theorem dX9_driftAll_68 : decode cX9_driftAll 68 = .ok (.iconst 0, 1) := by decide +kernel
theorem dX9_driftAll_69 : decode cX9_driftAll 69 = .ok (.istore_n 1, 1) := by decide +kernel
theorem dX9_driftAll_70 : decode cX9_driftAll 70 = .ok (.iload_n 1, 1) := by decide +kernel
theorem dX9_driftAll_71 : decode cX9_driftAll 71 = .ok (.bipush 36, 2) := by decide +kernel
theorem dX9_driftAll_73 : decode cX9_driftAll 73 = .ok (.if_icmp .ge 54, 3) := by decide +kernel
theorem dX9_driftAll_76 : decode cX9_driftAll 76 = .ok (.aload_n 0, 1) := by decide +kernel
theorem dX9_driftAll_77 : decode cX9_driftAll 77 = .ok (.getfield 9, 3) := by decide +kernel
theorem dX9_driftAll_80 : decode cX9_driftAll 80 = .ok (.iload_n 1, 1) := by decide +kernel
theorem dX9_driftAll_81 : decode cX9_driftAll 81 = .ok (.iaload, 1) := by decide +kernel
theorem dX9_driftAll_82 : decode cX9_driftAll 82 = .ok (.aload_n 0, 1) := by decide +kernel
theorem dX9_driftAll_83 : decode cX9_driftAll 83 = .ok (.getfield 99, 3) := by decide +kernel
theorem dX9_driftAll_86 : decode cX9_driftAll 86 = .ok (.iload_n 1, 1) := by decide +kernel
theorem dX9_driftAll_87 : decode cX9_driftAll 87 = .ok (.iaload, 1) := by decide +kernel
theorem dX9_driftAll_88 : decode cX9_driftAll 88 = .ok (.iadd, 1) := by decide +kernel
theorem dX9_driftAll_89 : decode cX9_driftAll 89 = .ok (.istore_n 2, 1) := by decide +kernel
theorem dX9_driftAll_90 : decode cX9_driftAll 90 = .ok (.aload_n 0, 1) := by decide +kernel
theorem dX9_driftAll_91 : decode cX9_driftAll 91 = .ok (.dup, 1) := by decide +kernel
theorem dX9_driftAll_92 : decode cX9_driftAll 92 = .ok (.getfield 157, 3) := by decide +kernel
theorem dX9_driftAll_95 : decode cX9_driftAll 95 = .ok (.iconst 0, 1) := by decide +kernel
theorem dX9_driftAll_96 : decode cX9_driftAll 96 = .ok (.iload_n 2, 1) := by decide +kernel
theorem dX9_driftAll_97 : decode cX9_driftAll 97 = .ok (.sipush 10000, 3) := by decide +kernel
theorem dX9_driftAll_100 : decode cX9_driftAll 100 = .ok (.isub, 1) := by decide +kernel
theorem dX9_driftAll_101 : decode cX9_driftAll 101 = .ok (.invokestatic 160, 3) := by decide +kernel
theorem dX9_driftAll_104 : decode cX9_driftAll 104 = .ok (.iadd, 1) := by decide +kernel
theorem dX9_driftAll_105 : decode cX9_driftAll 105 = .ok (.putfield 157, 3) := by decide +kernel
theorem dX9_driftAll_108 : decode cX9_driftAll 108 = .ok (.aload_n 0, 1) := by decide +kernel
theorem dX9_driftAll_109 : decode cX9_driftAll 109 = .ok (.getfield 9, 3) := by decide +kernel
theorem dX9_driftAll_112 : decode cX9_driftAll 112 = .ok (.iload_n 1, 1) := by decide +kernel
theorem dX9_driftAll_113 : decode cX9_driftAll 113 = .ok (.sipush 10000, 3) := by decide +kernel
theorem dX9_driftAll_116 : decode cX9_driftAll 116 = .ok (.iload_n 2, 1) := by decide +kernel
theorem dX9_driftAll_117 : decode cX9_driftAll 117 = .ok (.invokestatic 143, 3) := by decide +kernel
theorem dX9_driftAll_120 : decode cX9_driftAll 120 = .ok (.iastore, 1) := by decide +kernel
theorem dX9_driftAll_121 : decode cX9_driftAll 121 = .ok (.iinc 1 1, 3) := by decide +kernel
theorem dX9_driftAll_124 : decode cX9_driftAll 124 = .ok (.goto (-54), 3) := by decide +kernel
theorem dX9_driftAll_127 : decode cX9_driftAll 127 = .ok (.return_, 1) := by decide +kernel
theorem dX9_minute_0 : decode cX9_minute 0 = .ok (.bipush 30, 2) := by decide +kernel
theorem dX9_minute_2 : decode cX9_minute 2 = .ok (.aload_n 0, 1) := by decide +kernel
theorem dX9_minute_3 : decode cX9_minute 3 = .ok (.getfield 20, 3) := by decide +kernel
theorem dX9_minute_6 : decode cX9_minute 6 = .ok (.iload_n 1, 1) := by decide +kernel
theorem dX9_minute_7 : decode cX9_minute 7 = .ok (.iaload, 1) := by decide +kernel
theorem dX9_minute_8 : decode cX9_minute 8 = .ok (.bipush 6, 2) := by decide +kernel
theorem dX9_minute_10 : decode cX9_minute 10 = .ok (.irem, 1) := by decide +kernel
theorem dX9_minute_11 : decode cX9_minute 11 = .ok (.aload_n 0, 1) := by decide +kernel
theorem dX9_minute_12 : decode cX9_minute 12 = .ok (.getfield 20, 3) := by decide +kernel
theorem dX9_minute_15 : decode cX9_minute 15 = .ok (.iload_n 1, 1) := by decide +kernel
theorem dX9_minute_16 : decode cX9_minute 16 = .ok (.iaload, 1) := by decide +kernel
theorem dX9_minute_17 : decode cX9_minute 17 = .ok (.bipush 6, 2) := by decide +kernel
theorem dX9_minute_19 : decode cX9_minute 19 = .ok (.idiv, 1) := by decide +kernel
theorem dX9_minute_20 : decode cX9_minute 20 = .ok (.iadd, 1) := by decide +kernel
theorem dX9_minute_21 : decode cX9_minute 21 = .ok (.iconst 1, 1) := by decide +kernel
theorem dX9_minute_22 : decode cX9_minute 22 = .ok (.iadd, 1) := by decide +kernel
theorem dX9_minute_23 : decode cX9_minute 23 = .ok (.imul, 1) := by decide +kernel
theorem dX9_minute_24 : decode cX9_minute 24 = .ok (.ireturn, 1) := by decide +kernel
theorem dX9_nextBoat_0 : decode cX9_nextBoat 0 = .ok (.iconst (-1), 1) := by decide +kernel
theorem dX9_nextBoat_1 : decode cX9_nextBoat 1 = .ok (.istore_n 1, 1) := by decide +kernel
theorem dX9_nextBoat_2 : decode cX9_nextBoat 2 = .ok (.iconst 0, 1) := by decide +kernel
theorem dX9_nextBoat_3 : decode cX9_nextBoat 3 = .ok (.istore_n 2, 1) := by decide +kernel
theorem dX9_nextBoat_4 : decode cX9_nextBoat 4 = .ok (.iload_n 2, 1) := by decide +kernel
theorem dX9_nextBoat_5 : decode cX9_nextBoat 5 = .ok (.aload_n 0, 1) := by decide +kernel
theorem dX9_nextBoat_6 : decode cX9_nextBoat 6 = .ok (.getfield 126, 3) := by decide +kernel
theorem dX9_nextBoat_9 : decode cX9_nextBoat 9 = .ok (.if_icmp .ge 47, 3) := by decide +kernel
theorem dX9_nextBoat_12 : decode cX9_nextBoat 12 = .ok (.aload_n 0, 1) := by decide +kernel
theorem dX9_nextBoat_13 : decode cX9_nextBoat 13 = .ok (.getfield 105, 3) := by decide +kernel
theorem dX9_nextBoat_16 : decode cX9_nextBoat 16 = .ok (.iload_n 2, 1) := by decide +kernel
theorem dX9_nextBoat_17 : decode cX9_nextBoat 17 = .ok (.baload, 1) := by decide +kernel
theorem dX9_nextBoat_18 : decode cX9_nextBoat 18 = .ok (.ifCond .ne 32, 3) := by decide +kernel
theorem dX9_nextBoat_21 : decode cX9_nextBoat 21 = .ok (.aload_n 0, 1) := by decide +kernel
theorem dX9_nextBoat_22 : decode cX9_nextBoat 22 = .ok (.getfield 26, 3) := by decide +kernel
theorem dX9_nextBoat_25 : decode cX9_nextBoat 25 = .ok (.iload_n 2, 1) := by decide +kernel
theorem dX9_nextBoat_26 : decode cX9_nextBoat 26 = .ok (.iaload, 1) := by decide +kernel
theorem dX9_nextBoat_27 : decode cX9_nextBoat 27 = .ok (.ifCond .le 23, 3) := by decide +kernel
theorem dX9_nextBoat_30 : decode cX9_nextBoat 30 = .ok (.iload_n 1, 1) := by decide +kernel
theorem dX9_nextBoat_31 : decode cX9_nextBoat 31 = .ok (.iconst (-1), 1) := by decide +kernel
theorem dX9_nextBoat_32 : decode cX9_nextBoat 32 = .ok (.if_icmp .eq 16, 3) := by decide +kernel
theorem dX9_nextBoat_35 : decode cX9_nextBoat 35 = .ok (.aload_n 0, 1) := by decide +kernel
theorem dX9_nextBoat_36 : decode cX9_nextBoat 36 = .ok (.iload_n 2, 1) := by decide +kernel
theorem dX9_nextBoat_37 : decode cX9_nextBoat 37 = .ok (.invokevirtual 163, 3) := by decide +kernel
theorem dX9_nextBoat_40 : decode cX9_nextBoat 40 = .ok (.aload_n 0, 1) := by decide +kernel
theorem dX9_nextBoat_41 : decode cX9_nextBoat 41 = .ok (.iload_n 1, 1) := by decide +kernel
theorem dX9_nextBoat_42 : decode cX9_nextBoat 42 = .ok (.invokevirtual 163, 3) := by decide +kernel
theorem dX9_nextBoat_45 : decode cX9_nextBoat 45 = .ok (.if_icmp .ge 5, 3) := by decide +kernel
theorem dX9_nextBoat_48 : decode cX9_nextBoat 48 = .ok (.iload_n 2, 1) := by decide +kernel
theorem dX9_nextBoat_49 : decode cX9_nextBoat 49 = .ok (.istore_n 1, 1) := by decide +kernel
theorem dX9_nextBoat_50 : decode cX9_nextBoat 50 = .ok (.iinc 2 1, 3) := by decide +kernel
theorem dX9_nextBoat_53 : decode cX9_nextBoat 53 = .ok (.goto (-49), 3) := by decide +kernel
theorem dX9_nextBoat_56 : decode cX9_nextBoat 56 = .ok (.iload_n 1, 1) := by decide +kernel
theorem dX9_nextBoat_57 : decode cX9_nextBoat 57 = .ok (.ireturn, 1) := by decide +kernel
theorem dX9_bestYard_0 : decode cX9_bestYard 0 = .ok (.iconst (-1), 1) := by decide +kernel
theorem dX9_bestYard_1 : decode cX9_bestYard 1 = .ok (.istore_n 1, 1) := by decide +kernel
theorem dX9_bestYard_2 : decode cX9_bestYard 2 = .ok (.iconst 0, 1) := by decide +kernel
theorem dX9_bestYard_3 : decode cX9_bestYard 3 = .ok (.istore_n 2, 1) := by decide +kernel
theorem dX9_bestYard_4 : decode cX9_bestYard 4 = .ok (.iload_n 2, 1) := by decide +kernel
theorem dX9_bestYard_5 : decode cX9_bestYard 5 = .ok (.aload_n 0, 1) := by decide +kernel
theorem dX9_bestYard_6 : decode cX9_bestYard 6 = .ok (.getfield 140, 3) := by decide +kernel
theorem dX9_bestYard_9 : decode cX9_bestYard 9 = .ok (.if_icmp .ge 40, 3) := by decide +kernel
theorem dX9_bestYard_12 : decode cX9_bestYard 12 = .ok (.aload_n 0, 1) := by decide +kernel
theorem dX9_bestYard_13 : decode cX9_bestYard 13 = .ok (.getfield 102, 3) := by decide +kernel
theorem dX9_bestYard_16 : decode cX9_bestYard 16 = .ok (.iload_n 2, 1) := by decide +kernel
theorem dX9_bestYard_17 : decode cX9_bestYard 17 = .ok (.iaload, 1) := by decide +kernel
theorem dX9_bestYard_18 : decode cX9_bestYard 18 = .ok (.ifCond .le 25, 3) := by decide +kernel
theorem dX9_bestYard_21 : decode cX9_bestYard 21 = .ok (.iload_n 1, 1) := by decide +kernel
theorem dX9_bestYard_22 : decode cX9_bestYard 22 = .ok (.iconst (-1), 1) := by decide +kernel
theorem dX9_bestYard_23 : decode cX9_bestYard 23 = .ok (.if_icmp .eq 18, 3) := by decide +kernel
theorem dX9_bestYard_26 : decode cX9_bestYard 26 = .ok (.aload_n 0, 1) := by decide +kernel
theorem dX9_bestYard_27 : decode cX9_bestYard 27 = .ok (.getfield 47, 3) := by decide +kernel
theorem dX9_bestYard_30 : decode cX9_bestYard 30 = .ok (.iload_n 2, 1) := by decide +kernel
theorem dX9_bestYard_31 : decode cX9_bestYard 31 = .ok (.iaload, 1) := by decide +kernel
theorem dX9_bestYard_32 : decode cX9_bestYard 32 = .ok (.aload_n 0, 1) := by decide +kernel
theorem dX9_bestYard_33 : decode cX9_bestYard 33 = .ok (.getfield 47, 3) := by decide +kernel
theorem dX9_bestYard_36 : decode cX9_bestYard 36 = .ok (.iload_n 1, 1) := by decide +kernel
theorem dX9_bestYard_37 : decode cX9_bestYard 37 = .ok (.iaload, 1) := by decide +kernel
theorem dX9_bestYard_38 : decode cX9_bestYard 38 = .ok (.if_icmp .le 5, 3) := by decide +kernel
theorem dX9_bestYard_41 : decode cX9_bestYard 41 = .ok (.iload_n 2, 1) := by decide +kernel
theorem dX9_bestYard_42 : decode cX9_bestYard 42 = .ok (.istore_n 1, 1) := by decide +kernel
theorem dX9_bestYard_43 : decode cX9_bestYard 43 = .ok (.iinc 2 1, 3) := by decide +kernel
theorem dX9_bestYard_46 : decode cX9_bestYard 46 = .ok (.goto (-42), 3) := by decide +kernel
theorem dX9_bestYard_49 : decode cX9_bestYard 49 = .ok (.iload_n 1, 1) := by decide +kernel
theorem dX9_bestYard_50 : decode cX9_bestYard 50 = .ok (.ireturn, 1) := by decide +kernel
theorem dX9_sellAll_0 : decode cX9_sellAll 0 = .ok (.iconst 0, 1) := by decide +kernel
theorem dX9_sellAll_1 : decode cX9_sellAll 1 = .ok (.istore_n 1, 1) := by decide +kernel
theorem dX9_sellAll_2 : decode cX9_sellAll 2 = .ok (.iload_n 1, 1) := by decide +kernel
theorem dX9_sellAll_3 : decode cX9_sellAll 3 = .ok (.aload_n 0, 1) := by decide +kernel
theorem dX9_sellAll_4 : decode cX9_sellAll 4 = .ok (.getfield 140, 3) := by decide +kernel
theorem dX9_sellAll_7 : decode cX9_sellAll 7 = .ok (.if_icmp .ge 21, 3) := by decide +kernel
theorem dX9_sellAll_10 : decode cX9_sellAll 10 = .ok (.aload_n 0, 1) := by decide +kernel
theorem dX9_sellAll_11 : decode cX9_sellAll 11 = .ok (.getfield 102, 3) := by decide +kernel
theorem dX9_sellAll_14 : decode cX9_sellAll 14 = .ok (.iload_n 1, 1) := by decide +kernel
theorem dX9_sellAll_15 : decode cX9_sellAll 15 = .ok (.aload_n 0, 1) := by decide +kernel
theorem dX9_sellAll_16 : decode cX9_sellAll 16 = .ok (.getfield 44, 3) := by decide +kernel
theorem dX9_sellAll_19 : decode cX9_sellAll 19 = .ok (.iload_n 1, 1) := by decide +kernel
theorem dX9_sellAll_20 : decode cX9_sellAll 20 = .ok (.iaload, 1) := by decide +kernel
theorem dX9_sellAll_21 : decode cX9_sellAll 21 = .ok (.iastore, 1) := by decide +kernel
theorem dX9_sellAll_22 : decode cX9_sellAll 22 = .ok (.iinc 1 1, 3) := by decide +kernel
theorem dX9_sellAll_25 : decode cX9_sellAll 25 = .ok (.goto (-23), 3) := by decide +kernel
theorem dX9_sellAll_28 : decode cX9_sellAll 28 = .ok (.iconst 0, 1) := by decide +kernel
theorem dX9_sellAll_29 : decode cX9_sellAll 29 = .ok (.istore_n 1, 1) := by decide +kernel
theorem dX9_sellAll_30 : decode cX9_sellAll 30 = .ok (.iload_n 1, 1) := by decide +kernel
theorem dX9_sellAll_31 : decode cX9_sellAll 31 = .ok (.aload_n 0, 1) := by decide +kernel
theorem dX9_sellAll_32 : decode cX9_sellAll 32 = .ok (.getfield 126, 3) := by decide +kernel
theorem dX9_sellAll_35 : decode cX9_sellAll 35 = .ok (.if_icmp .ge 16, 3) := by decide +kernel
theorem dX9_sellAll_38 : decode cX9_sellAll 38 = .ok (.aload_n 0, 1) := by decide +kernel
theorem dX9_sellAll_39 : decode cX9_sellAll 39 = .ok (.getfield 105, 3) := by decide +kernel
theorem dX9_sellAll_42 : decode cX9_sellAll 42 = .ok (.iload_n 1, 1) := by decide +kernel
theorem dX9_sellAll_43 : decode cX9_sellAll 43 = .ok (.iconst 0, 1) := by decide +kernel
theorem dX9_sellAll_44 : decode cX9_sellAll 44 = .ok (.bastore, 1) := by decide +kernel
theorem dX9_sellAll_45 : decode cX9_sellAll 45 = .ok (.iinc 1 1, 3) := by decide +kernel
theorem dX9_sellAll_48 : decode cX9_sellAll 48 = .ok (.goto (-18), 3) := by decide +kernel
theorem dX9_sellAll_51 : decode cX9_sellAll 51 = .ok (.aload_n 0, 1) := by decide +kernel
theorem dX9_sellAll_52 : decode cX9_sellAll 52 = .ok (.invokevirtual 166, 3) := by decide +kernel
theorem dX9_sellAll_55 : decode cX9_sellAll 55 = .ok (.istore_n 1, 1) := by decide +kernel
theorem dX9_sellAll_56 : decode cX9_sellAll 56 = .ok (.iload_n 1, 1) := by decide +kernel
theorem dX9_sellAll_57 : decode cX9_sellAll 57 = .ok (.iconst (-1), 1) := by decide +kernel
theorem dX9_sellAll_58 : decode cX9_sellAll 58 = .ok (.if_icmp .eq 92, 3) := by decide +kernel
theorem dX9_sellAll_61 : decode cX9_sellAll 61 = .ok (.aload_n 0, 1) := by decide +kernel
theorem dX9_sellAll_62 : decode cX9_sellAll 62 = .ok (.getfield 105, 3) := by decide +kernel
theorem dX9_sellAll_65 : decode cX9_sellAll 65 = .ok (.iload_n 1, 1) := by decide +kernel
theorem dX9_sellAll_66 : decode cX9_sellAll 66 = .ok (.iconst 1, 1) := by decide +kernel
theorem dX9_sellAll_67 : decode cX9_sellAll 67 = .ok (.bastore, 1) := by decide +kernel
theorem dX9_sellAll_68 : decode cX9_sellAll 68 = .ok (.aload_n 0, 1) := by decide +kernel
theorem dX9_sellAll_69 : decode cX9_sellAll 69 = .ok (.getfield 26, 3) := by decide +kernel
theorem dX9_sellAll_72 : decode cX9_sellAll 72 = .ok (.iload_n 1, 1) := by decide +kernel
theorem dX9_sellAll_73 : decode cX9_sellAll 73 = .ok (.iaload, 1) := by decide +kernel
theorem dX9_sellAll_74 : decode cX9_sellAll 74 = .ok (.istore_n 2, 1) := by decide +kernel
theorem dX9_sellAll_75 : decode cX9_sellAll 75 = .ok (.aload_n 0, 1) := by decide +kernel
theorem dX9_sellAll_76 : decode cX9_sellAll 76 = .ok (.invokevirtual 170, 3) := by decide +kernel
theorem dX9_sellAll_79 : decode cX9_sellAll 79 = .ok (.istore_n 3, 1) := by decide +kernel
theorem dX9_sellAll_80 : decode cX9_sellAll 80 = .ok (.iload_n 2, 1) := by decide +kernel
theorem dX9_sellAll_81 : decode cX9_sellAll 81 = .ok (.ifCond .le 51, 3) := by decide +kernel
theorem dX9_sellAll_84 : decode cX9_sellAll 84 = .ok (.iload_n 3, 1) := by decide +kernel
theorem dX9_sellAll_85 : decode cX9_sellAll 85 = .ok (.iconst (-1), 1) := by decide +kernel
theorem dX9_sellAll_86 : decode cX9_sellAll 86 = .ok (.if_icmp .eq 46, 3) := by decide +kernel
theorem dX9_sellAll_89 : decode cX9_sellAll 89 = .ok (.aload_n 0, 1) := by decide +kernel
theorem dX9_sellAll_90 : decode cX9_sellAll 90 = .ok (.getfield 173, 3) := by decide +kernel
theorem dX9_sellAll_93 : decode cX9_sellAll 93 = .ok (.sipush 400, 3) := by decide +kernel
theorem dX9_sellAll_96 : decode cX9_sellAll 96 = .ok (.if_icmp .ge 36, 3) := by decide +kernel
theorem dX9_sellAll_99 : decode cX9_sellAll 99 = .ok (.iload_n 2, 1) := by decide +kernel
theorem dX9_sellAll_100 : decode cX9_sellAll 100 = .ok (.aload_n 0, 1) := by decide +kernel
theorem dX9_sellAll_101 : decode cX9_sellAll 101 = .ok (.getfield 102, 3) := by decide +kernel
theorem dX9_sellAll_104 : decode cX9_sellAll 104 = .ok (.iload_n 3, 1) := by decide +kernel
theorem dX9_sellAll_105 : decode cX9_sellAll 105 = .ok (.iaload, 1) := by decide +kernel
theorem dX9_sellAll_106 : decode cX9_sellAll 106 = .ok (.invokestatic 143, 3) := by decide +kernel
theorem dX9_sellAll_109 : decode cX9_sellAll 109 = .ok (.istore 4, 2) := by decide +kernel
theorem dX9_sellAll_111 : decode cX9_sellAll 111 = .ok (.aload_n 0, 1) := by decide +kernel
theorem dX9_sellAll_112 : decode cX9_sellAll 112 = .ok (.iload_n 1, 1) := by decide +kernel
theorem dX9_sellAll_113 : decode cX9_sellAll 113 = .ok (.iload_n 3, 1) := by decide +kernel
theorem dX9_sellAll_114 : decode cX9_sellAll 114 = .ok (.iload 4, 2) := by decide +kernel
theorem dX9_sellAll_116 : decode cX9_sellAll 116 = .ok (.invokevirtual 176, 3) := by decide +kernel
theorem dX9_sellAll_119 : decode cX9_sellAll 119 = .ok (.iload_n 2, 1) := by decide +kernel
theorem dX9_sellAll_120 : decode cX9_sellAll 120 = .ok (.iload 4, 2) := by decide +kernel
theorem dX9_sellAll_122 : decode cX9_sellAll 122 = .ok (.isub, 1) := by decide +kernel
theorem dX9_sellAll_123 : decode cX9_sellAll 123 = .ok (.istore_n 2, 1) := by decide +kernel
theorem dX9_sellAll_124 : decode cX9_sellAll 124 = .ok (.aload_n 0, 1) := by decide +kernel
theorem dX9_sellAll_125 : decode cX9_sellAll 125 = .ok (.invokevirtual 170, 3) := by decide +kernel
theorem dX9_sellAll_128 : decode cX9_sellAll 128 = .ok (.istore_n 3, 1) := by decide +kernel
theorem dX9_sellAll_129 : decode cX9_sellAll 129 = .ok (.goto (-49), 3) := by decide +kernel
theorem dX9_sellAll_132 : decode cX9_sellAll 132 = .ok (.aload_n 0, 1) := by decide +kernel
theorem dX9_sellAll_133 : decode cX9_sellAll 133 = .ok (.dup, 1) := by decide +kernel
theorem dX9_sellAll_134 : decode cX9_sellAll 134 = .ok (.getfield 180, 3) := by decide +kernel
theorem dX9_sellAll_137 : decode cX9_sellAll 137 = .ok (.iload_n 2, 1) := by decide +kernel
theorem dX9_sellAll_138 : decode cX9_sellAll 138 = .ok (.iadd, 1) := by decide +kernel
theorem dX9_sellAll_139 : decode cX9_sellAll 139 = .ok (.putfield 180, 3) := by decide +kernel
theorem dX9_sellAll_142 : decode cX9_sellAll 142 = .ok (.aload_n 0, 1) := by decide +kernel
theorem dX9_sellAll_143 : decode cX9_sellAll 143 = .ok (.invokevirtual 166, 3) := by decide +kernel
theorem dX9_sellAll_146 : decode cX9_sellAll 146 = .ok (.istore_n 1, 1) := by decide +kernel
theorem dX9_sellAll_147 : decode cX9_sellAll 147 = .ok (.goto (-91), 3) := by decide +kernel
theorem dX9_sellAll_150 : decode cX9_sellAll 150 = .ok (.return_, 1) := by decide +kernel
theorem dX9_sell_0 : decode cX9_sell 0 = .ok (.aload_n 0, 1) := by decide +kernel
theorem dX9_sell_1 : decode cX9_sell 1 = .ok (.getfield 102, 3) := by decide +kernel
theorem dX9_sell_4 : decode cX9_sell 4 = .ok (.iload_n 2, 1) := by decide +kernel
theorem dX9_sell_5 : decode cX9_sell 5 = .ok (.dup2, 1) := by decide +kernel
theorem dX9_sell_6 : decode cX9_sell 6 = .ok (.iaload, 1) := by decide +kernel
theorem dX9_sell_7 : decode cX9_sell 7 = .ok (.iload_n 3, 1) := by decide +kernel
theorem dX9_sell_8 : decode cX9_sell 8 = .ok (.isub, 1) := by decide +kernel
theorem dX9_sell_9 : decode cX9_sell 9 = .ok (.iastore, 1) := by decide +kernel
theorem dX9_sell_10 : decode cX9_sell 10 = .ok (.aload_n 0, 1) := by decide +kernel
theorem dX9_sell_11 : decode cX9_sell 11 = .ok (.getfield 29, 3) := by decide +kernel
theorem dX9_sell_14 : decode cX9_sell 14 = .ok (.iload_n 1, 1) := by decide +kernel
theorem dX9_sell_15 : decode cX9_sell 15 = .ok (.dup2, 1) := by decide +kernel
theorem dX9_sell_16 : decode cX9_sell 16 = .ok (.iaload, 1) := by decide +kernel
theorem dX9_sell_17 : decode cX9_sell 17 = .ok (.iload_n 3, 1) := by decide +kernel
theorem dX9_sell_18 : decode cX9_sell 18 = .ok (.aload_n 0, 1) := by decide +kernel
theorem dX9_sell_19 : decode cX9_sell 19 = .ok (.getfield 47, 3) := by decide +kernel
theorem dX9_sell_22 : decode cX9_sell 22 = .ok (.iload_n 2, 1) := by decide +kernel
theorem dX9_sell_23 : decode cX9_sell 23 = .ok (.iaload, 1) := by decide +kernel
theorem dX9_sell_24 : decode cX9_sell 24 = .ok (.imul, 1) := by decide +kernel
theorem dX9_sell_25 : decode cX9_sell 25 = .ok (.iadd, 1) := by decide +kernel
theorem dX9_sell_26 : decode cX9_sell 26 = .ok (.iastore, 1) := by decide +kernel
theorem dX9_sell_27 : decode cX9_sell 27 = .ok (.aload_n 0, 1) := by decide +kernel
theorem dX9_sell_28 : decode cX9_sell 28 = .ok (.getfield 50, 3) := by decide +kernel
theorem dX9_sell_31 : decode cX9_sell 31 = .ok (.aload_n 0, 1) := by decide +kernel
theorem dX9_sell_32 : decode cX9_sell 32 = .ok (.getfield 173, 3) := by decide +kernel
theorem dX9_sell_35 : decode cX9_sell 35 = .ok (.aload_n 0, 1) := by decide +kernel
theorem dX9_sell_36 : decode cX9_sell 36 = .ok (.getfield 183, 3) := by decide +kernel
theorem dX9_sell_39 : decode cX9_sell 39 = .ok (.iastore, 1) := by decide +kernel
theorem dX9_sell_40 : decode cX9_sell 40 = .ok (.aload_n 0, 1) := by decide +kernel
theorem dX9_sell_41 : decode cX9_sell 41 = .ok (.getfield 53, 3) := by decide +kernel
theorem dX9_sell_44 : decode cX9_sell 44 = .ok (.aload_n 0, 1) := by decide +kernel
theorem dX9_sell_45 : decode cX9_sell 45 = .ok (.getfield 173, 3) := by decide +kernel
theorem dX9_sell_48 : decode cX9_sell 48 = .ok (.iload_n 1, 1) := by decide +kernel
theorem dX9_sell_49 : decode cX9_sell 49 = .ok (.iastore, 1) := by decide +kernel
theorem dX9_sell_50 : decode cX9_sell 50 = .ok (.aload_n 0, 1) := by decide +kernel
theorem dX9_sell_51 : decode cX9_sell 51 = .ok (.getfield 56, 3) := by decide +kernel
theorem dX9_sell_54 : decode cX9_sell 54 = .ok (.aload_n 0, 1) := by decide +kernel
theorem dX9_sell_55 : decode cX9_sell 55 = .ok (.getfield 173, 3) := by decide +kernel
theorem dX9_sell_58 : decode cX9_sell 58 = .ok (.aload_n 0, 1) := by decide +kernel
theorem dX9_sell_59 : decode cX9_sell 59 = .ok (.getfield 20, 3) := by decide +kernel
theorem dX9_sell_62 : decode cX9_sell 62 = .ok (.iload_n 1, 1) := by decide +kernel
theorem dX9_sell_63 : decode cX9_sell 63 = .ok (.iaload, 1) := by decide +kernel
theorem dX9_sell_64 : decode cX9_sell 64 = .ok (.iastore, 1) := by decide +kernel
theorem dX9_sell_65 : decode cX9_sell 65 = .ok (.aload_n 0, 1) := by decide +kernel
theorem dX9_sell_66 : decode cX9_sell 66 = .ok (.getfield 59, 3) := by decide +kernel
theorem dX9_sell_69 : decode cX9_sell 69 = .ok (.aload_n 0, 1) := by decide +kernel
theorem dX9_sell_70 : decode cX9_sell 70 = .ok (.getfield 173, 3) := by decide +kernel
theorem dX9_sell_73 : decode cX9_sell 73 = .ok (.iload_n 2, 1) := by decide +kernel
theorem dX9_sell_74 : decode cX9_sell 74 = .ok (.iastore, 1) := by decide +kernel
theorem dX9_sell_75 : decode cX9_sell 75 = .ok (.aload_n 0, 1) := by decide +kernel
theorem dX9_sell_76 : decode cX9_sell 76 = .ok (.getfield 62, 3) := by decide +kernel
theorem dX9_sell_79 : decode cX9_sell 79 = .ok (.aload_n 0, 1) := by decide +kernel
theorem dX9_sell_80 : decode cX9_sell 80 = .ok (.getfield 173, 3) := by decide +kernel
theorem dX9_sell_83 : decode cX9_sell 83 = .ok (.iload_n 3, 1) := by decide +kernel
theorem dX9_sell_84 : decode cX9_sell 84 = .ok (.iastore, 1) := by decide +kernel
theorem dX9_sell_85 : decode cX9_sell 85 = .ok (.aload_n 0, 1) := by decide +kernel
theorem dX9_sell_86 : decode cX9_sell 86 = .ok (.getfield 71, 3) := by decide +kernel
theorem dX9_sell_89 : decode cX9_sell 89 = .ok (.aload_n 0, 1) := by decide +kernel
theorem dX9_sell_90 : decode cX9_sell 90 = .ok (.getfield 173, 3) := by decide +kernel
theorem dX9_sell_93 : decode cX9_sell 93 = .ok (.aload_n 0, 1) := by decide +kernel
theorem dX9_sell_94 : decode cX9_sell 94 = .ok (.iload_n 1, 1) := by decide +kernel
theorem dX9_sell_95 : decode cX9_sell 95 = .ok (.invokevirtual 163, 3) := by decide +kernel
theorem dX9_sell_98 : decode cX9_sell 98 = .ok (.iastore, 1) := by decide +kernel
theorem dX9_sell_99 : decode cX9_sell 99 = .ok (.aload_n 0, 1) := by decide +kernel
theorem dX9_sell_100 : decode cX9_sell 100 = .ok (.getfield 74, 3) := by decide +kernel
theorem dX9_sell_103 : decode cX9_sell 103 = .ok (.aload_n 0, 1) := by decide +kernel
theorem dX9_sell_104 : decode cX9_sell 104 = .ok (.getfield 173, 3) := by decide +kernel
theorem dX9_sell_107 : decode cX9_sell 107 = .ok (.aload_n 0, 1) := by decide +kernel
theorem dX9_sell_108 : decode cX9_sell 108 = .ok (.getfield 47, 3) := by decide +kernel
theorem dX9_sell_111 : decode cX9_sell 111 = .ok (.iload_n 2, 1) := by decide +kernel
theorem dX9_sell_112 : decode cX9_sell 112 = .ok (.iaload, 1) := by decide +kernel
theorem dX9_sell_113 : decode cX9_sell 113 = .ok (.iastore, 1) := by decide +kernel
theorem dX9_sell_114 : decode cX9_sell 114 = .ok (.aload_n 0, 1) := by decide +kernel
theorem dX9_sell_115 : decode cX9_sell 115 = .ok (.dup, 1) := by decide +kernel
theorem dX9_sell_116 : decode cX9_sell 116 = .ok (.getfield 173, 3) := by decide +kernel
theorem dX9_sell_119 : decode cX9_sell 119 = .ok (.iconst 1, 1) := by decide +kernel
theorem dX9_sell_120 : decode cX9_sell 120 = .ok (.iadd, 1) := by decide +kernel
theorem dX9_sell_121 : decode cX9_sell 121 = .ok (.putfield 173, 3) := by decide +kernel
theorem dX9_sell_124 : decode cX9_sell 124 = .ok (.return_, 1) := by decide +kernel
theorem dX9_work_0 : decode cX9_work 0 = .ok (.iconst 0, 1) := by decide +kernel
theorem dX9_work_1 : decode cX9_work 1 = .ok (.istore_n 3, 1) := by decide +kernel
theorem dX9_work_2 : decode cX9_work 2 = .ok (.iload_n 3, 1) := by decide +kernel
theorem dX9_work_3 : decode cX9_work 3 = .ok (.aload_n 0, 1) := by decide +kernel
theorem dX9_work_4 : decode cX9_work 4 = .ok (.getfield 41, 3) := by decide +kernel
theorem dX9_work_7 : decode cX9_work 7 = .ok (.iload_n 1, 1) := by decide +kernel
theorem dX9_work_8 : decode cX9_work 8 = .ok (.iaload, 1) := by decide +kernel
theorem dX9_work_9 : decode cX9_work 9 = .ok (.if_icmp .ge 16, 3) := by decide +kernel
theorem dX9_work_12 : decode cX9_work 12 = .ok (.aload_n 0, 1) := by decide +kernel
theorem dX9_work_13 : decode cX9_work 13 = .ok (.getfield 108, 3) := by decide +kernel
theorem dX9_work_16 : decode cX9_work 16 = .ok (.iload_n 3, 1) := by decide +kernel
theorem dX9_work_17 : decode cX9_work 17 = .ok (.iconst 0, 1) := by decide +kernel
theorem dX9_work_18 : decode cX9_work 18 = .ok (.iastore, 1) := by decide +kernel
theorem dX9_work_19 : decode cX9_work 19 = .ok (.iinc 3 1, 3) := by decide +kernel
theorem dX9_work_22 : decode cX9_work 22 = .ok (.goto (-20), 3) := by decide +kernel
theorem dX9_work_25 : decode cX9_work 25 = .ok (.iload_n 2, 1) := by decide +kernel
theorem dX9_work_26 : decode cX9_work 26 = .ok (.istore_n 3, 1) := by decide +kernel
theorem dX9_work_27 : decode cX9_work 27 = .ok (.iload_n 3, 1) := by decide +kernel
theorem dX9_work_28 : decode cX9_work 28 = .ok (.aload_n 0, 1) := by decide +kernel
theorem dX9_work_29 : decode cX9_work 29 = .ok (.getfield 173, 3) := by decide +kernel
theorem dX9_work_32 : decode cX9_work 32 = .ok (.if_icmp .ge 209, 3) := by decide +kernel
theorem dX9_work_35 : decode cX9_work 35 = .ok (.iconst 0, 1) := by decide +kernel
theorem dX9_work_36 : decode cX9_work 36 = .ok (.istore 4, 2) := by decide +kernel
theorem dX9_work_38 : decode cX9_work 38 = .ok (.aload_n 0, 1) := by decide +kernel
theorem dX9_work_39 : decode cX9_work 39 = .ok (.getfield 59, 3) := by decide +kernel
theorem dX9_work_42 : decode cX9_work 42 = .ok (.iload_n 3, 1) := by decide +kernel
theorem dX9_work_43 : decode cX9_work 43 = .ok (.iaload, 1) := by decide +kernel
theorem dX9_work_44 : decode cX9_work 44 = .ok (.iload_n 1, 1) := by decide +kernel
theorem dX9_work_45 : decode cX9_work 45 = .ok (.if_icmp .ne 190, 3) := by decide +kernel
theorem dX9_work_48 : decode cX9_work 48 = .ok (.iload 4, 2) := by decide +kernel
theorem dX9_work_50 : decode cX9_work 50 = .ok (.aload_n 0, 1) := by decide +kernel
theorem dX9_work_51 : decode cX9_work 51 = .ok (.getfield 62, 3) := by decide +kernel
theorem dX9_work_54 : decode cX9_work 54 = .ok (.iload_n 3, 1) := by decide +kernel
theorem dX9_work_55 : decode cX9_work 55 = .ok (.iaload, 1) := by decide +kernel
theorem dX9_work_56 : decode cX9_work 56 = .ok (.if_icmp .ge 179, 3) := by decide +kernel
theorem dX9_work_59 : decode cX9_work 59 = .ok (.iconst 0, 1) := by decide +kernel
theorem dX9_work_60 : decode cX9_work 60 = .ok (.istore 5, 2) := by decide +kernel
theorem dX9_work_62 : decode cX9_work 62 = .ok (.iconst 1, 1) := by decide +kernel
theorem dX9_work_63 : decode cX9_work 63 = .ok (.istore 6, 2) := by decide +kernel
theorem dX9_work_65 : decode cX9_work 65 = .ok (.iload 6, 2) := by decide +kernel
theorem dX9_work_67 : decode cX9_work 67 = .ok (.aload_n 0, 1) := by decide +kernel
theorem dX9_work_68 : decode cX9_work 68 = .ok (.getfield 41, 3) := by decide +kernel
theorem dX9_work_71 : decode cX9_work 71 = .ok (.iload_n 1, 1) := by decide +kernel
theorem dX9_work_72 : decode cX9_work 72 = .ok (.iaload, 1) := by decide +kernel
theorem dX9_work_73 : decode cX9_work 73 = .ok (.if_icmp .ge 35, 3) := by decide +kernel
theorem dX9_work_76 : decode cX9_work 76 = .ok (.aload_n 0, 1) := by decide +kernel
theorem dX9_work_77 : decode cX9_work 77 = .ok (.getfield 108, 3) := by decide +kernel
theorem dX9_work_80 : decode cX9_work 80 = .ok (.iload 6, 2) := by decide +kernel
theorem dX9_work_82 : decode cX9_work 82 = .ok (.iaload, 1) := by decide +kernel
theorem dX9_work_83 : decode cX9_work 83 = .ok (.aload_n 0, 1) := by decide +kernel
theorem dX9_work_84 : decode cX9_work 84 = .ok (.getfield 108, 3) := by decide +kernel
theorem dX9_work_87 : decode cX9_work 87 = .ok (.iload 5, 2) := by decide +kernel
theorem dX9_work_89 : decode cX9_work 89 = .ok (.iaload, 1) := by decide +kernel
theorem dX9_work_90 : decode cX9_work 90 = .ok (.if_icmp .ge 8, 3) := by decide +kernel
theorem dX9_work_93 : decode cX9_work 93 = .ok (.iload 6, 2) := by decide +kernel
theorem dX9_work_95 : decode cX9_work 95 = .ok (.goto 5, 3) := by decide +kernel
theorem dX9_work_98 : decode cX9_work 98 = .ok (.iload 5, 2) := by decide +kernel
theorem dX9_work_100 : decode cX9_work 100 = .ok (.istore 5, 2) := by decide +kernel
theorem dX9_work_102 : decode cX9_work 102 = .ok (.iinc 6 1, 3) := by decide +kernel
theorem dX9_work_105 : decode cX9_work 105 = .ok (.goto (-40), 3) := by decide +kernel
theorem dX9_work_108 : decode cX9_work 108 = .ok (.aload_n 0, 1) := by decide +kernel
theorem dX9_work_109 : decode cX9_work 109 = .ok (.getfield 108, 3) := by decide +kernel
theorem dX9_work_112 : decode cX9_work 112 = .ok (.iload 5, 2) := by decide +kernel
theorem dX9_work_114 : decode cX9_work 114 = .ok (.iaload, 1) := by decide +kernel
theorem dX9_work_115 : decode cX9_work 115 = .ok (.aload_n 0, 1) := by decide +kernel
theorem dX9_work_116 : decode cX9_work 116 = .ok (.getfield 71, 3) := by decide +kernel
theorem dX9_work_119 : decode cX9_work 119 = .ok (.iload_n 3, 1) := by decide +kernel
theorem dX9_work_120 : decode cX9_work 120 = .ok (.iaload, 1) := by decide +kernel
theorem dX9_work_121 : decode cX9_work 121 = .ok (.invokestatic 160, 3) := by decide +kernel
theorem dX9_work_124 : decode cX9_work 124 = .ok (.istore 6, 2) := by decide +kernel
theorem dX9_work_126 : decode cX9_work 126 = .ok (.iload 6, 2) := by decide +kernel
theorem dX9_work_128 : decode cX9_work 128 = .ok (.aload_n 0, 1) := by decide +kernel
theorem dX9_work_129 : decode cX9_work 129 = .ok (.getfield 71, 3) := by decide +kernel
theorem dX9_work_132 : decode cX9_work 132 = .ok (.iload_n 3, 1) := by decide +kernel
theorem dX9_work_133 : decode cX9_work 133 = .ok (.iaload, 1) := by decide +kernel
theorem dX9_work_134 : decode cX9_work 134 = .ok (.isub, 1) := by decide +kernel
theorem dX9_work_135 : decode cX9_work 135 = .ok (.istore 7, 2) := by decide +kernel
theorem dX9_work_137 : decode cX9_work 137 = .ok (.iload 7, 2) := by decide +kernel
theorem dX9_work_139 : decode cX9_work 139 = .ok (.aload_n 0, 1) := by decide +kernel
theorem dX9_work_140 : decode cX9_work 140 = .ok (.getfield 83, 3) := by decide +kernel
theorem dX9_work_143 : decode cX9_work 143 = .ok (.if_icmp .le 26, 3) := by decide +kernel
theorem dX9_work_146 : decode cX9_work 146 = .ok (.aload_n 0, 1) := by decide +kernel
theorem dX9_work_147 : decode cX9_work 147 = .ok (.getfield 68, 3) := by decide +kernel
theorem dX9_work_150 : decode cX9_work 150 = .ok (.iload_n 3, 1) := by decide +kernel
theorem dX9_work_151 : decode cX9_work 151 = .ok (.dup2, 1) := by decide +kernel
theorem dX9_work_152 : decode cX9_work 152 = .ok (.iaload, 1) := by decide +kernel
theorem dX9_work_153 : decode cX9_work 153 = .ok (.iconst 1, 1) := by decide +kernel
theorem dX9_work_154 : decode cX9_work 154 = .ok (.iadd, 1) := by decide +kernel
theorem dX9_work_155 : decode cX9_work 155 = .ok (.iastore, 1) := by decide +kernel
theorem dX9_work_156 : decode cX9_work 156 = .ok (.aload_n 0, 1) := by decide +kernel
theorem dX9_work_157 : decode cX9_work 157 = .ok (.dup, 1) := by decide +kernel
theorem dX9_work_158 : decode cX9_work 158 = .ok (.getfield 186, 3) := by decide +kernel
theorem dX9_work_161 : decode cX9_work 161 = .ok (.iconst 1, 1) := by decide +kernel
theorem dX9_work_162 : decode cX9_work 162 = .ok (.iadd, 1) := by decide +kernel
theorem dX9_work_163 : decode cX9_work 163 = .ok (.putfield 186, 3) := by decide +kernel
theorem dX9_work_166 : decode cX9_work 166 = .ok (.goto 63, 3) := by decide +kernel
theorem dX9_work_169 : decode cX9_work 169 = .ok (.aload_n 0, 1) := by decide +kernel
theorem dX9_work_170 : decode cX9_work 170 = .ok (.getfield 108, 3) := by decide +kernel
theorem dX9_work_173 : decode cX9_work 173 = .ok (.iload 5, 2) := by decide +kernel
theorem dX9_work_175 : decode cX9_work 175 = .ok (.iload 6, 2) := by decide +kernel
theorem dX9_work_177 : decode cX9_work 177 = .ok (.bipush 12, 2) := by decide +kernel
theorem dX9_work_179 : decode cX9_work 179 = .ok (.iadd, 1) := by decide +kernel
theorem dX9_work_180 : decode cX9_work 180 = .ok (.iastore, 1) := by decide +kernel
theorem dX9_work_181 : decode cX9_work 181 = .ok (.aload_n 0, 1) := by decide +kernel
theorem dX9_work_182 : decode cX9_work 182 = .ok (.getfield 65, 3) := by decide +kernel
theorem dX9_work_185 : decode cX9_work 185 = .ok (.iload_n 3, 1) := by decide +kernel
theorem dX9_work_186 : decode cX9_work 186 = .ok (.dup2, 1) := by decide +kernel
theorem dX9_work_187 : decode cX9_work 187 = .ok (.iaload, 1) := by decide +kernel
theorem dX9_work_188 : decode cX9_work 188 = .ok (.iconst 1, 1) := by decide +kernel
theorem dX9_work_189 : decode cX9_work 189 = .ok (.iadd, 1) := by decide +kernel
theorem dX9_work_190 : decode cX9_work 190 = .ok (.iastore, 1) := by decide +kernel
theorem dX9_work_191 : decode cX9_work 191 = .ok (.aload_n 0, 1) := by decide +kernel
theorem dX9_work_192 : decode cX9_work 192 = .ok (.dup, 1) := by decide +kernel
theorem dX9_work_193 : decode cX9_work 193 = .ok (.getfield 189, 3) := by decide +kernel
theorem dX9_work_196 : decode cX9_work 196 = .ok (.iconst 1, 1) := by decide +kernel
theorem dX9_work_197 : decode cX9_work 197 = .ok (.iadd, 1) := by decide +kernel
theorem dX9_work_198 : decode cX9_work 198 = .ok (.putfield 189, 3) := by decide +kernel
theorem dX9_work_201 : decode cX9_work 201 = .ok (.aload_n 0, 1) := by decide +kernel
theorem dX9_work_202 : decode cX9_work 202 = .ok (.getfield 77, 3) := by decide +kernel
theorem dX9_work_205 : decode cX9_work 205 = .ok (.iload_n 3, 1) := by decide +kernel
theorem dX9_work_206 : decode cX9_work 206 = .ok (.aload_n 0, 1) := by decide +kernel
theorem dX9_work_207 : decode cX9_work 207 = .ok (.getfield 77, 3) := by decide +kernel
theorem dX9_work_210 : decode cX9_work 210 = .ok (.iload_n 3, 1) := by decide +kernel
theorem dX9_work_211 : decode cX9_work 211 = .ok (.iaload, 1) := by decide +kernel
theorem dX9_work_212 : decode cX9_work 212 = .ok (.iload 7, 2) := by decide +kernel
theorem dX9_work_214 : decode cX9_work 214 = .ok (.invokestatic 160, 3) := by decide +kernel
theorem dX9_work_217 : decode cX9_work 217 = .ok (.iastore, 1) := by decide +kernel
theorem dX9_work_218 : decode cX9_work 218 = .ok (.aload_n 0, 1) := by decide +kernel
theorem dX9_work_219 : decode cX9_work 219 = .ok (.getfield 80, 3) := by decide +kernel
theorem dX9_work_222 : decode cX9_work 222 = .ok (.iload_n 3, 1) := by decide +kernel
theorem dX9_work_223 : decode cX9_work 223 = .ok (.iload 6, 2) := by decide +kernel
theorem dX9_work_225 : decode cX9_work 225 = .ok (.bipush 12, 2) := by decide +kernel
theorem dX9_work_227 : decode cX9_work 227 = .ok (.iadd, 1) := by decide +kernel
theorem dX9_work_228 : decode cX9_work 228 = .ok (.iastore, 1) := by decide +kernel
theorem dX9_work_229 : decode cX9_work 229 = .ok (.iinc 4 1, 3) := by decide +kernel
theorem dX9_work_232 : decode cX9_work 232 = .ok (.goto (-194), 3) := by decide +kernel
theorem dX9_work_235 : decode cX9_work 235 = .ok (.iinc 3 1, 3) := by decide +kernel
theorem dX9_work_238 : decode cX9_work 238 = .ok (.goto (-211), 3) := by decide +kernel
theorem dX9_work_241 : decode cX9_work 241 = .ok (.return_, 1) := by decide +kernel
theorem dX9_night_0 : decode cX9_night 0 = .ok (.aload_n 0, 1) := by decide +kernel
theorem dX9_night_1 : decode cX9_night 1 = .ok (.getfield 183, 3) := by decide +kernel
theorem dX9_night_4 : decode cX9_night 4 = .ok (.sipush 300, 3) := by decide +kernel
theorem dX9_night_7 : decode cX9_night 7 = .ok (.if_icmp .ne 5, 3) := by decide +kernel
theorem dX9_night_10 : decode cX9_night 10 = .ok (.iconst (-1), 1) := by decide +kernel
theorem dX9_night_11 : decode cX9_night 11 = .ok (.ireturn, 1) := by decide +kernel
theorem dX9_night_12 : decode cX9_night 12 = .ok (.iconst 0, 1) := by decide +kernel
theorem dX9_night_13 : decode cX9_night 13 = .ok (.istore_n 2, 1) := by decide +kernel
theorem dX9_night_14 : decode cX9_night 14 = .ok (.iconst 0, 1) := by decide +kernel
theorem dX9_night_15 : decode cX9_night 15 = .ok (.istore_n 3, 1) := by decide +kernel
theorem dX9_night_16 : decode cX9_night 16 = .ok (.iload_n 3, 1) := by decide +kernel
theorem dX9_night_17 : decode cX9_night 17 = .ok (.aload_n 0, 1) := by decide +kernel
theorem dX9_night_18 : decode cX9_night 18 = .ok (.getfield 126, 3) := by decide +kernel
theorem dX9_night_21 : decode cX9_night 21 = .ok (.if_icmp .ge 16, 3) := by decide +kernel
theorem dX9_night_24 : decode cX9_night 24 = .ok (.aload_n 0, 1) := by decide +kernel
theorem dX9_night_25 : decode cX9_night 25 = .ok (.getfield 26, 3) := by decide +kernel
theorem dX9_night_28 : decode cX9_night 28 = .ok (.iload_n 3, 1) := by decide +kernel
theorem dX9_night_29 : decode cX9_night 29 = .ok (.iconst 0, 1) := by decide +kernel
theorem dX9_night_30 : decode cX9_night 30 = .ok (.iastore, 1) := by decide +kernel
theorem dX9_night_31 : decode cX9_night 31 = .ok (.iinc 3 1, 3) := by decide +kernel
theorem dX9_night_34 : decode cX9_night 34 = .ok (.goto (-18), 3) := by decide +kernel
theorem dX9_night_37 : decode cX9_night 37 = .ok (.iconst 0, 1) := by decide +kernel
theorem dX9_night_38 : decode cX9_night 38 = .ok (.istore_n 3, 1) := by decide +kernel
theorem dX9_night_39 : decode cX9_night 39 = .ok (.iload_n 3, 1) := by decide +kernel
theorem dX9_night_40 : decode cX9_night 40 = .ok (.bipush 36, 2) := by decide +kernel
theorem dX9_night_42 : decode cX9_night 42 = .ok (.if_icmp .ge 34, 3) := by decide +kernel
theorem dX9_night_45 : decode cX9_night 45 = .ok (.iload_n 2, 1) := by decide +kernel
theorem dX9_night_46 : decode cX9_night 46 = .ok (.iload_n 1, 1) := by decide +kernel
theorem dX9_night_47 : decode cX9_night 47 = .ok (.ifCond .eq 16, 3) := by decide +kernel
theorem dX9_night_50 : decode cX9_night 50 = .ok (.aload_n 0, 1) := by decide +kernel
theorem dX9_night_51 : decode cX9_night 51 = .ok (.getfield 13, 3) := by decide +kernel
theorem dX9_night_54 : decode cX9_night 54 = .ok (.iload_n 3, 1) := by decide +kernel
theorem dX9_night_55 : decode cX9_night 55 = .ok (.baload, 1) := by decide +kernel
theorem dX9_night_56 : decode cX9_night 56 = .ok (.ifCond .eq 7, 3) := by decide +kernel
theorem dX9_night_59 : decode cX9_night 59 = .ok (.iconst 0, 1) := by decide +kernel
theorem dX9_night_60 : decode cX9_night 60 = .ok (.goto 8, 3) := by decide +kernel
theorem dX9_night_63 : decode cX9_night 63 = .ok (.aload_n 0, 1) := by decide +kernel
theorem dX9_night_64 : decode cX9_night 64 = .ok (.iload_n 3, 1) := by decide +kernel
theorem dX9_night_65 : decode cX9_night 65 = .ok (.invokevirtual 192, 3) := by decide +kernel
theorem dX9_night_68 : decode cX9_night 68 = .ok (.iadd, 1) := by decide +kernel
theorem dX9_night_69 : decode cX9_night 69 = .ok (.istore_n 2, 1) := by decide +kernel
theorem dX9_night_70 : decode cX9_night 70 = .ok (.iinc 3 1, 3) := by decide +kernel
theorem dX9_night_73 : decode cX9_night 73 = .ok (.goto (-34), 3) := by decide +kernel
theorem dX9_night_76 : decode cX9_night 76 = .ok (.iload_n 1, 1) := by decide +kernel
theorem dX9_night_77 : decode cX9_night 77 = .ok (.ifCond .eq 7, 3) := by decide +kernel
theorem dX9_night_80 : decode cX9_night 80 = .ok (.aload_n 0, 1) := by decide +kernel
theorem dX9_night_81 : decode cX9_night 81 = .ok (.invokevirtual 195, 3) := by decide +kernel
theorem dX9_night_84 : decode cX9_night 84 = .ok (.aload_n 0, 1) := by decide +kernel
theorem dX9_night_85 : decode cX9_night 85 = .ok (.dup, 1) := by decide +kernel
theorem dX9_night_86 : decode cX9_night 86 = .ok (.getfield 198, 3) := by decide +kernel
theorem dX9_night_89 : decode cX9_night 89 = .ok (.iload_n 2, 1) := by decide +kernel
theorem dX9_night_90 : decode cX9_night 90 = .ok (.iadd, 1) := by decide +kernel
theorem dX9_night_91 : decode cX9_night 91 = .ok (.putfield 198, 3) := by decide +kernel
theorem dX9_night_94 : decode cX9_night 94 = .ok (.aload_n 0, 1) := by decide +kernel
theorem dX9_night_95 : decode cX9_night 95 = .ok (.invokevirtual 201, 3) := by decide +kernel
theorem dX9_night_98 : decode cX9_night 98 = .ok (.aload_n 0, 1) := by decide +kernel
theorem dX9_night_99 : decode cX9_night 99 = .ok (.getfield 173, 3) := by decide +kernel
theorem dX9_night_102 : decode cX9_night 102 = .ok (.istore_n 3, 1) := by decide +kernel
theorem dX9_night_103 : decode cX9_night 103 = .ok (.aload_n 0, 1) := by decide +kernel
theorem dX9_night_104 : decode cX9_night 104 = .ok (.invokevirtual 204, 3) := by decide +kernel
theorem dX9_night_107 : decode cX9_night 107 = .ok (.iconst 0, 1) := by decide +kernel
theorem dX9_night_108 : decode cX9_night 108 = .ok (.istore 4, 2) := by decide +kernel
theorem dX9_night_110 : decode cX9_night 110 = .ok (.iload 4, 2) := by decide +kernel
theorem dX9_night_112 : decode cX9_night 112 = .ok (.aload_n 0, 1) := by decide +kernel
theorem dX9_night_113 : decode cX9_night 113 = .ok (.getfield 140, 3) := by decide +kernel
theorem dX9_night_116 : decode cX9_night 116 = .ok (.if_icmp .ge 16, 3) := by decide +kernel
theorem dX9_night_119 : decode cX9_night 119 = .ok (.aload_n 0, 1) := by decide +kernel
theorem dX9_night_120 : decode cX9_night 120 = .ok (.iload 4, 2) := by decide +kernel
theorem dX9_night_122 : decode cX9_night 122 = .ok (.iload_n 3, 1) := by decide +kernel
theorem dX9_night_123 : decode cX9_night 123 = .ok (.invokevirtual 207, 3) := by decide +kernel
theorem dX9_night_126 : decode cX9_night 126 = .ok (.iinc 4 1, 3) := by decide +kernel
theorem dX9_night_129 : decode cX9_night 129 = .ok (.goto (-19), 3) := by decide +kernel
theorem dX9_night_132 : decode cX9_night 132 = .ok (.aload_n 0, 1) := by decide +kernel
theorem dX9_night_133 : decode cX9_night 133 = .ok (.dup, 1) := by decide +kernel
theorem dX9_night_134 : decode cX9_night 134 = .ok (.getfield 183, 3) := by decide +kernel
theorem dX9_night_137 : decode cX9_night 137 = .ok (.iconst 1, 1) := by decide +kernel
theorem dX9_night_138 : decode cX9_night 138 = .ok (.iadd, 1) := by decide +kernel
theorem dX9_night_139 : decode cX9_night 139 = .ok (.putfield 183, 3) := by decide +kernel
theorem dX9_night_142 : decode cX9_night 142 = .ok (.iload_n 2, 1) := by decide +kernel
theorem dX9_night_143 : decode cX9_night 143 = .ok (.ireturn, 1) := by decide +kernel
theorem dX9_byteOf_0 : decode cX9_byteOf 0 = .ok (.iload 5, 2) := by decide +kernel
theorem dX9_byteOf_2 : decode cX9_byteOf 2 = .ok (.iconst 4, 1) := by decide +kernel
theorem dX9_byteOf_3 : decode cX9_byteOf 3 = .ok (.if_icmp .ge 7, 3) := by decide +kernel
theorem dX9_byteOf_6 : decode cX9_byteOf 6 = .ok (.iload_n 0, 1) := by decide +kernel
theorem dX9_byteOf_7 : decode cX9_byteOf 7 = .ok (.goto 38, 3) := by decide +kernel
theorem dX9_byteOf_10 : decode cX9_byteOf 10 = .ok (.iload 5, 2) := by decide +kernel
theorem dX9_byteOf_12 : decode cX9_byteOf 12 = .ok (.bipush 8, 2) := by decide +kernel
theorem dX9_byteOf_14 : decode cX9_byteOf 14 = .ok (.if_icmp .ge 7, 3) := by decide +kernel
theorem dX9_byteOf_17 : decode cX9_byteOf 17 = .ok (.iload_n 1, 1) := by decide +kernel
theorem dX9_byteOf_18 : decode cX9_byteOf 18 = .ok (.goto 27, 3) := by decide +kernel
theorem dX9_byteOf_21 : decode cX9_byteOf 21 = .ok (.iload 5, 2) := by decide +kernel
theorem dX9_byteOf_23 : decode cX9_byteOf 23 = .ok (.bipush 12, 2) := by decide +kernel
theorem dX9_byteOf_25 : decode cX9_byteOf 25 = .ok (.if_icmp .ge 7, 3) := by decide +kernel
theorem dX9_byteOf_28 : decode cX9_byteOf 28 = .ok (.iload_n 2, 1) := by decide +kernel
theorem dX9_byteOf_29 : decode cX9_byteOf 29 = .ok (.goto 16, 3) := by decide +kernel
theorem dX9_byteOf_32 : decode cX9_byteOf 32 = .ok (.iload 5, 2) := by decide +kernel
theorem dX9_byteOf_34 : decode cX9_byteOf 34 = .ok (.bipush 16, 2) := by decide +kernel
theorem dX9_byteOf_36 : decode cX9_byteOf 36 = .ok (.if_icmp .ge 7, 3) := by decide +kernel
theorem dX9_byteOf_39 : decode cX9_byteOf 39 = .ok (.iload_n 3, 1) := by decide +kernel
theorem dX9_byteOf_40 : decode cX9_byteOf 40 = .ok (.goto 5, 3) := by decide +kernel
theorem dX9_byteOf_43 : decode cX9_byteOf 43 = .ok (.iload 4, 2) := by decide +kernel
theorem dX9_byteOf_45 : decode cX9_byteOf 45 = .ok (.istore 6, 2) := by decide +kernel
theorem dX9_byteOf_47 : decode cX9_byteOf 47 = .ok (.iload 6, 2) := by decide +kernel
theorem dX9_byteOf_49 : decode cX9_byteOf 49 = .ok (.bipush 24, 2) := by decide +kernel
theorem dX9_byteOf_51 : decode cX9_byteOf 51 = .ok (.bipush 8, 2) := by decide +kernel
theorem dX9_byteOf_53 : decode cX9_byteOf 53 = .ok (.iload 5, 2) := by decide +kernel
theorem dX9_byteOf_55 : decode cX9_byteOf 55 = .ok (.iconst 4, 1) := by decide +kernel
theorem dX9_byteOf_56 : decode cX9_byteOf 56 = .ok (.irem, 1) := by decide +kernel
theorem dX9_byteOf_57 : decode cX9_byteOf 57 = .ok (.imul, 1) := by decide +kernel
theorem dX9_byteOf_58 : decode cX9_byteOf 58 = .ok (.isub, 1) := by decide +kernel
theorem dX9_byteOf_59 : decode cX9_byteOf 59 = .ok (.ishr, 1) := by decide +kernel
theorem dX9_byteOf_60 : decode cX9_byteOf 60 = .ok (.sipush 255, 3) := by decide +kernel
theorem dX9_byteOf_63 : decode cX9_byteOf 63 = .ok (.iand, 1) := by decide +kernel
theorem dX9_byteOf_64 : decode cX9_byteOf 64 = .ok (.ireturn, 1) := by decide +kernel
theorem dX9_feed_0 : decode cX9_feed 0 = .ok (.iconst 0, 1) := by decide +kernel
theorem dX9_feed_1 : decode cX9_feed 1 = .ok (.istore 6, 2) := by decide +kernel
theorem dX9_feed_3 : decode cX9_feed 3 = .ok (.iconst 0, 1) := by decide +kernel
theorem dX9_feed_4 : decode cX9_feed 4 = .ok (.istore 7, 2) := by decide +kernel
theorem dX9_feed_6 : decode cX9_feed 6 = .ok (.iload 7, 2) := by decide +kernel
theorem dX9_feed_8 : decode cX9_feed 8 = .ok (.bipush 20, 2) := by decide +kernel
theorem dX9_feed_10 : decode cX9_feed 10 = .ok (.if_icmp .ge 34, 3) := by decide +kernel
theorem dX9_feed_13 : decode cX9_feed 13 = .ok (.iload 6, 2) := by decide +kernel
theorem dX9_feed_15 : decode cX9_feed 15 = .ok (.iload_n 1, 1) := by decide +kernel
theorem dX9_feed_16 : decode cX9_feed 16 = .ok (.iload_n 2, 1) := by decide +kernel
theorem dX9_feed_17 : decode cX9_feed 17 = .ok (.iload_n 3, 1) := by decide +kernel
theorem dX9_feed_18 : decode cX9_feed 18 = .ok (.iload 4, 2) := by decide +kernel
theorem dX9_feed_20 : decode cX9_feed 20 = .ok (.iload 5, 2) := by decide +kernel
theorem dX9_feed_22 : decode cX9_feed 22 = .ok (.iload 7, 2) := by decide +kernel
theorem dX9_feed_24 : decode cX9_feed 24 = .ok (.invokestatic 211, 3) := by decide +kernel
theorem dX9_feed_27 : decode cX9_feed 27 = .ok (.ifCond .eq 7, 3) := by decide +kernel
theorem dX9_feed_30 : decode cX9_feed 30 = .ok (.iconst 1, 1) := by decide +kernel
theorem dX9_feed_31 : decode cX9_feed 31 = .ok (.goto 4, 3) := by decide +kernel
theorem dX9_feed_34 : decode cX9_feed 34 = .ok (.iconst 0, 1) := by decide +kernel
theorem dX9_feed_35 : decode cX9_feed 35 = .ok (.iadd, 1) := by decide +kernel
theorem dX9_feed_36 : decode cX9_feed 36 = .ok (.istore 6, 2) := by decide +kernel
theorem dX9_feed_38 : decode cX9_feed 38 = .ok (.iinc 7 1, 3) := by decide +kernel
theorem dX9_feed_41 : decode cX9_feed 41 = .ok (.goto (-35), 3) := by decide +kernel
theorem dX9_feed_44 : decode cX9_feed 44 = .ok (.aload_n 0, 1) := by decide +kernel
theorem dX9_feed_45 : decode cX9_feed 45 = .ok (.getfield 215, 3) := by decide +kernel
theorem dX9_feed_48 : decode cX9_feed 48 = .ok (.iload 6, 2) := by decide +kernel
theorem dX9_feed_50 : decode cX9_feed 50 = .ok (.iadd, 1) := by decide +kernel
theorem dX9_feed_51 : decode cX9_feed 51 = .ok (.sipush 200, 3) := by decide +kernel
theorem dX9_feed_54 : decode cX9_feed 54 = .ok (.if_icmp .le 5, 3) := by decide +kernel
theorem dX9_feed_57 : decode cX9_feed 57 = .ok (.iconst (-1), 1) := by decide +kernel
theorem dX9_feed_58 : decode cX9_feed 58 = .ok (.ireturn, 1) := by decide +kernel
theorem dX9_feed_59 : decode cX9_feed 59 = .ok (.iconst 0, 1) := by decide +kernel
theorem dX9_feed_60 : decode cX9_feed 60 = .ok (.istore 7, 2) := by decide +kernel
theorem dX9_feed_62 : decode cX9_feed 62 = .ok (.iload 7, 2) := by decide +kernel
theorem dX9_feed_64 : decode cX9_feed 64 = .ok (.bipush 20, 2) := by decide +kernel
theorem dX9_feed_66 : decode cX9_feed 66 = .ok (.if_icmp .ge 49, 3) := by decide +kernel
theorem dX9_feed_69 : decode cX9_feed 69 = .ok (.iload_n 1, 1) := by decide +kernel
theorem dX9_feed_70 : decode cX9_feed 70 = .ok (.iload_n 2, 1) := by decide +kernel
theorem dX9_feed_71 : decode cX9_feed 71 = .ok (.iload_n 3, 1) := by decide +kernel
theorem dX9_feed_72 : decode cX9_feed 72 = .ok (.iload 4, 2) := by decide +kernel
theorem dX9_feed_74 : decode cX9_feed 74 = .ok (.iload 5, 2) := by decide +kernel
theorem dX9_feed_76 : decode cX9_feed 76 = .ok (.iload 7, 2) := by decide +kernel
theorem dX9_feed_78 : decode cX9_feed 78 = .ok (.invokestatic 211, 3) := by decide +kernel
theorem dX9_feed_81 : decode cX9_feed 81 = .ok (.istore 8, 2) := by decide +kernel
theorem dX9_feed_83 : decode cX9_feed 83 = .ok (.iload 8, 2) := by decide +kernel
theorem dX9_feed_85 : decode cX9_feed 85 = .ok (.ifCond .eq 24, 3) := by decide +kernel
theorem dX9_feed_88 : decode cX9_feed 88 = .ok (.aload_n 0, 1) := by decide +kernel
theorem dX9_feed_89 : decode cX9_feed 89 = .ok (.getfield 111, 3) := by decide +kernel
theorem dX9_feed_92 : decode cX9_feed 92 = .ok (.aload_n 0, 1) := by decide +kernel
theorem dX9_feed_93 : decode cX9_feed 93 = .ok (.getfield 215, 3) := by decide +kernel
theorem dX9_feed_96 : decode cX9_feed 96 = .ok (.iload 8, 2) := by decide +kernel
theorem dX9_feed_98 : decode cX9_feed 98 = .ok (.iastore, 1) := by decide +kernel
theorem dX9_feed_99 : decode cX9_feed 99 = .ok (.aload_n 0, 1) := by decide +kernel
theorem dX9_feed_100 : decode cX9_feed 100 = .ok (.dup, 1) := by decide +kernel
theorem dX9_feed_101 : decode cX9_feed 101 = .ok (.getfield 215, 3) := by decide +kernel
theorem dX9_feed_104 : decode cX9_feed 104 = .ok (.iconst 1, 1) := by decide +kernel
theorem dX9_feed_105 : decode cX9_feed 105 = .ok (.iadd, 1) := by decide +kernel
theorem dX9_feed_106 : decode cX9_feed 106 = .ok (.putfield 215, 3) := by decide +kernel
theorem dX9_feed_109 : decode cX9_feed 109 = .ok (.iinc 7 1, 3) := by decide +kernel
theorem dX9_feed_112 : decode cX9_feed 112 = .ok (.goto (-50), 3) := by decide +kernel
theorem dX9_feed_115 : decode cX9_feed 115 = .ok (.aload_n 0, 1) := by decide +kernel
theorem dX9_feed_116 : decode cX9_feed 116 = .ok (.getfield 215, 3) := by decide +kernel
theorem dX9_feed_119 : decode cX9_feed 119 = .ok (.ireturn, 1) := by decide +kernel
theorem dX9_end_0 : decode cX9_end 0 = .ok (.iload_n 1, 1) := by decide +kernel
theorem dX9_end_1 : decode cX9_end 1 = .ok (.ifCond .lt 11, 3) := by decide +kernel
theorem dX9_end_4 : decode cX9_end 4 = .ok (.iload_n 1, 1) := by decide +kernel
theorem dX9_end_5 : decode cX9_end 5 = .ok (.aload_n 0, 1) := by decide +kernel
theorem dX9_end_6 : decode cX9_end 6 = .ok (.getfield 215, 3) := by decide +kernel
theorem dX9_end_9 : decode cX9_end 9 = .ok (.if_icmp .le 5, 3) := by decide +kernel
theorem dX9_end_12 : decode cX9_end 12 = .ok (.iconst 0, 1) := by decide +kernel
theorem dX9_end_13 : decode cX9_end 13 = .ok (.ireturn, 1) := by decide +kernel
theorem dX9_end_14 : decode cX9_end 14 = .ok (.aload_n 0, 1) := by decide +kernel
theorem dX9_end_15 : decode cX9_end 15 = .ok (.iload_n 1, 1) := by decide +kernel
theorem dX9_end_16 : decode cX9_end 16 = .ok (.putfield 215, 3) := by decide +kernel
theorem dX9_end_19 : decode cX9_end 19 = .ok (.iconst 1, 1) := by decide +kernel
theorem dX9_end_20 : decode cX9_end 20 = .ok (.ireturn, 1) := by decide +kernel
theorem dX9_look_0 : decode cX9_look 0 = .ok (.aload_n 0, 1) := by decide +kernel
theorem dX9_look_1 : decode cX9_look 1 = .ok (.getfield 218, 3) := by decide +kernel
theorem dX9_look_4 : decode cX9_look 4 = .ok (.aload_n 0, 1) := by decide +kernel
theorem dX9_look_5 : decode cX9_look 5 = .ok (.getfield 215, 3) := by decide +kernel
theorem dX9_look_8 : decode cX9_look 8 = .ok (.if_icmp .ge 30, 3) := by decide +kernel
theorem dX9_look_11 : decode cX9_look 11 = .ok (.aload_n 0, 1) := by decide +kernel
theorem dX9_look_12 : decode cX9_look 12 = .ok (.getfield 111, 3) := by decide +kernel
theorem dX9_look_15 : decode cX9_look 15 = .ok (.aload_n 0, 1) := by decide +kernel
theorem dX9_look_16 : decode cX9_look 16 = .ok (.getfield 218, 3) := by decide +kernel
theorem dX9_look_19 : decode cX9_look 19 = .ok (.iaload, 1) := by decide +kernel
theorem dX9_look_20 : decode cX9_look 20 = .ok (.bipush 32, 2) := by decide +kernel
theorem dX9_look_22 : decode cX9_look 22 = .ok (.if_icmp .ne 16, 3) := by decide +kernel
theorem dX9_look_25 : decode cX9_look 25 = .ok (.aload_n 0, 1) := by decide +kernel
theorem dX9_look_26 : decode cX9_look 26 = .ok (.dup, 1) := by decide +kernel
theorem dX9_look_27 : decode cX9_look 27 = .ok (.getfield 218, 3) := by decide +kernel
theorem dX9_look_30 : decode cX9_look 30 = .ok (.iconst 1, 1) := by decide +kernel
theorem dX9_look_31 : decode cX9_look 31 = .ok (.iadd, 1) := by decide +kernel
theorem dX9_look_32 : decode cX9_look 32 = .ok (.putfield 218, 3) := by decide +kernel
theorem dX9_look_35 : decode cX9_look 35 = .ok (.goto (-35), 3) := by decide +kernel
theorem dX9_look_38 : decode cX9_look 38 = .ok (.aload_n 0, 1) := by decide +kernel
theorem dX9_look_39 : decode cX9_look 39 = .ok (.getfield 218, 3) := by decide +kernel
theorem dX9_look_42 : decode cX9_look 42 = .ok (.aload_n 0, 1) := by decide +kernel
theorem dX9_look_43 : decode cX9_look 43 = .ok (.getfield 215, 3) := by decide +kernel
theorem dX9_look_46 : decode cX9_look 46 = .ok (.if_icmp .ge 15, 3) := by decide +kernel
theorem dX9_look_49 : decode cX9_look 49 = .ok (.aload_n 0, 1) := by decide +kernel
theorem dX9_look_50 : decode cX9_look 50 = .ok (.getfield 111, 3) := by decide +kernel
theorem dX9_look_53 : decode cX9_look 53 = .ok (.aload_n 0, 1) := by decide +kernel
theorem dX9_look_54 : decode cX9_look 54 = .ok (.getfield 218, 3) := by decide +kernel
theorem dX9_look_57 : decode cX9_look 57 = .ok (.iaload, 1) := by decide +kernel
theorem dX9_look_58 : decode cX9_look 58 = .ok (.goto 4, 3) := by decide +kernel
theorem dX9_look_61 : decode cX9_look 61 = .ok (.iconst (-1), 1) := by decide +kernel
theorem dX9_look_62 : decode cX9_look 62 = .ok (.ireturn, 1) := by decide +kernel
theorem dX9_fail_0 : decode cX9_fail 0 = .ok (.aload_n 0, 1) := by decide +kernel
theorem dX9_fail_1 : decode cX9_fail 1 = .ok (.aload_n 0, 1) := by decide +kernel
theorem dX9_fail_2 : decode cX9_fail 2 = .ok (.getfield 221, 3) := by decide +kernel
theorem dX9_fail_5 : decode cX9_fail 5 = .ok (.iconst (-1), 1) := by decide +kernel
theorem dX9_fail_6 : decode cX9_fail 6 = .ok (.if_icmp .ne 10, 3) := by decide +kernel
theorem dX9_fail_9 : decode cX9_fail 9 = .ok (.aload_n 0, 1) := by decide +kernel
theorem dX9_fail_10 : decode cX9_fail 10 = .ok (.getfield 218, 3) := by decide +kernel
theorem dX9_fail_13 : decode cX9_fail 13 = .ok (.goto 7, 3) := by decide +kernel
theorem dX9_fail_16 : decode cX9_fail 16 = .ok (.aload_n 0, 1) := by decide +kernel
theorem dX9_fail_17 : decode cX9_fail 17 = .ok (.getfield 221, 3) := by decide +kernel
theorem dX9_fail_20 : decode cX9_fail 20 = .ok (.putfield 221, 3) := by decide +kernel
theorem dX9_fail_23 : decode cX9_fail 23 = .ok (.return_, 1) := by decide +kernel
theorem dX9_say_0 : decode cX9_say 0 = .ok (.aload_n 0, 1) := by decide +kernel
theorem dX9_say_1 : decode cX9_say 1 = .ok (.getfield 117, 3) := by decide +kernel
theorem dX9_say_4 : decode cX9_say 4 = .ok (.aload_n 0, 1) := by decide +kernel
theorem dX9_say_5 : decode cX9_say 5 = .ok (.getfield 224, 3) := by decide +kernel
theorem dX9_say_8 : decode cX9_say 8 = .ok (.iload_n 1, 1) := by decide +kernel
theorem dX9_say_9 : decode cX9_say 9 = .ok (.iastore, 1) := by decide +kernel
theorem dX9_say_10 : decode cX9_say 10 = .ok (.aload_n 0, 1) := by decide +kernel
theorem dX9_say_11 : decode cX9_say 11 = .ok (.dup, 1) := by decide +kernel
theorem dX9_say_12 : decode cX9_say 12 = .ok (.getfield 224, 3) := by decide +kernel
theorem dX9_say_15 : decode cX9_say 15 = .ok (.iconst 1, 1) := by decide +kernel
theorem dX9_say_16 : decode cX9_say 16 = .ok (.iadd, 1) := by decide +kernel
theorem dX9_say_17 : decode cX9_say 17 = .ok (.putfield 224, 3) := by decide +kernel
theorem dX9_say_20 : decode cX9_say 20 = .ok (.return_, 1) := by decide +kernel
theorem dX9_unit_0 : decode cX9_unit 0 = .ok (.aload_n 0, 1) := by decide +kernel
theorem dX9_unit_1 : decode cX9_unit 1 = .ok (.invokevirtual 227, 3) := by decide +kernel
theorem dX9_unit_4 : decode cX9_unit 4 = .ok (.istore_n 1, 1) := by decide +kernel
theorem dX9_unit_5 : decode cX9_unit 5 = .ok (.iload_n 1, 1) := by decide +kernel
theorem dX9_unit_6 : decode cX9_unit 6 = .ok (.bipush 40, 2) := by decide +kernel
theorem dX9_unit_8 : decode cX9_unit 8 = .ok (.if_icmp .ne 78, 3) := by decide +kernel
theorem dX9_unit_11 : decode cX9_unit 11 = .ok (.aload_n 0, 1) := by decide +kernel
theorem dX9_unit_12 : decode cX9_unit 12 = .ok (.getfield 230, 3) := by decide +kernel
theorem dX9_unit_15 : decode cX9_unit 15 = .ok (.bipush 8, 2) := by decide +kernel
theorem dX9_unit_17 : decode cX9_unit 17 = .ok (.if_icmp .ge 69, 3) := by decide +kernel
theorem dX9_unit_20 : decode cX9_unit 20 = .ok (.aload_n 0, 1) := by decide +kernel
theorem dX9_unit_21 : decode cX9_unit 21 = .ok (.dup, 1) := by decide +kernel
theorem dX9_unit_22 : decode cX9_unit 22 = .ok (.getfield 230, 3) := by decide +kernel
theorem dX9_unit_25 : decode cX9_unit 25 = .ok (.iconst 1, 1) := by decide +kernel
theorem dX9_unit_26 : decode cX9_unit 26 = .ok (.iadd, 1) := by decide +kernel
theorem dX9_unit_27 : decode cX9_unit 27 = .ok (.putfield 230, 3) := by decide +kernel
theorem dX9_unit_30 : decode cX9_unit 30 = .ok (.aload_n 0, 1) := by decide +kernel
theorem dX9_unit_31 : decode cX9_unit 31 = .ok (.dup, 1) := by decide +kernel
theorem dX9_unit_32 : decode cX9_unit 32 = .ok (.getfield 218, 3) := by decide +kernel
theorem dX9_unit_35 : decode cX9_unit 35 = .ok (.iconst 1, 1) := by decide +kernel
theorem dX9_unit_36 : decode cX9_unit 36 = .ok (.iadd, 1) := by decide +kernel
theorem dX9_unit_37 : decode cX9_unit 37 = .ok (.putfield 218, 3) := by decide +kernel
theorem dX9_unit_40 : decode cX9_unit 40 = .ok (.aload_n 0, 1) := by decide +kernel
theorem dX9_unit_41 : decode cX9_unit 41 = .ok (.invokevirtual 233, 3) := by decide +kernel
theorem dX9_unit_44 : decode cX9_unit 44 = .ok (.aload_n 0, 1) := by decide +kernel
theorem dX9_unit_45 : decode cX9_unit 45 = .ok (.getfield 221, 3) := by decide +kernel
theorem dX9_unit_48 : decode cX9_unit 48 = .ok (.iconst (-1), 1) := by decide +kernel
theorem dX9_unit_49 : decode cX9_unit 49 = .ok (.if_icmp .ne 16, 3) := by decide +kernel
theorem dX9_unit_52 : decode cX9_unit 52 = .ok (.aload_n 0, 1) := by decide +kernel
theorem dX9_unit_53 : decode cX9_unit 53 = .ok (.invokevirtual 227, 3) := by decide +kernel
theorem dX9_unit_56 : decode cX9_unit 56 = .ok (.bipush 41, 2) := by decide +kernel
theorem dX9_unit_58 : decode cX9_unit 58 = .ok (.if_icmp .eq 7, 3) := by decide +kernel
theorem dX9_unit_61 : decode cX9_unit 61 = .ok (.aload_n 0, 1) := by decide +kernel
theorem dX9_unit_62 : decode cX9_unit 62 = .ok (.invokevirtual 236, 3) := by decide +kernel
theorem dX9_unit_65 : decode cX9_unit 65 = .ok (.aload_n 0, 1) := by decide +kernel
theorem dX9_unit_66 : decode cX9_unit 66 = .ok (.dup, 1) := by decide +kernel
theorem dX9_unit_67 : decode cX9_unit 67 = .ok (.getfield 218, 3) := by decide +kernel
theorem dX9_unit_70 : decode cX9_unit 70 = .ok (.iconst 1, 1) := by decide +kernel
theorem dX9_unit_71 : decode cX9_unit 71 = .ok (.iadd, 1) := by decide +kernel
theorem dX9_unit_72 : decode cX9_unit 72 = .ok (.putfield 218, 3) := by decide +kernel
theorem dX9_unit_75 : decode cX9_unit 75 = .ok (.aload_n 0, 1) := by decide +kernel
theorem dX9_unit_76 : decode cX9_unit 76 = .ok (.dup, 1) := by decide +kernel
theorem dX9_unit_77 : decode cX9_unit 77 = .ok (.getfield 230, 3) := by decide +kernel
theorem dX9_unit_80 : decode cX9_unit 80 = .ok (.iconst 1, 1) := by decide +kernel
theorem dX9_unit_81 : decode cX9_unit 81 = .ok (.isub, 1) := by decide +kernel
theorem dX9_unit_82 : decode cX9_unit 82 = .ok (.putfield 230, 3) := by decide +kernel
theorem dX9_unit_85 : decode cX9_unit 85 = .ok (.return_, 1) := by decide +kernel
theorem dX9_unit_86 : decode cX9_unit 86 = .ok (.iload_n 1, 1) := by decide +kernel
theorem dX9_unit_87 : decode cX9_unit 87 = .ok (.bipush 99, 2) := by decide +kernel
theorem dX9_unit_89 : decode cX9_unit 89 = .ok (.if_icmp .ne 7, 3) := by decide +kernel
theorem dX9_unit_92 : decode cX9_unit 92 = .ok (.iconst 0, 1) := by decide +kernel
theorem dX9_unit_93 : decode cX9_unit 93 = .ok (.goto 44, 3) := by decide +kernel
theorem dX9_unit_96 : decode cX9_unit 96 = .ok (.iload_n 1, 1) := by decide +kernel
theorem dX9_unit_97 : decode cX9_unit 97 = .ok (.bipush 115, 2) := by decide +kernel
theorem dX9_unit_99 : decode cX9_unit 99 = .ok (.if_icmp .ne 7, 3) := by decide +kernel
theorem dX9_unit_102 : decode cX9_unit 102 = .ok (.iconst 1, 1) := by decide +kernel
theorem dX9_unit_103 : decode cX9_unit 103 = .ok (.goto 34, 3) := by decide +kernel
theorem dX9_unit_106 : decode cX9_unit 106 = .ok (.iload_n 1, 1) := by decide +kernel
theorem dX9_unit_107 : decode cX9_unit 107 = .ok (.bipush 119, 2) := by decide +kernel
theorem dX9_unit_109 : decode cX9_unit 109 = .ok (.if_icmp .ne 7, 3) := by decide +kernel
theorem dX9_unit_112 : decode cX9_unit 112 = .ok (.iconst 2, 1) := by decide +kernel
theorem dX9_unit_113 : decode cX9_unit 113 = .ok (.goto 24, 3) := by decide +kernel
theorem dX9_unit_116 : decode cX9_unit 116 = .ok (.iload_n 1, 1) := by decide +kernel
theorem dX9_unit_117 : decode cX9_unit 117 = .ok (.bipush 97, 2) := by decide +kernel
theorem dX9_unit_119 : decode cX9_unit 119 = .ok (.if_icmp .ne 7, 3) := by decide +kernel
theorem dX9_unit_122 : decode cX9_unit 122 = .ok (.iconst 3, 1) := by decide +kernel
theorem dX9_unit_123 : decode cX9_unit 123 = .ok (.goto 14, 3) := by decide +kernel
theorem dX9_unit_126 : decode cX9_unit 126 = .ok (.iload_n 1, 1) := by decide +kernel
theorem dX9_unit_127 : decode cX9_unit 127 = .ok (.bipush 112, 2) := by decide +kernel
theorem dX9_unit_129 : decode cX9_unit 129 = .ok (.if_icmp .ne 7, 3) := by decide +kernel
theorem dX9_unit_132 : decode cX9_unit 132 = .ok (.iconst 4, 1) := by decide +kernel
theorem dX9_unit_133 : decode cX9_unit 133 = .ok (.goto 4, 3) := by decide +kernel
theorem dX9_unit_136 : decode cX9_unit 136 = .ok (.iconst (-1), 1) := by decide +kernel
theorem dX9_unit_137 : decode cX9_unit 137 = .ok (.istore_n 2, 1) := by decide +kernel
theorem dX9_unit_138 : decode cX9_unit 138 = .ok (.iload_n 2, 1) := by decide +kernel
theorem dX9_unit_139 : decode cX9_unit 139 = .ok (.iconst (-1), 1) := by decide +kernel
theorem dX9_unit_140 : decode cX9_unit 140 = .ok (.if_icmp .ne 8, 3) := by decide +kernel
theorem dX9_unit_143 : decode cX9_unit 143 = .ok (.aload_n 0, 1) := by decide +kernel
theorem dX9_unit_144 : decode cX9_unit 144 = .ok (.invokevirtual 236, 3) := by decide +kernel
theorem dX9_unit_147 : decode cX9_unit 147 = .ok (.return_, 1) := by decide +kernel
theorem dX9_unit_148 : decode cX9_unit 148 = .ok (.aload_n 0, 1) := by decide +kernel
theorem dX9_unit_149 : decode cX9_unit 149 = .ok (.dup, 1) := by decide +kernel
theorem dX9_unit_150 : decode cX9_unit 150 = .ok (.getfield 218, 3) := by decide +kernel
theorem dX9_unit_153 : decode cX9_unit 153 = .ok (.iconst 1, 1) := by decide +kernel
theorem dX9_unit_154 : decode cX9_unit 154 = .ok (.iadd, 1) := by decide +kernel
theorem dX9_unit_155 : decode cX9_unit 155 = .ok (.putfield 218, 3) := by decide +kernel
theorem dX9_unit_158 : decode cX9_unit 158 = .ok (.aload_n 0, 1) := by decide +kernel
theorem dX9_unit_159 : decode cX9_unit 159 = .ok (.invokevirtual 227, 3) := by decide +kernel
theorem dX9_unit_162 : decode cX9_unit 162 = .ok (.istore_n 3, 1) := by decide +kernel
theorem dX9_unit_163 : decode cX9_unit 163 = .ok (.iload_n 3, 1) := by decide +kernel
theorem dX9_unit_164 : decode cX9_unit 164 = .ok (.bipush 61, 2) := by decide +kernel
theorem dX9_unit_166 : decode cX9_unit 166 = .ok (.if_icmp .eq 20, 3) := by decide +kernel
theorem dX9_unit_169 : decode cX9_unit 169 = .ok (.iload_n 3, 1) := by decide +kernel
theorem dX9_unit_170 : decode cX9_unit 170 = .ok (.bipush 60, 2) := by decide +kernel
theorem dX9_unit_172 : decode cX9_unit 172 = .ok (.if_icmp .eq 14, 3) := by decide +kernel
theorem dX9_unit_175 : decode cX9_unit 175 = .ok (.iload_n 3, 1) := by decide +kernel
theorem dX9_unit_176 : decode cX9_unit 176 = .ok (.bipush 62, 2) := by decide +kernel
theorem dX9_unit_178 : decode cX9_unit 178 = .ok (.if_icmp .eq 8, 3) := by decide +kernel
theorem dX9_unit_181 : decode cX9_unit 181 = .ok (.aload_n 0, 1) := by decide +kernel
theorem dX9_unit_182 : decode cX9_unit 182 = .ok (.invokevirtual 236, 3) := by decide +kernel
theorem dX9_unit_185 : decode cX9_unit 185 = .ok (.return_, 1) := by decide +kernel
theorem dX9_unit_186 : decode cX9_unit 186 = .ok (.aload_n 0, 1) := by decide +kernel
theorem dX9_unit_187 : decode cX9_unit 187 = .ok (.dup, 1) := by decide +kernel
theorem dX9_unit_188 : decode cX9_unit 188 = .ok (.getfield 218, 3) := by decide +kernel
theorem dX9_unit_191 : decode cX9_unit 191 = .ok (.iconst 1, 1) := by decide +kernel
theorem dX9_unit_192 : decode cX9_unit 192 = .ok (.iadd, 1) := by decide +kernel
theorem dX9_unit_193 : decode cX9_unit 193 = .ok (.putfield 218, 3) := by decide +kernel
theorem dX9_unit_196 : decode cX9_unit 196 = .ok (.aload_n 0, 1) := by decide +kernel
theorem dX9_unit_197 : decode cX9_unit 197 = .ok (.iconst 0, 1) := by decide +kernel
theorem dX9_unit_198 : decode cX9_unit 198 = .ok (.invokevirtual 239, 3) := by decide +kernel
theorem dX9_unit_201 : decode cX9_unit 201 = .ok (.aload_n 0, 1) := by decide +kernel
theorem dX9_unit_202 : decode cX9_unit 202 = .ok (.iload_n 2, 1) := by decide +kernel
theorem dX9_unit_203 : decode cX9_unit 203 = .ok (.invokevirtual 239, 3) := by decide +kernel
theorem dX9_unit_206 : decode cX9_unit 206 = .ok (.aload_n 0, 1) := by decide +kernel
theorem dX9_unit_207 : decode cX9_unit 207 = .ok (.iload_n 3, 1) := by decide +kernel
theorem dX9_unit_208 : decode cX9_unit 208 = .ok (.invokevirtual 239, 3) := by decide +kernel
theorem dX9_unit_211 : decode cX9_unit 211 = .ok (.aload_n 0, 1) := by decide +kernel
theorem dX9_unit_212 : decode cX9_unit 212 = .ok (.invokevirtual 243, 3) := by decide +kernel
theorem dX9_unit_215 : decode cX9_unit 215 = .ok (.return_, 1) := by decide +kernel
theorem dX9_number_0 : decode cX9_number 0 = .ok (.aload_n 0, 1) := by decide +kernel
theorem dX9_number_1 : decode cX9_number 1 = .ok (.invokevirtual 227, 3) := by decide +kernel
theorem dX9_number_4 : decode cX9_number 4 = .ok (.istore_n 1, 1) := by decide +kernel
theorem dX9_number_5 : decode cX9_number 5 = .ok (.iload_n 1, 1) := by decide +kernel
theorem dX9_number_6 : decode cX9_number 6 = .ok (.bipush 48, 2) := by decide +kernel
theorem dX9_number_8 : decode cX9_number 8 = .ok (.if_icmp .lt 9, 3) := by decide +kernel
theorem dX9_number_11 : decode cX9_number 11 = .ok (.iload_n 1, 1) := by decide +kernel
theorem dX9_number_12 : decode cX9_number 12 = .ok (.bipush 57, 2) := by decide +kernel
theorem dX9_number_14 : decode cX9_number 14 = .ok (.if_icmp .le 8, 3) := by decide +kernel
theorem dX9_number_17 : decode cX9_number 17 = .ok (.aload_n 0, 1) := by decide +kernel
theorem dX9_number_18 : decode cX9_number 18 = .ok (.invokevirtual 236, 3) := by decide +kernel
theorem dX9_number_21 : decode cX9_number 21 = .ok (.return_, 1) := by decide +kernel
theorem dX9_number_22 : decode cX9_number 22 = .ok (.iconst 0, 1) := by decide +kernel
theorem dX9_number_23 : decode cX9_number 23 = .ok (.istore_n 2, 1) := by decide +kernel
theorem dX9_number_24 : decode cX9_number 24 = .ok (.iconst 0, 1) := by decide +kernel
theorem dX9_number_25 : decode cX9_number 25 = .ok (.istore_n 3, 1) := by decide +kernel
theorem dX9_number_26 : decode cX9_number 26 = .ok (.aload_n 0, 1) := by decide +kernel
theorem dX9_number_27 : decode cX9_number 27 = .ok (.getfield 218, 3) := by decide +kernel
theorem dX9_number_30 : decode cX9_number 30 = .ok (.aload_n 0, 1) := by decide +kernel
theorem dX9_number_31 : decode cX9_number 31 = .ok (.getfield 215, 3) := by decide +kernel
theorem dX9_number_34 : decode cX9_number 34 = .ok (.if_icmp .ge 75, 3) := by decide +kernel
theorem dX9_number_37 : decode cX9_number 37 = .ok (.aload_n 0, 1) := by decide +kernel
theorem dX9_number_38 : decode cX9_number 38 = .ok (.getfield 111, 3) := by decide +kernel
theorem dX9_number_41 : decode cX9_number 41 = .ok (.aload_n 0, 1) := by decide +kernel
theorem dX9_number_42 : decode cX9_number 42 = .ok (.getfield 218, 3) := by decide +kernel
theorem dX9_number_45 : decode cX9_number 45 = .ok (.iaload, 1) := by decide +kernel
theorem dX9_number_46 : decode cX9_number 46 = .ok (.bipush 48, 2) := by decide +kernel
theorem dX9_number_48 : decode cX9_number 48 = .ok (.if_icmp .lt 61, 3) := by decide +kernel
theorem dX9_number_51 : decode cX9_number 51 = .ok (.aload_n 0, 1) := by decide +kernel
theorem dX9_number_52 : decode cX9_number 52 = .ok (.getfield 111, 3) := by decide +kernel
theorem dX9_number_55 : decode cX9_number 55 = .ok (.aload_n 0, 1) := by decide +kernel
theorem dX9_number_56 : decode cX9_number 56 = .ok (.getfield 218, 3) := by decide +kernel
theorem dX9_number_59 : decode cX9_number 59 = .ok (.iaload, 1) := by decide +kernel
theorem dX9_number_60 : decode cX9_number 60 = .ok (.bipush 57, 2) := by decide +kernel
theorem dX9_number_62 : decode cX9_number 62 = .ok (.if_icmp .gt 47, 3) := by decide +kernel
theorem dX9_number_65 : decode cX9_number 65 = .ok (.iload_n 3, 1) := by decide +kernel
theorem dX9_number_66 : decode cX9_number 66 = .ok (.iconst 5, 1) := by decide +kernel
theorem dX9_number_67 : decode cX9_number 67 = .ok (.if_icmp .ne 8, 3) := by decide +kernel
theorem dX9_number_70 : decode cX9_number 70 = .ok (.aload_n 0, 1) := by decide +kernel
theorem dX9_number_71 : decode cX9_number 71 = .ok (.invokevirtual 236, 3) := by decide +kernel
theorem dX9_number_74 : decode cX9_number 74 = .ok (.return_, 1) := by decide +kernel
theorem dX9_number_75 : decode cX9_number 75 = .ok (.bipush 10, 2) := by decide +kernel
theorem dX9_number_77 : decode cX9_number 77 = .ok (.iload_n 2, 1) := by decide +kernel
theorem dX9_number_78 : decode cX9_number 78 = .ok (.imul, 1) := by decide +kernel
theorem dX9_number_79 : decode cX9_number 79 = .ok (.aload_n 0, 1) := by decide +kernel
theorem dX9_number_80 : decode cX9_number 80 = .ok (.getfield 111, 3) := by decide +kernel
theorem dX9_number_83 : decode cX9_number 83 = .ok (.aload_n 0, 1) := by decide +kernel
theorem dX9_number_84 : decode cX9_number 84 = .ok (.getfield 218, 3) := by decide +kernel
theorem dX9_number_87 : decode cX9_number 87 = .ok (.iaload, 1) := by decide +kernel
theorem dX9_number_88 : decode cX9_number 88 = .ok (.iadd, 1) := by decide +kernel
theorem dX9_number_89 : decode cX9_number 89 = .ok (.bipush 48, 2) := by decide +kernel
theorem dX9_number_91 : decode cX9_number 91 = .ok (.isub, 1) := by decide +kernel
theorem dX9_number_92 : decode cX9_number 92 = .ok (.istore_n 2, 1) := by decide +kernel
theorem dX9_number_93 : decode cX9_number 93 = .ok (.iinc 3 1, 3) := by decide +kernel
theorem dX9_number_96 : decode cX9_number 96 = .ok (.aload_n 0, 1) := by decide +kernel
theorem dX9_number_97 : decode cX9_number 97 = .ok (.dup, 1) := by decide +kernel
theorem dX9_number_98 : decode cX9_number 98 = .ok (.getfield 218, 3) := by decide +kernel
theorem dX9_number_101 : decode cX9_number 101 = .ok (.iconst 1, 1) := by decide +kernel
theorem dX9_number_102 : decode cX9_number 102 = .ok (.iadd, 1) := by decide +kernel
theorem dX9_number_103 : decode cX9_number 103 = .ok (.putfield 218, 3) := by decide +kernel
theorem dX9_number_106 : decode cX9_number 106 = .ok (.goto (-80), 3) := by decide +kernel
theorem dX9_number_109 : decode cX9_number 109 = .ok (.aload_n 0, 1) := by decide +kernel
theorem dX9_number_110 : decode cX9_number 110 = .ok (.iload_n 2, 1) := by decide +kernel
theorem dX9_number_111 : decode cX9_number 111 = .ok (.invokevirtual 239, 3) := by decide +kernel
theorem dX9_number_114 : decode cX9_number 114 = .ok (.return_, 1) := by decide +kernel
theorem dX9_part_0 : decode cX9_part 0 = .ok (.aload_n 0, 1) := by decide +kernel
theorem dX9_part_1 : decode cX9_part 1 = .ok (.invokevirtual 246, 3) := by decide +kernel
theorem dX9_part_4 : decode cX9_part 4 = .ok (.aload_n 0, 1) := by decide +kernel
theorem dX9_part_5 : decode cX9_part 5 = .ok (.getfield 221, 3) := by decide +kernel
theorem dX9_part_8 : decode cX9_part 8 = .ok (.iconst (-1), 1) := by decide +kernel
theorem dX9_part_9 : decode cX9_part 9 = .ok (.if_icmp .ne 34, 3) := by decide +kernel
theorem dX9_part_12 : decode cX9_part 12 = .ok (.aload_n 0, 1) := by decide +kernel
theorem dX9_part_13 : decode cX9_part 13 = .ok (.invokevirtual 227, 3) := by decide +kernel
theorem dX9_part_16 : decode cX9_part 16 = .ok (.bipush 38, 2) := by decide +kernel
theorem dX9_part_18 : decode cX9_part 18 = .ok (.if_icmp .ne 25, 3) := by decide +kernel
theorem dX9_part_21 : decode cX9_part 21 = .ok (.aload_n 0, 1) := by decide +kernel
theorem dX9_part_22 : decode cX9_part 22 = .ok (.dup, 1) := by decide +kernel
theorem dX9_part_23 : decode cX9_part 23 = .ok (.getfield 218, 3) := by decide +kernel
theorem dX9_part_26 : decode cX9_part 26 = .ok (.iconst 1, 1) := by decide +kernel
theorem dX9_part_27 : decode cX9_part 27 = .ok (.iadd, 1) := by decide +kernel
theorem dX9_part_28 : decode cX9_part 28 = .ok (.putfield 218, 3) := by decide +kernel
theorem dX9_part_31 : decode cX9_part 31 = .ok (.aload_n 0, 1) := by decide +kernel
theorem dX9_part_32 : decode cX9_part 32 = .ok (.invokevirtual 246, 3) := by decide +kernel
theorem dX9_part_35 : decode cX9_part 35 = .ok (.aload_n 0, 1) := by decide +kernel
theorem dX9_part_36 : decode cX9_part 36 = .ok (.iconst 1, 1) := by decide +kernel
theorem dX9_part_37 : decode cX9_part 37 = .ok (.invokevirtual 239, 3) := by decide +kernel
theorem dX9_part_40 : decode cX9_part 40 = .ok (.goto (-36), 3) := by decide +kernel
theorem dX9_part_43 : decode cX9_part 43 = .ok (.return_, 1) := by decide +kernel
theorem dX9_whole_0 : decode cX9_whole 0 = .ok (.aload_n 0, 1) := by decide +kernel
theorem dX9_whole_1 : decode cX9_whole 1 = .ok (.invokevirtual 249, 3) := by decide +kernel
theorem dX9_whole_4 : decode cX9_whole 4 = .ok (.aload_n 0, 1) := by decide +kernel
theorem dX9_whole_5 : decode cX9_whole 5 = .ok (.getfield 221, 3) := by decide +kernel
theorem dX9_whole_8 : decode cX9_whole 8 = .ok (.iconst (-1), 1) := by decide +kernel
theorem dX9_whole_9 : decode cX9_whole 9 = .ok (.if_icmp .ne 34, 3) := by decide +kernel
theorem dX9_whole_12 : decode cX9_whole 12 = .ok (.aload_n 0, 1) := by decide +kernel
theorem dX9_whole_13 : decode cX9_whole 13 = .ok (.invokevirtual 227, 3) := by decide +kernel
theorem dX9_whole_16 : decode cX9_whole 16 = .ok (.bipush 124, 2) := by decide +kernel
theorem dX9_whole_18 : decode cX9_whole 18 = .ok (.if_icmp .ne 25, 3) := by decide +kernel
theorem dX9_whole_21 : decode cX9_whole 21 = .ok (.aload_n 0, 1) := by decide +kernel
theorem dX9_whole_22 : decode cX9_whole 22 = .ok (.dup, 1) := by decide +kernel
theorem dX9_whole_23 : decode cX9_whole 23 = .ok (.getfield 218, 3) := by decide +kernel
theorem dX9_whole_26 : decode cX9_whole 26 = .ok (.iconst 1, 1) := by decide +kernel
theorem dX9_whole_27 : decode cX9_whole 27 = .ok (.iadd, 1) := by decide +kernel
theorem dX9_whole_28 : decode cX9_whole 28 = .ok (.putfield 218, 3) := by decide +kernel
theorem dX9_whole_31 : decode cX9_whole 31 = .ok (.aload_n 0, 1) := by decide +kernel
theorem dX9_whole_32 : decode cX9_whole 32 = .ok (.invokevirtual 249, 3) := by decide +kernel
theorem dX9_whole_35 : decode cX9_whole 35 = .ok (.aload_n 0, 1) := by decide +kernel
theorem dX9_whole_36 : decode cX9_whole 36 = .ok (.iconst 2, 1) := by decide +kernel
theorem dX9_whole_37 : decode cX9_whole 37 = .ok (.invokevirtual 239, 3) := by decide +kernel
theorem dX9_whole_40 : decode cX9_whole 40 = .ok (.goto (-36), 3) := by decide +kernel
theorem dX9_whole_43 : decode cX9_whole 43 = .ok (.return_, 1) := by decide +kernel
theorem dX9_fault_0 : decode cX9_fault 0 = .ok (.aload_n 0, 1) := by decide +kernel
theorem dX9_fault_1 : decode cX9_fault 1 = .ok (.iconst 0, 1) := by decide +kernel
theorem dX9_fault_2 : decode cX9_fault 2 = .ok (.putfield 218, 3) := by decide +kernel
theorem dX9_fault_5 : decode cX9_fault 5 = .ok (.aload_n 0, 1) := by decide +kernel
theorem dX9_fault_6 : decode cX9_fault 6 = .ok (.iconst (-1), 1) := by decide +kernel
theorem dX9_fault_7 : decode cX9_fault 7 = .ok (.putfield 221, 3) := by decide +kernel
theorem dX9_fault_10 : decode cX9_fault 10 = .ok (.aload_n 0, 1) := by decide +kernel
theorem dX9_fault_11 : decode cX9_fault 11 = .ok (.iconst 0, 1) := by decide +kernel
theorem dX9_fault_12 : decode cX9_fault 12 = .ok (.putfield 230, 3) := by decide +kernel
theorem dX9_fault_15 : decode cX9_fault 15 = .ok (.aload_n 0, 1) := by decide +kernel
theorem dX9_fault_16 : decode cX9_fault 16 = .ok (.iconst 0, 1) := by decide +kernel
theorem dX9_fault_17 : decode cX9_fault 17 = .ok (.putfield 224, 3) := by decide +kernel
theorem dX9_fault_20 : decode cX9_fault 20 = .ok (.aload_n 0, 1) := by decide +kernel
theorem dX9_fault_21 : decode cX9_fault 21 = .ok (.invokevirtual 233, 3) := by decide +kernel
theorem dX9_fault_24 : decode cX9_fault 24 = .ok (.aload_n 0, 1) := by decide +kernel
theorem dX9_fault_25 : decode cX9_fault 25 = .ok (.getfield 221, 3) := by decide +kernel
theorem dX9_fault_28 : decode cX9_fault 28 = .ok (.iconst (-1), 1) := by decide +kernel
theorem dX9_fault_29 : decode cX9_fault 29 = .ok (.if_icmp .ne 15, 3) := by decide +kernel
theorem dX9_fault_32 : decode cX9_fault 32 = .ok (.aload_n 0, 1) := by decide +kernel
theorem dX9_fault_33 : decode cX9_fault 33 = .ok (.invokevirtual 227, 3) := by decide +kernel
theorem dX9_fault_36 : decode cX9_fault 36 = .ok (.iconst (-1), 1) := by decide +kernel
theorem dX9_fault_37 : decode cX9_fault 37 = .ok (.if_icmp .eq 7, 3) := by decide +kernel
theorem dX9_fault_40 : decode cX9_fault 40 = .ok (.aload_n 0, 1) := by decide +kernel
theorem dX9_fault_41 : decode cX9_fault 41 = .ok (.invokevirtual 236, 3) := by decide +kernel
theorem dX9_fault_44 : decode cX9_fault 44 = .ok (.aload_n 0, 1) := by decide +kernel
theorem dX9_fault_45 : decode cX9_fault 45 = .ok (.getfield 221, 3) := by decide +kernel
theorem dX9_fault_48 : decode cX9_fault 48 = .ok (.ireturn, 1) := by decide +kernel
theorem dX9_brand_0 : decode cX9_brand 0 = .ok (.iload_n 1, 1) := by decide +kernel
theorem dX9_brand_1 : decode cX9_brand 1 = .ok (.iconst 0, 1) := by decide +kernel
theorem dX9_brand_2 : decode cX9_brand 2 = .ok (.iconst 3, 1) := by decide +kernel
theorem dX9_brand_3 : decode cX9_brand 3 = .ok (.invokestatic 129, 3) := by decide +kernel
theorem dX9_brand_6 : decode cX9_brand 6 = .ok (.ifCond .eq 11, 3) := by decide +kernel
theorem dX9_brand_9 : decode cX9_brand 9 = .ok (.aload_n 0, 1) := by decide +kernel
theorem dX9_brand_10 : decode cX9_brand 10 = .ok (.invokevirtual 252, 3) := by decide +kernel
theorem dX9_brand_13 : decode cX9_brand 13 = .ok (.iconst (-1), 1) := by decide +kernel
theorem dX9_brand_14 : decode cX9_brand 14 = .ok (.if_icmp .eq 5, 3) := by decide +kernel
theorem dX9_brand_17 : decode cX9_brand 17 = .ok (.iconst 0, 1) := by decide +kernel
theorem dX9_brand_18 : decode cX9_brand 18 = .ok (.ireturn, 1) := by decide +kernel
theorem dX9_brand_19 : decode cX9_brand 19 = .ok (.aload_n 0, 1) := by decide +kernel
theorem dX9_brand_20 : decode cX9_brand 20 = .ok (.iconst 3, 1) := by decide +kernel
theorem dX9_brand_21 : decode cX9_brand 21 = .ok (.invokevirtual 239, 3) := by decide +kernel
theorem dX9_brand_24 : decode cX9_brand 24 = .ok (.iconst 0, 1) := by decide +kernel
theorem dX9_brand_25 : decode cX9_brand 25 = .ok (.istore_n 2, 1) := by decide +kernel
theorem dX9_brand_26 : decode cX9_brand 26 = .ok (.iload_n 2, 1) := by decide +kernel
theorem dX9_brand_27 : decode cX9_brand 27 = .ok (.aload_n 0, 1) := by decide +kernel
theorem dX9_brand_28 : decode cX9_brand 28 = .ok (.getfield 224, 3) := by decide +kernel
theorem dX9_brand_31 : decode cX9_brand 31 = .ok (.if_icmp .ge 27, 3) := by decide +kernel
theorem dX9_brand_34 : decode cX9_brand 34 = .ok (.aload_n 0, 1) := by decide +kernel
theorem dX9_brand_35 : decode cX9_brand 35 = .ok (.getfield 114, 3) := by decide +kernel
theorem dX9_brand_38 : decode cX9_brand 38 = .ok (.sipush 420, 3) := by decide +kernel
theorem dX9_brand_41 : decode cX9_brand 41 = .ok (.iload_n 1, 1) := by decide +kernel
theorem dX9_brand_42 : decode cX9_brand 42 = .ok (.imul, 1) := by decide +kernel
theorem dX9_brand_43 : decode cX9_brand 43 = .ok (.iload_n 2, 1) := by decide +kernel
theorem dX9_brand_44 : decode cX9_brand 44 = .ok (.iadd, 1) := by decide +kernel
theorem dX9_brand_45 : decode cX9_brand 45 = .ok (.aload_n 0, 1) := by decide +kernel
theorem dX9_brand_46 : decode cX9_brand 46 = .ok (.getfield 117, 3) := by decide +kernel
theorem dX9_brand_49 : decode cX9_brand 49 = .ok (.iload_n 2, 1) := by decide +kernel
theorem dX9_brand_50 : decode cX9_brand 50 = .ok (.iaload, 1) := by decide +kernel
theorem dX9_brand_51 : decode cX9_brand 51 = .ok (.iastore, 1) := by decide +kernel
theorem dX9_brand_52 : decode cX9_brand 52 = .ok (.iinc 2 1, 3) := by decide +kernel
theorem dX9_brand_55 : decode cX9_brand 55 = .ok (.goto (-29), 3) := by decide +kernel
theorem dX9_brand_58 : decode cX9_brand 58 = .ok (.aload_n 0, 1) := by decide +kernel
theorem dX9_brand_59 : decode cX9_brand 59 = .ok (.getfield 120, 3) := by decide +kernel
theorem dX9_brand_62 : decode cX9_brand 62 = .ok (.iload_n 1, 1) := by decide +kernel
theorem dX9_brand_63 : decode cX9_brand 63 = .ok (.iconst 1, 1) := by decide +kernel
theorem dX9_brand_64 : decode cX9_brand 64 = .ok (.bastore, 1) := by decide +kernel
theorem dX9_brand_65 : decode cX9_brand 65 = .ok (.aload_n 0, 1) := by decide +kernel
theorem dX9_brand_66 : decode cX9_brand 66 = .ok (.iconst 0, 1) := by decide +kernel
theorem dX9_brand_67 : decode cX9_brand 67 = .ok (.putfield 215, 3) := by decide +kernel
theorem dX9_brand_70 : decode cX9_brand 70 = .ok (.iconst 1, 1) := by decide +kernel
theorem dX9_brand_71 : decode cX9_brand 71 = .ok (.ireturn, 1) := by decide +kernel
theorem dX9_value_0 : decode cX9_value 0 = .ok (.iload_n 2, 1) := by decide +kernel
theorem dX9_value_1 : decode cX9_value 1 = .ok (.tableswitch 64 0 3 #[31, 38, 45, 52], 31) := by decide +kernel
theorem dX9_value_32 : decode cX9_value 32 = .ok (.aload_n 0, 1) := by decide +kernel
theorem dX9_value_33 : decode cX9_value 33 = .ok (.getfield 65, 3) := by decide +kernel
theorem dX9_value_36 : decode cX9_value 36 = .ok (.iload_n 1, 1) := by decide +kernel
theorem dX9_value_37 : decode cX9_value 37 = .ok (.iaload, 1) := by decide +kernel
theorem dX9_value_38 : decode cX9_value 38 = .ok (.ireturn, 1) := by decide +kernel
theorem dX9_value_39 : decode cX9_value 39 = .ok (.aload_n 0, 1) := by decide +kernel
theorem dX9_value_40 : decode cX9_value 40 = .ok (.getfield 68, 3) := by decide +kernel
theorem dX9_value_43 : decode cX9_value 43 = .ok (.iload_n 1, 1) := by decide +kernel
theorem dX9_value_44 : decode cX9_value 44 = .ok (.iaload, 1) := by decide +kernel
theorem dX9_value_45 : decode cX9_value 45 = .ok (.ireturn, 1) := by decide +kernel
theorem dX9_value_46 : decode cX9_value 46 = .ok (.aload_n 0, 1) := by decide +kernel
theorem dX9_value_47 : decode cX9_value 47 = .ok (.getfield 77, 3) := by decide +kernel
theorem dX9_value_50 : decode cX9_value 50 = .ok (.iload_n 1, 1) := by decide +kernel
theorem dX9_value_51 : decode cX9_value 51 = .ok (.iaload, 1) := by decide +kernel
theorem dX9_value_52 : decode cX9_value 52 = .ok (.ireturn, 1) := by decide +kernel
theorem dX9_value_53 : decode cX9_value 53 = .ok (.aload_n 0, 1) := by decide +kernel
theorem dX9_value_54 : decode cX9_value 54 = .ok (.getfield 183, 3) := by decide +kernel
theorem dX9_value_57 : decode cX9_value 57 = .ok (.aload_n 0, 1) := by decide +kernel
theorem dX9_value_58 : decode cX9_value 58 = .ok (.getfield 50, 3) := by decide +kernel
theorem dX9_value_61 : decode cX9_value 61 = .ok (.iload_n 1, 1) := by decide +kernel
theorem dX9_value_62 : decode cX9_value 62 = .ok (.iaload, 1) := by decide +kernel
theorem dX9_value_63 : decode cX9_value 63 = .ok (.isub, 1) := by decide +kernel
theorem dX9_value_64 : decode cX9_value 64 = .ok (.ireturn, 1) := by decide +kernel
theorem dX9_value_65 : decode cX9_value 65 = .ok (.aload_n 0, 1) := by decide +kernel
theorem dX9_value_66 : decode cX9_value 66 = .ok (.getfield 74, 3) := by decide +kernel
theorem dX9_value_69 : decode cX9_value 69 = .ok (.iload_n 1, 1) := by decide +kernel
theorem dX9_value_70 : decode cX9_value 70 = .ok (.iaload, 1) := by decide +kernel
theorem dX9_value_71 : decode cX9_value 71 = .ok (.ireturn, 1) := by decide +kernel
theorem dX9_holds_0 : decode cX9_holds 0 = .ok (.sipush 420, 3) := by decide +kernel
theorem dX9_holds_3 : decode cX9_holds 3 = .ok (.iload_n 1, 1) := by decide +kernel
theorem dX9_holds_4 : decode cX9_holds 4 = .ok (.imul, 1) := by decide +kernel
theorem dX9_holds_5 : decode cX9_holds 5 = .ok (.istore_n 3, 1) := by decide +kernel
theorem dX9_holds_6 : decode cX9_holds 6 = .ok (.iconst 0, 1) := by decide +kernel
theorem dX9_holds_7 : decode cX9_holds 7 = .ok (.istore 4, 2) := by decide +kernel
theorem dX9_holds_9 : decode cX9_holds 9 = .ok (.aload_n 0, 1) := by decide +kernel
theorem dX9_holds_10 : decode cX9_holds 10 = .ok (.getfield 114, 3) := by decide +kernel
theorem dX9_holds_13 : decode cX9_holds 13 = .ok (.iload_n 3, 1) := by decide +kernel
theorem dX9_holds_14 : decode cX9_holds 14 = .ok (.iaload, 1) := by decide +kernel
theorem dX9_holds_15 : decode cX9_holds 15 = .ok (.iconst 3, 1) := by decide +kernel
theorem dX9_holds_16 : decode cX9_holds 16 = .ok (.if_icmp .eq 206, 3) := by decide +kernel
theorem dX9_holds_19 : decode cX9_holds 19 = .ok (.aload_n 0, 1) := by decide +kernel
theorem dX9_holds_20 : decode cX9_holds 20 = .ok (.getfield 114, 3) := by decide +kernel
theorem dX9_holds_23 : decode cX9_holds 23 = .ok (.iload_n 3, 1) := by decide +kernel
theorem dX9_holds_24 : decode cX9_holds 24 = .ok (.iaload, 1) := by decide +kernel
theorem dX9_holds_25 : decode cX9_holds 25 = .ok (.ifCond .ne 112, 3) := by decide +kernel
theorem dX9_holds_28 : decode cX9_holds 28 = .ok (.aload_n 0, 1) := by decide +kernel
theorem dX9_holds_29 : decode cX9_holds 29 = .ok (.iload_n 2, 1) := by decide +kernel
theorem dX9_holds_30 : decode cX9_holds 30 = .ok (.aload_n 0, 1) := by decide +kernel
theorem dX9_holds_31 : decode cX9_holds 31 = .ok (.getfield 114, 3) := by decide +kernel
theorem dX9_holds_34 : decode cX9_holds 34 = .ok (.iload_n 3, 1) := by decide +kernel
theorem dX9_holds_35 : decode cX9_holds 35 = .ok (.iconst 1, 1) := by decide +kernel
theorem dX9_holds_36 : decode cX9_holds 36 = .ok (.iadd, 1) := by decide +kernel
theorem dX9_holds_37 : decode cX9_holds 37 = .ok (.iaload, 1) := by decide +kernel
theorem dX9_holds_38 : decode cX9_holds 38 = .ok (.invokevirtual 255, 3) := by decide +kernel
theorem dX9_holds_41 : decode cX9_holds 41 = .ok (.istore 5, 2) := by decide +kernel
theorem dX9_holds_43 : decode cX9_holds 43 = .ok (.aload_n 0, 1) := by decide +kernel
theorem dX9_holds_44 : decode cX9_holds 44 = .ok (.getfield 114, 3) := by decide +kernel
theorem dX9_holds_47 : decode cX9_holds 47 = .ok (.iload_n 3, 1) := by decide +kernel
theorem dX9_holds_48 : decode cX9_holds 48 = .ok (.iconst 3, 1) := by decide +kernel
theorem dX9_holds_49 : decode cX9_holds 49 = .ok (.iadd, 1) := by decide +kernel
theorem dX9_holds_50 : decode cX9_holds 50 = .ok (.iaload, 1) := by decide +kernel
theorem dX9_holds_51 : decode cX9_holds 51 = .ok (.istore 6, 2) := by decide +kernel
theorem dX9_holds_53 : decode cX9_holds 53 = .ok (.aload_n 0, 1) := by decide +kernel
theorem dX9_holds_54 : decode cX9_holds 54 = .ok (.getfield 123, 3) := by decide +kernel
theorem dX9_holds_57 : decode cX9_holds 57 = .ok (.iload 4, 2) := by decide +kernel
theorem dX9_holds_59 : decode cX9_holds 59 = .ok (.aload_n 0, 1) := by decide +kernel
theorem dX9_holds_60 : decode cX9_holds 60 = .ok (.getfield 114, 3) := by decide +kernel
theorem dX9_holds_63 : decode cX9_holds 63 = .ok (.iload_n 3, 1) := by decide +kernel
theorem dX9_holds_64 : decode cX9_holds 64 = .ok (.iconst 2, 1) := by decide +kernel
theorem dX9_holds_65 : decode cX9_holds 65 = .ok (.iadd, 1) := by decide +kernel
theorem dX9_holds_66 : decode cX9_holds 66 = .ok (.iaload, 1) := by decide +kernel
theorem dX9_holds_67 : decode cX9_holds 67 = .ok (.bipush 61, 2) := by decide +kernel
theorem dX9_holds_69 : decode cX9_holds 69 = .ok (.if_icmp .ne 18, 3) := by decide +kernel
theorem dX9_holds_72 : decode cX9_holds 72 = .ok (.iload 5, 2) := by decide +kernel
theorem dX9_holds_74 : decode cX9_holds 74 = .ok (.iload 6, 2) := by decide +kernel
theorem dX9_holds_76 : decode cX9_holds 76 = .ok (.if_icmp .ne 7, 3) := by decide +kernel
theorem dX9_holds_79 : decode cX9_holds 79 = .ok (.iconst 1, 1) := by decide +kernel
theorem dX9_holds_80 : decode cX9_holds 80 = .ok (.goto 47, 3) := by decide +kernel
theorem dX9_holds_83 : decode cX9_holds 83 = .ok (.iconst 0, 1) := by decide +kernel
theorem dX9_holds_84 : decode cX9_holds 84 = .ok (.goto 43, 3) := by decide +kernel
theorem dX9_holds_87 : decode cX9_holds 87 = .ok (.aload_n 0, 1) := by decide +kernel
theorem dX9_holds_88 : decode cX9_holds 88 = .ok (.getfield 114, 3) := by decide +kernel
theorem dX9_holds_91 : decode cX9_holds 91 = .ok (.iload_n 3, 1) := by decide +kernel
theorem dX9_holds_92 : decode cX9_holds 92 = .ok (.iconst 2, 1) := by decide +kernel
theorem dX9_holds_93 : decode cX9_holds 93 = .ok (.iadd, 1) := by decide +kernel
theorem dX9_holds_94 : decode cX9_holds 94 = .ok (.iaload, 1) := by decide +kernel
theorem dX9_holds_95 : decode cX9_holds 95 = .ok (.bipush 60, 2) := by decide +kernel
theorem dX9_holds_97 : decode cX9_holds 97 = .ok (.if_icmp .ne 18, 3) := by decide +kernel
theorem dX9_holds_100 : decode cX9_holds 100 = .ok (.iload 5, 2) := by decide +kernel
theorem dX9_holds_102 : decode cX9_holds 102 = .ok (.iload 6, 2) := by decide +kernel
theorem dX9_holds_104 : decode cX9_holds 104 = .ok (.if_icmp .ge 7, 3) := by decide +kernel
theorem dX9_holds_107 : decode cX9_holds 107 = .ok (.iconst 1, 1) := by decide +kernel
theorem dX9_holds_108 : decode cX9_holds 108 = .ok (.goto 19, 3) := by decide +kernel
theorem dX9_holds_111 : decode cX9_holds 111 = .ok (.iconst 0, 1) := by decide +kernel
theorem dX9_holds_112 : decode cX9_holds 112 = .ok (.goto 15, 3) := by decide +kernel
theorem dX9_holds_115 : decode cX9_holds 115 = .ok (.iload 5, 2) := by decide +kernel
theorem dX9_holds_117 : decode cX9_holds 117 = .ok (.iload 6, 2) := by decide +kernel
theorem dX9_holds_119 : decode cX9_holds 119 = .ok (.if_icmp .le 7, 3) := by decide +kernel
theorem dX9_holds_122 : decode cX9_holds 122 = .ok (.iconst 1, 1) := by decide +kernel
theorem dX9_holds_123 : decode cX9_holds 123 = .ok (.goto 4, 3) := by decide +kernel
theorem dX9_holds_126 : decode cX9_holds 126 = .ok (.iconst 0, 1) := by decide +kernel
theorem dX9_holds_127 : decode cX9_holds 127 = .ok (.bastore, 1) := by decide +kernel
theorem dX9_holds_128 : decode cX9_holds 128 = .ok (.iinc 4 1, 3) := by decide +kernel
theorem dX9_holds_131 : decode cX9_holds 131 = .ok (.iinc 3 4, 3) := by decide +kernel
theorem dX9_holds_134 : decode cX9_holds 134 = .ok (.goto (-125), 3) := by decide +kernel
theorem dX9_holds_137 : decode cX9_holds 137 = .ok (.iinc 4 (-1), 3) := by decide +kernel
theorem dX9_holds_140 : decode cX9_holds 140 = .ok (.aload_n 0, 1) := by decide +kernel
theorem dX9_holds_141 : decode cX9_holds 141 = .ok (.getfield 123, 3) := by decide +kernel
theorem dX9_holds_144 : decode cX9_holds 144 = .ok (.iload 4, 2) := by decide +kernel
theorem dX9_holds_146 : decode cX9_holds 146 = .ok (.iconst 1, 1) := by decide +kernel
theorem dX9_holds_147 : decode cX9_holds 147 = .ok (.isub, 1) := by decide +kernel
theorem dX9_holds_148 : decode cX9_holds 148 = .ok (.aload_n 0, 1) := by decide +kernel
theorem dX9_holds_149 : decode cX9_holds 149 = .ok (.getfield 114, 3) := by decide +kernel
theorem dX9_holds_152 : decode cX9_holds 152 = .ok (.iload_n 3, 1) := by decide +kernel
theorem dX9_holds_153 : decode cX9_holds 153 = .ok (.iaload, 1) := by decide +kernel
theorem dX9_holds_154 : decode cX9_holds 154 = .ok (.iconst 1, 1) := by decide +kernel
theorem dX9_holds_155 : decode cX9_holds 155 = .ok (.if_icmp .ne 33, 3) := by decide +kernel
theorem dX9_holds_158 : decode cX9_holds 158 = .ok (.aload_n 0, 1) := by decide +kernel
theorem dX9_holds_159 : decode cX9_holds 159 = .ok (.getfield 123, 3) := by decide +kernel
theorem dX9_holds_162 : decode cX9_holds 162 = .ok (.iload 4, 2) := by decide +kernel
theorem dX9_holds_164 : decode cX9_holds 164 = .ok (.iconst 1, 1) := by decide +kernel
theorem dX9_holds_165 : decode cX9_holds 165 = .ok (.isub, 1) := by decide +kernel
theorem dX9_holds_166 : decode cX9_holds 166 = .ok (.baload, 1) := by decide +kernel
theorem dX9_holds_167 : decode cX9_holds 167 = .ok (.ifCond .eq 17, 3) := by decide +kernel
theorem dX9_holds_170 : decode cX9_holds 170 = .ok (.aload_n 0, 1) := by decide +kernel
theorem dX9_holds_171 : decode cX9_holds 171 = .ok (.getfield 123, 3) := by decide +kernel
theorem dX9_holds_174 : decode cX9_holds 174 = .ok (.iload 4, 2) := by decide +kernel
theorem dX9_holds_176 : decode cX9_holds 176 = .ok (.baload, 1) := by decide +kernel
theorem dX9_holds_177 : decode cX9_holds 177 = .ok (.ifCond .eq 7, 3) := by decide +kernel
theorem dX9_holds_180 : decode cX9_holds 180 = .ok (.iconst 1, 1) := by decide +kernel
theorem dX9_holds_181 : decode cX9_holds 181 = .ok (.goto 34, 3) := by decide +kernel
theorem dX9_holds_184 : decode cX9_holds 184 = .ok (.iconst 0, 1) := by decide +kernel
theorem dX9_holds_185 : decode cX9_holds 185 = .ok (.goto 30, 3) := by decide +kernel
theorem dX9_holds_188 : decode cX9_holds 188 = .ok (.aload_n 0, 1) := by decide +kernel
theorem dX9_holds_189 : decode cX9_holds 189 = .ok (.getfield 123, 3) := by decide +kernel
theorem dX9_holds_192 : decode cX9_holds 192 = .ok (.iload 4, 2) := by decide +kernel
theorem dX9_holds_194 : decode cX9_holds 194 = .ok (.iconst 1, 1) := by decide +kernel
theorem dX9_holds_195 : decode cX9_holds 195 = .ok (.isub, 1) := by decide +kernel
theorem dX9_holds_196 : decode cX9_holds 196 = .ok (.baload, 1) := by decide +kernel
theorem dX9_holds_197 : decode cX9_holds 197 = .ok (.ifCond .ne 13, 3) := by decide +kernel
theorem dX9_holds_200 : decode cX9_holds 200 = .ok (.aload_n 0, 1) := by decide +kernel
theorem dX9_holds_201 : decode cX9_holds 201 = .ok (.getfield 123, 3) := by decide +kernel
theorem dX9_holds_204 : decode cX9_holds 204 = .ok (.iload 4, 2) := by decide +kernel
theorem dX9_holds_206 : decode cX9_holds 206 = .ok (.baload, 1) := by decide +kernel
theorem dX9_holds_207 : decode cX9_holds 207 = .ok (.ifCond .eq 7, 3) := by decide +kernel
theorem dX9_holds_210 : decode cX9_holds 210 = .ok (.iconst 1, 1) := by decide +kernel
theorem dX9_holds_211 : decode cX9_holds 211 = .ok (.goto 4, 3) := by decide +kernel
theorem dX9_holds_214 : decode cX9_holds 214 = .ok (.iconst 0, 1) := by decide +kernel
theorem dX9_holds_215 : decode cX9_holds 215 = .ok (.bastore, 1) := by decide +kernel
theorem dX9_holds_216 : decode cX9_holds 216 = .ok (.iinc 3 1, 3) := by decide +kernel
theorem dX9_holds_219 : decode cX9_holds 219 = .ok (.goto (-210), 3) := by decide +kernel
theorem dX9_holds_222 : decode cX9_holds 222 = .ok (.aload_n 0, 1) := by decide +kernel
theorem dX9_holds_223 : decode cX9_holds 223 = .ok (.getfield 123, 3) := by decide +kernel
theorem dX9_holds_226 : decode cX9_holds 226 = .ok (.iconst 0, 1) := by decide +kernel
theorem dX9_holds_227 : decode cX9_holds 227 = .ok (.baload, 1) := by decide +kernel
theorem dX9_holds_228 : decode cX9_holds 228 = .ok (.ireturn, 1) := by decide +kernel
theorem dX9_isLot_0 : decode cX9_isLot 0 = .ok (.iload_n 1, 1) := by decide +kernel
theorem dX9_isLot_1 : decode cX9_isLot 1 = .ok (.iconst 0, 1) := by decide +kernel
theorem dX9_isLot_2 : decode cX9_isLot 2 = .ok (.aload_n 0, 1) := by decide +kernel
theorem dX9_isLot_3 : decode cX9_isLot 3 = .ok (.getfield 173, 3) := by decide +kernel
theorem dX9_isLot_6 : decode cX9_isLot 6 = .ok (.iconst 1, 1) := by decide +kernel
theorem dX9_isLot_7 : decode cX9_isLot 7 = .ok (.isub, 1) := by decide +kernel
theorem dX9_isLot_8 : decode cX9_isLot 8 = .ok (.invokestatic 129, 3) := by decide +kernel
theorem dX9_isLot_11 : decode cX9_isLot 11 = .ok (.ireturn, 1) := by decide +kernel
theorem dX9_judge_0 : decode cX9_judge 0 = .ok (.iload_n 1, 1) := by decide +kernel
theorem dX9_judge_1 : decode cX9_judge 1 = .ok (.iconst 0, 1) := by decide +kernel
theorem dX9_judge_2 : decode cX9_judge 2 = .ok (.iconst 3, 1) := by decide +kernel
theorem dX9_judge_3 : decode cX9_judge 3 = .ok (.invokestatic 129, 3) := by decide +kernel
theorem dX9_judge_6 : decode cX9_judge 6 = .ok (.ifCond .eq 20, 3) := by decide +kernel
theorem dX9_judge_9 : decode cX9_judge 9 = .ok (.aload_n 0, 1) := by decide +kernel
theorem dX9_judge_10 : decode cX9_judge 10 = .ok (.getfield 120, 3) := by decide +kernel
theorem dX9_judge_13 : decode cX9_judge 13 = .ok (.iload_n 1, 1) := by decide +kernel
theorem dX9_judge_14 : decode cX9_judge 14 = .ok (.baload, 1) := by decide +kernel
theorem dX9_judge_15 : decode cX9_judge 15 = .ok (.ifCond .eq 11, 3) := by decide +kernel
theorem dX9_judge_18 : decode cX9_judge 18 = .ok (.aload_n 0, 1) := by decide +kernel
theorem dX9_judge_19 : decode cX9_judge 19 = .ok (.iload_n 2, 1) := by decide +kernel
theorem dX9_judge_20 : decode cX9_judge 20 = .ok (.invokevirtual 258, 3) := by decide +kernel
theorem dX9_judge_23 : decode cX9_judge 23 = .ok (.ifCond .ne 5, 3) := by decide +kernel
theorem dX9_judge_26 : decode cX9_judge 26 = .ok (.iconst (-1), 1) := by decide +kernel
theorem dX9_judge_27 : decode cX9_judge 27 = .ok (.ireturn, 1) := by decide +kernel
theorem dX9_judge_28 : decode cX9_judge 28 = .ok (.aload_n 0, 1) := by decide +kernel
theorem dX9_judge_29 : decode cX9_judge 29 = .ok (.iload_n 1, 1) := by decide +kernel
theorem dX9_judge_30 : decode cX9_judge 30 = .ok (.iload_n 2, 1) := by decide +kernel
theorem dX9_judge_31 : decode cX9_judge 31 = .ok (.invokevirtual 261, 3) := by decide +kernel
theorem dX9_judge_34 : decode cX9_judge 34 = .ok (.ifCond .eq 7, 3) := by decide +kernel
theorem dX9_judge_37 : decode cX9_judge 37 = .ok (.iconst 1, 1) := by decide +kernel
theorem dX9_judge_38 : decode cX9_judge 38 = .ok (.goto 4, 3) := by decide +kernel
theorem dX9_judge_41 : decode cX9_judge 41 = .ok (.iconst 0, 1) := by decide +kernel
theorem dX9_judge_42 : decode cX9_judge 42 = .ok (.ireturn, 1) := by decide +kernel
theorem dX9_branded_0 : decode cX9_branded 0 = .ok (.iconst 0, 1) := by decide +kernel
theorem dX9_branded_1 : decode cX9_branded 1 = .ok (.istore_n 2, 1) := by decide +kernel
theorem dX9_branded_2 : decode cX9_branded 2 = .ok (.iload_n 2, 1) := by decide +kernel
theorem dX9_branded_3 : decode cX9_branded 3 = .ok (.iconst 4, 1) := by decide +kernel
theorem dX9_branded_4 : decode cX9_branded 4 = .ok (.if_icmp .ge 37, 3) := by decide +kernel
theorem dX9_branded_7 : decode cX9_branded 7 = .ok (.aload_n 0, 1) := by decide +kernel
theorem dX9_branded_8 : decode cX9_branded 8 = .ok (.iload_n 1, 1) := by decide +kernel
theorem dX9_branded_9 : decode cX9_branded 9 = .ok (.invokevirtual 258, 3) := by decide +kernel
theorem dX9_branded_12 : decode cX9_branded 12 = .ok (.ifCond .eq 29, 3) := by decide +kernel
theorem dX9_branded_15 : decode cX9_branded 15 = .ok (.aload_n 0, 1) := by decide +kernel
theorem dX9_branded_16 : decode cX9_branded 16 = .ok (.getfield 120, 3) := by decide +kernel
theorem dX9_branded_19 : decode cX9_branded 19 = .ok (.iload_n 2, 1) := by decide +kernel
theorem dX9_branded_20 : decode cX9_branded 20 = .ok (.baload, 1) := by decide +kernel
theorem dX9_branded_21 : decode cX9_branded 21 = .ok (.ifCond .eq 14, 3) := by decide +kernel
theorem dX9_branded_24 : decode cX9_branded 24 = .ok (.aload_n 0, 1) := by decide +kernel
theorem dX9_branded_25 : decode cX9_branded 25 = .ok (.iload_n 2, 1) := by decide +kernel
theorem dX9_branded_26 : decode cX9_branded 26 = .ok (.iload_n 1, 1) := by decide +kernel
theorem dX9_branded_27 : decode cX9_branded 27 = .ok (.invokevirtual 261, 3) := by decide +kernel
theorem dX9_branded_30 : decode cX9_branded 30 = .ok (.ifCond .eq 5, 3) := by decide +kernel
theorem dX9_branded_33 : decode cX9_branded 33 = .ok (.iload_n 2, 1) := by decide +kernel
theorem dX9_branded_34 : decode cX9_branded 34 = .ok (.ireturn, 1) := by decide +kernel
theorem dX9_branded_35 : decode cX9_branded 35 = .ok (.iinc 2 1, 3) := by decide +kernel
theorem dX9_branded_38 : decode cX9_branded 38 = .ok (.goto (-36), 3) := by decide +kernel
theorem dX9_branded_41 : decode cX9_branded 41 = .ok (.iconst (-1), 1) := by decide +kernel
theorem dX9_branded_42 : decode cX9_branded 42 = .ok (.ireturn, 1) := by decide +kernel
theorem dX9_share_0 : decode cX9_share 0 = .ok (.aload_n 0, 1) := by decide +kernel
theorem dX9_share_1 : decode cX9_share 1 = .ok (.iload_n 1, 1) := by decide +kernel
theorem dX9_share_2 : decode cX9_share 2 = .ok (.invokevirtual 136, 3) := by decide +kernel
theorem dX9_share_5 : decode cX9_share 5 = .ok (.ifCond .eq 23, 3) := by decide +kernel
theorem dX9_share_8 : decode cX9_share 8 = .ok (.iload_n 2, 1) := by decide +kernel
theorem dX9_share_9 : decode cX9_share 9 = .ok (.iconst 0, 1) := by decide +kernel
theorem dX9_share_10 : decode cX9_share 10 = .ok (.bipush 7, 2) := by decide +kernel
theorem dX9_share_12 : decode cX9_share 12 = .ok (.invokestatic 129, 3) := by decide +kernel
theorem dX9_share_15 : decode cX9_share 15 = .ok (.ifCond .eq 13, 3) := by decide +kernel
theorem dX9_share_18 : decode cX9_share 18 = .ok (.iload_n 3, 1) := by decide +kernel
theorem dX9_share_19 : decode cX9_share 19 = .ok (.iconst 0, 1) := by decide +kernel
theorem dX9_share_20 : decode cX9_share 20 = .ok (.bipush 100, 2) := by decide +kernel
theorem dX9_share_22 : decode cX9_share 22 = .ok (.invokestatic 129, 3) := by decide +kernel
theorem dX9_share_25 : decode cX9_share 25 = .ok (.ifCond .ne 5, 3) := by decide +kernel
theorem dX9_share_28 : decode cX9_share 28 = .ok (.iconst 0, 1) := by decide +kernel
theorem dX9_share_29 : decode cX9_share 29 = .ok (.ireturn, 1) := by decide +kernel
theorem dX9_share_30 : decode cX9_share 30 = .ok (.aload_n 0, 1) := by decide +kernel
theorem dX9_share_31 : decode cX9_share 31 = .ok (.getfield 35, 3) := by decide +kernel
theorem dX9_share_34 : decode cX9_share 34 = .ok (.bipush 8, 2) := by decide +kernel
theorem dX9_share_36 : decode cX9_share 36 = .ok (.iload_n 1, 1) := by decide +kernel
theorem dX9_share_37 : decode cX9_share 37 = .ok (.imul, 1) := by decide +kernel
theorem dX9_share_38 : decode cX9_share 38 = .ok (.iload_n 2, 1) := by decide +kernel
theorem dX9_share_39 : decode cX9_share 39 = .ok (.iadd, 1) := by decide +kernel
theorem dX9_share_40 : decode cX9_share 40 = .ok (.iload_n 3, 1) := by decide +kernel
theorem dX9_share_41 : decode cX9_share 41 = .ok (.iastore, 1) := by decide +kernel
theorem dX9_share_42 : decode cX9_share 42 = .ok (.iconst 1, 1) := by decide +kernel
theorem dX9_share_43 : decode cX9_share 43 = .ok (.ireturn, 1) := by decide +kernel
theorem dX9_settle_0 : decode cX9_settle 0 = .ok (.iconst 0, 1) := by decide +kernel
theorem dX9_settle_1 : decode cX9_settle 1 = .ok (.istore_n 2, 1) := by decide +kernel
theorem dX9_settle_2 : decode cX9_settle 2 = .ok (.iconst 0, 1) := by decide +kernel
theorem dX9_settle_3 : decode cX9_settle 3 = .ok (.istore_n 3, 1) := by decide +kernel
theorem dX9_settle_4 : decode cX9_settle 4 = .ok (.iload_n 3, 1) := by decide +kernel
theorem dX9_settle_5 : decode cX9_settle 5 = .ok (.bipush 8, 2) := by decide +kernel
theorem dX9_settle_7 : decode cX9_settle 7 = .ok (.if_icmp .ge 43, 3) := by decide +kernel
theorem dX9_settle_10 : decode cX9_settle 10 = .ok (.aload_n 0, 1) := by decide +kernel
theorem dX9_settle_11 : decode cX9_settle 11 = .ok (.iload_n 1, 1) := by decide +kernel
theorem dX9_settle_12 : decode cX9_settle 12 = .ok (.invokevirtual 136, 3) := by decide +kernel
theorem dX9_settle_15 : decode cX9_settle 15 = .ok (.ifCond .eq 35, 3) := by decide +kernel
theorem dX9_settle_18 : decode cX9_settle 18 = .ok (.aload_n 0, 1) := by decide +kernel
theorem dX9_settle_19 : decode cX9_settle 19 = .ok (.getfield 87, 3) := by decide +kernel
theorem dX9_settle_22 : decode cX9_settle 22 = .ok (.iload_n 3, 1) := by decide +kernel
theorem dX9_settle_23 : decode cX9_settle 23 = .ok (.aload_n 0, 1) := by decide +kernel
theorem dX9_settle_24 : decode cX9_settle 24 = .ok (.getfield 35, 3) := by decide +kernel
theorem dX9_settle_27 : decode cX9_settle 27 = .ok (.bipush 8, 2) := by decide +kernel
theorem dX9_settle_29 : decode cX9_settle 29 = .ok (.iload_n 1, 1) := by decide +kernel
theorem dX9_settle_30 : decode cX9_settle 30 = .ok (.imul, 1) := by decide +kernel
theorem dX9_settle_31 : decode cX9_settle 31 = .ok (.iload_n 3, 1) := by decide +kernel
theorem dX9_settle_32 : decode cX9_settle 32 = .ok (.iadd, 1) := by decide +kernel
theorem dX9_settle_33 : decode cX9_settle 33 = .ok (.iaload, 1) := by decide +kernel
theorem dX9_settle_34 : decode cX9_settle 34 = .ok (.iastore, 1) := by decide +kernel
theorem dX9_settle_35 : decode cX9_settle 35 = .ok (.iload_n 2, 1) := by decide +kernel
theorem dX9_settle_36 : decode cX9_settle 36 = .ok (.aload_n 0, 1) := by decide +kernel
theorem dX9_settle_37 : decode cX9_settle 37 = .ok (.getfield 87, 3) := by decide +kernel
theorem dX9_settle_40 : decode cX9_settle 40 = .ok (.iload_n 3, 1) := by decide +kernel
theorem dX9_settle_41 : decode cX9_settle 41 = .ok (.iaload, 1) := by decide +kernel
theorem dX9_settle_42 : decode cX9_settle 42 = .ok (.iadd, 1) := by decide +kernel
theorem dX9_settle_43 : decode cX9_settle 43 = .ok (.istore_n 2, 1) := by decide +kernel
theorem dX9_settle_44 : decode cX9_settle 44 = .ok (.iinc 3 1, 3) := by decide +kernel
theorem dX9_settle_47 : decode cX9_settle 47 = .ok (.goto (-43), 3) := by decide +kernel
theorem dX9_settle_50 : decode cX9_settle 50 = .ok (.iload_n 2, 1) := by decide +kernel
theorem dX9_settle_51 : decode cX9_settle 51 = .ok (.ifCond .eq 12, 3) := by decide +kernel
theorem dX9_settle_54 : decode cX9_settle 54 = .ok (.aload_n 0, 1) := by decide +kernel
theorem dX9_settle_55 : decode cX9_settle 55 = .ok (.getfield 29, 3) := by decide +kernel
theorem dX9_settle_58 : decode cX9_settle 58 = .ok (.iload_n 1, 1) := by decide +kernel
theorem dX9_settle_59 : decode cX9_settle 59 = .ok (.iaload, 1) := by decide +kernel
theorem dX9_settle_60 : decode cX9_settle 60 = .ok (.ifCond .ne 5, 3) := by decide +kernel
theorem dX9_settle_63 : decode cX9_settle 63 = .ok (.iconst (-1), 1) := by decide +kernel
theorem dX9_settle_64 : decode cX9_settle 64 = .ok (.ireturn, 1) := by decide +kernel
theorem dX9_settle_65 : decode cX9_settle 65 = .ok (.aload_n 0, 1) := by decide +kernel
theorem dX9_settle_66 : decode cX9_settle 66 = .ok (.getfield 29, 3) := by decide +kernel
theorem dX9_settle_69 : decode cX9_settle 69 = .ok (.iload_n 1, 1) := by decide +kernel
theorem dX9_settle_70 : decode cX9_settle 70 = .ok (.iaload, 1) := by decide +kernel
theorem dX9_settle_71 : decode cX9_settle 71 = .ok (.istore_n 3, 1) := by decide +kernel
theorem dX9_settle_72 : decode cX9_settle 72 = .ok (.aload_n 0, 1) := by decide +kernel
theorem dX9_settle_73 : decode cX9_settle 73 = .ok (.iload_n 3, 1) := by decide +kernel
theorem dX9_settle_74 : decode cX9_settle 74 = .ok (.i2l, 1) := by decide +kernel
theorem dX9_settle_75 : decode cX9_settle 75 = .ok (.bipush 8, 2) := by decide +kernel
theorem dX9_settle_77 : decode cX9_settle 77 = .ok (.invokevirtual 149, 3) := by decide +kernel
theorem dX9_settle_80 : decode cX9_settle 80 = .ok (.iconst 0, 1) := by decide +kernel
theorem dX9_settle_81 : decode cX9_settle 81 = .ok (.istore 4, 2) := by decide +kernel
theorem dX9_settle_83 : decode cX9_settle 83 = .ok (.iload 4, 2) := by decide +kernel
theorem dX9_settle_85 : decode cX9_settle 85 = .ok (.bipush 8, 2) := by decide +kernel
theorem dX9_settle_87 : decode cX9_settle 87 = .ok (.if_icmp .ge 31, 3) := by decide +kernel
theorem dX9_settle_90 : decode cX9_settle 90 = .ok (.aload_n 0, 1) := by decide +kernel
theorem dX9_settle_91 : decode cX9_settle 91 = .ok (.getfield 38, 3) := by decide +kernel
theorem dX9_settle_94 : decode cX9_settle 94 = .ok (.bipush 8, 2) := by decide +kernel
theorem dX9_settle_96 : decode cX9_settle 96 = .ok (.iload_n 1, 1) := by decide +kernel
theorem dX9_settle_97 : decode cX9_settle 97 = .ok (.imul, 1) := by decide +kernel
theorem dX9_settle_98 : decode cX9_settle 98 = .ok (.iload 4, 2) := by decide +kernel
theorem dX9_settle_100 : decode cX9_settle 100 = .ok (.iadd, 1) := by decide +kernel
theorem dX9_settle_101 : decode cX9_settle 101 = .ok (.dup2, 1) := by decide +kernel
theorem dX9_settle_102 : decode cX9_settle 102 = .ok (.iaload, 1) := by decide +kernel
theorem dX9_settle_103 : decode cX9_settle 103 = .ok (.aload_n 0, 1) := by decide +kernel
theorem dX9_settle_104 : decode cX9_settle 104 = .ok (.getfield 90, 3) := by decide +kernel
theorem dX9_settle_107 : decode cX9_settle 107 = .ok (.iload 4, 2) := by decide +kernel
theorem dX9_settle_109 : decode cX9_settle 109 = .ok (.iaload, 1) := by decide +kernel
theorem dX9_settle_110 : decode cX9_settle 110 = .ok (.iadd, 1) := by decide +kernel
theorem dX9_settle_111 : decode cX9_settle 111 = .ok (.iastore, 1) := by decide +kernel
theorem dX9_settle_112 : decode cX9_settle 112 = .ok (.iinc 4 1, 3) := by decide +kernel
theorem dX9_settle_115 : decode cX9_settle 115 = .ok (.goto (-32), 3) := by decide +kernel
theorem dX9_settle_118 : decode cX9_settle 118 = .ok (.aload_n 0, 1) := by decide +kernel
theorem dX9_settle_119 : decode cX9_settle 119 = .ok (.getfield 29, 3) := by decide +kernel
theorem dX9_settle_122 : decode cX9_settle 122 = .ok (.iload_n 1, 1) := by decide +kernel
theorem dX9_settle_123 : decode cX9_settle 123 = .ok (.iconst 0, 1) := by decide +kernel
theorem dX9_settle_124 : decode cX9_settle 124 = .ok (.iastore, 1) := by decide +kernel
theorem dX9_settle_125 : decode cX9_settle 125 = .ok (.iload_n 3, 1) := by decide +kernel
theorem dX9_settle_126 : decode cX9_settle 126 = .ok (.ireturn, 1) := by decide +kernel
theorem dX9_coins_0 : decode cX9_coins 0 = .ok (.aload_n 0, 1) := by decide +kernel
theorem dX9_coins_1 : decode cX9_coins 1 = .ok (.iload_n 1, 1) := by decide +kernel
theorem dX9_coins_2 : decode cX9_coins 2 = .ok (.invokevirtual 136, 3) := by decide +kernel
theorem dX9_coins_5 : decode cX9_coins 5 = .ok (.ifCond .eq 27, 3) := by decide +kernel
theorem dX9_coins_8 : decode cX9_coins 8 = .ok (.iload_n 2, 1) := by decide +kernel
theorem dX9_coins_9 : decode cX9_coins 9 = .ok (.iconst 0, 1) := by decide +kernel
theorem dX9_coins_10 : decode cX9_coins 10 = .ok (.bipush 7, 2) := by decide +kernel
theorem dX9_coins_12 : decode cX9_coins 12 = .ok (.invokestatic 129, 3) := by decide +kernel
theorem dX9_coins_15 : decode cX9_coins 15 = .ok (.ifCond .eq 17, 3) := by decide +kernel
theorem dX9_coins_18 : decode cX9_coins 18 = .ok (.aload_n 0, 1) := by decide +kernel
theorem dX9_coins_19 : decode cX9_coins 19 = .ok (.getfield 38, 3) := by decide +kernel
theorem dX9_coins_22 : decode cX9_coins 22 = .ok (.bipush 8, 2) := by decide +kernel
theorem dX9_coins_24 : decode cX9_coins 24 = .ok (.iload_n 1, 1) := by decide +kernel
theorem dX9_coins_25 : decode cX9_coins 25 = .ok (.imul, 1) := by decide +kernel
theorem dX9_coins_26 : decode cX9_coins 26 = .ok (.iload_n 2, 1) := by decide +kernel
theorem dX9_coins_27 : decode cX9_coins 27 = .ok (.iadd, 1) := by decide +kernel
theorem dX9_coins_28 : decode cX9_coins 28 = .ok (.iaload, 1) := by decide +kernel
theorem dX9_coins_29 : decode cX9_coins 29 = .ok (.goto 4, 3) := by decide +kernel
theorem dX9_coins_32 : decode cX9_coins 32 = .ok (.iconst 0, 1) := by decide +kernel
theorem dX9_coins_33 : decode cX9_coins 33 = .ok (.ireturn, 1) := by decide +kernel
theorem dX9_cell_0 : decode cX9_cell 0 = .ok (.iload_n 1, 1) := by decide +kernel
theorem dX9_cell_1 : decode cX9_cell 1 = .ok (.iconst 0, 1) := by decide +kernel
theorem dX9_cell_2 : decode cX9_cell 2 = .ok (.bipush 35, 2) := by decide +kernel
theorem dX9_cell_4 : decode cX9_cell 4 = .ok (.invokestatic 129, 3) := by decide +kernel
theorem dX9_cell_7 : decode cX9_cell 7 = .ok (.ifCond .ne 5, 3) := by decide +kernel
theorem dX9_cell_10 : decode cX9_cell 10 = .ok (.iconst (-1), 1) := by decide +kernel
theorem dX9_cell_11 : decode cX9_cell 11 = .ok (.ireturn, 1) := by decide +kernel
theorem dX9_cell_12 : decode cX9_cell 12 = .ok (.iload_n 2, 1) := by decide +kernel
theorem dX9_cell_13 : decode cX9_cell 13 = .ok (.ifCond .ne 12, 3) := by decide +kernel
theorem dX9_cell_16 : decode cX9_cell 16 = .ok (.aload_n 0, 1) := by decide +kernel
theorem dX9_cell_17 : decode cX9_cell 17 = .ok (.getfield 9, 3) := by decide +kernel
theorem dX9_cell_20 : decode cX9_cell 20 = .ok (.iload_n 1, 1) := by decide +kernel
theorem dX9_cell_21 : decode cX9_cell 21 = .ok (.iaload, 1) := by decide +kernel
theorem dX9_cell_22 : decode cX9_cell 22 = .ok (.goto 26, 3) := by decide +kernel
theorem dX9_cell_25 : decode cX9_cell 25 = .ok (.iload_n 2, 1) := by decide +kernel
theorem dX9_cell_26 : decode cX9_cell 26 = .ok (.iconst 1, 1) := by decide +kernel
theorem dX9_cell_27 : decode cX9_cell 27 = .ok (.if_icmp .ne 20, 3) := by decide +kernel
theorem dX9_cell_30 : decode cX9_cell 30 = .ok (.aload_n 0, 1) := by decide +kernel
theorem dX9_cell_31 : decode cX9_cell 31 = .ok (.getfield 13, 3) := by decide +kernel
theorem dX9_cell_34 : decode cX9_cell 34 = .ok (.iload_n 1, 1) := by decide +kernel
theorem dX9_cell_35 : decode cX9_cell 35 = .ok (.baload, 1) := by decide +kernel
theorem dX9_cell_36 : decode cX9_cell 36 = .ok (.ifCond .eq 7, 3) := by decide +kernel
theorem dX9_cell_39 : decode cX9_cell 39 = .ok (.iconst 1, 1) := by decide +kernel
theorem dX9_cell_40 : decode cX9_cell 40 = .ok (.goto 8, 3) := by decide +kernel
theorem dX9_cell_43 : decode cX9_cell 43 = .ok (.iconst 0, 1) := by decide +kernel
theorem dX9_cell_44 : decode cX9_cell 44 = .ok (.goto 4, 3) := by decide +kernel
theorem dX9_cell_47 : decode cX9_cell 47 = .ok (.iconst (-1), 1) := by decide +kernel
theorem dX9_cell_48 : decode cX9_cell 48 = .ok (.ireturn, 1) := by decide +kernel
theorem dX9_told_0 : decode cX9_told 0 = .ok (.aload_n 0, 1) := by decide +kernel
theorem dX9_told_1 : decode cX9_told 1 = .ok (.iload_n 1, 1) := by decide +kernel
theorem dX9_told_2 : decode cX9_told 2 = .ok (.invokevirtual 136, 3) := by decide +kernel
theorem dX9_told_5 : decode cX9_told 5 = .ok (.ifCond .ne 5, 3) := by decide +kernel
theorem dX9_told_8 : decode cX9_told 8 = .ok (.iconst (-1), 1) := by decide +kernel
theorem dX9_told_9 : decode cX9_told 9 = .ok (.ireturn, 1) := by decide +kernel
theorem dX9_told_10 : decode cX9_told 10 = .ok (.iload_n 2, 1) := by decide +kernel
theorem dX9_told_11 : decode cX9_told 11 = .ok (.tableswitch 79 0 5 #[37, 44, 51, 58, 65, 72], 37) := by decide +kernel
theorem dX9_told_48 : decode cX9_told 48 = .ok (.aload_n 0, 1) := by decide +kernel
theorem dX9_told_49 : decode cX9_told 49 = .ok (.getfield 17, 3) := by decide +kernel
theorem dX9_told_52 : decode cX9_told 52 = .ok (.iload_n 1, 1) := by decide +kernel
theorem dX9_told_53 : decode cX9_told 53 = .ok (.iaload, 1) := by decide +kernel
theorem dX9_told_54 : decode cX9_told 54 = .ok (.ireturn, 1) := by decide +kernel
theorem dX9_told_55 : decode cX9_told 55 = .ok (.aload_n 0, 1) := by decide +kernel
theorem dX9_told_56 : decode cX9_told 56 = .ok (.getfield 20, 3) := by decide +kernel
theorem dX9_told_59 : decode cX9_told 59 = .ok (.iload_n 1, 1) := by decide +kernel
theorem dX9_told_60 : decode cX9_told 60 = .ok (.iaload, 1) := by decide +kernel
theorem dX9_told_61 : decode cX9_told 61 = .ok (.ireturn, 1) := by decide +kernel
theorem dX9_told_62 : decode cX9_told 62 = .ok (.aload_n 0, 1) := by decide +kernel
theorem dX9_told_63 : decode cX9_told 63 = .ok (.getfield 23, 3) := by decide +kernel
theorem dX9_told_66 : decode cX9_told 66 = .ok (.iload_n 1, 1) := by decide +kernel
theorem dX9_told_67 : decode cX9_told 67 = .ok (.iaload, 1) := by decide +kernel
theorem dX9_told_68 : decode cX9_told 68 = .ok (.ireturn, 1) := by decide +kernel
theorem dX9_told_69 : decode cX9_told 69 = .ok (.aload_n 0, 1) := by decide +kernel
theorem dX9_told_70 : decode cX9_told 70 = .ok (.getfield 29, 3) := by decide +kernel
theorem dX9_told_73 : decode cX9_told 73 = .ok (.iload_n 1, 1) := by decide +kernel
theorem dX9_told_74 : decode cX9_told 74 = .ok (.iaload, 1) := by decide +kernel
theorem dX9_told_75 : decode cX9_told 75 = .ok (.ireturn, 1) := by decide +kernel
theorem dX9_told_76 : decode cX9_told 76 = .ok (.aload_n 0, 1) := by decide +kernel
theorem dX9_told_77 : decode cX9_told 77 = .ok (.getfield 32, 3) := by decide +kernel
theorem dX9_told_80 : decode cX9_told 80 = .ok (.iload_n 1, 1) := by decide +kernel
theorem dX9_told_81 : decode cX9_told 81 = .ok (.iaload, 1) := by decide +kernel
theorem dX9_told_82 : decode cX9_told 82 = .ok (.ireturn, 1) := by decide +kernel
theorem dX9_told_83 : decode cX9_told 83 = .ok (.aload_n 0, 1) := by decide +kernel
theorem dX9_told_84 : decode cX9_told 84 = .ok (.getfield 26, 3) := by decide +kernel
theorem dX9_told_87 : decode cX9_told 87 = .ok (.iload_n 1, 1) := by decide +kernel
theorem dX9_told_88 : decode cX9_told 88 = .ok (.iaload, 1) := by decide +kernel
theorem dX9_told_89 : decode cX9_told 89 = .ok (.ireturn, 1) := by decide +kernel
theorem dX9_told_90 : decode cX9_told 90 = .ok (.iconst (-1), 1) := by decide +kernel
theorem dX9_told_91 : decode cX9_told 91 = .ok (.ireturn, 1) := by decide +kernel
theorem dX9_lot_0 : decode cX9_lot 0 = .ok (.aload_n 0, 1) := by decide +kernel
theorem dX9_lot_1 : decode cX9_lot 1 = .ok (.iload_n 1, 1) := by decide +kernel
theorem dX9_lot_2 : decode cX9_lot 2 = .ok (.invokevirtual 258, 3) := by decide +kernel
theorem dX9_lot_5 : decode cX9_lot 5 = .ok (.ifCond .ne 5, 3) := by decide +kernel
theorem dX9_lot_8 : decode cX9_lot 8 = .ok (.iconst (-1), 1) := by decide +kernel
theorem dX9_lot_9 : decode cX9_lot 9 = .ok (.ireturn, 1) := by decide +kernel
theorem dX9_lot_10 : decode cX9_lot 10 = .ok (.iload_n 2, 1) := by decide +kernel
theorem dX9_lot_11 : decode cX9_lot 11 = .ok (.tableswitch 134 0 10 #[57, 64, 71, 78, 85, 92, 99, 106, 113, 120, 127], 57) := by decide +kernel
theorem dX9_lot_68 : decode cX9_lot 68 = .ok (.aload_n 0, 1) := by decide +kernel
theorem dX9_lot_69 : decode cX9_lot 69 = .ok (.getfield 50, 3) := by decide +kernel
theorem dX9_lot_72 : decode cX9_lot 72 = .ok (.iload_n 1, 1) := by decide +kernel
theorem dX9_lot_73 : decode cX9_lot 73 = .ok (.iaload, 1) := by decide +kernel
theorem dX9_lot_74 : decode cX9_lot 74 = .ok (.ireturn, 1) := by decide +kernel
theorem dX9_lot_75 : decode cX9_lot 75 = .ok (.aload_n 0, 1) := by decide +kernel
theorem dX9_lot_76 : decode cX9_lot 76 = .ok (.getfield 53, 3) := by decide +kernel
theorem dX9_lot_79 : decode cX9_lot 79 = .ok (.iload_n 1, 1) := by decide +kernel
theorem dX9_lot_80 : decode cX9_lot 80 = .ok (.iaload, 1) := by decide +kernel
theorem dX9_lot_81 : decode cX9_lot 81 = .ok (.ireturn, 1) := by decide +kernel
theorem dX9_lot_82 : decode cX9_lot 82 = .ok (.aload_n 0, 1) := by decide +kernel
theorem dX9_lot_83 : decode cX9_lot 83 = .ok (.getfield 56, 3) := by decide +kernel
theorem dX9_lot_86 : decode cX9_lot 86 = .ok (.iload_n 1, 1) := by decide +kernel
theorem dX9_lot_87 : decode cX9_lot 87 = .ok (.iaload, 1) := by decide +kernel
theorem dX9_lot_88 : decode cX9_lot 88 = .ok (.ireturn, 1) := by decide +kernel
theorem dX9_lot_89 : decode cX9_lot 89 = .ok (.aload_n 0, 1) := by decide +kernel
theorem dX9_lot_90 : decode cX9_lot 90 = .ok (.getfield 59, 3) := by decide +kernel
theorem dX9_lot_93 : decode cX9_lot 93 = .ok (.iload_n 1, 1) := by decide +kernel
theorem dX9_lot_94 : decode cX9_lot 94 = .ok (.iaload, 1) := by decide +kernel
theorem dX9_lot_95 : decode cX9_lot 95 = .ok (.ireturn, 1) := by decide +kernel
theorem dX9_lot_96 : decode cX9_lot 96 = .ok (.aload_n 0, 1) := by decide +kernel
theorem dX9_lot_97 : decode cX9_lot 97 = .ok (.getfield 62, 3) := by decide +kernel
theorem dX9_lot_100 : decode cX9_lot 100 = .ok (.iload_n 1, 1) := by decide +kernel
theorem dX9_lot_101 : decode cX9_lot 101 = .ok (.iaload, 1) := by decide +kernel
theorem dX9_lot_102 : decode cX9_lot 102 = .ok (.ireturn, 1) := by decide +kernel
theorem dX9_lot_103 : decode cX9_lot 103 = .ok (.aload_n 0, 1) := by decide +kernel
theorem dX9_lot_104 : decode cX9_lot 104 = .ok (.getfield 65, 3) := by decide +kernel
theorem dX9_lot_107 : decode cX9_lot 107 = .ok (.iload_n 1, 1) := by decide +kernel
theorem dX9_lot_108 : decode cX9_lot 108 = .ok (.iaload, 1) := by decide +kernel
theorem dX9_lot_109 : decode cX9_lot 109 = .ok (.ireturn, 1) := by decide +kernel
theorem dX9_lot_110 : decode cX9_lot 110 = .ok (.aload_n 0, 1) := by decide +kernel
theorem dX9_lot_111 : decode cX9_lot 111 = .ok (.getfield 68, 3) := by decide +kernel
theorem dX9_lot_114 : decode cX9_lot 114 = .ok (.iload_n 1, 1) := by decide +kernel
theorem dX9_lot_115 : decode cX9_lot 115 = .ok (.iaload, 1) := by decide +kernel
theorem dX9_lot_116 : decode cX9_lot 116 = .ok (.ireturn, 1) := by decide +kernel
theorem dX9_lot_117 : decode cX9_lot 117 = .ok (.aload_n 0, 1) := by decide +kernel
theorem dX9_lot_118 : decode cX9_lot 118 = .ok (.getfield 71, 3) := by decide +kernel
theorem dX9_lot_121 : decode cX9_lot 121 = .ok (.iload_n 1, 1) := by decide +kernel
theorem dX9_lot_122 : decode cX9_lot 122 = .ok (.iaload, 1) := by decide +kernel
theorem dX9_lot_123 : decode cX9_lot 123 = .ok (.ireturn, 1) := by decide +kernel
theorem dX9_lot_124 : decode cX9_lot 124 = .ok (.aload_n 0, 1) := by decide +kernel
theorem dX9_lot_125 : decode cX9_lot 125 = .ok (.getfield 74, 3) := by decide +kernel
theorem dX9_lot_128 : decode cX9_lot 128 = .ok (.iload_n 1, 1) := by decide +kernel
theorem dX9_lot_129 : decode cX9_lot 129 = .ok (.iaload, 1) := by decide +kernel
theorem dX9_lot_130 : decode cX9_lot 130 = .ok (.ireturn, 1) := by decide +kernel
theorem dX9_lot_131 : decode cX9_lot 131 = .ok (.aload_n 0, 1) := by decide +kernel
theorem dX9_lot_132 : decode cX9_lot 132 = .ok (.getfield 77, 3) := by decide +kernel
theorem dX9_lot_135 : decode cX9_lot 135 = .ok (.iload_n 1, 1) := by decide +kernel
theorem dX9_lot_136 : decode cX9_lot 136 = .ok (.iaload, 1) := by decide +kernel
theorem dX9_lot_137 : decode cX9_lot 137 = .ok (.ireturn, 1) := by decide +kernel
theorem dX9_lot_138 : decode cX9_lot 138 = .ok (.aload_n 0, 1) := by decide +kernel
theorem dX9_lot_139 : decode cX9_lot 139 = .ok (.getfield 80, 3) := by decide +kernel
theorem dX9_lot_142 : decode cX9_lot 142 = .ok (.iload_n 1, 1) := by decide +kernel
theorem dX9_lot_143 : decode cX9_lot 143 = .ok (.iaload, 1) := by decide +kernel
theorem dX9_lot_144 : decode cX9_lot 144 = .ok (.ireturn, 1) := by decide +kernel
theorem dX9_lot_145 : decode cX9_lot 145 = .ok (.iconst (-1), 1) := by decide +kernel
theorem dX9_lot_146 : decode cX9_lot 146 = .ok (.ireturn, 1) := by decide +kernel
theorem dX9_count_0 : decode cX9_count 0 = .ok (.iconst 0, 1) := by decide +kernel
theorem dX9_count_1 : decode cX9_count 1 = .ok (.istore_n 2, 1) := by decide +kernel
theorem dX9_count_2 : decode cX9_count 2 = .ok (.iconst 0, 1) := by decide +kernel
theorem dX9_count_3 : decode cX9_count 3 = .ok (.istore_n 3, 1) := by decide +kernel
theorem dX9_count_4 : decode cX9_count 4 = .ok (.iconst 0, 1) := by decide +kernel
theorem dX9_count_5 : decode cX9_count 5 = .ok (.istore 4, 2) := by decide +kernel
theorem dX9_count_7 : decode cX9_count 7 = .ok (.iload 4, 2) := by decide +kernel
theorem dX9_count_9 : decode cX9_count 9 = .ok (.bipush 36, 2) := by decide +kernel
theorem dX9_count_11 : decode cX9_count 11 = .ok (.if_icmp .ge 19, 3) := by decide +kernel
theorem dX9_count_14 : decode cX9_count 14 = .ok (.iload_n 2, 1) := by decide +kernel
theorem dX9_count_15 : decode cX9_count 15 = .ok (.aload_n 0, 1) := by decide +kernel
theorem dX9_count_16 : decode cX9_count 16 = .ok (.getfield 9, 3) := by decide +kernel
theorem dX9_count_19 : decode cX9_count 19 = .ok (.iload 4, 2) := by decide +kernel
theorem dX9_count_21 : decode cX9_count 21 = .ok (.iaload, 1) := by decide +kernel
theorem dX9_count_22 : decode cX9_count 22 = .ok (.iadd, 1) := by decide +kernel
theorem dX9_count_23 : decode cX9_count 23 = .ok (.istore_n 2, 1) := by decide +kernel
theorem dX9_count_24 : decode cX9_count 24 = .ok (.iinc 4 1, 3) := by decide +kernel
theorem dX9_count_27 : decode cX9_count 27 = .ok (.goto (-20), 3) := by decide +kernel
theorem dX9_count_30 : decode cX9_count 30 = .ok (.iconst 0, 1) := by decide +kernel
theorem dX9_count_31 : decode cX9_count 31 = .ok (.istore 4, 2) := by decide +kernel
theorem dX9_count_33 : decode cX9_count 33 = .ok (.iload 4, 2) := by decide +kernel
theorem dX9_count_35 : decode cX9_count 35 = .ok (.aload_n 0, 1) := by decide +kernel
theorem dX9_count_36 : decode cX9_count 36 = .ok (.getfield 126, 3) := by decide +kernel
theorem dX9_count_39 : decode cX9_count 39 = .ok (.if_icmp .ge 19, 3) := by decide +kernel
theorem dX9_count_42 : decode cX9_count 42 = .ok (.iload_n 3, 1) := by decide +kernel
theorem dX9_count_43 : decode cX9_count 43 = .ok (.aload_n 0, 1) := by decide +kernel
theorem dX9_count_44 : decode cX9_count 44 = .ok (.getfield 29, 3) := by decide +kernel
theorem dX9_count_47 : decode cX9_count 47 = .ok (.iload 4, 2) := by decide +kernel
theorem dX9_count_49 : decode cX9_count 49 = .ok (.iaload, 1) := by decide +kernel
theorem dX9_count_50 : decode cX9_count 50 = .ok (.iadd, 1) := by decide +kernel
theorem dX9_count_51 : decode cX9_count 51 = .ok (.istore_n 3, 1) := by decide +kernel
theorem dX9_count_52 : decode cX9_count 52 = .ok (.iinc 4 1, 3) := by decide +kernel
theorem dX9_count_55 : decode cX9_count 55 = .ok (.goto (-22), 3) := by decide +kernel
theorem dX9_count_58 : decode cX9_count 58 = .ok (.iload_n 1, 1) := by decide +kernel
theorem dX9_count_59 : decode cX9_count 59 = .ok (.tableswitch 115 0 11 #[61, 66, 71, 76, 81, 83, 88, 93, 98, 103, 108, 110], 61) := by decide +kernel
theorem dX9_count_120 : decode cX9_count 120 = .ok (.aload_n 0, 1) := by decide +kernel
theorem dX9_count_121 : decode cX9_count 121 = .ok (.getfield 183, 3) := by decide +kernel
theorem dX9_count_124 : decode cX9_count 124 = .ok (.ireturn, 1) := by decide +kernel
theorem dX9_count_125 : decode cX9_count 125 = .ok (.aload_n 0, 1) := by decide +kernel
theorem dX9_count_126 : decode cX9_count 126 = .ok (.getfield 126, 3) := by decide +kernel
theorem dX9_count_129 : decode cX9_count 129 = .ok (.ireturn, 1) := by decide +kernel
theorem dX9_count_130 : decode cX9_count 130 = .ok (.aload_n 0, 1) := by decide +kernel
theorem dX9_count_131 : decode cX9_count 131 = .ok (.getfield 140, 3) := by decide +kernel
theorem dX9_count_134 : decode cX9_count 134 = .ok (.ireturn, 1) := by decide +kernel
theorem dX9_count_135 : decode cX9_count 135 = .ok (.aload_n 0, 1) := by decide +kernel
theorem dX9_count_136 : decode cX9_count 136 = .ok (.getfield 173, 3) := by decide +kernel
theorem dX9_count_139 : decode cX9_count 139 = .ok (.ireturn, 1) := by decide +kernel
theorem dX9_count_140 : decode cX9_count 140 = .ok (.iload_n 2, 1) := by decide +kernel
theorem dX9_count_141 : decode cX9_count 141 = .ok (.ireturn, 1) := by decide +kernel
theorem dX9_count_142 : decode cX9_count 142 = .ok (.aload_n 0, 1) := by decide +kernel
theorem dX9_count_143 : decode cX9_count 143 = .ok (.getfield 198, 3) := by decide +kernel
theorem dX9_count_146 : decode cX9_count 146 = .ok (.ireturn, 1) := by decide +kernel
theorem dX9_count_147 : decode cX9_count 147 = .ok (.aload_n 0, 1) := by decide +kernel
theorem dX9_count_148 : decode cX9_count 148 = .ok (.getfield 189, 3) := by decide +kernel
theorem dX9_count_151 : decode cX9_count 151 = .ok (.ireturn, 1) := by decide +kernel
theorem dX9_count_152 : decode cX9_count 152 = .ok (.aload_n 0, 1) := by decide +kernel
theorem dX9_count_153 : decode cX9_count 153 = .ok (.getfield 186, 3) := by decide +kernel
theorem dX9_count_156 : decode cX9_count 156 = .ok (.ireturn, 1) := by decide +kernel
theorem dX9_count_157 : decode cX9_count 157 = .ok (.aload_n 0, 1) := by decide +kernel
theorem dX9_count_158 : decode cX9_count 158 = .ok (.getfield 157, 3) := by decide +kernel
theorem dX9_count_161 : decode cX9_count 161 = .ok (.ireturn, 1) := by decide +kernel
theorem dX9_count_162 : decode cX9_count 162 = .ok (.aload_n 0, 1) := by decide +kernel
theorem dX9_count_163 : decode cX9_count 163 = .ok (.getfield 180, 3) := by decide +kernel
theorem dX9_count_166 : decode cX9_count 166 = .ok (.ireturn, 1) := by decide +kernel
theorem dX9_count_167 : decode cX9_count 167 = .ok (.iload_n 3, 1) := by decide +kernel
theorem dX9_count_168 : decode cX9_count 168 = .ok (.ireturn, 1) := by decide +kernel
theorem dX9_count_169 : decode cX9_count 169 = .ok (.aload_n 0, 1) := by decide +kernel
theorem dX9_count_170 : decode cX9_count 170 = .ok (.getfield 215, 3) := by decide +kernel
theorem dX9_count_173 : decode cX9_count 173 = .ok (.ireturn, 1) := by decide +kernel
theorem dX9_count_174 : decode cX9_count 174 = .ok (.iconst (-1), 1) := by decide +kernel
theorem dX9_count_175 : decode cX9_count 175 = .ok (.ireturn, 1) := by decide +kernel
theorem dL_law_0 : decode cL_law 0 = .ok (.new 7, 3) := by decide +kernel
theorem dL_law_3 : decode cL_law 3 = .ok (.dup, 1) := by decide +kernel
theorem dL_law_4 : decode cL_law 4 = .ok (.invokespecial 9, 3) := by decide +kernel
theorem dL_law_7 : decode cL_law 7 = .ok (.astore_n 1, 1) := by decide +kernel
theorem dL_law_8 : decode cL_law 8 = .ok (.new 10, 3) := by decide +kernel
theorem dL_law_11 : decode cL_law 11 = .ok (.dup, 1) := by decide +kernel
theorem dL_law_12 : decode cL_law 12 = .ok (.invokespecial 12, 3) := by decide +kernel
theorem dL_law_15 : decode cL_law 15 = .ok (.astore_n 2, 1) := by decide +kernel
theorem dL_law_16 : decode cL_law 16 = .ok (.iconst 0, 1) := by decide +kernel
theorem dL_law_17 : decode cL_law 17 = .ok (.istore_n 3, 1) := by decide +kernel
theorem dL_law_18 : decode cL_law 18 = .ok (.iload_n 3, 1) := by decide +kernel
theorem dL_law_19 : decode cL_law 19 = .ok (.aload_n 0, 1) := by decide +kernel
theorem dL_law_20 : decode cL_law 20 = .ok (.arraylength, 1) := by decide +kernel
theorem dL_law_21 : decode cL_law 21 = .ok (.bipush 6, 2) := by decide +kernel
theorem dL_law_23 : decode cL_law 23 = .ok (.isub, 1) := by decide +kernel
theorem dL_law_24 : decode cL_law 24 = .ok (.if_icmp .gt 843, 3) := by decide +kernel
theorem dL_law_27 : decode cL_law 27 = .ok (.aload_n 0, 1) := by decide +kernel
theorem dL_law_28 : decode cL_law 28 = .ok (.iload_n 3, 1) := by decide +kernel
theorem dL_law_29 : decode cL_law 29 = .ok (.iaload, 1) := by decide +kernel
theorem dL_law_30 : decode cL_law 30 = .ok (.bipush 31, 2) := by decide +kernel
theorem dL_law_32 : decode cL_law 32 = .ok (.iand, 1) := by decide +kernel
theorem dL_law_33 : decode cL_law 33 = .ok (.tableswitch 828 0 22 #[107, 140, 189, 212, 235, 268, 301, 334, 367, 390, 429, 492, 515, 528, 551, 584, 607, 650, 673, 706, 739, 772, 805], 107) := by decide +kernel
theorem dL_law_140 : decode cL_law 140 = .ok (.aload_n 1, 1) := by decide +kernel
theorem dL_law_141 : decode cL_law 141 = .ok (.aload_n 0, 1) := by decide +kernel
theorem dL_law_142 : decode cL_law 142 = .ok (.iload_n 3, 1) := by decide +kernel
theorem dL_law_143 : decode cL_law 143 = .ok (.iconst 1, 1) := by decide +kernel
theorem dL_law_144 : decode cL_law 144 = .ok (.iadd, 1) := by decide +kernel
theorem dL_law_145 : decode cL_law 145 = .ok (.iaload, 1) := by decide +kernel
theorem dL_law_146 : decode cL_law 146 = .ok (.aload_n 0, 1) := by decide +kernel
theorem dL_law_147 : decode cL_law 147 = .ok (.iload_n 3, 1) := by decide +kernel
theorem dL_law_148 : decode cL_law 148 = .ok (.iconst 2, 1) := by decide +kernel
theorem dL_law_149 : decode cL_law 149 = .ok (.iadd, 1) := by decide +kernel
theorem dL_law_150 : decode cL_law 150 = .ok (.iaload, 1) := by decide +kernel
theorem dL_law_151 : decode cL_law 151 = .ok (.invokevirtual 13, 3) := by decide +kernel
theorem dL_law_154 : decode cL_law 154 = .ok (.aload_n 2, 1) := by decide +kernel
theorem dL_law_155 : decode cL_law 155 = .ok (.aload_n 0, 1) := by decide +kernel
theorem dL_law_156 : decode cL_law 156 = .ok (.iload_n 3, 1) := by decide +kernel
theorem dL_law_157 : decode cL_law 157 = .ok (.iconst 1, 1) := by decide +kernel
theorem dL_law_158 : decode cL_law 158 = .ok (.iadd, 1) := by decide +kernel
theorem dL_law_159 : decode cL_law 159 = .ok (.iaload, 1) := by decide +kernel
theorem dL_law_160 : decode cL_law 160 = .ok (.aload_n 0, 1) := by decide +kernel
theorem dL_law_161 : decode cL_law 161 = .ok (.iload_n 3, 1) := by decide +kernel
theorem dL_law_162 : decode cL_law 162 = .ok (.iconst 2, 1) := by decide +kernel
theorem dL_law_163 : decode cL_law 163 = .ok (.iadd, 1) := by decide +kernel
theorem dL_law_164 : decode cL_law 164 = .ok (.iaload, 1) := by decide +kernel
theorem dL_law_165 : decode cL_law 165 = .ok (.invokevirtual 17, 3) := by decide +kernel
theorem dL_law_168 : decode cL_law 168 = .ok (.if_icmp .eq 693, 3) := by decide +kernel
theorem dL_law_171 : decode cL_law 171 = .ok (.iconst 0, 1) := by decide +kernel
theorem dL_law_172 : decode cL_law 172 = .ok (.ireturn, 1) := by decide +kernel
theorem dL_law_173 : decode cL_law 173 = .ok (.aload_n 1, 1) := by decide +kernel
theorem dL_law_174 : decode cL_law 174 = .ok (.aload_n 0, 1) := by decide +kernel
theorem dL_law_175 : decode cL_law 175 = .ok (.iload_n 3, 1) := by decide +kernel
theorem dL_law_176 : decode cL_law 176 = .ok (.iconst 1, 1) := by decide +kernel
theorem dL_law_177 : decode cL_law 177 = .ok (.iadd, 1) := by decide +kernel
theorem dL_law_178 : decode cL_law 178 = .ok (.iaload, 1) := by decide +kernel
theorem dL_law_179 : decode cL_law 179 = .ok (.aload_n 0, 1) := by decide +kernel
theorem dL_law_180 : decode cL_law 180 = .ok (.iload_n 3, 1) := by decide +kernel
theorem dL_law_181 : decode cL_law 181 = .ok (.iconst 2, 1) := by decide +kernel
theorem dL_law_182 : decode cL_law 182 = .ok (.iadd, 1) := by decide +kernel
theorem dL_law_183 : decode cL_law 183 = .ok (.iaload, 1) := by decide +kernel
theorem dL_law_184 : decode cL_law 184 = .ok (.ifCond .eq 7, 3) := by decide +kernel
theorem dL_law_187 : decode cL_law 187 = .ok (.iconst 1, 1) := by decide +kernel
theorem dL_law_188 : decode cL_law 188 = .ok (.goto 4, 3) := by decide +kernel
theorem dL_law_191 : decode cL_law 191 = .ok (.iconst 0, 1) := by decide +kernel
theorem dL_law_192 : decode cL_law 192 = .ok (.invokevirtual 18, 3) := by decide +kernel
theorem dL_law_195 : decode cL_law 195 = .ok (.aload_n 2, 1) := by decide +kernel
theorem dL_law_196 : decode cL_law 196 = .ok (.aload_n 0, 1) := by decide +kernel
theorem dL_law_197 : decode cL_law 197 = .ok (.iload_n 3, 1) := by decide +kernel
theorem dL_law_198 : decode cL_law 198 = .ok (.iconst 1, 1) := by decide +kernel
theorem dL_law_199 : decode cL_law 199 = .ok (.iadd, 1) := by decide +kernel
theorem dL_law_200 : decode cL_law 200 = .ok (.iaload, 1) := by decide +kernel
theorem dL_law_201 : decode cL_law 201 = .ok (.aload_n 0, 1) := by decide +kernel
theorem dL_law_202 : decode cL_law 202 = .ok (.iload_n 3, 1) := by decide +kernel
theorem dL_law_203 : decode cL_law 203 = .ok (.iconst 2, 1) := by decide +kernel
theorem dL_law_204 : decode cL_law 204 = .ok (.iadd, 1) := by decide +kernel
theorem dL_law_205 : decode cL_law 205 = .ok (.iaload, 1) := by decide +kernel
theorem dL_law_206 : decode cL_law 206 = .ok (.ifCond .eq 7, 3) := by decide +kernel
theorem dL_law_209 : decode cL_law 209 = .ok (.iconst 1, 1) := by decide +kernel
theorem dL_law_210 : decode cL_law 210 = .ok (.goto 4, 3) := by decide +kernel
theorem dL_law_213 : decode cL_law 213 = .ok (.iconst 0, 1) := by decide +kernel
theorem dL_law_214 : decode cL_law 214 = .ok (.invokevirtual 22, 3) := by decide +kernel
theorem dL_law_217 : decode cL_law 217 = .ok (.if_icmp .eq 644, 3) := by decide +kernel
theorem dL_law_220 : decode cL_law 220 = .ok (.iconst 0, 1) := by decide +kernel
theorem dL_law_221 : decode cL_law 221 = .ok (.ireturn, 1) := by decide +kernel
theorem dL_law_222 : decode cL_law 222 = .ok (.aload_n 1, 1) := by decide +kernel
theorem dL_law_223 : decode cL_law 223 = .ok (.aload_n 0, 1) := by decide +kernel
theorem dL_law_224 : decode cL_law 224 = .ok (.iload_n 3, 1) := by decide +kernel
theorem dL_law_225 : decode cL_law 225 = .ok (.iconst 1, 1) := by decide +kernel
theorem dL_law_226 : decode cL_law 226 = .ok (.iadd, 1) := by decide +kernel
theorem dL_law_227 : decode cL_law 227 = .ok (.iaload, 1) := by decide +kernel
theorem dL_law_228 : decode cL_law 228 = .ok (.invokevirtual 23, 3) := by decide +kernel
theorem dL_law_231 : decode cL_law 231 = .ok (.aload_n 2, 1) := by decide +kernel
theorem dL_law_232 : decode cL_law 232 = .ok (.aload_n 0, 1) := by decide +kernel
theorem dL_law_233 : decode cL_law 233 = .ok (.iload_n 3, 1) := by decide +kernel
theorem dL_law_234 : decode cL_law 234 = .ok (.iconst 1, 1) := by decide +kernel
theorem dL_law_235 : decode cL_law 235 = .ok (.iadd, 1) := by decide +kernel
theorem dL_law_236 : decode cL_law 236 = .ok (.iaload, 1) := by decide +kernel
theorem dL_law_237 : decode cL_law 237 = .ok (.invokevirtual 27, 3) := by decide +kernel
theorem dL_law_240 : decode cL_law 240 = .ok (.if_icmp .eq 621, 3) := by decide +kernel
theorem dL_law_243 : decode cL_law 243 = .ok (.iconst 0, 1) := by decide +kernel
theorem dL_law_244 : decode cL_law 244 = .ok (.ireturn, 1) := by decide +kernel
theorem dL_law_245 : decode cL_law 245 = .ok (.aload_n 1, 1) := by decide +kernel
theorem dL_law_246 : decode cL_law 246 = .ok (.aload_n 0, 1) := by decide +kernel
theorem dL_law_247 : decode cL_law 247 = .ok (.iload_n 3, 1) := by decide +kernel
theorem dL_law_248 : decode cL_law 248 = .ok (.iconst 1, 1) := by decide +kernel
theorem dL_law_249 : decode cL_law 249 = .ok (.iadd, 1) := by decide +kernel
theorem dL_law_250 : decode cL_law 250 = .ok (.iaload, 1) := by decide +kernel
theorem dL_law_251 : decode cL_law 251 = .ok (.invokevirtual 28, 3) := by decide +kernel
theorem dL_law_254 : decode cL_law 254 = .ok (.aload_n 2, 1) := by decide +kernel
theorem dL_law_255 : decode cL_law 255 = .ok (.aload_n 0, 1) := by decide +kernel
theorem dL_law_256 : decode cL_law 256 = .ok (.iload_n 3, 1) := by decide +kernel
theorem dL_law_257 : decode cL_law 257 = .ok (.iconst 1, 1) := by decide +kernel
theorem dL_law_258 : decode cL_law 258 = .ok (.iadd, 1) := by decide +kernel
theorem dL_law_259 : decode cL_law 259 = .ok (.iaload, 1) := by decide +kernel
theorem dL_law_260 : decode cL_law 260 = .ok (.invokevirtual 32, 3) := by decide +kernel
theorem dL_law_263 : decode cL_law 263 = .ok (.if_icmp .eq 598, 3) := by decide +kernel
theorem dL_law_266 : decode cL_law 266 = .ok (.iconst 0, 1) := by decide +kernel
theorem dL_law_267 : decode cL_law 267 = .ok (.ireturn, 1) := by decide +kernel
theorem dL_law_268 : decode cL_law 268 = .ok (.aload_n 1, 1) := by decide +kernel
theorem dL_law_269 : decode cL_law 269 = .ok (.aload_n 0, 1) := by decide +kernel
theorem dL_law_270 : decode cL_law 270 = .ok (.iload_n 3, 1) := by decide +kernel
theorem dL_law_271 : decode cL_law 271 = .ok (.iconst 1, 1) := by decide +kernel
theorem dL_law_272 : decode cL_law 272 = .ok (.iadd, 1) := by decide +kernel
theorem dL_law_273 : decode cL_law 273 = .ok (.iaload, 1) := by decide +kernel
theorem dL_law_274 : decode cL_law 274 = .ok (.aload_n 0, 1) := by decide +kernel
theorem dL_law_275 : decode cL_law 275 = .ok (.iload_n 3, 1) := by decide +kernel
theorem dL_law_276 : decode cL_law 276 = .ok (.iconst 2, 1) := by decide +kernel
theorem dL_law_277 : decode cL_law 277 = .ok (.iadd, 1) := by decide +kernel
theorem dL_law_278 : decode cL_law 278 = .ok (.iaload, 1) := by decide +kernel
theorem dL_law_279 : decode cL_law 279 = .ok (.invokevirtual 33, 3) := by decide +kernel
theorem dL_law_282 : decode cL_law 282 = .ok (.aload_n 2, 1) := by decide +kernel
theorem dL_law_283 : decode cL_law 283 = .ok (.aload_n 0, 1) := by decide +kernel
theorem dL_law_284 : decode cL_law 284 = .ok (.iload_n 3, 1) := by decide +kernel
theorem dL_law_285 : decode cL_law 285 = .ok (.iconst 1, 1) := by decide +kernel
theorem dL_law_286 : decode cL_law 286 = .ok (.iadd, 1) := by decide +kernel
theorem dL_law_287 : decode cL_law 287 = .ok (.iaload, 1) := by decide +kernel
theorem dL_law_288 : decode cL_law 288 = .ok (.aload_n 0, 1) := by decide +kernel
theorem dL_law_289 : decode cL_law 289 = .ok (.iload_n 3, 1) := by decide +kernel
theorem dL_law_290 : decode cL_law 290 = .ok (.iconst 2, 1) := by decide +kernel
theorem dL_law_291 : decode cL_law 291 = .ok (.iadd, 1) := by decide +kernel
theorem dL_law_292 : decode cL_law 292 = .ok (.iaload, 1) := by decide +kernel
theorem dL_law_293 : decode cL_law 293 = .ok (.invokevirtual 36, 3) := by decide +kernel
theorem dL_law_296 : decode cL_law 296 = .ok (.if_icmp .eq 565, 3) := by decide +kernel
theorem dL_law_299 : decode cL_law 299 = .ok (.iconst 0, 1) := by decide +kernel
theorem dL_law_300 : decode cL_law 300 = .ok (.ireturn, 1) := by decide +kernel
theorem dL_law_301 : decode cL_law 301 = .ok (.aload_n 1, 1) := by decide +kernel
theorem dL_law_302 : decode cL_law 302 = .ok (.aload_n 0, 1) := by decide +kernel
theorem dL_law_303 : decode cL_law 303 = .ok (.iload_n 3, 1) := by decide +kernel
theorem dL_law_304 : decode cL_law 304 = .ok (.iconst 1, 1) := by decide +kernel
theorem dL_law_305 : decode cL_law 305 = .ok (.iadd, 1) := by decide +kernel
theorem dL_law_306 : decode cL_law 306 = .ok (.iaload, 1) := by decide +kernel
theorem dL_law_307 : decode cL_law 307 = .ok (.aload_n 0, 1) := by decide +kernel
theorem dL_law_308 : decode cL_law 308 = .ok (.iload_n 3, 1) := by decide +kernel
theorem dL_law_309 : decode cL_law 309 = .ok (.iconst 2, 1) := by decide +kernel
theorem dL_law_310 : decode cL_law 310 = .ok (.iadd, 1) := by decide +kernel
theorem dL_law_311 : decode cL_law 311 = .ok (.iaload, 1) := by decide +kernel
theorem dL_law_312 : decode cL_law 312 = .ok (.invokevirtual 37, 3) := by decide +kernel
theorem dL_law_315 : decode cL_law 315 = .ok (.aload_n 2, 1) := by decide +kernel
theorem dL_law_316 : decode cL_law 316 = .ok (.aload_n 0, 1) := by decide +kernel
theorem dL_law_317 : decode cL_law 317 = .ok (.iload_n 3, 1) := by decide +kernel
theorem dL_law_318 : decode cL_law 318 = .ok (.iconst 1, 1) := by decide +kernel
theorem dL_law_319 : decode cL_law 319 = .ok (.iadd, 1) := by decide +kernel
theorem dL_law_320 : decode cL_law 320 = .ok (.iaload, 1) := by decide +kernel
theorem dL_law_321 : decode cL_law 321 = .ok (.aload_n 0, 1) := by decide +kernel
theorem dL_law_322 : decode cL_law 322 = .ok (.iload_n 3, 1) := by decide +kernel
theorem dL_law_323 : decode cL_law 323 = .ok (.iconst 2, 1) := by decide +kernel
theorem dL_law_324 : decode cL_law 324 = .ok (.iadd, 1) := by decide +kernel
theorem dL_law_325 : decode cL_law 325 = .ok (.iaload, 1) := by decide +kernel
theorem dL_law_326 : decode cL_law 326 = .ok (.invokevirtual 41, 3) := by decide +kernel
theorem dL_law_329 : decode cL_law 329 = .ok (.if_icmp .eq 532, 3) := by decide +kernel
theorem dL_law_332 : decode cL_law 332 = .ok (.iconst 0, 1) := by decide +kernel
theorem dL_law_333 : decode cL_law 333 = .ok (.ireturn, 1) := by decide +kernel
theorem dL_law_334 : decode cL_law 334 = .ok (.aload_n 1, 1) := by decide +kernel
theorem dL_law_335 : decode cL_law 335 = .ok (.aload_n 0, 1) := by decide +kernel
theorem dL_law_336 : decode cL_law 336 = .ok (.iload_n 3, 1) := by decide +kernel
theorem dL_law_337 : decode cL_law 337 = .ok (.iconst 1, 1) := by decide +kernel
theorem dL_law_338 : decode cL_law 338 = .ok (.iadd, 1) := by decide +kernel
theorem dL_law_339 : decode cL_law 339 = .ok (.iaload, 1) := by decide +kernel
theorem dL_law_340 : decode cL_law 340 = .ok (.aload_n 0, 1) := by decide +kernel
theorem dL_law_341 : decode cL_law 341 = .ok (.iload_n 3, 1) := by decide +kernel
theorem dL_law_342 : decode cL_law 342 = .ok (.iconst 2, 1) := by decide +kernel
theorem dL_law_343 : decode cL_law 343 = .ok (.iadd, 1) := by decide +kernel
theorem dL_law_344 : decode cL_law 344 = .ok (.iaload, 1) := by decide +kernel
theorem dL_law_345 : decode cL_law 345 = .ok (.invokevirtual 42, 3) := by decide +kernel
theorem dL_law_348 : decode cL_law 348 = .ok (.aload_n 2, 1) := by decide +kernel
theorem dL_law_349 : decode cL_law 349 = .ok (.aload_n 0, 1) := by decide +kernel
theorem dL_law_350 : decode cL_law 350 = .ok (.iload_n 3, 1) := by decide +kernel
theorem dL_law_351 : decode cL_law 351 = .ok (.iconst 1, 1) := by decide +kernel
theorem dL_law_352 : decode cL_law 352 = .ok (.iadd, 1) := by decide +kernel
theorem dL_law_353 : decode cL_law 353 = .ok (.iaload, 1) := by decide +kernel
theorem dL_law_354 : decode cL_law 354 = .ok (.aload_n 0, 1) := by decide +kernel
theorem dL_law_355 : decode cL_law 355 = .ok (.iload_n 3, 1) := by decide +kernel
theorem dL_law_356 : decode cL_law 356 = .ok (.iconst 2, 1) := by decide +kernel
theorem dL_law_357 : decode cL_law 357 = .ok (.iadd, 1) := by decide +kernel
theorem dL_law_358 : decode cL_law 358 = .ok (.iaload, 1) := by decide +kernel
theorem dL_law_359 : decode cL_law 359 = .ok (.invokevirtual 45, 3) := by decide +kernel
theorem dL_law_362 : decode cL_law 362 = .ok (.if_icmp .eq 499, 3) := by decide +kernel
theorem dL_law_365 : decode cL_law 365 = .ok (.iconst 0, 1) := by decide +kernel
theorem dL_law_366 : decode cL_law 366 = .ok (.ireturn, 1) := by decide +kernel
theorem dL_law_367 : decode cL_law 367 = .ok (.aload_n 1, 1) := by decide +kernel
theorem dL_law_368 : decode cL_law 368 = .ok (.aload_n 0, 1) := by decide +kernel
theorem dL_law_369 : decode cL_law 369 = .ok (.iload_n 3, 1) := by decide +kernel
theorem dL_law_370 : decode cL_law 370 = .ok (.iconst 1, 1) := by decide +kernel
theorem dL_law_371 : decode cL_law 371 = .ok (.iadd, 1) := by decide +kernel
theorem dL_law_372 : decode cL_law 372 = .ok (.iaload, 1) := by decide +kernel
theorem dL_law_373 : decode cL_law 373 = .ok (.aload_n 0, 1) := by decide +kernel
theorem dL_law_374 : decode cL_law 374 = .ok (.iload_n 3, 1) := by decide +kernel
theorem dL_law_375 : decode cL_law 375 = .ok (.iconst 2, 1) := by decide +kernel
theorem dL_law_376 : decode cL_law 376 = .ok (.iadd, 1) := by decide +kernel
theorem dL_law_377 : decode cL_law 377 = .ok (.iaload, 1) := by decide +kernel
theorem dL_law_378 : decode cL_law 378 = .ok (.invokevirtual 46, 3) := by decide +kernel
theorem dL_law_381 : decode cL_law 381 = .ok (.aload_n 2, 1) := by decide +kernel
theorem dL_law_382 : decode cL_law 382 = .ok (.aload_n 0, 1) := by decide +kernel
theorem dL_law_383 : decode cL_law 383 = .ok (.iload_n 3, 1) := by decide +kernel
theorem dL_law_384 : decode cL_law 384 = .ok (.iconst 1, 1) := by decide +kernel
theorem dL_law_385 : decode cL_law 385 = .ok (.iadd, 1) := by decide +kernel
theorem dL_law_386 : decode cL_law 386 = .ok (.iaload, 1) := by decide +kernel
theorem dL_law_387 : decode cL_law 387 = .ok (.aload_n 0, 1) := by decide +kernel
theorem dL_law_388 : decode cL_law 388 = .ok (.iload_n 3, 1) := by decide +kernel
theorem dL_law_389 : decode cL_law 389 = .ok (.iconst 2, 1) := by decide +kernel
theorem dL_law_390 : decode cL_law 390 = .ok (.iadd, 1) := by decide +kernel
theorem dL_law_391 : decode cL_law 391 = .ok (.iaload, 1) := by decide +kernel
theorem dL_law_392 : decode cL_law 392 = .ok (.invokevirtual 49, 3) := by decide +kernel
theorem dL_law_395 : decode cL_law 395 = .ok (.if_icmp .eq 466, 3) := by decide +kernel
theorem dL_law_398 : decode cL_law 398 = .ok (.iconst 0, 1) := by decide +kernel
theorem dL_law_399 : decode cL_law 399 = .ok (.ireturn, 1) := by decide +kernel
theorem dL_law_400 : decode cL_law 400 = .ok (.aload_n 1, 1) := by decide +kernel
theorem dL_law_401 : decode cL_law 401 = .ok (.aload_n 0, 1) := by decide +kernel
theorem dL_law_402 : decode cL_law 402 = .ok (.iload_n 3, 1) := by decide +kernel
theorem dL_law_403 : decode cL_law 403 = .ok (.iconst 1, 1) := by decide +kernel
theorem dL_law_404 : decode cL_law 404 = .ok (.iadd, 1) := by decide +kernel
theorem dL_law_405 : decode cL_law 405 = .ok (.iaload, 1) := by decide +kernel
theorem dL_law_406 : decode cL_law 406 = .ok (.invokevirtual 50, 3) := by decide +kernel
theorem dL_law_409 : decode cL_law 409 = .ok (.aload_n 2, 1) := by decide +kernel
theorem dL_law_410 : decode cL_law 410 = .ok (.aload_n 0, 1) := by decide +kernel
theorem dL_law_411 : decode cL_law 411 = .ok (.iload_n 3, 1) := by decide +kernel
theorem dL_law_412 : decode cL_law 412 = .ok (.iconst 1, 1) := by decide +kernel
theorem dL_law_413 : decode cL_law 413 = .ok (.iadd, 1) := by decide +kernel
theorem dL_law_414 : decode cL_law 414 = .ok (.iaload, 1) := by decide +kernel
theorem dL_law_415 : decode cL_law 415 = .ok (.invokevirtual 53, 3) := by decide +kernel
theorem dL_law_418 : decode cL_law 418 = .ok (.if_icmp .eq 443, 3) := by decide +kernel
theorem dL_law_421 : decode cL_law 421 = .ok (.iconst 0, 1) := by decide +kernel
theorem dL_law_422 : decode cL_law 422 = .ok (.ireturn, 1) := by decide +kernel
theorem dL_law_423 : decode cL_law 423 = .ok (.aload_n 1, 1) := by decide +kernel
theorem dL_law_424 : decode cL_law 424 = .ok (.aload_n 0, 1) := by decide +kernel
theorem dL_law_425 : decode cL_law 425 = .ok (.iload_n 3, 1) := by decide +kernel
theorem dL_law_426 : decode cL_law 426 = .ok (.iconst 1, 1) := by decide +kernel
theorem dL_law_427 : decode cL_law 427 = .ok (.iadd, 1) := by decide +kernel
theorem dL_law_428 : decode cL_law 428 = .ok (.iaload, 1) := by decide +kernel
theorem dL_law_429 : decode cL_law 429 = .ok (.ifCond .eq 7, 3) := by decide +kernel
theorem dL_law_432 : decode cL_law 432 = .ok (.iconst 1, 1) := by decide +kernel
theorem dL_law_433 : decode cL_law 433 = .ok (.goto 4, 3) := by decide +kernel
theorem dL_law_436 : decode cL_law 436 = .ok (.iconst 0, 1) := by decide +kernel
theorem dL_law_437 : decode cL_law 437 = .ok (.invokevirtual 54, 3) := by decide +kernel
theorem dL_law_440 : decode cL_law 440 = .ok (.aload_n 2, 1) := by decide +kernel
theorem dL_law_441 : decode cL_law 441 = .ok (.aload_n 0, 1) := by decide +kernel
theorem dL_law_442 : decode cL_law 442 = .ok (.iload_n 3, 1) := by decide +kernel
theorem dL_law_443 : decode cL_law 443 = .ok (.iconst 1, 1) := by decide +kernel
theorem dL_law_444 : decode cL_law 444 = .ok (.iadd, 1) := by decide +kernel
theorem dL_law_445 : decode cL_law 445 = .ok (.iaload, 1) := by decide +kernel
theorem dL_law_446 : decode cL_law 446 = .ok (.ifCond .eq 7, 3) := by decide +kernel
theorem dL_law_449 : decode cL_law 449 = .ok (.iconst 1, 1) := by decide +kernel
theorem dL_law_450 : decode cL_law 450 = .ok (.goto 4, 3) := by decide +kernel
theorem dL_law_453 : decode cL_law 453 = .ok (.iconst 0, 1) := by decide +kernel
theorem dL_law_454 : decode cL_law 454 = .ok (.invokevirtual 58, 3) := by decide +kernel
theorem dL_law_457 : decode cL_law 457 = .ok (.if_icmp .eq 404, 3) := by decide +kernel
theorem dL_law_460 : decode cL_law 460 = .ok (.iconst 0, 1) := by decide +kernel
theorem dL_law_461 : decode cL_law 461 = .ok (.ireturn, 1) := by decide +kernel
theorem dL_law_462 : decode cL_law 462 = .ok (.aload_n 1, 1) := by decide +kernel
theorem dL_law_463 : decode cL_law 463 = .ok (.aload_n 0, 1) := by decide +kernel
theorem dL_law_464 : decode cL_law 464 = .ok (.iload_n 3, 1) := by decide +kernel
theorem dL_law_465 : decode cL_law 465 = .ok (.iconst 1, 1) := by decide +kernel
theorem dL_law_466 : decode cL_law 466 = .ok (.iadd, 1) := by decide +kernel
theorem dL_law_467 : decode cL_law 467 = .ok (.iaload, 1) := by decide +kernel
theorem dL_law_468 : decode cL_law 468 = .ok (.aload_n 0, 1) := by decide +kernel
theorem dL_law_469 : decode cL_law 469 = .ok (.iload_n 3, 1) := by decide +kernel
theorem dL_law_470 : decode cL_law 470 = .ok (.iconst 2, 1) := by decide +kernel
theorem dL_law_471 : decode cL_law 471 = .ok (.iadd, 1) := by decide +kernel
theorem dL_law_472 : decode cL_law 472 = .ok (.iaload, 1) := by decide +kernel
theorem dL_law_473 : decode cL_law 473 = .ok (.aload_n 0, 1) := by decide +kernel
theorem dL_law_474 : decode cL_law 474 = .ok (.iload_n 3, 1) := by decide +kernel
theorem dL_law_475 : decode cL_law 475 = .ok (.iconst 3, 1) := by decide +kernel
theorem dL_law_476 : decode cL_law 476 = .ok (.iadd, 1) := by decide +kernel
theorem dL_law_477 : decode cL_law 477 = .ok (.iaload, 1) := by decide +kernel
theorem dL_law_478 : decode cL_law 478 = .ok (.aload_n 0, 1) := by decide +kernel
theorem dL_law_479 : decode cL_law 479 = .ok (.iload_n 3, 1) := by decide +kernel
theorem dL_law_480 : decode cL_law 480 = .ok (.iconst 4, 1) := by decide +kernel
theorem dL_law_481 : decode cL_law 481 = .ok (.iadd, 1) := by decide +kernel
theorem dL_law_482 : decode cL_law 482 = .ok (.iaload, 1) := by decide +kernel
theorem dL_law_483 : decode cL_law 483 = .ok (.aload_n 0, 1) := by decide +kernel
theorem dL_law_484 : decode cL_law 484 = .ok (.iload_n 3, 1) := by decide +kernel
theorem dL_law_485 : decode cL_law 485 = .ok (.iconst 5, 1) := by decide +kernel
theorem dL_law_486 : decode cL_law 486 = .ok (.iadd, 1) := by decide +kernel
theorem dL_law_487 : decode cL_law 487 = .ok (.iaload, 1) := by decide +kernel
theorem dL_law_488 : decode cL_law 488 = .ok (.invokevirtual 59, 3) := by decide +kernel
theorem dL_law_491 : decode cL_law 491 = .ok (.aload_n 2, 1) := by decide +kernel
theorem dL_law_492 : decode cL_law 492 = .ok (.aload_n 0, 1) := by decide +kernel
theorem dL_law_493 : decode cL_law 493 = .ok (.iload_n 3, 1) := by decide +kernel
theorem dL_law_494 : decode cL_law 494 = .ok (.iconst 1, 1) := by decide +kernel
theorem dL_law_495 : decode cL_law 495 = .ok (.iadd, 1) := by decide +kernel
theorem dL_law_496 : decode cL_law 496 = .ok (.iaload, 1) := by decide +kernel
theorem dL_law_497 : decode cL_law 497 = .ok (.aload_n 0, 1) := by decide +kernel
theorem dL_law_498 : decode cL_law 498 = .ok (.iload_n 3, 1) := by decide +kernel
theorem dL_law_499 : decode cL_law 499 = .ok (.iconst 2, 1) := by decide +kernel
theorem dL_law_500 : decode cL_law 500 = .ok (.iadd, 1) := by decide +kernel
theorem dL_law_501 : decode cL_law 501 = .ok (.iaload, 1) := by decide +kernel
theorem dL_law_502 : decode cL_law 502 = .ok (.aload_n 0, 1) := by decide +kernel
theorem dL_law_503 : decode cL_law 503 = .ok (.iload_n 3, 1) := by decide +kernel
theorem dL_law_504 : decode cL_law 504 = .ok (.iconst 3, 1) := by decide +kernel
theorem dL_law_505 : decode cL_law 505 = .ok (.iadd, 1) := by decide +kernel
theorem dL_law_506 : decode cL_law 506 = .ok (.iaload, 1) := by decide +kernel
theorem dL_law_507 : decode cL_law 507 = .ok (.aload_n 0, 1) := by decide +kernel
theorem dL_law_508 : decode cL_law 508 = .ok (.iload_n 3, 1) := by decide +kernel
theorem dL_law_509 : decode cL_law 509 = .ok (.iconst 4, 1) := by decide +kernel
theorem dL_law_510 : decode cL_law 510 = .ok (.iadd, 1) := by decide +kernel
theorem dL_law_511 : decode cL_law 511 = .ok (.iaload, 1) := by decide +kernel
theorem dL_law_512 : decode cL_law 512 = .ok (.aload_n 0, 1) := by decide +kernel
theorem dL_law_513 : decode cL_law 513 = .ok (.iload_n 3, 1) := by decide +kernel
theorem dL_law_514 : decode cL_law 514 = .ok (.iconst 5, 1) := by decide +kernel
theorem dL_law_515 : decode cL_law 515 = .ok (.iadd, 1) := by decide +kernel
theorem dL_law_516 : decode cL_law 516 = .ok (.iaload, 1) := by decide +kernel
theorem dL_law_517 : decode cL_law 517 = .ok (.invokevirtual 63, 3) := by decide +kernel
theorem dL_law_520 : decode cL_law 520 = .ok (.if_icmp .eq 341, 3) := by decide +kernel
theorem dL_law_523 : decode cL_law 523 = .ok (.iconst 0, 1) := by decide +kernel
theorem dL_law_524 : decode cL_law 524 = .ok (.ireturn, 1) := by decide +kernel
theorem dL_law_525 : decode cL_law 525 = .ok (.aload_n 1, 1) := by decide +kernel
theorem dL_law_526 : decode cL_law 526 = .ok (.aload_n 0, 1) := by decide +kernel
theorem dL_law_527 : decode cL_law 527 = .ok (.iload_n 3, 1) := by decide +kernel
theorem dL_law_528 : decode cL_law 528 = .ok (.iconst 1, 1) := by decide +kernel
theorem dL_law_529 : decode cL_law 529 = .ok (.iadd, 1) := by decide +kernel
theorem dL_law_530 : decode cL_law 530 = .ok (.iaload, 1) := by decide +kernel
theorem dL_law_531 : decode cL_law 531 = .ok (.invokevirtual 64, 3) := by decide +kernel
theorem dL_law_534 : decode cL_law 534 = .ok (.aload_n 2, 1) := by decide +kernel
theorem dL_law_535 : decode cL_law 535 = .ok (.aload_n 0, 1) := by decide +kernel
theorem dL_law_536 : decode cL_law 536 = .ok (.iload_n 3, 1) := by decide +kernel
theorem dL_law_537 : decode cL_law 537 = .ok (.iconst 1, 1) := by decide +kernel
theorem dL_law_538 : decode cL_law 538 = .ok (.iadd, 1) := by decide +kernel
theorem dL_law_539 : decode cL_law 539 = .ok (.iaload, 1) := by decide +kernel
theorem dL_law_540 : decode cL_law 540 = .ok (.invokevirtual 67, 3) := by decide +kernel
theorem dL_law_543 : decode cL_law 543 = .ok (.if_icmp .eq 318, 3) := by decide +kernel
theorem dL_law_546 : decode cL_law 546 = .ok (.iconst 0, 1) := by decide +kernel
theorem dL_law_547 : decode cL_law 547 = .ok (.ireturn, 1) := by decide +kernel
theorem dL_law_548 : decode cL_law 548 = .ok (.aload_n 1, 1) := by decide +kernel
theorem dL_law_549 : decode cL_law 549 = .ok (.invokevirtual 68, 3) := by decide +kernel
theorem dL_law_552 : decode cL_law 552 = .ok (.aload_n 2, 1) := by decide +kernel
theorem dL_law_553 : decode cL_law 553 = .ok (.invokevirtual 72, 3) := by decide +kernel
theorem dL_law_556 : decode cL_law 556 = .ok (.if_icmp .eq 305, 3) := by decide +kernel
theorem dL_law_559 : decode cL_law 559 = .ok (.iconst 0, 1) := by decide +kernel
theorem dL_law_560 : decode cL_law 560 = .ok (.ireturn, 1) := by decide +kernel
theorem dL_law_561 : decode cL_law 561 = .ok (.aload_n 1, 1) := by decide +kernel
theorem dL_law_562 : decode cL_law 562 = .ok (.aload_n 0, 1) := by decide +kernel
theorem dL_law_563 : decode cL_law 563 = .ok (.iload_n 3, 1) := by decide +kernel
theorem dL_law_564 : decode cL_law 564 = .ok (.iconst 1, 1) := by decide +kernel
theorem dL_law_565 : decode cL_law 565 = .ok (.iadd, 1) := by decide +kernel
theorem dL_law_566 : decode cL_law 566 = .ok (.iaload, 1) := by decide +kernel
theorem dL_law_567 : decode cL_law 567 = .ok (.invokevirtual 73, 3) := by decide +kernel
theorem dL_law_570 : decode cL_law 570 = .ok (.aload_n 2, 1) := by decide +kernel
theorem dL_law_571 : decode cL_law 571 = .ok (.aload_n 0, 1) := by decide +kernel
theorem dL_law_572 : decode cL_law 572 = .ok (.iload_n 3, 1) := by decide +kernel
theorem dL_law_573 : decode cL_law 573 = .ok (.iconst 1, 1) := by decide +kernel
theorem dL_law_574 : decode cL_law 574 = .ok (.iadd, 1) := by decide +kernel
theorem dL_law_575 : decode cL_law 575 = .ok (.iaload, 1) := by decide +kernel
theorem dL_law_576 : decode cL_law 576 = .ok (.invokevirtual 76, 3) := by decide +kernel
theorem dL_law_579 : decode cL_law 579 = .ok (.if_icmp .eq 282, 3) := by decide +kernel
theorem dL_law_582 : decode cL_law 582 = .ok (.iconst 0, 1) := by decide +kernel
theorem dL_law_583 : decode cL_law 583 = .ok (.ireturn, 1) := by decide +kernel
theorem dL_law_584 : decode cL_law 584 = .ok (.aload_n 1, 1) := by decide +kernel
theorem dL_law_585 : decode cL_law 585 = .ok (.aload_n 0, 1) := by decide +kernel
theorem dL_law_586 : decode cL_law 586 = .ok (.iload_n 3, 1) := by decide +kernel
theorem dL_law_587 : decode cL_law 587 = .ok (.iconst 1, 1) := by decide +kernel
theorem dL_law_588 : decode cL_law 588 = .ok (.iadd, 1) := by decide +kernel
theorem dL_law_589 : decode cL_law 589 = .ok (.iaload, 1) := by decide +kernel
theorem dL_law_590 : decode cL_law 590 = .ok (.aload_n 0, 1) := by decide +kernel
theorem dL_law_591 : decode cL_law 591 = .ok (.iload_n 3, 1) := by decide +kernel
theorem dL_law_592 : decode cL_law 592 = .ok (.iconst 2, 1) := by decide +kernel
theorem dL_law_593 : decode cL_law 593 = .ok (.iadd, 1) := by decide +kernel
theorem dL_law_594 : decode cL_law 594 = .ok (.iaload, 1) := by decide +kernel
theorem dL_law_595 : decode cL_law 595 = .ok (.invokevirtual 77, 3) := by decide +kernel
theorem dL_law_598 : decode cL_law 598 = .ok (.aload_n 2, 1) := by decide +kernel
theorem dL_law_599 : decode cL_law 599 = .ok (.aload_n 0, 1) := by decide +kernel
theorem dL_law_600 : decode cL_law 600 = .ok (.iload_n 3, 1) := by decide +kernel
theorem dL_law_601 : decode cL_law 601 = .ok (.iconst 1, 1) := by decide +kernel
theorem dL_law_602 : decode cL_law 602 = .ok (.iadd, 1) := by decide +kernel
theorem dL_law_603 : decode cL_law 603 = .ok (.iaload, 1) := by decide +kernel
theorem dL_law_604 : decode cL_law 604 = .ok (.aload_n 0, 1) := by decide +kernel
theorem dL_law_605 : decode cL_law 605 = .ok (.iload_n 3, 1) := by decide +kernel
theorem dL_law_606 : decode cL_law 606 = .ok (.iconst 2, 1) := by decide +kernel
theorem dL_law_607 : decode cL_law 607 = .ok (.iadd, 1) := by decide +kernel
theorem dL_law_608 : decode cL_law 608 = .ok (.iaload, 1) := by decide +kernel
theorem dL_law_609 : decode cL_law 609 = .ok (.invokevirtual 80, 3) := by decide +kernel
theorem dL_law_612 : decode cL_law 612 = .ok (.if_icmp .eq 249, 3) := by decide +kernel
theorem dL_law_615 : decode cL_law 615 = .ok (.iconst 0, 1) := by decide +kernel
theorem dL_law_616 : decode cL_law 616 = .ok (.ireturn, 1) := by decide +kernel
theorem dL_law_617 : decode cL_law 617 = .ok (.aload_n 1, 1) := by decide +kernel
theorem dL_law_618 : decode cL_law 618 = .ok (.aload_n 0, 1) := by decide +kernel
theorem dL_law_619 : decode cL_law 619 = .ok (.iload_n 3, 1) := by decide +kernel
theorem dL_law_620 : decode cL_law 620 = .ok (.iconst 1, 1) := by decide +kernel
theorem dL_law_621 : decode cL_law 621 = .ok (.iadd, 1) := by decide +kernel
theorem dL_law_622 : decode cL_law 622 = .ok (.iaload, 1) := by decide +kernel
theorem dL_law_623 : decode cL_law 623 = .ok (.invokevirtual 81, 3) := by decide +kernel
theorem dL_law_626 : decode cL_law 626 = .ok (.aload_n 2, 1) := by decide +kernel
theorem dL_law_627 : decode cL_law 627 = .ok (.aload_n 0, 1) := by decide +kernel
theorem dL_law_628 : decode cL_law 628 = .ok (.iload_n 3, 1) := by decide +kernel
theorem dL_law_629 : decode cL_law 629 = .ok (.iconst 1, 1) := by decide +kernel
theorem dL_law_630 : decode cL_law 630 = .ok (.iadd, 1) := by decide +kernel
theorem dL_law_631 : decode cL_law 631 = .ok (.iaload, 1) := by decide +kernel
theorem dL_law_632 : decode cL_law 632 = .ok (.invokevirtual 84, 3) := by decide +kernel
theorem dL_law_635 : decode cL_law 635 = .ok (.if_icmp .eq 226, 3) := by decide +kernel
theorem dL_law_638 : decode cL_law 638 = .ok (.iconst 0, 1) := by decide +kernel
theorem dL_law_639 : decode cL_law 639 = .ok (.ireturn, 1) := by decide +kernel
theorem dL_law_640 : decode cL_law 640 = .ok (.aload_n 1, 1) := by decide +kernel
theorem dL_law_641 : decode cL_law 641 = .ok (.aload_n 0, 1) := by decide +kernel
theorem dL_law_642 : decode cL_law 642 = .ok (.iload_n 3, 1) := by decide +kernel
theorem dL_law_643 : decode cL_law 643 = .ok (.iconst 1, 1) := by decide +kernel
theorem dL_law_644 : decode cL_law 644 = .ok (.iadd, 1) := by decide +kernel
theorem dL_law_645 : decode cL_law 645 = .ok (.iaload, 1) := by decide +kernel
theorem dL_law_646 : decode cL_law 646 = .ok (.aload_n 0, 1) := by decide +kernel
theorem dL_law_647 : decode cL_law 647 = .ok (.iload_n 3, 1) := by decide +kernel
theorem dL_law_648 : decode cL_law 648 = .ok (.iconst 2, 1) := by decide +kernel
theorem dL_law_649 : decode cL_law 649 = .ok (.iadd, 1) := by decide +kernel
theorem dL_law_650 : decode cL_law 650 = .ok (.iaload, 1) := by decide +kernel
theorem dL_law_651 : decode cL_law 651 = .ok (.aload_n 0, 1) := by decide +kernel
theorem dL_law_652 : decode cL_law 652 = .ok (.iload_n 3, 1) := by decide +kernel
theorem dL_law_653 : decode cL_law 653 = .ok (.iconst 3, 1) := by decide +kernel
theorem dL_law_654 : decode cL_law 654 = .ok (.iadd, 1) := by decide +kernel
theorem dL_law_655 : decode cL_law 655 = .ok (.iaload, 1) := by decide +kernel
theorem dL_law_656 : decode cL_law 656 = .ok (.invokevirtual 85, 3) := by decide +kernel
theorem dL_law_659 : decode cL_law 659 = .ok (.aload_n 2, 1) := by decide +kernel
theorem dL_law_660 : decode cL_law 660 = .ok (.aload_n 0, 1) := by decide +kernel
theorem dL_law_661 : decode cL_law 661 = .ok (.iload_n 3, 1) := by decide +kernel
theorem dL_law_662 : decode cL_law 662 = .ok (.iconst 1, 1) := by decide +kernel
theorem dL_law_663 : decode cL_law 663 = .ok (.iadd, 1) := by decide +kernel
theorem dL_law_664 : decode cL_law 664 = .ok (.iaload, 1) := by decide +kernel
theorem dL_law_665 : decode cL_law 665 = .ok (.aload_n 0, 1) := by decide +kernel
theorem dL_law_666 : decode cL_law 666 = .ok (.iload_n 3, 1) := by decide +kernel
theorem dL_law_667 : decode cL_law 667 = .ok (.iconst 2, 1) := by decide +kernel
theorem dL_law_668 : decode cL_law 668 = .ok (.iadd, 1) := by decide +kernel
theorem dL_law_669 : decode cL_law 669 = .ok (.iaload, 1) := by decide +kernel
theorem dL_law_670 : decode cL_law 670 = .ok (.aload_n 0, 1) := by decide +kernel
theorem dL_law_671 : decode cL_law 671 = .ok (.iload_n 3, 1) := by decide +kernel
theorem dL_law_672 : decode cL_law 672 = .ok (.iconst 3, 1) := by decide +kernel
theorem dL_law_673 : decode cL_law 673 = .ok (.iadd, 1) := by decide +kernel
theorem dL_law_674 : decode cL_law 674 = .ok (.iaload, 1) := by decide +kernel
theorem dL_law_675 : decode cL_law 675 = .ok (.invokevirtual 89, 3) := by decide +kernel
theorem dL_law_678 : decode cL_law 678 = .ok (.if_icmp .eq 183, 3) := by decide +kernel
theorem dL_law_681 : decode cL_law 681 = .ok (.iconst 0, 1) := by decide +kernel
theorem dL_law_682 : decode cL_law 682 = .ok (.ireturn, 1) := by decide +kernel
theorem dL_law_683 : decode cL_law 683 = .ok (.aload_n 1, 1) := by decide +kernel
theorem dL_law_684 : decode cL_law 684 = .ok (.aload_n 0, 1) := by decide +kernel
theorem dL_law_685 : decode cL_law 685 = .ok (.iload_n 3, 1) := by decide +kernel
theorem dL_law_686 : decode cL_law 686 = .ok (.iconst 1, 1) := by decide +kernel
theorem dL_law_687 : decode cL_law 687 = .ok (.iadd, 1) := by decide +kernel
theorem dL_law_688 : decode cL_law 688 = .ok (.iaload, 1) := by decide +kernel
theorem dL_law_689 : decode cL_law 689 = .ok (.invokevirtual 90, 3) := by decide +kernel
theorem dL_law_692 : decode cL_law 692 = .ok (.aload_n 2, 1) := by decide +kernel
theorem dL_law_693 : decode cL_law 693 = .ok (.aload_n 0, 1) := by decide +kernel
theorem dL_law_694 : decode cL_law 694 = .ok (.iload_n 3, 1) := by decide +kernel
theorem dL_law_695 : decode cL_law 695 = .ok (.iconst 1, 1) := by decide +kernel
theorem dL_law_696 : decode cL_law 696 = .ok (.iadd, 1) := by decide +kernel
theorem dL_law_697 : decode cL_law 697 = .ok (.iaload, 1) := by decide +kernel
theorem dL_law_698 : decode cL_law 698 = .ok (.invokevirtual 93, 3) := by decide +kernel
theorem dL_law_701 : decode cL_law 701 = .ok (.if_icmp .eq 160, 3) := by decide +kernel
theorem dL_law_704 : decode cL_law 704 = .ok (.iconst 0, 1) := by decide +kernel
theorem dL_law_705 : decode cL_law 705 = .ok (.ireturn, 1) := by decide +kernel
theorem dL_law_706 : decode cL_law 706 = .ok (.aload_n 1, 1) := by decide +kernel
theorem dL_law_707 : decode cL_law 707 = .ok (.aload_n 0, 1) := by decide +kernel
theorem dL_law_708 : decode cL_law 708 = .ok (.iload_n 3, 1) := by decide +kernel
theorem dL_law_709 : decode cL_law 709 = .ok (.iconst 1, 1) := by decide +kernel
theorem dL_law_710 : decode cL_law 710 = .ok (.iadd, 1) := by decide +kernel
theorem dL_law_711 : decode cL_law 711 = .ok (.iaload, 1) := by decide +kernel
theorem dL_law_712 : decode cL_law 712 = .ok (.aload_n 0, 1) := by decide +kernel
theorem dL_law_713 : decode cL_law 713 = .ok (.iload_n 3, 1) := by decide +kernel
theorem dL_law_714 : decode cL_law 714 = .ok (.iconst 2, 1) := by decide +kernel
theorem dL_law_715 : decode cL_law 715 = .ok (.iadd, 1) := by decide +kernel
theorem dL_law_716 : decode cL_law 716 = .ok (.iaload, 1) := by decide +kernel
theorem dL_law_717 : decode cL_law 717 = .ok (.invokevirtual 94, 3) := by decide +kernel
theorem dL_law_720 : decode cL_law 720 = .ok (.aload_n 2, 1) := by decide +kernel
theorem dL_law_721 : decode cL_law 721 = .ok (.aload_n 0, 1) := by decide +kernel
theorem dL_law_722 : decode cL_law 722 = .ok (.iload_n 3, 1) := by decide +kernel
theorem dL_law_723 : decode cL_law 723 = .ok (.iconst 1, 1) := by decide +kernel
theorem dL_law_724 : decode cL_law 724 = .ok (.iadd, 1) := by decide +kernel
theorem dL_law_725 : decode cL_law 725 = .ok (.iaload, 1) := by decide +kernel
theorem dL_law_726 : decode cL_law 726 = .ok (.aload_n 0, 1) := by decide +kernel
theorem dL_law_727 : decode cL_law 727 = .ok (.iload_n 3, 1) := by decide +kernel
theorem dL_law_728 : decode cL_law 728 = .ok (.iconst 2, 1) := by decide +kernel
theorem dL_law_729 : decode cL_law 729 = .ok (.iadd, 1) := by decide +kernel
theorem dL_law_730 : decode cL_law 730 = .ok (.iaload, 1) := by decide +kernel
theorem dL_law_731 : decode cL_law 731 = .ok (.invokevirtual 97, 3) := by decide +kernel
theorem dL_law_734 : decode cL_law 734 = .ok (.if_icmp .eq 127, 3) := by decide +kernel
theorem dL_law_737 : decode cL_law 737 = .ok (.iconst 0, 1) := by decide +kernel
theorem dL_law_738 : decode cL_law 738 = .ok (.ireturn, 1) := by decide +kernel
theorem dL_law_739 : decode cL_law 739 = .ok (.aload_n 1, 1) := by decide +kernel
theorem dL_law_740 : decode cL_law 740 = .ok (.aload_n 0, 1) := by decide +kernel
theorem dL_law_741 : decode cL_law 741 = .ok (.iload_n 3, 1) := by decide +kernel
theorem dL_law_742 : decode cL_law 742 = .ok (.iconst 1, 1) := by decide +kernel
theorem dL_law_743 : decode cL_law 743 = .ok (.iadd, 1) := by decide +kernel
theorem dL_law_744 : decode cL_law 744 = .ok (.iaload, 1) := by decide +kernel
theorem dL_law_745 : decode cL_law 745 = .ok (.aload_n 0, 1) := by decide +kernel
theorem dL_law_746 : decode cL_law 746 = .ok (.iload_n 3, 1) := by decide +kernel
theorem dL_law_747 : decode cL_law 747 = .ok (.iconst 2, 1) := by decide +kernel
theorem dL_law_748 : decode cL_law 748 = .ok (.iadd, 1) := by decide +kernel
theorem dL_law_749 : decode cL_law 749 = .ok (.iaload, 1) := by decide +kernel
theorem dL_law_750 : decode cL_law 750 = .ok (.invokevirtual 98, 3) := by decide +kernel
theorem dL_law_753 : decode cL_law 753 = .ok (.aload_n 2, 1) := by decide +kernel
theorem dL_law_754 : decode cL_law 754 = .ok (.aload_n 0, 1) := by decide +kernel
theorem dL_law_755 : decode cL_law 755 = .ok (.iload_n 3, 1) := by decide +kernel
theorem dL_law_756 : decode cL_law 756 = .ok (.iconst 1, 1) := by decide +kernel
theorem dL_law_757 : decode cL_law 757 = .ok (.iadd, 1) := by decide +kernel
theorem dL_law_758 : decode cL_law 758 = .ok (.iaload, 1) := by decide +kernel
theorem dL_law_759 : decode cL_law 759 = .ok (.aload_n 0, 1) := by decide +kernel
theorem dL_law_760 : decode cL_law 760 = .ok (.iload_n 3, 1) := by decide +kernel
theorem dL_law_761 : decode cL_law 761 = .ok (.iconst 2, 1) := by decide +kernel
theorem dL_law_762 : decode cL_law 762 = .ok (.iadd, 1) := by decide +kernel
theorem dL_law_763 : decode cL_law 763 = .ok (.iaload, 1) := by decide +kernel
theorem dL_law_764 : decode cL_law 764 = .ok (.invokevirtual 101, 3) := by decide +kernel
theorem dL_law_767 : decode cL_law 767 = .ok (.if_icmp .eq 94, 3) := by decide +kernel
theorem dL_law_770 : decode cL_law 770 = .ok (.iconst 0, 1) := by decide +kernel
theorem dL_law_771 : decode cL_law 771 = .ok (.ireturn, 1) := by decide +kernel
theorem dL_law_772 : decode cL_law 772 = .ok (.aload_n 1, 1) := by decide +kernel
theorem dL_law_773 : decode cL_law 773 = .ok (.aload_n 0, 1) := by decide +kernel
theorem dL_law_774 : decode cL_law 774 = .ok (.iload_n 3, 1) := by decide +kernel
theorem dL_law_775 : decode cL_law 775 = .ok (.iconst 1, 1) := by decide +kernel
theorem dL_law_776 : decode cL_law 776 = .ok (.iadd, 1) := by decide +kernel
theorem dL_law_777 : decode cL_law 777 = .ok (.iaload, 1) := by decide +kernel
theorem dL_law_778 : decode cL_law 778 = .ok (.aload_n 0, 1) := by decide +kernel
theorem dL_law_779 : decode cL_law 779 = .ok (.iload_n 3, 1) := by decide +kernel
theorem dL_law_780 : decode cL_law 780 = .ok (.iconst 2, 1) := by decide +kernel
theorem dL_law_781 : decode cL_law 781 = .ok (.iadd, 1) := by decide +kernel
theorem dL_law_782 : decode cL_law 782 = .ok (.iaload, 1) := by decide +kernel
theorem dL_law_783 : decode cL_law 783 = .ok (.invokevirtual 102, 3) := by decide +kernel
theorem dL_law_786 : decode cL_law 786 = .ok (.aload_n 2, 1) := by decide +kernel
theorem dL_law_787 : decode cL_law 787 = .ok (.aload_n 0, 1) := by decide +kernel
theorem dL_law_788 : decode cL_law 788 = .ok (.iload_n 3, 1) := by decide +kernel
theorem dL_law_789 : decode cL_law 789 = .ok (.iconst 1, 1) := by decide +kernel
theorem dL_law_790 : decode cL_law 790 = .ok (.iadd, 1) := by decide +kernel
theorem dL_law_791 : decode cL_law 791 = .ok (.iaload, 1) := by decide +kernel
theorem dL_law_792 : decode cL_law 792 = .ok (.aload_n 0, 1) := by decide +kernel
theorem dL_law_793 : decode cL_law 793 = .ok (.iload_n 3, 1) := by decide +kernel
theorem dL_law_794 : decode cL_law 794 = .ok (.iconst 2, 1) := by decide +kernel
theorem dL_law_795 : decode cL_law 795 = .ok (.iadd, 1) := by decide +kernel
theorem dL_law_796 : decode cL_law 796 = .ok (.iaload, 1) := by decide +kernel
theorem dL_law_797 : decode cL_law 797 = .ok (.invokevirtual 105, 3) := by decide +kernel
theorem dL_law_800 : decode cL_law 800 = .ok (.if_icmp .eq 61, 3) := by decide +kernel
theorem dL_law_803 : decode cL_law 803 = .ok (.iconst 0, 1) := by decide +kernel
theorem dL_law_804 : decode cL_law 804 = .ok (.ireturn, 1) := by decide +kernel
theorem dL_law_805 : decode cL_law 805 = .ok (.aload_n 1, 1) := by decide +kernel
theorem dL_law_806 : decode cL_law 806 = .ok (.aload_n 0, 1) := by decide +kernel
theorem dL_law_807 : decode cL_law 807 = .ok (.iload_n 3, 1) := by decide +kernel
theorem dL_law_808 : decode cL_law 808 = .ok (.iconst 1, 1) := by decide +kernel
theorem dL_law_809 : decode cL_law 809 = .ok (.iadd, 1) := by decide +kernel
theorem dL_law_810 : decode cL_law 810 = .ok (.iaload, 1) := by decide +kernel
theorem dL_law_811 : decode cL_law 811 = .ok (.aload_n 0, 1) := by decide +kernel
theorem dL_law_812 : decode cL_law 812 = .ok (.iload_n 3, 1) := by decide +kernel
theorem dL_law_813 : decode cL_law 813 = .ok (.iconst 2, 1) := by decide +kernel
theorem dL_law_814 : decode cL_law 814 = .ok (.iadd, 1) := by decide +kernel
theorem dL_law_815 : decode cL_law 815 = .ok (.iaload, 1) := by decide +kernel
theorem dL_law_816 : decode cL_law 816 = .ok (.invokevirtual 106, 3) := by decide +kernel
theorem dL_law_819 : decode cL_law 819 = .ok (.aload_n 2, 1) := by decide +kernel
theorem dL_law_820 : decode cL_law 820 = .ok (.aload_n 0, 1) := by decide +kernel
theorem dL_law_821 : decode cL_law 821 = .ok (.iload_n 3, 1) := by decide +kernel
theorem dL_law_822 : decode cL_law 822 = .ok (.iconst 1, 1) := by decide +kernel
theorem dL_law_823 : decode cL_law 823 = .ok (.iadd, 1) := by decide +kernel
theorem dL_law_824 : decode cL_law 824 = .ok (.iaload, 1) := by decide +kernel
theorem dL_law_825 : decode cL_law 825 = .ok (.aload_n 0, 1) := by decide +kernel
theorem dL_law_826 : decode cL_law 826 = .ok (.iload_n 3, 1) := by decide +kernel
theorem dL_law_827 : decode cL_law 827 = .ok (.iconst 2, 1) := by decide +kernel
theorem dL_law_828 : decode cL_law 828 = .ok (.iadd, 1) := by decide +kernel
theorem dL_law_829 : decode cL_law 829 = .ok (.iaload, 1) := by decide +kernel
theorem dL_law_830 : decode cL_law 830 = .ok (.invokevirtual 109, 3) := by decide +kernel
theorem dL_law_833 : decode cL_law 833 = .ok (.if_icmp .eq 28, 3) := by decide +kernel
theorem dL_law_836 : decode cL_law 836 = .ok (.iconst 0, 1) := by decide +kernel
theorem dL_law_837 : decode cL_law 837 = .ok (.ireturn, 1) := by decide +kernel
theorem dL_law_838 : decode cL_law 838 = .ok (.aload_n 1, 1) := by decide +kernel
theorem dL_law_839 : decode cL_law 839 = .ok (.aload_n 0, 1) := by decide +kernel
theorem dL_law_840 : decode cL_law 840 = .ok (.iload_n 3, 1) := by decide +kernel
theorem dL_law_841 : decode cL_law 841 = .ok (.iconst 1, 1) := by decide +kernel
theorem dL_law_842 : decode cL_law 842 = .ok (.iadd, 1) := by decide +kernel
theorem dL_law_843 : decode cL_law 843 = .ok (.iaload, 1) := by decide +kernel
theorem dL_law_844 : decode cL_law 844 = .ok (.invokevirtual 110, 3) := by decide +kernel
theorem dL_law_847 : decode cL_law 847 = .ok (.aload_n 2, 1) := by decide +kernel
theorem dL_law_848 : decode cL_law 848 = .ok (.aload_n 0, 1) := by decide +kernel
theorem dL_law_849 : decode cL_law 849 = .ok (.iload_n 3, 1) := by decide +kernel
theorem dL_law_850 : decode cL_law 850 = .ok (.iconst 1, 1) := by decide +kernel
theorem dL_law_851 : decode cL_law 851 = .ok (.iadd, 1) := by decide +kernel
theorem dL_law_852 : decode cL_law 852 = .ok (.iaload, 1) := by decide +kernel
theorem dL_law_853 : decode cL_law 853 = .ok (.invokevirtual 113, 3) := by decide +kernel
theorem dL_law_856 : decode cL_law 856 = .ok (.if_icmp .eq 5, 3) := by decide +kernel
theorem dL_law_859 : decode cL_law 859 = .ok (.iconst 0, 1) := by decide +kernel
theorem dL_law_860 : decode cL_law 860 = .ok (.ireturn, 1) := by decide +kernel
theorem dL_law_861 : decode cL_law 861 = .ok (.iinc 3 6, 3) := by decide +kernel
theorem dL_law_864 : decode cL_law 864 = .ok (.goto (-846), 3) := by decide +kernel
theorem dL_law_867 : decode cL_law 867 = .ok (.iconst 1, 1) := by decide +kernel
theorem dL_law_868 : decode cL_law 868 = .ok (.ireturn, 1) := by decide +kernel
end
section
/-! plain facts on numbers and arrays, to paste: each family by itself; over the kit's rows on nI and upd -/
/-! ===== order of ints, in all its forms, and through longs ===== -/
theorem fa_lt (a b : Int32) : a < b ↔ a.toInt < b.toInt := Int32.lt_iff_toInt_lt
theorem fa_le (a b : Int32) : a ≤ b ↔ a.toInt ≤ b.toInt := Int32.le_iff_toInt_le
theorem fa_eq (a b : Int32) : a = b ↔ a.toInt = b.toInt := Int32.toInt_inj.symm
theorem fa_lt64 (a b : Int64) : a < b ↔ a.toInt < b.toInt := Int64.lt_iff_toInt_lt
theorem fa_le64 (a b : Int64) : a ≤ b ↔ a.toInt ≤ b.toInt := Int64.le_iff_toInt_le
theorem fa_eq64 (a b : Int64) : a = b ↔ a.toInt = b.toInt := Int64.toInt_inj.symm
/-- a comparison of two ints taken as longs -/
theorem fa_wide_lt (a b : Int32) : a.toInt64 < b.toInt64 ↔ a < b := by rw [fa_lt64, fa_lt, Int32.toInt_toInt64, Int32.toInt_toInt64]
theorem fa_wide_le (a b : Int32) : a.toInt64 ≤ b.toInt64 ↔ a ≤ b := by rw [fa_le64, fa_le, Int32.toInt_toInt64, Int32.toInt_toInt64]
theorem fa_wide_eq (a b : Int32) : a.toInt64 = b.toInt64 ↔ a = b := by rw [fa_eq64, fa_eq, Int32.toInt_toInt64, Int32.toInt_toInt64]
/-- one strict comparison gives all the others -/
theorem fa_of_lt {a b : Int32} (h : a < b) : a ≤ b ∧ ¬ b ≤ a ∧ ¬ b < a ∧ a ≠ b ∧ b ≠ a := by
  rw [fa_lt] at h
  refine ⟨?_, ?_, ?_, ?_, ?_⟩
  · rw [fa_le]; omega
  · rw [fa_le]; omega
  · rw [fa_lt]; omega
  · intro e; rw [fa_eq] at e; omega
  · intro e; rw [fa_eq] at e; omega
theorem fa_of_nlt {a b : Int32} (h : ¬ a < b) : b ≤ a := by
  rw [fa_lt] at h
  rw [fa_le]
  omega
theorem fa_of_nle {a b : Int32} (h : ¬ a ≤ b) : b < a := by
  rw [fa_le] at h
  rw [fa_lt]
  omega
theorem fa_le_ne {a b : Int32} (h : a ≤ b) (h2 : a ≠ b) : a < b := by
  rw [fa_le] at h
  rw [fa_lt]
  have h3 : a.toInt ≠ b.toInt := fun e => h2 ((fa_eq a b).mpr e)
  omega
theorem fa_three (a b : Int32) : a < b ∨ a = b ∨ b < a := by
  rw [fa_lt, fa_lt, fa_eq]
  omega
theorem fa_trans {a b c : Int32} (h : a < b) (h2 : b ≤ c) : a < c := by
  rw [fa_lt] at *
  rw [fa_le] at h2
  omega
/-! ===== small literals as numbers ===== -/
theorem fa_lit (n : Nat) : (OfNat.ofNat n : Int32) = nI n := rfl
theorem fa_litL (n : Nat) : (OfNat.ofNat n : Int64) = lN n := rfl
/-! ===== bits of a number: 'or', masks, one bit ===== -/
theorem fa_and (a b : Nat) : nI a &&& nI b = nI (a &&& b) := by
  apply Int32.toBitVec_inj.1
  show BitVec.ofNat 32 a &&& BitVec.ofNat 32 b = BitVec.ofNat 32 (a &&& b)
  apply BitVec.eq_of_getLsbD_eq
  intro i hi
  simp [hi]
theorem fa_or (a b : Nat) : nI a ||| nI b = nI (a ||| b) := by
  apply Int32.toBitVec_inj.1
  show BitVec.ofNat 32 a ||| BitVec.ofNat 32 b = BitVec.ofNat 32 (a ||| b)
  apply BitVec.eq_of_getLsbD_eq
  intro i hi
  simp [hi]
/-- a remainder by a power of two, as a mask -/
theorem fa_mask (n k : Nat) : nI n &&& nI (2 ^ k - 1) = nI (n % 2 ^ k) := by rw [fa_and, Nat.and_two_pow_sub_one_eq_mod]
/-- 'or' of a high part and a low one that don't meet is their sum -/
theorem fa_or_sum {a k : Nat} (b : Nat) (h : a < 2 ^ k) : nI (2 ^ k * b) ||| nI a = nI (2 ^ k * b + a) := by rw [fa_or, Nat.two_pow_add_eq_or_of_lt h]
/-- one bit, by 'and' with a power of two -/
theorem fa_bit {n j : Nat} (hj : j < 31) : nI n &&& nI (2 ^ j) = 0 ↔ n.testBit j = false := by
  have h2 : (2 : Nat) ^ j < 2 ^ 31 := Nat.pow_lt_pow_right (by decide) hj
  have hle : n &&& 2 ^ j ≤ 2 ^ j := Nat.and_le_right
  have e : n &&& 2 ^ j = 0 ↔ n.testBit j = false := by
    constructor
    · intro h
      have h1 : (n &&& 2 ^ j).testBit j = false := by rw [h]; simp
      rw [Nat.testBit_and] at h1
      first | simpa using h1 | simpa [Nat.testBit_two_pow_self] using h1 | simpa [Nat.testBit_two_pow] using h1
    · intro h
      apply Nat.eq_of_testBit_eq
      intro i
      rw [Nat.testBit_and]
      by_cases hi : j = i
      · subst hi; simp [h]
      · first | (simp [Nat.testBit_two_pow, hi]; done) | (simp [Nat.testBit_two_pow_of_ne hi]; done)
  rw [fa_and]
  constructor
  · intro h
    apply e.mp
    rcases Nat.eq_zero_or_pos (n &&& 2 ^ j) with z | z
    · exact z
    · exact absurd h (nI_ne0 z (Nat.lt_of_le_of_lt hle h2))
  · intro h
    rw [e.mpr h]; exact nI_0
/-- a remainder by a power of two of a number that isn't negative, as Java divides -/
theorem fa_rem {a k : Nat} (ha : a < 2 ^ 31) (hk : k < 31) : nI a - nI a / nI (2 ^ k) * nI (2 ^ k) = nI (a % 2 ^ k) := pk_rem ha (Nat.two_pow_pos k) (Nat.pow_lt_pow_right (by decide) hk)
/-! ===== cuts to a byte, a short ===== -/
theorem fa_byte_xor (x y : Int32) : (x ^^^ y).toInt8 = x.toInt8 ^^^ y.toInt8 := by
  apply Int8.toBitVec_inj.1
  apply BitVec.eq_of_getLsbD_eq
  intro i hi
  first | (simp [hi]; done) | (simp [hi, BitVec.getLsbD_setWidth, BitVec.getLsbD_signExtend]; done)
theorem fa_short_xor (x y : Int32) : (x ^^^ y).toInt16 = x.toInt16 ^^^ y.toInt16 := by
  apply Int16.toBitVec_inj.1
  apply BitVec.eq_of_getLsbD_eq
  intro i hi
  first | (simp [hi]; done) | (simp [hi, BitVec.getLsbD_setWidth, BitVec.getLsbD_signExtend]; done)
/-- the cut to a byte sees the low byte alone -/
theorem fa_byte_low (x : Int32) : (x &&& 255).toInt8 = x.toInt8 := by
  apply Int8.toBitVec_inj.1
  apply BitVec.eq_of_getLsbD_eq
  intro i hi
  have h2 : (255 : Int32).toBitVec.getLsbD i = true := by
    have : ∀ j : Fin 8, (255 : Int32).toBitVec.getLsbD j.val = true := by decide +kernel
    exact this ⟨i, hi⟩
  have h4 : (x &&& 255).toBitVec.getLsbD i = x.toBitVec.getLsbD i := by
    show (x.toBitVec &&& (255 : Int32).toBitVec).getLsbD i = _
    rw [BitVec.getLsbD_and, h2, Bool.and_true]
  have h3 : i < 32 := by omega
  first
    | (show (((x &&& 255).toBitVec).signExtend 8).getLsbD i = (x.toBitVec.signExtend 8).getLsbD i; rw [BitVec.getLsbD_signExtend, BitVec.getLsbD_signExtend, if_pos h3, if_pos h3, h4])
    | (show (((x &&& 255).toBitVec).setWidth 8).getLsbD i = (x.toBitVec.setWidth 8).getLsbD i; rw [BitVec.getLsbD_setWidth, BitVec.getLsbD_setWidth, h4])
    | (simp [hi, h3, h4]; done)
theorem fa_short_low (x : Int32) : (x &&& 65535).toInt16 = x.toInt16 := by
  apply Int16.toBitVec_inj.1
  apply BitVec.eq_of_getLsbD_eq
  intro i hi
  have h2 : (65535 : Int32).toBitVec.getLsbD i = true := by
    have : ∀ j : Fin 16, (65535 : Int32).toBitVec.getLsbD j.val = true := by decide +kernel
    exact this ⟨i, hi⟩
  have h4 : (x &&& 65535).toBitVec.getLsbD i = x.toBitVec.getLsbD i := by
    show (x.toBitVec &&& (65535 : Int32).toBitVec).getLsbD i = _
    rw [BitVec.getLsbD_and, h2, Bool.and_true]
  have h3 : i < 32 := by omega
  first
    | (show (((x &&& 65535).toBitVec).signExtend 16).getLsbD i = (x.toBitVec.signExtend 16).getLsbD i; rw [BitVec.getLsbD_signExtend, BitVec.getLsbD_signExtend, if_pos h3, if_pos h3, h4])
    | (show (((x &&& 65535).toBitVec).setWidth 16).getLsbD i = (x.toBitVec.setWidth 16).getLsbD i; rw [BitVec.getLsbD_setWidth, BitVec.getLsbD_setWidth, h4])
    | (simp [hi, h3, h4]; done)
/-- a small number is its own byte, its own short -/
theorem fa_byte_small {n : Nat} (h : n < 128) : (nI n).toInt8.toInt32 = nI n := by
  have : ∀ j : Fin 128, (nI j.val).toInt8.toInt32 = nI j.val := by decide +kernel
  exact this ⟨n, h⟩
/-! ===== absolute difference ===== -/
theorem fa_absdiff {a b : Nat} (ha : a < 2 ^ 31) (hb : b < 2 ^ 31) : (if nI a < nI b then nI b - nI a else nI a - nI b) = nI (if a < b then b - a else a - b) := by
  by_cases h : a < b
  · rw [if_pos (nI_lt h hb), if_pos h]
    exact pk_sub (Nat.le_of_lt h)
  · rw [if_neg (nI_nlt (Nat.le_of_not_lt h) ha), if_neg h]
    exact pk_sub (Nat.le_of_not_lt h)
/-! ===== an array behind i stores, a conditional store, a row copied ===== -/
/-- f where k < i, what stood there else -/
def fa_fill {α : Type} (f g : Nat → α) (i : Nat) : Nat → α := fun k => if k < i then f k else g k
theorem fa_fill_0 {α : Type} (f g : Nat → α) : fa_fill f g 0 = g := funext fun k => if_neg (Nat.not_lt_zero k)
theorem fa_fill_in {α : Type} {f g : Nat → α} {i k : Nat} (h : k < i) : fa_fill f g i k = f k := if_pos h
theorem fa_fill_out {α : Type} {f g : Nat → α} {i k : Nat} (h : i ≤ k) : fa_fill f g i k = g k := if_neg (Nat.not_lt.mpr h)
theorem fa_fill_succ (f g : Nat → Int32) (i : Nat) : upd (fa_fill f g i) i (f i) = fa_fill f g (i + 1) := by
  funext k
  by_cases e : k = i
  · subst e
    rw [pk_us]
    exact (if_pos (Nat.lt_succ_self k)).symm
  · rw [pk_un e]
    by_cases h : k < i
    · rw [fa_fill_in h, fa_fill_in (Nat.lt_succ_of_lt h)]
    · rw [fa_fill_out (Nat.le_of_not_lt h), fa_fill_out (by omega)]
/-- a store that changes nothing -/
theorem fa_upd_same {f : Nat → Int32} {i : Nat} {x : Int32} (h : f i = x) : upd f i x = f := by
  funext k
  by_cases e : k = i
  · subst e
    rw [pk_us, h]
  · rw [pk_un e]
/-- a store under a condition, told as one -/
theorem fa_upd_if (c : Prop) [Decidable c] (f : Nat → Int32) (i : Nat) (x : Int32) : (if c then upd f i x else f) = upd f i (if c then x else f i) := by
  by_cases h : c
  · rw [if_pos h, if_pos h]
  · rw [if_neg h, if_neg h, fa_upd_same rfl]
/-- two stores at one place, at two -/
theorem fa_upd_twice (f : Nat → Int32) (i : Nat) (x y : Int32) : upd (upd f i x) i y = upd f i y := by
  funext k
  by_cases e : k = i
  · subst e
    rw [pk_us, pk_us]
  · rw [pk_un e, pk_un e, pk_un e]
theorem fa_upd_swap (f : Nat → Int32) {i j : Nat} (h : i ≠ j) (x y : Int32) : upd (upd f i x) j y = upd (upd f j y) i x := by
  funext k
  by_cases e : k = i
  · subst e
    rw [pk_un h, pk_us, pk_us]
  · by_cases e2 : k = j
    · subst e2
      rw [pk_us, pk_un e, pk_us]
    · rw [pk_un e2, pk_un e, pk_un e, pk_un e2]
/-! ===== the first index with a property; a count ===== -/
/-- the first k < n with p k, n if there is none -/
def fa_first (p : Nat → Bool) : Nat → Nat
  | 0 => 0
  | n + 1 => if fa_first p n < n then fa_first p n else if p n then n else n + 1
theorem fa_first_le (p : Nat → Bool) : ∀ n, fa_first p n ≤ n
  | 0 => Nat.le_refl 0
  | n + 1 => by
    have ih := fa_first_le p n
    unfold fa_first
    split
    · omega
    · split
      · omega
      · omega
theorem fa_first_no (p : Nat → Bool) : ∀ n k, k < fa_first p n → p k = false
  | 0, k, h => absurd h (Nat.not_lt_zero k)
  | n + 1, k, h => by
    have ih := fa_first_no p n
    have hl := fa_first_le p n
    unfold fa_first at h
    split at h
    · exact ih k h
    · rename_i h1
      split at h
      · exact ih k (by omega)
      · rename_i h2
        by_cases e : k = n
        · subst e
          exact Bool.eq_false_iff.mpr h2
        · exact ih k (by omega)
theorem fa_first_yes (p : Nat → Bool) : ∀ n, fa_first p n < n → p (fa_first p n) = true
  | 0, h => absurd h (Nat.not_lt_zero _)
  | n + 1, h => by
    have ih := fa_first_yes p n
    have hl := fa_first_le p n
    unfold fa_first at h ⊢
    split at h
    · rename_i h1
      rw [if_pos h1]
      exact ih h1
    · rename_i h1
      rw [if_neg h1]
      split at h
      · rename_i h2
        rw [if_pos h2]
        exact h2
      · omega
/-- how many k < n have p k -/
def fa_cnt (p : Nat → Bool) : Nat → Nat
  | 0 => 0
  | n + 1 => fa_cnt p n + if p n then 1 else 0
theorem fa_cnt_le (p : Nat → Bool) : ∀ n, fa_cnt p n ≤ n
  | 0 => Nat.le_refl 0
  | n + 1 => by
    have ih := fa_cnt_le p n
    unfold fa_cnt
    split
    · omega
    · omega
theorem fa_cnt_yes {p : Nat → Bool} {n : Nat} (h : p n = true) : fa_cnt p (n + 1) = fa_cnt p n + 1 := by rw [fa_cnt, if_pos h]
theorem fa_cnt_no {p : Nat → Bool} {n : Nat} (h : p n = false) : fa_cnt p (n + 1) = fa_cnt p n := by rw [fa_cnt, if_neg (by rw [h]; decide)]; rfl
theorem fa_cnt_cong {p q : Nat → Bool} : ∀ {n : Nat}, (∀ k, k < n → p k = q k) → fa_cnt p n = fa_cnt q n
  | 0, _ => rfl
  | n + 1, h => by rw [fa_cnt, fa_cnt, fa_cnt_cong (fun k hk => h k (Nat.lt_succ_of_lt hk)), h n (Nat.lt_succ_self n)]
/-! ===== an answer carried into a post; a branch on a boolean answer ===== -/
theorem fa_post {α : Type} {P : α → Prop} {x y : α} (h : x = y) (hp : P y) : P x := h ▸ hp
theorem fa_post2 {α β : Type} {P : α → β → Prop} {x y : α} {u v : β} (h : x = y) (h2 : u = v) (hp : P y v) : P x u := h ▸ h2 ▸ hp
theorem fa_bool {r : Int32} {b : Bool} (h : r = if b then 1 else 0) : (r = 0 ↔ b = false) ∧ (¬ r = 0 ↔ b = true) := by
  subst h
  cases b
  · exact ⟨⟨fun _ => rfl, fun _ => rfl⟩, ⟨fun h => absurd rfl h, fun h => absurd h (by decide)⟩⟩
  · exact ⟨⟨fun h => absurd h (by decide), fun h => absurd h (by decide)⟩, ⟨fun _ => rfl, fun _ => by decide⟩⟩
/-- a boolean's narrowing changes nothing -/
theorem fa_bool_and {r : Int32} (h : r = 0 ∨ r = 1) : r &&& 1 = r := by
  rcases h with rfl | rfl
  · decide
  · decide
theorem fa_bool_prop {c : Prop} [Decidable c] {r : Int32} (h : r = if c then 1 else 0) : (r = 0 ↔ ¬ c) ∧ (¬ r = 0 ↔ c) := by
  subst h
  by_cases hc : c
  · rw [if_pos hc]
    exact ⟨⟨fun h => absurd h (by decide), fun h => absurd hc h⟩, ⟨fun _ => hc, fun _ => by decide⟩⟩
  · rw [if_neg hc]
    exact ⟨⟨fun _ => hc, fun _ => rfl⟩, ⟨fun h => absurd rfl h, fun h => absurd h hc⟩⟩
/-! plain facts to paste, each family by itself; over the kit's nI, lN and upd -/
/-! ===== drawers: more things than places ===== -/
theorem fb_holes : ∀ (m n : Nat) (f : Nat → Nat), (∀ i, i < n → f i < m) → (∀ i j, i < j → j < n → f i ≠ f j) → n ≤ m := by
  intro m
  induction m with
  | zero =>
    intro n f h1 _
    rcases Nat.eq_zero_or_pos n with h | h
    · omega
    · exact absurd (h1 0 h) (Nat.not_lt_zero _)
  | succ m ih =>
    intro n f h1 h2
    by_cases hx : ∃ i, i < n ∧ f i = m
    · obtain ⟨a, ha, hfa⟩ := hx
      have hg := ih (n - 1) (fun i => if i < a then f i else f (i + 1)) (by
        intro i hi
        by_cases q : i < a
        · simp only [if_pos q]
          have b1 := h1 i (by omega)
          have b2 := h2 i a q ha
          omega
        · simp only [if_neg q]
          have b1 := h1 (i + 1) (by omega)
          have b2 := h2 a (i + 1) (by omega) (by omega)
          omega) (by
        intro i j hij hj
        by_cases q : i < a
        · by_cases r : j < a
          · simp only [if_pos q, if_pos r]
            exact h2 i j hij (by omega)
          · simp only [if_pos q, if_neg r]
            exact h2 i (j + 1) (by omega) (by omega)
        · have r : ¬ j < a := by omega
          simp only [if_neg q, if_neg r]
          exact h2 (i + 1) (j + 1) (by omega) (by omega))
      omega
    · have hg := ih n f (fun i hi => by
        have b1 := h1 i hi
        have b2 : f i ≠ m := fun e => hx ⟨i, hi, e⟩
        omega) h2
      omega
/-- two of them in one place -/
theorem fb_twice {m n : Nat} {f : Nat → Nat} (h : ∀ i, i < n → f i < m) (hm : m < n) : ∃ i j, i < j ∧ j < n ∧ f i = f j := by
  refine Classical.byContradiction fun hx => ?_
  have := fb_holes m n f h (fun i j hij hj e => hx ⟨i, j, hij, hj, e⟩)
  omega
/-- as many as places, none twice: each place is taken -/
theorem fb_onto {n : Nat} {f : Nat → Nat} (h : ∀ i, i < n → f i < n) (h2 : ∀ i j, i < j → j < n → f i ≠ f j) {y : Nat} (hy : y < n) : ∃ i, i < n ∧ f i = y := by
  refine Classical.byContradiction fun hx => ?_
  have hne : ∀ i, i < n → f i ≠ y := fun i hi e => hx ⟨i, hi, e⟩
  have := fb_holes (n - 1) n (fun i => if f i < y then f i else f i - 1) (by
    intro i hi
    have b1 := h i hi
    have b2 := hne i hi
    by_cases q : f i < y
    · simp only [if_pos q]; omega
    · simp only [if_neg q]; omega) (by
    intro i j hij hj
    have b1 := hne i (by omega)
    have b2 := hne j hj
    have b3 := h2 i j hij hj
    by_cases q : f i < y
    · by_cases r : f j < y
      · simp only [if_pos q, if_pos r]; exact b3
      · simp only [if_pos q, if_neg r]; omega
    · by_cases r : f j < y
      · simp only [if_neg q, if_pos r]; omega
      · simp only [if_neg q, if_neg r]; omega)
  omega
/-! ===== how many places have a property ===== -/
def fb_ct (p : Nat → Bool) : Nat → Nat
  | 0 => 0
  | n + 1 => fb_ct p n + (if p n then 1 else 0)
theorem fb_ct_succ (p : Nat → Bool) (n : Nat) : fb_ct p (n + 1) = fb_ct p n + (if p n then 1 else 0) := rfl
theorem fb_ct_le (p : Nat → Bool) : ∀ n, fb_ct p n ≤ n
  | 0 => Nat.le_refl _
  | n + 1 => by
    have h := fb_ct_le p n
    rw [fb_ct_succ]
    split <;> omega
theorem fb_ct_step (p : Nat → Bool) (m : Nat) : ∀ n, fb_ct p m ≤ fb_ct p (m + n)
  | 0 => Nat.le_refl _
  | n + 1 => by
    have h := fb_ct_step p m n
    show fb_ct p m ≤ fb_ct p (m + n + 1)
    rw [fb_ct_succ]
    omega
theorem fb_ct_mono (p : Nat → Bool) {m n : Nat} (h : m ≤ n) : fb_ct p m ≤ fb_ct p n := by
  have := fb_ct_step p m (n - m)
  rwa [Nat.add_sub_cancel' h] at this
theorem fb_ct_cong {p q : Nat → Bool} : ∀ {n : Nat}, (∀ k, k < n → p k = q k) → fb_ct p n = fb_ct q n
  | 0, _ => rfl
  | n + 1, h => by
    rw [fb_ct_succ, fb_ct_succ, fb_ct_cong (fun k hk => h k (by omega)), h n (by omega)]
/-- one place changed -/
theorem fb_ct_out (p : Nat → Bool) (b : Bool) {i n : Nat} (h : n ≤ i) : fb_ct (fun k => if k = i then b else p k) n = fb_ct p n :=
  fb_ct_cong fun k hk => if_neg (by omega)
theorem fb_ct_upd (p : Nat → Bool) (b : Bool) {i : Nat} : ∀ {n : Nat}, i < n → fb_ct (fun k => if k = i then b else p k) n + (if p i then 1 else 0) = fb_ct p n + (if b then 1 else 0)
  | 0, h => absurd h (Nat.not_lt_zero i)
  | n + 1, h => by
    rw [fb_ct_succ, fb_ct_succ]
    rcases Nat.lt_or_ge i n with q | q
    · have := fb_ct_upd p b q
      have e : (if n = i then b else p n) = p n := if_neg (by omega)
      rw [e]
      omega
    · have e : i = n := by omega
      subst e
      rw [fb_ct_out p b (Nat.le_refl _)]
      simp only [if_true]
      omega
theorem fb_ct_sub {p q : Nat → Bool} : ∀ {n : Nat}, (∀ k, k < n → p k = true → q k = true) → fb_ct p n ≤ fb_ct q n
  | 0, _ => Nat.le_refl _
  | n + 1, h => by
    have h1 := fb_ct_sub (n := n) (p := p) (q := q) (fun k hk => h k (by omega))
    have h2 := h n (by omega)
    rw [fb_ct_succ, fb_ct_succ]
    cases hp : p n <;> cases hq : q n <;> simp_all <;> omega
theorem fb_ct_or {p q : Nat → Bool} : ∀ {n : Nat}, (∀ k, k < n → ¬ (p k = true ∧ q k = true)) → fb_ct (fun k => p k || q k) n = fb_ct p n + fb_ct q n
  | 0, _ => rfl
  | n + 1, h => by
    have h1 := fb_ct_or (n := n) (p := p) (q := q) (fun k hk => h k (by omega))
    have h2 := h n (by omega)
    rw [fb_ct_succ, fb_ct_succ, fb_ct_succ, h1]
    cases hp : p n <;> cases hq : q n <;> simp_all <;> omega
theorem fb_ct_not (p : Nat → Bool) : ∀ n, fb_ct p n + fb_ct (fun k => !p k) n = n
  | 0 => rfl
  | n + 1 => by
    have h := fb_ct_not p n
    rw [fb_ct_succ, fb_ct_succ]
    cases p n <;> simp <;> omega
theorem fb_ct_split (p : Nat → Bool) (m : Nat) : ∀ n, fb_ct p (m + n) = fb_ct p m + fb_ct (fun k => p (m + k)) n
  | 0 => rfl
  | n + 1 => by
    have h := fb_ct_split p m n
    show fb_ct p (m + n + 1) = _
    rw [fb_ct_succ, fb_ct_succ, h, Nat.add_assoc]
theorem fb_ct_zero {p : Nat → Bool} : ∀ {n : Nat}, fb_ct p n = 0 ↔ ∀ k, k < n → p k = false
  | 0 => ⟨fun _ k hk => absurd hk (Nat.not_lt_zero k), fun _ => rfl⟩
  | n + 1 => by
    have h := fb_ct_zero (p := p) (n := n)
    rw [fb_ct_succ]
    constructor
    · intro e k hk
      have e1 : fb_ct p n = 0 := by omega
      rcases Nat.lt_or_ge k n with q | q
      · exact h.mp e1 k q
      · have ek : k = n := by omega
        subst ek
        cases hp : p k
        · rfl
        · simp [hp] at e
    · intro a
      rw [h.mpr (fun k hk => a k (by omega)), a n (by omega)]
      rfl
theorem fb_ct_pos {p : Nat → Bool} {n : Nat} : 0 < fb_ct p n ↔ ∃ k, k < n ∧ p k = true := by
  constructor
  · intro h
    refine Classical.byContradiction fun hx => ?_
    have := fb_ct_zero.mpr (fun k hk => by
      cases hp : p k
      · rfl
      · exact absurd ⟨k, hk, hp⟩ hx : ∀ k, k < n → p k = false)
    omega
  · rintro ⟨k, hk, hp⟩
    rcases Nat.eq_zero_or_pos (fb_ct p n) with e | e
    · have := fb_ct_zero.mp e k hk
      rw [this] at hp
      cases hp
    · exact e
theorem fb_ct_all {p : Nat → Bool} {n : Nat} : fb_ct p n = n ↔ ∀ k, k < n → p k = true := by
  have h := fb_ct_not p n
  constructor
  · intro e k hk
    have z : fb_ct (fun k => !p k) n = 0 := by omega
    have := fb_ct_zero.mp z k hk
    cases hp : p k
    · simp [hp] at this
    · rfl
  · intro a
    have z : fb_ct (fun k => !p k) n = 0 := fb_ct_zero.mpr (fun k hk => by simp [a k hk])
    omega
/-- the k-th place with the property -/
theorem fb_ct_kth {p : Nat → Bool} {k : Nat} : ∀ {n : Nat}, k < fb_ct p n → ∃ i, i < n ∧ p i = true ∧ fb_ct p i = k
  | 0, h => absurd h (Nat.not_lt_zero k)
  | n + 1, h => by
    rcases Nat.lt_or_ge k (fb_ct p n) with q | q
    · obtain ⟨i, h1, h2⟩ := fb_ct_kth q
      exact ⟨i, by omega, h2⟩
    · rw [fb_ct_succ] at h
      cases hp : p n
      · simp [hp] at h; omega
      · simp [hp] at h
        exact ⟨n, by omega, hp, by omega⟩
theorem fb_ct_kth_one {p : Nat → Bool} {i j : Nat} (hi : p i = true) (hj : p j = true) (e : fb_ct p i = fb_ct p j) : i = j := by
  have key : ∀ a b : Nat, a < b → p a = true → fb_ct p a < fb_ct p b := by
    intro a b hab ha
    have h := fb_ct_mono p (show a + 1 ≤ b from hab)
    rw [fb_ct_succ, ha] at h
    simp at h
    omega
  rcases Nat.lt_trichotomy i j with q | q | q
  · have := key i j q hi; omega
  · exact q
  · have := key j i q hj; omega
/-! ===== sums over a range: one place changed, parts, bounds ===== -/
def fb_sm (f : Nat → Nat) : Nat → Nat
  | 0 => 0
  | n + 1 => fb_sm f n + f n
theorem fb_sm_succ (f : Nat → Nat) (n : Nat) : fb_sm f (n + 1) = fb_sm f n + f n := rfl
theorem fb_sm_cong {f g : Nat → Nat} : ∀ {n : Nat}, (∀ k, k < n → f k = g k) → fb_sm f n = fb_sm g n
  | 0, _ => rfl
  | n + 1, h => by rw [fb_sm_succ, fb_sm_succ, fb_sm_cong (fun k hk => h k (by omega)), h n (by omega)]
theorem fb_sm_out (f : Nat → Nat) (v : Nat) {i n : Nat} (h : n ≤ i) : fb_sm (fun k => if k = i then v else f k) n = fb_sm f n :=
  fb_sm_cong fun k hk => if_neg (by omega)
theorem fb_sm_upd (f : Nat → Nat) (v : Nat) {i : Nat} : ∀ {n : Nat}, i < n → fb_sm (fun k => if k = i then v else f k) n + f i = fb_sm f n + v
  | 0, h => absurd h (Nat.not_lt_zero i)
  | n + 1, h => by
    rw [fb_sm_succ, fb_sm_succ]
    rcases Nat.lt_or_ge i n with q | q
    · have := fb_sm_upd f v q
      have e : (if n = i then v else f n) = f n := if_neg (by omega)
      rw [e]
      omega
    · have e : i = n := by omega
      subst e
      rw [fb_sm_out f v (Nat.le_refl _)]
      simp only [if_true]
      omega
theorem fb_sm_add (f g : Nat → Nat) : ∀ n, fb_sm (fun k => f k + g k) n = fb_sm f n + fb_sm g n
  | 0 => rfl
  | n + 1 => by
    have h := fb_sm_add f g n
    rw [fb_sm_succ, fb_sm_succ, fb_sm_succ, h]
    omega
theorem fb_sm_le {f g : Nat → Nat} : ∀ {n : Nat}, (∀ k, k < n → f k ≤ g k) → fb_sm f n ≤ fb_sm g n
  | 0, _ => Nat.le_refl _
  | n + 1, h => by
    have h1 := fb_sm_le (n := n) (f := f) (g := g) (fun k hk => h k (by omega))
    have h2 := h n (by omega)
    rw [fb_sm_succ, fb_sm_succ]
    omega
theorem fb_sm_const (c : Nat) : ∀ n, fb_sm (fun _ => c) n = n * c
  | 0 => by rw [Nat.zero_mul]; rfl
  | n + 1 => by rw [fb_sm_succ, fb_sm_const c n, Nat.succ_mul]
theorem fb_sm_bound {f : Nat → Nat} {c n : Nat} (h : ∀ k, k < n → f k ≤ c) : fb_sm f n ≤ n * c := by
  rw [← fb_sm_const c n]
  exact fb_sm_le h
theorem fb_sm_mono (f : Nat → Nat) (m : Nat) : ∀ n, fb_sm f m ≤ fb_sm f (m + n)
  | 0 => Nat.le_refl _
  | n + 1 => by
    have h := fb_sm_mono f m n
    show fb_sm f m ≤ fb_sm f (m + n + 1)
    rw [fb_sm_succ]
    omega
theorem fb_sm_part (f : Nat → Nat) {i n : Nat} (h : i < n) : fb_sm f i + f i ≤ fb_sm f n := by
  have := fb_sm_mono f (i + 1) (n - (i + 1))
  rw [fb_sm_succ, show i + 1 + (n - (i + 1)) = n by omega] at this
  exact this
theorem fb_sm_split (f : Nat → Nat) (m : Nat) : ∀ n, fb_sm f (m + n) = fb_sm f m + fb_sm (fun k => f (m + k)) n
  | 0 => rfl
  | n + 1 => by
    have h := fb_sm_split f m n
    show fb_sm f (m + n + 1) = _
    rw [fb_sm_succ, fb_sm_succ, h, Nat.add_assoc]
theorem fb_sm_zero {f : Nat → Nat} {n : Nat} (h : fb_sm f n = 0) : ∀ k, k < n → f k = 0 := fun k hk => by
  have := fb_sm_part f hk
  omega
/-- the same over whole numbers -/
def fb_si (f : Nat → Int) : Nat → Int
  | 0 => 0
  | n + 1 => fb_si f n + f n
theorem fb_si_succ (f : Nat → Int) (n : Nat) : fb_si f (n + 1) = fb_si f n + f n := rfl
theorem fb_si_cong {f g : Nat → Int} : ∀ {n : Nat}, (∀ k, k < n → f k = g k) → fb_si f n = fb_si g n
  | 0, _ => rfl
  | n + 1, h => by rw [fb_si_succ, fb_si_succ, fb_si_cong (fun k hk => h k (by omega)), h n (by omega)]
theorem fb_si_out (f : Nat → Int) (v : Int) {i n : Nat} (h : n ≤ i) : fb_si (fun k => if k = i then v else f k) n = fb_si f n :=
  fb_si_cong fun k hk => if_neg (by omega)
theorem fb_si_upd (f : Nat → Int) (v : Int) {i : Nat} : ∀ {n : Nat}, i < n → fb_si (fun k => if k = i then v else f k) n = fb_si f n - f i + v
  | 0, h => absurd h (Nat.not_lt_zero i)
  | n + 1, h => by
    rw [fb_si_succ, fb_si_succ]
    rcases Nat.lt_or_ge i n with q | q
    · have := fb_si_upd f v q
      have e : (if n = i then v else f n) = f n := if_neg (by omega)
      rw [e]
      omega
    · have e : i = n := by omega
      subst e
      rw [fb_si_out f v (Nat.le_refl _)]
      simp only [if_true]
      omega
theorem fb_si_add (f g : Nat → Int) : ∀ n, fb_si (fun k => f k + g k) n = fb_si f n + fb_si g n
  | 0 => rfl
  | n + 1 => by
    have h := fb_si_add f g n
    rw [fb_si_succ, fb_si_succ, fb_si_succ, h]
    omega
theorem fb_si_sub (f g : Nat → Int) : ∀ n, fb_si (fun k => f k - g k) n = fb_si f n - fb_si g n
  | 0 => rfl
  | n + 1 => by
    have h := fb_si_sub f g n
    rw [fb_si_succ, fb_si_succ, fb_si_succ, h]
    omega
theorem fb_si_mul (c : Int) (f : Nat → Int) : ∀ n, fb_si (fun k => c * f k) n = c * fb_si f n
  | 0 => (Int.mul_zero c).symm
  | n + 1 => by
    have h := fb_si_mul c f n
    rw [fb_si_succ, fb_si_succ, h, Int.mul_add]
theorem fb_si_split (f : Nat → Int) (m : Nat) : ∀ n, fb_si f (m + n) = fb_si f m + fb_si (fun k => f (m + k)) n
  | 0 => (Int.add_zero _).symm
  | n + 1 => by
    have h := fb_si_split f m n
    show fb_si f (m + n + 1) = _
    rw [fb_si_succ, fb_si_succ, h, Int.add_assoc]
theorem fb_si_nat (f : Nat → Nat) : ∀ n, fb_si (fun k => (f k : Int)) n = (fb_sm f n : Int)
  | 0 => rfl
  | n + 1 => by
    have h := fb_si_nat f n
    rw [fb_si_succ, fb_sm_succ, h]
    omega
theorem fb_si_bound {f : Nat → Int} {c : Int} (hc : 0 ≤ c) : ∀ {n : Nat}, (∀ k, k < n → -c ≤ f k ∧ f k ≤ c) → -(n * c) ≤ fb_si f n ∧ fb_si f n ≤ n * c
  | 0, _ => by simp [fb_si]
  | n + 1, h => by
    have h1 := fb_si_bound (n := n) (f := f) hc (fun k hk => h k (by omega))
    have h2 := h n (by omega)
    have e : ((n + 1 : Nat) : Int) * c = n * c + c := by rw [Int.natCast_add, Int.add_mul]; simp
    rw [fb_si_succ, e]
    omega
/-! ===== bits of a long that isn't negative ===== -/
theorem fb_andL (a b : Nat) : lN a &&& lN b = lN (a &&& b) := by
  apply Int64.toBitVec_inj.1
  show BitVec.ofNat 64 a &&& BitVec.ofNat 64 b = BitVec.ofNat 64 (a &&& b)
  apply BitVec.eq_of_getLsbD_eq
  intro i hi
  simp [hi]
theorem fb_orL (a b : Nat) : lN a ||| lN b = lN (a ||| b) := by
  apply Int64.toBitVec_inj.1
  show BitVec.ofNat 64 a ||| BitVec.ofNat 64 b = BitVec.ofNat 64 (a ||| b)
  apply BitVec.eq_of_getLsbD_eq
  intro i hi
  simp [hi]
theorem fb_xorL (a b : Nat) : lN a ^^^ lN b = lN (a ^^^ b) := by
  apply Int64.toBitVec_inj.1
  show BitVec.ofNat 64 a ^^^ BitVec.ofNat 64 b = BitVec.ofNat 64 (a ^^^ b)
  apply BitVec.eq_of_getLsbD_eq
  intro i hi
  simp [hi]
theorem fb_xorI (a b : Nat) : nI a ^^^ nI b = nI (a ^^^ b) := by
  apply Int32.toBitVec_inj.1
  show BitVec.ofNat 32 a ^^^ BitVec.ofNat 32 b = BitVec.ofNat 32 (a ^^^ b)
  apply BitVec.eq_of_getLsbD_eq
  intro i hi
  simp [hi]
theorem fb_maskL (n k : Nat) : lN n &&& lN (2 ^ k - 1) = lN (n % 2 ^ k) := by rw [fb_andL, Nat.and_two_pow_sub_one_eq_mod]
theorem fb_or_sumL {a k : Nat} (b : Nat) (h : a < 2 ^ k) : lN (2 ^ k * b) ||| lN a = lN (2 ^ k * b + a) := by rw [fb_orL, Nat.two_pow_add_eq_or_of_lt h]
theorem fb_lN_inj {a b : Nat} (ha : a < 2 ^ 63) (hb : b < 2 ^ 63) : lN a = lN b ↔ a = b := by
  constructor
  · intro h
    have h1 : (BitVec.ofNat 64 a).toNat = (BitVec.ofNat 64 b).toNat := congrArg (fun x : Int64 => x.toBitVec.toNat) h
    rw [BitVec.toNat_ofNat, BitVec.toNat_ofNat, Nat.mod_eq_of_lt (by omega), Nat.mod_eq_of_lt (by omega)] at h1
    exact h1
  · rintro rfl; rfl
theorem fb_bit_nat (n j : Nat) : n &&& 2 ^ j = 0 ↔ n.testBit j = false := by
  constructor
  · intro h
    have h1 : (n &&& 2 ^ j).testBit j = false := by rw [h]; simp
    rw [Nat.testBit_and] at h1
    simpa using h1
  · intro h
    apply Nat.eq_of_testBit_eq
    intro i
    rw [Nat.testBit_and]
    by_cases hi : j = i
    · subst hi; simp [h]
    · first | (simp [Nat.testBit_two_pow, hi]; done) | (simp [Nat.testBit_two_pow_of_ne hi]; done)
/-- one bit of a long -/
theorem fb_bitL {n j : Nat} (hj : j < 63) : lN n &&& lN (2 ^ j) = 0 ↔ n.testBit j = false := by
  have h2 : (2 : Nat) ^ j < 2 ^ 63 := Nat.pow_lt_pow_right (by decide) hj
  have hle : n &&& 2 ^ j ≤ 2 ^ j := Nat.and_le_right
  rw [fb_andL, ← fb_bit_nat, show (0 : Int64) = lN 0 from rfl]
  exact fb_lN_inj (by omega) (by decide)
/-- a bit set, a bit taken off -/
theorem fb_bit_set (n j i : Nat) : (n ||| 2 ^ j).testBit i = (n.testBit i || decide (i = j)) := by
  rw [Nat.testBit_or]
  by_cases h : j = i
  · subst h; simp
  · have h2 : ¬ i = j := fun e => h e.symm
    first | (simp [Nat.testBit_two_pow, h, h2]; done) | (simp [Nat.testBit_two_pow_of_ne h, h2]; done)
theorem fb_bit_flip (n j i : Nat) : (n ^^^ 2 ^ j).testBit i = (n.testBit i ^^ decide (i = j)) := by
  rw [Nat.testBit_xor]
  by_cases h : j = i
  · subst h; simp
  · have h2 : ¬ i = j := fun e => h e.symm
    first | (simp [Nat.testBit_two_pow, h, h2]; done) | (simp [Nat.testBit_two_pow_of_ne h, h2]; done)
/-! ===== a stretch of an array written over by a function ===== -/
def fb_put {α : Type} (f g : Nat → α) (a n : Nat) : Nat → α := fun k => if a ≤ k ∧ k < a + n then g (k - a) else f k
theorem fb_put_0 {α : Type} (f g : Nat → α) (a : Nat) : fb_put f g a 0 = f := funext fun k => if_neg (by omega)
theorem fb_put_in {α : Type} {f g : Nat → α} {a n k : Nat} (h1 : a ≤ k) (h2 : k < a + n) : fb_put f g a n k = g (k - a) := if_pos ⟨h1, h2⟩
theorem fb_put_out {α : Type} {f g : Nat → α} {a n k : Nat} (h : k < a ∨ a + n ≤ k) : fb_put f g a n k = f k := if_neg (by omega)
theorem fb_put_succ (f g : Nat → Int32) (a n : Nat) : upd (fb_put f g a n) (a + n) (g n) = fb_put f g a (n + 1) := by
  funext k
  by_cases h : k = a + n
  · subst h
    simp [upd, fb_put]
  · by_cases h1 : a ≤ k ∧ k < a + n
    · have h2 : a ≤ k ∧ k < a + (n + 1) := by omega
      simp only [upd, fb_put, if_neg h, if_pos h1, if_pos h2]
    · have h2 : ¬ (a ≤ k ∧ k < a + (n + 1)) := by omega
      simp only [upd, fb_put, if_neg h, if_neg h1, if_neg h2]
/-- .. from the far end down -/
theorem fb_put_down (f g : Nat → Int32) {a n m : Nat} (h : m < n) : upd (fb_put f (fun k => g (k + (m + 1))) (a + (m + 1)) (n - (m + 1))) (a + m) (g m) = fb_put f (fun k => g (k + m)) (a + m) (n - m) := by
  funext k
  by_cases h0 : k = a + m
  · subst h0
    simp only [upd, if_true]
    rw [fb_put_in (by omega) (by omega)]
    exact congrArg g (by omega)
  · simp only [upd, if_neg h0]
    by_cases h1 : a + (m + 1) ≤ k ∧ k < a + (m + 1) + (n - (m + 1))
    · rw [fb_put_in h1.1 h1.2, fb_put_in (by omega) (by omega)]
      exact congrArg g (by omega)
    · rw [fb_put_out (by omega), fb_put_out (by omega)]
theorem fb_put_cong {α : Type} {f f2 g g2 : Nat → α} {a n : Nat} (hf : ∀ k, (k < a ∨ a + n ≤ k) → f k = f2 k) (hg : ∀ k, k < n → g k = g2 k) : fb_put f g a n = fb_put f2 g2 a n := by
  funext k
  by_cases h : a ≤ k ∧ k < a + n
  · rw [fb_put_in h.1 h.2, fb_put_in h.1 h.2, hg _ (by omega)]
  · rw [fb_put_out (by omega), fb_put_out (by omega), hf _ (by omega)]
/-! ===== the least, the first, the best so far; that there is one alone ===== -/
theorem fb_first {p : Nat → Prop} [DecidablePred p] : ∀ {n : Nat}, (∃ i, i < n ∧ p i) → ∃ i, i < n ∧ p i ∧ ∀ j, j < i → ¬ p j
  | 0, h => by obtain ⟨i, hi, -⟩ := h; exact absurd hi (Nat.not_lt_zero i)
  | n + 1, h => by
    by_cases q : ∃ i, i < n ∧ p i
    · obtain ⟨i, h1, h2⟩ := fb_first q
      exact ⟨i, by omega, h2⟩
    · obtain ⟨i, h1, h2⟩ := h
      have e : i = n := by
        rcases Nat.lt_or_ge i n with r | r
        · exact absurd ⟨i, r, h2⟩ q
        · omega
      subst e
      exact ⟨i, by omega, h2, fun j hj hp => q ⟨j, hj, hp⟩⟩
theorem fb_first_one {p : Nat → Prop} {i j : Nat} (hi : p i) (hi2 : ∀ k, k < i → ¬ p k) (hj : p j) (hj2 : ∀ k, k < j → ¬ p k) : i = j := by
  rcases Nat.lt_trichotomy i j with q | q | q
  · exact absurd hi (hj2 i q)
  · exact q
  · exact absurd hj (hi2 j q)
theorem fb_last {p : Nat → Prop} [DecidablePred p] : ∀ {n : Nat}, (∃ i, i < n ∧ p i) → ∃ i, i < n ∧ p i ∧ ∀ j, i < j → j < n → ¬ p j
  | 0, h => by obtain ⟨i, hi, -⟩ := h; exact absurd hi (Nat.not_lt_zero i)
  | n + 1, h => by
    by_cases q : p n
    · exact ⟨n, by omega, q, fun j h1 h2 => by omega⟩
    · obtain ⟨i, h1, h2⟩ := h
      have hi : i < n := by
        rcases Nat.lt_or_ge i n with r | r
        · exact r
        · have e : i = n := by omega
          subst e
          exact absurd h2 q
      obtain ⟨i2, a1, a2, a3⟩ := fb_last (n := n) ⟨i, hi, h2⟩
      refine ⟨i2, by omega, a2, fun j b1 b2 => ?_⟩
      rcases Nat.lt_or_ge j n with r | r
      · exact a3 j b1 r
      · have e : j = n := by omega
        subst e
        exact q
/-- the first greatest -/
theorem fb_best (f : Nat → Int) : ∀ {n : Nat}, 0 < n → ∃ i, i < n ∧ (∀ j, j < n → f j ≤ f i) ∧ ∀ j, j < i → f j < f i
  | 0, h => absurd h (Nat.lt_irrefl 0)
  | 1, _ => ⟨0, by omega, fun j hj => by have e : j = 0 := by omega
                                         subst e; exact Int.le_refl _, fun j hj => absurd hj (Nat.not_lt_zero j)⟩
  | n + 2, _ => by
    obtain ⟨i, h1, h2, h3⟩ := fb_best f (n := n + 1) (by omega)
    by_cases q : f i < f (n + 1)
    · refine ⟨n + 1, by omega, fun j hj => ?_, fun j hj => ?_⟩
      · rcases Nat.lt_or_ge j (n + 1) with r | r
        · have := h2 j r; omega
        · have e : j = n + 1 := by omega
          subst e; exact Int.le_refl _
      · have := h2 j hj; omega
    · refine ⟨i, by omega, fun j hj => ?_, h3⟩
      rcases Nat.lt_or_ge j (n + 1) with r | r
      · exact h2 j r
      · have e : j = n + 1 := by omega
        subst e; omega
theorem fb_best_one {f : Nat → Int} {n i j : Nat} (hi : i < n) (hi2 : ∀ k, k < n → f k ≤ f i) (hi3 : ∀ k, k < i → f k < f i) (hj : j < n) (hj2 : ∀ k, k < n → f k ≤ f j) (hj3 : ∀ k, k < j → f k < f j) : i = j := by
  rcases Nat.lt_trichotomy i j with q | q | q
  · have a := hj3 i q
    have b := hi2 j hj
    omega
  · exact q
  · have a := hi3 j q
    have b := hj2 i hi
    omega
/-- the first least -/
theorem fb_low (f : Nat → Int) {n : Nat} (h : 0 < n) : ∃ i, i < n ∧ (∀ j, j < n → f i ≤ f j) ∧ ∀ j, j < i → f i < f j := by
  obtain ⟨i, h1, h2, h3⟩ := fb_best (fun k => -f k) h
  exact ⟨i, h1, fun j hj => by have := h2 j hj; omega, fun j hj => by have := h3 j hj; omega⟩
/-! ===== signed ints as whole numbers, within bounds ===== -/
theorem fb_rng (x : Int32) : -2147483648 ≤ x.toInt ∧ x.toInt < 2147483648 := by
  have h1 := Int32.le_toInt x
  have h2 := Int32.toInt_lt x
  omega
theorem fb_bmod {z : Int} (h1 : -2147483648 ≤ z) (h2 : z < 2147483648) : z.bmod (2 ^ 32) = z := by
  rw [Int.bmod_eq_of_le (by omega) (by omega)]
theorem fb_addI {x y : Int32} (h1 : -2147483648 ≤ x.toInt + y.toInt) (h2 : x.toInt + y.toInt < 2147483648) : (x + y).toInt = x.toInt + y.toInt := by
  rw [Int32.toInt_add, fb_bmod h1 h2]
theorem fb_subI {x y : Int32} (h1 : -2147483648 ≤ x.toInt - y.toInt) (h2 : x.toInt - y.toInt < 2147483648) : (x - y).toInt = x.toInt - y.toInt := by
  rw [Int32.toInt_sub, fb_bmod h1 h2]
theorem fb_mulI {x y : Int32} (h1 : -2147483648 ≤ x.toInt * y.toInt) (h2 : x.toInt * y.toInt < 2147483648) : (x * y).toInt = x.toInt * y.toInt := by
  rw [Int32.toInt_mul, fb_bmod h1 h2]
theorem fb_negI {x : Int32} (h : x.toInt ≠ -2147483648) : (-x).toInt = -x.toInt := by
  have := fb_rng x
  rw [Int32.toInt_neg, fb_bmod (by omega) (by omega)]
theorem fb_ofI {z : Int} (h1 : -2147483648 ≤ z) (h2 : z < 2147483648) : (Int32.ofInt z).toInt = z := by
  rw [Int32.toInt_ofInt, fb_bmod h1 h2]
theorem fb_asI (x : Int32) : Int32.ofInt x.toInt = x := Int32.ofInt_toInt x
theorem fb_rngL (x : Int64) : -9223372036854775808 ≤ x.toInt ∧ x.toInt < 9223372036854775808 := by
  have h1 := Int64.le_toInt x
  have h2 := Int64.toInt_lt x
  omega
theorem fb_bmodL {z : Int} (h1 : -9223372036854775808 ≤ z) (h2 : z < 9223372036854775808) : z.bmod (2 ^ 64) = z := by
  rw [Int.bmod_eq_of_le (by omega) (by omega)]
theorem fb_addL {x y : Int64} (h1 : -9223372036854775808 ≤ x.toInt + y.toInt) (h2 : x.toInt + y.toInt < 9223372036854775808) : (x + y).toInt = x.toInt + y.toInt := by
  rw [Int64.toInt_add, fb_bmodL h1 h2]
theorem fb_subL {x y : Int64} (h1 : -9223372036854775808 ≤ x.toInt - y.toInt) (h2 : x.toInt - y.toInt < 9223372036854775808) : (x - y).toInt = x.toInt - y.toInt := by
  rw [Int64.toInt_sub, fb_bmodL h1 h2]
theorem fb_mulL {x y : Int64} (h1 : -9223372036854775808 ≤ x.toInt * y.toInt) (h2 : x.toInt * y.toInt < 9223372036854775808) : (x * y).toInt = x.toInt * y.toInt := by
  rw [Int64.toInt_mul, fb_bmodL h1 h2]
/-! ===== cuts of what is narrow already ===== -/
theorem fb_byte {x : Int32} (h1 : -128 ≤ x.toInt) (h2 : x.toInt < 128) : x.toInt8.toInt32 = x := by
  apply Int32.toInt_inj.1
  rw [Int8.toInt_toInt32, Int32.toInt_toInt8, Int.bmod_eq_of_le (by omega) (by omega)]
theorem fb_short {x : Int32} (h1 : -32768 ≤ x.toInt) (h2 : x.toInt < 32768) : x.toInt16.toInt32 = x := by
  apply Int32.toInt_inj.1
  rw [Int16.toInt_toInt32, Int32.toInt_toInt16, Int.bmod_eq_of_le (by omega) (by omega)]
theorem fb_byte_rng (x : Int32) : -128 ≤ x.toInt8.toInt32.toInt ∧ x.toInt8.toInt32.toInt < 128 := by
  rw [Int8.toInt_toInt32]
  have h1 := Int8.le_toInt x.toInt8
  have h2 := Int8.toInt_lt x.toInt8
  omega
theorem fb_short_rng (x : Int32) : -32768 ≤ x.toInt16.toInt32.toInt ∧ x.toInt16.toInt32.toInt < 32768 := by
  rw [Int16.toInt_toInt32]
  have h1 := Int16.le_toInt x.toInt16
  have h2 := Int16.toInt_lt x.toInt16
  omega
theorem fb_byte_twice (x : Int32) : x.toInt8.toInt32.toInt8.toInt32 = x.toInt8.toInt32 := fb_byte (fb_byte_rng x).1 (fb_byte_rng x).2
theorem fb_short_twice (x : Int32) : x.toInt16.toInt32.toInt16.toInt32 = x.toInt16.toInt32 := fb_short (fb_short_rng x).1 (fb_short_rng x).2
theorem fb_char {n : Nat} (h : n < 65536) : (nI n).toUInt32.toUInt16.toUInt32.toInt32 = nI n := by
  apply Int32.toBitVec_inj.1
  apply BitVec.eq_of_toNat_eq
  have e1 : (nI n).toBitVec.toNat = n := by
    show (BitVec.ofNat 32 n).toNat = n
    rw [BitVec.toNat_ofNat, Nat.mod_eq_of_lt (by omega)]
  have e2 : ((nI n).toUInt32.toUInt16.toUInt32).toNat = n := by
    rw [UInt16.toNat_toUInt32, UInt32.toNat_toUInt16]
    show (nI n).toBitVec.toNat % 2 ^ 16 = n
    rw [e1, Nat.mod_eq_of_lt (by omega)]
  rw [e1]
  exact e2
theorem t_lt36 (a : Int32) (h : a < 36) (h0 : 0 ≤ a) : a.toInt < 36 ∧ 0 ≤ a.toInt := by
  simp only [fa_lt, fa_le, Int32.reduceToInt] at *
  omega
end
section
/-! ===== contracts of leaves: tests on numbers ===== -/
def b2i (p : Prop) [Decidable p] : Int32 := if p then 1 else 0
theorem b2i_t {p : Prop} [Decidable p] (h : p) : b2i p = 1 := if_pos h
theorem b2i_f {p : Prop} [Decidable p] (h : ¬ p) : b2i p = 0 := if_neg h
set_option maxHeartbeats 1000000 in
theorem c_X0_isHand {l : Launch} {G : va_G} {cy : Nat → ClassId} (a : Int32) (S : HS) : Cn l G cy yX0_isHand cX0_isHand 1 (some .boolean) 0 [.int a] S 0 0 (qI (fun r S2 => r = b2i (0 ≤ a ∧ a < 8) ∧ S2 = S)) := by
  refine Cn.of [some (.int a)] (by decide) rfl (Nat.le_of_ble_eq_true rfl) ?_
  refine r_iload_n dX0_isHand_0 rfl rfl ?_
  refine r_if_lt 14 dX0_isHand_1 (by decide) (fun q1 => ?_) (fun q1 => ?_)
  · skip
    refine r_iconst (v := 0) dX0_isHand_14 (by decide) ?_
    exact r_zret dX0_isHand_15 rfl rfl (Nat.zero_le _) (Nat.zero_le _) ⟨_, rfl, ⟨by first | exact (b2i_t (by simp only [fa_lt, fa_le, Int32.reduceToInt] at *; omega)).symm | exact (b2i_f (by simp only [fa_lt, fa_le, Int32.reduceToInt] at *; omega)).symm, rfl⟩⟩
  · skip
    refine r_iload_n dX0_isHand_4 rfl rfl ?_
    refine r_bipush (v := 8) dX0_isHand_5 (by decide) ?_
    refine r_icmp_ge 14 dX0_isHand_7 (by decide) (fun q7 => ?_) (fun q7 => ?_)
    · skip
      refine r_iconst (v := 0) dX0_isHand_14 (by decide) ?_
      exact r_zret dX0_isHand_15 rfl rfl (Nat.zero_le _) (Nat.zero_le _) ⟨_, rfl, ⟨by first | exact (b2i_t (by simp only [fa_lt, fa_le, Int32.reduceToInt] at *; omega)).symm | exact (b2i_f (by simp only [fa_lt, fa_le, Int32.reduceToInt] at *; omega)).symm, rfl⟩⟩
    · skip
      refine r_iconst (v := 1) dX0_isHand_10 (by decide) ?_
      refine r_goto 15 dX0_isHand_11 (by decide) ?_
      exact r_zret dX0_isHand_15 rfl rfl (Nat.zero_le _) (Nat.zero_le _) ⟨_, rfl, ⟨by first | exact (b2i_t (by simp only [fa_lt, fa_le, Int32.reduceToInt] at *; omega)).symm | exact (b2i_f (by simp only [fa_lt, fa_le, Int32.reduceToInt] at *; omega)).symm, rfl⟩⟩
set_option maxHeartbeats 1000000 in
theorem c_X4_isCell {l : Launch} {G : va_G} {cy : Nat → ClassId} (a : Int32) (S : HS) : Cn l G cy yX4_isCell cX4_isCell 1 (some .boolean) 0 [.int a] S 0 0 (qI (fun r S2 => r = b2i (0 ≤ a ∧ a < 36) ∧ S2 = S)) := by
  refine Cn.of [some (.int a)] (by decide) rfl (Nat.le_of_ble_eq_true rfl) ?_
  refine r_iload_n dX4_isCell_0 rfl rfl ?_
  refine r_if_lt 14 dX4_isCell_1 (by decide) (fun q1 => ?_) (fun q1 => ?_)
  · skip
    refine r_iconst (v := 0) dX4_isCell_14 (by decide) ?_
    exact r_zret dX4_isCell_15 rfl rfl (Nat.zero_le _) (Nat.zero_le _) ⟨_, rfl, ⟨by first | exact (b2i_t (by simp only [fa_lt, fa_le, Int32.reduceToInt] at *; omega)).symm | exact (b2i_f (by simp only [fa_lt, fa_le, Int32.reduceToInt] at *; omega)).symm, rfl⟩⟩
  · skip
    refine r_iload_n dX4_isCell_4 rfl rfl ?_
    refine r_bipush (v := 36) dX4_isCell_5 (by decide) ?_
    refine r_icmp_ge 14 dX4_isCell_7 (by decide) (fun q7 => ?_) (fun q7 => ?_)
    · skip
      refine r_iconst (v := 0) dX4_isCell_14 (by decide) ?_
      exact r_zret dX4_isCell_15 rfl rfl (Nat.zero_le _) (Nat.zero_le _) ⟨_, rfl, ⟨by first | exact (b2i_t (by simp only [fa_lt, fa_le, Int32.reduceToInt] at *; omega)).symm | exact (b2i_f (by simp only [fa_lt, fa_le, Int32.reduceToInt] at *; omega)).symm, rfl⟩⟩
    · skip
      refine r_iconst (v := 1) dX4_isCell_10 (by decide) ?_
      refine r_goto 15 dX4_isCell_11 (by decide) ?_
      exact r_zret dX4_isCell_15 rfl rfl (Nat.zero_le _) (Nat.zero_le _) ⟨_, rfl, ⟨by first | exact (b2i_t (by simp only [fa_lt, fa_le, Int32.reduceToInt] at *; omega)).symm | exact (b2i_f (by simp only [fa_lt, fa_le, Int32.reduceToInt] at *; omega)).symm, rfl⟩⟩
set_option maxHeartbeats 1000000 in
theorem c_X1_isDigit {l : Launch} {G : va_G} {cy : Nat → ClassId} (a : Int32) (S : HS) : Cn l G cy yX1_isDigit cX1_isDigit 1 (some .boolean) 0 [.int a] S 0 0 (qI (fun r S2 => r = b2i (48 ≤ a ∧ a ≤ 57) ∧ S2 = S)) := by
  refine Cn.of [some (.int a)] (by decide) rfl (Nat.le_of_ble_eq_true rfl) ?_
  refine r_iload_n dX1_isDigit_0 rfl rfl ?_
  refine r_bipush (v := 48) dX1_isDigit_1 (by decide) ?_
  refine r_icmp_lt 16 dX1_isDigit_3 (by decide) (fun q3 => ?_) (fun q3 => ?_)
  · skip
    refine r_iconst (v := 0) dX1_isDigit_16 (by decide) ?_
    exact r_zret dX1_isDigit_17 rfl rfl (Nat.zero_le _) (Nat.zero_le _) ⟨_, rfl, ⟨by first | exact (b2i_t (by simp only [fa_lt, fa_le, Int32.reduceToInt] at *; omega)).symm | exact (b2i_f (by simp only [fa_lt, fa_le, Int32.reduceToInt] at *; omega)).symm, rfl⟩⟩
  · skip
    refine r_iload_n dX1_isDigit_6 rfl rfl ?_
    refine r_bipush (v := 57) dX1_isDigit_7 (by decide) ?_
    refine r_icmp_gt 16 dX1_isDigit_9 (by decide) (fun q9 => ?_) (fun q9 => ?_)
    · skip
      refine r_iconst (v := 0) dX1_isDigit_16 (by decide) ?_
      exact r_zret dX1_isDigit_17 rfl rfl (Nat.zero_le _) (Nat.zero_le _) ⟨_, rfl, ⟨by first | exact (b2i_t (by simp only [fa_lt, fa_le, Int32.reduceToInt] at *; omega)).symm | exact (b2i_f (by simp only [fa_lt, fa_le, Int32.reduceToInt] at *; omega)).symm, rfl⟩⟩
    · skip
      refine r_iconst (v := 1) dX1_isDigit_12 (by decide) ?_
      refine r_goto 17 dX1_isDigit_13 (by decide) ?_
      exact r_zret dX1_isDigit_17 rfl rfl (Nat.zero_le _) (Nat.zero_le _) ⟨_, rfl, ⟨by first | exact (b2i_t (by simp only [fa_lt, fa_le, Int32.reduceToInt] at *; omega)).symm | exact (b2i_f (by simp only [fa_lt, fa_le, Int32.reduceToInt] at *; omega)).symm, rfl⟩⟩
set_option maxHeartbeats 1000000 in
theorem c_X8_isWithin {l : Launch} {G : va_G} {cy : Nat → ClassId} (a lo hi : Int32) (S : HS) : Cn l G cy yX8_isWithin cX8_isWithin 3 (some .boolean) 0 [.int a, .int lo, .int hi] S 0 0 (qI (fun r S2 => r = b2i (lo ≤ a ∧ a ≤ hi) ∧ S2 = S)) := by
  refine Cn.of [some (.int a), some (.int lo), some (.int hi)] (by decide) rfl (Nat.le_of_ble_eq_true rfl) ?_
  refine r_iload_n dX8_isWithin_0 rfl rfl ?_
  refine r_iload_n dX8_isWithin_1 rfl rfl ?_
  refine r_icmp_lt 14 dX8_isWithin_2 (by decide) (fun q2 => ?_) (fun q2 => ?_)
  · skip
    refine r_iconst (v := 0) dX8_isWithin_14 (by decide) ?_
    exact r_zret dX8_isWithin_15 rfl rfl (Nat.zero_le _) (Nat.zero_le _) ⟨_, rfl, ⟨by first | exact (b2i_t (by simp only [fa_lt, fa_le, Int32.reduceToInt] at *; omega)).symm | exact (b2i_f (by simp only [fa_lt, fa_le, Int32.reduceToInt] at *; omega)).symm, rfl⟩⟩
  · skip
    refine r_iload_n dX8_isWithin_5 rfl rfl ?_
    refine r_iload_n dX8_isWithin_6 rfl rfl ?_
    refine r_icmp_gt 14 dX8_isWithin_7 (by decide) (fun q7 => ?_) (fun q7 => ?_)
    · skip
      refine r_iconst (v := 0) dX8_isWithin_14 (by decide) ?_
      exact r_zret dX8_isWithin_15 rfl rfl (Nat.zero_le _) (Nat.zero_le _) ⟨_, rfl, ⟨by first | exact (b2i_t (by simp only [fa_lt, fa_le, Int32.reduceToInt] at *; omega)).symm | exact (b2i_f (by simp only [fa_lt, fa_le, Int32.reduceToInt] at *; omega)).symm, rfl⟩⟩
    · skip
      refine r_iconst (v := 1) dX8_isWithin_10 (by decide) ?_
      refine r_goto 15 dX8_isWithin_11 (by decide) ?_
      exact r_zret dX8_isWithin_15 rfl rfl (Nat.zero_le _) (Nat.zero_le _) ⟨_, rfl, ⟨by first | exact (b2i_t (by simp only [fa_lt, fa_le, Int32.reduceToInt] at *; omega)).symm | exact (b2i_f (by simp only [fa_lt, fa_le, Int32.reduceToInt] at *; omega)).symm, rfl⟩⟩
set_option maxHeartbeats 1000000 in
theorem c_X9_in {l : Launch} {G : va_G} {cy : Nat → ClassId} (a lo hi : Int32) (S : HS) : Cn l G cy yX9_in cX9_in 3 (some .boolean) 0 [.int a, .int lo, .int hi] S 0 0 (qI (fun r S2 => r = b2i (lo ≤ a ∧ a ≤ hi) ∧ S2 = S)) := by
  refine Cn.of [some (.int a), some (.int lo), some (.int hi)] (by decide) rfl (Nat.le_of_ble_eq_true rfl) ?_
  refine r_iload_n dX9_in_0 rfl rfl ?_
  refine r_iload_n dX9_in_1 rfl rfl ?_
  refine r_icmp_lt 14 dX9_in_2 (by decide) (fun q2 => ?_) (fun q2 => ?_)
  · skip
    refine r_iconst (v := 0) dX9_in_14 (by decide) ?_
    exact r_zret dX9_in_15 rfl rfl (Nat.zero_le _) (Nat.zero_le _) ⟨_, rfl, ⟨by first | exact (b2i_t (by simp only [fa_lt, fa_le, Int32.reduceToInt] at *; omega)).symm | exact (b2i_f (by simp only [fa_lt, fa_le, Int32.reduceToInt] at *; omega)).symm, rfl⟩⟩
  · skip
    refine r_iload_n dX9_in_5 rfl rfl ?_
    refine r_iload_n dX9_in_6 rfl rfl ?_
    refine r_icmp_gt 14 dX9_in_7 (by decide) (fun q7 => ?_) (fun q7 => ?_)
    · skip
      refine r_iconst (v := 0) dX9_in_14 (by decide) ?_
      exact r_zret dX9_in_15 rfl rfl (Nat.zero_le _) (Nat.zero_le _) ⟨_, rfl, ⟨by first | exact (b2i_t (by simp only [fa_lt, fa_le, Int32.reduceToInt] at *; omega)).symm | exact (b2i_f (by simp only [fa_lt, fa_le, Int32.reduceToInt] at *; omega)).symm, rfl⟩⟩
    · skip
      refine r_iconst (v := 1) dX9_in_10 (by decide) ?_
      refine r_goto 15 dX9_in_11 (by decide) ?_
      exact r_zret dX9_in_15 rfl rfl (Nat.zero_le _) (Nat.zero_le _) ⟨_, rfl, ⟨by first | exact (b2i_t (by simp only [fa_lt, fa_le, Int32.reduceToInt] at *; omega)).symm | exact (b2i_f (by simp only [fa_lt, fa_le, Int32.reduceToInt] at *; omega)).symm, rfl⟩⟩
end
section
/-! ===== the reference: its shape, its small methods ===== -/
theorem b2i_eq0 {p : Prop} [Decidable p] : b2i p = 0 ↔ ¬ p := by unfold b2i; split <;> simp_all
theorem b2i_ne0 {p : Prop} [Decidable p] : ¬ b2i p = 0 ↔ p := by unfold b2i; split <;> simp_all
theorem b2i_nar {p : Prop} [Decidable p] : narrow .boolean (.int (b2i p)) = .int (b2i p) := by unfold b2i; split <;> rfl
theorem b2i_cg {p q : Prop} [Decidable p] [Decidable q] (h : p ↔ q) : b2i p = b2i q := by unfold b2i; simp only [h]
/-- the reference's array of field j -/
def ma (j : Nat) : Nat := 2001 + j
theorem ma_inj {i j : Nat} : ma i = ma j ↔ i = j := by unfold ma; omega
abbrev mI (S : HS) (j : Nat) : Int32 := sI S (fid 9 j) 2000
abbrev mA (S : HS) (j : Nat) : Nat → Int32 := sA S (ma j)
def ShM (S : HS) : Prop := 2000 ∈ sL S ∧ ∀ j, fR 9 j = true → sR S (fid 9 j) 2000 = some (ma j) ∧ ma j ∈ sL S
theorem shM_R {S : HS} (h : ShM S) {j : Nat} (hj : fR 9 j = true) : sR S (fid 9 j) 2000 = some (ma j) := (h.2 j hj).1
theorem shM_L {S : HS} (h : ShM S) {j : Nat} (hj : fR 9 j = true) : ma j ∈ sL S := (h.2 j hj).2
set_option maxHeartbeats 2000000 in
theorem c_X9_isBoat {l : Launch} {G : va_G} {cy : Nat → ClassId} (a : Int32) (S : HS) (h : ShM S) (hb : 0 ≤ (mI S 25).toInt ∧ (mI S 25).toInt ≤ 12) : Cn l G cy yX9_isBoat cX9_isBoat 2 (some .boolean) 1 [.ref 2000, .int a] S 0 0 (qI (fun r S2 => r = b2i (0 ≤ a.toInt ∧ a.toInt < (mI S 25).toInt) ∧ S2 = S)) := by
  refine Cn.of [some (.ref 2000), some (.int a)] (by decide) rfl (Nat.le_of_ble_eq_true rfl) ?_
  refine r_iload_n dX9_isBoat_0 rfl rfl ?_
  refine r_iconst (v := 0) dX9_isBoat_1 (by decide) ?_
  refine r_aload_n dX9_isBoat_2 rfl rfl ?_
  refine r_getI dX9_isBoat_3 lf_X9_126 rfl (by first | rfl | assumption) ?_
  refine r_iconst (v := 1) dX9_isBoat_6 (by decide) ?_
  refine r_isub dX9_isBoat_7 ?_
  refine r_invS3i dX9_isBoat_8 lm_X9_129 (c_X9_in _ _ _ _) (Nat.le_of_ble_eq_true rfl) (Nat.le_of_ble_eq_true rfl) (Nat.zero_le _) (Nat.zero_le _) (fun r8 S8 hq8 => ?_)
  obtain ⟨rfl, hz8⟩ := hq8
  replace hz8 := hz8.symm
  subst hz8
  exact r_zret dX9_isBoat_11 rfl b2i_nar (Nat.zero_le _) (Nat.zero_le _) ⟨_, rfl, ⟨b2i_cg (by rw [fa_le, fa_le, fb_subI (by (try simp only [b2i_eq0, b2i_ne0, decide_eq_true_eq] at *); (try simp only [mI, mA, fa_lt, fa_le, fa_eq, Int32.reduceToInt] at *); omega) (by (try simp only [b2i_eq0, b2i_ne0, decide_eq_true_eq] at *); (try simp only [mI, mA, fa_lt, fa_le, fa_eq, Int32.reduceToInt] at *); omega)]; simp only [Int32.reduceToInt, mI] at *; omega), rfl⟩⟩
set_option maxHeartbeats 2000000 in
theorem c_X9_isLot {l : Launch} {G : va_G} {cy : Nat → ClassId} (a : Int32) (S : HS) (h : ShM S) (hb : 0 ≤ (mI S 27).toInt ∧ (mI S 27).toInt ≤ 400) : Cn l G cy yX9_isLot cX9_isLot 2 (some .boolean) 1 [.ref 2000, .int a] S 0 0 (qI (fun r S2 => r = b2i (0 ≤ a.toInt ∧ a.toInt < (mI S 27).toInt) ∧ S2 = S)) := by
  refine Cn.of [some (.ref 2000), some (.int a)] (by decide) rfl (Nat.le_of_ble_eq_true rfl) ?_
  refine r_iload_n dX9_isLot_0 rfl rfl ?_
  refine r_iconst (v := 0) dX9_isLot_1 (by decide) ?_
  refine r_aload_n dX9_isLot_2 rfl rfl ?_
  refine r_getI dX9_isLot_3 lf_X9_173 rfl (by first | rfl | assumption) ?_
  refine r_iconst (v := 1) dX9_isLot_6 (by decide) ?_
  refine r_isub dX9_isLot_7 ?_
  refine r_invS3i dX9_isLot_8 lm_X9_129 (c_X9_in _ _ _ _) (Nat.le_of_ble_eq_true rfl) (Nat.le_of_ble_eq_true rfl) (Nat.zero_le _) (Nat.zero_le _) (fun r8 S8 hq8 => ?_)
  obtain ⟨rfl, hz8⟩ := hq8
  replace hz8 := hz8.symm
  subst hz8
  exact r_zret dX9_isLot_11 rfl b2i_nar (Nat.zero_le _) (Nat.zero_le _) ⟨_, rfl, ⟨b2i_cg (by rw [fa_le, fa_le, fb_subI (by (try simp only [b2i_eq0, b2i_ne0, decide_eq_true_eq] at *); (try simp only [mI, mA, fa_lt, fa_le, fa_eq, Int32.reduceToInt] at *); omega) (by (try simp only [b2i_eq0, b2i_ne0, decide_eq_true_eq] at *); (try simp only [mI, mA, fa_lt, fa_le, fa_eq, Int32.reduceToInt] at *); omega)]; simp only [Int32.reduceToInt, mI] at *; omega), rfl⟩⟩
set_option maxHeartbeats 2000000 in
theorem c_X9_shoal {l : Launch} {G : va_G} {cy : Nat → ClassId} (a n : Int32) (S : HS) (h : ShM S) : Cn l G cy yX9_shoal cX9_shoal 3 (some .boolean) 1 [.ref 2000, .int a, .int n] S 0 0 (qI (fun r S2 => r = b2i (0 ≤ a.toInt ∧ a.toInt < 36 ∧ 0 ≤ n.toInt ∧ n.toInt ≤ 10000) ∧ S2 = if 0 ≤ a.toInt ∧ a.toInt < 36 ∧ 0 ≤ n.toInt ∧ n.toInt ≤ 10000 then setA S (ma 0) (upd (mA S 0) a.toNatClampNeg n) else S)) := by
  refine Cn.of [some (.ref 2000), some (.int a), some (.int n)] (by decide) rfl (Nat.le_of_ble_eq_true rfl) ?_
  refine r_iload_n dX9_shoal_0 rfl rfl ?_
  refine r_iconst (v := 0) dX9_shoal_1 (by decide) ?_
  refine r_bipush (v := 35) dX9_shoal_2 (by decide) ?_
  refine r_invS3i dX9_shoal_4 lm_X9_129 (c_X9_in _ _ _ _) (Nat.le_of_ble_eq_true rfl) (Nat.le_of_ble_eq_true rfl) (Nat.zero_le _) (Nat.zero_le _) (fun r4 S4 hq4 => ?_)
  obtain ⟨rfl, hz4⟩ := hq4
  replace hz4 := hz4.symm
  subst hz4
  refine r_if_eq 21 dX9_shoal_7 (by decide) (fun q7 => ?_) (fun q7 => ?_)
  · skip
    refine r_iconst (v := 0) dX9_shoal_21 (by decide) ?_
    exact r_zret dX9_shoal_22 rfl rfl (Nat.zero_le _) (Nat.zero_le _) ⟨_, rfl, by first | exact ⟨(b2i_t (by (try simp only [b2i_eq0, b2i_ne0, decide_eq_true_eq] at *); (try simp only [mI, mA, fa_lt, fa_le, fa_eq, Int32.reduceToInt] at *); omega)).symm, (if_pos (by (try simp only [b2i_eq0, b2i_ne0, decide_eq_true_eq] at *); (try simp only [mI, mA, fa_lt, fa_le, fa_eq, Int32.reduceToInt] at *); omega)).symm⟩ | exact ⟨(b2i_f (by (try simp only [b2i_eq0, b2i_ne0, decide_eq_true_eq] at *); (try simp only [mI, mA, fa_lt, fa_le, fa_eq, Int32.reduceToInt] at *); omega)).symm, (if_neg (by (try simp only [b2i_eq0, b2i_ne0, decide_eq_true_eq] at *); (try simp only [mI, mA, fa_lt, fa_le, fa_eq, Int32.reduceToInt] at *); omega)).symm⟩⟩
  · skip
    refine r_iload_n dX9_shoal_10 rfl rfl ?_
    refine r_iconst (v := 0) dX9_shoal_11 (by decide) ?_
    refine r_sipush (v := 10000) dX9_shoal_12 (by decide) ?_
    refine r_invS3i dX9_shoal_15 lm_X9_129 (c_X9_in _ _ _ _) (Nat.le_of_ble_eq_true rfl) (Nat.le_of_ble_eq_true rfl) (Nat.zero_le _) (Nat.zero_le _) (fun r15 S15 hq15 => ?_)
    obtain ⟨rfl, hz15⟩ := hq15
    replace hz15 := hz15.symm
    subst hz15
    refine r_if_ne 23 dX9_shoal_18 (by decide) (fun q18 => ?_) (fun q18 => ?_)
    · skip
      refine r_aload_n dX9_shoal_23 rfl rfl ?_
      refine r_getR dX9_shoal_24 lf_X9_9 rfl (by first | rfl | assumption) (shM_R h (j := 0) rfl) (shM_L h (j := 0) rfl) ?_
      refine r_iload_n dX9_shoal_27 rfl rfl ?_
      refine r_iload_n dX9_shoal_28 rfl rfl ?_
      refine r_iast dX9_shoal_29 (by first | rfl | assumption) (show vp_in _ 36 from vp_in_iff.mpr (by (try simp only [b2i_eq0, b2i_ne0, decide_eq_true_eq] at *); (try simp only [mI, mA, fa_lt, fa_le, fa_eq, Int32.reduceToInt] at *); omega)) ?_
      refine r_iconst (v := 1) dX9_shoal_30 (by decide) ?_
      exact r_zret dX9_shoal_31 rfl rfl (Nat.zero_le _) (Nat.zero_le _) ⟨_, rfl, by first | exact ⟨(b2i_t (by (try simp only [b2i_eq0, b2i_ne0, decide_eq_true_eq] at *); (try simp only [mI, mA, fa_lt, fa_le, fa_eq, Int32.reduceToInt] at *); omega)).symm, (if_pos (by (try simp only [b2i_eq0, b2i_ne0, decide_eq_true_eq] at *); (try simp only [mI, mA, fa_lt, fa_le, fa_eq, Int32.reduceToInt] at *); omega)).symm⟩ | exact ⟨(b2i_f (by (try simp only [b2i_eq0, b2i_ne0, decide_eq_true_eq] at *); (try simp only [mI, mA, fa_lt, fa_le, fa_eq, Int32.reduceToInt] at *); omega)).symm, (if_neg (by (try simp only [b2i_eq0, b2i_ne0, decide_eq_true_eq] at *); (try simp only [mI, mA, fa_lt, fa_le, fa_eq, Int32.reduceToInt] at *); omega)).symm⟩⟩
    · skip
      refine r_iconst (v := 0) dX9_shoal_21 (by decide) ?_
      exact r_zret dX9_shoal_22 rfl rfl (Nat.zero_le _) (Nat.zero_le _) ⟨_, rfl, by first | exact ⟨(b2i_t (by (try simp only [b2i_eq0, b2i_ne0, decide_eq_true_eq] at *); (try simp only [mI, mA, fa_lt, fa_le, fa_eq, Int32.reduceToInt] at *); omega)).symm, (if_pos (by (try simp only [b2i_eq0, b2i_ne0, decide_eq_true_eq] at *); (try simp only [mI, mA, fa_lt, fa_le, fa_eq, Int32.reduceToInt] at *); omega)).symm⟩ | exact ⟨(b2i_f (by (try simp only [b2i_eq0, b2i_ne0, decide_eq_true_eq] at *); (try simp only [mI, mA, fa_lt, fa_le, fa_eq, Int32.reduceToInt] at *); omega)).symm, (if_neg (by (try simp only [b2i_eq0, b2i_ne0, decide_eq_true_eq] at *); (try simp only [mI, mA, fa_lt, fa_le, fa_eq, Int32.reduceToInt] at *); omega)).symm⟩⟩
set_option maxHeartbeats 2000000 in
theorem c_X9_open {l : Launch} {G : va_G} {cy : Nat → ClassId} (a w : Int32) (S : HS) (h : ShM S) : Cn l G cy yX9_open cX9_open 3 (some .boolean) 1 [.ref 2000, .int a, .int w] S 0 0 (qI (fun r S2 => r = b2i (0 ≤ a.toInt ∧ a.toInt < 36 ∧ ¬ (mA S 1 a.toNatClampNeg).toInt = w.toInt) ∧ S2 = if 0 ≤ a.toInt ∧ a.toInt < 36 ∧ ¬ (mA S 1 a.toNatClampNeg).toInt = w.toInt then setA S (ma 1) (upd (mA S 1) a.toNatClampNeg (vp_nar .boolean w)) else S)) := by
  refine Cn.of [some (.ref 2000), some (.int a), some (.int w)] (by decide) rfl (Nat.le_of_ble_eq_true rfl) ?_
  refine r_iload_n dX9_open_0 rfl rfl ?_
  refine r_iconst (v := 0) dX9_open_1 (by decide) ?_
  refine r_bipush (v := 35) dX9_open_2 (by decide) ?_
  refine r_invS3i dX9_open_4 lm_X9_129 (c_X9_in _ _ _ _) (Nat.le_of_ble_eq_true rfl) (Nat.le_of_ble_eq_true rfl) (Nat.zero_le _) (Nat.zero_le _) (fun r4 S4 hq4 => ?_)
  obtain ⟨rfl, hz4⟩ := hq4
  replace hz4 := hz4.symm
  subst hz4
  refine r_if_eq 20 dX9_open_7 (by decide) (fun q7 => ?_) (fun q7 => ?_)
  · skip
    refine r_iconst (v := 0) dX9_open_20 (by decide) ?_
    exact r_zret dX9_open_21 rfl rfl (Nat.zero_le _) (Nat.zero_le _) ⟨_, rfl, by first | exact ⟨(b2i_t (by (try simp only [b2i_eq0, b2i_ne0, decide_eq_true_eq] at *); (try simp only [mI, mA, fa_lt, fa_le, fa_eq, Int32.reduceToInt] at *); omega)).symm, (if_pos (by (try simp only [b2i_eq0, b2i_ne0, decide_eq_true_eq] at *); (try simp only [mI, mA, fa_lt, fa_le, fa_eq, Int32.reduceToInt] at *); omega)).symm⟩ | exact ⟨(b2i_f (by (try simp only [b2i_eq0, b2i_ne0, decide_eq_true_eq] at *); (try simp only [mI, mA, fa_lt, fa_le, fa_eq, Int32.reduceToInt] at *); omega)).symm, (if_neg (by (try simp only [b2i_eq0, b2i_ne0, decide_eq_true_eq] at *); (try simp only [mI, mA, fa_lt, fa_le, fa_eq, Int32.reduceToInt] at *); omega)).symm⟩⟩
  · skip
    refine r_aload_n dX9_open_10 rfl rfl ?_
    refine r_getR dX9_open_11 lf_X9_13 rfl (by first | rfl | assumption) (shM_R h (j := 1) rfl) (shM_L h (j := 1) rfl) ?_
    refine r_iload_n dX9_open_14 rfl rfl ?_
    refine r_zald dX9_open_15 (by first | rfl | assumption) (show vp_in _ 36 from vp_in_iff.mpr (by (try simp only [b2i_eq0, b2i_ne0, decide_eq_true_eq] at *); (try simp only [mI, mA, fa_lt, fa_le, fa_eq, Int32.reduceToInt] at *); omega)) ?_
    refine r_iload_n dX9_open_16 rfl rfl ?_
    refine r_icmp_ne 22 dX9_open_17 (by decide) (fun q17 => ?_) (fun q17 => ?_)
    · skip
      refine r_aload_n dX9_open_22 rfl rfl ?_
      refine r_getR dX9_open_23 lf_X9_13 rfl (by first | rfl | assumption) (shM_R h (j := 1) rfl) (shM_L h (j := 1) rfl) ?_
      refine r_iload_n dX9_open_26 rfl rfl ?_
      refine r_iload_n dX9_open_27 rfl rfl ?_
      refine r_zast dX9_open_28 (by first | rfl | assumption) (show vp_in _ 36 from vp_in_iff.mpr (by (try simp only [b2i_eq0, b2i_ne0, decide_eq_true_eq] at *); (try simp only [mI, mA, fa_lt, fa_le, fa_eq, Int32.reduceToInt] at *); omega)) ?_
      refine r_iconst (v := 1) dX9_open_29 (by decide) ?_
      exact r_zret dX9_open_30 rfl rfl (Nat.zero_le _) (Nat.zero_le _) ⟨_, rfl, by first | exact ⟨(b2i_t (by (try simp only [b2i_eq0, b2i_ne0, decide_eq_true_eq] at *); (try simp only [mI, mA, fa_lt, fa_le, fa_eq, Int32.reduceToInt] at *); omega)).symm, (if_pos (by (try simp only [b2i_eq0, b2i_ne0, decide_eq_true_eq] at *); (try simp only [mI, mA, fa_lt, fa_le, fa_eq, Int32.reduceToInt] at *); omega)).symm⟩ | exact ⟨(b2i_f (by (try simp only [b2i_eq0, b2i_ne0, decide_eq_true_eq] at *); (try simp only [mI, mA, fa_lt, fa_le, fa_eq, Int32.reduceToInt] at *); omega)).symm, (if_neg (by (try simp only [b2i_eq0, b2i_ne0, decide_eq_true_eq] at *); (try simp only [mI, mA, fa_lt, fa_le, fa_eq, Int32.reduceToInt] at *); omega)).symm⟩⟩
    · skip
      refine r_iconst (v := 0) dX9_open_20 (by decide) ?_
      exact r_zret dX9_open_21 rfl rfl (Nat.zero_le _) (Nat.zero_le _) ⟨_, rfl, by first | exact ⟨(b2i_t (by (try simp only [b2i_eq0, b2i_ne0, decide_eq_true_eq] at *); (try simp only [mI, mA, fa_lt, fa_le, fa_eq, Int32.reduceToInt] at *); omega)).symm, (if_pos (by (try simp only [b2i_eq0, b2i_ne0, decide_eq_true_eq] at *); (try simp only [mI, mA, fa_lt, fa_le, fa_eq, Int32.reduceToInt] at *); omega)).symm⟩ | exact ⟨(b2i_f (by (try simp only [b2i_eq0, b2i_ne0, decide_eq_true_eq] at *); (try simp only [mI, mA, fa_lt, fa_le, fa_eq, Int32.reduceToInt] at *); omega)).symm, (if_neg (by (try simp only [b2i_eq0, b2i_ne0, decide_eq_true_eq] at *); (try simp only [mI, mA, fa_lt, fa_le, fa_eq, Int32.reduceToInt] at *); omega)).symm⟩⟩
set_option maxHeartbeats 2000000 in
theorem c_X9_drift {l : Launch} {G : va_G} {cy : Nat → ClassId} (a : Int32) (S : HS) (h : ShM S) : Cn l G cy yX9_drift cX9_drift 2 (some .boolean) 1 [.ref 2000, .int a] S 0 0 (qI (fun r S2 => r = b2i (0 ≤ a.toInt ∧ a.toInt ≤ 4) ∧ S2 = if 0 ≤ a.toInt ∧ a.toInt ≤ 4 then setI S (fid 9 28) 2000 a else S)) := by
  refine Cn.of [some (.ref 2000), some (.int a)] (by decide) rfl (Nat.le_of_ble_eq_true rfl) ?_
  refine r_iload_n dX9_drift_0 rfl rfl ?_
  refine r_iconst (v := 0) dX9_drift_1 (by decide) ?_
  refine r_iconst (v := 4) dX9_drift_2 (by decide) ?_
  refine r_invS3i dX9_drift_3 lm_X9_129 (c_X9_in _ _ _ _) (Nat.le_of_ble_eq_true rfl) (Nat.le_of_ble_eq_true rfl) (Nat.zero_le _) (Nat.zero_le _) (fun r3 S3 hq3 => ?_)
  obtain ⟨rfl, hz3⟩ := hq3
  replace hz3 := hz3.symm
  subst hz3
  refine r_if_ne 11 dX9_drift_6 (by decide) (fun q6 => ?_) (fun q6 => ?_)
  · skip
    refine r_aload_n dX9_drift_11 rfl rfl ?_
    refine r_iload_n dX9_drift_12 rfl rfl ?_
    refine r_putI dX9_drift_13 (lp_X9_133 _) rfl (by first | rfl | assumption) ?_
    refine r_iconst (v := 1) dX9_drift_16 (by decide) ?_
    exact r_zret dX9_drift_17 rfl rfl (Nat.zero_le _) (Nat.zero_le _) ⟨_, rfl, by first | exact ⟨(b2i_t (by (try simp only [b2i_eq0, b2i_ne0, decide_eq_true_eq] at *); (try simp only [mI, mA, fa_lt, fa_le, fa_eq, Int32.reduceToInt] at *); omega)).symm, (if_pos (by (try simp only [b2i_eq0, b2i_ne0, decide_eq_true_eq] at *); (try simp only [mI, mA, fa_lt, fa_le, fa_eq, Int32.reduceToInt] at *); omega)).symm⟩ | exact ⟨(b2i_f (by (try simp only [b2i_eq0, b2i_ne0, decide_eq_true_eq] at *); (try simp only [mI, mA, fa_lt, fa_le, fa_eq, Int32.reduceToInt] at *); omega)).symm, (if_neg (by (try simp only [b2i_eq0, b2i_ne0, decide_eq_true_eq] at *); (try simp only [mI, mA, fa_lt, fa_le, fa_eq, Int32.reduceToInt] at *); omega)).symm⟩⟩
  · skip
    refine r_iconst (v := 0) dX9_drift_9 (by decide) ?_
    exact r_zret dX9_drift_10 rfl rfl (Nat.zero_le _) (Nat.zero_le _) ⟨_, rfl, by first | exact ⟨(b2i_t (by (try simp only [b2i_eq0, b2i_ne0, decide_eq_true_eq] at *); (try simp only [mI, mA, fa_lt, fa_le, fa_eq, Int32.reduceToInt] at *); omega)).symm, (if_pos (by (try simp only [b2i_eq0, b2i_ne0, decide_eq_true_eq] at *); (try simp only [mI, mA, fa_lt, fa_le, fa_eq, Int32.reduceToInt] at *); omega)).symm⟩ | exact ⟨(b2i_f (by (try simp only [b2i_eq0, b2i_ne0, decide_eq_true_eq] at *); (try simp only [mI, mA, fa_lt, fa_le, fa_eq, Int32.reduceToInt] at *); omega)).symm, (if_neg (by (try simp only [b2i_eq0, b2i_ne0, decide_eq_true_eq] at *); (try simp only [mI, mA, fa_lt, fa_le, fa_eq, Int32.reduceToInt] at *); omega)).symm⟩⟩
set_option maxHeartbeats 2000000 in
theorem c_X9_soft {l : Launch} {G : va_G} {cy : Nat → ClassId} (a : Int32) (S : HS) (h : ShM S) : Cn l G cy yX9_soft cX9_soft 2 (some .boolean) 1 [.ref 2000, .int a] S 0 0 (qI (fun r S2 => r = b2i (0 ≤ a.toInt ∧ a.toInt ≤ 2000) ∧ S2 = if 0 ≤ a.toInt ∧ a.toInt ≤ 2000 then setI S (fid 9 29) 2000 a else S)) := by
  refine Cn.of [some (.ref 2000), some (.int a)] (by decide) rfl (Nat.le_of_ble_eq_true rfl) ?_
  refine r_iload_n dX9_soft_0 rfl rfl ?_
  refine r_iconst (v := 0) dX9_soft_1 (by decide) ?_
  refine r_sipush (v := 2000) dX9_soft_2 (by decide) ?_
  refine r_invS3i dX9_soft_5 lm_X9_129 (c_X9_in _ _ _ _) (Nat.le_of_ble_eq_true rfl) (Nat.le_of_ble_eq_true rfl) (Nat.zero_le _) (Nat.zero_le _) (fun r5 S5 hq5 => ?_)
  obtain ⟨rfl, hz5⟩ := hq5
  replace hz5 := hz5.symm
  subst hz5
  refine r_if_ne 13 dX9_soft_8 (by decide) (fun q8 => ?_) (fun q8 => ?_)
  · skip
    refine r_aload_n dX9_soft_13 rfl rfl ?_
    refine r_iload_n dX9_soft_14 rfl rfl ?_
    refine r_putI dX9_soft_15 (lp_X9_83 _) rfl (by first | rfl | assumption) ?_
    refine r_iconst (v := 1) dX9_soft_18 (by decide) ?_
    exact r_zret dX9_soft_19 rfl rfl (Nat.zero_le _) (Nat.zero_le _) ⟨_, rfl, by first | exact ⟨(b2i_t (by (try simp only [b2i_eq0, b2i_ne0, decide_eq_true_eq] at *); (try simp only [mI, mA, fa_lt, fa_le, fa_eq, Int32.reduceToInt] at *); omega)).symm, (if_pos (by (try simp only [b2i_eq0, b2i_ne0, decide_eq_true_eq] at *); (try simp only [mI, mA, fa_lt, fa_le, fa_eq, Int32.reduceToInt] at *); omega)).symm⟩ | exact ⟨(b2i_f (by (try simp only [b2i_eq0, b2i_ne0, decide_eq_true_eq] at *); (try simp only [mI, mA, fa_lt, fa_le, fa_eq, Int32.reduceToInt] at *); omega)).symm, (if_neg (by (try simp only [b2i_eq0, b2i_ne0, decide_eq_true_eq] at *); (try simp only [mI, mA, fa_lt, fa_le, fa_eq, Int32.reduceToInt] at *); omega)).symm⟩⟩
  · skip
    refine r_iconst (v := 0) dX9_soft_11 (by decide) ?_
    exact r_zret dX9_soft_12 rfl rfl (Nat.zero_le _) (Nat.zero_le _) ⟨_, rfl, by first | exact ⟨(b2i_t (by (try simp only [b2i_eq0, b2i_ne0, decide_eq_true_eq] at *); (try simp only [mI, mA, fa_lt, fa_le, fa_eq, Int32.reduceToInt] at *); omega)).symm, (if_pos (by (try simp only [b2i_eq0, b2i_ne0, decide_eq_true_eq] at *); (try simp only [mI, mA, fa_lt, fa_le, fa_eq, Int32.reduceToInt] at *); omega)).symm⟩ | exact ⟨(b2i_f (by (try simp only [b2i_eq0, b2i_ne0, decide_eq_true_eq] at *); (try simp only [mI, mA, fa_lt, fa_le, fa_eq, Int32.reduceToInt] at *); omega)).symm, (if_neg (by (try simp only [b2i_eq0, b2i_ne0, decide_eq_true_eq] at *); (try simp only [mI, mA, fa_lt, fa_le, fa_eq, Int32.reduceToInt] at *); omega)).symm⟩⟩
set_option maxHeartbeats 2000000 in
theorem c_X9_end {l : Launch} {G : va_G} {cy : Nat → ClassId} (a : Int32) (S : HS) (h : ShM S) : Cn l G cy yX9_end cX9_end 2 (some .boolean) 1 [.ref 2000, .int a] S 0 0 (qI (fun r S2 => r = b2i (0 ≤ a.toInt ∧ a.toInt ≤ (mI S 47).toInt) ∧ S2 = if 0 ≤ a.toInt ∧ a.toInt ≤ (mI S 47).toInt then setI S (fid 9 47) 2000 a else S)) := by
  refine Cn.of [some (.ref 2000), some (.int a)] (by decide) rfl (Nat.le_of_ble_eq_true rfl) ?_
  refine r_iload_n dX9_end_0 rfl rfl ?_
  refine r_if_lt 12 dX9_end_1 (by decide) (fun q1 => ?_) (fun q1 => ?_)
  · skip
    refine r_iconst (v := 0) dX9_end_12 (by decide) ?_
    exact r_zret dX9_end_13 rfl rfl (Nat.zero_le _) (Nat.zero_le _) ⟨_, rfl, by first | exact ⟨(b2i_t (by (try simp only [b2i_eq0, b2i_ne0, decide_eq_true_eq] at *); (try simp only [mI, mA, fa_lt, fa_le, fa_eq, Int32.reduceToInt] at *); omega)).symm, (if_pos (by (try simp only [b2i_eq0, b2i_ne0, decide_eq_true_eq] at *); (try simp only [mI, mA, fa_lt, fa_le, fa_eq, Int32.reduceToInt] at *); omega)).symm⟩ | exact ⟨(b2i_f (by (try simp only [b2i_eq0, b2i_ne0, decide_eq_true_eq] at *); (try simp only [mI, mA, fa_lt, fa_le, fa_eq, Int32.reduceToInt] at *); omega)).symm, (if_neg (by (try simp only [b2i_eq0, b2i_ne0, decide_eq_true_eq] at *); (try simp only [mI, mA, fa_lt, fa_le, fa_eq, Int32.reduceToInt] at *); omega)).symm⟩⟩
  · skip
    refine r_iload_n dX9_end_4 rfl rfl ?_
    refine r_aload_n dX9_end_5 rfl rfl ?_
    refine r_getI dX9_end_6 lf_X9_215 rfl (by first | rfl | assumption) ?_
    refine r_icmp_le 14 dX9_end_9 (by decide) (fun q9 => ?_) (fun q9 => ?_)
    · skip
      refine r_aload_n dX9_end_14 rfl rfl ?_
      refine r_iload_n dX9_end_15 rfl rfl ?_
      refine r_putI dX9_end_16 (lp_X9_215 _) rfl (by first | rfl | assumption) ?_
      refine r_iconst (v := 1) dX9_end_19 (by decide) ?_
      exact r_zret dX9_end_20 rfl rfl (Nat.zero_le _) (Nat.zero_le _) ⟨_, rfl, by first | exact ⟨(b2i_t (by (try simp only [b2i_eq0, b2i_ne0, decide_eq_true_eq] at *); (try simp only [mI, mA, fa_lt, fa_le, fa_eq, Int32.reduceToInt] at *); omega)).symm, (if_pos (by (try simp only [b2i_eq0, b2i_ne0, decide_eq_true_eq] at *); (try simp only [mI, mA, fa_lt, fa_le, fa_eq, Int32.reduceToInt] at *); omega)).symm⟩ | exact ⟨(b2i_f (by (try simp only [b2i_eq0, b2i_ne0, decide_eq_true_eq] at *); (try simp only [mI, mA, fa_lt, fa_le, fa_eq, Int32.reduceToInt] at *); omega)).symm, (if_neg (by (try simp only [b2i_eq0, b2i_ne0, decide_eq_true_eq] at *); (try simp only [mI, mA, fa_lt, fa_le, fa_eq, Int32.reduceToInt] at *); omega)).symm⟩⟩
    · skip
      refine r_iconst (v := 0) dX9_end_12 (by decide) ?_
      exact r_zret dX9_end_13 rfl rfl (Nat.zero_le _) (Nat.zero_le _) ⟨_, rfl, by first | exact ⟨(b2i_t (by (try simp only [b2i_eq0, b2i_ne0, decide_eq_true_eq] at *); (try simp only [mI, mA, fa_lt, fa_le, fa_eq, Int32.reduceToInt] at *); omega)).symm, (if_pos (by (try simp only [b2i_eq0, b2i_ne0, decide_eq_true_eq] at *); (try simp only [mI, mA, fa_lt, fa_le, fa_eq, Int32.reduceToInt] at *); omega)).symm⟩ | exact ⟨(b2i_f (by (try simp only [b2i_eq0, b2i_ne0, decide_eq_true_eq] at *); (try simp only [mI, mA, fa_lt, fa_le, fa_eq, Int32.reduceToInt] at *); omega)).symm, (if_neg (by (try simp only [b2i_eq0, b2i_ne0, decide_eq_true_eq] at *); (try simp only [mI, mA, fa_lt, fa_le, fa_eq, Int32.reduceToInt] at *); omega)).symm⟩⟩
end
section
/-! ===== the reference: more small methods ===== -/
theorem ix8 {b h : Int32} (hb : 0 ≤ b.toInt ∧ b.toInt < 12) (hh : 0 ≤ h.toInt ∧ h.toInt ≤ 7) : (8 * b + h).toInt = 8 * b.toInt + h.toInt := by
  have e1 : (8 * b).toInt = 8 * b.toInt := by
    rw [fb_mulI] <;> simp only [Int32.reduceToInt] <;> omega
  rw [fb_addI] <;> rw [e1] <;> omega
/-- a choice by a number: the k-th of a list, else d -/
def sel (w : Int) (d : Int32) : List Int32 → Int32
  | [] => d
  | a :: r => if w = 0 then a else sel (w - 1) d r
theorem ix8in {b h : Int32} {n : Int} (hn : n ≤ 12) (hb : 0 ≤ b.toInt ∧ b.toInt < n) (hh : 0 ≤ h.toInt ∧ h.toInt ≤ 7) : vp_in (8 * b + h) 96 := by
  refine vp_in_iff.mpr ?_
  rw [ix8 (by omega) hh]
  omega
set_option maxHeartbeats 4000000 in
theorem c_X9_go {l : Launch} {G : va_G} {cy : Nat → ClassId} (a w : Int32) (S : HS) (h : ShM S) (hb : 0 ≤ (mI S 25).toInt ∧ (mI S 25).toInt ≤ 12) : Cn l G cy yX9_go cX9_go 3 (some .boolean) 2 [.ref 2000, .int a, .int w] S 0 0 (qI (fun r S2 => r = b2i (0 ≤ a.toInt ∧ a.toInt < (mI S 25).toInt ∧ -1 ≤ w.toInt ∧ w.toInt ≤ 35) ∧ S2 = if (0 ≤ a.toInt ∧ a.toInt < (mI S 25).toInt ∧ -1 ≤ w.toInt ∧ w.toInt ≤ 35) then setA S (ma 3) (upd (mA S 3) a.toNatClampNeg w) else S)) := by
  refine Cn.of [some (.ref 2000), some (.int a), some (.int w)] (by decide) rfl (Nat.le_of_ble_eq_true rfl) ?_
  refine r_aload_n dX9_go_0 rfl rfl ?_
  refine r_iload_n dX9_go_1 rfl rfl ?_
  refine r_invV1i dX9_go_2 lm_X9_136 (by first | rfl | assumption) (c_X9_isBoat _ _ h hb) (Nat.le_of_ble_eq_true rfl) (Nat.le_of_ble_eq_true rfl) (Nat.zero_le _) (Nat.zero_le _) (fun r2 S2 hq2 => ?_)
  obtain ⟨rfl, hz2⟩ := hq2
  replace hz2 := hz2.symm
  subst hz2
  refine r_if_eq 18 dX9_go_5 (by decide) (fun q5 => ?_) (fun q5 => ?_)
  · skip
    refine r_iconst (v := 0) dX9_go_18 (by decide) ?_
    exact r_zret dX9_go_19 rfl rfl (Nat.zero_le _) (Nat.zero_le _) ⟨_, rfl, by first | exact ⟨(b2i_t (by (try simp only [b2i_eq0, b2i_ne0, decide_eq_true_eq] at *); (try simp only [mI, mA, sI_setA, sI_setQ, sI_setR, sA_setI, sA_setR, sA_setQ, fa_lt, fa_le, fa_eq, Int32.reduceToInt] at *); omega)).symm, (if_pos (by (try simp only [b2i_eq0, b2i_ne0, decide_eq_true_eq] at *); (try simp only [mI, mA, sI_setA, sI_setQ, sI_setR, sA_setI, sA_setR, sA_setQ, fa_lt, fa_le, fa_eq, Int32.reduceToInt] at *); omega)).symm⟩ | exact ⟨(b2i_f (by (try simp only [b2i_eq0, b2i_ne0, decide_eq_true_eq] at *); (try simp only [mI, mA, sI_setA, sI_setQ, sI_setR, sA_setI, sA_setR, sA_setQ, fa_lt, fa_le, fa_eq, Int32.reduceToInt] at *); omega)).symm, (if_neg (by (try simp only [b2i_eq0, b2i_ne0, decide_eq_true_eq] at *); (try simp only [mI, mA, sI_setA, sI_setQ, sI_setR, sA_setI, sA_setR, sA_setQ, fa_lt, fa_le, fa_eq, Int32.reduceToInt] at *); omega)).symm⟩⟩
  · skip
    refine r_iload_n dX9_go_8 rfl rfl ?_
    refine r_iconst (v := (-1)) dX9_go_9 (by decide) ?_
    refine r_bipush (v := 35) dX9_go_10 (by decide) ?_
    refine r_invS3i dX9_go_12 lm_X9_129 (c_X9_in _ _ _ _) (Nat.le_of_ble_eq_true rfl) (Nat.le_of_ble_eq_true rfl) (Nat.zero_le _) (Nat.zero_le _) (fun r12 S12 hq12 => ?_)
    obtain ⟨rfl, hz12⟩ := hq12
    replace hz12 := hz12.symm
    subst hz12
    refine r_if_ne 20 dX9_go_15 (by decide) (fun q15 => ?_) (fun q15 => ?_)
    · skip
      refine r_aload_n dX9_go_20 rfl rfl ?_
      refine r_getR dX9_go_21 lf_X9_20 rfl (by first | rfl | assumption) (shM_R h (j := 3) rfl) (shM_L h (j := 3) rfl) ?_
      refine r_iload_n dX9_go_24 rfl rfl ?_
      refine r_iload_n dX9_go_25 rfl rfl ?_
      refine r_iast dX9_go_26 (by first | rfl | assumption) (show vp_in _ 12 from vp_in_iff.mpr (by (try simp only [b2i_eq0, b2i_ne0, decide_eq_true_eq] at *); (try simp only [mI, mA, sI_setA, sI_setQ, sI_setR, sA_setI, sA_setR, sA_setQ, fa_lt, fa_le, fa_eq, Int32.reduceToInt] at *); omega)) ?_
      refine r_iconst (v := 1) dX9_go_27 (by decide) ?_
      exact r_zret dX9_go_28 rfl rfl (Nat.zero_le _) (Nat.zero_le _) ⟨_, rfl, by first | exact ⟨(b2i_t (by (try simp only [b2i_eq0, b2i_ne0, decide_eq_true_eq] at *); (try simp only [mI, mA, sI_setA, sI_setQ, sI_setR, sA_setI, sA_setR, sA_setQ, fa_lt, fa_le, fa_eq, Int32.reduceToInt] at *); omega)).symm, (if_pos (by (try simp only [b2i_eq0, b2i_ne0, decide_eq_true_eq] at *); (try simp only [mI, mA, sI_setA, sI_setQ, sI_setR, sA_setI, sA_setR, sA_setQ, fa_lt, fa_le, fa_eq, Int32.reduceToInt] at *); omega)).symm⟩ | exact ⟨(b2i_f (by (try simp only [b2i_eq0, b2i_ne0, decide_eq_true_eq] at *); (try simp only [mI, mA, sI_setA, sI_setQ, sI_setR, sA_setI, sA_setR, sA_setQ, fa_lt, fa_le, fa_eq, Int32.reduceToInt] at *); omega)).symm, (if_neg (by (try simp only [b2i_eq0, b2i_ne0, decide_eq_true_eq] at *); (try simp only [mI, mA, sI_setA, sI_setQ, sI_setR, sA_setI, sA_setR, sA_setQ, fa_lt, fa_le, fa_eq, Int32.reduceToInt] at *); omega)).symm⟩⟩
    · skip
      refine r_iconst (v := 0) dX9_go_18 (by decide) ?_
      exact r_zret dX9_go_19 rfl rfl (Nat.zero_le _) (Nat.zero_le _) ⟨_, rfl, by first | exact ⟨(b2i_t (by (try simp only [b2i_eq0, b2i_ne0, decide_eq_true_eq] at *); (try simp only [mI, mA, sI_setA, sI_setQ, sI_setR, sA_setI, sA_setR, sA_setQ, fa_lt, fa_le, fa_eq, Int32.reduceToInt] at *); omega)).symm, (if_pos (by (try simp only [b2i_eq0, b2i_ne0, decide_eq_true_eq] at *); (try simp only [mI, mA, sI_setA, sI_setQ, sI_setR, sA_setI, sA_setR, sA_setQ, fa_lt, fa_le, fa_eq, Int32.reduceToInt] at *); omega)).symm⟩ | exact ⟨(b2i_f (by (try simp only [b2i_eq0, b2i_ne0, decide_eq_true_eq] at *); (try simp only [mI, mA, sI_setA, sI_setQ, sI_setR, sA_setI, sA_setR, sA_setQ, fa_lt, fa_le, fa_eq, Int32.reduceToInt] at *); omega)).symm, (if_neg (by (try simp only [b2i_eq0, b2i_ne0, decide_eq_true_eq] at *); (try simp only [mI, mA, sI_setA, sI_setQ, sI_setR, sA_setI, sA_setR, sA_setQ, fa_lt, fa_le, fa_eq, Int32.reduceToInt] at *); omega)).symm⟩⟩
set_option maxHeartbeats 4000000 in
theorem c_X9_boat {l : Launch} {G : va_G} {cy : Nat → ClassId} (a : Int32) (S : HS) (h : ShM S) (hb : 0 ≤ (mI S 25).toInt ∧ (mI S 25).toInt ≤ 12) : Cn l G cy yX9_boat cX9_boat 2 (some .int) 1 [.ref 2000, .int a] S 0 0 (qI (fun r S2 => (r = if (¬ (mI S 25).toInt = 12 ∧ 0 ≤ a.toInt ∧ a.toInt ≤ 60) then mI S 25 + 1 - 1 else -1) ∧ S2 = if (¬ (mI S 25).toInt = 12 ∧ 0 ≤ a.toInt ∧ a.toInt ≤ 60) then setI (setA (setA S (ma 2) (upd (mA S 2) (mI S 25).toNatClampNeg a)) (ma 3) (upd (mA S 3) (mI S 25).toNatClampNeg (-1))) (fid 9 25) 2000 (mI S 25 + 1) else S)) := by
  refine Cn.of [some (.ref 2000), some (.int a)] (by decide) rfl (Nat.le_of_ble_eq_true rfl) ?_
  refine r_aload_n dX9_boat_0 rfl rfl ?_
  refine r_getI dX9_boat_1 lf_X9_126 rfl (by first | rfl | assumption) ?_
  refine r_bipush (v := 12) dX9_boat_4 (by decide) ?_
  refine r_icmp_eq 19 dX9_boat_6 (by decide) (fun q6 => ?_) (fun q6 => ?_)
  · skip
    refine r_iconst (v := (-1)) dX9_boat_19 (by decide) ?_
    exact r_iret dX9_boat_20 rfl (Nat.zero_le _) (Nat.zero_le _) ⟨_, rfl, by first | exact ⟨(if_pos (by (try simp only [b2i_eq0, b2i_ne0, decide_eq_true_eq] at *); (try simp only [mI, mA, sI_setA, sI_setQ, sI_setR, sA_setI, sA_setR, sA_setQ, fa_lt, fa_le, fa_eq, Int32.reduceToInt] at *); omega)).symm, (if_pos (by (try simp only [b2i_eq0, b2i_ne0, decide_eq_true_eq] at *); (try simp only [mI, mA, sI_setA, sI_setQ, sI_setR, sA_setI, sA_setR, sA_setQ, fa_lt, fa_le, fa_eq, Int32.reduceToInt] at *); omega)).symm⟩ | exact ⟨(if_neg (by (try simp only [b2i_eq0, b2i_ne0, decide_eq_true_eq] at *); (try simp only [mI, mA, sI_setA, sI_setQ, sI_setR, sA_setI, sA_setR, sA_setQ, fa_lt, fa_le, fa_eq, Int32.reduceToInt] at *); omega)).symm, (if_neg (by (try simp only [b2i_eq0, b2i_ne0, decide_eq_true_eq] at *); (try simp only [mI, mA, sI_setA, sI_setQ, sI_setR, sA_setI, sA_setR, sA_setQ, fa_lt, fa_le, fa_eq, Int32.reduceToInt] at *); omega)).symm⟩⟩
  · skip
    refine r_iload_n dX9_boat_9 rfl rfl ?_
    refine r_iconst (v := 0) dX9_boat_10 (by decide) ?_
    refine r_bipush (v := 60) dX9_boat_11 (by decide) ?_
    refine r_invS3i dX9_boat_13 lm_X9_129 (c_X9_in _ _ _ _) (Nat.le_of_ble_eq_true rfl) (Nat.le_of_ble_eq_true rfl) (Nat.zero_le _) (Nat.zero_le _) (fun r13 S13 hq13 => ?_)
    obtain ⟨rfl, hz13⟩ := hq13
    replace hz13 := hz13.symm
    subst hz13
    refine r_if_ne 21 dX9_boat_16 (by decide) (fun q16 => ?_) (fun q16 => ?_)
    · skip
      refine r_aload_n dX9_boat_21 rfl rfl ?_
      refine r_getR dX9_boat_22 lf_X9_17 rfl (by first | rfl | assumption) (shM_R h (j := 2) rfl) (shM_L h (j := 2) rfl) ?_
      refine r_aload_n dX9_boat_25 rfl rfl ?_
      refine r_getI dX9_boat_26 lf_X9_126 rfl (by first | rfl | assumption) ?_
      refine r_iload_n dX9_boat_29 rfl rfl ?_
      refine r_iast dX9_boat_30 (by first | rfl | assumption) (show vp_in _ 12 from vp_in_iff.mpr (by (try simp only [b2i_eq0, b2i_ne0, decide_eq_true_eq] at *); (try simp only [mI, mA, sI_setA, sI_setQ, sI_setR, sA_setI, sA_setR, sA_setQ, fa_lt, fa_le, fa_eq, Int32.reduceToInt] at *); omega)) ?_
      refine r_aload_n dX9_boat_31 rfl rfl ?_
      refine r_getR dX9_boat_32 lf_X9_20 rfl (by first | rfl | assumption) (shM_R h (j := 3) rfl) (shM_L h (j := 3) rfl) ?_
      refine r_aload_n dX9_boat_35 rfl rfl ?_
      refine r_getI dX9_boat_36 lf_X9_126 rfl (by first | rfl | assumption) ?_
      refine r_iconst (v := (-1)) dX9_boat_39 (by decide) ?_
      refine r_iast dX9_boat_40 (by first | rfl | assumption) (show vp_in _ 12 from vp_in_iff.mpr (by (try simp only [b2i_eq0, b2i_ne0, decide_eq_true_eq] at *); (try simp only [mI, mA, sI_setA, sI_setQ, sI_setR, sA_setI, sA_setR, sA_setQ, fa_lt, fa_le, fa_eq, Int32.reduceToInt] at *); omega)) ?_
      refine r_aload_n dX9_boat_41 rfl rfl ?_
      refine r_dup dX9_boat_42 rfl ?_
      refine r_getI dX9_boat_43 lf_X9_126 rfl (by first | rfl | assumption) ?_
      refine r_iconst (v := 1) dX9_boat_46 (by decide) ?_
      refine r_iadd dX9_boat_47 ?_
      refine r_putI dX9_boat_48 (lp_X9_126 _) rfl (by first | rfl | assumption) ?_
      refine r_aload_n dX9_boat_51 rfl rfl ?_
      refine r_getI dX9_boat_52 lf_X9_126 rfl (by first | rfl | assumption) ?_
      refine r_iconst (v := 1) dX9_boat_55 (by decide) ?_
      refine r_isub dX9_boat_56 ?_
      exact r_iret dX9_boat_57 rfl (Nat.zero_le _) (Nat.zero_le _) ⟨_, rfl, by first | exact ⟨(if_pos (by (try simp only [b2i_eq0, b2i_ne0, decide_eq_true_eq] at *); (try simp only [mI, mA, sI_setA, sI_setQ, sI_setR, sA_setI, sA_setR, sA_setQ, fa_lt, fa_le, fa_eq, Int32.reduceToInt] at *); omega)).symm, (if_pos (by (try simp only [b2i_eq0, b2i_ne0, decide_eq_true_eq] at *); (try simp only [mI, mA, sI_setA, sI_setQ, sI_setR, sA_setI, sA_setR, sA_setQ, fa_lt, fa_le, fa_eq, Int32.reduceToInt] at *); omega)).symm⟩ | exact ⟨(if_neg (by (try simp only [b2i_eq0, b2i_ne0, decide_eq_true_eq] at *); (try simp only [mI, mA, sI_setA, sI_setQ, sI_setR, sA_setI, sA_setR, sA_setQ, fa_lt, fa_le, fa_eq, Int32.reduceToInt] at *); omega)).symm, (if_neg (by (try simp only [b2i_eq0, b2i_ne0, decide_eq_true_eq] at *); (try simp only [mI, mA, sI_setA, sI_setQ, sI_setR, sA_setI, sA_setR, sA_setQ, fa_lt, fa_le, fa_eq, Int32.reduceToInt] at *); omega)).symm⟩⟩
    · skip
      refine r_iconst (v := (-1)) dX9_boat_19 (by decide) ?_
      exact r_iret dX9_boat_20 rfl (Nat.zero_le _) (Nat.zero_le _) ⟨_, rfl, by first | exact ⟨(if_pos (by (try simp only [b2i_eq0, b2i_ne0, decide_eq_true_eq] at *); (try simp only [mI, mA, sI_setA, sI_setQ, sI_setR, sA_setI, sA_setR, sA_setQ, fa_lt, fa_le, fa_eq, Int32.reduceToInt] at *); omega)).symm, (if_pos (by (try simp only [b2i_eq0, b2i_ne0, decide_eq_true_eq] at *); (try simp only [mI, mA, sI_setA, sI_setQ, sI_setR, sA_setI, sA_setR, sA_setQ, fa_lt, fa_le, fa_eq, Int32.reduceToInt] at *); omega)).symm⟩ | exact ⟨(if_neg (by (try simp only [b2i_eq0, b2i_ne0, decide_eq_true_eq] at *); (try simp only [mI, mA, sI_setA, sI_setQ, sI_setR, sA_setI, sA_setR, sA_setQ, fa_lt, fa_le, fa_eq, Int32.reduceToInt] at *); omega)).symm, (if_neg (by (try simp only [b2i_eq0, b2i_ne0, decide_eq_true_eq] at *); (try simp only [mI, mA, sI_setA, sI_setQ, sI_setR, sA_setI, sA_setR, sA_setQ, fa_lt, fa_le, fa_eq, Int32.reduceToInt] at *); omega)).symm⟩⟩
set_option maxHeartbeats 4000000 in
theorem c_X9_mend {l : Launch} {G : va_G} {cy : Nat → ClassId} (a w : Int32) (S : HS) (h : ShM S) (hb : 0 ≤ (mI S 25).toInt ∧ (mI S 25).toInt ≤ 12) : Cn l G cy yX9_mend cX9_mend 3 (some .int) 2 [.ref 2000, .int a, .int w] S 0 0 (qI (fun r S2 => (r = if (0 ≤ a.toInt ∧ a.toInt < (mI S 25).toInt ∧ 1 ≤ w.toInt ∧ w.toInt ≤ 60 ∧ (mA S 2 a.toNatClampNeg + w).toInt ≤ 60) then mA S 2 a.toNatClampNeg + w else -1) ∧ S2 = if (0 ≤ a.toInt ∧ a.toInt < (mI S 25).toInt ∧ 1 ≤ w.toInt ∧ w.toInt ≤ 60 ∧ (mA S 2 a.toNatClampNeg + w).toInt ≤ 60) then setA S (ma 2) (upd (mA S 2) a.toNatClampNeg (mA S 2 a.toNatClampNeg + w)) else S)) := by
  refine Cn.of [some (.ref 2000), some (.int a), some (.int w)] (by decide) rfl (Nat.le_of_ble_eq_true rfl) ?_
  refine r_aload_n dX9_mend_0 rfl rfl ?_
  refine r_iload_n dX9_mend_1 rfl rfl ?_
  refine r_invV1i dX9_mend_2 lm_X9_136 (by first | rfl | assumption) (c_X9_isBoat _ _ h hb) (Nat.le_of_ble_eq_true rfl) (Nat.le_of_ble_eq_true rfl) (Nat.zero_le _) (Nat.zero_le _) (fun r2 S2 hq2 => ?_)
  obtain ⟨rfl, hz2⟩ := hq2
  replace hz2 := hz2.symm
  subst hz2
  refine r_if_eq 31 dX9_mend_5 (by decide) (fun q5 => ?_) (fun q5 => ?_)
  · skip
    refine r_iconst (v := (-1)) dX9_mend_31 (by decide) ?_
    exact r_iret dX9_mend_32 rfl (Nat.zero_le _) (Nat.zero_le _) ⟨_, rfl, by first | exact ⟨(if_pos (by (try simp only [b2i_eq0, b2i_ne0, decide_eq_true_eq] at *); (try simp only [mI, mA, sI_setA, sI_setQ, sI_setR, sA_setI, sA_setR, sA_setQ, fa_lt, fa_le, fa_eq, Int32.reduceToInt] at *); omega)).symm, (if_pos (by (try simp only [b2i_eq0, b2i_ne0, decide_eq_true_eq] at *); (try simp only [mI, mA, sI_setA, sI_setQ, sI_setR, sA_setI, sA_setR, sA_setQ, fa_lt, fa_le, fa_eq, Int32.reduceToInt] at *); omega)).symm⟩ | exact ⟨(if_neg (by (try simp only [b2i_eq0, b2i_ne0, decide_eq_true_eq] at *); (try simp only [mI, mA, sI_setA, sI_setQ, sI_setR, sA_setI, sA_setR, sA_setQ, fa_lt, fa_le, fa_eq, Int32.reduceToInt] at *); omega)).symm, (if_neg (by (try simp only [b2i_eq0, b2i_ne0, decide_eq_true_eq] at *); (try simp only [mI, mA, sI_setA, sI_setQ, sI_setR, sA_setI, sA_setR, sA_setQ, fa_lt, fa_le, fa_eq, Int32.reduceToInt] at *); omega)).symm⟩⟩
  · skip
    refine r_iload_n dX9_mend_8 rfl rfl ?_
    refine r_iconst (v := 1) dX9_mend_9 (by decide) ?_
    refine r_bipush (v := 60) dX9_mend_10 (by decide) ?_
    refine r_invS3i dX9_mend_12 lm_X9_129 (c_X9_in _ _ _ _) (Nat.le_of_ble_eq_true rfl) (Nat.le_of_ble_eq_true rfl) (Nat.zero_le _) (Nat.zero_le _) (fun r12 S12 hq12 => ?_)
    obtain ⟨rfl, hz12⟩ := hq12
    replace hz12 := hz12.symm
    subst hz12
    refine r_if_eq 31 dX9_mend_15 (by decide) (fun q15 => ?_) (fun q15 => ?_)
    · skip
      refine r_iconst (v := (-1)) dX9_mend_31 (by decide) ?_
      exact r_iret dX9_mend_32 rfl (Nat.zero_le _) (Nat.zero_le _) ⟨_, rfl, by first | exact ⟨(if_pos (by (try simp only [b2i_eq0, b2i_ne0, decide_eq_true_eq] at *); (try simp only [mI, mA, sI_setA, sI_setQ, sI_setR, sA_setI, sA_setR, sA_setQ, fa_lt, fa_le, fa_eq, Int32.reduceToInt] at *); omega)).symm, (if_pos (by (try simp only [b2i_eq0, b2i_ne0, decide_eq_true_eq] at *); (try simp only [mI, mA, sI_setA, sI_setQ, sI_setR, sA_setI, sA_setR, sA_setQ, fa_lt, fa_le, fa_eq, Int32.reduceToInt] at *); omega)).symm⟩ | exact ⟨(if_neg (by (try simp only [b2i_eq0, b2i_ne0, decide_eq_true_eq] at *); (try simp only [mI, mA, sI_setA, sI_setQ, sI_setR, sA_setI, sA_setR, sA_setQ, fa_lt, fa_le, fa_eq, Int32.reduceToInt] at *); omega)).symm, (if_neg (by (try simp only [b2i_eq0, b2i_ne0, decide_eq_true_eq] at *); (try simp only [mI, mA, sI_setA, sI_setQ, sI_setR, sA_setI, sA_setR, sA_setQ, fa_lt, fa_le, fa_eq, Int32.reduceToInt] at *); omega)).symm⟩⟩
    · skip
      refine r_aload_n dX9_mend_18 rfl rfl ?_
      refine r_getR dX9_mend_19 lf_X9_17 rfl (by first | rfl | assumption) (shM_R h (j := 2) rfl) (shM_L h (j := 2) rfl) ?_
      refine r_iload_n dX9_mend_22 rfl rfl ?_
      refine r_iald dX9_mend_23 (by first | rfl | assumption) (show vp_in _ 12 from vp_in_iff.mpr (by (try simp only [b2i_eq0, b2i_ne0, decide_eq_true_eq] at *); (try simp only [mI, mA, sI_setA, sI_setQ, sI_setR, sA_setI, sA_setR, sA_setQ, fa_lt, fa_le, fa_eq, Int32.reduceToInt] at *); omega)) ?_
      refine r_iload_n dX9_mend_24 rfl rfl ?_
      refine r_iadd dX9_mend_25 ?_
      refine r_bipush (v := 60) dX9_mend_26 (by decide) ?_
      refine r_icmp_le 33 dX9_mend_28 (by decide) (fun q28 => ?_) (fun q28 => ?_)
      · skip
        refine r_aload_n dX9_mend_33 rfl rfl ?_
        refine r_getR dX9_mend_34 lf_X9_17 rfl (by first | rfl | assumption) (shM_R h (j := 2) rfl) (shM_L h (j := 2) rfl) ?_
        refine r_iload_n dX9_mend_37 rfl rfl ?_
        refine r_dup2 dX9_mend_38 rfl rfl ?_
        refine r_iald dX9_mend_39 (by first | rfl | assumption) (show vp_in _ 12 from vp_in_iff.mpr (by (try simp only [b2i_eq0, b2i_ne0, decide_eq_true_eq] at *); (try simp only [mI, mA, sI_setA, sI_setQ, sI_setR, sA_setI, sA_setR, sA_setQ, fa_lt, fa_le, fa_eq, Int32.reduceToInt] at *); omega)) ?_
        refine r_iload_n dX9_mend_40 rfl rfl ?_
        refine r_iadd dX9_mend_41 ?_
        refine r_iast dX9_mend_42 (by first | rfl | assumption) (show vp_in _ 12 from vp_in_iff.mpr (by (try simp only [b2i_eq0, b2i_ne0, decide_eq_true_eq] at *); (try simp only [mI, mA, sI_setA, sI_setQ, sI_setR, sA_setI, sA_setR, sA_setQ, fa_lt, fa_le, fa_eq, Int32.reduceToInt] at *); omega)) ?_
        refine r_aload_n dX9_mend_43 rfl rfl ?_
        refine r_getR dX9_mend_44 lf_X9_17 rfl (by first | rfl | assumption) (shM_R h (j := 2) rfl) (shM_L h (j := 2) rfl) ?_
        refine r_iload_n dX9_mend_47 rfl rfl ?_
        refine r_iald dX9_mend_48 (by first | rfl | assumption) (show vp_in _ 12 from vp_in_iff.mpr (by (try simp only [b2i_eq0, b2i_ne0, decide_eq_true_eq] at *); (try simp only [mI, mA, sI_setA, sI_setQ, sI_setR, sA_setI, sA_setR, sA_setQ, fa_lt, fa_le, fa_eq, Int32.reduceToInt] at *); omega)) ?_
        exact r_iret dX9_mend_49 rfl (Nat.zero_le _) (Nat.zero_le _) ⟨_, rfl, ⟨by rw [if_pos (by (try simp only [b2i_eq0, b2i_ne0, decide_eq_true_eq] at *); (try simp only [mI, mA, sI_setA, sI_setQ, sI_setR, sA_setI, sA_setR, sA_setQ, fa_lt, fa_le, fa_eq, Int32.reduceToInt] at *); omega), sA_setA, va_up_self, pk_us], (if_pos (by (try simp only [b2i_eq0, b2i_ne0, decide_eq_true_eq] at *); (try simp only [mI, mA, sI_setA, sI_setQ, sI_setR, sA_setI, sA_setR, sA_setQ, fa_lt, fa_le, fa_eq, Int32.reduceToInt] at *); omega)).symm⟩⟩
      · skip
        refine r_iconst (v := (-1)) dX9_mend_31 (by decide) ?_
        exact r_iret dX9_mend_32 rfl (Nat.zero_le _) (Nat.zero_le _) ⟨_, rfl, by first | exact ⟨(if_pos (by (try simp only [b2i_eq0, b2i_ne0, decide_eq_true_eq] at *); (try simp only [mI, mA, sI_setA, sI_setQ, sI_setR, sA_setI, sA_setR, sA_setQ, fa_lt, fa_le, fa_eq, Int32.reduceToInt] at *); omega)).symm, (if_pos (by (try simp only [b2i_eq0, b2i_ne0, decide_eq_true_eq] at *); (try simp only [mI, mA, sI_setA, sI_setQ, sI_setR, sA_setI, sA_setR, sA_setQ, fa_lt, fa_le, fa_eq, Int32.reduceToInt] at *); omega)).symm⟩ | exact ⟨(if_neg (by (try simp only [b2i_eq0, b2i_ne0, decide_eq_true_eq] at *); (try simp only [mI, mA, sI_setA, sI_setQ, sI_setR, sA_setI, sA_setR, sA_setQ, fa_lt, fa_le, fa_eq, Int32.reduceToInt] at *); omega)).symm, (if_neg (by (try simp only [b2i_eq0, b2i_ne0, decide_eq_true_eq] at *); (try simp only [mI, mA, sI_setA, sI_setQ, sI_setR, sA_setI, sA_setR, sA_setQ, fa_lt, fa_le, fa_eq, Int32.reduceToInt] at *); omega)).symm⟩⟩
set_option maxHeartbeats 4000000 in
theorem c_X9_yard {l : Launch} {G : va_G} {cy : Nat → ClassId} (a w : Int32) (S : HS) (h : ShM S) (hy : 0 ≤ (mI S 26).toInt ∧ (mI S 26).toInt ≤ 4) : Cn l G cy yX9_yard cX9_yard 3 (some .int) 1 [.ref 2000, .int a, .int w] S 0 0 (qI (fun r S2 => (r = if (¬ (mI S 26).toInt = 4 ∧ (1 ≤ a.toInt ∧ a.toInt ≤ 6) ∧ 1 ≤ w.toInt ∧ w.toInt ≤ 500) then mI S 26 + 1 - 1 else -1) ∧ S2 = if (¬ (mI S 26).toInt = 4 ∧ (1 ≤ a.toInt ∧ a.toInt ≤ 6) ∧ 1 ≤ w.toInt ∧ w.toInt ≤ 500) then setI (setA (setA S (ma 10) (upd (mA S 10) (mI S 26).toNatClampNeg a)) (ma 11) (upd (mA S 11) (mI S 26).toNatClampNeg w)) (fid 9 26) 2000 (mI S 26 + 1) else S)) := by
  refine Cn.of [some (.ref 2000), some (.int a), some (.int w)] (by decide) rfl (Nat.le_of_ble_eq_true rfl) ?_
  refine r_aload_n dX9_yard_0 rfl rfl ?_
  refine r_getI dX9_yard_1 lf_X9_140 rfl (by first | rfl | assumption) ?_
  refine r_iconst (v := 4) dX9_yard_4 (by decide) ?_
  refine r_icmp_eq 29 dX9_yard_5 (by decide) (fun q5 => ?_) (fun q5 => ?_)
  · skip
    refine r_iconst (v := (-1)) dX9_yard_29 (by decide) ?_
    exact r_iret dX9_yard_30 rfl (Nat.zero_le _) (Nat.zero_le _) ⟨_, rfl, by first | exact ⟨(if_pos (by (try simp only [b2i_eq0, b2i_ne0, decide_eq_true_eq] at *); (try simp only [mI, mA, sI_setA, sI_setQ, sI_setR, sA_setI, sA_setR, sA_setQ, fa_lt, fa_le, fa_eq, Int32.reduceToInt] at *); omega)).symm, (if_pos (by (try simp only [b2i_eq0, b2i_ne0, decide_eq_true_eq] at *); (try simp only [mI, mA, sI_setA, sI_setQ, sI_setR, sA_setI, sA_setR, sA_setQ, fa_lt, fa_le, fa_eq, Int32.reduceToInt] at *); omega)).symm⟩ | exact ⟨(if_neg (by (try simp only [b2i_eq0, b2i_ne0, decide_eq_true_eq] at *); (try simp only [mI, mA, sI_setA, sI_setQ, sI_setR, sA_setI, sA_setR, sA_setQ, fa_lt, fa_le, fa_eq, Int32.reduceToInt] at *); omega)).symm, (if_neg (by (try simp only [b2i_eq0, b2i_ne0, decide_eq_true_eq] at *); (try simp only [mI, mA, sI_setA, sI_setQ, sI_setR, sA_setI, sA_setR, sA_setQ, fa_lt, fa_le, fa_eq, Int32.reduceToInt] at *); omega)).symm⟩⟩
  · skip
    refine r_iload_n dX9_yard_8 rfl rfl ?_
    refine r_iconst (v := 1) dX9_yard_9 (by decide) ?_
    refine r_bipush (v := 6) dX9_yard_10 (by decide) ?_
    refine r_invS3i dX9_yard_12 lm_X9_129 (c_X9_in _ _ _ _) (Nat.le_of_ble_eq_true rfl) (Nat.le_of_ble_eq_true rfl) (Nat.zero_le _) (Nat.zero_le _) (fun r12 S12 hq12 => ?_)
    obtain ⟨rfl, hz12⟩ := hq12
    replace hz12 := hz12.symm
    subst hz12
    refine r_if_eq 29 dX9_yard_15 (by decide) (fun q15 => ?_) (fun q15 => ?_)
    · skip
      refine r_iconst (v := (-1)) dX9_yard_29 (by decide) ?_
      exact r_iret dX9_yard_30 rfl (Nat.zero_le _) (Nat.zero_le _) ⟨_, rfl, by first | exact ⟨(if_pos (by (try simp only [b2i_eq0, b2i_ne0, decide_eq_true_eq] at *); (try simp only [mI, mA, sI_setA, sI_setQ, sI_setR, sA_setI, sA_setR, sA_setQ, fa_lt, fa_le, fa_eq, Int32.reduceToInt] at *); omega)).symm, (if_pos (by (try simp only [b2i_eq0, b2i_ne0, decide_eq_true_eq] at *); (try simp only [mI, mA, sI_setA, sI_setQ, sI_setR, sA_setI, sA_setR, sA_setQ, fa_lt, fa_le, fa_eq, Int32.reduceToInt] at *); omega)).symm⟩ | exact ⟨(if_neg (by (try simp only [b2i_eq0, b2i_ne0, decide_eq_true_eq] at *); (try simp only [mI, mA, sI_setA, sI_setQ, sI_setR, sA_setI, sA_setR, sA_setQ, fa_lt, fa_le, fa_eq, Int32.reduceToInt] at *); omega)).symm, (if_neg (by (try simp only [b2i_eq0, b2i_ne0, decide_eq_true_eq] at *); (try simp only [mI, mA, sI_setA, sI_setQ, sI_setR, sA_setI, sA_setR, sA_setQ, fa_lt, fa_le, fa_eq, Int32.reduceToInt] at *); omega)).symm⟩⟩
    · skip
      refine r_iload_n dX9_yard_18 rfl rfl ?_
      refine r_iconst (v := 1) dX9_yard_19 (by decide) ?_
      refine r_sipush (v := 500) dX9_yard_20 (by decide) ?_
      refine r_invS3i dX9_yard_23 lm_X9_129 (c_X9_in _ _ _ _) (Nat.le_of_ble_eq_true rfl) (Nat.le_of_ble_eq_true rfl) (Nat.zero_le _) (Nat.zero_le _) (fun r23 S23 hq23 => ?_)
      obtain ⟨rfl, hz23⟩ := hq23
      replace hz23 := hz23.symm
      subst hz23
      refine r_if_ne 31 dX9_yard_26 (by decide) (fun q26 => ?_) (fun q26 => ?_)
      · skip
        refine r_aload_n dX9_yard_31 rfl rfl ?_
        refine r_getR dX9_yard_32 lf_X9_41 rfl (by first | rfl | assumption) (shM_R h (j := 10) rfl) (shM_L h (j := 10) rfl) ?_
        refine r_aload_n dX9_yard_35 rfl rfl ?_
        refine r_getI dX9_yard_36 lf_X9_140 rfl (by first | rfl | assumption) ?_
        refine r_iload_n dX9_yard_39 rfl rfl ?_
        refine r_iast dX9_yard_40 (by first | rfl | assumption) (show vp_in _ 4 from vp_in_iff.mpr (by (try simp only [b2i_eq0, b2i_ne0, decide_eq_true_eq] at *); (try simp only [mI, mA, sI_setA, sI_setQ, sI_setR, sA_setI, sA_setR, sA_setQ, fa_lt, fa_le, fa_eq, Int32.reduceToInt] at *); omega)) ?_
        refine r_aload_n dX9_yard_41 rfl rfl ?_
        refine r_getR dX9_yard_42 lf_X9_44 rfl (by first | rfl | assumption) (shM_R h (j := 11) rfl) (shM_L h (j := 11) rfl) ?_
        refine r_aload_n dX9_yard_45 rfl rfl ?_
        refine r_getI dX9_yard_46 lf_X9_140 rfl (by first | rfl | assumption) ?_
        refine r_iload_n dX9_yard_49 rfl rfl ?_
        refine r_iast dX9_yard_50 (by first | rfl | assumption) (show vp_in _ 4 from vp_in_iff.mpr (by (try simp only [b2i_eq0, b2i_ne0, decide_eq_true_eq] at *); (try simp only [mI, mA, sI_setA, sI_setQ, sI_setR, sA_setI, sA_setR, sA_setQ, fa_lt, fa_le, fa_eq, Int32.reduceToInt] at *); omega)) ?_
        refine r_aload_n dX9_yard_51 rfl rfl ?_
        refine r_dup dX9_yard_52 rfl ?_
        refine r_getI dX9_yard_53 lf_X9_140 rfl (by first | rfl | assumption) ?_
        refine r_iconst (v := 1) dX9_yard_56 (by decide) ?_
        refine r_iadd dX9_yard_57 ?_
        refine r_putI dX9_yard_58 (lp_X9_140 _) rfl (by first | rfl | assumption) ?_
        refine r_aload_n dX9_yard_61 rfl rfl ?_
        refine r_getI dX9_yard_62 lf_X9_140 rfl (by first | rfl | assumption) ?_
        refine r_iconst (v := 1) dX9_yard_65 (by decide) ?_
        refine r_isub dX9_yard_66 ?_
        exact r_iret dX9_yard_67 rfl (Nat.zero_le _) (Nat.zero_le _) ⟨_, rfl, by first | exact ⟨(if_pos (by (try simp only [b2i_eq0, b2i_ne0, decide_eq_true_eq] at *); (try simp only [mI, mA, sI_setA, sI_setQ, sI_setR, sA_setI, sA_setR, sA_setQ, fa_lt, fa_le, fa_eq, Int32.reduceToInt] at *); omega)).symm, (if_pos (by (try simp only [b2i_eq0, b2i_ne0, decide_eq_true_eq] at *); (try simp only [mI, mA, sI_setA, sI_setQ, sI_setR, sA_setI, sA_setR, sA_setQ, fa_lt, fa_le, fa_eq, Int32.reduceToInt] at *); omega)).symm⟩ | exact ⟨(if_neg (by (try simp only [b2i_eq0, b2i_ne0, decide_eq_true_eq] at *); (try simp only [mI, mA, sI_setA, sI_setQ, sI_setR, sA_setI, sA_setR, sA_setQ, fa_lt, fa_le, fa_eq, Int32.reduceToInt] at *); omega)).symm, (if_neg (by (try simp only [b2i_eq0, b2i_ne0, decide_eq_true_eq] at *); (try simp only [mI, mA, sI_setA, sI_setQ, sI_setR, sA_setI, sA_setR, sA_setQ, fa_lt, fa_le, fa_eq, Int32.reduceToInt] at *); omega)).symm⟩⟩
      · skip
        refine r_iconst (v := (-1)) dX9_yard_29 (by decide) ?_
        exact r_iret dX9_yard_30 rfl (Nat.zero_le _) (Nat.zero_le _) ⟨_, rfl, by first | exact ⟨(if_pos (by (try simp only [b2i_eq0, b2i_ne0, decide_eq_true_eq] at *); (try simp only [mI, mA, sI_setA, sI_setQ, sI_setR, sA_setI, sA_setR, sA_setQ, fa_lt, fa_le, fa_eq, Int32.reduceToInt] at *); omega)).symm, (if_pos (by (try simp only [b2i_eq0, b2i_ne0, decide_eq_true_eq] at *); (try simp only [mI, mA, sI_setA, sI_setQ, sI_setR, sA_setI, sA_setR, sA_setQ, fa_lt, fa_le, fa_eq, Int32.reduceToInt] at *); omega)).symm⟩ | exact ⟨(if_neg (by (try simp only [b2i_eq0, b2i_ne0, decide_eq_true_eq] at *); (try simp only [mI, mA, sI_setA, sI_setQ, sI_setR, sA_setI, sA_setR, sA_setQ, fa_lt, fa_le, fa_eq, Int32.reduceToInt] at *); omega)).symm, (if_neg (by (try simp only [b2i_eq0, b2i_ne0, decide_eq_true_eq] at *); (try simp only [mI, mA, sI_setA, sI_setQ, sI_setR, sA_setI, sA_setR, sA_setQ, fa_lt, fa_le, fa_eq, Int32.reduceToInt] at *); omega)).symm⟩⟩
set_option maxHeartbeats 4000000 in
theorem c_X9_bid {l : Launch} {G : va_G} {cy : Nat → ClassId} (a w : Int32) (S : HS) (h : ShM S) (hy : 0 ≤ (mI S 26).toInt ∧ (mI S 26).toInt ≤ 4) : Cn l G cy yX9_bid cX9_bid 3 (some .boolean) 1 [.ref 2000, .int a, .int w] S 0 0 (qI (fun r S2 => r = b2i (0 ≤ a.toInt ∧ a.toInt < (mI S 26).toInt ∧ 0 ≤ w.toInt ∧ w.toInt ≤ 100) ∧ S2 = if (0 ≤ a.toInt ∧ a.toInt < (mI S 26).toInt ∧ 0 ≤ w.toInt ∧ w.toInt ≤ 100) then setA S (ma 12) (upd (mA S 12) a.toNatClampNeg w) else S)) := by
  refine Cn.of [some (.ref 2000), some (.int a), some (.int w)] (by decide) rfl (Nat.le_of_ble_eq_true rfl) ?_
  have hy1 : (mI S 26 - 1).toInt = (mI S 26).toInt - 1 := by rw [fb_subI] <;> simp only [Int32.reduceToInt] <;> omega
  refine r_iload_n dX9_bid_0 rfl rfl ?_
  refine r_iconst (v := 0) dX9_bid_1 (by decide) ?_
  refine r_aload_n dX9_bid_2 rfl rfl ?_
  refine r_getI dX9_bid_3 lf_X9_140 rfl (by first | rfl | assumption) ?_
  refine r_iconst (v := 1) dX9_bid_6 (by decide) ?_
  refine r_isub dX9_bid_7 ?_
  refine r_invS3i dX9_bid_8 lm_X9_129 (c_X9_in _ _ _ _) (Nat.le_of_ble_eq_true rfl) (Nat.le_of_ble_eq_true rfl) (Nat.zero_le _) (Nat.zero_le _) (fun r8 S8 hq8 => ?_)
  obtain ⟨rfl, hz8⟩ := hq8
  replace hz8 := hz8.symm
  subst hz8
  refine r_if_eq 24 dX9_bid_11 (by decide) (fun q11 => ?_) (fun q11 => ?_)
  · skip
    refine r_iconst (v := 0) dX9_bid_24 (by decide) ?_
    exact r_zret dX9_bid_25 rfl rfl (Nat.zero_le _) (Nat.zero_le _) ⟨_, rfl, by first | exact ⟨(b2i_t (by (try simp only [b2i_eq0, b2i_ne0, decide_eq_true_eq] at *); (try simp only [mI, mA, sI_setA, sI_setQ, sI_setR, sA_setI, sA_setR, sA_setQ, fa_lt, fa_le, fa_eq, Int32.reduceToInt] at *); omega)).symm, (if_pos (by (try simp only [b2i_eq0, b2i_ne0, decide_eq_true_eq] at *); (try simp only [mI, mA, sI_setA, sI_setQ, sI_setR, sA_setI, sA_setR, sA_setQ, fa_lt, fa_le, fa_eq, Int32.reduceToInt] at *); omega)).symm⟩ | exact ⟨(b2i_f (by (try simp only [b2i_eq0, b2i_ne0, decide_eq_true_eq] at *); (try simp only [mI, mA, sI_setA, sI_setQ, sI_setR, sA_setI, sA_setR, sA_setQ, fa_lt, fa_le, fa_eq, Int32.reduceToInt] at *); omega)).symm, (if_neg (by (try simp only [b2i_eq0, b2i_ne0, decide_eq_true_eq] at *); (try simp only [mI, mA, sI_setA, sI_setQ, sI_setR, sA_setI, sA_setR, sA_setQ, fa_lt, fa_le, fa_eq, Int32.reduceToInt] at *); omega)).symm⟩⟩
  · skip
    refine r_iload_n dX9_bid_14 rfl rfl ?_
    refine r_iconst (v := 0) dX9_bid_15 (by decide) ?_
    refine r_bipush (v := 100) dX9_bid_16 (by decide) ?_
    refine r_invS3i dX9_bid_18 lm_X9_129 (c_X9_in _ _ _ _) (Nat.le_of_ble_eq_true rfl) (Nat.le_of_ble_eq_true rfl) (Nat.zero_le _) (Nat.zero_le _) (fun r18 S18 hq18 => ?_)
    obtain ⟨rfl, hz18⟩ := hq18
    replace hz18 := hz18.symm
    subst hz18
    refine r_if_ne 26 dX9_bid_21 (by decide) (fun q21 => ?_) (fun q21 => ?_)
    · skip
      refine r_aload_n dX9_bid_26 rfl rfl ?_
      refine r_getR dX9_bid_27 lf_X9_47 rfl (by first | rfl | assumption) (shM_R h (j := 12) rfl) (shM_L h (j := 12) rfl) ?_
      refine r_iload_n dX9_bid_30 rfl rfl ?_
      refine r_iload_n dX9_bid_31 rfl rfl ?_
      refine r_iast dX9_bid_32 (by first | rfl | assumption) (show vp_in _ 4 from vp_in_iff.mpr (by (try simp only [b2i_eq0, b2i_ne0, decide_eq_true_eq] at *); (try simp only [mI, mA, sI_setA, sI_setQ, sI_setR, sA_setI, sA_setR, sA_setQ, fa_lt, fa_le, fa_eq, Int32.reduceToInt] at *); omega)) ?_
      refine r_iconst (v := 1) dX9_bid_33 (by decide) ?_
      exact r_zret dX9_bid_34 rfl rfl (Nat.zero_le _) (Nat.zero_le _) ⟨_, rfl, by first | exact ⟨(b2i_t (by (try simp only [b2i_eq0, b2i_ne0, decide_eq_true_eq] at *); (try simp only [mI, mA, sI_setA, sI_setQ, sI_setR, sA_setI, sA_setR, sA_setQ, fa_lt, fa_le, fa_eq, Int32.reduceToInt] at *); omega)).symm, (if_pos (by (try simp only [b2i_eq0, b2i_ne0, decide_eq_true_eq] at *); (try simp only [mI, mA, sI_setA, sI_setQ, sI_setR, sA_setI, sA_setR, sA_setQ, fa_lt, fa_le, fa_eq, Int32.reduceToInt] at *); omega)).symm⟩ | exact ⟨(b2i_f (by (try simp only [b2i_eq0, b2i_ne0, decide_eq_true_eq] at *); (try simp only [mI, mA, sI_setA, sI_setQ, sI_setR, sA_setI, sA_setR, sA_setQ, fa_lt, fa_le, fa_eq, Int32.reduceToInt] at *); omega)).symm, (if_neg (by (try simp only [b2i_eq0, b2i_ne0, decide_eq_true_eq] at *); (try simp only [mI, mA, sI_setA, sI_setQ, sI_setR, sA_setI, sA_setR, sA_setQ, fa_lt, fa_le, fa_eq, Int32.reduceToInt] at *); omega)).symm⟩⟩
    · skip
      refine r_iconst (v := 0) dX9_bid_24 (by decide) ?_
      exact r_zret dX9_bid_25 rfl rfl (Nat.zero_le _) (Nat.zero_le _) ⟨_, rfl, by first | exact ⟨(b2i_t (by (try simp only [b2i_eq0, b2i_ne0, decide_eq_true_eq] at *); (try simp only [mI, mA, sI_setA, sI_setQ, sI_setR, sA_setI, sA_setR, sA_setQ, fa_lt, fa_le, fa_eq, Int32.reduceToInt] at *); omega)).symm, (if_pos (by (try simp only [b2i_eq0, b2i_ne0, decide_eq_true_eq] at *); (try simp only [mI, mA, sI_setA, sI_setQ, sI_setR, sA_setI, sA_setR, sA_setQ, fa_lt, fa_le, fa_eq, Int32.reduceToInt] at *); omega)).symm⟩ | exact ⟨(b2i_f (by (try simp only [b2i_eq0, b2i_ne0, decide_eq_true_eq] at *); (try simp only [mI, mA, sI_setA, sI_setQ, sI_setR, sA_setI, sA_setR, sA_setQ, fa_lt, fa_le, fa_eq, Int32.reduceToInt] at *); omega)).symm, (if_neg (by (try simp only [b2i_eq0, b2i_ne0, decide_eq_true_eq] at *); (try simp only [mI, mA, sI_setA, sI_setQ, sI_setR, sA_setI, sA_setR, sA_setQ, fa_lt, fa_le, fa_eq, Int32.reduceToInt] at *); omega)).symm⟩⟩
set_option maxHeartbeats 4000000 in
theorem c_X9_share {l : Launch} {G : va_G} {cy : Nat → ClassId} (a w z : Int32) (S : HS) (h : ShM S) (hb : 0 ≤ (mI S 25).toInt ∧ (mI S 25).toInt ≤ 12) : Cn l G cy yX9_share cX9_share 4 (some .boolean) 2 [.ref 2000, .int a, .int w, .int z] S 0 0 (qI (fun r S2 => r = b2i (0 ≤ a.toInt ∧ a.toInt < (mI S 25).toInt ∧ (0 ≤ w.toInt ∧ w.toInt ≤ 7) ∧ 0 ≤ z.toInt ∧ z.toInt ≤ 100) ∧ S2 = if (0 ≤ a.toInt ∧ a.toInt < (mI S 25).toInt ∧ (0 ≤ w.toInt ∧ w.toInt ≤ 7) ∧ 0 ≤ z.toInt ∧ z.toInt ≤ 100) then setA S (ma 8) (upd (mA S 8) (8 * a + w).toNatClampNeg z) else S)) := by
  refine Cn.of [some (.ref 2000), some (.int a), some (.int w), some (.int z)] (by decide) rfl (Nat.le_of_ble_eq_true rfl) ?_
  refine r_aload_n dX9_share_0 rfl rfl ?_
  refine r_iload_n dX9_share_1 rfl rfl ?_
  refine r_invV1i dX9_share_2 lm_X9_136 (by first | rfl | assumption) (c_X9_isBoat _ _ h hb) (Nat.le_of_ble_eq_true rfl) (Nat.le_of_ble_eq_true rfl) (Nat.zero_le _) (Nat.zero_le _) (fun r2 S2 hq2 => ?_)
  obtain ⟨rfl, hz2⟩ := hq2
  replace hz2 := hz2.symm
  subst hz2
  refine r_if_eq 28 dX9_share_5 (by decide) (fun q5 => ?_) (fun q5 => ?_)
  · skip
    refine r_iconst (v := 0) dX9_share_28 (by decide) ?_
    exact r_zret dX9_share_29 rfl rfl (Nat.zero_le _) (Nat.zero_le _) ⟨_, rfl, by first | exact ⟨(b2i_t (by (try simp only [b2i_eq0, b2i_ne0, decide_eq_true_eq] at *); (try simp only [mI, mA, sI_setA, sI_setQ, sI_setR, sA_setI, sA_setR, sA_setQ, fa_lt, fa_le, fa_eq, Int32.reduceToInt] at *); omega)).symm, (if_pos (by (try simp only [b2i_eq0, b2i_ne0, decide_eq_true_eq] at *); (try simp only [mI, mA, sI_setA, sI_setQ, sI_setR, sA_setI, sA_setR, sA_setQ, fa_lt, fa_le, fa_eq, Int32.reduceToInt] at *); omega)).symm⟩ | exact ⟨(b2i_f (by (try simp only [b2i_eq0, b2i_ne0, decide_eq_true_eq] at *); (try simp only [mI, mA, sI_setA, sI_setQ, sI_setR, sA_setI, sA_setR, sA_setQ, fa_lt, fa_le, fa_eq, Int32.reduceToInt] at *); omega)).symm, (if_neg (by (try simp only [b2i_eq0, b2i_ne0, decide_eq_true_eq] at *); (try simp only [mI, mA, sI_setA, sI_setQ, sI_setR, sA_setI, sA_setR, sA_setQ, fa_lt, fa_le, fa_eq, Int32.reduceToInt] at *); omega)).symm⟩⟩
  · skip
    refine r_iload_n dX9_share_8 rfl rfl ?_
    refine r_iconst (v := 0) dX9_share_9 (by decide) ?_
    refine r_bipush (v := 7) dX9_share_10 (by decide) ?_
    refine r_invS3i dX9_share_12 lm_X9_129 (c_X9_in _ _ _ _) (Nat.le_of_ble_eq_true rfl) (Nat.le_of_ble_eq_true rfl) (Nat.zero_le _) (Nat.zero_le _) (fun r12 S12 hq12 => ?_)
    obtain ⟨rfl, hz12⟩ := hq12
    replace hz12 := hz12.symm
    subst hz12
    refine r_if_eq 28 dX9_share_15 (by decide) (fun q15 => ?_) (fun q15 => ?_)
    · skip
      refine r_iconst (v := 0) dX9_share_28 (by decide) ?_
      exact r_zret dX9_share_29 rfl rfl (Nat.zero_le _) (Nat.zero_le _) ⟨_, rfl, by first | exact ⟨(b2i_t (by (try simp only [b2i_eq0, b2i_ne0, decide_eq_true_eq] at *); (try simp only [mI, mA, sI_setA, sI_setQ, sI_setR, sA_setI, sA_setR, sA_setQ, fa_lt, fa_le, fa_eq, Int32.reduceToInt] at *); omega)).symm, (if_pos (by (try simp only [b2i_eq0, b2i_ne0, decide_eq_true_eq] at *); (try simp only [mI, mA, sI_setA, sI_setQ, sI_setR, sA_setI, sA_setR, sA_setQ, fa_lt, fa_le, fa_eq, Int32.reduceToInt] at *); omega)).symm⟩ | exact ⟨(b2i_f (by (try simp only [b2i_eq0, b2i_ne0, decide_eq_true_eq] at *); (try simp only [mI, mA, sI_setA, sI_setQ, sI_setR, sA_setI, sA_setR, sA_setQ, fa_lt, fa_le, fa_eq, Int32.reduceToInt] at *); omega)).symm, (if_neg (by (try simp only [b2i_eq0, b2i_ne0, decide_eq_true_eq] at *); (try simp only [mI, mA, sI_setA, sI_setQ, sI_setR, sA_setI, sA_setR, sA_setQ, fa_lt, fa_le, fa_eq, Int32.reduceToInt] at *); omega)).symm⟩⟩
    · skip
      refine r_iload_n dX9_share_18 rfl rfl ?_
      refine r_iconst (v := 0) dX9_share_19 (by decide) ?_
      refine r_bipush (v := 100) dX9_share_20 (by decide) ?_
      refine r_invS3i dX9_share_22 lm_X9_129 (c_X9_in _ _ _ _) (Nat.le_of_ble_eq_true rfl) (Nat.le_of_ble_eq_true rfl) (Nat.zero_le _) (Nat.zero_le _) (fun r22 S22 hq22 => ?_)
      obtain ⟨rfl, hz22⟩ := hq22
      replace hz22 := hz22.symm
      subst hz22
      refine r_if_ne 30 dX9_share_25 (by decide) (fun q25 => ?_) (fun q25 => ?_)
      · skip
        refine r_aload_n dX9_share_30 rfl rfl ?_
        refine r_getR dX9_share_31 lf_X9_35 rfl (by first | rfl | assumption) (shM_R h (j := 8) rfl) (shM_L h (j := 8) rfl) ?_
        refine r_bipush (v := 8) dX9_share_34 (by decide) ?_
        refine r_iload_n dX9_share_36 rfl rfl ?_
        refine r_imul dX9_share_37 ?_
        refine r_iload_n dX9_share_38 rfl rfl ?_
        refine r_iadd dX9_share_39 ?_
        refine r_iload_n dX9_share_40 rfl rfl ?_
        refine r_iast dX9_share_41 (by first | rfl | assumption) (show vp_in _ 96 from ix8in hb.2 (by (try simp only [b2i_eq0, b2i_ne0, decide_eq_true_eq] at *); (try simp only [mI, mA, sI_setA, sI_setQ, sI_setR, sA_setI, sA_setR, sA_setQ, fa_lt, fa_le, fa_eq, Int32.reduceToInt] at *); omega) (by (try simp only [b2i_eq0, b2i_ne0, decide_eq_true_eq] at *); (try simp only [mI, mA, sI_setA, sI_setQ, sI_setR, sA_setI, sA_setR, sA_setQ, fa_lt, fa_le, fa_eq, Int32.reduceToInt] at *); omega)) ?_
        refine r_iconst (v := 1) dX9_share_42 (by decide) ?_
        exact r_zret dX9_share_43 rfl rfl (Nat.zero_le _) (Nat.zero_le _) ⟨_, rfl, by first | exact ⟨(b2i_t (by (try simp only [b2i_eq0, b2i_ne0, decide_eq_true_eq] at *); (try simp only [mI, mA, sI_setA, sI_setQ, sI_setR, sA_setI, sA_setR, sA_setQ, fa_lt, fa_le, fa_eq, Int32.reduceToInt] at *); omega)).symm, (if_pos (by (try simp only [b2i_eq0, b2i_ne0, decide_eq_true_eq] at *); (try simp only [mI, mA, sI_setA, sI_setQ, sI_setR, sA_setI, sA_setR, sA_setQ, fa_lt, fa_le, fa_eq, Int32.reduceToInt] at *); omega)).symm⟩ | exact ⟨(b2i_f (by (try simp only [b2i_eq0, b2i_ne0, decide_eq_true_eq] at *); (try simp only [mI, mA, sI_setA, sI_setQ, sI_setR, sA_setI, sA_setR, sA_setQ, fa_lt, fa_le, fa_eq, Int32.reduceToInt] at *); omega)).symm, (if_neg (by (try simp only [b2i_eq0, b2i_ne0, decide_eq_true_eq] at *); (try simp only [mI, mA, sI_setA, sI_setQ, sI_setR, sA_setI, sA_setR, sA_setQ, fa_lt, fa_le, fa_eq, Int32.reduceToInt] at *); omega)).symm⟩⟩
      · skip
        refine r_iconst (v := 0) dX9_share_28 (by decide) ?_
        exact r_zret dX9_share_29 rfl rfl (Nat.zero_le _) (Nat.zero_le _) ⟨_, rfl, by first | exact ⟨(b2i_t (by (try simp only [b2i_eq0, b2i_ne0, decide_eq_true_eq] at *); (try simp only [mI, mA, sI_setA, sI_setQ, sI_setR, sA_setI, sA_setR, sA_setQ, fa_lt, fa_le, fa_eq, Int32.reduceToInt] at *); omega)).symm, (if_pos (by (try simp only [b2i_eq0, b2i_ne0, decide_eq_true_eq] at *); (try simp only [mI, mA, sI_setA, sI_setQ, sI_setR, sA_setI, sA_setR, sA_setQ, fa_lt, fa_le, fa_eq, Int32.reduceToInt] at *); omega)).symm⟩ | exact ⟨(b2i_f (by (try simp only [b2i_eq0, b2i_ne0, decide_eq_true_eq] at *); (try simp only [mI, mA, sI_setA, sI_setQ, sI_setR, sA_setI, sA_setR, sA_setQ, fa_lt, fa_le, fa_eq, Int32.reduceToInt] at *); omega)).symm, (if_neg (by (try simp only [b2i_eq0, b2i_ne0, decide_eq_true_eq] at *); (try simp only [mI, mA, sI_setA, sI_setQ, sI_setR, sA_setI, sA_setR, sA_setQ, fa_lt, fa_le, fa_eq, Int32.reduceToInt] at *); omega)).symm⟩⟩
set_option maxHeartbeats 4000000 in
theorem c_X9_coins {l : Launch} {G : va_G} {cy : Nat → ClassId} (a w : Int32) (S : HS) (h : ShM S) (hb : 0 ≤ (mI S 25).toInt ∧ (mI S 25).toInt ≤ 12) : Cn l G cy yX9_coins cX9_coins 3 (some .int) 2 [.ref 2000, .int a, .int w] S 0 0 (qI (fun r S2 => (r = if (0 ≤ a.toInt ∧ a.toInt < (mI S 25).toInt ∧ 0 ≤ w.toInt ∧ w.toInt ≤ 7) then mA S 9 (8 * a + w).toNatClampNeg else 0) ∧ S2 = S)) := by
  refine Cn.of [some (.ref 2000), some (.int a), some (.int w)] (by decide) rfl (Nat.le_of_ble_eq_true rfl) ?_
  refine r_aload_n dX9_coins_0 rfl rfl ?_
  refine r_iload_n dX9_coins_1 rfl rfl ?_
  refine r_invV1i dX9_coins_2 lm_X9_136 (by first | rfl | assumption) (c_X9_isBoat _ _ h hb) (Nat.le_of_ble_eq_true rfl) (Nat.le_of_ble_eq_true rfl) (Nat.zero_le _) (Nat.zero_le _) (fun r2 S2 hq2 => ?_)
  obtain ⟨rfl, hz2⟩ := hq2
  replace hz2 := hz2.symm
  subst hz2
  refine r_if_eq 32 dX9_coins_5 (by decide) (fun q5 => ?_) (fun q5 => ?_)
  · skip
    refine r_iconst (v := 0) dX9_coins_32 (by decide) ?_
    exact r_iret dX9_coins_33 rfl (Nat.zero_le _) (Nat.zero_le _) ⟨_, rfl, by first | exact ⟨(if_pos (by (try simp only [b2i_eq0, b2i_ne0, decide_eq_true_eq] at *); (try simp only [mI, mA, sI_setA, sI_setQ, sI_setR, sA_setI, sA_setR, sA_setQ, fa_lt, fa_le, fa_eq, Int32.reduceToInt] at *); omega)).symm, rfl⟩ | exact ⟨(if_neg (by (try simp only [b2i_eq0, b2i_ne0, decide_eq_true_eq] at *); (try simp only [mI, mA, sI_setA, sI_setQ, sI_setR, sA_setI, sA_setR, sA_setQ, fa_lt, fa_le, fa_eq, Int32.reduceToInt] at *); omega)).symm, rfl⟩⟩
  · skip
    refine r_iload_n dX9_coins_8 rfl rfl ?_
    refine r_iconst (v := 0) dX9_coins_9 (by decide) ?_
    refine r_bipush (v := 7) dX9_coins_10 (by decide) ?_
    refine r_invS3i dX9_coins_12 lm_X9_129 (c_X9_in _ _ _ _) (Nat.le_of_ble_eq_true rfl) (Nat.le_of_ble_eq_true rfl) (Nat.zero_le _) (Nat.zero_le _) (fun r12 S12 hq12 => ?_)
    obtain ⟨rfl, hz12⟩ := hq12
    replace hz12 := hz12.symm
    subst hz12
    refine r_if_eq 32 dX9_coins_15 (by decide) (fun q15 => ?_) (fun q15 => ?_)
    · skip
      refine r_iconst (v := 0) dX9_coins_32 (by decide) ?_
      exact r_iret dX9_coins_33 rfl (Nat.zero_le _) (Nat.zero_le _) ⟨_, rfl, by first | exact ⟨(if_pos (by (try simp only [b2i_eq0, b2i_ne0, decide_eq_true_eq] at *); (try simp only [mI, mA, sI_setA, sI_setQ, sI_setR, sA_setI, sA_setR, sA_setQ, fa_lt, fa_le, fa_eq, Int32.reduceToInt] at *); omega)).symm, rfl⟩ | exact ⟨(if_neg (by (try simp only [b2i_eq0, b2i_ne0, decide_eq_true_eq] at *); (try simp only [mI, mA, sI_setA, sI_setQ, sI_setR, sA_setI, sA_setR, sA_setQ, fa_lt, fa_le, fa_eq, Int32.reduceToInt] at *); omega)).symm, rfl⟩⟩
    · skip
      refine r_aload_n dX9_coins_18 rfl rfl ?_
      refine r_getR dX9_coins_19 lf_X9_38 rfl (by first | rfl | assumption) (shM_R h (j := 9) rfl) (shM_L h (j := 9) rfl) ?_
      refine r_bipush (v := 8) dX9_coins_22 (by decide) ?_
      refine r_iload_n dX9_coins_24 rfl rfl ?_
      refine r_imul dX9_coins_25 ?_
      refine r_iload_n dX9_coins_26 rfl rfl ?_
      refine r_iadd dX9_coins_27 ?_
      refine r_iald dX9_coins_28 (by first | rfl | assumption) (show vp_in _ 96 from ix8in hb.2 (by (try simp only [b2i_eq0, b2i_ne0, decide_eq_true_eq] at *); (try simp only [mI, mA, sI_setA, sI_setQ, sI_setR, sA_setI, sA_setR, sA_setQ, fa_lt, fa_le, fa_eq, Int32.reduceToInt] at *); omega) (by (try simp only [b2i_eq0, b2i_ne0, decide_eq_true_eq] at *); (try simp only [mI, mA, sI_setA, sI_setQ, sI_setR, sA_setI, sA_setR, sA_setQ, fa_lt, fa_le, fa_eq, Int32.reduceToInt] at *); omega)) ?_
      refine r_goto 33 dX9_coins_29 (by decide) ?_
      exact r_iret dX9_coins_33 rfl (Nat.zero_le _) (Nat.zero_le _) ⟨_, rfl, by first | exact ⟨(if_pos (by (try simp only [b2i_eq0, b2i_ne0, decide_eq_true_eq] at *); (try simp only [mI, mA, sI_setA, sI_setQ, sI_setR, sA_setI, sA_setR, sA_setQ, fa_lt, fa_le, fa_eq, Int32.reduceToInt] at *); omega)).symm, rfl⟩ | exact ⟨(if_neg (by (try simp only [b2i_eq0, b2i_ne0, decide_eq_true_eq] at *); (try simp only [mI, mA, sI_setA, sI_setQ, sI_setR, sA_setI, sA_setR, sA_setQ, fa_lt, fa_le, fa_eq, Int32.reduceToInt] at *); omega)).symm, rfl⟩⟩
set_option maxHeartbeats 4000000 in
theorem c_X9_told {l : Launch} {G : va_G} {cy : Nat → ClassId} (a w : Int32) (S : HS) (h : ShM S) (hb : 0 ≤ (mI S 25).toInt ∧ (mI S 25).toInt ≤ 12) : Cn l G cy yX9_told cX9_told 3 (some .int) 2 [.ref 2000, .int a, .int w] S 0 0 (qI (fun r S2 => (r = if (0 ≤ a.toInt ∧ a.toInt < (mI S 25).toInt) then sel w.toInt (-1) [mA S 2 a.toNatClampNeg, mA S 3 a.toNatClampNeg, mA S 4 a.toNatClampNeg, mA S 6 a.toNatClampNeg, mA S 7 a.toNatClampNeg, mA S 5 a.toNatClampNeg] else -1) ∧ S2 = S)) := by
  refine Cn.of [some (.ref 2000), some (.int a), some (.int w)] (by decide) rfl (Nat.le_of_ble_eq_true rfl) ?_
  refine r_aload_n dX9_told_0 rfl rfl ?_
  refine r_iload_n dX9_told_1 rfl rfl ?_
  refine r_invV1i dX9_told_2 lm_X9_136 (by first | rfl | assumption) (c_X9_isBoat _ _ h hb) (Nat.le_of_ble_eq_true rfl) (Nat.le_of_ble_eq_true rfl) (Nat.zero_le _) (Nat.zero_le _) (fun r2 S2 hq2 => ?_)
  obtain ⟨rfl, hz2⟩ := hq2
  replace hz2 := hz2.symm
  subst hz2
  refine r_if_ne 10 dX9_told_5 (by decide) (fun q5 => ?_) (fun q5 => ?_)
  · skip
    refine r_iload_n dX9_told_10 rfl rfl ?_
    by_cases e11_0 : (w).toInt = 0
    · refine r_tableIn 48 dX9_told_11 (by rw [e11_0]; decide) (by rw [e11_0]; decide) (by rw [e11_0]; rfl) (by decide) ?_
      refine r_aload_n dX9_told_48 rfl rfl ?_
      refine r_getR dX9_told_49 lf_X9_17 rfl (by first | rfl | assumption) (shM_R h (j := 2) rfl) (shM_L h (j := 2) rfl) ?_
      refine r_iload_n dX9_told_52 rfl rfl ?_
      refine r_iald dX9_told_53 (by first | rfl | assumption) (show vp_in _ 12 from vp_in_iff.mpr (by (try simp only [b2i_eq0, b2i_ne0, decide_eq_true_eq] at *); (try simp only [mI, mA, sI_setA, sI_setQ, sI_setR, sA_setI, sA_setR, sA_setQ, fa_lt, fa_le, fa_eq, Int32.reduceToInt] at *); omega)) ?_
      exact r_iret dX9_told_54 rfl (Nat.zero_le _) (Nat.zero_le _) ⟨_, rfl, ⟨by rw [if_pos (by (try simp only [b2i_eq0, b2i_ne0, decide_eq_true_eq] at *); (try simp only [mI, mA, sI_setA, sI_setQ, sI_setR, sA_setI, sA_setR, sA_setQ, fa_lt, fa_le, fa_eq, Int32.reduceToInt] at *); omega)]; simp [sel, e11_0], rfl⟩⟩
    by_cases e11_1 : (w).toInt = 1
    · refine r_tableIn 55 dX9_told_11 (by rw [e11_1]; decide) (by rw [e11_1]; decide) (by rw [e11_1]; rfl) (by decide) ?_
      refine r_aload_n dX9_told_55 rfl rfl ?_
      refine r_getR dX9_told_56 lf_X9_20 rfl (by first | rfl | assumption) (shM_R h (j := 3) rfl) (shM_L h (j := 3) rfl) ?_
      refine r_iload_n dX9_told_59 rfl rfl ?_
      refine r_iald dX9_told_60 (by first | rfl | assumption) (show vp_in _ 12 from vp_in_iff.mpr (by (try simp only [b2i_eq0, b2i_ne0, decide_eq_true_eq] at *); (try simp only [mI, mA, sI_setA, sI_setQ, sI_setR, sA_setI, sA_setR, sA_setQ, fa_lt, fa_le, fa_eq, Int32.reduceToInt] at *); omega)) ?_
      exact r_iret dX9_told_61 rfl (Nat.zero_le _) (Nat.zero_le _) ⟨_, rfl, ⟨by rw [if_pos (by (try simp only [b2i_eq0, b2i_ne0, decide_eq_true_eq] at *); (try simp only [mI, mA, sI_setA, sI_setQ, sI_setR, sA_setI, sA_setR, sA_setQ, fa_lt, fa_le, fa_eq, Int32.reduceToInt] at *); omega)]; simp [sel, e11_1], rfl⟩⟩
    by_cases e11_2 : (w).toInt = 2
    · refine r_tableIn 62 dX9_told_11 (by rw [e11_2]; decide) (by rw [e11_2]; decide) (by rw [e11_2]; rfl) (by decide) ?_
      refine r_aload_n dX9_told_62 rfl rfl ?_
      refine r_getR dX9_told_63 lf_X9_23 rfl (by first | rfl | assumption) (shM_R h (j := 4) rfl) (shM_L h (j := 4) rfl) ?_
      refine r_iload_n dX9_told_66 rfl rfl ?_
      refine r_iald dX9_told_67 (by first | rfl | assumption) (show vp_in _ 12 from vp_in_iff.mpr (by (try simp only [b2i_eq0, b2i_ne0, decide_eq_true_eq] at *); (try simp only [mI, mA, sI_setA, sI_setQ, sI_setR, sA_setI, sA_setR, sA_setQ, fa_lt, fa_le, fa_eq, Int32.reduceToInt] at *); omega)) ?_
      exact r_iret dX9_told_68 rfl (Nat.zero_le _) (Nat.zero_le _) ⟨_, rfl, ⟨by rw [if_pos (by (try simp only [b2i_eq0, b2i_ne0, decide_eq_true_eq] at *); (try simp only [mI, mA, sI_setA, sI_setQ, sI_setR, sA_setI, sA_setR, sA_setQ, fa_lt, fa_le, fa_eq, Int32.reduceToInt] at *); omega)]; simp [sel, e11_2], rfl⟩⟩
    by_cases e11_3 : (w).toInt = 3
    · refine r_tableIn 69 dX9_told_11 (by rw [e11_3]; decide) (by rw [e11_3]; decide) (by rw [e11_3]; rfl) (by decide) ?_
      refine r_aload_n dX9_told_69 rfl rfl ?_
      refine r_getR dX9_told_70 lf_X9_29 rfl (by first | rfl | assumption) (shM_R h (j := 6) rfl) (shM_L h (j := 6) rfl) ?_
      refine r_iload_n dX9_told_73 rfl rfl ?_
      refine r_iald dX9_told_74 (by first | rfl | assumption) (show vp_in _ 12 from vp_in_iff.mpr (by (try simp only [b2i_eq0, b2i_ne0, decide_eq_true_eq] at *); (try simp only [mI, mA, sI_setA, sI_setQ, sI_setR, sA_setI, sA_setR, sA_setQ, fa_lt, fa_le, fa_eq, Int32.reduceToInt] at *); omega)) ?_
      exact r_iret dX9_told_75 rfl (Nat.zero_le _) (Nat.zero_le _) ⟨_, rfl, ⟨by rw [if_pos (by (try simp only [b2i_eq0, b2i_ne0, decide_eq_true_eq] at *); (try simp only [mI, mA, sI_setA, sI_setQ, sI_setR, sA_setI, sA_setR, sA_setQ, fa_lt, fa_le, fa_eq, Int32.reduceToInt] at *); omega)]; simp [sel, e11_3], rfl⟩⟩
    by_cases e11_4 : (w).toInt = 4
    · refine r_tableIn 76 dX9_told_11 (by rw [e11_4]; decide) (by rw [e11_4]; decide) (by rw [e11_4]; rfl) (by decide) ?_
      refine r_aload_n dX9_told_76 rfl rfl ?_
      refine r_getR dX9_told_77 lf_X9_32 rfl (by first | rfl | assumption) (shM_R h (j := 7) rfl) (shM_L h (j := 7) rfl) ?_
      refine r_iload_n dX9_told_80 rfl rfl ?_
      refine r_iald dX9_told_81 (by first | rfl | assumption) (show vp_in _ 12 from vp_in_iff.mpr (by (try simp only [b2i_eq0, b2i_ne0, decide_eq_true_eq] at *); (try simp only [mI, mA, sI_setA, sI_setQ, sI_setR, sA_setI, sA_setR, sA_setQ, fa_lt, fa_le, fa_eq, Int32.reduceToInt] at *); omega)) ?_
      exact r_iret dX9_told_82 rfl (Nat.zero_le _) (Nat.zero_le _) ⟨_, rfl, ⟨by rw [if_pos (by (try simp only [b2i_eq0, b2i_ne0, decide_eq_true_eq] at *); (try simp only [mI, mA, sI_setA, sI_setQ, sI_setR, sA_setI, sA_setR, sA_setQ, fa_lt, fa_le, fa_eq, Int32.reduceToInt] at *); omega)]; simp [sel, e11_4], rfl⟩⟩
    by_cases e11_5 : (w).toInt = 5
    · refine r_tableIn 83 dX9_told_11 (by rw [e11_5]; decide) (by rw [e11_5]; decide) (by rw [e11_5]; rfl) (by decide) ?_
      refine r_aload_n dX9_told_83 rfl rfl ?_
      refine r_getR dX9_told_84 lf_X9_26 rfl (by first | rfl | assumption) (shM_R h (j := 5) rfl) (shM_L h (j := 5) rfl) ?_
      refine r_iload_n dX9_told_87 rfl rfl ?_
      refine r_iald dX9_told_88 (by first | rfl | assumption) (show vp_in _ 12 from vp_in_iff.mpr (by (try simp only [b2i_eq0, b2i_ne0, decide_eq_true_eq] at *); (try simp only [mI, mA, sI_setA, sI_setQ, sI_setR, sA_setI, sA_setR, sA_setQ, fa_lt, fa_le, fa_eq, Int32.reduceToInt] at *); omega)) ?_
      exact r_iret dX9_told_89 rfl (Nat.zero_le _) (Nat.zero_le _) ⟨_, rfl, ⟨by rw [if_pos (by (try simp only [b2i_eq0, b2i_ne0, decide_eq_true_eq] at *); (try simp only [mI, mA, sI_setA, sI_setQ, sI_setR, sA_setI, sA_setR, sA_setQ, fa_lt, fa_le, fa_eq, Int32.reduceToInt] at *); omega)]; simp [sel, e11_5], rfl⟩⟩
    refine r_tableOut 90 dX9_told_11 (by omega) (by decide) ?_
    refine r_iconst (v := (-1)) dX9_told_90 (by decide) ?_
    exact r_iret dX9_told_91 rfl (Nat.zero_le _) (Nat.zero_le _) ⟨_, rfl, ⟨by rw [if_pos (by (try simp only [b2i_eq0, b2i_ne0, decide_eq_true_eq] at *); (try simp only [mI, mA, sI_setA, sI_setQ, sI_setR, sA_setI, sA_setR, sA_setQ, fa_lt, fa_le, fa_eq, Int32.reduceToInt] at *); omega)]; simp only [sel]; rw [if_neg (by omega), if_neg (by omega), if_neg (by omega), if_neg (by omega), if_neg (by omega), if_neg (by omega)], rfl⟩⟩
  · skip
    refine r_iconst (v := (-1)) dX9_told_8 (by decide) ?_
    exact r_iret dX9_told_9 rfl (Nat.zero_le _) (Nat.zero_le _) ⟨_, rfl, by first | exact ⟨(if_pos (by (try simp only [b2i_eq0, b2i_ne0, decide_eq_true_eq] at *); (try simp only [mI, mA, sI_setA, sI_setQ, sI_setR, sA_setI, sA_setR, sA_setQ, fa_lt, fa_le, fa_eq, Int32.reduceToInt] at *); omega)).symm, rfl⟩ | exact ⟨(if_neg (by (try simp only [b2i_eq0, b2i_ne0, decide_eq_true_eq] at *); (try simp only [mI, mA, sI_setA, sI_setQ, sI_setR, sA_setI, sA_setR, sA_setQ, fa_lt, fa_le, fa_eq, Int32.reduceToInt] at *); omega)).symm, rfl⟩⟩
set_option maxHeartbeats 4000000 in
theorem c_X9_lot {l : Launch} {G : va_G} {cy : Nat → ClassId} (a w : Int32) (S : HS) (h : ShM S) (hb : 0 ≤ (mI S 27).toInt ∧ (mI S 27).toInt ≤ 400) : Cn l G cy yX9_lot cX9_lot 3 (some .int) 2 [.ref 2000, .int a, .int w] S 0 0 (qI (fun r S2 => (r = if (0 ≤ a.toInt ∧ a.toInt < (mI S 27).toInt) then sel w.toInt (-1) [mA S 13 a.toNatClampNeg, mA S 14 a.toNatClampNeg, mA S 15 a.toNatClampNeg, mA S 16 a.toNatClampNeg, mA S 17 a.toNatClampNeg, mA S 18 a.toNatClampNeg, mA S 19 a.toNatClampNeg, mA S 20 a.toNatClampNeg, mA S 21 a.toNatClampNeg, mA S 22 a.toNatClampNeg, mA S 23 a.toNatClampNeg] else -1) ∧ S2 = S)) := by
  refine Cn.of [some (.ref 2000), some (.int a), some (.int w)] (by decide) rfl (Nat.le_of_ble_eq_true rfl) ?_
  refine r_aload_n dX9_lot_0 rfl rfl ?_
  refine r_iload_n dX9_lot_1 rfl rfl ?_
  refine r_invV1i dX9_lot_2 lm_X9_258 (by first | rfl | assumption) (c_X9_isLot _ _ h hb) (Nat.le_of_ble_eq_true rfl) (Nat.le_of_ble_eq_true rfl) (Nat.zero_le _) (Nat.zero_le _) (fun r2 S2 hq2 => ?_)
  obtain ⟨rfl, hz2⟩ := hq2
  replace hz2 := hz2.symm
  subst hz2
  refine r_if_ne 10 dX9_lot_5 (by decide) (fun q5 => ?_) (fun q5 => ?_)
  · skip
    refine r_iload_n dX9_lot_10 rfl rfl ?_
    by_cases e11_0 : (w).toInt = 0
    · refine r_tableIn 68 dX9_lot_11 (by rw [e11_0]; decide) (by rw [e11_0]; decide) (by rw [e11_0]; rfl) (by decide) ?_
      refine r_aload_n dX9_lot_68 rfl rfl ?_
      refine r_getR dX9_lot_69 lf_X9_50 rfl (by first | rfl | assumption) (shM_R h (j := 13) rfl) (shM_L h (j := 13) rfl) ?_
      refine r_iload_n dX9_lot_72 rfl rfl ?_
      refine r_iald dX9_lot_73 (by first | rfl | assumption) (show vp_in _ 400 from vp_in_iff.mpr (by (try simp only [b2i_eq0, b2i_ne0, decide_eq_true_eq] at *); (try simp only [mI, mA, sI_setA, sI_setQ, sI_setR, sA_setI, sA_setR, sA_setQ, fa_lt, fa_le, fa_eq, Int32.reduceToInt] at *); omega)) ?_
      exact r_iret dX9_lot_74 rfl (Nat.zero_le _) (Nat.zero_le _) ⟨_, rfl, ⟨by rw [if_pos (by (try simp only [b2i_eq0, b2i_ne0, decide_eq_true_eq] at *); (try simp only [mI, mA, sI_setA, sI_setQ, sI_setR, sA_setI, sA_setR, sA_setQ, fa_lt, fa_le, fa_eq, Int32.reduceToInt] at *); omega)]; simp [sel, e11_0], rfl⟩⟩
    by_cases e11_1 : (w).toInt = 1
    · refine r_tableIn 75 dX9_lot_11 (by rw [e11_1]; decide) (by rw [e11_1]; decide) (by rw [e11_1]; rfl) (by decide) ?_
      refine r_aload_n dX9_lot_75 rfl rfl ?_
      refine r_getR dX9_lot_76 lf_X9_53 rfl (by first | rfl | assumption) (shM_R h (j := 14) rfl) (shM_L h (j := 14) rfl) ?_
      refine r_iload_n dX9_lot_79 rfl rfl ?_
      refine r_iald dX9_lot_80 (by first | rfl | assumption) (show vp_in _ 400 from vp_in_iff.mpr (by (try simp only [b2i_eq0, b2i_ne0, decide_eq_true_eq] at *); (try simp only [mI, mA, sI_setA, sI_setQ, sI_setR, sA_setI, sA_setR, sA_setQ, fa_lt, fa_le, fa_eq, Int32.reduceToInt] at *); omega)) ?_
      exact r_iret dX9_lot_81 rfl (Nat.zero_le _) (Nat.zero_le _) ⟨_, rfl, ⟨by rw [if_pos (by (try simp only [b2i_eq0, b2i_ne0, decide_eq_true_eq] at *); (try simp only [mI, mA, sI_setA, sI_setQ, sI_setR, sA_setI, sA_setR, sA_setQ, fa_lt, fa_le, fa_eq, Int32.reduceToInt] at *); omega)]; simp [sel, e11_1], rfl⟩⟩
    by_cases e11_2 : (w).toInt = 2
    · refine r_tableIn 82 dX9_lot_11 (by rw [e11_2]; decide) (by rw [e11_2]; decide) (by rw [e11_2]; rfl) (by decide) ?_
      refine r_aload_n dX9_lot_82 rfl rfl ?_
      refine r_getR dX9_lot_83 lf_X9_56 rfl (by first | rfl | assumption) (shM_R h (j := 15) rfl) (shM_L h (j := 15) rfl) ?_
      refine r_iload_n dX9_lot_86 rfl rfl ?_
      refine r_iald dX9_lot_87 (by first | rfl | assumption) (show vp_in _ 400 from vp_in_iff.mpr (by (try simp only [b2i_eq0, b2i_ne0, decide_eq_true_eq] at *); (try simp only [mI, mA, sI_setA, sI_setQ, sI_setR, sA_setI, sA_setR, sA_setQ, fa_lt, fa_le, fa_eq, Int32.reduceToInt] at *); omega)) ?_
      exact r_iret dX9_lot_88 rfl (Nat.zero_le _) (Nat.zero_le _) ⟨_, rfl, ⟨by rw [if_pos (by (try simp only [b2i_eq0, b2i_ne0, decide_eq_true_eq] at *); (try simp only [mI, mA, sI_setA, sI_setQ, sI_setR, sA_setI, sA_setR, sA_setQ, fa_lt, fa_le, fa_eq, Int32.reduceToInt] at *); omega)]; simp [sel, e11_2], rfl⟩⟩
    by_cases e11_3 : (w).toInt = 3
    · refine r_tableIn 89 dX9_lot_11 (by rw [e11_3]; decide) (by rw [e11_3]; decide) (by rw [e11_3]; rfl) (by decide) ?_
      refine r_aload_n dX9_lot_89 rfl rfl ?_
      refine r_getR dX9_lot_90 lf_X9_59 rfl (by first | rfl | assumption) (shM_R h (j := 16) rfl) (shM_L h (j := 16) rfl) ?_
      refine r_iload_n dX9_lot_93 rfl rfl ?_
      refine r_iald dX9_lot_94 (by first | rfl | assumption) (show vp_in _ 400 from vp_in_iff.mpr (by (try simp only [b2i_eq0, b2i_ne0, decide_eq_true_eq] at *); (try simp only [mI, mA, sI_setA, sI_setQ, sI_setR, sA_setI, sA_setR, sA_setQ, fa_lt, fa_le, fa_eq, Int32.reduceToInt] at *); omega)) ?_
      exact r_iret dX9_lot_95 rfl (Nat.zero_le _) (Nat.zero_le _) ⟨_, rfl, ⟨by rw [if_pos (by (try simp only [b2i_eq0, b2i_ne0, decide_eq_true_eq] at *); (try simp only [mI, mA, sI_setA, sI_setQ, sI_setR, sA_setI, sA_setR, sA_setQ, fa_lt, fa_le, fa_eq, Int32.reduceToInt] at *); omega)]; simp [sel, e11_3], rfl⟩⟩
    by_cases e11_4 : (w).toInt = 4
    · refine r_tableIn 96 dX9_lot_11 (by rw [e11_4]; decide) (by rw [e11_4]; decide) (by rw [e11_4]; rfl) (by decide) ?_
      refine r_aload_n dX9_lot_96 rfl rfl ?_
      refine r_getR dX9_lot_97 lf_X9_62 rfl (by first | rfl | assumption) (shM_R h (j := 17) rfl) (shM_L h (j := 17) rfl) ?_
      refine r_iload_n dX9_lot_100 rfl rfl ?_
      refine r_iald dX9_lot_101 (by first | rfl | assumption) (show vp_in _ 400 from vp_in_iff.mpr (by (try simp only [b2i_eq0, b2i_ne0, decide_eq_true_eq] at *); (try simp only [mI, mA, sI_setA, sI_setQ, sI_setR, sA_setI, sA_setR, sA_setQ, fa_lt, fa_le, fa_eq, Int32.reduceToInt] at *); omega)) ?_
      exact r_iret dX9_lot_102 rfl (Nat.zero_le _) (Nat.zero_le _) ⟨_, rfl, ⟨by rw [if_pos (by (try simp only [b2i_eq0, b2i_ne0, decide_eq_true_eq] at *); (try simp only [mI, mA, sI_setA, sI_setQ, sI_setR, sA_setI, sA_setR, sA_setQ, fa_lt, fa_le, fa_eq, Int32.reduceToInt] at *); omega)]; simp [sel, e11_4], rfl⟩⟩
    by_cases e11_5 : (w).toInt = 5
    · refine r_tableIn 103 dX9_lot_11 (by rw [e11_5]; decide) (by rw [e11_5]; decide) (by rw [e11_5]; rfl) (by decide) ?_
      refine r_aload_n dX9_lot_103 rfl rfl ?_
      refine r_getR dX9_lot_104 lf_X9_65 rfl (by first | rfl | assumption) (shM_R h (j := 18) rfl) (shM_L h (j := 18) rfl) ?_
      refine r_iload_n dX9_lot_107 rfl rfl ?_
      refine r_iald dX9_lot_108 (by first | rfl | assumption) (show vp_in _ 400 from vp_in_iff.mpr (by (try simp only [b2i_eq0, b2i_ne0, decide_eq_true_eq] at *); (try simp only [mI, mA, sI_setA, sI_setQ, sI_setR, sA_setI, sA_setR, sA_setQ, fa_lt, fa_le, fa_eq, Int32.reduceToInt] at *); omega)) ?_
      exact r_iret dX9_lot_109 rfl (Nat.zero_le _) (Nat.zero_le _) ⟨_, rfl, ⟨by rw [if_pos (by (try simp only [b2i_eq0, b2i_ne0, decide_eq_true_eq] at *); (try simp only [mI, mA, sI_setA, sI_setQ, sI_setR, sA_setI, sA_setR, sA_setQ, fa_lt, fa_le, fa_eq, Int32.reduceToInt] at *); omega)]; simp [sel, e11_5], rfl⟩⟩
    by_cases e11_6 : (w).toInt = 6
    · refine r_tableIn 110 dX9_lot_11 (by rw [e11_6]; decide) (by rw [e11_6]; decide) (by rw [e11_6]; rfl) (by decide) ?_
      refine r_aload_n dX9_lot_110 rfl rfl ?_
      refine r_getR dX9_lot_111 lf_X9_68 rfl (by first | rfl | assumption) (shM_R h (j := 19) rfl) (shM_L h (j := 19) rfl) ?_
      refine r_iload_n dX9_lot_114 rfl rfl ?_
      refine r_iald dX9_lot_115 (by first | rfl | assumption) (show vp_in _ 400 from vp_in_iff.mpr (by (try simp only [b2i_eq0, b2i_ne0, decide_eq_true_eq] at *); (try simp only [mI, mA, sI_setA, sI_setQ, sI_setR, sA_setI, sA_setR, sA_setQ, fa_lt, fa_le, fa_eq, Int32.reduceToInt] at *); omega)) ?_
      exact r_iret dX9_lot_116 rfl (Nat.zero_le _) (Nat.zero_le _) ⟨_, rfl, ⟨by rw [if_pos (by (try simp only [b2i_eq0, b2i_ne0, decide_eq_true_eq] at *); (try simp only [mI, mA, sI_setA, sI_setQ, sI_setR, sA_setI, sA_setR, sA_setQ, fa_lt, fa_le, fa_eq, Int32.reduceToInt] at *); omega)]; simp [sel, e11_6], rfl⟩⟩
    by_cases e11_7 : (w).toInt = 7
    · refine r_tableIn 117 dX9_lot_11 (by rw [e11_7]; decide) (by rw [e11_7]; decide) (by rw [e11_7]; rfl) (by decide) ?_
      refine r_aload_n dX9_lot_117 rfl rfl ?_
      refine r_getR dX9_lot_118 lf_X9_71 rfl (by first | rfl | assumption) (shM_R h (j := 20) rfl) (shM_L h (j := 20) rfl) ?_
      refine r_iload_n dX9_lot_121 rfl rfl ?_
      refine r_iald dX9_lot_122 (by first | rfl | assumption) (show vp_in _ 400 from vp_in_iff.mpr (by (try simp only [b2i_eq0, b2i_ne0, decide_eq_true_eq] at *); (try simp only [mI, mA, sI_setA, sI_setQ, sI_setR, sA_setI, sA_setR, sA_setQ, fa_lt, fa_le, fa_eq, Int32.reduceToInt] at *); omega)) ?_
      exact r_iret dX9_lot_123 rfl (Nat.zero_le _) (Nat.zero_le _) ⟨_, rfl, ⟨by rw [if_pos (by (try simp only [b2i_eq0, b2i_ne0, decide_eq_true_eq] at *); (try simp only [mI, mA, sI_setA, sI_setQ, sI_setR, sA_setI, sA_setR, sA_setQ, fa_lt, fa_le, fa_eq, Int32.reduceToInt] at *); omega)]; simp [sel, e11_7], rfl⟩⟩
    by_cases e11_8 : (w).toInt = 8
    · refine r_tableIn 124 dX9_lot_11 (by rw [e11_8]; decide) (by rw [e11_8]; decide) (by rw [e11_8]; rfl) (by decide) ?_
      refine r_aload_n dX9_lot_124 rfl rfl ?_
      refine r_getR dX9_lot_125 lf_X9_74 rfl (by first | rfl | assumption) (shM_R h (j := 21) rfl) (shM_L h (j := 21) rfl) ?_
      refine r_iload_n dX9_lot_128 rfl rfl ?_
      refine r_iald dX9_lot_129 (by first | rfl | assumption) (show vp_in _ 400 from vp_in_iff.mpr (by (try simp only [b2i_eq0, b2i_ne0, decide_eq_true_eq] at *); (try simp only [mI, mA, sI_setA, sI_setQ, sI_setR, sA_setI, sA_setR, sA_setQ, fa_lt, fa_le, fa_eq, Int32.reduceToInt] at *); omega)) ?_
      exact r_iret dX9_lot_130 rfl (Nat.zero_le _) (Nat.zero_le _) ⟨_, rfl, ⟨by rw [if_pos (by (try simp only [b2i_eq0, b2i_ne0, decide_eq_true_eq] at *); (try simp only [mI, mA, sI_setA, sI_setQ, sI_setR, sA_setI, sA_setR, sA_setQ, fa_lt, fa_le, fa_eq, Int32.reduceToInt] at *); omega)]; simp [sel, e11_8], rfl⟩⟩
    by_cases e11_9 : (w).toInt = 9
    · refine r_tableIn 131 dX9_lot_11 (by rw [e11_9]; decide) (by rw [e11_9]; decide) (by rw [e11_9]; rfl) (by decide) ?_
      refine r_aload_n dX9_lot_131 rfl rfl ?_
      refine r_getR dX9_lot_132 lf_X9_77 rfl (by first | rfl | assumption) (shM_R h (j := 22) rfl) (shM_L h (j := 22) rfl) ?_
      refine r_iload_n dX9_lot_135 rfl rfl ?_
      refine r_iald dX9_lot_136 (by first | rfl | assumption) (show vp_in _ 400 from vp_in_iff.mpr (by (try simp only [b2i_eq0, b2i_ne0, decide_eq_true_eq] at *); (try simp only [mI, mA, sI_setA, sI_setQ, sI_setR, sA_setI, sA_setR, sA_setQ, fa_lt, fa_le, fa_eq, Int32.reduceToInt] at *); omega)) ?_
      exact r_iret dX9_lot_137 rfl (Nat.zero_le _) (Nat.zero_le _) ⟨_, rfl, ⟨by rw [if_pos (by (try simp only [b2i_eq0, b2i_ne0, decide_eq_true_eq] at *); (try simp only [mI, mA, sI_setA, sI_setQ, sI_setR, sA_setI, sA_setR, sA_setQ, fa_lt, fa_le, fa_eq, Int32.reduceToInt] at *); omega)]; simp [sel, e11_9], rfl⟩⟩
    by_cases e11_10 : (w).toInt = 10
    · refine r_tableIn 138 dX9_lot_11 (by rw [e11_10]; decide) (by rw [e11_10]; decide) (by rw [e11_10]; rfl) (by decide) ?_
      refine r_aload_n dX9_lot_138 rfl rfl ?_
      refine r_getR dX9_lot_139 lf_X9_80 rfl (by first | rfl | assumption) (shM_R h (j := 23) rfl) (shM_L h (j := 23) rfl) ?_
      refine r_iload_n dX9_lot_142 rfl rfl ?_
      refine r_iald dX9_lot_143 (by first | rfl | assumption) (show vp_in _ 400 from vp_in_iff.mpr (by (try simp only [b2i_eq0, b2i_ne0, decide_eq_true_eq] at *); (try simp only [mI, mA, sI_setA, sI_setQ, sI_setR, sA_setI, sA_setR, sA_setQ, fa_lt, fa_le, fa_eq, Int32.reduceToInt] at *); omega)) ?_
      exact r_iret dX9_lot_144 rfl (Nat.zero_le _) (Nat.zero_le _) ⟨_, rfl, ⟨by rw [if_pos (by (try simp only [b2i_eq0, b2i_ne0, decide_eq_true_eq] at *); (try simp only [mI, mA, sI_setA, sI_setQ, sI_setR, sA_setI, sA_setR, sA_setQ, fa_lt, fa_le, fa_eq, Int32.reduceToInt] at *); omega)]; simp [sel, e11_10], rfl⟩⟩
    refine r_tableOut 145 dX9_lot_11 (by omega) (by decide) ?_
    refine r_iconst (v := (-1)) dX9_lot_145 (by decide) ?_
    exact r_iret dX9_lot_146 rfl (Nat.zero_le _) (Nat.zero_le _) ⟨_, rfl, ⟨by rw [if_pos (by (try simp only [b2i_eq0, b2i_ne0, decide_eq_true_eq] at *); (try simp only [mI, mA, sI_setA, sI_setQ, sI_setR, sA_setI, sA_setR, sA_setQ, fa_lt, fa_le, fa_eq, Int32.reduceToInt] at *); omega)]; simp only [sel]; rw [if_neg (by omega), if_neg (by omega), if_neg (by omega), if_neg (by omega), if_neg (by omega), if_neg (by omega), if_neg (by omega), if_neg (by omega), if_neg (by omega), if_neg (by omega), if_neg (by omega)], rfl⟩⟩
  · skip
    refine r_iconst (v := (-1)) dX9_lot_8 (by decide) ?_
    exact r_iret dX9_lot_9 rfl (Nat.zero_le _) (Nat.zero_le _) ⟨_, rfl, by first | exact ⟨(if_pos (by (try simp only [b2i_eq0, b2i_ne0, decide_eq_true_eq] at *); (try simp only [mI, mA, sI_setA, sI_setQ, sI_setR, sA_setI, sA_setR, sA_setQ, fa_lt, fa_le, fa_eq, Int32.reduceToInt] at *); omega)).symm, rfl⟩ | exact ⟨(if_neg (by (try simp only [b2i_eq0, b2i_ne0, decide_eq_true_eq] at *); (try simp only [mI, mA, sI_setA, sI_setQ, sI_setR, sA_setI, sA_setR, sA_setQ, fa_lt, fa_le, fa_eq, Int32.reduceToInt] at *); omega)).symm, rfl⟩⟩
set_option maxHeartbeats 4000000 in
theorem c_X9_cell {l : Launch} {G : va_G} {cy : Nat → ClassId} (a w : Int32) (S : HS) (h : ShM S) : Cn l G cy yX9_cell cX9_cell 3 (some .int) 1 [.ref 2000, .int a, .int w] S 0 0 (qI (fun r S2 => (r = if (0 ≤ a.toInt ∧ a.toInt < 36) then sel w.toInt (-1) [mA S 0 a.toNatClampNeg, b2i (¬ mA S 1 a.toNatClampNeg = 0)] else -1) ∧ S2 = S)) := by
  refine Cn.of [some (.ref 2000), some (.int a), some (.int w)] (by decide) rfl (Nat.le_of_ble_eq_true rfl) ?_
  refine r_iload_n dX9_cell_0 rfl rfl ?_
  refine r_iconst (v := 0) dX9_cell_1 (by decide) ?_
  refine r_bipush (v := 35) dX9_cell_2 (by decide) ?_
  refine r_invS3i dX9_cell_4 lm_X9_129 (c_X9_in _ _ _ _) (Nat.le_of_ble_eq_true rfl) (Nat.le_of_ble_eq_true rfl) (Nat.zero_le _) (Nat.zero_le _) (fun r4 S4 hq4 => ?_)
  obtain ⟨rfl, hz4⟩ := hq4
  replace hz4 := hz4.symm
  subst hz4
  refine r_if_ne 12 dX9_cell_7 (by decide) (fun q7 => ?_) (fun q7 => ?_)
  · skip
    refine r_iload_n dX9_cell_12 rfl rfl ?_
    refine r_if_ne 25 dX9_cell_13 (by decide) (fun q13 => ?_) (fun q13 => ?_)
    · skip
      refine r_iload_n dX9_cell_25 rfl rfl ?_
      refine r_iconst (v := 1) dX9_cell_26 (by decide) ?_
      refine r_icmp_ne 47 dX9_cell_27 (by decide) (fun q27 => ?_) (fun q27 => ?_)
      · skip
        refine r_iconst (v := (-1)) dX9_cell_47 (by decide) ?_
        exact r_iret dX9_cell_48 rfl (Nat.zero_le _) (Nat.zero_le _) ⟨_, rfl, ⟨by rw [if_pos (by (try simp only [b2i_eq0, b2i_ne0, decide_eq_true_eq] at *); (try simp only [mI, mA, sI_setA, sI_setQ, sI_setR, sA_setI, sA_setR, sA_setQ, fa_lt, fa_le, fa_eq, Int32.reduceToInt] at *); omega)]; first | (simp only [sel]; rw [if_pos (by (try simp only [b2i_eq0, b2i_ne0, decide_eq_true_eq] at *); (try simp only [mI, mA, sI_setA, sI_setQ, sI_setR, sA_setI, sA_setR, sA_setQ, fa_lt, fa_le, fa_eq, Int32.reduceToInt] at *); omega)]; done) | (simp only [sel]; rw [if_neg (by (try simp only [b2i_eq0, b2i_ne0, decide_eq_true_eq] at *); (try simp only [mI, mA, sI_setA, sI_setQ, sI_setR, sA_setI, sA_setR, sA_setQ, fa_lt, fa_le, fa_eq, Int32.reduceToInt] at *); omega), if_pos (by (try simp only [b2i_eq0, b2i_ne0, decide_eq_true_eq] at *); (try simp only [mI, mA, sI_setA, sI_setQ, sI_setR, sA_setI, sA_setR, sA_setQ, fa_lt, fa_le, fa_eq, Int32.reduceToInt] at *); omega)]; first | exact (b2i_t (by assumption)).symm | exact (b2i_f (by intro h9; exact h9 (by assumption))).symm) | (simp only [sel]; rw [if_neg (by (try simp only [b2i_eq0, b2i_ne0, decide_eq_true_eq] at *); (try simp only [mI, mA, sI_setA, sI_setQ, sI_setR, sA_setI, sA_setR, sA_setQ, fa_lt, fa_le, fa_eq, Int32.reduceToInt] at *); omega), if_neg (by (try simp only [b2i_eq0, b2i_ne0, decide_eq_true_eq] at *); (try simp only [mI, mA, sI_setA, sI_setQ, sI_setR, sA_setI, sA_setR, sA_setQ, fa_lt, fa_le, fa_eq, Int32.reduceToInt] at *); omega)]), rfl⟩⟩
      · skip
        refine r_aload_n dX9_cell_30 rfl rfl ?_
        refine r_getR dX9_cell_31 lf_X9_13 rfl (by first | rfl | assumption) (shM_R h (j := 1) rfl) (shM_L h (j := 1) rfl) ?_
        refine r_iload_n dX9_cell_34 rfl rfl ?_
        refine r_zald dX9_cell_35 (by first | rfl | assumption) (show vp_in _ 36 from vp_in_iff.mpr (by (try simp only [b2i_eq0, b2i_ne0, decide_eq_true_eq] at *); (try simp only [mI, mA, sI_setA, sI_setQ, sI_setR, sA_setI, sA_setR, sA_setQ, fa_lt, fa_le, fa_eq, Int32.reduceToInt] at *); omega)) ?_
        refine r_if_eq 43 dX9_cell_36 (by decide) (fun q36 => ?_) (fun q36 => ?_)
        · skip
          refine r_iconst (v := 0) dX9_cell_43 (by decide) ?_
          refine r_goto 48 dX9_cell_44 (by decide) ?_
          exact r_iret dX9_cell_48 rfl (Nat.zero_le _) (Nat.zero_le _) ⟨_, rfl, ⟨by rw [if_pos (by (try simp only [b2i_eq0, b2i_ne0, decide_eq_true_eq] at *); (try simp only [mI, mA, sI_setA, sI_setQ, sI_setR, sA_setI, sA_setR, sA_setQ, fa_lt, fa_le, fa_eq, Int32.reduceToInt] at *); omega)]; first | (simp only [sel]; rw [if_pos (by (try simp only [b2i_eq0, b2i_ne0, decide_eq_true_eq] at *); (try simp only [mI, mA, sI_setA, sI_setQ, sI_setR, sA_setI, sA_setR, sA_setQ, fa_lt, fa_le, fa_eq, Int32.reduceToInt] at *); omega)]; done) | (simp only [sel]; rw [if_neg (by (try simp only [b2i_eq0, b2i_ne0, decide_eq_true_eq] at *); (try simp only [mI, mA, sI_setA, sI_setQ, sI_setR, sA_setI, sA_setR, sA_setQ, fa_lt, fa_le, fa_eq, Int32.reduceToInt] at *); omega), if_pos (by (try simp only [b2i_eq0, b2i_ne0, decide_eq_true_eq] at *); (try simp only [mI, mA, sI_setA, sI_setQ, sI_setR, sA_setI, sA_setR, sA_setQ, fa_lt, fa_le, fa_eq, Int32.reduceToInt] at *); omega)]; first | exact (b2i_t (by assumption)).symm | exact (b2i_f (by intro h9; exact h9 (by assumption))).symm) | (simp only [sel]; rw [if_neg (by (try simp only [b2i_eq0, b2i_ne0, decide_eq_true_eq] at *); (try simp only [mI, mA, sI_setA, sI_setQ, sI_setR, sA_setI, sA_setR, sA_setQ, fa_lt, fa_le, fa_eq, Int32.reduceToInt] at *); omega), if_neg (by (try simp only [b2i_eq0, b2i_ne0, decide_eq_true_eq] at *); (try simp only [mI, mA, sI_setA, sI_setQ, sI_setR, sA_setI, sA_setR, sA_setQ, fa_lt, fa_le, fa_eq, Int32.reduceToInt] at *); omega)]), rfl⟩⟩
        · skip
          refine r_iconst (v := 1) dX9_cell_39 (by decide) ?_
          refine r_goto 48 dX9_cell_40 (by decide) ?_
          exact r_iret dX9_cell_48 rfl (Nat.zero_le _) (Nat.zero_le _) ⟨_, rfl, ⟨by rw [if_pos (by (try simp only [b2i_eq0, b2i_ne0, decide_eq_true_eq] at *); (try simp only [mI, mA, sI_setA, sI_setQ, sI_setR, sA_setI, sA_setR, sA_setQ, fa_lt, fa_le, fa_eq, Int32.reduceToInt] at *); omega)]; first | (simp only [sel]; rw [if_pos (by (try simp only [b2i_eq0, b2i_ne0, decide_eq_true_eq] at *); (try simp only [mI, mA, sI_setA, sI_setQ, sI_setR, sA_setI, sA_setR, sA_setQ, fa_lt, fa_le, fa_eq, Int32.reduceToInt] at *); omega)]; done) | (simp only [sel]; rw [if_neg (by (try simp only [b2i_eq0, b2i_ne0, decide_eq_true_eq] at *); (try simp only [mI, mA, sI_setA, sI_setQ, sI_setR, sA_setI, sA_setR, sA_setQ, fa_lt, fa_le, fa_eq, Int32.reduceToInt] at *); omega), if_pos (by (try simp only [b2i_eq0, b2i_ne0, decide_eq_true_eq] at *); (try simp only [mI, mA, sI_setA, sI_setQ, sI_setR, sA_setI, sA_setR, sA_setQ, fa_lt, fa_le, fa_eq, Int32.reduceToInt] at *); omega)]; first | exact (b2i_t (by assumption)).symm | exact (b2i_f (by intro h9; exact h9 (by assumption))).symm) | (simp only [sel]; rw [if_neg (by (try simp only [b2i_eq0, b2i_ne0, decide_eq_true_eq] at *); (try simp only [mI, mA, sI_setA, sI_setQ, sI_setR, sA_setI, sA_setR, sA_setQ, fa_lt, fa_le, fa_eq, Int32.reduceToInt] at *); omega), if_neg (by (try simp only [b2i_eq0, b2i_ne0, decide_eq_true_eq] at *); (try simp only [mI, mA, sI_setA, sI_setQ, sI_setR, sA_setI, sA_setR, sA_setQ, fa_lt, fa_le, fa_eq, Int32.reduceToInt] at *); omega)]), rfl⟩⟩
    · skip
      refine r_aload_n dX9_cell_16 rfl rfl ?_
      refine r_getR dX9_cell_17 lf_X9_9 rfl (by first | rfl | assumption) (shM_R h (j := 0) rfl) (shM_L h (j := 0) rfl) ?_
      refine r_iload_n dX9_cell_20 rfl rfl ?_
      refine r_iald dX9_cell_21 (by first | rfl | assumption) (show vp_in _ 36 from vp_in_iff.mpr (by (try simp only [b2i_eq0, b2i_ne0, decide_eq_true_eq] at *); (try simp only [mI, mA, sI_setA, sI_setQ, sI_setR, sA_setI, sA_setR, sA_setQ, fa_lt, fa_le, fa_eq, Int32.reduceToInt] at *); omega)) ?_
      refine r_goto 48 dX9_cell_22 (by decide) ?_
      exact r_iret dX9_cell_48 rfl (Nat.zero_le _) (Nat.zero_le _) ⟨_, rfl, ⟨by rw [if_pos (by (try simp only [b2i_eq0, b2i_ne0, decide_eq_true_eq] at *); (try simp only [mI, mA, sI_setA, sI_setQ, sI_setR, sA_setI, sA_setR, sA_setQ, fa_lt, fa_le, fa_eq, Int32.reduceToInt] at *); omega)]; first | (simp only [sel]; rw [if_pos (by (try simp only [b2i_eq0, b2i_ne0, decide_eq_true_eq] at *); (try simp only [mI, mA, sI_setA, sI_setQ, sI_setR, sA_setI, sA_setR, sA_setQ, fa_lt, fa_le, fa_eq, Int32.reduceToInt] at *); omega)]; done) | (simp only [sel]; rw [if_neg (by (try simp only [b2i_eq0, b2i_ne0, decide_eq_true_eq] at *); (try simp only [mI, mA, sI_setA, sI_setQ, sI_setR, sA_setI, sA_setR, sA_setQ, fa_lt, fa_le, fa_eq, Int32.reduceToInt] at *); omega), if_pos (by (try simp only [b2i_eq0, b2i_ne0, decide_eq_true_eq] at *); (try simp only [mI, mA, sI_setA, sI_setQ, sI_setR, sA_setI, sA_setR, sA_setQ, fa_lt, fa_le, fa_eq, Int32.reduceToInt] at *); omega)]; first | exact (b2i_t (by assumption)).symm | exact (b2i_f (by intro h9; exact h9 (by assumption))).symm) | (simp only [sel]; rw [if_neg (by (try simp only [b2i_eq0, b2i_ne0, decide_eq_true_eq] at *); (try simp only [mI, mA, sI_setA, sI_setQ, sI_setR, sA_setI, sA_setR, sA_setQ, fa_lt, fa_le, fa_eq, Int32.reduceToInt] at *); omega), if_neg (by (try simp only [b2i_eq0, b2i_ne0, decide_eq_true_eq] at *); (try simp only [mI, mA, sI_setA, sI_setQ, sI_setR, sA_setI, sA_setR, sA_setQ, fa_lt, fa_le, fa_eq, Int32.reduceToInt] at *); omega)]), rfl⟩⟩
  · skip
    refine r_iconst (v := (-1)) dX9_cell_10 (by decide) ?_
    exact r_iret dX9_cell_11 rfl (Nat.zero_le _) (Nat.zero_le _) ⟨_, rfl, by first | exact ⟨(if_pos (by (try simp only [b2i_eq0, b2i_ne0, decide_eq_true_eq] at *); (try simp only [mI, mA, sI_setA, sI_setQ, sI_setR, sA_setI, sA_setR, sA_setQ, fa_lt, fa_le, fa_eq, Int32.reduceToInt] at *); omega)).symm, rfl⟩ | exact ⟨(if_neg (by (try simp only [b2i_eq0, b2i_ne0, decide_eq_true_eq] at *); (try simp only [mI, mA, sI_setA, sI_setQ, sI_setR, sA_setI, sA_setR, sA_setQ, fa_lt, fa_le, fa_eq, Int32.reduceToInt] at *); omega)).symm, rfl⟩⟩
set_option maxHeartbeats 4000000 in
theorem c_X9_minute {l : Launch} {G : va_G} {cy : Nat → ClassId} (a : Int32) (S : HS) (h : ShM S) (ha : 0 ≤ a.toInt ∧ a.toInt < 12) : Cn l G cy yX9_minute cX9_minute 2 (some .int) 0 [.ref 2000, .int a] S 0 0 (qI (fun r S2 => r = 30 * (mA S 3 a.toNatClampNeg - mA S 3 a.toNatClampNeg / 6 * 6 + mA S 3 a.toNatClampNeg / 6 + 1) ∧ S2 = S)) := by
  refine Cn.of [some (.ref 2000), some (.int a)] (by decide) rfl (Nat.le_of_ble_eq_true rfl) ?_
  refine r_bipush (v := 30) dX9_minute_0 (by decide) ?_
  refine r_aload_n dX9_minute_2 rfl rfl ?_
  refine r_getR dX9_minute_3 lf_X9_20 rfl (by first | rfl | assumption) (shM_R h (j := 3) rfl) (shM_L h (j := 3) rfl) ?_
  refine r_iload_n dX9_minute_6 rfl rfl ?_
  refine r_iald dX9_minute_7 (by first | rfl | assumption) (show vp_in _ 12 from vp_in_iff.mpr (by (try simp only [b2i_eq0, b2i_ne0, decide_eq_true_eq] at *); (try simp only [mI, mA, sI_setA, sI_setQ, sI_setR, sA_setI, sA_setR, sA_setQ, fa_lt, fa_le, fa_eq, Int32.reduceToInt] at *); omega)) ?_
  refine r_bipush (v := 6) dX9_minute_8 (by decide) ?_
  refine r_irem dX9_minute_10 (by decide) ?_
  refine r_aload_n dX9_minute_11 rfl rfl ?_
  refine r_getR dX9_minute_12 lf_X9_20 rfl (by first | rfl | assumption) (shM_R h (j := 3) rfl) (shM_L h (j := 3) rfl) ?_
  refine r_iload_n dX9_minute_15 rfl rfl ?_
  refine r_iald dX9_minute_16 (by first | rfl | assumption) (show vp_in _ 12 from vp_in_iff.mpr (by (try simp only [b2i_eq0, b2i_ne0, decide_eq_true_eq] at *); (try simp only [mI, mA, sI_setA, sI_setQ, sI_setR, sA_setI, sA_setR, sA_setQ, fa_lt, fa_le, fa_eq, Int32.reduceToInt] at *); omega)) ?_
  refine r_bipush (v := 6) dX9_minute_17 (by decide) ?_
  refine r_idiv dX9_minute_19 (by decide) ?_
  refine r_iadd dX9_minute_20 ?_
  refine r_iconst (v := 1) dX9_minute_21 (by decide) ?_
  refine r_iadd dX9_minute_22 ?_
  refine r_imul dX9_minute_23 ?_
  exact r_iret dX9_minute_24 rfl (Nat.zero_le _) (Nat.zero_le _) ⟨_, rfl, ⟨rfl, rfl⟩⟩
set_option maxHeartbeats 4000000 in
theorem c_X9_fail {l : Launch} {G : va_G} {cy : Nat → ClassId} (S : HS) (h : ShM S) : Cn l G cy yX9_fail cX9_fail 1 none 0 [.ref 2000] S 0 0 (qV (fun S2 => S2 = setI S (fid 9 49) 2000 (if mI S 49 = -1 then mI S 48 else mI S 49))) := by
  refine Cn.of [some (.ref 2000)] (by decide) rfl (Nat.le_of_ble_eq_true rfl) ?_
  refine r_aload_n dX9_fail_0 rfl rfl ?_
  refine r_aload_n dX9_fail_1 rfl rfl ?_
  refine r_getI dX9_fail_2 lf_X9_221 rfl (by first | rfl | assumption) ?_
  refine r_iconst (v := (-1)) dX9_fail_5 (by decide) ?_
  refine r_icmp_ne 16 dX9_fail_6 (by decide) (fun q6 => ?_) (fun q6 => ?_)
  · skip
    refine r_aload_n dX9_fail_16 rfl rfl ?_
    refine r_getI dX9_fail_17 lf_X9_221 rfl (by first | rfl | assumption) ?_
    refine r_putI dX9_fail_20 (lp_X9_221 _) rfl (by first | rfl | assumption) ?_
    exact r_vret dX9_fail_23 rfl (Nat.zero_le _) (Nat.zero_le _) ⟨rfl, by first | rw [if_pos (by assumption)] | rw [if_neg (by assumption)]⟩
  · skip
    refine r_aload_n dX9_fail_9 rfl rfl ?_
    refine r_getI dX9_fail_10 lf_X9_218 rfl (by first | rfl | assumption) ?_
    refine r_goto 20 dX9_fail_13 (by decide) ?_
    refine r_putI dX9_fail_20 (lp_X9_221 _) rfl (by first | rfl | assumption) ?_
    exact r_vret dX9_fail_23 rfl (Nat.zero_le _) (Nat.zero_le _) ⟨rfl, by first | rw [if_pos (by assumption)] | rw [if_neg (by assumption)]⟩
set_option maxHeartbeats 4000000 in
theorem c_X9_say {l : Launch} {G : va_G} {cy : Nat → ClassId} (a : Int32) (S : HS) (h : ShM S) (hs : 0 ≤ (mI S 51).toInt ∧ (mI S 51).toInt < 420) : Cn l G cy yX9_say cX9_say 2 none 0 [.ref 2000, .int a] S 0 0 (qV (fun S2 => S2 = setI (setA S (ma 45) (upd (mA S 45) (mI S 51).toNatClampNeg a)) (fid 9 51) 2000 (mI S 51 + 1))) := by
  refine Cn.of [some (.ref 2000), some (.int a)] (by decide) rfl (Nat.le_of_ble_eq_true rfl) ?_
  refine r_aload_n dX9_say_0 rfl rfl ?_
  refine r_getR dX9_say_1 lf_X9_117 rfl (by first | rfl | assumption) (shM_R h (j := 45) rfl) (shM_L h (j := 45) rfl) ?_
  refine r_aload_n dX9_say_4 rfl rfl ?_
  refine r_getI dX9_say_5 lf_X9_224 rfl (by first | rfl | assumption) ?_
  refine r_iload_n dX9_say_8 rfl rfl ?_
  refine r_iast dX9_say_9 (by first | rfl | assumption) (show vp_in _ 420 from vp_in_iff.mpr (by (try simp only [b2i_eq0, b2i_ne0, decide_eq_true_eq] at *); (try simp only [mI, mA, sI_setA, sI_setQ, sI_setR, sA_setI, sA_setR, sA_setQ, fa_lt, fa_le, fa_eq, Int32.reduceToInt] at *); omega)) ?_
  refine r_aload_n dX9_say_10 rfl rfl ?_
  refine r_dup dX9_say_11 rfl ?_
  refine r_getI dX9_say_12 lf_X9_224 rfl (by first | rfl | assumption) ?_
  refine r_iconst (v := 1) dX9_say_15 (by decide) ?_
  refine r_iadd dX9_say_16 ?_
  refine r_putI dX9_say_17 (lp_X9_224 _) rfl (by first | rfl | assumption) ?_
  exact r_vret dX9_say_20 rfl (Nat.zero_le _) (Nat.zero_le _) ⟨rfl, rfl⟩
set_option maxHeartbeats 4000000 in
theorem c_X9_value {l : Launch} {G : va_G} {cy : Nat → ClassId} (a w : Int32) (S : HS) (h : ShM S) (ha : 0 ≤ a.toInt ∧ a.toInt < 400) : Cn l G cy yX9_value cX9_value 3 (some .int) 0 [.ref 2000, .int a, .int w] S 0 0 (qI (fun r S2 => r = sel w.toInt (mA S 21 a.toNatClampNeg) [mA S 18 a.toNatClampNeg, mA S 19 a.toNatClampNeg, mA S 22 a.toNatClampNeg, mI S 24 - mA S 13 a.toNatClampNeg] ∧ S2 = S)) := by
  refine Cn.of [some (.ref 2000), some (.int a), some (.int w)] (by decide) rfl (Nat.le_of_ble_eq_true rfl) ?_
  refine r_iload_n dX9_value_0 rfl rfl ?_
  by_cases e1_0 : (w).toInt = 0
  · refine r_tableIn 32 dX9_value_1 (by rw [e1_0]; decide) (by rw [e1_0]; decide) (by rw [e1_0]; rfl) (by decide) ?_
    refine r_aload_n dX9_value_32 rfl rfl ?_
    refine r_getR dX9_value_33 lf_X9_65 rfl (by first | rfl | assumption) (shM_R h (j := 18) rfl) (shM_L h (j := 18) rfl) ?_
    refine r_iload_n dX9_value_36 rfl rfl ?_
    refine r_iald dX9_value_37 (by first | rfl | assumption) (show vp_in _ 400 from vp_in_iff.mpr (by (try simp only [b2i_eq0, b2i_ne0, decide_eq_true_eq] at *); (try simp only [mI, mA, sI_setA, sI_setQ, sI_setR, sA_setI, sA_setR, sA_setQ, fa_lt, fa_le, fa_eq, Int32.reduceToInt] at *); omega)) ?_
    exact r_iret dX9_value_38 rfl (Nat.zero_le _) (Nat.zero_le _) ⟨_, rfl, ⟨by simp [sel, e1_0], rfl⟩⟩
  by_cases e1_1 : (w).toInt = 1
  · refine r_tableIn 39 dX9_value_1 (by rw [e1_1]; decide) (by rw [e1_1]; decide) (by rw [e1_1]; rfl) (by decide) ?_
    refine r_aload_n dX9_value_39 rfl rfl ?_
    refine r_getR dX9_value_40 lf_X9_68 rfl (by first | rfl | assumption) (shM_R h (j := 19) rfl) (shM_L h (j := 19) rfl) ?_
    refine r_iload_n dX9_value_43 rfl rfl ?_
    refine r_iald dX9_value_44 (by first | rfl | assumption) (show vp_in _ 400 from vp_in_iff.mpr (by (try simp only [b2i_eq0, b2i_ne0, decide_eq_true_eq] at *); (try simp only [mI, mA, sI_setA, sI_setQ, sI_setR, sA_setI, sA_setR, sA_setQ, fa_lt, fa_le, fa_eq, Int32.reduceToInt] at *); omega)) ?_
    exact r_iret dX9_value_45 rfl (Nat.zero_le _) (Nat.zero_le _) ⟨_, rfl, ⟨by simp [sel, e1_1], rfl⟩⟩
  by_cases e1_2 : (w).toInt = 2
  · refine r_tableIn 46 dX9_value_1 (by rw [e1_2]; decide) (by rw [e1_2]; decide) (by rw [e1_2]; rfl) (by decide) ?_
    refine r_aload_n dX9_value_46 rfl rfl ?_
    refine r_getR dX9_value_47 lf_X9_77 rfl (by first | rfl | assumption) (shM_R h (j := 22) rfl) (shM_L h (j := 22) rfl) ?_
    refine r_iload_n dX9_value_50 rfl rfl ?_
    refine r_iald dX9_value_51 (by first | rfl | assumption) (show vp_in _ 400 from vp_in_iff.mpr (by (try simp only [b2i_eq0, b2i_ne0, decide_eq_true_eq] at *); (try simp only [mI, mA, sI_setA, sI_setQ, sI_setR, sA_setI, sA_setR, sA_setQ, fa_lt, fa_le, fa_eq, Int32.reduceToInt] at *); omega)) ?_
    exact r_iret dX9_value_52 rfl (Nat.zero_le _) (Nat.zero_le _) ⟨_, rfl, ⟨by simp [sel, e1_2], rfl⟩⟩
  by_cases e1_3 : (w).toInt = 3
  · refine r_tableIn 53 dX9_value_1 (by rw [e1_3]; decide) (by rw [e1_3]; decide) (by rw [e1_3]; rfl) (by decide) ?_
    refine r_aload_n dX9_value_53 rfl rfl ?_
    refine r_getI dX9_value_54 lf_X9_183 rfl (by first | rfl | assumption) ?_
    refine r_aload_n dX9_value_57 rfl rfl ?_
    refine r_getR dX9_value_58 lf_X9_50 rfl (by first | rfl | assumption) (shM_R h (j := 13) rfl) (shM_L h (j := 13) rfl) ?_
    refine r_iload_n dX9_value_61 rfl rfl ?_
    refine r_iald dX9_value_62 (by first | rfl | assumption) (show vp_in _ 400 from vp_in_iff.mpr (by (try simp only [b2i_eq0, b2i_ne0, decide_eq_true_eq] at *); (try simp only [mI, mA, sI_setA, sI_setQ, sI_setR, sA_setI, sA_setR, sA_setQ, fa_lt, fa_le, fa_eq, Int32.reduceToInt] at *); omega)) ?_
    refine r_isub dX9_value_63 ?_
    exact r_iret dX9_value_64 rfl (Nat.zero_le _) (Nat.zero_le _) ⟨_, rfl, ⟨by simp [sel, e1_3], rfl⟩⟩
  refine r_tableOut 65 dX9_value_1 (by omega) (by decide) ?_
  refine r_aload_n dX9_value_65 rfl rfl ?_
  refine r_getR dX9_value_66 lf_X9_74 rfl (by first | rfl | assumption) (shM_R h (j := 21) rfl) (shM_L h (j := 21) rfl) ?_
  refine r_iload_n dX9_value_69 rfl rfl ?_
  refine r_iald dX9_value_70 (by first | rfl | assumption) (show vp_in _ 400 from vp_in_iff.mpr (by (try simp only [b2i_eq0, b2i_ne0, decide_eq_true_eq] at *); (try simp only [mI, mA, sI_setA, sI_setQ, sI_setR, sA_setI, sA_setR, sA_setQ, fa_lt, fa_le, fa_eq, Int32.reduceToInt] at *); omega)) ?_
  exact r_iret dX9_value_71 rfl (Nat.zero_le _) (Nat.zero_le _) ⟨_, rfl, ⟨by simp only [sel]; rw [if_neg (by omega), if_neg (by omega), if_neg (by omega), if_neg (by omega)], rfl⟩⟩
end
section
/-! ===== loops that count; heaps that differ in rows ===== -/
theorem R.for {l : Launch} {G : va_G} {cy : Nat → ClassId} {y : MethodName} {b : ByteArray} {nL : Nat} {rt : Option FieldType} {d mc ms : Nat} {Q : Option Value → HS → Prop} {pc : Nat} {st : List Value} {k n : Nat} {α : Type} (N : Nat) (lvf : Nat → α → List (Option Value)) (Sf : Nat → α → HS) (I : Nat → α → Prop) (hx : ∀ a, I N a → R l G cy y b nL rt d mc ms Q pc (lvf N a) st (Sf N a) k n) (hs : ∀ i a, i < N → I i a → (∀ a', I (i + 1) a' → R l G cy y b nL rt d mc ms Q pc (lvf (i + 1) a') st (Sf (i + 1) a') k n) → R l G cy y b nL rt d mc ms Q pc (lvf i a) st (Sf i a) k n) : ∀ i a, i ≤ N → I i a → R l G cy y b nL rt d mc ms Q pc (lvf i a) st (Sf i a) k n := by
  intro i
  generalize hu : N - i = u
  induction u generalizing i with
  | zero =>
    intro a hi hI
    have e : i = N := by omega
    subst e
    exact hx a hI
  | succ u ih => exact fun a hi hI => hs i a (by omega) hI (fun a' hI' => ih (i + 1) (by omega) a' (by omega) hI')
theorem setA_self (S : HS) (a : Nat) : setA S a (sA S a) = S := by
  have e : va_up (sA S) a (sA S a) = sA S := by
    funext j
    unfold va_up
    split
    · rename_i h; rw [h]
    · rfl
  unfold setA
  rw [e]
  rfl
theorem setI_self (S : HS) (f a : Nat) : setI S f a (sI S f a) = S := by
  have e : up2 (sI S) f a (sI S f a) = sI S := by
    funext i j
    unfold up2
    split
    · rename_i h; rw [h.1, h.2]
    · rfl
  unfold setI
  rw [e]
  rfl
theorem setA_setA (S : HS) (a : Nat) (r r' : Nat → Int32) : setA (setA S a r) a r' = setA S a r' := by
  have e : va_up (va_up (sA S) a r) a r' = va_up (sA S) a r' := by
    funext j
    unfold va_up
    split <;> rfl
  unfold setA
  simp only [sA, sL, sI, sR, sQ] at e ⊢
  rw [e]
theorem setA_comm (S : HS) {a c : Nat} (h : a ≠ c) (r r' : Nat → Int32) : setA (setA S a r) c r' = setA (setA S c r') a r := by
  have e : va_up (va_up (sA S) a r) c r' = va_up (va_up (sA S) c r') a r := by
    funext j
    unfold va_up
    by_cases h1 : j = c
    · subst h1; simp [Ne.symm h]
    · simp [h1]
  unfold setA
  simp only [sA, sL, sI, sR, sQ] at e ⊢
  rw [e]
theorem ShM.same {S S2 : HS} (hL : sL S2 = sL S) (hR : sR S2 = sR S) (h : ShM S) : ShM S2 := by
  unfold ShM at *
  rw [hL, hR]
  exact h
/-- the number of an Int32 that is not negative -/
def nn (x : Int32) : Nat := x.toInt.toNat
theorem nn_int {x : Int32} (h : 0 ≤ x.toInt) : (nn x : Int) = x.toInt := by unfold nn; omega
theorem clamp_nn {x : Int32} : x.toNatClampNeg = nn x := rfl
section RI
variable {l : Launch} {G : va_G} {cy : Nat → ClassId} {y : MethodName} {b : ByteArray} {nL : Nat} {rt : Option FieldType} {d mc ms : Nat} {Q : Option Value → HS → Prop} {pc : Nat} {st : List Value} {S : HS} {k n : Nat}
theorem r_in0 {r0 : List (Option Value)} {z : Int} {x v : Int32} (hd : decode b pc = .ok (.iinc 0 z, 3)) (hz : x + Int32.ofInt z = v) (hn : 0 < nL) (h : R l G cy y b nL rt d mc ms Q (pc + 3) (some (.int v) :: r0) st S k n) : R l G cy y b nL rt d mc ms Q pc (some (.int x) :: r0) st S k n := r_inc0 (x0 := none) hd hz hn h
theorem r_in1 {a0 : Option Value} {r0 : List (Option Value)} {z : Int} {x v : Int32} (hd : decode b pc = .ok (.iinc 1 z, 3)) (hz : x + Int32.ofInt z = v) (hn : 1 < nL) (hp : okp a0 = true) (h : R l G cy y b nL rt d mc ms Q (pc + 3) (a0 :: some (.int v) :: r0) st S k n) : R l G cy y b nL rt d mc ms Q pc (a0 :: some (.int x) :: r0) st S k n := r_inc1 (x0 := none) hd hz hn hp h
theorem r_in2 {a0 a1 : Option Value} {r0 : List (Option Value)} {z : Int} {x v : Int32} (hd : decode b pc = .ok (.iinc 2 z, 3)) (hz : x + Int32.ofInt z = v) (hn : 2 < nL) (hp : okp a1 = true) (h : R l G cy y b nL rt d mc ms Q (pc + 3) (a0 :: a1 :: some (.int v) :: r0) st S k n) : R l G cy y b nL rt d mc ms Q pc (a0 :: a1 :: some (.int x) :: r0) st S k n := r_inc2 (x0 := none) hd hz hn hp h
theorem r_in3 {a0 a1 a2 : Option Value} {r0 : List (Option Value)} {z : Int} {x v : Int32} (hd : decode b pc = .ok (.iinc 3 z, 3)) (hz : x + Int32.ofInt z = v) (hn : 3 < nL) (hp : okp a2 = true) (h : R l G cy y b nL rt d mc ms Q (pc + 3) (a0 :: a1 :: a2 :: some (.int v) :: r0) st S k n) : R l G cy y b nL rt d mc ms Q pc (a0 :: a1 :: a2 :: some (.int x) :: r0) st S k n := r_inc3 (x0 := none) hd hz hn hp h
theorem r_in4 {a0 a1 a2 a3 : Option Value} {r0 : List (Option Value)} {z : Int} {x v : Int32} (hd : decode b pc = .ok (.iinc 4 z, 3)) (hz : x + Int32.ofInt z = v) (hn : 4 < nL) (hp : okp a3 = true) (h : R l G cy y b nL rt d mc ms Q (pc + 3) (a0 :: a1 :: a2 :: a3 :: some (.int v) :: r0) st S k n) : R l G cy y b nL rt d mc ms Q pc (a0 :: a1 :: a2 :: a3 :: some (.int x) :: r0) st S k n := r_inc4 (x0 := none) hd hz hn hp h
theorem r_in5 {a0 a1 a2 a3 a4 : Option Value} {r0 : List (Option Value)} {z : Int} {x v : Int32} (hd : decode b pc = .ok (.iinc 5 z, 3)) (hz : x + Int32.ofInt z = v) (hn : 5 < nL) (hp : okp a4 = true) (h : R l G cy y b nL rt d mc ms Q (pc + 3) (a0 :: a1 :: a2 :: a3 :: a4 :: some (.int v) :: r0) st S k n) : R l G cy y b nL rt d mc ms Q pc (a0 :: a1 :: a2 :: a3 :: a4 :: some (.int x) :: r0) st S k n := r_inc5 (x0 := none) hd hz hn hp h
theorem r_in6 {a0 a1 a2 a3 a4 a5 : Option Value} {r0 : List (Option Value)} {z : Int} {x v : Int32} (hd : decode b pc = .ok (.iinc 6 z, 3)) (hz : x + Int32.ofInt z = v) (hn : 6 < nL) (hp : okp a5 = true) (h : R l G cy y b nL rt d mc ms Q (pc + 3) (a0 :: a1 :: a2 :: a3 :: a4 :: a5 :: some (.int v) :: r0) st S k n) : R l G cy y b nL rt d mc ms Q pc (a0 :: a1 :: a2 :: a3 :: a4 :: a5 :: some (.int x) :: r0) st S k n := r_inc6 (x0 := none) hd hz hn hp h
theorem r_in7 {a0 a1 a2 a3 a4 a5 a6 : Option Value} {r0 : List (Option Value)} {z : Int} {x v : Int32} (hd : decode b pc = .ok (.iinc 7 z, 3)) (hz : x + Int32.ofInt z = v) (hn : 7 < nL) (hp : okp a6 = true) (h : R l G cy y b nL rt d mc ms Q (pc + 3) (a0 :: a1 :: a2 :: a3 :: a4 :: a5 :: a6 :: some (.int v) :: r0) st S k n) : R l G cy y b nL rt d mc ms Q pc (a0 :: a1 :: a2 :: a3 :: a4 :: a5 :: a6 :: some (.int x) :: r0) st S k n := r_inc7 (x0 := none) hd hz hn hp h
theorem r_in8 {a0 a1 a2 a3 a4 a5 a6 a7 : Option Value} {r0 : List (Option Value)} {z : Int} {x v : Int32} (hd : decode b pc = .ok (.iinc 8 z, 3)) (hz : x + Int32.ofInt z = v) (hn : 8 < nL) (hp : okp a7 = true) (h : R l G cy y b nL rt d mc ms Q (pc + 3) (a0 :: a1 :: a2 :: a3 :: a4 :: a5 :: a6 :: a7 :: some (.int v) :: r0) st S k n) : R l G cy y b nL rt d mc ms Q pc (a0 :: a1 :: a2 :: a3 :: a4 :: a5 :: a6 :: a7 :: some (.int x) :: r0) st S k n := r_inc8 (x0 := none) hd hz hn hp h
theorem r_in9 {a0 a1 a2 a3 a4 a5 a6 a7 a8 : Option Value} {r0 : List (Option Value)} {z : Int} {x v : Int32} (hd : decode b pc = .ok (.iinc 9 z, 3)) (hz : x + Int32.ofInt z = v) (hn : 9 < nL) (hp : okp a8 = true) (h : R l G cy y b nL rt d mc ms Q (pc + 3) (a0 :: a1 :: a2 :: a3 :: a4 :: a5 :: a6 :: a7 :: a8 :: some (.int v) :: r0) st S k n) : R l G cy y b nL rt d mc ms Q pc (a0 :: a1 :: a2 :: a3 :: a4 :: a5 :: a6 :: a7 :: a8 :: some (.int x) :: r0) st S k n := r_inc9 (x0 := none) hd hz hn hp h
theorem r_in10 {a0 a1 a2 a3 a4 a5 a6 a7 a8 a9 : Option Value} {r0 : List (Option Value)} {z : Int} {x v : Int32} (hd : decode b pc = .ok (.iinc 10 z, 3)) (hz : x + Int32.ofInt z = v) (hn : 10 < nL) (hp : okp a9 = true) (h : R l G cy y b nL rt d mc ms Q (pc + 3) (a0 :: a1 :: a2 :: a3 :: a4 :: a5 :: a6 :: a7 :: a8 :: a9 :: some (.int v) :: r0) st S k n) : R l G cy y b nL rt d mc ms Q pc (a0 :: a1 :: a2 :: a3 :: a4 :: a5 :: a6 :: a7 :: a8 :: a9 :: some (.int x) :: r0) st S k n := r_inc10 (x0 := none) hd hz hn hp h
theorem r_in11 {a0 a1 a2 a3 a4 a5 a6 a7 a8 a9 a10 : Option Value} {r0 : List (Option Value)} {z : Int} {x v : Int32} (hd : decode b pc = .ok (.iinc 11 z, 3)) (hz : x + Int32.ofInt z = v) (hn : 11 < nL) (hp : okp a10 = true) (h : R l G cy y b nL rt d mc ms Q (pc + 3) (a0 :: a1 :: a2 :: a3 :: a4 :: a5 :: a6 :: a7 :: a8 :: a9 :: a10 :: some (.int v) :: r0) st S k n) : R l G cy y b nL rt d mc ms Q pc (a0 :: a1 :: a2 :: a3 :: a4 :: a5 :: a6 :: a7 :: a8 :: a9 :: a10 :: some (.int x) :: r0) st S k n := r_inc11 (x0 := none) hd hz hn hp h
theorem r_in12 {a0 a1 a2 a3 a4 a5 a6 a7 a8 a9 a10 a11 : Option Value} {r0 : List (Option Value)} {z : Int} {x v : Int32} (hd : decode b pc = .ok (.iinc 12 z, 3)) (hz : x + Int32.ofInt z = v) (hn : 12 < nL) (hp : okp a11 = true) (h : R l G cy y b nL rt d mc ms Q (pc + 3) (a0 :: a1 :: a2 :: a3 :: a4 :: a5 :: a6 :: a7 :: a8 :: a9 :: a10 :: a11 :: some (.int v) :: r0) st S k n) : R l G cy y b nL rt d mc ms Q pc (a0 :: a1 :: a2 :: a3 :: a4 :: a5 :: a6 :: a7 :: a8 :: a9 :: a10 :: a11 :: some (.int x) :: r0) st S k n := r_inc12 (x0 := none) hd hz hn hp h
theorem r_in13 {a0 a1 a2 a3 a4 a5 a6 a7 a8 a9 a10 a11 a12 : Option Value} {r0 : List (Option Value)} {z : Int} {x v : Int32} (hd : decode b pc = .ok (.iinc 13 z, 3)) (hz : x + Int32.ofInt z = v) (hn : 13 < nL) (hp : okp a12 = true) (h : R l G cy y b nL rt d mc ms Q (pc + 3) (a0 :: a1 :: a2 :: a3 :: a4 :: a5 :: a6 :: a7 :: a8 :: a9 :: a10 :: a11 :: a12 :: some (.int v) :: r0) st S k n) : R l G cy y b nL rt d mc ms Q pc (a0 :: a1 :: a2 :: a3 :: a4 :: a5 :: a6 :: a7 :: a8 :: a9 :: a10 :: a11 :: a12 :: some (.int x) :: r0) st S k n := r_inc13 (x0 := none) hd hz hn hp h
theorem r_in14 {a0 a1 a2 a3 a4 a5 a6 a7 a8 a9 a10 a11 a12 a13 : Option Value} {r0 : List (Option Value)} {z : Int} {x v : Int32} (hd : decode b pc = .ok (.iinc 14 z, 3)) (hz : x + Int32.ofInt z = v) (hn : 14 < nL) (hp : okp a13 = true) (h : R l G cy y b nL rt d mc ms Q (pc + 3) (a0 :: a1 :: a2 :: a3 :: a4 :: a5 :: a6 :: a7 :: a8 :: a9 :: a10 :: a11 :: a12 :: a13 :: some (.int v) :: r0) st S k n) : R l G cy y b nL rt d mc ms Q pc (a0 :: a1 :: a2 :: a3 :: a4 :: a5 :: a6 :: a7 :: a8 :: a9 :: a10 :: a11 :: a12 :: a13 :: some (.int x) :: r0) st S k n := r_inc14 (x0 := none) hd hz hn hp h
theorem r_in15 {a0 a1 a2 a3 a4 a5 a6 a7 a8 a9 a10 a11 a12 a13 a14 : Option Value} {r0 : List (Option Value)} {z : Int} {x v : Int32} (hd : decode b pc = .ok (.iinc 15 z, 3)) (hz : x + Int32.ofInt z = v) (hn : 15 < nL) (hp : okp a14 = true) (h : R l G cy y b nL rt d mc ms Q (pc + 3) (a0 :: a1 :: a2 :: a3 :: a4 :: a5 :: a6 :: a7 :: a8 :: a9 :: a10 :: a11 :: a12 :: a13 :: a14 :: some (.int v) :: r0) st S k n) : R l G cy y b nL rt d mc ms Q pc (a0 :: a1 :: a2 :: a3 :: a4 :: a5 :: a6 :: a7 :: a8 :: a9 :: a10 :: a11 :: a12 :: a13 :: a14 :: some (.int x) :: r0) st S k n := r_inc15 (x0 := none) hd hz hn hp h
end RI
set_option maxHeartbeats 4000000 in
theorem c_X9_count {l : Launch} {G : va_G} {cy : Nat → ClassId} (w : Int32) (S : HS) (h : ShM S) (hb : 0 ≤ (mI S 25).toInt ∧ (mI S 25).toInt ≤ 12) : Cn l G cy yX9_count cX9_count 5 (some .int) 0 [.ref 2000, .int w] S 0 0 (qI (fun r S2 => r = sel w.toInt (-1) [mI S 24, mI S 25, mI S 26, mI S 27, l_sum (mA S 0) 36, mI S 30, mI S 31, mI S 32, mI S 33, mI S 34, l_sum (mA S 6) (nn (mI S 25)), mI S 47] ∧ S2 = S)) := by
  refine Cn.of [some (.ref 2000), some (.int w), none, none, none] (by decide) rfl (Nat.le_of_ble_eq_true rfl) ?_
  refine r_iconst (v := 0) dX9_count_0 (by decide) ?_
  refine r_ist2 dX9_count_1 (Nat.le_of_ble_eq_true rfl) rfl ?_
  refine r_iconst (v := 0) dX9_count_2 (by decide) ?_
  refine r_ist3 dX9_count_3 (Nat.le_of_ble_eq_true rfl) rfl ?_
  refine r_iconst (v := 0) dX9_count_4 (by decide) ?_
  refine r_ist4 dX9_count_5 (Nat.le_of_ble_eq_true rfl) rfl ?_
  refine R.for (α := Unit) (36) (fun i a => [some (.ref 2000), some (.int w), some (.int (l_sum (mA S 0) i)), some (.int 0), some (.int (nI i))]) (fun i a => S) (fun i a => True) ?_ ?_ 0 () (Nat.zero_le _) trivial
  · intro a hI
    have hii : (nI 36).toInt = (36 : Nat) := nI_toInt (by omega)
    refine r_iload dX9_count_7 rfl ?_
    refine r_bipush (v := 36) dX9_count_9 (by decide) ?_
    refine r_icmp_ge 30 dX9_count_11 (by decide) (fun q11 => ?_) (fun q11 => ?_)
    · skip
      refine r_iconst (v := 0) dX9_count_30 (by decide) ?_
      refine r_ist4 dX9_count_31 (Nat.le_of_ble_eq_true rfl) rfl ?_
      refine R.for (α := Unit) (nn (mI S 25)) (fun i a => [some (.ref 2000), some (.int w), some (.int (l_sum (mA S 0) 36)), some (.int (l_sum (mA S 6) i)), some (.int (nI i))]) (fun i a => S) (fun i a => True) ?_ ?_ 0 () (Nat.zero_le _) trivial
      · intro a hI
        have hnb := nn_int hb.1
        have hii : (nI (nn (mI S 25))).toInt = ((nn (mI S 25) : Nat) : Int) := nI_toInt (by omega)
        refine r_iload dX9_count_33 rfl ?_
        refine r_aload_n dX9_count_35 rfl rfl ?_
        refine r_getI dX9_count_36 lf_X9_126 rfl (by first | rfl | assumption) ?_
        refine r_icmp_ge 58 dX9_count_39 (by decide) (fun q39 => ?_) (fun q39 => ?_)
        · skip
          refine r_iload_n dX9_count_58 rfl rfl ?_
          by_cases e59_0 : (w).toInt = 0
          · refine r_tableIn 120 dX9_count_59 (by rw [e59_0]; decide) (by rw [e59_0]; decide) (by rw [e59_0]; rfl) (by decide) ?_
            refine r_aload_n dX9_count_120 rfl rfl ?_
            refine r_getI dX9_count_121 lf_X9_183 rfl (by first | rfl | assumption) ?_
            exact r_iret dX9_count_124 rfl (Nat.zero_le _) (Nat.zero_le _) ⟨_, rfl, ⟨by simp [sel, e59_0], rfl⟩⟩
          by_cases e59_1 : (w).toInt = 1
          · refine r_tableIn 125 dX9_count_59 (by rw [e59_1]; decide) (by rw [e59_1]; decide) (by rw [e59_1]; rfl) (by decide) ?_
            refine r_aload_n dX9_count_125 rfl rfl ?_
            refine r_getI dX9_count_126 lf_X9_126 rfl (by first | rfl | assumption) ?_
            exact r_iret dX9_count_129 rfl (Nat.zero_le _) (Nat.zero_le _) ⟨_, rfl, ⟨by simp [sel, e59_1], rfl⟩⟩
          by_cases e59_2 : (w).toInt = 2
          · refine r_tableIn 130 dX9_count_59 (by rw [e59_2]; decide) (by rw [e59_2]; decide) (by rw [e59_2]; rfl) (by decide) ?_
            refine r_aload_n dX9_count_130 rfl rfl ?_
            refine r_getI dX9_count_131 lf_X9_140 rfl (by first | rfl | assumption) ?_
            exact r_iret dX9_count_134 rfl (Nat.zero_le _) (Nat.zero_le _) ⟨_, rfl, ⟨by simp [sel, e59_2], rfl⟩⟩
          by_cases e59_3 : (w).toInt = 3
          · refine r_tableIn 135 dX9_count_59 (by rw [e59_3]; decide) (by rw [e59_3]; decide) (by rw [e59_3]; rfl) (by decide) ?_
            refine r_aload_n dX9_count_135 rfl rfl ?_
            refine r_getI dX9_count_136 lf_X9_173 rfl (by first | rfl | assumption) ?_
            exact r_iret dX9_count_139 rfl (Nat.zero_le _) (Nat.zero_le _) ⟨_, rfl, ⟨by simp [sel, e59_3], rfl⟩⟩
          by_cases e59_4 : (w).toInt = 4
          · refine r_tableIn 140 dX9_count_59 (by rw [e59_4]; decide) (by rw [e59_4]; decide) (by rw [e59_4]; rfl) (by decide) ?_
            refine r_iload_n dX9_count_140 rfl rfl ?_
            exact r_iret dX9_count_141 rfl (Nat.zero_le _) (Nat.zero_le _) ⟨_, rfl, ⟨by simp [sel, e59_4], rfl⟩⟩
          by_cases e59_5 : (w).toInt = 5
          · refine r_tableIn 142 dX9_count_59 (by rw [e59_5]; decide) (by rw [e59_5]; decide) (by rw [e59_5]; rfl) (by decide) ?_
            refine r_aload_n dX9_count_142 rfl rfl ?_
            refine r_getI dX9_count_143 lf_X9_198 rfl (by first | rfl | assumption) ?_
            exact r_iret dX9_count_146 rfl (Nat.zero_le _) (Nat.zero_le _) ⟨_, rfl, ⟨by simp [sel, e59_5], rfl⟩⟩
          by_cases e59_6 : (w).toInt = 6
          · refine r_tableIn 147 dX9_count_59 (by rw [e59_6]; decide) (by rw [e59_6]; decide) (by rw [e59_6]; rfl) (by decide) ?_
            refine r_aload_n dX9_count_147 rfl rfl ?_
            refine r_getI dX9_count_148 lf_X9_189 rfl (by first | rfl | assumption) ?_
            exact r_iret dX9_count_151 rfl (Nat.zero_le _) (Nat.zero_le _) ⟨_, rfl, ⟨by simp [sel, e59_6], rfl⟩⟩
          by_cases e59_7 : (w).toInt = 7
          · refine r_tableIn 152 dX9_count_59 (by rw [e59_7]; decide) (by rw [e59_7]; decide) (by rw [e59_7]; rfl) (by decide) ?_
            refine r_aload_n dX9_count_152 rfl rfl ?_
            refine r_getI dX9_count_153 lf_X9_186 rfl (by first | rfl | assumption) ?_
            exact r_iret dX9_count_156 rfl (Nat.zero_le _) (Nat.zero_le _) ⟨_, rfl, ⟨by simp [sel, e59_7], rfl⟩⟩
          by_cases e59_8 : (w).toInt = 8
          · refine r_tableIn 157 dX9_count_59 (by rw [e59_8]; decide) (by rw [e59_8]; decide) (by rw [e59_8]; rfl) (by decide) ?_
            refine r_aload_n dX9_count_157 rfl rfl ?_
            refine r_getI dX9_count_158 lf_X9_157 rfl (by first | rfl | assumption) ?_
            exact r_iret dX9_count_161 rfl (Nat.zero_le _) (Nat.zero_le _) ⟨_, rfl, ⟨by simp [sel, e59_8], rfl⟩⟩
          by_cases e59_9 : (w).toInt = 9
          · refine r_tableIn 162 dX9_count_59 (by rw [e59_9]; decide) (by rw [e59_9]; decide) (by rw [e59_9]; rfl) (by decide) ?_
            refine r_aload_n dX9_count_162 rfl rfl ?_
            refine r_getI dX9_count_163 lf_X9_180 rfl (by first | rfl | assumption) ?_
            exact r_iret dX9_count_166 rfl (Nat.zero_le _) (Nat.zero_le _) ⟨_, rfl, ⟨by simp [sel, e59_9], rfl⟩⟩
          by_cases e59_10 : (w).toInt = 10
          · refine r_tableIn 167 dX9_count_59 (by rw [e59_10]; decide) (by rw [e59_10]; decide) (by rw [e59_10]; rfl) (by decide) ?_
            refine r_iload_n dX9_count_167 rfl rfl ?_
            exact r_iret dX9_count_168 rfl (Nat.zero_le _) (Nat.zero_le _) ⟨_, rfl, ⟨by simp [sel, e59_10], rfl⟩⟩
          by_cases e59_11 : (w).toInt = 11
          · refine r_tableIn 169 dX9_count_59 (by rw [e59_11]; decide) (by rw [e59_11]; decide) (by rw [e59_11]; rfl) (by decide) ?_
            refine r_aload_n dX9_count_169 rfl rfl ?_
            refine r_getI dX9_count_170 lf_X9_215 rfl (by first | rfl | assumption) ?_
            exact r_iret dX9_count_173 rfl (Nat.zero_le _) (Nat.zero_le _) ⟨_, rfl, ⟨by simp [sel, e59_11], rfl⟩⟩
          refine r_tableOut 174 dX9_count_59 (by omega) (by decide) ?_
          refine r_iconst (v := (-1)) dX9_count_174 (by decide) ?_
          exact r_iret dX9_count_175 rfl (Nat.zero_le _) (Nat.zero_le _) ⟨_, rfl, ⟨by simp only [sel]; rw [if_neg (by omega), if_neg (by omega), if_neg (by omega), if_neg (by omega), if_neg (by omega), if_neg (by omega), if_neg (by omega), if_neg (by omega), if_neg (by omega), if_neg (by omega), if_neg (by omega), if_neg (by omega)], rfl⟩⟩
        · skip
          exact absurd q39 (by (try simp only [b2i_eq0, b2i_ne0, decide_eq_true_eq] at *); (try simp only [mI, mA, sI_setA, sI_setQ, sI_setR, sA_setI, sA_setR, sA_setQ, fa_lt, fa_le, fa_eq, Int32.reduceToInt] at *); omega)
      · intro i a hi hI ih
        have hnb := nn_int hb.1
        have hii : (nI i).toInt = i := nI_toInt (by omega)
        have hic : (nI i).toNatClampNeg = i := nI_clamp (by omega)
        refine r_iload dX9_count_33 rfl ?_
        refine r_aload_n dX9_count_35 rfl rfl ?_
        refine r_getI dX9_count_36 lf_X9_126 rfl (by first | rfl | assumption) ?_
        refine r_icmp_ge 58 dX9_count_39 (by decide) (fun q39 => ?_) (fun q39 => ?_)
        · skip
          exact absurd q39 (by (try simp only [b2i_eq0, b2i_ne0, decide_eq_true_eq] at *); (try simp only [mI, mA, sI_setA, sI_setQ, sI_setR, sA_setI, sA_setR, sA_setQ, fa_lt, fa_le, fa_eq, Int32.reduceToInt] at *); omega)
        · skip
          refine r_iload_n dX9_count_42 rfl rfl ?_
          refine r_aload_n dX9_count_43 rfl rfl ?_
          refine r_getR dX9_count_44 lf_X9_29 rfl (by first | rfl | assumption) (shM_R h (j := 6) rfl) (shM_L h (j := 6) rfl) ?_
          refine r_iload dX9_count_47 rfl ?_
          refine r_iald dX9_count_49 (by first | rfl | assumption) (show vp_in _ 12 from vp_in_iff.mpr (by (try simp only [b2i_eq0, b2i_ne0, decide_eq_true_eq] at *); (try simp only [mI, mA, sI_setA, sI_setQ, sI_setR, sA_setI, sA_setR, sA_setQ, fa_lt, fa_le, fa_eq, Int32.reduceToInt] at *); omega)) ?_
          refine r_iadd dX9_count_50 ?_
          refine r_ist3 dX9_count_51 (Nat.le_of_ble_eq_true rfl) rfl ?_
          refine r_in4 dX9_count_52 (show _ + Int32.ofInt 1 = _ + 1 from rfl) (Nat.le_of_ble_eq_true rfl) rfl ?_
          refine r_goto 33 dX9_count_55 (by decide) ?_
          rw [hic, nI_1]
          exact ih () trivial
    · skip
      exact absurd q11 (by (try simp only [b2i_eq0, b2i_ne0, decide_eq_true_eq] at *); (try simp only [mI, mA, sI_setA, sI_setQ, sI_setR, sA_setI, sA_setR, sA_setQ, fa_lt, fa_le, fa_eq, Int32.reduceToInt] at *); omega)
  · intro i a hi hI ih
    have hii : (nI i).toInt = i := nI_toInt (by omega)
    have hic : (nI i).toNatClampNeg = i := nI_clamp (by omega)
    refine r_iload dX9_count_7 rfl ?_
    refine r_bipush (v := 36) dX9_count_9 (by decide) ?_
    refine r_icmp_ge 30 dX9_count_11 (by decide) (fun q11 => ?_) (fun q11 => ?_)
    · skip
      exact absurd q11 (by (try simp only [b2i_eq0, b2i_ne0, decide_eq_true_eq] at *); (try simp only [mI, mA, sI_setA, sI_setQ, sI_setR, sA_setI, sA_setR, sA_setQ, fa_lt, fa_le, fa_eq, Int32.reduceToInt] at *); omega)
    · skip
      refine r_iload_n dX9_count_14 rfl rfl ?_
      refine r_aload_n dX9_count_15 rfl rfl ?_
      refine r_getR dX9_count_16 lf_X9_9 rfl (by first | rfl | assumption) (shM_R h (j := 0) rfl) (shM_L h (j := 0) rfl) ?_
      refine r_iload dX9_count_19 rfl ?_
      refine r_iald dX9_count_21 (by first | rfl | assumption) (show vp_in _ 36 from vp_in_iff.mpr (by (try simp only [b2i_eq0, b2i_ne0, decide_eq_true_eq] at *); (try simp only [mI, mA, sI_setA, sI_setQ, sI_setR, sA_setI, sA_setR, sA_setQ, fa_lt, fa_le, fa_eq, Int32.reduceToInt] at *); omega)) ?_
      refine r_iadd dX9_count_22 ?_
      refine r_ist2 dX9_count_23 (Nat.le_of_ble_eq_true rfl) rfl ?_
      refine r_in4 dX9_count_24 (show _ + Int32.ofInt 1 = _ + 1 from rfl) (Nat.le_of_ble_eq_true rfl) rfl ?_
      refine r_goto 7 dX9_count_27 (by decide) ?_
      rw [hic, nI_1]
      exact ih () trivial
end
section
/-! ===== the system: its shape, its small methods ===== -/
abbrev cI (S : HS) (j : Nat) : Int32 := sI S (fid 8 j) 0
def refsC : List (Nat × Nat × Nat) := [(512, 0, 1), (513, 0, 5), (514, 0, 6), (515, 0, 7), (516, 0, 8), (517, 0, 10), (518, 0, 11), (519, 0, 15), (520, 0, 16), (256, 1, 2), (257, 1, 3), (258, 1, 4), (320, 8, 9), (192, 11, 12), (193, 11, 13), (194, 11, 14)]
/-- the part that never changes -/
def ShF (S : HS) : Prop := (∀ t, t < 17 → t ∈ sL S) ∧ (∀ p ∈ refsC, sR S p.1 p.2.1 = some p.2.2)
/-- the whole shape: which tags are live, who knows whom -/
def ShC (S : HS) : Prop := ShF S ∧
  (∀ t, t ∈ sL S ↔ (t < 17 ∨ (100 ≤ t ∧ t < 100 + 3 * nn (cI S 9)) ∨ (200 ≤ t ∧ t < 200 + 2 * nn (cI S 10)) ∨ (300 ≤ t ∧ t < 308 ∧ (sQ S 10 ((t - 300) / 2)).isSome = true) ∨ (1000 ≤ t ∧ t < 1000 + nn (cI S 11)))) ∧
  (∀ i, i < nn (cI S 9) → sQ S 5 i = some (100 + 3 * i) ∧ sR S (fid 0 0) (100 + 3 * i) = some (101 + 3 * i) ∧ sR S (fid 0 1) (100 + 3 * i) = some (102 + 3 * i)) ∧ (∀ i, nn (cI S 9) ≤ i → i < 12 → sQ S 5 i = none) ∧
  (∀ i, i < nn (cI S 10) → sQ S 6 i = some (200 + 2 * i) ∧ sR S (fid 7 0) (200 + 2 * i) = some (201 + 2 * i)) ∧ (∀ i, nn (cI S 10) ≤ i → i < 4 → sQ S 6 i = none) ∧
  (∀ i, i < nn (cI S 11) → sQ S 7 i = some (1000 + i)) ∧ (∀ i, nn (cI S 11) ≤ i → i < 400 → sQ S 7 i = none) ∧
  (∀ i, i < 4 → sQ S 10 i = none ∨ (sQ S 10 i = some (300 + 2 * i) ∧ sR S (fid 5 0) (300 + 2 * i) = some (301 + 2 * i))) ∧
  ((∀ f a t, sR S f a = some t → t ∈ sL S) ∧ (∀ a i t, sQ S a i = some t → t ∈ sL S)) ∧
  ((0 ≤ (cI S 9).toInt ∧ (cI S 9).toInt ≤ 12) ∧ (0 ≤ (cI S 10).toInt ∧ (cI S 10).toInt ≤ 4) ∧ (0 ≤ (cI S 11).toInt ∧ (cI S 11).toInt ≤ 400))
theorem ShC.F {S : HS} (h : ShC S) : ShF S := h.1
theorem ShC.b {S : HS} (h : ShC S) : (0 ≤ (cI S 9).toInt ∧ (cI S 9).toInt ≤ 12) := h.2.2.2.2.2.2.2.2.2.2.1
theorem ShC.y {S : HS} (h : ShC S) : (0 ≤ (cI S 10).toInt ∧ (cI S 10).toInt ≤ 4) := h.2.2.2.2.2.2.2.2.2.2.2.1
theorem ShC.l {S : HS} (h : ShC S) : (0 ≤ (cI S 11).toInt ∧ (cI S 11).toInt ≤ 400) := h.2.2.2.2.2.2.2.2.2.2.2.2
theorem ShC.q {S : HS} (h : ShC S) (a i : Nat) : okV (sL S) (va_rf (sQ S a i)) := by
  cases e : sQ S a i with
  | none => trivial
  | some t => exact h.2.2.2.2.2.2.2.2.2.1.2 a i t e
theorem ShC.lB {S : HS} (h : ShC S) {i j : Nat} (hi : i < nn (cI S 9)) (hj : j < 3) : 100 + j + 3 * i ∈ sL S := (h.2.1 _).mpr (Or.inr (Or.inl ⟨by omega, by omega⟩))
theorem ShC.lY {S : HS} (h : ShC S) {i j : Nat} (hi : i < nn (cI S 10)) (hj : j < 2) : 200 + j + 2 * i ∈ sL S := (h.2.1 _).mpr (Or.inr (Or.inr (Or.inl ⟨by omega, by omega⟩)))
theorem ShC.rB {S : HS} (h : ShC S) {i : Nat} (hi : i < nn (cI S 9)) : sQ S 5 i = some (100 + 3 * i) ∧ sR S (fid 0 0) (100 + 3 * i) = some (101 + 3 * i) ∧ sR S (fid 0 1) (100 + 3 * i) = some (102 + 3 * i) := h.2.2.1 i hi
theorem ShC.rY {S : HS} (h : ShC S) {i : Nat} (hi : i < nn (cI S 10)) : sQ S 6 i = some (200 + 2 * i) ∧ sR S (fid 7 0) (200 + 2 * i) = some (201 + 2 * i) := h.2.2.2.2.1 i hi
theorem boats_at {S : HS} (h : ShC S) {a : Int32} (ha : 0 ≤ a.toInt ∧ a.toInt ≤ 11) : sQ S 5 a.toNatClampNeg = if 0 ≤ a.toInt ∧ a.toInt < (cI S 9).toInt then some (100 + 3 * nn a) else none := by
  have hb := h.b
  rw [clamp_nn]
  split
  · exact (h.2.2.1 _ (by unfold nn; omega)).1
  · exact h.2.2.2.1 _ (by unfold nn; omega) (by unfold nn; omega)
theorem yards_at {S : HS} (h : ShC S) {a : Int32} (ha : 0 ≤ a.toInt ∧ a.toInt ≤ 3) : sQ S 6 a.toNatClampNeg = if 0 ≤ a.toInt ∧ a.toInt < (cI S 10).toInt then some (200 + 2 * nn a) else none := by
  have hb := h.y
  rw [clamp_nn]
  split
  · exact (h.2.2.2.2.1 _ (by unfold nn; omega)).1
  · exact h.2.2.2.2.2.1 _ (by unfold nn; omega) (by unfold nn; omega)
theorem lots_at {S : HS} (h : ShC S) {a : Int32} (ha : 0 ≤ a.toInt ∧ a.toInt ≤ 399) : sQ S 7 a.toNatClampNeg = if 0 ≤ a.toInt ∧ a.toInt < (cI S 11).toInt then some (1000 + nn a) else none := by
  have hb := h.l
  rw [clamp_nn]
  split
  · exact h.2.2.2.2.2.2.1 _ (by unfold nn; omega)
  · exact h.2.2.2.2.2.2.2.1 _ (by unfold nn; omega) (by unfold nn; omega)
theorem tkB {i : Nat} (h : i < 12) : tk (100 + 3 * i) = 0 := by unfold tk; rw [if_neg (by omega), if_pos (by omega), if_pos (by omega)]
theorem tkBp {i : Nat} (h : i < 12) : tk (101 + 3 * i) = 10 := by unfold tk; rw [if_neg (by omega), if_pos (by omega), if_neg (by omega)]
theorem tkBg {i : Nat} (h : i < 12) : tk (102 + 3 * i) = 10 := by unfold tk; rw [if_neg (by omega), if_pos (by omega), if_neg (by omega)]
theorem tnBp {i : Nat} (h : i < 12) : tn (101 + 3 * i) = 8 := by unfold tn; rw [if_neg (by omega), if_pos (by omega)]
theorem tnBg {i : Nat} (h : i < 12) : tn (102 + 3 * i) = 8 := by unfold tn; rw [if_neg (by omega), if_pos (by omega)]
theorem tkY {i : Nat} (h : i < 4) : tk (200 + 2 * i) = 7 := by unfold tk; rw [if_neg (by omega), if_neg (by omega), if_pos (by omega), if_pos (by omega)]
theorem tkYf {i : Nat} (h : i < 4) : tk (201 + 2 * i) = 10 := by unfold tk; rw [if_neg (by omega), if_neg (by omega), if_pos (by omega), if_neg (by omega)]
theorem tnYf {i : Nat} (h : i < 4) : tn (201 + 2 * i) = 6 := by unfold tn; rw [if_neg (by omega), if_neg (by omega), if_pos (by omega)]
theorem tkT {i : Nat} (h : i < 4) : tk (300 + 2 * i) = 5 := by unfold tk; rw [if_neg (by omega), if_neg (by omega), if_neg (by omega), if_pos (by omega), if_pos (by omega)]
theorem tkTb {i : Nat} (h : i < 4) : tk (301 + 2 * i) = 10 := by unfold tk; rw [if_neg (by omega), if_neg (by omega), if_neg (by omega), if_pos (by omega), if_neg (by omega)]
theorem tnTb {i : Nat} (h : i < 4) : tn (301 + 2 * i) = 200 := by unfold tn; rw [if_neg (by omega), if_neg (by omega), if_neg (by omega), if_pos (by omega)]
theorem tkLo {i : Nat} (h : i < 400) : tk (1000 + i) = 2 := by unfold tk; rw [if_neg (by omega), if_neg (by omega), if_neg (by omega), if_neg (by omega), if_pos (by omega)]
theorem shL_0 {S : HS} (h : ShF S) : 0 ∈ sL S := h.1 0 (by decide)
theorem shL_1 {S : HS} (h : ShF S) : 1 ∈ sL S := h.1 1 (by decide)
theorem shL_2 {S : HS} (h : ShF S) : 2 ∈ sL S := h.1 2 (by decide)
theorem shL_3 {S : HS} (h : ShF S) : 3 ∈ sL S := h.1 3 (by decide)
theorem shL_4 {S : HS} (h : ShF S) : 4 ∈ sL S := h.1 4 (by decide)
theorem shL_5 {S : HS} (h : ShF S) : 5 ∈ sL S := h.1 5 (by decide)
theorem shL_6 {S : HS} (h : ShF S) : 6 ∈ sL S := h.1 6 (by decide)
theorem shL_7 {S : HS} (h : ShF S) : 7 ∈ sL S := h.1 7 (by decide)
theorem shL_8 {S : HS} (h : ShF S) : 8 ∈ sL S := h.1 8 (by decide)
theorem shL_9 {S : HS} (h : ShF S) : 9 ∈ sL S := h.1 9 (by decide)
theorem shL_10 {S : HS} (h : ShF S) : 10 ∈ sL S := h.1 10 (by decide)
theorem shL_11 {S : HS} (h : ShF S) : 11 ∈ sL S := h.1 11 (by decide)
theorem shL_12 {S : HS} (h : ShF S) : 12 ∈ sL S := h.1 12 (by decide)
theorem shL_13 {S : HS} (h : ShF S) : 13 ∈ sL S := h.1 13 (by decide)
theorem shL_14 {S : HS} (h : ShF S) : 14 ∈ sL S := h.1 14 (by decide)
theorem shL_15 {S : HS} (h : ShF S) : 15 ∈ sL S := h.1 15 (by decide)
theorem shL_16 {S : HS} (h : ShF S) : 16 ∈ sL S := h.1 16 (by decide)
theorem shR8_0 {S : HS} (h : ShF S) : sR S (fid 8 0) 0 = some 1 := h.2 (512, 0, 1) (by decide)
theorem shR8_1 {S : HS} (h : ShF S) : sR S (fid 8 1) 0 = some 5 := h.2 (513, 0, 5) (by decide)
theorem shR8_2 {S : HS} (h : ShF S) : sR S (fid 8 2) 0 = some 6 := h.2 (514, 0, 6) (by decide)
theorem shR8_3 {S : HS} (h : ShF S) : sR S (fid 8 3) 0 = some 7 := h.2 (515, 0, 7) (by decide)
theorem shR8_4 {S : HS} (h : ShF S) : sR S (fid 8 4) 0 = some 8 := h.2 (516, 0, 8) (by decide)
theorem shR8_5 {S : HS} (h : ShF S) : sR S (fid 8 5) 0 = some 10 := h.2 (517, 0, 10) (by decide)
theorem shR8_6 {S : HS} (h : ShF S) : sR S (fid 8 6) 0 = some 11 := h.2 (518, 0, 11) (by decide)
theorem shR8_7 {S : HS} (h : ShF S) : sR S (fid 8 7) 0 = some 15 := h.2 (519, 0, 15) (by decide)
theorem shR8_8 {S : HS} (h : ShF S) : sR S (fid 8 8) 0 = some 16 := h.2 (520, 0, 16) (by decide)
theorem shR4_0 {S : HS} (h : ShF S) : sR S (fid 4 0) 1 = some 2 := h.2 (256, 1, 2) (by decide)
theorem shR4_1 {S : HS} (h : ShF S) : sR S (fid 4 1) 1 = some 3 := h.2 (257, 1, 3) (by decide)
theorem shR4_2 {S : HS} (h : ShF S) : sR S (fid 4 2) 1 = some 4 := h.2 (258, 1, 4) (by decide)
theorem shR5_0t {S : HS} (h : ShF S) : sR S (fid 5 0) 8 = some 9 := h.2 (320, 8, 9) (by decide)
theorem shR3_0 {S : HS} (h : ShF S) : sR S (fid 3 0) 11 = some 12 := h.2 (192, 11, 12) (by decide)
theorem shR3_1 {S : HS} (h : ShF S) : sR S (fid 3 1) 11 = some 13 := h.2 (193, 11, 13) (by decide)
theorem shR3_2 {S : HS} (h : ShF S) : sR S (fid 3 2) 11 = some 14 := h.2 (194, 11, 14) (by decide)
set_option maxHeartbeats 4000000 in
theorem c_X8_boatAt {l : Launch} {G : va_G} {cy : Nat → ClassId} (a : Int32) (S : HS) (h : ShC S) : Cn l G cy yX8_boatAt cX8_boatAt 2 (some (.object "HerringSea$Boat")) 1 [.ref 0, .int a] S 0 0 (qR (fun r S2 => (r = if 0 ≤ a.toInt ∧ a.toInt < (cI S 9).toInt then some (100 + 3 * nn a) else none) ∧ S2 = S)) := by
  refine Cn.of [some (.ref 0), some (.int a)] (by decide) rfl (Nat.le_of_ble_eq_true rfl) ?_
  refine r_iload_n dX8_boatAt_0 rfl rfl ?_
  refine r_iconst (v := 0) dX8_boatAt_1 (by decide) ?_
  refine r_bipush (v := 11) dX8_boatAt_2 (by decide) ?_
  refine r_invS3i dX8_boatAt_4 lm_X8_74 (c_X8_isWithin _ _ _ _) (Nat.le_of_ble_eq_true rfl) (Nat.le_of_ble_eq_true rfl) (Nat.zero_le _) (Nat.zero_le _) (fun r4 S4 hq4 => ?_)
  obtain ⟨rfl, hz4⟩ := hq4
  replace hz4 := hz4.symm
  subst hz4
  refine r_if_eq 19 dX8_boatAt_7 (by decide) (fun q7 => ?_) (fun q7 => ?_)
  · skip
    refine r_null dX8_boatAt_19 ?_
    exact r_aret (r := none) dX8_boatAt_20 rfl (Nat.zero_le _) (Nat.zero_le _) ⟨_, rfl, ⟨by first | exact boats_at h (by (try simp only [b2i_eq0, b2i_ne0, decide_eq_true_eq] at *); (try simp only [cI, sI_setA, sI_setQ, sI_setR, sA_setI, sA_setR, sA_setQ, fa_lt, fa_le, fa_eq, Int32.reduceToInt] at *); omega) | (have hb := h.b; exact (if_neg (by (try simp only [b2i_eq0, b2i_ne0, decide_eq_true_eq] at *); (try simp only [cI, sI_setA, sI_setQ, sI_setR, sA_setI, sA_setR, sA_setQ, fa_lt, fa_le, fa_eq, Int32.reduceToInt] at *); omega)).symm), rfl⟩⟩
  · skip
    refine r_aload_n dX8_boatAt_10 rfl rfl ?_
    refine r_getR dX8_boatAt_11 lf_X8_18 rfl (by first | rfl | assumption) (shR8_1 h.F) (shL_5 h.F) ?_
    refine r_iload_n dX8_boatAt_14 rfl rfl ?_
    refine r_aald12 dX8_boatAt_15 (by first | rfl | assumption) (show vp_in _ 12 from vp_in_iff.mpr (by (try simp only [b2i_eq0, b2i_ne0, decide_eq_true_eq] at *); (try simp only [cI, sI_setA, sI_setQ, sI_setR, sA_setI, sA_setR, sA_setQ, fa_lt, fa_le, fa_eq, Int32.reduceToInt] at *); omega)) (h.q _ _) ?_
    refine r_goto 20 dX8_boatAt_16 (by decide) ?_
    exact r_aret (r := _) dX8_boatAt_20 rfl (Nat.zero_le _) (Nat.zero_le _) ⟨_, rfl, ⟨by first | exact boats_at h (by (try simp only [b2i_eq0, b2i_ne0, decide_eq_true_eq] at *); (try simp only [cI, sI_setA, sI_setQ, sI_setR, sA_setI, sA_setR, sA_setQ, fa_lt, fa_le, fa_eq, Int32.reduceToInt] at *); omega) | (have hb := h.b; exact (if_neg (by (try simp only [b2i_eq0, b2i_ne0, decide_eq_true_eq] at *); (try simp only [cI, sI_setA, sI_setQ, sI_setR, sA_setI, sA_setR, sA_setQ, fa_lt, fa_le, fa_eq, Int32.reduceToInt] at *); omega)).symm), rfl⟩⟩
set_option maxHeartbeats 4000000 in
theorem c_X8_yardAt {l : Launch} {G : va_G} {cy : Nat → ClassId} (a : Int32) (S : HS) (h : ShC S) : Cn l G cy yX8_yardAt cX8_yardAt 2 (some (.object "HerringSea$Yard")) 1 [.ref 0, .int a] S 0 0 (qR (fun r S2 => (r = if 0 ≤ a.toInt ∧ a.toInt < (cI S 10).toInt then some (200 + 2 * nn a) else none) ∧ S2 = S)) := by
  refine Cn.of [some (.ref 0), some (.int a)] (by decide) rfl (Nat.le_of_ble_eq_true rfl) ?_
  refine r_iload_n dX8_yardAt_0 rfl rfl ?_
  refine r_iconst (v := 0) dX8_yardAt_1 (by decide) ?_
  refine r_iconst (v := 3) dX8_yardAt_2 (by decide) ?_
  refine r_invS3i dX8_yardAt_3 lm_X8_74 (c_X8_isWithin _ _ _ _) (Nat.le_of_ble_eq_true rfl) (Nat.le_of_ble_eq_true rfl) (Nat.zero_le _) (Nat.zero_le _) (fun r3 S3 hq3 => ?_)
  obtain ⟨rfl, hz3⟩ := hq3
  replace hz3 := hz3.symm
  subst hz3
  refine r_if_eq 18 dX8_yardAt_6 (by decide) (fun q6 => ?_) (fun q6 => ?_)
  · skip
    refine r_null dX8_yardAt_18 ?_
    exact r_aret (r := none) dX8_yardAt_19 rfl (Nat.zero_le _) (Nat.zero_le _) ⟨_, rfl, ⟨by first | exact yards_at h (by (try simp only [b2i_eq0, b2i_ne0, decide_eq_true_eq] at *); (try simp only [cI, sI_setA, sI_setQ, sI_setR, sA_setI, sA_setR, sA_setQ, fa_lt, fa_le, fa_eq, Int32.reduceToInt] at *); omega) | (have hb := h.y; exact (if_neg (by (try simp only [b2i_eq0, b2i_ne0, decide_eq_true_eq] at *); (try simp only [cI, sI_setA, sI_setQ, sI_setR, sA_setI, sA_setR, sA_setQ, fa_lt, fa_le, fa_eq, Int32.reduceToInt] at *); omega)).symm), rfl⟩⟩
  · skip
    refine r_aload_n dX8_yardAt_9 rfl rfl ?_
    refine r_getR dX8_yardAt_10 lf_X8_24 rfl (by first | rfl | assumption) (shR8_2 h.F) (shL_6 h.F) ?_
    refine r_iload_n dX8_yardAt_13 rfl rfl ?_
    refine r_aald15 dX8_yardAt_14 (by first | rfl | assumption) (show vp_in _ 4 from vp_in_iff.mpr (by (try simp only [b2i_eq0, b2i_ne0, decide_eq_true_eq] at *); (try simp only [cI, sI_setA, sI_setQ, sI_setR, sA_setI, sA_setR, sA_setQ, fa_lt, fa_le, fa_eq, Int32.reduceToInt] at *); omega)) (h.q _ _) ?_
    refine r_goto 19 dX8_yardAt_15 (by decide) ?_
    exact r_aret (r := _) dX8_yardAt_19 rfl (Nat.zero_le _) (Nat.zero_le _) ⟨_, rfl, ⟨by first | exact yards_at h (by (try simp only [b2i_eq0, b2i_ne0, decide_eq_true_eq] at *); (try simp only [cI, sI_setA, sI_setQ, sI_setR, sA_setI, sA_setR, sA_setQ, fa_lt, fa_le, fa_eq, Int32.reduceToInt] at *); omega) | (have hb := h.y; exact (if_neg (by (try simp only [b2i_eq0, b2i_ne0, decide_eq_true_eq] at *); (try simp only [cI, sI_setA, sI_setQ, sI_setR, sA_setI, sA_setR, sA_setQ, fa_lt, fa_le, fa_eq, Int32.reduceToInt] at *); omega)).symm), rfl⟩⟩
set_option maxHeartbeats 4000000 in
theorem c_X8_lotAt {l : Launch} {G : va_G} {cy : Nat → ClassId} (a : Int32) (S : HS) (h : ShC S) : Cn l G cy yX8_lotAt cX8_lotAt 2 (some (.object "HerringSea$Lot")) 1 [.ref 0, .int a] S 0 0 (qR (fun r S2 => (r = if 0 ≤ a.toInt ∧ a.toInt < (cI S 11).toInt then some (1000 + nn a) else none) ∧ S2 = S)) := by
  refine Cn.of [some (.ref 0), some (.int a)] (by decide) rfl (Nat.le_of_ble_eq_true rfl) ?_
  refine r_iload_n dX8_lotAt_0 rfl rfl ?_
  refine r_iconst (v := 0) dX8_lotAt_1 (by decide) ?_
  refine r_sipush (v := 399) dX8_lotAt_2 (by decide) ?_
  refine r_invS3i dX8_lotAt_5 lm_X8_74 (c_X8_isWithin _ _ _ _) (Nat.le_of_ble_eq_true rfl) (Nat.le_of_ble_eq_true rfl) (Nat.zero_le _) (Nat.zero_le _) (fun r5 S5 hq5 => ?_)
  obtain ⟨rfl, hz5⟩ := hq5
  replace hz5 := hz5.symm
  subst hz5
  refine r_if_eq 20 dX8_lotAt_8 (by decide) (fun q8 => ?_) (fun q8 => ?_)
  · skip
    refine r_null dX8_lotAt_20 ?_
    exact r_aret (r := none) dX8_lotAt_21 rfl (Nat.zero_le _) (Nat.zero_le _) ⟨_, rfl, ⟨by first | exact lots_at h (by (try simp only [b2i_eq0, b2i_ne0, decide_eq_true_eq] at *); (try simp only [cI, sI_setA, sI_setQ, sI_setR, sA_setI, sA_setR, sA_setQ, fa_lt, fa_le, fa_eq, Int32.reduceToInt] at *); omega) | (have hb := h.l; exact (if_neg (by (try simp only [b2i_eq0, b2i_ne0, decide_eq_true_eq] at *); (try simp only [cI, sI_setA, sI_setQ, sI_setR, sA_setI, sA_setR, sA_setQ, fa_lt, fa_le, fa_eq, Int32.reduceToInt] at *); omega)).symm), rfl⟩⟩
  · skip
    refine r_aload_n dX8_lotAt_11 rfl rfl ?_
    refine r_getR dX8_lotAt_12 lf_X8_30 rfl (by first | rfl | assumption) (shR8_3 h.F) (shL_7 h.F) ?_
    refine r_iload_n dX8_lotAt_15 rfl rfl ?_
    refine r_aald13 dX8_lotAt_16 (by first | rfl | assumption) (show vp_in _ 400 from vp_in_iff.mpr (by (try simp only [b2i_eq0, b2i_ne0, decide_eq_true_eq] at *); (try simp only [cI, sI_setA, sI_setQ, sI_setR, sA_setI, sA_setR, sA_setQ, fa_lt, fa_le, fa_eq, Int32.reduceToInt] at *); omega)) (h.q _ _) ?_
    refine r_goto 21 dX8_lotAt_17 (by decide) ?_
    exact r_aret (r := _) dX8_lotAt_21 rfl (Nat.zero_le _) (Nat.zero_le _) ⟨_, rfl, ⟨by first | exact lots_at h (by (try simp only [b2i_eq0, b2i_ne0, decide_eq_true_eq] at *); (try simp only [cI, sI_setA, sI_setQ, sI_setR, sA_setI, sA_setR, sA_setQ, fa_lt, fa_le, fa_eq, Int32.reduceToInt] at *); omega) | (have hb := h.l; exact (if_neg (by (try simp only [b2i_eq0, b2i_ne0, decide_eq_true_eq] at *); (try simp only [cI, sI_setA, sI_setQ, sI_setR, sA_setI, sA_setR, sA_setQ, fa_lt, fa_le, fa_eq, Int32.reduceToInt] at *); omega)).symm), rfl⟩⟩
set_option maxHeartbeats 4000000 in
theorem c_X8_textAt {l : Launch} {G : va_G} {cy : Nat → ClassId} (a : Int32) (S : HS) (h : ShC S) : Cn l G cy yX8_textAt cX8_textAt 2 (some (.object "HerringSea$Text")) 1 [.ref 0, .int a] S 0 0 (qR (fun r S2 => (r = if 0 ≤ a.toInt ∧ a.toInt < 4 then sQ S 10 (nn a) else none) ∧ S2 = S)) := by
  refine Cn.of [some (.ref 0), some (.int a)] (by decide) rfl (Nat.le_of_ble_eq_true rfl) ?_
  refine r_iload_n dX8_textAt_0 rfl rfl ?_
  refine r_iconst (v := 0) dX8_textAt_1 (by decide) ?_
  refine r_iconst (v := 3) dX8_textAt_2 (by decide) ?_
  refine r_invS3i dX8_textAt_3 lm_X8_74 (c_X8_isWithin _ _ _ _) (Nat.le_of_ble_eq_true rfl) (Nat.le_of_ble_eq_true rfl) (Nat.zero_le _) (Nat.zero_le _) (fun r3 S3 hq3 => ?_)
  obtain ⟨rfl, hz3⟩ := hq3
  replace hz3 := hz3.symm
  subst hz3
  refine r_if_eq 18 dX8_textAt_6 (by decide) (fun q6 => ?_) (fun q6 => ?_)
  · skip
    refine r_null dX8_textAt_18 ?_
    exact r_aret (r := none) dX8_textAt_19 rfl (Nat.zero_le _) (Nat.zero_le _) ⟨_, rfl, ⟨by first | exact (if_pos (by (try simp only [b2i_eq0, b2i_ne0, decide_eq_true_eq] at *); (try simp only [cI, sI_setA, sI_setQ, sI_setR, sA_setI, sA_setR, sA_setQ, fa_lt, fa_le, fa_eq, Int32.reduceToInt] at *); omega)).symm | exact (if_neg (by (try simp only [b2i_eq0, b2i_ne0, decide_eq_true_eq] at *); (try simp only [cI, sI_setA, sI_setQ, sI_setR, sA_setI, sA_setR, sA_setQ, fa_lt, fa_le, fa_eq, Int32.reduceToInt] at *); omega)).symm, rfl⟩⟩
  · skip
    refine r_aload_n dX8_textAt_9 rfl rfl ?_
    refine r_getR dX8_textAt_10 lf_X8_41 rfl (by first | rfl | assumption) (shR8_5 h.F) (shL_10 h.F) ?_
    refine r_iload_n dX8_textAt_13 rfl rfl ?_
    refine r_aald14 dX8_textAt_14 (by first | rfl | assumption) (show vp_in _ 4 from vp_in_iff.mpr (by (try simp only [b2i_eq0, b2i_ne0, decide_eq_true_eq] at *); (try simp only [cI, sI_setA, sI_setQ, sI_setR, sA_setI, sA_setR, sA_setQ, fa_lt, fa_le, fa_eq, Int32.reduceToInt] at *); omega)) (h.q _ _) ?_
    refine r_goto 19 dX8_textAt_15 (by decide) ?_
    exact r_aret (r := _) dX8_textAt_19 rfl (Nat.zero_le _) (Nat.zero_le _) ⟨_, rfl, ⟨by first | exact (if_pos (by (try simp only [b2i_eq0, b2i_ne0, decide_eq_true_eq] at *); (try simp only [cI, sI_setA, sI_setQ, sI_setR, sA_setI, sA_setR, sA_setQ, fa_lt, fa_le, fa_eq, Int32.reduceToInt] at *); omega)).symm | exact (if_neg (by (try simp only [b2i_eq0, b2i_ne0, decide_eq_true_eq] at *); (try simp only [cI, sI_setA, sI_setQ, sI_setR, sA_setI, sA_setR, sA_setQ, fa_lt, fa_le, fa_eq, Int32.reduceToInt] at *); omega)).symm, rfl⟩⟩
set_option maxHeartbeats 4000000 in
theorem c_X8_shoal {l : Launch} {G : va_G} {cy : Nat → ClassId} (a w : Int32) (S : HS) (h : ShF S) : Cn l G cy yX8_shoal cX8_shoal 3 (some .boolean) 1 [.ref 0, .int a, .int w] S 0 0 (qI (fun r S2 => r = b2i (0 ≤ a.toInt ∧ a.toInt < 36 ∧ 0 ≤ w.toInt ∧ w.toInt ≤ 10000) ∧ S2 = if (0 ≤ a.toInt ∧ a.toInt < 36 ∧ 0 ≤ w.toInt ∧ w.toInt ≤ 10000) then setA S 2 (upd (sA S 2) a.toNatClampNeg w) else S)) := by
  refine Cn.of [some (.ref 0), some (.int a), some (.int w)] (by decide) rfl (Nat.le_of_ble_eq_true rfl) ?_
  refine r_iload_n dX8_shoal_0 rfl rfl ?_
  refine r_invS1i dX8_shoal_1 lm_X8_70 (c_X4_isCell _ _) (Nat.le_of_ble_eq_true rfl) (Nat.le_of_ble_eq_true rfl) (Nat.zero_le _) (Nat.zero_le _) (fun r1 S1 hq1 => ?_)
  obtain ⟨rfl, hz1⟩ := hq1
  replace hz1 := hz1.symm
  subst hz1
  refine r_if_eq 18 dX8_shoal_4 (by decide) (fun q4 => ?_) (fun q4 => ?_)
  · skip
    refine r_iconst (v := 0) dX8_shoal_18 (by decide) ?_
    exact r_zret dX8_shoal_19 rfl rfl (Nat.zero_le _) (Nat.zero_le _) ⟨_, rfl, by first | exact ⟨(b2i_t (by (try simp only [b2i_eq0, b2i_ne0, decide_eq_true_eq] at *); (try simp only [cI, sI_setA, sI_setQ, sI_setR, sA_setI, sA_setR, sA_setQ, fa_lt, fa_le, fa_eq, Int32.reduceToInt] at *); omega)).symm, (if_pos (by (try simp only [b2i_eq0, b2i_ne0, decide_eq_true_eq] at *); (try simp only [cI, sI_setA, sI_setQ, sI_setR, sA_setI, sA_setR, sA_setQ, fa_lt, fa_le, fa_eq, Int32.reduceToInt] at *); omega)).symm⟩ | exact ⟨(b2i_f (by (try simp only [b2i_eq0, b2i_ne0, decide_eq_true_eq] at *); (try simp only [cI, sI_setA, sI_setQ, sI_setR, sA_setI, sA_setR, sA_setQ, fa_lt, fa_le, fa_eq, Int32.reduceToInt] at *); omega)).symm, (if_neg (by (try simp only [b2i_eq0, b2i_ne0, decide_eq_true_eq] at *); (try simp only [cI, sI_setA, sI_setQ, sI_setR, sA_setI, sA_setR, sA_setQ, fa_lt, fa_le, fa_eq, Int32.reduceToInt] at *); omega)).symm⟩⟩
  · skip
    refine r_iload_n dX8_shoal_7 rfl rfl ?_
    refine r_iconst (v := 0) dX8_shoal_8 (by decide) ?_
    refine r_sipush (v := 10000) dX8_shoal_9 (by decide) ?_
    refine r_invS3i dX8_shoal_12 lm_X8_74 (c_X8_isWithin _ _ _ _) (Nat.le_of_ble_eq_true rfl) (Nat.le_of_ble_eq_true rfl) (Nat.zero_le _) (Nat.zero_le _) (fun r12 S12 hq12 => ?_)
    obtain ⟨rfl, hz12⟩ := hq12
    replace hz12 := hz12.symm
    subst hz12
    refine r_if_ne 20 dX8_shoal_15 (by decide) (fun q15 => ?_) (fun q15 => ?_)
    · skip
      refine r_aload_n dX8_shoal_20 rfl rfl ?_
      refine r_getR dX8_shoal_21 lf_X8_12 rfl (by first | rfl | assumption) (shR8_0 h) (shL_1 h) ?_
      refine r_getR dX8_shoal_24 lf_X8_78 rfl (by first | rfl | assumption) (shR4_0 h) (shL_2 h) ?_
      refine r_iload_n dX8_shoal_27 rfl rfl ?_
      refine r_iload_n dX8_shoal_28 rfl rfl ?_
      refine r_iast dX8_shoal_29 (by first | rfl | assumption) (show vp_in _ 36 from vp_in_iff.mpr (by (try simp only [b2i_eq0, b2i_ne0, decide_eq_true_eq] at *); (try simp only [cI, sI_setA, sI_setQ, sI_setR, sA_setI, sA_setR, sA_setQ, fa_lt, fa_le, fa_eq, Int32.reduceToInt] at *); omega)) ?_
      refine r_iconst (v := 1) dX8_shoal_30 (by decide) ?_
      exact r_zret dX8_shoal_31 rfl rfl (Nat.zero_le _) (Nat.zero_le _) ⟨_, rfl, by first | exact ⟨(b2i_t (by (try simp only [b2i_eq0, b2i_ne0, decide_eq_true_eq] at *); (try simp only [cI, sI_setA, sI_setQ, sI_setR, sA_setI, sA_setR, sA_setQ, fa_lt, fa_le, fa_eq, Int32.reduceToInt] at *); omega)).symm, (if_pos (by (try simp only [b2i_eq0, b2i_ne0, decide_eq_true_eq] at *); (try simp only [cI, sI_setA, sI_setQ, sI_setR, sA_setI, sA_setR, sA_setQ, fa_lt, fa_le, fa_eq, Int32.reduceToInt] at *); omega)).symm⟩ | exact ⟨(b2i_f (by (try simp only [b2i_eq0, b2i_ne0, decide_eq_true_eq] at *); (try simp only [cI, sI_setA, sI_setQ, sI_setR, sA_setI, sA_setR, sA_setQ, fa_lt, fa_le, fa_eq, Int32.reduceToInt] at *); omega)).symm, (if_neg (by (try simp only [b2i_eq0, b2i_ne0, decide_eq_true_eq] at *); (try simp only [cI, sI_setA, sI_setQ, sI_setR, sA_setI, sA_setR, sA_setQ, fa_lt, fa_le, fa_eq, Int32.reduceToInt] at *); omega)).symm⟩⟩
    · skip
      refine r_iconst (v := 0) dX8_shoal_18 (by decide) ?_
      exact r_zret dX8_shoal_19 rfl rfl (Nat.zero_le _) (Nat.zero_le _) ⟨_, rfl, by first | exact ⟨(b2i_t (by (try simp only [b2i_eq0, b2i_ne0, decide_eq_true_eq] at *); (try simp only [cI, sI_setA, sI_setQ, sI_setR, sA_setI, sA_setR, sA_setQ, fa_lt, fa_le, fa_eq, Int32.reduceToInt] at *); omega)).symm, (if_pos (by (try simp only [b2i_eq0, b2i_ne0, decide_eq_true_eq] at *); (try simp only [cI, sI_setA, sI_setQ, sI_setR, sA_setI, sA_setR, sA_setQ, fa_lt, fa_le, fa_eq, Int32.reduceToInt] at *); omega)).symm⟩ | exact ⟨(b2i_f (by (try simp only [b2i_eq0, b2i_ne0, decide_eq_true_eq] at *); (try simp only [cI, sI_setA, sI_setQ, sI_setR, sA_setI, sA_setR, sA_setQ, fa_lt, fa_le, fa_eq, Int32.reduceToInt] at *); omega)).symm, (if_neg (by (try simp only [b2i_eq0, b2i_ne0, decide_eq_true_eq] at *); (try simp only [cI, sI_setA, sI_setQ, sI_setR, sA_setI, sA_setR, sA_setQ, fa_lt, fa_le, fa_eq, Int32.reduceToInt] at *); omega)).symm⟩⟩
set_option maxHeartbeats 4000000 in
theorem c_X8_open {l : Launch} {G : va_G} {cy : Nat → ClassId} (a w : Int32) (S : HS) (h : ShF S) : Cn l G cy yX8_open cX8_open 3 (some .boolean) 1 [.ref 0, .int a, .int w] S 0 0 (qI (fun r S2 => r = b2i (0 ≤ a.toInt ∧ a.toInt < 36 ∧ ¬ (sA S 3 a.toNatClampNeg).toInt = w.toInt) ∧ S2 = if (0 ≤ a.toInt ∧ a.toInt < 36 ∧ ¬ (sA S 3 a.toNatClampNeg).toInt = w.toInt) then setA S 3 (upd (sA S 3) a.toNatClampNeg (vp_nar .boolean w)) else S)) := by
  refine Cn.of [some (.ref 0), some (.int a), some (.int w)] (by decide) rfl (Nat.le_of_ble_eq_true rfl) ?_
  refine r_iload_n dX8_open_0 rfl rfl ?_
  refine r_invS1i dX8_open_1 lm_X8_70 (c_X4_isCell _ _) (Nat.le_of_ble_eq_true rfl) (Nat.le_of_ble_eq_true rfl) (Nat.zero_le _) (Nat.zero_le _) (fun r1 S1 hq1 => ?_)
  obtain ⟨rfl, hz1⟩ := hq1
  replace hz1 := hz1.symm
  subst hz1
  refine r_if_eq 20 dX8_open_4 (by decide) (fun q4 => ?_) (fun q4 => ?_)
  · skip
    refine r_iconst (v := 0) dX8_open_20 (by decide) ?_
    exact r_zret dX8_open_21 rfl rfl (Nat.zero_le _) (Nat.zero_le _) ⟨_, rfl, by first | exact ⟨(b2i_t (by (try simp only [b2i_eq0, b2i_ne0, decide_eq_true_eq] at *); (try simp only [cI, sI_setA, sI_setQ, sI_setR, sA_setI, sA_setR, sA_setQ, fa_lt, fa_le, fa_eq, Int32.reduceToInt] at *); omega)).symm, (if_pos (by (try simp only [b2i_eq0, b2i_ne0, decide_eq_true_eq] at *); (try simp only [cI, sI_setA, sI_setQ, sI_setR, sA_setI, sA_setR, sA_setQ, fa_lt, fa_le, fa_eq, Int32.reduceToInt] at *); omega)).symm⟩ | exact ⟨(b2i_f (by (try simp only [b2i_eq0, b2i_ne0, decide_eq_true_eq] at *); (try simp only [cI, sI_setA, sI_setQ, sI_setR, sA_setI, sA_setR, sA_setQ, fa_lt, fa_le, fa_eq, Int32.reduceToInt] at *); omega)).symm, (if_neg (by (try simp only [b2i_eq0, b2i_ne0, decide_eq_true_eq] at *); (try simp only [cI, sI_setA, sI_setQ, sI_setR, sA_setI, sA_setR, sA_setQ, fa_lt, fa_le, fa_eq, Int32.reduceToInt] at *); omega)).symm⟩⟩
  · skip
    refine r_aload_n dX8_open_7 rfl rfl ?_
    refine r_getR dX8_open_8 lf_X8_12 rfl (by first | rfl | assumption) (shR8_0 h) (shL_1 h) ?_
    refine r_getR dX8_open_11 lf_X8_82 rfl (by first | rfl | assumption) (shR4_1 h) (shL_3 h) ?_
    refine r_iload_n dX8_open_14 rfl rfl ?_
    refine r_zald dX8_open_15 (by first | rfl | assumption) (show vp_in _ 36 from vp_in_iff.mpr (by (try simp only [b2i_eq0, b2i_ne0, decide_eq_true_eq] at *); (try simp only [cI, sI_setA, sI_setQ, sI_setR, sA_setI, sA_setR, sA_setQ, fa_lt, fa_le, fa_eq, Int32.reduceToInt] at *); omega)) ?_
    refine r_iload_n dX8_open_16 rfl rfl ?_
    refine r_icmp_ne 22 dX8_open_17 (by decide) (fun q17 => ?_) (fun q17 => ?_)
    · skip
      refine r_aload_n dX8_open_22 rfl rfl ?_
      refine r_getR dX8_open_23 lf_X8_12 rfl (by first | rfl | assumption) (shR8_0 h) (shL_1 h) ?_
      refine r_getR dX8_open_26 lf_X8_82 rfl (by first | rfl | assumption) (shR4_1 h) (shL_3 h) ?_
      refine r_iload_n dX8_open_29 rfl rfl ?_
      refine r_iload_n dX8_open_30 rfl rfl ?_
      refine r_zast dX8_open_31 (by first | rfl | assumption) (show vp_in _ 36 from vp_in_iff.mpr (by (try simp only [b2i_eq0, b2i_ne0, decide_eq_true_eq] at *); (try simp only [cI, sI_setA, sI_setQ, sI_setR, sA_setI, sA_setR, sA_setQ, fa_lt, fa_le, fa_eq, Int32.reduceToInt] at *); omega)) ?_
      refine r_iconst (v := 1) dX8_open_32 (by decide) ?_
      exact r_zret dX8_open_33 rfl rfl (Nat.zero_le _) (Nat.zero_le _) ⟨_, rfl, by first | exact ⟨(b2i_t (by (try simp only [b2i_eq0, b2i_ne0, decide_eq_true_eq] at *); (try simp only [cI, sI_setA, sI_setQ, sI_setR, sA_setI, sA_setR, sA_setQ, fa_lt, fa_le, fa_eq, Int32.reduceToInt] at *); omega)).symm, (if_pos (by (try simp only [b2i_eq0, b2i_ne0, decide_eq_true_eq] at *); (try simp only [cI, sI_setA, sI_setQ, sI_setR, sA_setI, sA_setR, sA_setQ, fa_lt, fa_le, fa_eq, Int32.reduceToInt] at *); omega)).symm⟩ | exact ⟨(b2i_f (by (try simp only [b2i_eq0, b2i_ne0, decide_eq_true_eq] at *); (try simp only [cI, sI_setA, sI_setQ, sI_setR, sA_setI, sA_setR, sA_setQ, fa_lt, fa_le, fa_eq, Int32.reduceToInt] at *); omega)).symm, (if_neg (by (try simp only [b2i_eq0, b2i_ne0, decide_eq_true_eq] at *); (try simp only [cI, sI_setA, sI_setQ, sI_setR, sA_setI, sA_setR, sA_setQ, fa_lt, fa_le, fa_eq, Int32.reduceToInt] at *); omega)).symm⟩⟩
    · skip
      refine r_iconst (v := 0) dX8_open_20 (by decide) ?_
      exact r_zret dX8_open_21 rfl rfl (Nat.zero_le _) (Nat.zero_le _) ⟨_, rfl, by first | exact ⟨(b2i_t (by (try simp only [b2i_eq0, b2i_ne0, decide_eq_true_eq] at *); (try simp only [cI, sI_setA, sI_setQ, sI_setR, sA_setI, sA_setR, sA_setQ, fa_lt, fa_le, fa_eq, Int32.reduceToInt] at *); omega)).symm, (if_pos (by (try simp only [b2i_eq0, b2i_ne0, decide_eq_true_eq] at *); (try simp only [cI, sI_setA, sI_setQ, sI_setR, sA_setI, sA_setR, sA_setQ, fa_lt, fa_le, fa_eq, Int32.reduceToInt] at *); omega)).symm⟩ | exact ⟨(b2i_f (by (try simp only [b2i_eq0, b2i_ne0, decide_eq_true_eq] at *); (try simp only [cI, sI_setA, sI_setQ, sI_setR, sA_setI, sA_setR, sA_setQ, fa_lt, fa_le, fa_eq, Int32.reduceToInt] at *); omega)).symm, (if_neg (by (try simp only [b2i_eq0, b2i_ne0, decide_eq_true_eq] at *); (try simp only [cI, sI_setA, sI_setQ, sI_setR, sA_setI, sA_setR, sA_setQ, fa_lt, fa_le, fa_eq, Int32.reduceToInt] at *); omega)).symm⟩⟩
set_option maxHeartbeats 4000000 in
theorem c_X8_drift {l : Launch} {G : va_G} {cy : Nat → ClassId} (a : Int32) (S : HS) (h : ShF S) : Cn l G cy yX8_drift cX8_drift 2 (some .boolean) 1 [.ref 0, .int a] S 0 0 (qI (fun r S2 => r = b2i (0 ≤ a.toInt ∧ a.toInt ≤ 4) ∧ S2 = if (0 ≤ a.toInt ∧ a.toInt ≤ 4) then setI S (fid 4 3) 1 a else S)) := by
  refine Cn.of [some (.ref 0), some (.int a)] (by decide) rfl (Nat.le_of_ble_eq_true rfl) ?_
  refine r_iload_n dX8_drift_0 rfl rfl ?_
  refine r_iconst (v := 0) dX8_drift_1 (by decide) ?_
  refine r_iconst (v := 4) dX8_drift_2 (by decide) ?_
  refine r_invS3i dX8_drift_3 lm_X8_74 (c_X8_isWithin _ _ _ _) (Nat.le_of_ble_eq_true rfl) (Nat.le_of_ble_eq_true rfl) (Nat.zero_le _) (Nat.zero_le _) (fun r3 S3 hq3 => ?_)
  obtain ⟨rfl, hz3⟩ := hq3
  replace hz3 := hz3.symm
  subst hz3
  refine r_if_ne 11 dX8_drift_6 (by decide) (fun q6 => ?_) (fun q6 => ?_)
  · skip
    refine r_aload_n dX8_drift_11 rfl rfl ?_
    refine r_getR dX8_drift_12 lf_X8_12 rfl (by first | rfl | assumption) (shR8_0 h) (shL_1 h) ?_
    refine r_iload_n dX8_drift_15 rfl rfl ?_
    refine r_putI dX8_drift_16 (lp_X8_86 _) rfl (by first | rfl | assumption) ?_
    refine r_iconst (v := 1) dX8_drift_19 (by decide) ?_
    exact r_zret dX8_drift_20 rfl rfl (Nat.zero_le _) (Nat.zero_le _) ⟨_, rfl, by first | exact ⟨(b2i_t (by (try simp only [b2i_eq0, b2i_ne0, decide_eq_true_eq] at *); (try simp only [cI, sI_setA, sI_setQ, sI_setR, sA_setI, sA_setR, sA_setQ, fa_lt, fa_le, fa_eq, Int32.reduceToInt] at *); omega)).symm, (if_pos (by (try simp only [b2i_eq0, b2i_ne0, decide_eq_true_eq] at *); (try simp only [cI, sI_setA, sI_setQ, sI_setR, sA_setI, sA_setR, sA_setQ, fa_lt, fa_le, fa_eq, Int32.reduceToInt] at *); omega)).symm⟩ | exact ⟨(b2i_f (by (try simp only [b2i_eq0, b2i_ne0, decide_eq_true_eq] at *); (try simp only [cI, sI_setA, sI_setQ, sI_setR, sA_setI, sA_setR, sA_setQ, fa_lt, fa_le, fa_eq, Int32.reduceToInt] at *); omega)).symm, (if_neg (by (try simp only [b2i_eq0, b2i_ne0, decide_eq_true_eq] at *); (try simp only [cI, sI_setA, sI_setQ, sI_setR, sA_setI, sA_setR, sA_setQ, fa_lt, fa_le, fa_eq, Int32.reduceToInt] at *); omega)).symm⟩⟩
  · skip
    refine r_iconst (v := 0) dX8_drift_9 (by decide) ?_
    exact r_zret dX8_drift_10 rfl rfl (Nat.zero_le _) (Nat.zero_le _) ⟨_, rfl, by first | exact ⟨(b2i_t (by (try simp only [b2i_eq0, b2i_ne0, decide_eq_true_eq] at *); (try simp only [cI, sI_setA, sI_setQ, sI_setR, sA_setI, sA_setR, sA_setQ, fa_lt, fa_le, fa_eq, Int32.reduceToInt] at *); omega)).symm, (if_pos (by (try simp only [b2i_eq0, b2i_ne0, decide_eq_true_eq] at *); (try simp only [cI, sI_setA, sI_setQ, sI_setR, sA_setI, sA_setR, sA_setQ, fa_lt, fa_le, fa_eq, Int32.reduceToInt] at *); omega)).symm⟩ | exact ⟨(b2i_f (by (try simp only [b2i_eq0, b2i_ne0, decide_eq_true_eq] at *); (try simp only [cI, sI_setA, sI_setQ, sI_setR, sA_setI, sA_setR, sA_setQ, fa_lt, fa_le, fa_eq, Int32.reduceToInt] at *); omega)).symm, (if_neg (by (try simp only [b2i_eq0, b2i_ne0, decide_eq_true_eq] at *); (try simp only [cI, sI_setA, sI_setQ, sI_setR, sA_setI, sA_setR, sA_setQ, fa_lt, fa_le, fa_eq, Int32.reduceToInt] at *); omega)).symm⟩⟩
set_option maxHeartbeats 4000000 in
theorem c_X8_soft {l : Launch} {G : va_G} {cy : Nat → ClassId} (a : Int32) (S : HS) (h : ShF S) : Cn l G cy yX8_soft cX8_soft 2 (some .boolean) 1 [.ref 0, .int a] S 0 0 (qI (fun r S2 => r = b2i (0 ≤ a.toInt ∧ a.toInt ≤ 2000) ∧ S2 = if (0 ≤ a.toInt ∧ a.toInt ≤ 2000) then setI S (fid 8 13) 0 a else S)) := by
  refine Cn.of [some (.ref 0), some (.int a)] (by decide) rfl (Nat.le_of_ble_eq_true rfl) ?_
  refine r_iload_n dX8_soft_0 rfl rfl ?_
  refine r_iconst (v := 0) dX8_soft_1 (by decide) ?_
  refine r_sipush (v := 2000) dX8_soft_2 (by decide) ?_
  refine r_invS3i dX8_soft_5 lm_X8_74 (c_X8_isWithin _ _ _ _) (Nat.le_of_ble_eq_true rfl) (Nat.le_of_ble_eq_true rfl) (Nat.zero_le _) (Nat.zero_le _) (fun r5 S5 hq5 => ?_)
  obtain ⟨rfl, hz5⟩ := hq5
  replace hz5 := hz5.symm
  subst hz5
  refine r_if_ne 13 dX8_soft_8 (by decide) (fun q8 => ?_) (fun q8 => ?_)
  · skip
    refine r_aload_n dX8_soft_13 rfl rfl ?_
    refine r_iload_n dX8_soft_14 rfl rfl ?_
    refine r_putI dX8_soft_15 (lp_X8_66 _) rfl (by first | rfl | assumption) ?_
    refine r_iconst (v := 1) dX8_soft_18 (by decide) ?_
    exact r_zret dX8_soft_19 rfl rfl (Nat.zero_le _) (Nat.zero_le _) ⟨_, rfl, by first | exact ⟨(b2i_t (by (try simp only [b2i_eq0, b2i_ne0, decide_eq_true_eq] at *); (try simp only [cI, sI_setA, sI_setQ, sI_setR, sA_setI, sA_setR, sA_setQ, fa_lt, fa_le, fa_eq, Int32.reduceToInt] at *); omega)).symm, (if_pos (by (try simp only [b2i_eq0, b2i_ne0, decide_eq_true_eq] at *); (try simp only [cI, sI_setA, sI_setQ, sI_setR, sA_setI, sA_setR, sA_setQ, fa_lt, fa_le, fa_eq, Int32.reduceToInt] at *); omega)).symm⟩ | exact ⟨(b2i_f (by (try simp only [b2i_eq0, b2i_ne0, decide_eq_true_eq] at *); (try simp only [cI, sI_setA, sI_setQ, sI_setR, sA_setI, sA_setR, sA_setQ, fa_lt, fa_le, fa_eq, Int32.reduceToInt] at *); omega)).symm, (if_neg (by (try simp only [b2i_eq0, b2i_ne0, decide_eq_true_eq] at *); (try simp only [cI, sI_setA, sI_setQ, sI_setR, sA_setI, sA_setR, sA_setQ, fa_lt, fa_le, fa_eq, Int32.reduceToInt] at *); omega)).symm⟩⟩
  · skip
    refine r_iconst (v := 0) dX8_soft_11 (by decide) ?_
    exact r_zret dX8_soft_12 rfl rfl (Nat.zero_le _) (Nat.zero_le _) ⟨_, rfl, by first | exact ⟨(b2i_t (by (try simp only [b2i_eq0, b2i_ne0, decide_eq_true_eq] at *); (try simp only [cI, sI_setA, sI_setQ, sI_setR, sA_setI, sA_setR, sA_setQ, fa_lt, fa_le, fa_eq, Int32.reduceToInt] at *); omega)).symm, (if_pos (by (try simp only [b2i_eq0, b2i_ne0, decide_eq_true_eq] at *); (try simp only [cI, sI_setA, sI_setQ, sI_setR, sA_setI, sA_setR, sA_setQ, fa_lt, fa_le, fa_eq, Int32.reduceToInt] at *); omega)).symm⟩ | exact ⟨(b2i_f (by (try simp only [b2i_eq0, b2i_ne0, decide_eq_true_eq] at *); (try simp only [cI, sI_setA, sI_setQ, sI_setR, sA_setI, sA_setR, sA_setQ, fa_lt, fa_le, fa_eq, Int32.reduceToInt] at *); omega)).symm, (if_neg (by (try simp only [b2i_eq0, b2i_ne0, decide_eq_true_eq] at *); (try simp only [cI, sI_setA, sI_setQ, sI_setR, sA_setI, sA_setR, sA_setQ, fa_lt, fa_le, fa_eq, Int32.reduceToInt] at *); omega)).symm⟩⟩
set_option maxHeartbeats 4000000 in
theorem c_X8_end {l : Launch} {G : va_G} {cy : Nat → ClassId} (a : Int32) (S : HS) (h : ShF S) : Cn l G cy yX8_end cX8_end 2 (some .boolean) 1 [.ref 0, .int a] S 0 0 (qI (fun r S2 => r = b2i (0 ≤ a.toInt ∧ a.toInt ≤ (sI S (fid 5 1) 8).toInt) ∧ S2 = if (0 ≤ a.toInt ∧ a.toInt ≤ (sI S (fid 5 1) 8).toInt) then setI S (fid 5 1) 8 a else S)) := by
  refine Cn.of [some (.ref 0), some (.int a)] (by decide) rfl (Nat.le_of_ble_eq_true rfl) ?_
  refine r_iload_n dX8_end_0 rfl rfl ?_
  refine r_iconst (v := 0) dX8_end_1 (by decide) ?_
  refine r_aload_n dX8_end_2 rfl rfl ?_
  refine r_getR dX8_end_3 lf_X8_37 rfl (by first | rfl | assumption) (shR8_4 h) (shL_8 h) ?_
  refine r_getI dX8_end_6 lf_X8_145 rfl (by first | rfl | assumption) ?_
  refine r_invS3i dX8_end_9 lm_X8_74 (c_X8_isWithin _ _ _ _) (Nat.le_of_ble_eq_true rfl) (Nat.le_of_ble_eq_true rfl) (Nat.zero_le _) (Nat.zero_le _) (fun r9 S9 hq9 => ?_)
  obtain ⟨rfl, hz9⟩ := hq9
  replace hz9 := hz9.symm
  subst hz9
  refine r_if_ne 17 dX8_end_12 (by decide) (fun q12 => ?_) (fun q12 => ?_)
  · skip
    refine r_aload_n dX8_end_17 rfl rfl ?_
    refine r_getR dX8_end_18 lf_X8_37 rfl (by first | rfl | assumption) (shR8_4 h) (shL_8 h) ?_
    refine r_iload_n dX8_end_21 rfl rfl ?_
    refine r_putI dX8_end_22 (lp_X8_145 _) rfl (by first | rfl | assumption) ?_
    refine r_iconst (v := 1) dX8_end_25 (by decide) ?_
    exact r_zret dX8_end_26 rfl rfl (Nat.zero_le _) (Nat.zero_le _) ⟨_, rfl, by first | exact ⟨(b2i_t (by (try simp only [b2i_eq0, b2i_ne0, decide_eq_true_eq] at *); (try simp only [cI, sI_setA, sI_setQ, sI_setR, sA_setI, sA_setR, sA_setQ, fa_lt, fa_le, fa_eq, Int32.reduceToInt] at *); omega)).symm, (if_pos (by (try simp only [b2i_eq0, b2i_ne0, decide_eq_true_eq] at *); (try simp only [cI, sI_setA, sI_setQ, sI_setR, sA_setI, sA_setR, sA_setQ, fa_lt, fa_le, fa_eq, Int32.reduceToInt] at *); omega)).symm⟩ | exact ⟨(b2i_f (by (try simp only [b2i_eq0, b2i_ne0, decide_eq_true_eq] at *); (try simp only [cI, sI_setA, sI_setQ, sI_setR, sA_setI, sA_setR, sA_setQ, fa_lt, fa_le, fa_eq, Int32.reduceToInt] at *); omega)).symm, (if_neg (by (try simp only [b2i_eq0, b2i_ne0, decide_eq_true_eq] at *); (try simp only [cI, sI_setA, sI_setQ, sI_setR, sA_setI, sA_setR, sA_setQ, fa_lt, fa_le, fa_eq, Int32.reduceToInt] at *); omega)).symm⟩⟩
  · skip
    refine r_iconst (v := 0) dX8_end_15 (by decide) ?_
    exact r_zret dX8_end_16 rfl rfl (Nat.zero_le _) (Nat.zero_le _) ⟨_, rfl, by first | exact ⟨(b2i_t (by (try simp only [b2i_eq0, b2i_ne0, decide_eq_true_eq] at *); (try simp only [cI, sI_setA, sI_setQ, sI_setR, sA_setI, sA_setR, sA_setQ, fa_lt, fa_le, fa_eq, Int32.reduceToInt] at *); omega)).symm, (if_pos (by (try simp only [b2i_eq0, b2i_ne0, decide_eq_true_eq] at *); (try simp only [cI, sI_setA, sI_setQ, sI_setR, sA_setI, sA_setR, sA_setQ, fa_lt, fa_le, fa_eq, Int32.reduceToInt] at *); omega)).symm⟩ | exact ⟨(b2i_f (by (try simp only [b2i_eq0, b2i_ne0, decide_eq_true_eq] at *); (try simp only [cI, sI_setA, sI_setQ, sI_setR, sA_setI, sA_setR, sA_setQ, fa_lt, fa_le, fa_eq, Int32.reduceToInt] at *); omega)).symm, (if_neg (by (try simp only [b2i_eq0, b2i_ne0, decide_eq_true_eq] at *); (try simp only [cI, sI_setA, sI_setQ, sI_setR, sA_setI, sA_setR, sA_setQ, fa_lt, fa_le, fa_eq, Int32.reduceToInt] at *); omega)).symm⟩⟩
set_option maxHeartbeats 4000000 in
theorem c_X8_go {l : Launch} {G : va_G} {cy : Nat → ClassId} (a w : Int32) (S : HS) (h : ShC S) : Cn l G cy yX8_go cX8_go 4 (some .boolean) 2 [.ref 0, .int a, .int w] S 0 0 (qI (fun r S2 => r = b2i (0 ≤ a.toInt ∧ a.toInt < (cI S 9).toInt ∧ -1 ≤ w.toInt ∧ w.toInt ≤ 35) ∧ S2 = if (0 ≤ a.toInt ∧ a.toInt < (cI S 9).toInt ∧ -1 ≤ w.toInt ∧ w.toInt ≤ 35) then setI S (fid 0 3) (100 + 3 * nn a) w else S)) := by
  refine Cn.of [some (.ref 0), some (.int a), some (.int w), none] (by decide) rfl (Nat.le_of_ble_eq_true rfl) ?_
  refine r_aload_n dX8_go_0 rfl rfl ?_
  refine r_iload_n dX8_go_1 rfl rfl ?_
  refine r_invV1r dX8_go_2 lm_X8_95 (by first | rfl | assumption) (c_X8_boatAt _ _ h) (Nat.le_of_ble_eq_true rfl) (Nat.le_of_ble_eq_true rfl) (Nat.zero_le _) (Nat.zero_le _) (fun r2 S2 hq2 => ?_)
  obtain ⟨rfl, hz2⟩ := hq2
  replace hz2 := hz2.symm
  subst hz2
  by_cases hc2 : 0 ≤ a.toInt ∧ a.toInt < (cI S 9).toInt
  · rw [if_pos hc2]
    have hbb := h.b
    have hlt : nn a < 12 := by unfold nn; omega
    have hlb : nn a < nn (cI S 9) := by unfold nn; omega
    have hkb := tkB hlt
    refine r_ast3 dX8_go_5 (Nat.le_of_ble_eq_true rfl) rfl ?_
    refine r_aload_n dX8_go_6 rfl rfl ?_
    refine r_ifnull dX8_go_7 ?_
    refine r_iload_n dX8_go_10 rfl rfl ?_
    refine r_iconst (v := (-1)) dX8_go_11 (by decide) ?_
    refine r_icmp_eq 24 dX8_go_12 (by decide) (fun q12 => ?_) (fun q12 => ?_)
    · skip
      refine r_aload_n dX8_go_24 rfl rfl ?_
      refine r_iload_n dX8_go_25 rfl rfl ?_
      refine r_putI dX8_go_26 (lp_X8_99 _) rfl (by first | rfl | assumption) ?_
      refine r_iconst (v := 1) dX8_go_29 (by decide) ?_
      exact r_zret dX8_go_30 rfl rfl (Nat.zero_le _) (Nat.zero_le _) ⟨_, rfl, by first | exact ⟨(b2i_t (by (try simp only [b2i_eq0, b2i_ne0, decide_eq_true_eq] at *); (try simp only [cI, sI_setA, sI_setQ, sI_setR, sA_setI, sA_setR, sA_setQ, fa_lt, fa_le, fa_eq, Int32.reduceToInt] at *); omega)).symm, (if_pos (by (try simp only [b2i_eq0, b2i_ne0, decide_eq_true_eq] at *); (try simp only [cI, sI_setA, sI_setQ, sI_setR, sA_setI, sA_setR, sA_setQ, fa_lt, fa_le, fa_eq, Int32.reduceToInt] at *); omega)).symm⟩ | exact ⟨(b2i_f (by (try simp only [b2i_eq0, b2i_ne0, decide_eq_true_eq] at *); (try simp only [cI, sI_setA, sI_setQ, sI_setR, sA_setI, sA_setR, sA_setQ, fa_lt, fa_le, fa_eq, Int32.reduceToInt] at *); omega)).symm, (if_neg (by (try simp only [b2i_eq0, b2i_ne0, decide_eq_true_eq] at *); (try simp only [cI, sI_setA, sI_setQ, sI_setR, sA_setI, sA_setR, sA_setQ, fa_lt, fa_le, fa_eq, Int32.reduceToInt] at *); omega)).symm⟩⟩
    · skip
      refine r_iload_n dX8_go_15 rfl rfl ?_
      refine r_invS1i dX8_go_16 lm_X8_70 (c_X4_isCell _ _) (Nat.le_of_ble_eq_true rfl) (Nat.le_of_ble_eq_true rfl) (Nat.zero_le _) (Nat.zero_le _) (fun r16 S16 hq16 => ?_)
      obtain ⟨rfl, hz16⟩ := hq16
      replace hz16 := hz16.symm
      subst hz16
      refine r_if_ne 24 dX8_go_19 (by decide) (fun q19 => ?_) (fun q19 => ?_)
      · skip
        refine r_aload_n dX8_go_24 rfl rfl ?_
        refine r_iload_n dX8_go_25 rfl rfl ?_
        refine r_putI dX8_go_26 (lp_X8_99 _) rfl (by first | rfl | assumption) ?_
        refine r_iconst (v := 1) dX8_go_29 (by decide) ?_
        exact r_zret dX8_go_30 rfl rfl (Nat.zero_le _) (Nat.zero_le _) ⟨_, rfl, by first | exact ⟨(b2i_t (by (try simp only [b2i_eq0, b2i_ne0, decide_eq_true_eq] at *); (try simp only [cI, sI_setA, sI_setQ, sI_setR, sA_setI, sA_setR, sA_setQ, fa_lt, fa_le, fa_eq, Int32.reduceToInt] at *); omega)).symm, (if_pos (by (try simp only [b2i_eq0, b2i_ne0, decide_eq_true_eq] at *); (try simp only [cI, sI_setA, sI_setQ, sI_setR, sA_setI, sA_setR, sA_setQ, fa_lt, fa_le, fa_eq, Int32.reduceToInt] at *); omega)).symm⟩ | exact ⟨(b2i_f (by (try simp only [b2i_eq0, b2i_ne0, decide_eq_true_eq] at *); (try simp only [cI, sI_setA, sI_setQ, sI_setR, sA_setI, sA_setR, sA_setQ, fa_lt, fa_le, fa_eq, Int32.reduceToInt] at *); omega)).symm, (if_neg (by (try simp only [b2i_eq0, b2i_ne0, decide_eq_true_eq] at *); (try simp only [cI, sI_setA, sI_setQ, sI_setR, sA_setI, sA_setR, sA_setQ, fa_lt, fa_le, fa_eq, Int32.reduceToInt] at *); omega)).symm⟩⟩
      · skip
        refine r_iconst (v := 0) dX8_go_22 (by decide) ?_
        exact r_zret dX8_go_23 rfl rfl (Nat.zero_le _) (Nat.zero_le _) ⟨_, rfl, by first | exact ⟨(b2i_t (by (try simp only [b2i_eq0, b2i_ne0, decide_eq_true_eq] at *); (try simp only [cI, sI_setA, sI_setQ, sI_setR, sA_setI, sA_setR, sA_setQ, fa_lt, fa_le, fa_eq, Int32.reduceToInt] at *); omega)).symm, (if_pos (by (try simp only [b2i_eq0, b2i_ne0, decide_eq_true_eq] at *); (try simp only [cI, sI_setA, sI_setQ, sI_setR, sA_setI, sA_setR, sA_setQ, fa_lt, fa_le, fa_eq, Int32.reduceToInt] at *); omega)).symm⟩ | exact ⟨(b2i_f (by (try simp only [b2i_eq0, b2i_ne0, decide_eq_true_eq] at *); (try simp only [cI, sI_setA, sI_setQ, sI_setR, sA_setI, sA_setR, sA_setQ, fa_lt, fa_le, fa_eq, Int32.reduceToInt] at *); omega)).symm, (if_neg (by (try simp only [b2i_eq0, b2i_ne0, decide_eq_true_eq] at *); (try simp only [cI, sI_setA, sI_setQ, sI_setR, sA_setI, sA_setR, sA_setQ, fa_lt, fa_le, fa_eq, Int32.reduceToInt] at *); omega)).symm⟩⟩
  · rw [if_neg hc2]
    have hbb := h.b
    refine r_ast3N dX8_go_5 (Nat.le_of_ble_eq_true rfl) rfl ?_
    refine r_aload_nN dX8_go_6 rfl rfl ?_
    refine r_ifnullN 22 dX8_go_7 (by decide) ?_
    refine r_iconst (v := 0) dX8_go_22 (by decide) ?_
    exact r_zret dX8_go_23 rfl rfl (Nat.zero_le _) (Nat.zero_le _) ⟨_, rfl, by first | exact ⟨(b2i_t (by (try simp only [b2i_eq0, b2i_ne0, decide_eq_true_eq] at *); (try simp only [cI, sI_setA, sI_setQ, sI_setR, sA_setI, sA_setR, sA_setQ, fa_lt, fa_le, fa_eq, Int32.reduceToInt] at *); omega)).symm, (if_pos (by (try simp only [b2i_eq0, b2i_ne0, decide_eq_true_eq] at *); (try simp only [cI, sI_setA, sI_setQ, sI_setR, sA_setI, sA_setR, sA_setQ, fa_lt, fa_le, fa_eq, Int32.reduceToInt] at *); omega)).symm⟩ | exact ⟨(b2i_f (by (try simp only [b2i_eq0, b2i_ne0, decide_eq_true_eq] at *); (try simp only [cI, sI_setA, sI_setQ, sI_setR, sA_setI, sA_setR, sA_setQ, fa_lt, fa_le, fa_eq, Int32.reduceToInt] at *); omega)).symm, (if_neg (by (try simp only [b2i_eq0, b2i_ne0, decide_eq_true_eq] at *); (try simp only [cI, sI_setA, sI_setQ, sI_setR, sA_setI, sA_setR, sA_setQ, fa_lt, fa_le, fa_eq, Int32.reduceToInt] at *); omega)).symm⟩⟩
end
