section
/-- a private method of a class that the tables say can be made, by its rows of tables_1 -/
def lw_okq (q : MethodName × Nat) : Prop := (q.1.cls ≠ "java/lang/invoke/MethodHandle" ∧ q.1.cls ≠ "java/lang/invoke/VarHandle") ∧ Cond.instantiable q.1.cls q.2 ∈ tables_1 ∧ Cond.privateMethod q.1 ∈ tables_1 ∧ Cond.instanceMethod q.1 ∈ tables_1
theorem lw_p0 : lw_okq (⟨"HerringSea", "boatAt", "(I)LHerringSea$Boat;"⟩, 18) := ⟨⟨by decide +kernel, by decide +kernel⟩, List.mem_of_getElem? (i := 13) (by decide +kernel), List.mem_of_getElem? (i := 249) (by decide +kernel), List.mem_of_getElem? (i := 250) (by decide +kernel)⟩
theorem lw_p1 : lw_okq (⟨"HerringSea", "yardAt", "(I)LHerringSea$Yard;"⟩, 18) := ⟨⟨by decide +kernel, by decide +kernel⟩, List.mem_of_getElem? (i := 13) (by decide +kernel), List.mem_of_getElem? (i := 290) (by decide +kernel), List.mem_of_getElem? (i := 291) (by decide +kernel)⟩
theorem lw_p2 : lw_okq (⟨"HerringSea", "beginNight", "(Z)V"⟩, 18) := ⟨⟨by decide +kernel, by decide +kernel⟩, List.mem_of_getElem? (i := 13) (by decide +kernel), List.mem_of_getElem? (i := 302) (by decide +kernel), List.mem_of_getElem? (i := 303) (by decide +kernel)⟩
theorem lw_p3 : lw_okq (⟨"HerringSea", "isStormy", "(IZ)Z"⟩, 18) := ⟨⟨by decide +kernel, by decide +kernel⟩, List.mem_of_getElem? (i := 13) (by decide +kernel), List.mem_of_getElem? (i := 306) (by decide +kernel), List.mem_of_getElem? (i := 307) (by decide +kernel)⟩
theorem lw_p4 : lw_okq (⟨"HerringSea", "haulEverywhere", "(Z)I"⟩, 18) := ⟨⟨by decide +kernel, by decide +kernel⟩, List.mem_of_getElem? (i := 13) (by decide +kernel), List.mem_of_getElem? (i := 318) (by decide +kernel), List.mem_of_getElem? (i := 319) (by decide +kernel)⟩
theorem lw_p5 : lw_okq (⟨"HerringSea", "haulIn", "(I)I"⟩, 18) := ⟨⟨by decide +kernel, by decide +kernel⟩, List.mem_of_getElem? (i := 13) (by decide +kernel), List.mem_of_getElem? (i := 322) (by decide +kernel), List.mem_of_getElem? (i := 323) (by decide +kernel)⟩
theorem lw_p6 : lw_okq (⟨"HerringSea$Parting", "greatestRest", "()I"⟩, 4) := ⟨⟨by decide +kernel, by decide +kernel⟩, List.mem_of_getElem? (i := 72) (by decide +kernel), List.mem_of_getElem? (i := 339) (by decide +kernel), List.mem_of_getElem? (i := 340) (by decide +kernel)⟩
theorem lw_p7 : lw_okq (⟨"HerringSea", "sellAllCatches", "()V"⟩, 18) := ⟨⟨by decide +kernel, by decide +kernel⟩, List.mem_of_getElem? (i := 13) (by decide +kernel), List.mem_of_getElem? (i := 356) (by decide +kernel), List.mem_of_getElem? (i := 357) (by decide +kernel)⟩
theorem lw_p8 : lw_okq (⟨"HerringSea", "sellCatch", "(ILHerringSea$Boat;I)V"⟩, 18) := ⟨⟨by decide +kernel, by decide +kernel⟩, List.mem_of_getElem? (i := 13) (by decide +kernel), List.mem_of_getElem? (i := 363) (by decide +kernel), List.mem_of_getElem? (i := 364) (by decide +kernel)⟩
theorem lw_p9 : lw_okq (⟨"HerringSea", "bestBidder", "()I"⟩, 18) := ⟨⟨by decide +kernel, by decide +kernel⟩, List.mem_of_getElem? (i := 13) (by decide +kernel), List.mem_of_getElem? (i := 367) (by decide +kernel), List.mem_of_getElem? (i := 368) (by decide +kernel)⟩
theorem lw_p10 : lw_okq (⟨"HerringSea", "gutLotsFrom", "(I)V"⟩, 18) := ⟨⟨by decide +kernel, by decide +kernel⟩, List.mem_of_getElem? (i := 13) (by decide +kernel), List.mem_of_getElem? (i := 425) (by decide +kernel), List.mem_of_getElem? (i := 426) (by decide +kernel)⟩
theorem lw_p11 : lw_okq (⟨"HerringSea", "lotAt", "(I)LHerringSea$Lot;"⟩, 18) := ⟨⟨by decide +kernel, by decide +kernel⟩, List.mem_of_getElem? (i := 13) (by decide +kernel), List.mem_of_getElem? (i := 429) (by decide +kernel), List.mem_of_getElem? (i := 430) (by decide +kernel)⟩
theorem lw_p12 : lw_okq (⟨"HerringSea", "gutLot", "(LHerringSea$Lot;)V"⟩, 18) := ⟨⟨by decide +kernel, by decide +kernel⟩, List.mem_of_getElem? (i := 13) (by decide +kernel), List.mem_of_getElem? (i := 433) (by decide +kernel), List.mem_of_getElem? (i := 434) (by decide +kernel)⟩
theorem lw_p13 : lw_okq (⟨"HerringSea$Yard", "firstFreeCrew", "()I"⟩, 5) := ⟨⟨by decide +kernel, by decide +kernel⟩, List.mem_of_getElem? (i := 260) (by decide +kernel), List.mem_of_getElem? (i := 441) (by decide +kernel), List.mem_of_getElem? (i := 442) (by decide +kernel)⟩
theorem lw_p14 : lw_okq (⟨"HerringSea$Grammar", "takes", "(I)Z"⟩, 3) := ⟨⟨by decide +kernel, by decide +kernel⟩, List.mem_of_getElem? (i := 93) (by decide +kernel), List.mem_of_getElem? (i := 480) (by decide +kernel), List.mem_of_getElem? (i := 481) (by decide +kernel)⟩
theorem lw_p15 : lw_okq (⟨"HerringSea$Grammar", "takesUnit", "(I)Z"⟩, 3) := ⟨⟨by decide +kernel, by decide +kernel⟩, List.mem_of_getElem? (i := 93) (by decide +kernel), List.mem_of_getElem? (i := 484) (by decide +kernel), List.mem_of_getElem? (i := 485) (by decide +kernel)⟩
def lw_privs_1 : List (MethodName × Nat) := [(⟨"HerringSea", "boatAt", "(I)LHerringSea$Boat;"⟩, 18), (⟨"HerringSea", "yardAt", "(I)LHerringSea$Yard;"⟩, 18), (⟨"HerringSea", "beginNight", "(Z)V"⟩, 18), (⟨"HerringSea", "isStormy", "(IZ)Z"⟩, 18), (⟨"HerringSea", "haulEverywhere", "(Z)I"⟩, 18), (⟨"HerringSea", "haulIn", "(I)I"⟩, 18), (⟨"HerringSea$Parting", "greatestRest", "()I"⟩, 4), (⟨"HerringSea", "sellAllCatches", "()V"⟩, 18), (⟨"HerringSea", "sellCatch", "(ILHerringSea$Boat;I)V"⟩, 18), (⟨"HerringSea", "bestBidder", "()I"⟩, 18), (⟨"HerringSea", "gutLotsFrom", "(I)V"⟩, 18), (⟨"HerringSea", "lotAt", "(I)LHerringSea$Lot;"⟩, 18), (⟨"HerringSea", "gutLot", "(LHerringSea$Lot;)V"⟩, 18), (⟨"HerringSea$Yard", "firstFreeCrew", "()I"⟩, 5), (⟨"HerringSea$Grammar", "takes", "(I)Z"⟩, 3), (⟨"HerringSea$Grammar", "takesUnit", "(I)Z"⟩, 3)]
theorem lw_r1 : ∀ q ∈ lw_privs_1, lw_okq q := List.forall_mem_cons.mpr ⟨lw_p0, List.forall_mem_cons.mpr ⟨lw_p1, List.forall_mem_cons.mpr ⟨lw_p2, List.forall_mem_cons.mpr ⟨lw_p3, List.forall_mem_cons.mpr ⟨lw_p4, List.forall_mem_cons.mpr ⟨lw_p5, List.forall_mem_cons.mpr ⟨lw_p6, List.forall_mem_cons.mpr ⟨lw_p7, List.forall_mem_cons.mpr ⟨lw_p8, List.forall_mem_cons.mpr ⟨lw_p9, List.forall_mem_cons.mpr ⟨lw_p10, List.forall_mem_cons.mpr ⟨lw_p11, List.forall_mem_cons.mpr ⟨lw_p12, List.forall_mem_cons.mpr ⟨lw_p13, List.forall_mem_cons.mpr ⟨lw_p14, List.forall_mem_cons.mpr ⟨lw_p15, fun _ h => absurd h List.not_mem_nil⟩⟩⟩⟩⟩⟩⟩⟩⟩⟩⟩⟩⟩⟩⟩⟩
theorem lw_p16 : lw_okq (⟨"HerringSea$Grammar", "takesSign", "(I)Z"⟩, 3) := ⟨⟨by decide +kernel, by decide +kernel⟩, List.mem_of_getElem? (i := 93) (by decide +kernel), List.mem_of_getElem? (i := 488) (by decide +kernel), List.mem_of_getElem? (i := 489) (by decide +kernel)⟩
theorem lw_p17 : lw_okq (⟨"HerringSea$Grammar", "takesFirstDigit", "(I)Z"⟩, 3) := ⟨⟨by decide +kernel, by decide +kernel⟩, List.mem_of_getElem? (i := 93) (by decide +kernel), List.mem_of_getElem? (i := 492) (by decide +kernel), List.mem_of_getElem? (i := 493) (by decide +kernel)⟩
theorem lw_p18 : lw_okq (⟨"HerringSea$Grammar", "takesBehindUnit", "(I)Z"⟩, 3) := ⟨⟨by decide +kernel, by decide +kernel⟩, List.mem_of_getElem? (i := 93) (by decide +kernel), List.mem_of_getElem? (i := 499) (by decide +kernel), List.mem_of_getElem? (i := 500) (by decide +kernel)⟩
theorem lw_p19 : lw_okq (⟨"HerringSea", "textAt", "(I)LHerringSea$Text;"⟩, 18) := ⟨⟨by decide +kernel, by decide +kernel⟩, List.mem_of_getElem? (i := 13) (by decide +kernel), List.mem_of_getElem? (i := 516) (by decide +kernel), List.mem_of_getElem? (i := 517) (by decide +kernel)⟩
theorem lw_p20 : lw_okq (⟨"HerringSea$Verdict", "read", "(ILHerringSea$Lot;I)V"⟩, 5) := ⟨⟨by decide +kernel, by decide +kernel⟩, List.mem_of_getElem? (i := 109) (by decide +kernel), List.mem_of_getElem? (i := 525) (by decide +kernel), List.mem_of_getElem? (i := 526) (by decide +kernel)⟩
theorem lw_p21 : lw_okq (⟨"HerringSea$Verdict", "endComparison", "(LHerringSea$Lot;I)V"⟩, 5) := ⟨⟨by decide +kernel, by decide +kernel⟩, List.mem_of_getElem? (i := 109) (by decide +kernel), List.mem_of_getElem? (i := 530) (by decide +kernel), List.mem_of_getElem? (i := 531) (by decide +kernel)⟩
theorem lw_p22 : lw_okq (⟨"HerringSea$Verdict", "compares", "(I)Z"⟩, 5) := ⟨⟨by decide +kernel, by decide +kernel⟩, List.mem_of_getElem? (i := 109) (by decide +kernel), List.mem_of_getElem? (i := 538) (by decide +kernel), List.mem_of_getElem? (i := 539) (by decide +kernel)⟩
theorem lw_p23 : lw_okq (⟨"HerringSea$Verdict", "addUnit", "(Z)V"⟩, 5) := ⟨⟨by decide +kernel, by decide +kernel⟩, List.mem_of_getElem? (i := 109) (by decide +kernel), List.mem_of_getElem? (i := 542) (by decide +kernel), List.mem_of_getElem? (i := 543) (by decide +kernel)⟩
theorem lw_p24 : lw_okq (⟨"HerringSea$Verdict", "endBracket", "()V"⟩, 5) := ⟨⟨by decide +kernel, by decide +kernel⟩, List.mem_of_getElem? (i := 109) (by decide +kernel), List.mem_of_getElem? (i := 546) (by decide +kernel), List.mem_of_getElem? (i := 547) (by decide +kernel)⟩
theorem lw_p25 : lw_okq (⟨"HerringSea$Verdict", "endPart", "()V"⟩, 5) := ⟨⟨by decide +kernel, by decide +kernel⟩, List.mem_of_getElem? (i := 109) (by decide +kernel), List.mem_of_getElem? (i := 550) (by decide +kernel), List.mem_of_getElem? (i := 551) (by decide +kernel)⟩
theorem lw_p26 : lw_okq (⟨"HerringSea", "owedInAll", "()I"⟩, 18) := ⟨⟨by decide +kernel, by decide +kernel⟩, List.mem_of_getElem? (i := 13) (by decide +kernel), List.mem_of_getElem? (i := 593) (by decide +kernel), List.mem_of_getElem? (i := 594) (by decide +kernel)⟩
theorem lw_p27 : lw_okq (⟨"HerringSeaModel", "isBoat", "(I)Z"⟩, 53) := ⟨⟨by decide +kernel, by decide +kernel⟩, List.mem_of_getElem? (i := 597) (by decide +kernel), List.mem_of_getElem? (i := 786) (by decide +kernel), List.mem_of_getElem? (i := 787) (by decide +kernel)⟩
theorem lw_p28 : lw_okq (⟨"HerringSeaModel", "haul", "(I)I"⟩, 53) := ⟨⟨by decide +kernel, by decide +kernel⟩, List.mem_of_getElem? (i := 597) (by decide +kernel), List.mem_of_getElem? (i := 810) (by decide +kernel), List.mem_of_getElem? (i := 811) (by decide +kernel)⟩
theorem lw_p29 : lw_okq (⟨"HerringSeaModel", "partAmong", "(JI)V"⟩, 53) := ⟨⟨by decide +kernel, by decide +kernel⟩, List.mem_of_getElem? (i := 597) (by decide +kernel), List.mem_of_getElem? (i := 815) (by decide +kernel), List.mem_of_getElem? (i := 816) (by decide +kernel)⟩
theorem lw_p30 : lw_okq (⟨"HerringSeaModel", "storm", "()V"⟩, 53) := ⟨⟨by decide +kernel, by decide +kernel⟩, List.mem_of_getElem? (i := 597) (by decide +kernel), List.mem_of_getElem? (i := 819) (by decide +kernel), List.mem_of_getElem? (i := 820) (by decide +kernel)⟩
theorem lw_p31 : lw_okq (⟨"HerringSeaModel", "driftAll", "()V"⟩, 53) := ⟨⟨by decide +kernel, by decide +kernel⟩, List.mem_of_getElem? (i := 597) (by decide +kernel), List.mem_of_getElem? (i := 823) (by decide +kernel), List.mem_of_getElem? (i := 824) (by decide +kernel)⟩
def lw_privs_2 : List (MethodName × Nat) := [(⟨"HerringSea$Grammar", "takesSign", "(I)Z"⟩, 3), (⟨"HerringSea$Grammar", "takesFirstDigit", "(I)Z"⟩, 3), (⟨"HerringSea$Grammar", "takesBehindUnit", "(I)Z"⟩, 3), (⟨"HerringSea", "textAt", "(I)LHerringSea$Text;"⟩, 18), (⟨"HerringSea$Verdict", "read", "(ILHerringSea$Lot;I)V"⟩, 5), (⟨"HerringSea$Verdict", "endComparison", "(LHerringSea$Lot;I)V"⟩, 5), (⟨"HerringSea$Verdict", "compares", "(I)Z"⟩, 5), (⟨"HerringSea$Verdict", "addUnit", "(Z)V"⟩, 5), (⟨"HerringSea$Verdict", "endBracket", "()V"⟩, 5), (⟨"HerringSea$Verdict", "endPart", "()V"⟩, 5), (⟨"HerringSea", "owedInAll", "()I"⟩, 18), (⟨"HerringSeaModel", "isBoat", "(I)Z"⟩, 53), (⟨"HerringSeaModel", "haul", "(I)I"⟩, 53), (⟨"HerringSeaModel", "partAmong", "(JI)V"⟩, 53), (⟨"HerringSeaModel", "storm", "()V"⟩, 53), (⟨"HerringSeaModel", "driftAll", "()V"⟩, 53)]
theorem lw_r2 : ∀ q ∈ lw_privs_2, lw_okq q := List.forall_mem_cons.mpr ⟨lw_p16, List.forall_mem_cons.mpr ⟨lw_p17, List.forall_mem_cons.mpr ⟨lw_p18, List.forall_mem_cons.mpr ⟨lw_p19, List.forall_mem_cons.mpr ⟨lw_p20, List.forall_mem_cons.mpr ⟨lw_p21, List.forall_mem_cons.mpr ⟨lw_p22, List.forall_mem_cons.mpr ⟨lw_p23, List.forall_mem_cons.mpr ⟨lw_p24, List.forall_mem_cons.mpr ⟨lw_p25, List.forall_mem_cons.mpr ⟨lw_p26, List.forall_mem_cons.mpr ⟨lw_p27, List.forall_mem_cons.mpr ⟨lw_p28, List.forall_mem_cons.mpr ⟨lw_p29, List.forall_mem_cons.mpr ⟨lw_p30, List.forall_mem_cons.mpr ⟨lw_p31, fun _ h => absurd h List.not_mem_nil⟩⟩⟩⟩⟩⟩⟩⟩⟩⟩⟩⟩⟩⟩⟩⟩
theorem lw_p32 : lw_okq (⟨"HerringSeaModel", "beside", "(I)I"⟩, 53) := ⟨⟨by decide +kernel, by decide +kernel⟩, List.mem_of_getElem? (i := 597) (by decide +kernel), List.mem_of_getElem? (i := 827) (by decide +kernel), List.mem_of_getElem? (i := 828) (by decide +kernel)⟩
theorem lw_p33 : lw_okq (⟨"HerringSeaModel", "sellAll", "()V"⟩, 53) := ⟨⟨by decide +kernel, by decide +kernel⟩, List.mem_of_getElem? (i := 597) (by decide +kernel), List.mem_of_getElem? (i := 832) (by decide +kernel), List.mem_of_getElem? (i := 833) (by decide +kernel)⟩
theorem lw_p34 : lw_okq (⟨"HerringSeaModel", "nextBoat", "()I"⟩, 53) := ⟨⟨by decide +kernel, by decide +kernel⟩, List.mem_of_getElem? (i := 597) (by decide +kernel), List.mem_of_getElem? (i := 836) (by decide +kernel), List.mem_of_getElem? (i := 837) (by decide +kernel)⟩
theorem lw_p35 : lw_okq (⟨"HerringSeaModel", "minute", "(I)I"⟩, 53) := ⟨⟨by decide +kernel, by decide +kernel⟩, List.mem_of_getElem? (i := 597) (by decide +kernel), List.mem_of_getElem? (i := 840) (by decide +kernel), List.mem_of_getElem? (i := 841) (by decide +kernel)⟩
theorem lw_p36 : lw_okq (⟨"HerringSeaModel", "bestYard", "()I"⟩, 53) := ⟨⟨by decide +kernel, by decide +kernel⟩, List.mem_of_getElem? (i := 597) (by decide +kernel), List.mem_of_getElem? (i := 844) (by decide +kernel), List.mem_of_getElem? (i := 845) (by decide +kernel)⟩
theorem lw_p37 : lw_okq (⟨"HerringSeaModel", "sell", "(III)V"⟩, 53) := ⟨⟨by decide +kernel, by decide +kernel⟩, List.mem_of_getElem? (i := 597) (by decide +kernel), List.mem_of_getElem? (i := 848) (by decide +kernel), List.mem_of_getElem? (i := 849) (by decide +kernel)⟩
theorem lw_p38 : lw_okq (⟨"HerringSeaModel", "work", "(II)V"⟩, 53) := ⟨⟨by decide +kernel, by decide +kernel⟩, List.mem_of_getElem? (i := 597) (by decide +kernel), List.mem_of_getElem? (i := 852) (by decide +kernel), List.mem_of_getElem? (i := 853) (by decide +kernel)⟩
theorem lw_p39 : lw_okq (⟨"HerringSeaModel", "whole", "()V"⟩, 53) := ⟨⟨by decide +kernel, by decide +kernel⟩, List.mem_of_getElem? (i := 597) (by decide +kernel), List.mem_of_getElem? (i := 871) (by decide +kernel), List.mem_of_getElem? (i := 872) (by decide +kernel)⟩
theorem lw_p40 : lw_okq (⟨"HerringSeaModel", "part", "()V"⟩, 53) := ⟨⟨by decide +kernel, by decide +kernel⟩, List.mem_of_getElem? (i := 597) (by decide +kernel), List.mem_of_getElem? (i := 875) (by decide +kernel), List.mem_of_getElem? (i := 876) (by decide +kernel)⟩
theorem lw_p41 : lw_okq (⟨"HerringSeaModel", "unit", "()V"⟩, 53) := ⟨⟨by decide +kernel, by decide +kernel⟩, List.mem_of_getElem? (i := 597) (by decide +kernel), List.mem_of_getElem? (i := 879) (by decide +kernel), List.mem_of_getElem? (i := 880) (by decide +kernel)⟩
theorem lw_p42 : lw_okq (⟨"HerringSeaModel", "look", "()I"⟩, 53) := ⟨⟨by decide +kernel, by decide +kernel⟩, List.mem_of_getElem? (i := 597) (by decide +kernel), List.mem_of_getElem? (i := 883) (by decide +kernel), List.mem_of_getElem? (i := 884) (by decide +kernel)⟩
theorem lw_p43 : lw_okq (⟨"HerringSeaModel", "fail", "()V"⟩, 53) := ⟨⟨by decide +kernel, by decide +kernel⟩, List.mem_of_getElem? (i := 597) (by decide +kernel), List.mem_of_getElem? (i := 887) (by decide +kernel), List.mem_of_getElem? (i := 888) (by decide +kernel)⟩
theorem lw_p44 : lw_okq (⟨"HerringSeaModel", "say", "(I)V"⟩, 53) := ⟨⟨by decide +kernel, by decide +kernel⟩, List.mem_of_getElem? (i := 597) (by decide +kernel), List.mem_of_getElem? (i := 891) (by decide +kernel), List.mem_of_getElem? (i := 892) (by decide +kernel)⟩
theorem lw_p45 : lw_okq (⟨"HerringSeaModel", "number", "()V"⟩, 53) := ⟨⟨by decide +kernel, by decide +kernel⟩, List.mem_of_getElem? (i := 597) (by decide +kernel), List.mem_of_getElem? (i := 895) (by decide +kernel), List.mem_of_getElem? (i := 896) (by decide +kernel)⟩
theorem lw_p46 : lw_okq (⟨"HerringSeaModel", "isLot", "(I)Z"⟩, 53) := ⟨⟨by decide +kernel, by decide +kernel⟩, List.mem_of_getElem? (i := 597) (by decide +kernel), List.mem_of_getElem? (i := 908) (by decide +kernel), List.mem_of_getElem? (i := 909) (by decide +kernel)⟩
theorem lw_p47 : lw_okq (⟨"HerringSeaModel", "holds", "(II)Z"⟩, 53) := ⟨⟨by decide +kernel, by decide +kernel⟩, List.mem_of_getElem? (i := 597) (by decide +kernel), List.mem_of_getElem? (i := 912) (by decide +kernel), List.mem_of_getElem? (i := 913) (by decide +kernel)⟩
def lw_privs_3 : List (MethodName × Nat) := [(⟨"HerringSeaModel", "beside", "(I)I"⟩, 53), (⟨"HerringSeaModel", "sellAll", "()V"⟩, 53), (⟨"HerringSeaModel", "nextBoat", "()I"⟩, 53), (⟨"HerringSeaModel", "minute", "(I)I"⟩, 53), (⟨"HerringSeaModel", "bestYard", "()I"⟩, 53), (⟨"HerringSeaModel", "sell", "(III)V"⟩, 53), (⟨"HerringSeaModel", "work", "(II)V"⟩, 53), (⟨"HerringSeaModel", "whole", "()V"⟩, 53), (⟨"HerringSeaModel", "part", "()V"⟩, 53), (⟨"HerringSeaModel", "unit", "()V"⟩, 53), (⟨"HerringSeaModel", "look", "()I"⟩, 53), (⟨"HerringSeaModel", "fail", "()V"⟩, 53), (⟨"HerringSeaModel", "say", "(I)V"⟩, 53), (⟨"HerringSeaModel", "number", "()V"⟩, 53), (⟨"HerringSeaModel", "isLot", "(I)Z"⟩, 53), (⟨"HerringSeaModel", "holds", "(II)Z"⟩, 53)]
theorem lw_r3 : ∀ q ∈ lw_privs_3, lw_okq q := List.forall_mem_cons.mpr ⟨lw_p32, List.forall_mem_cons.mpr ⟨lw_p33, List.forall_mem_cons.mpr ⟨lw_p34, List.forall_mem_cons.mpr ⟨lw_p35, List.forall_mem_cons.mpr ⟨lw_p36, List.forall_mem_cons.mpr ⟨lw_p37, List.forall_mem_cons.mpr ⟨lw_p38, List.forall_mem_cons.mpr ⟨lw_p39, List.forall_mem_cons.mpr ⟨lw_p40, List.forall_mem_cons.mpr ⟨lw_p41, List.forall_mem_cons.mpr ⟨lw_p42, List.forall_mem_cons.mpr ⟨lw_p43, List.forall_mem_cons.mpr ⟨lw_p44, List.forall_mem_cons.mpr ⟨lw_p45, List.forall_mem_cons.mpr ⟨lw_p46, List.forall_mem_cons.mpr ⟨lw_p47, fun _ h => absurd h List.not_mem_nil⟩⟩⟩⟩⟩⟩⟩⟩⟩⟩⟩⟩⟩⟩⟩⟩
theorem lw_p48 : lw_okq (⟨"HerringSeaModel", "value", "(II)I"⟩, 53) := ⟨⟨by decide +kernel, by decide +kernel⟩, List.mem_of_getElem? (i := 597) (by decide +kernel), List.mem_of_getElem? (i := 916) (by decide +kernel), List.mem_of_getElem? (i := 917) (by decide +kernel)⟩
def lw_privs_4 : List (MethodName × Nat) := [(⟨"HerringSeaModel", "value", "(II)I"⟩, 53)]
theorem lw_r4 : ∀ q ∈ lw_privs_4, lw_okq q := List.forall_mem_cons.mpr ⟨lw_p48, fun _ h => absurd h List.not_mem_nil⟩
def lw_privs : List (MethodName × Nat) := lw_privs_1 ++ (lw_privs_2 ++ (lw_privs_3 ++ (lw_privs_4)))
def lw_tbl : List Cond := k2_sels lw_privs ++ tables_1
theorem lw_privs_ok : ∀ q ∈ lw_privs, lw_okq q := by
  show ∀ q ∈ lw_privs_1 ++ (lw_privs_2 ++ (lw_privs_3 ++ (lw_privs_4))), lw_okq q
  exact List.forall_mem_append.mpr ⟨lw_r1, List.forall_mem_append.mpr ⟨lw_r2, List.forall_mem_append.mpr ⟨lw_r3, lw_r4⟩⟩⟩
def RX0 : String := "HerringSea$Boat"
def TX0 : u_T := fun k => match k with
  | 0 => ("HerringSea$Boat", "parts", "[I", true)
  | 1 => ("HerringSea$Boat", "got", "[I", true)
  | 2 => ("HerringSea$Boat", "nets", "I", false)
  | 3 => ("HerringSea$Boat", "cell", "I", false)
  | 4 => ("HerringSea$Boat", "takenInAll", "I", false)
  | 5 => ("HerringSea$Boat", "takenLately", "I", false)
  | 6 => ("HerringSea$Boat", "owed", "I", false)
  | _ => ("HerringSea$Boat", "netsLost", "I", false)
def tyX0 : Nat → FieldType := fun k => match k with
  | 0 => .array .int
  | 1 => .array .int
  | 2 => .int
  | 3 => .int
  | 4 => .int
  | 5 => .int
  | 6 => .int
  | _ => .int
theorem nmX0 : ∀ a, a < 8 → ∀ b, b < 8 → a ≠ b → (TX0 a).2.1 ≠ (TX0 b).2.1 := by decide +kernel
theorem tyX0_ok : ∀ k, k < 8 → parseFieldDescriptor (TX0 k).2.2.1 = some (tyX0 k) := by decide +kernel
abbrev cX0_init : ByteArray := prog_2_method_1_code
def yX0_init : MethodName := ⟨RX0, "<init>", "(I)V"⟩
abbrev cX0_isHand : ByteArray := prog_2_method_2_code
def yX0_isHand : MethodName := ⟨RX0, "isHand", "(I)Z"⟩
abbrev cX0_loseNets : ByteArray := prog_2_method_3_code
def yX0_loseNets : MethodName := ⟨RX0, "loseNets", "()V"⟩
abbrev cX0_takeIn : ByteArray := prog_2_method_4_code
def yX0_takeIn : MethodName := ⟨RX0, "takeIn", "(I)V"⟩
def RX1 : String := "HerringSea$Grammar"
def TX1 : u_T := fun k => match k with
  | 0 => ("HerringSea$Grammar", "due", "I", false)
  | 1 => ("HerringSea$Grammar", "depth", "I", false)
  | _ => ("HerringSea$Grammar", "digitsLeft", "I", false)
def tyX1 : Nat → FieldType := fun k => match k with
  | 0 => .int
  | 1 => .int
  | _ => .int
theorem nmX1 : ∀ a, a < 3 → ∀ b, b < 3 → a ≠ b → (TX1 a).2.1 ≠ (TX1 b).2.1 := by decide +kernel
theorem tyX1_ok : ∀ k, k < 3 → parseFieldDescriptor (TX1 k).2.2.1 = some (tyX1 k) := by decide +kernel
abbrev cX1_init : ByteArray := prog_3_method_1_code
def yX1_init : MethodName := ⟨RX1, "<init>", "()V"⟩
abbrev cX1_faultOf : ByteArray := prog_3_method_2_code
def yX1_faultOf : MethodName := ⟨RX1, "faultOf", "(LHerringSea$Text;)I"⟩
abbrev cX1_takes : ByteArray := prog_3_method_3_code
def yX1_takes : MethodName := ⟨RX1, "takes", "(I)Z"⟩
abbrev cX1_takesUnit : ByteArray := prog_3_method_4_code
def yX1_takesUnit : MethodName := ⟨RX1, "takesUnit", "(I)Z"⟩
abbrev cX1_takesSign : ByteArray := prog_3_method_5_code
def yX1_takesSign : MethodName := ⟨RX1, "takesSign", "(I)Z"⟩
abbrev cX1_takesFirstDigit : ByteArray := prog_3_method_6_code
def yX1_takesFirstDigit : MethodName := ⟨RX1, "takesFirstDigit", "(I)Z"⟩
abbrev cX1_takesBehindUnit : ByteArray := prog_3_method_7_code
def yX1_takesBehindUnit : MethodName := ⟨RX1, "takesBehindUnit", "(I)Z"⟩
abbrev cX1_isDigit : ByteArray := prog_3_method_8_code
def yX1_isDigit : MethodName := ⟨RX1, "isDigit", "(I)Z"⟩
def RX2 : String := "HerringSea$Lot"
def TX2 : u_T := fun k => match k with
  | 0 => ("HerringSea$Lot", "night", "I", true)
  | 1 => ("HerringSea$Lot", "boat", "I", true)
  | 2 => ("HerringSea$Lot", "cell", "I", true)
  | 3 => ("HerringSea$Lot", "yard", "I", true)
  | 4 => ("HerringSea$Lot", "crans", "I", true)
  | 5 => ("HerringSea$Lot", "minute", "I", true)
  | 6 => ("HerringSea$Lot", "price", "I", true)
  | 7 => ("HerringSea$Lot", "cured", "I", false)
  | 8 => ("HerringSea$Lot", "spoilt", "I", false)
  | 9 => ("HerringSea$Lot", "greatestWait", "I", false)
  | _ => ("HerringSea$Lot", "doneAt", "I", false)
def tyX2 : Nat → FieldType := fun k => match k with
  | 0 => .int
  | 1 => .int
  | 2 => .int
  | 3 => .int
  | 4 => .int
  | 5 => .int
  | 6 => .int
  | 7 => .int
  | 8 => .int
  | 9 => .int
  | _ => .int
theorem nmX2 : ∀ a, a < 11 → ∀ b, b < 11 → a ≠ b → (TX2 a).2.1 ≠ (TX2 b).2.1 := by decide +kernel
theorem tyX2_ok : ∀ k, k < 11 → parseFieldDescriptor (TX2 k).2.2.1 = some (tyX2 k) := by decide +kernel
abbrev cX2_init : ByteArray := prog_4_method_1_code
def yX2_init : MethodName := ⟨RX2, "<init>", "(IIIIIII)V"⟩
abbrev cX2_cureOne : ByteArray := prog_4_method_2_code
def yX2_cureOne : MethodName := ⟨RX2, "cureOne", "(I)V"⟩
abbrev cX2_measure : ByteArray := prog_4_method_3_code
def yX2_measure : MethodName := ⟨RX2, "measure", "(II)I"⟩
def RX3 : String := "HerringSea$Parting"
def TX3 : u_T := fun k => match k with
  | 0 => ("HerringSea$Parting", "portions", "[I", true)
  | 1 => ("HerringSea$Parting", "measures", "[I", true)
  | 2 => ("HerringSea$Parting", "rests", "[I", true)
  | _ => ("HerringSea$Parting", "sum", "I", false)
def tyX3 : Nat → FieldType := fun k => match k with
  | 0 => .array .int
  | 1 => .array .int
  | 2 => .array .int
  | _ => .int
theorem nmX3 : ∀ a, a < 4 → ∀ b, b < 4 → a ≠ b → (TX3 a).2.1 ≠ (TX3 b).2.1 := by decide +kernel
theorem tyX3_ok : ∀ k, k < 4 → parseFieldDescriptor (TX3 k).2.2.1 = some (tyX3 k) := by decide +kernel
abbrev cX3_init : ByteArray := prog_5_method_1_code
def yX3_init : MethodName := ⟨RX3, "<init>", "()V"⟩
abbrev cX3_clear : ByteArray := prog_5_method_2_code
def yX3_clear : MethodName := ⟨RX3, "clear", "()V"⟩
abbrev cX3_addMeasure : ByteArray := prog_5_method_3_code
def yX3_addMeasure : MethodName := ⟨RX3, "addMeasure", "(II)V"⟩
abbrev cX3_part : ByteArray := prog_5_method_4_code
def yX3_part : MethodName := ⟨RX3, "part", "(I)V"⟩
abbrev cX3_greatestRest : ByteArray := prog_5_method_5_code
def yX3_greatestRest : MethodName := ⟨RX3, "greatestRest", "()I"⟩
def RX4 : String := "HerringSea$Sea"
def TX4 : u_T := fun k => match k with
  | 0 => ("HerringSea$Sea", "crans", "[I", true)
  | 1 => ("HerringSea$Sea", "isOpen", "[Z", true)
  | 2 => ("HerringSea$Sea", "change", "[I", true)
  | 3 => ("HerringSea$Sea", "way", "I", false)
  | _ => ("HerringSea$Sea", "goneToSea", "I", false)
def tyX4 : Nat → FieldType := fun k => match k with
  | 0 => .array .int
  | 1 => .array .boolean
  | 2 => .array .int
  | 3 => .int
  | _ => .int
theorem nmX4 : ∀ a, a < 5 → ∀ b, b < 5 → a ≠ b → (TX4 a).2.1 ≠ (TX4 b).2.1 := by decide +kernel
theorem tyX4_ok : ∀ k, k < 5 → parseFieldDescriptor (TX4 k).2.2.1 = some (tyX4 k) := by decide +kernel
abbrev cX4_init : ByteArray := prog_6_method_1_code
def yX4_init : MethodName := ⟨RX4, "<init>", "()V"⟩
abbrev cX4_isCell : ByteArray := prog_6_method_2_code
def yX4_isCell : MethodName := ⟨RX4, "isCell", "(I)Z"⟩
abbrev cX4_stepsFrom : ByteArray := prog_6_method_3_code
def yX4_stepsFrom : MethodName := ⟨RX4, "stepsFrom", "(I)I"⟩
abbrev cX4_nextCell : ByteArray := prog_6_method_4_code
def yX4_nextCell : MethodName := ⟨RX4, "nextCell", "(II)I"⟩
abbrev cX4_moveShoals : ByteArray := prog_6_method_5_code
def yX4_moveShoals : MethodName := ⟨RX4, "moveShoals", "()V"⟩
abbrev cX4_cransInAll : ByteArray := prog_6_method_6_code
def yX4_cransInAll : MethodName := ⟨RX4, "cransInAll", "()I"⟩
def RX5 : String := "HerringSea$Text"
def TX5 : u_T := fun k => match k with
  | 0 => ("HerringSea$Text", "bytes", "[I", true)
  | _ => ("HerringSea$Text", "length", "I", false)
def tyX5 : Nat → FieldType := fun k => match k with
  | 0 => .array .int
  | _ => .int
theorem nmX5 : ∀ a, a < 2 → ∀ b, b < 2 → a ≠ b → (TX5 a).2.1 ≠ (TX5 b).2.1 := by decide +kernel
theorem tyX5_ok : ∀ k, k < 2 → parseFieldDescriptor (TX5 k).2.2.1 = some (tyX5 k) := by decide +kernel
abbrev cX5_init : ByteArray := prog_7_method_1_code
def yX5_init : MethodName := ⟨RX5, "<init>", "()V"⟩
abbrev cX5_bytesIn : ByteArray := prog_7_method_2_code
def yX5_bytesIn : MethodName := ⟨RX5, "bytesIn", "(I)I"⟩
abbrev cX5_addWord : ByteArray := prog_7_method_3_code
def yX5_addWord : MethodName := ⟨RX5, "addWord", "(I)V"⟩
abbrev cX5_byteAt : ByteArray := prog_7_method_4_code
def yX5_byteAt : MethodName := ⟨RX5, "byteAt", "(I)I"⟩
abbrev cX5_copyFrom : ByteArray := prog_7_method_5_code
def yX5_copyFrom : MethodName := ⟨RX5, "copyFrom", "(LHerringSea$Text;)V"⟩
def RX6 : String := "HerringSea$Verdict"
def TX6 : u_T := fun k => match k with
  | 0 => ("HerringSea$Verdict", "somePartHeld", "I", false)
  | 1 => ("HerringSea$Verdict", "allUnitsHold", "I", false)
  | 2 => ("HerringSea$Verdict", "letter", "I", false)
  | 3 => ("HerringSea$Verdict", "sign", "I", false)
  | _ => ("HerringSea$Verdict", "number", "I", false)
def tyX6 : Nat → FieldType := fun k => match k with
  | 0 => .int
  | 1 => .int
  | 2 => .int
  | 3 => .int
  | _ => .int
theorem nmX6 : ∀ a, a < 5 → ∀ b, b < 5 → a ≠ b → (TX6 a).2.1 ≠ (TX6 b).2.1 := by decide +kernel
theorem tyX6_ok : ∀ k, k < 5 → parseFieldDescriptor (TX6 k).2.2.1 = some (tyX6 k) := by decide +kernel
abbrev cX6_init : ByteArray := prog_8_method_1_code
def yX6_init : MethodName := ⟨RX6, "<init>", "()V"⟩
abbrev cX6_holds : ByteArray := prog_8_method_2_code
def yX6_holds : MethodName := ⟨RX6, "holds", "(LHerringSea$Text;LHerringSea$Lot;I)Z"⟩
abbrev cX6_read : ByteArray := prog_8_method_3_code
def yX6_read : MethodName := ⟨RX6, "read", "(ILHerringSea$Lot;I)V"⟩
abbrev cX6_endComparison : ByteArray := prog_8_method_4_code
def yX6_endComparison : MethodName := ⟨RX6, "endComparison", "(LHerringSea$Lot;I)V"⟩
abbrev cX6_compares : ByteArray := prog_8_method_5_code
def yX6_compares : MethodName := ⟨RX6, "compares", "(I)Z"⟩
abbrev cX6_addUnit : ByteArray := prog_8_method_6_code
def yX6_addUnit : MethodName := ⟨RX6, "addUnit", "(Z)V"⟩
abbrev cX6_endPart : ByteArray := prog_8_method_7_code
def yX6_endPart : MethodName := ⟨RX6, "endPart", "()V"⟩
abbrev cX6_endBracket : ByteArray := prog_8_method_8_code
def yX6_endBracket : MethodName := ⟨RX6, "endBracket", "()V"⟩
def RX7 : String := "HerringSea$Yard"
def TX7 : u_T := fun k => match k with
  | 0 => ("HerringSea$Yard", "freeAt", "[I", true)
  | 1 => ("HerringSea$Yard", "crews", "I", true)
  | 2 => ("HerringSea$Yard", "room", "I", true)
  | 3 => ("HerringSea$Yard", "bid", "I", false)
  | _ => ("HerringSea$Yard", "roomLeft", "I", false)
def tyX7 : Nat → FieldType := fun k => match k with
  | 0 => .array .int
  | 1 => .int
  | 2 => .int
  | 3 => .int
  | _ => .int
theorem nmX7 : ∀ a, a < 5 → ∀ b, b < 5 → a ≠ b → (TX7 a).2.1 ≠ (TX7 b).2.1 := by decide +kernel
theorem tyX7_ok : ∀ k, k < 5 → parseFieldDescriptor (TX7 k).2.2.1 = some (tyX7 k) := by decide +kernel
abbrev cX7_init : ByteArray := prog_9_method_1_code
def yX7_init : MethodName := ⟨RX7, "<init>", "(II)V"⟩
abbrev cX7_beginDay : ByteArray := prog_9_method_2_code
def yX7_beginDay : MethodName := ⟨RX7, "beginDay", "()V"⟩
abbrev cX7_gut : ByteArray := prog_9_method_3_code
def yX7_gut : MethodName := ⟨RX7, "gut", "(LHerringSea$Lot;I)V"⟩
abbrev cX7_firstFreeCrew : ByteArray := prog_9_method_4_code
def yX7_firstFreeCrew : MethodName := ⟨RX7, "firstFreeCrew", "()I"⟩
def RX8 : String := "HerringSea"
def TX8 : u_T := fun k => match k with
  | 0 => ("HerringSea", "sea", "LHerringSea$Sea;", true)
  | 1 => ("HerringSea", "boats", "[LHerringSea$Boat;", true)
  | 2 => ("HerringSea", "yards", "[LHerringSea$Yard;", true)
  | 3 => ("HerringSea", "lots", "[LHerringSea$Lot;", true)
  | 4 => ("HerringSea", "tape", "LHerringSea$Text;", true)
  | 5 => ("HerringSea", "brands", "[LHerringSea$Text;", true)
  | 6 => ("HerringSea", "parting", "LHerringSea$Parting;", true)
  | 7 => ("HerringSea", "grammar", "LHerringSea$Grammar;", true)
  | 8 => ("HerringSea", "verdict", "LHerringSea$Verdict;", true)
  | 9 => ("HerringSea", "boatCount", "I", false)
  | 10 => ("HerringSea", "yardCount", "I", false)
  | 11 => ("HerringSea", "lotCount", "I", false)
  | 12 => ("HerringSea", "now", "I", false)
  | 13 => ("HerringSea", "softMinutes", "I", false)
  | 14 => ("HerringSea", "takenInAll", "I", false)
  | 15 => ("HerringSea", "curedInAll", "I", false)
  | 16 => ("HerringSea", "spoiltInAll", "I", false)
  | _ => ("HerringSea", "thrownAway", "I", false)
def tyX8 : Nat → FieldType := fun k => match k with
  | 0 => .object "HerringSea$Sea"
  | 1 => .array (.object "HerringSea$Boat")
  | 2 => .array (.object "HerringSea$Yard")
  | 3 => .array (.object "HerringSea$Lot")
  | 4 => .object "HerringSea$Text"
  | 5 => .array (.object "HerringSea$Text")
  | 6 => .object "HerringSea$Parting"
  | 7 => .object "HerringSea$Grammar"
  | 8 => .object "HerringSea$Verdict"
  | 9 => .int
  | 10 => .int
  | 11 => .int
  | 12 => .int
  | 13 => .int
  | 14 => .int
  | 15 => .int
  | 16 => .int
  | _ => .int
theorem nmX8 : ∀ a, a < 18 → ∀ b, b < 18 → a ≠ b → (TX8 a).2.1 ≠ (TX8 b).2.1 := by decide +kernel
theorem tyX8_ok : ∀ k, k < 18 → parseFieldDescriptor (TX8 k).2.2.1 = some (tyX8 k) := by decide +kernel
abbrev cX8_init : ByteArray := prog_1_method_1_code
def yX8_init : MethodName := ⟨RX8, "<init>", "()V"⟩
abbrev cX8_shoal : ByteArray := prog_1_method_2_code
def yX8_shoal : MethodName := ⟨RX8, "shoal", "(II)Z"⟩
abbrev cX8_open : ByteArray := prog_1_method_3_code
def yX8_open : MethodName := ⟨RX8, "open", "(IZ)Z"⟩
abbrev cX8_drift : ByteArray := prog_1_method_4_code
def yX8_drift : MethodName := ⟨RX8, "drift", "(I)Z"⟩
abbrev cX8_boat : ByteArray := prog_1_method_5_code
def yX8_boat : MethodName := ⟨RX8, "boat", "(I)I"⟩
abbrev cX8_go : ByteArray := prog_1_method_6_code
def yX8_go : MethodName := ⟨RX8, "go", "(II)Z"⟩
abbrev cX8_mend : ByteArray := prog_1_method_7_code
def yX8_mend : MethodName := ⟨RX8, "mend", "(II)I"⟩
abbrev cX8_yard : ByteArray := prog_1_method_8_code
def yX8_yard : MethodName := ⟨RX8, "yard", "(II)I"⟩
abbrev cX8_bid : ByteArray := prog_1_method_9_code
def yX8_bid : MethodName := ⟨RX8, "bid", "(II)Z"⟩
abbrev cX8_soft : ByteArray := prog_1_method_10_code
def yX8_soft : MethodName := ⟨RX8, "soft", "(I)Z"⟩
abbrev cX8_night : ByteArray := prog_1_method_11_code
def yX8_night : MethodName := ⟨RX8, "night", "(Z)I"⟩
abbrev cX8_feed : ByteArray := prog_1_method_12_code
def yX8_feed : MethodName := ⟨RX8, "feed", "(IIIII)I"⟩
abbrev cX8_end : ByteArray := prog_1_method_13_code
def yX8_end : MethodName := ⟨RX8, "end", "(I)Z"⟩
abbrev cX8_fault : ByteArray := prog_1_method_14_code
def yX8_fault : MethodName := ⟨RX8, "fault", "()I"⟩
abbrev cX8_brand : ByteArray := prog_1_method_15_code
def yX8_brand : MethodName := ⟨RX8, "brand", "(I)Z"⟩
abbrev cX8_judge : ByteArray := prog_1_method_16_code
def yX8_judge : MethodName := ⟨RX8, "judge", "(II)I"⟩
abbrev cX8_branded : ByteArray := prog_1_method_17_code
def yX8_branded : MethodName := ⟨RX8, "branded", "(I)I"⟩
abbrev cX8_share : ByteArray := prog_1_method_18_code
def yX8_share : MethodName := ⟨RX8, "share", "(III)Z"⟩
abbrev cX8_settle : ByteArray := prog_1_method_19_code
def yX8_settle : MethodName := ⟨RX8, "settle", "(I)I"⟩
abbrev cX8_coins : ByteArray := prog_1_method_20_code
def yX8_coins : MethodName := ⟨RX8, "coins", "(II)I"⟩
abbrev cX8_cell : ByteArray := prog_1_method_21_code
def yX8_cell : MethodName := ⟨RX8, "cell", "(II)I"⟩
abbrev cX8_told : ByteArray := prog_1_method_22_code
def yX8_told : MethodName := ⟨RX8, "told", "(II)I"⟩
abbrev cX8_lot : ByteArray := prog_1_method_23_code
def yX8_lot : MethodName := ⟨RX8, "lot", "(II)I"⟩
abbrev cX8_count : ByteArray := prog_1_method_24_code
def yX8_count : MethodName := ⟨RX8, "count", "(I)I"⟩
abbrev cX8_isWithin : ByteArray := prog_1_method_25_code
def yX8_isWithin : MethodName := ⟨RX8, "isWithin", "(III)Z"⟩
abbrev cX8_boatAt : ByteArray := prog_1_method_26_code
def yX8_boatAt : MethodName := ⟨RX8, "boatAt", "(I)LHerringSea$Boat;"⟩
abbrev cX8_yardAt : ByteArray := prog_1_method_27_code
def yX8_yardAt : MethodName := ⟨RX8, "yardAt", "(I)LHerringSea$Yard;"⟩
abbrev cX8_lotAt : ByteArray := prog_1_method_28_code
def yX8_lotAt : MethodName := ⟨RX8, "lotAt", "(I)LHerringSea$Lot;"⟩
abbrev cX8_textAt : ByteArray := prog_1_method_29_code
def yX8_textAt : MethodName := ⟨RX8, "textAt", "(I)LHerringSea$Text;"⟩
abbrev cX8_owedInAll : ByteArray := prog_1_method_30_code
def yX8_owedInAll : MethodName := ⟨RX8, "owedInAll", "()I"⟩
abbrev cX8_beginNight : ByteArray := prog_1_method_31_code
def yX8_beginNight : MethodName := ⟨RX8, "beginNight", "(Z)V"⟩
abbrev cX8_isStormy : ByteArray := prog_1_method_32_code
def yX8_isStormy : MethodName := ⟨RX8, "isStormy", "(IZ)Z"⟩
abbrev cX8_haulEverywhere : ByteArray := prog_1_method_33_code
def yX8_haulEverywhere : MethodName := ⟨RX8, "haulEverywhere", "(Z)I"⟩
abbrev cX8_haulIn : ByteArray := prog_1_method_34_code
def yX8_haulIn : MethodName := ⟨RX8, "haulIn", "(I)I"⟩
abbrev cX8_sellAllCatches : ByteArray := prog_1_method_35_code
def yX8_sellAllCatches : MethodName := ⟨RX8, "sellAllCatches", "()V"⟩
abbrev cX8_sellCatch : ByteArray := prog_1_method_36_code
def yX8_sellCatch : MethodName := ⟨RX8, "sellCatch", "(ILHerringSea$Boat;I)V"⟩
abbrev cX8_bestBidder : ByteArray := prog_1_method_37_code
def yX8_bestBidder : MethodName := ⟨RX8, "bestBidder", "()I"⟩
abbrev cX8_gutLotsFrom : ByteArray := prog_1_method_38_code
def yX8_gutLotsFrom : MethodName := ⟨RX8, "gutLotsFrom", "(I)V"⟩
abbrev cX8_gutLot : ByteArray := prog_1_method_39_code
def yX8_gutLot : MethodName := ⟨RX8, "gutLot", "(LHerringSea$Lot;)V"⟩
def RX9 : String := "HerringSeaModel"
def TX9 : u_T := fun k => match k with
  | 0 => ("HerringSeaModel", "crans", "[I", true)
  | 1 => ("HerringSeaModel", "open", "[Z", true)
  | 2 => ("HerringSeaModel", "nets", "[I", true)
  | 3 => ("HerringSeaModel", "cellOf", "[I", true)
  | 4 => ("HerringSeaModel", "took", "[I", true)
  | 5 => ("HerringSeaModel", "tookNow", "[I", true)
  | 6 => ("HerringSeaModel", "owed", "[I", true)
  | 7 => ("HerringSeaModel", "lost", "[I", true)
  | 8 => ("HerringSeaModel", "parts", "[I", true)
  | 9 => ("HerringSeaModel", "coins", "[I", true)
  | 10 => ("HerringSeaModel", "crews", "[I", true)
  | 11 => ("HerringSeaModel", "room", "[I", true)
  | 12 => ("HerringSeaModel", "bids", "[I", true)
  | 13 => ("HerringSeaModel", "lotNight", "[I", true)
  | 14 => ("HerringSeaModel", "lotBoat", "[I", true)
  | 15 => ("HerringSeaModel", "lotCell", "[I", true)
  | 16 => ("HerringSeaModel", "lotYard", "[I", true)
  | 17 => ("HerringSeaModel", "lotCrans", "[I", true)
  | 18 => ("HerringSeaModel", "lotCured", "[I", true)
  | 19 => ("HerringSeaModel", "lotSpoilt", "[I", true)
  | 20 => ("HerringSeaModel", "lotMinute", "[I", true)
  | 21 => ("HerringSeaModel", "lotPrice", "[I", true)
  | 22 => ("HerringSeaModel", "lotWait", "[I", true)
  | 23 => ("HerringSeaModel", "lotDone", "[I", true)
  | 24 => ("HerringSeaModel", "now", "I", false)
  | 25 => ("HerringSeaModel", "boats", "I", false)
  | 26 => ("HerringSeaModel", "yards", "I", false)
  | 27 => ("HerringSeaModel", "lots", "I", false)
  | 28 => ("HerringSeaModel", "way", "I", false)
  | 29 => ("HerringSeaModel", "soft", "I", false)
  | 30 => ("HerringSeaModel", "taken", "I", false)
  | 31 => ("HerringSeaModel", "cured", "I", false)
  | 32 => ("HerringSeaModel", "spoilt", "I", false)
  | 33 => ("HerringSeaModel", "atSea", "I", false)
  | 34 => ("HerringSeaModel", "thrown", "I", false)
  | 35 => ("HerringSeaModel", "measure", "[I", true)
  | 36 => ("HerringSeaModel", "share", "[I", true)
  | 37 => ("HerringSeaModel", "more", "[Z", true)
  | 38 => ("HerringSeaModel", "who", "[I", true)
  | 39 => ("HerringSeaModel", "come", "[I", true)
  | 40 => ("HerringSeaModel", "left", "[I", true)
  | 41 => ("HerringSeaModel", "sold", "[Z", true)
  | 42 => ("HerringSeaModel", "free", "[I", true)
  | 43 => ("HerringSeaModel", "tape", "[I", true)
  | 44 => ("HerringSeaModel", "codes", "[I", true)
  | 45 => ("HerringSeaModel", "saying", "[I", true)
  | 46 => ("HerringSeaModel", "has", "[Z", true)
  | 47 => ("HerringSeaModel", "size", "I", false)
  | 48 => ("HerringSeaModel", "at", "I", false)
  | 49 => ("HerringSeaModel", "wrong", "I", false)
  | 50 => ("HerringSeaModel", "deep", "I", false)
  | 51 => ("HerringSeaModel", "said", "I", false)
  | _ => ("HerringSeaModel", "pile", "[Z", true)
def tyX9 : Nat → FieldType := fun k => match k with
  | 0 => .array .int
  | 1 => .array .boolean
  | 2 => .array .int
  | 3 => .array .int
  | 4 => .array .int
  | 5 => .array .int
  | 6 => .array .int
  | 7 => .array .int
  | 8 => .array .int
  | 9 => .array .int
  | 10 => .array .int
  | 11 => .array .int
  | 12 => .array .int
  | 13 => .array .int
  | 14 => .array .int
  | 15 => .array .int
  | 16 => .array .int
  | 17 => .array .int
  | 18 => .array .int
  | 19 => .array .int
  | 20 => .array .int
  | 21 => .array .int
  | 22 => .array .int
  | 23 => .array .int
  | 24 => .int
  | 25 => .int
  | 26 => .int
  | 27 => .int
  | 28 => .int
  | 29 => .int
  | 30 => .int
  | 31 => .int
  | 32 => .int
  | 33 => .int
  | 34 => .int
  | 35 => .array .int
  | 36 => .array .int
  | 37 => .array .boolean
  | 38 => .array .int
  | 39 => .array .int
  | 40 => .array .int
  | 41 => .array .boolean
  | 42 => .array .int
  | 43 => .array .int
  | 44 => .array .int
  | 45 => .array .int
  | 46 => .array .boolean
  | 47 => .int
  | 48 => .int
  | 49 => .int
  | 50 => .int
  | 51 => .int
  | _ => .array .boolean
theorem nmX9 : ∀ a, a < 53 → ∀ b, b < 53 → a ≠ b → (TX9 a).2.1 ≠ (TX9 b).2.1 := by decide +kernel
theorem tyX9_ok : ∀ k, k < 53 → parseFieldDescriptor (TX9 k).2.2.1 = some (tyX9 k) := by decide +kernel
abbrev cX9_init : ByteArray := prog_11_method_1_code
def yX9_init : MethodName := ⟨RX9, "<init>", "()V"⟩
abbrev cX9_in : ByteArray := prog_11_method_2_code
def yX9_in : MethodName := ⟨RX9, "in", "(III)Z"⟩
abbrev cX9_isBoat : ByteArray := prog_11_method_3_code
def yX9_isBoat : MethodName := ⟨RX9, "isBoat", "(I)Z"⟩
abbrev cX9_partAmong : ByteArray := prog_11_method_4_code
def yX9_partAmong : MethodName := ⟨RX9, "partAmong", "(JI)V"⟩
abbrev cX9_shoal : ByteArray := prog_11_method_5_code
def yX9_shoal : MethodName := ⟨RX9, "shoal", "(II)Z"⟩
abbrev cX9_open : ByteArray := prog_11_method_6_code
def yX9_open : MethodName := ⟨RX9, "open", "(IZ)Z"⟩
abbrev cX9_drift : ByteArray := prog_11_method_7_code
def yX9_drift : MethodName := ⟨RX9, "drift", "(I)Z"⟩
abbrev cX9_boat : ByteArray := prog_11_method_8_code
def yX9_boat : MethodName := ⟨RX9, "boat", "(I)I"⟩
abbrev cX9_go : ByteArray := prog_11_method_9_code
def yX9_go : MethodName := ⟨RX9, "go", "(II)Z"⟩
abbrev cX9_mend : ByteArray := prog_11_method_10_code
def yX9_mend : MethodName := ⟨RX9, "mend", "(II)I"⟩
abbrev cX9_yard : ByteArray := prog_11_method_11_code
def yX9_yard : MethodName := ⟨RX9, "yard", "(II)I"⟩
abbrev cX9_bid : ByteArray := prog_11_method_12_code
def yX9_bid : MethodName := ⟨RX9, "bid", "(II)Z"⟩
abbrev cX9_soft : ByteArray := prog_11_method_13_code
def yX9_soft : MethodName := ⟨RX9, "soft", "(I)Z"⟩
abbrev cX9_haul : ByteArray := prog_11_method_14_code
def yX9_haul : MethodName := ⟨RX9, "haul", "(I)I"⟩
abbrev cX9_storm : ByteArray := prog_11_method_15_code
def yX9_storm : MethodName := ⟨RX9, "storm", "()V"⟩
abbrev cX9_beside : ByteArray := prog_11_method_16_code
def yX9_beside : MethodName := ⟨RX9, "beside", "(I)I"⟩
abbrev cX9_driftAll : ByteArray := prog_11_method_17_code
def yX9_driftAll : MethodName := ⟨RX9, "driftAll", "()V"⟩
abbrev cX9_minute : ByteArray := prog_11_method_18_code
def yX9_minute : MethodName := ⟨RX9, "minute", "(I)I"⟩
abbrev cX9_nextBoat : ByteArray := prog_11_method_19_code
def yX9_nextBoat : MethodName := ⟨RX9, "nextBoat", "()I"⟩
abbrev cX9_bestYard : ByteArray := prog_11_method_20_code
def yX9_bestYard : MethodName := ⟨RX9, "bestYard", "()I"⟩
abbrev cX9_sellAll : ByteArray := prog_11_method_21_code
def yX9_sellAll : MethodName := ⟨RX9, "sellAll", "()V"⟩
abbrev cX9_sell : ByteArray := prog_11_method_22_code
def yX9_sell : MethodName := ⟨RX9, "sell", "(III)V"⟩
abbrev cX9_work : ByteArray := prog_11_method_23_code
def yX9_work : MethodName := ⟨RX9, "work", "(II)V"⟩
abbrev cX9_night : ByteArray := prog_11_method_24_code
def yX9_night : MethodName := ⟨RX9, "night", "(Z)I"⟩
abbrev cX9_byteOf : ByteArray := prog_11_method_25_code
def yX9_byteOf : MethodName := ⟨RX9, "byteOf", "(IIIIII)I"⟩
abbrev cX9_feed : ByteArray := prog_11_method_26_code
def yX9_feed : MethodName := ⟨RX9, "feed", "(IIIII)I"⟩
abbrev cX9_end : ByteArray := prog_11_method_27_code
def yX9_end : MethodName := ⟨RX9, "end", "(I)Z"⟩
abbrev cX9_look : ByteArray := prog_11_method_28_code
def yX9_look : MethodName := ⟨RX9, "look", "()I"⟩
abbrev cX9_fail : ByteArray := prog_11_method_29_code
def yX9_fail : MethodName := ⟨RX9, "fail", "()V"⟩
abbrev cX9_say : ByteArray := prog_11_method_30_code
def yX9_say : MethodName := ⟨RX9, "say", "(I)V"⟩
abbrev cX9_unit : ByteArray := prog_11_method_31_code
def yX9_unit : MethodName := ⟨RX9, "unit", "()V"⟩
abbrev cX9_number : ByteArray := prog_11_method_32_code
def yX9_number : MethodName := ⟨RX9, "number", "()V"⟩
abbrev cX9_part : ByteArray := prog_11_method_33_code
def yX9_part : MethodName := ⟨RX9, "part", "()V"⟩
abbrev cX9_whole : ByteArray := prog_11_method_34_code
def yX9_whole : MethodName := ⟨RX9, "whole", "()V"⟩
abbrev cX9_fault : ByteArray := prog_11_method_35_code
def yX9_fault : MethodName := ⟨RX9, "fault", "()I"⟩
abbrev cX9_brand : ByteArray := prog_11_method_36_code
def yX9_brand : MethodName := ⟨RX9, "brand", "(I)Z"⟩
abbrev cX9_value : ByteArray := prog_11_method_37_code
def yX9_value : MethodName := ⟨RX9, "value", "(II)I"⟩
abbrev cX9_holds : ByteArray := prog_11_method_38_code
def yX9_holds : MethodName := ⟨RX9, "holds", "(II)Z"⟩
abbrev cX9_isLot : ByteArray := prog_11_method_39_code
def yX9_isLot : MethodName := ⟨RX9, "isLot", "(I)Z"⟩
abbrev cX9_judge : ByteArray := prog_11_method_40_code
def yX9_judge : MethodName := ⟨RX9, "judge", "(II)I"⟩
abbrev cX9_branded : ByteArray := prog_11_method_41_code
def yX9_branded : MethodName := ⟨RX9, "branded", "(I)I"⟩
abbrev cX9_share : ByteArray := prog_11_method_42_code
def yX9_share : MethodName := ⟨RX9, "share", "(III)Z"⟩
abbrev cX9_settle : ByteArray := prog_11_method_43_code
def yX9_settle : MethodName := ⟨RX9, "settle", "(I)I"⟩
abbrev cX9_coins : ByteArray := prog_11_method_44_code
def yX9_coins : MethodName := ⟨RX9, "coins", "(II)I"⟩
abbrev cX9_cell : ByteArray := prog_11_method_45_code
def yX9_cell : MethodName := ⟨RX9, "cell", "(II)I"⟩
abbrev cX9_told : ByteArray := prog_11_method_46_code
def yX9_told : MethodName := ⟨RX9, "told", "(II)I"⟩
abbrev cX9_lot : ByteArray := prog_11_method_47_code
def yX9_lot : MethodName := ⟨RX9, "lot", "(II)I"⟩
abbrev cX9_count : ByteArray := prog_11_method_48_code
def yX9_count : MethodName := ⟨RX9, "count", "(I)I"⟩
def RJ9 : String := "java/lang/Math"
def TJ9 : u_T := fun k => match k with
  | _ => ("", "", "", false)
def tyJ9 : Nat → FieldType := fun k => match k with
  | _ => .int
theorem nmJ9 : ∀ a, a < 0 → ∀ b, b < 0 → a ≠ b → (TJ9 a).2.1 ≠ (TJ9 b).2.1 := by decide +kernel
theorem tyJ9_ok : ∀ k, k < 0 → parseFieldDescriptor (TJ9 k).2.2.1 = some (tyJ9 k) := by decide +kernel
abbrev cJ9_max_7cf53 : ByteArray := prog_12_method_65_code
def yJ9_max_7cf53 : MethodName := ⟨RJ9, "max", "(II)I"⟩
abbrev cJ9_min_7cf53 : ByteArray := prog_12_method_69_code
def yJ9_min_7cf53 : MethodName := ⟨RJ9, "min", "(II)I"⟩
def RL : String := "HerringSeaLaw"
abbrev vwCl : List vw_C := [(RX0, TX0, 8), (RX1, TX1, 3), (RX2, TX2, 11), (RX3, TX3, 4), (RX4, TX4, 5), (RX5, TX5, 2), (RX6, TX6, 5), (RX7, TX7, 5), (RX8, TX8, 18), (RX9, TX9, 53)]
abbrev cL_law : ByteArray := code
end
section
theorem dX0_init_0 : decode cX0_init 0 = .ok (.aload_n 0, 1) := by decide +kernel
theorem dX0_init_1 : decode cX0_init 1 = .ok (.invokespecial 3, 3) := by decide +kernel
theorem dX0_init_4 : decode cX0_init 4 = .ok (.aload_n 0, 1) := by decide +kernel
theorem dX0_init_5 : decode cX0_init 5 = .ok (.bipush 8, 2) := by decide +kernel
theorem dX0_init_7 : decode cX0_init 7 = .ok (.newarray .int, 2) := by decide +kernel
theorem dX0_init_9 : decode cX0_init 9 = .ok (.putfield 9, 3) := by decide +kernel
theorem dX0_init_12 : decode cX0_init 12 = .ok (.aload_n 0, 1) := by decide +kernel
theorem dX0_init_13 : decode cX0_init 13 = .ok (.bipush 8, 2) := by decide +kernel
theorem dX0_init_15 : decode cX0_init 15 = .ok (.newarray .int, 2) := by decide +kernel
theorem dX0_init_17 : decode cX0_init 17 = .ok (.putfield 15, 3) := by decide +kernel
theorem dX0_init_20 : decode cX0_init 20 = .ok (.aload_n 0, 1) := by decide +kernel
theorem dX0_init_21 : decode cX0_init 21 = .ok (.iconst (-1), 1) := by decide +kernel
theorem dX0_init_22 : decode cX0_init 22 = .ok (.putfield 18, 3) := by decide +kernel
theorem dX0_init_25 : decode cX0_init 25 = .ok (.aload_n 0, 1) := by decide +kernel
theorem dX0_init_26 : decode cX0_init 26 = .ok (.iload_n 1, 1) := by decide +kernel
theorem dX0_init_27 : decode cX0_init 27 = .ok (.putfield 22, 3) := by decide +kernel
theorem dX0_init_30 : decode cX0_init 30 = .ok (.return_, 1) := by decide +kernel
theorem dX0_isHand_0 : decode cX0_isHand 0 = .ok (.iload_n 0, 1) := by decide +kernel
theorem dX0_isHand_1 : decode cX0_isHand 1 = .ok (.ifCond .lt 13, 3) := by decide +kernel
theorem dX0_isHand_4 : decode cX0_isHand 4 = .ok (.iload_n 0, 1) := by decide +kernel
theorem dX0_isHand_5 : decode cX0_isHand 5 = .ok (.bipush 8, 2) := by decide +kernel
theorem dX0_isHand_7 : decode cX0_isHand 7 = .ok (.if_icmp .ge 7, 3) := by decide +kernel
theorem dX0_isHand_10 : decode cX0_isHand 10 = .ok (.iconst 1, 1) := by decide +kernel
theorem dX0_isHand_11 : decode cX0_isHand 11 = .ok (.goto 4, 3) := by decide +kernel
theorem dX0_isHand_14 : decode cX0_isHand 14 = .ok (.iconst 0, 1) := by decide +kernel
theorem dX0_isHand_15 : decode cX0_isHand 15 = .ok (.ireturn, 1) := by decide +kernel
theorem dX0_loseNets_0 : decode cX0_loseNets 0 = .ok (.aload_n 0, 1) := by decide +kernel
theorem dX0_loseNets_1 : decode cX0_loseNets 1 = .ok (.getfield 22, 3) := by decide +kernel
theorem dX0_loseNets_4 : decode cX0_loseNets 4 = .ok (.iconst 5, 1) := by decide +kernel
theorem dX0_loseNets_5 : decode cX0_loseNets 5 = .ok (.idiv, 1) := by decide +kernel
theorem dX0_loseNets_6 : decode cX0_loseNets 6 = .ok (.istore_n 1, 1) := by decide +kernel
theorem dX0_loseNets_7 : decode cX0_loseNets 7 = .ok (.aload_n 0, 1) := by decide +kernel
theorem dX0_loseNets_8 : decode cX0_loseNets 8 = .ok (.dup, 1) := by decide +kernel
theorem dX0_loseNets_9 : decode cX0_loseNets 9 = .ok (.getfield 22, 3) := by decide +kernel
theorem dX0_loseNets_12 : decode cX0_loseNets 12 = .ok (.iload_n 1, 1) := by decide +kernel
theorem dX0_loseNets_13 : decode cX0_loseNets 13 = .ok (.isub, 1) := by decide +kernel
theorem dX0_loseNets_14 : decode cX0_loseNets 14 = .ok (.putfield 22, 3) := by decide +kernel
theorem dX0_loseNets_17 : decode cX0_loseNets 17 = .ok (.aload_n 0, 1) := by decide +kernel
theorem dX0_loseNets_18 : decode cX0_loseNets 18 = .ok (.dup, 1) := by decide +kernel
theorem dX0_loseNets_19 : decode cX0_loseNets 19 = .ok (.getfield 25, 3) := by decide +kernel
theorem dX0_loseNets_22 : decode cX0_loseNets 22 = .ok (.iload_n 1, 1) := by decide +kernel
theorem dX0_loseNets_23 : decode cX0_loseNets 23 = .ok (.iadd, 1) := by decide +kernel
theorem dX0_loseNets_24 : decode cX0_loseNets 24 = .ok (.putfield 25, 3) := by decide +kernel
theorem dX0_loseNets_27 : decode cX0_loseNets 27 = .ok (.return_, 1) := by decide +kernel
theorem dX0_takeIn_0 : decode cX0_takeIn 0 = .ok (.aload_n 0, 1) := by decide +kernel
theorem dX0_takeIn_1 : decode cX0_takeIn 1 = .ok (.dup, 1) := by decide +kernel
theorem dX0_takeIn_2 : decode cX0_takeIn 2 = .ok (.getfield 28, 3) := by decide +kernel
theorem dX0_takeIn_5 : decode cX0_takeIn 5 = .ok (.iload_n 1, 1) := by decide +kernel
theorem dX0_takeIn_6 : decode cX0_takeIn 6 = .ok (.iadd, 1) := by decide +kernel
theorem dX0_takeIn_7 : decode cX0_takeIn 7 = .ok (.putfield 28, 3) := by decide +kernel
theorem dX0_takeIn_10 : decode cX0_takeIn 10 = .ok (.aload_n 0, 1) := by decide +kernel
theorem dX0_takeIn_11 : decode cX0_takeIn 11 = .ok (.dup, 1) := by decide +kernel
theorem dX0_takeIn_12 : decode cX0_takeIn 12 = .ok (.getfield 31, 3) := by decide +kernel
theorem dX0_takeIn_15 : decode cX0_takeIn 15 = .ok (.iload_n 1, 1) := by decide +kernel
theorem dX0_takeIn_16 : decode cX0_takeIn 16 = .ok (.iadd, 1) := by decide +kernel
theorem dX0_takeIn_17 : decode cX0_takeIn 17 = .ok (.putfield 31, 3) := by decide +kernel
theorem dX0_takeIn_20 : decode cX0_takeIn 20 = .ok (.return_, 1) := by decide +kernel
theorem dX1_init_0 : decode cX1_init 0 = .ok (.aload_n 0, 1) := by decide +kernel
theorem dX1_init_1 : decode cX1_init 1 = .ok (.invokespecial 3, 3) := by decide +kernel
theorem dX1_init_4 : decode cX1_init 4 = .ok (.return_, 1) := by decide +kernel
theorem dX1_faultOf_0 : decode cX1_faultOf 0 = .ok (.aload_n 0, 1) := by decide +kernel
theorem dX1_faultOf_1 : decode cX1_faultOf 1 = .ok (.iconst 0, 1) := by decide +kernel
theorem dX1_faultOf_2 : decode cX1_faultOf 2 = .ok (.putfield 11, 3) := by decide +kernel
theorem dX1_faultOf_5 : decode cX1_faultOf 5 = .ok (.aload_n 0, 1) := by decide +kernel
theorem dX1_faultOf_6 : decode cX1_faultOf 6 = .ok (.iconst 0, 1) := by decide +kernel
theorem dX1_faultOf_7 : decode cX1_faultOf 7 = .ok (.putfield 15, 3) := by decide +kernel
theorem dX1_faultOf_10 : decode cX1_faultOf 10 = .ok (.aload_n 0, 1) := by decide +kernel
theorem dX1_faultOf_11 : decode cX1_faultOf 11 = .ok (.iconst 0, 1) := by decide +kernel
theorem dX1_faultOf_12 : decode cX1_faultOf 12 = .ok (.putfield 18, 3) := by decide +kernel
theorem dX1_faultOf_15 : decode cX1_faultOf 15 = .ok (.iconst 0, 1) := by decide +kernel
theorem dX1_faultOf_16 : decode cX1_faultOf 16 = .ok (.istore_n 2, 1) := by decide +kernel
theorem dX1_faultOf_17 : decode cX1_faultOf 17 = .ok (.iload_n 2, 1) := by decide +kernel
theorem dX1_faultOf_18 : decode cX1_faultOf 18 = .ok (.aload_n 1, 1) := by decide +kernel
theorem dX1_faultOf_19 : decode cX1_faultOf 19 = .ok (.getfield 21, 3) := by decide +kernel
theorem dX1_faultOf_22 : decode cX1_faultOf 22 = .ok (.if_icmp .ge 23, 3) := by decide +kernel
theorem dX1_faultOf_25 : decode cX1_faultOf 25 = .ok (.aload_n 0, 1) := by decide +kernel
theorem dX1_faultOf_26 : decode cX1_faultOf 26 = .ok (.aload_n 1, 1) := by decide +kernel
theorem dX1_faultOf_27 : decode cX1_faultOf 27 = .ok (.iload_n 2, 1) := by decide +kernel
theorem dX1_faultOf_28 : decode cX1_faultOf 28 = .ok (.invokevirtual 26, 3) := by decide +kernel
theorem dX1_faultOf_31 : decode cX1_faultOf 31 = .ok (.invokevirtual 30, 3) := by decide +kernel
theorem dX1_faultOf_34 : decode cX1_faultOf 34 = .ok (.ifCond .ne 5, 3) := by decide +kernel
theorem dX1_faultOf_37 : decode cX1_faultOf 37 = .ok (.iload_n 2, 1) := by decide +kernel
theorem dX1_faultOf_38 : decode cX1_faultOf 38 = .ok (.ireturn, 1) := by decide +kernel
theorem dX1_faultOf_39 : decode cX1_faultOf 39 = .ok (.iinc 2 1, 3) := by decide +kernel
theorem dX1_faultOf_42 : decode cX1_faultOf 42 = .ok (.goto (-25), 3) := by decide +kernel
theorem dX1_faultOf_45 : decode cX1_faultOf 45 = .ok (.aload_n 0, 1) := by decide +kernel
theorem dX1_faultOf_46 : decode cX1_faultOf 46 = .ok (.getfield 11, 3) := by decide +kernel
theorem dX1_faultOf_49 : decode cX1_faultOf 49 = .ok (.iconst 3, 1) := by decide +kernel
theorem dX1_faultOf_50 : decode cX1_faultOf 50 = .ok (.if_icmp .ne 14, 3) := by decide +kernel
theorem dX1_faultOf_53 : decode cX1_faultOf 53 = .ok (.aload_n 0, 1) := by decide +kernel
theorem dX1_faultOf_54 : decode cX1_faultOf 54 = .ok (.getfield 15, 3) := by decide +kernel
theorem dX1_faultOf_57 : decode cX1_faultOf 57 = .ok (.ifCond .ne 7, 3) := by decide +kernel
theorem dX1_faultOf_60 : decode cX1_faultOf 60 = .ok (.iconst (-1), 1) := by decide +kernel
theorem dX1_faultOf_61 : decode cX1_faultOf 61 = .ok (.goto 7, 3) := by decide +kernel
theorem dX1_faultOf_64 : decode cX1_faultOf 64 = .ok (.aload_n 1, 1) := by decide +kernel
theorem dX1_faultOf_65 : decode cX1_faultOf 65 = .ok (.getfield 21, 3) := by decide +kernel
theorem dX1_faultOf_68 : decode cX1_faultOf 68 = .ok (.ireturn, 1) := by decide +kernel
theorem dX1_takes_0 : decode cX1_takes 0 = .ok (.iload_n 1, 1) := by decide +kernel
theorem dX1_takes_1 : decode cX1_takes 1 = .ok (.bipush 32, 2) := by decide +kernel
theorem dX1_takes_3 : decode cX1_takes 3 = .ok (.if_icmp .ne 10, 3) := by decide +kernel
theorem dX1_takes_6 : decode cX1_takes 6 = .ok (.aload_n 0, 1) := by decide +kernel
theorem dX1_takes_7 : decode cX1_takes 7 = .ok (.iconst 0, 1) := by decide +kernel
theorem dX1_takes_8 : decode cX1_takes 8 = .ok (.putfield 18, 3) := by decide +kernel
theorem dX1_takes_11 : decode cX1_takes 11 = .ok (.iconst 1, 1) := by decide +kernel
theorem dX1_takes_12 : decode cX1_takes 12 = .ok (.ireturn, 1) := by decide +kernel
theorem dX1_takes_13 : decode cX1_takes 13 = .ok (.aload_n 0, 1) := by decide +kernel
theorem dX1_takes_14 : decode cX1_takes 14 = .ok (.getfield 11, 3) := by decide +kernel
theorem dX1_takes_17 : decode cX1_takes 17 = .ok (.tableswitch 45 0 2 #[27, 33, 39], 27) := by decide +kernel
theorem dX1_takes_44 : decode cX1_takes 44 = .ok (.aload_n 0, 1) := by decide +kernel
theorem dX1_takes_45 : decode cX1_takes 45 = .ok (.iload_n 1, 1) := by decide +kernel
theorem dX1_takes_46 : decode cX1_takes 46 = .ok (.invokevirtual 34, 3) := by decide +kernel
theorem dX1_takes_49 : decode cX1_takes 49 = .ok (.ireturn, 1) := by decide +kernel
theorem dX1_takes_50 : decode cX1_takes 50 = .ok (.aload_n 0, 1) := by decide +kernel
theorem dX1_takes_51 : decode cX1_takes 51 = .ok (.iload_n 1, 1) := by decide +kernel
theorem dX1_takes_52 : decode cX1_takes 52 = .ok (.invokevirtual 37, 3) := by decide +kernel
theorem dX1_takes_55 : decode cX1_takes 55 = .ok (.ireturn, 1) := by decide +kernel
theorem dX1_takes_56 : decode cX1_takes 56 = .ok (.aload_n 0, 1) := by decide +kernel
theorem dX1_takes_57 : decode cX1_takes 57 = .ok (.iload_n 1, 1) := by decide +kernel
theorem dX1_takes_58 : decode cX1_takes 58 = .ok (.invokevirtual 40, 3) := by decide +kernel
theorem dX1_takes_61 : decode cX1_takes 61 = .ok (.ireturn, 1) := by decide +kernel
theorem dX1_takes_62 : decode cX1_takes 62 = .ok (.aload_n 0, 1) := by decide +kernel
theorem dX1_takes_63 : decode cX1_takes 63 = .ok (.iload_n 1, 1) := by decide +kernel
theorem dX1_takes_64 : decode cX1_takes 64 = .ok (.invokevirtual 43, 3) := by decide +kernel
theorem dX1_takes_67 : decode cX1_takes 67 = .ok (.ireturn, 1) := by decide +kernel
theorem dX1_takesUnit_0 : decode cX1_takesUnit 0 = .ok (.iload_n 1, 1) := by decide +kernel
theorem dX1_takesUnit_1 : decode cX1_takesUnit 1 = .ok (.bipush 40, 2) := by decide +kernel
theorem dX1_takesUnit_3 : decode cX1_takesUnit 3 = .ok (.if_icmp .ne 28, 3) := by decide +kernel
theorem dX1_takesUnit_6 : decode cX1_takesUnit 6 = .ok (.aload_n 0, 1) := by decide +kernel
theorem dX1_takesUnit_7 : decode cX1_takesUnit 7 = .ok (.dup, 1) := by decide +kernel
theorem dX1_takesUnit_8 : decode cX1_takesUnit 8 = .ok (.getfield 15, 3) := by decide +kernel
theorem dX1_takesUnit_11 : decode cX1_takesUnit 11 = .ok (.iconst 1, 1) := by decide +kernel
theorem dX1_takesUnit_12 : decode cX1_takesUnit 12 = .ok (.iadd, 1) := by decide +kernel
theorem dX1_takesUnit_13 : decode cX1_takesUnit 13 = .ok (.putfield 15, 3) := by decide +kernel
theorem dX1_takesUnit_16 : decode cX1_takesUnit 16 = .ok (.aload_n 0, 1) := by decide +kernel
theorem dX1_takesUnit_17 : decode cX1_takesUnit 17 = .ok (.getfield 15, 3) := by decide +kernel
theorem dX1_takesUnit_20 : decode cX1_takesUnit 20 = .ok (.bipush 8, 2) := by decide +kernel
theorem dX1_takesUnit_22 : decode cX1_takesUnit 22 = .ok (.if_icmp .gt 7, 3) := by decide +kernel
theorem dX1_takesUnit_25 : decode cX1_takesUnit 25 = .ok (.iconst 1, 1) := by decide +kernel
theorem dX1_takesUnit_26 : decode cX1_takesUnit 26 = .ok (.goto 4, 3) := by decide +kernel
theorem dX1_takesUnit_29 : decode cX1_takesUnit 29 = .ok (.iconst 0, 1) := by decide +kernel
theorem dX1_takesUnit_30 : decode cX1_takesUnit 30 = .ok (.ireturn, 1) := by decide +kernel
theorem dX1_takesUnit_31 : decode cX1_takesUnit 31 = .ok (.aload_n 0, 1) := by decide +kernel
theorem dX1_takesUnit_32 : decode cX1_takesUnit 32 = .ok (.iconst 1, 1) := by decide +kernel
theorem dX1_takesUnit_33 : decode cX1_takesUnit 33 = .ok (.putfield 11, 3) := by decide +kernel
theorem dX1_takesUnit_36 : decode cX1_takesUnit 36 = .ok (.iload_n 1, 1) := by decide +kernel
theorem dX1_takesUnit_37 : decode cX1_takesUnit 37 = .ok (.bipush 99, 2) := by decide +kernel
theorem dX1_takesUnit_39 : decode cX1_takesUnit 39 = .ok (.if_icmp .eq 27, 3) := by decide +kernel
theorem dX1_takesUnit_42 : decode cX1_takesUnit 42 = .ok (.iload_n 1, 1) := by decide +kernel
theorem dX1_takesUnit_43 : decode cX1_takesUnit 43 = .ok (.bipush 115, 2) := by decide +kernel
theorem dX1_takesUnit_45 : decode cX1_takesUnit 45 = .ok (.if_icmp .eq 21, 3) := by decide +kernel
theorem dX1_takesUnit_48 : decode cX1_takesUnit 48 = .ok (.iload_n 1, 1) := by decide +kernel
theorem dX1_takesUnit_49 : decode cX1_takesUnit 49 = .ok (.bipush 119, 2) := by decide +kernel
theorem dX1_takesUnit_51 : decode cX1_takesUnit 51 = .ok (.if_icmp .eq 15, 3) := by decide +kernel
theorem dX1_takesUnit_54 : decode cX1_takesUnit 54 = .ok (.iload_n 1, 1) := by decide +kernel
theorem dX1_takesUnit_55 : decode cX1_takesUnit 55 = .ok (.bipush 97, 2) := by decide +kernel
theorem dX1_takesUnit_57 : decode cX1_takesUnit 57 = .ok (.if_icmp .eq 9, 3) := by decide +kernel
theorem dX1_takesUnit_60 : decode cX1_takesUnit 60 = .ok (.iload_n 1, 1) := by decide +kernel
theorem dX1_takesUnit_61 : decode cX1_takesUnit 61 = .ok (.bipush 112, 2) := by decide +kernel
theorem dX1_takesUnit_63 : decode cX1_takesUnit 63 = .ok (.if_icmp .ne 7, 3) := by decide +kernel
theorem dX1_takesUnit_66 : decode cX1_takesUnit 66 = .ok (.iconst 1, 1) := by decide +kernel
theorem dX1_takesUnit_67 : decode cX1_takesUnit 67 = .ok (.goto 4, 3) := by decide +kernel
theorem dX1_takesUnit_70 : decode cX1_takesUnit 70 = .ok (.iconst 0, 1) := by decide +kernel
theorem dX1_takesUnit_71 : decode cX1_takesUnit 71 = .ok (.ireturn, 1) := by decide +kernel
theorem dX1_takesSign_0 : decode cX1_takesSign 0 = .ok (.aload_n 0, 1) := by decide +kernel
theorem dX1_takesSign_1 : decode cX1_takesSign 1 = .ok (.iconst 2, 1) := by decide +kernel
theorem dX1_takesSign_2 : decode cX1_takesSign 2 = .ok (.putfield 11, 3) := by decide +kernel
theorem dX1_takesSign_5 : decode cX1_takesSign 5 = .ok (.iload_n 1, 1) := by decide +kernel
theorem dX1_takesSign_6 : decode cX1_takesSign 6 = .ok (.bipush 61, 2) := by decide +kernel
theorem dX1_takesSign_8 : decode cX1_takesSign 8 = .ok (.if_icmp .eq 15, 3) := by decide +kernel
theorem dX1_takesSign_11 : decode cX1_takesSign 11 = .ok (.iload_n 1, 1) := by decide +kernel
theorem dX1_takesSign_12 : decode cX1_takesSign 12 = .ok (.bipush 60, 2) := by decide +kernel
theorem dX1_takesSign_14 : decode cX1_takesSign 14 = .ok (.if_icmp .eq 9, 3) := by decide +kernel
theorem dX1_takesSign_17 : decode cX1_takesSign 17 = .ok (.iload_n 1, 1) := by decide +kernel
theorem dX1_takesSign_18 : decode cX1_takesSign 18 = .ok (.bipush 62, 2) := by decide +kernel
theorem dX1_takesSign_20 : decode cX1_takesSign 20 = .ok (.if_icmp .ne 7, 3) := by decide +kernel
theorem dX1_takesSign_23 : decode cX1_takesSign 23 = .ok (.iconst 1, 1) := by decide +kernel
theorem dX1_takesSign_24 : decode cX1_takesSign 24 = .ok (.goto 4, 3) := by decide +kernel
theorem dX1_takesSign_27 : decode cX1_takesSign 27 = .ok (.iconst 0, 1) := by decide +kernel
theorem dX1_takesSign_28 : decode cX1_takesSign 28 = .ok (.ireturn, 1) := by decide +kernel
theorem dX1_takesFirstDigit_0 : decode cX1_takesFirstDigit 0 = .ok (.aload_n 0, 1) := by decide +kernel
theorem dX1_takesFirstDigit_1 : decode cX1_takesFirstDigit 1 = .ok (.iconst 3, 1) := by decide +kernel
theorem dX1_takesFirstDigit_2 : decode cX1_takesFirstDigit 2 = .ok (.putfield 11, 3) := by decide +kernel
theorem dX1_takesFirstDigit_5 : decode cX1_takesFirstDigit 5 = .ok (.aload_n 0, 1) := by decide +kernel
theorem dX1_takesFirstDigit_6 : decode cX1_takesFirstDigit 6 = .ok (.iconst 4, 1) := by decide +kernel
theorem dX1_takesFirstDigit_7 : decode cX1_takesFirstDigit 7 = .ok (.putfield 18, 3) := by decide +kernel
theorem dX1_takesFirstDigit_10 : decode cX1_takesFirstDigit 10 = .ok (.iload_n 1, 1) := by decide +kernel
theorem dX1_takesFirstDigit_11 : decode cX1_takesFirstDigit 11 = .ok (.invokestatic 46, 3) := by decide +kernel
theorem dX1_takesFirstDigit_14 : decode cX1_takesFirstDigit 14 = .ok (.ireturn, 1) := by decide +kernel
theorem dX1_takesBehindUnit_0 : decode cX1_takesBehindUnit 0 = .ok (.iload_n 1, 1) := by decide +kernel
theorem dX1_takesBehindUnit_1 : decode cX1_takesBehindUnit 1 = .ok (.invokestatic 46, 3) := by decide +kernel
theorem dX1_takesBehindUnit_4 : decode cX1_takesBehindUnit 4 = .ok (.ifCond .eq 26, 3) := by decide +kernel
theorem dX1_takesBehindUnit_7 : decode cX1_takesBehindUnit 7 = .ok (.aload_n 0, 1) := by decide +kernel
theorem dX1_takesBehindUnit_8 : decode cX1_takesBehindUnit 8 = .ok (.dup, 1) := by decide +kernel
theorem dX1_takesBehindUnit_9 : decode cX1_takesBehindUnit 9 = .ok (.getfield 18, 3) := by decide +kernel
theorem dX1_takesBehindUnit_12 : decode cX1_takesBehindUnit 12 = .ok (.iconst 1, 1) := by decide +kernel
theorem dX1_takesBehindUnit_13 : decode cX1_takesBehindUnit 13 = .ok (.isub, 1) := by decide +kernel
theorem dX1_takesBehindUnit_14 : decode cX1_takesBehindUnit 14 = .ok (.putfield 18, 3) := by decide +kernel
theorem dX1_takesBehindUnit_17 : decode cX1_takesBehindUnit 17 = .ok (.aload_n 0, 1) := by decide +kernel
theorem dX1_takesBehindUnit_18 : decode cX1_takesBehindUnit 18 = .ok (.getfield 18, 3) := by decide +kernel
theorem dX1_takesBehindUnit_21 : decode cX1_takesBehindUnit 21 = .ok (.ifCond .lt 7, 3) := by decide +kernel
theorem dX1_takesBehindUnit_24 : decode cX1_takesBehindUnit 24 = .ok (.iconst 1, 1) := by decide +kernel
theorem dX1_takesBehindUnit_25 : decode cX1_takesBehindUnit 25 = .ok (.goto 4, 3) := by decide +kernel
theorem dX1_takesBehindUnit_28 : decode cX1_takesBehindUnit 28 = .ok (.iconst 0, 1) := by decide +kernel
theorem dX1_takesBehindUnit_29 : decode cX1_takesBehindUnit 29 = .ok (.ireturn, 1) := by decide +kernel
theorem dX1_takesBehindUnit_30 : decode cX1_takesBehindUnit 30 = .ok (.aload_n 0, 1) := by decide +kernel
theorem dX1_takesBehindUnit_31 : decode cX1_takesBehindUnit 31 = .ok (.iconst 0, 1) := by decide +kernel
theorem dX1_takesBehindUnit_32 : decode cX1_takesBehindUnit 32 = .ok (.putfield 18, 3) := by decide +kernel
theorem dX1_takesBehindUnit_35 : decode cX1_takesBehindUnit 35 = .ok (.iload_n 1, 1) := by decide +kernel
theorem dX1_takesBehindUnit_36 : decode cX1_takesBehindUnit 36 = .ok (.bipush 41, 2) := by decide +kernel
theorem dX1_takesBehindUnit_38 : decode cX1_takesBehindUnit 38 = .ok (.if_icmp .ne 26, 3) := by decide +kernel
theorem dX1_takesBehindUnit_41 : decode cX1_takesBehindUnit 41 = .ok (.aload_n 0, 1) := by decide +kernel
theorem dX1_takesBehindUnit_42 : decode cX1_takesBehindUnit 42 = .ok (.dup, 1) := by decide +kernel
theorem dX1_takesBehindUnit_43 : decode cX1_takesBehindUnit 43 = .ok (.getfield 15, 3) := by decide +kernel
theorem dX1_takesBehindUnit_46 : decode cX1_takesBehindUnit 46 = .ok (.iconst 1, 1) := by decide +kernel
theorem dX1_takesBehindUnit_47 : decode cX1_takesBehindUnit 47 = .ok (.isub, 1) := by decide +kernel
theorem dX1_takesBehindUnit_48 : decode cX1_takesBehindUnit 48 = .ok (.putfield 15, 3) := by decide +kernel
theorem dX1_takesBehindUnit_51 : decode cX1_takesBehindUnit 51 = .ok (.aload_n 0, 1) := by decide +kernel
theorem dX1_takesBehindUnit_52 : decode cX1_takesBehindUnit 52 = .ok (.getfield 15, 3) := by decide +kernel
theorem dX1_takesBehindUnit_55 : decode cX1_takesBehindUnit 55 = .ok (.ifCond .lt 7, 3) := by decide +kernel
theorem dX1_takesBehindUnit_58 : decode cX1_takesBehindUnit 58 = .ok (.iconst 1, 1) := by decide +kernel
theorem dX1_takesBehindUnit_59 : decode cX1_takesBehindUnit 59 = .ok (.goto 4, 3) := by decide +kernel
theorem dX1_takesBehindUnit_62 : decode cX1_takesBehindUnit 62 = .ok (.iconst 0, 1) := by decide +kernel
theorem dX1_takesBehindUnit_63 : decode cX1_takesBehindUnit 63 = .ok (.ireturn, 1) := by decide +kernel
theorem dX1_takesBehindUnit_64 : decode cX1_takesBehindUnit 64 = .ok (.aload_n 0, 1) := by decide +kernel
theorem dX1_takesBehindUnit_65 : decode cX1_takesBehindUnit 65 = .ok (.iconst 0, 1) := by decide +kernel
theorem dX1_takesBehindUnit_66 : decode cX1_takesBehindUnit 66 = .ok (.putfield 11, 3) := by decide +kernel
theorem dX1_takesBehindUnit_69 : decode cX1_takesBehindUnit 69 = .ok (.iload_n 1, 1) := by decide +kernel
theorem dX1_takesBehindUnit_70 : decode cX1_takesBehindUnit 70 = .ok (.bipush 38, 2) := by decide +kernel
theorem dX1_takesBehindUnit_72 : decode cX1_takesBehindUnit 72 = .ok (.if_icmp .eq 9, 3) := by decide +kernel
theorem dX1_takesBehindUnit_75 : decode cX1_takesBehindUnit 75 = .ok (.iload_n 1, 1) := by decide +kernel
theorem dX1_takesBehindUnit_76 : decode cX1_takesBehindUnit 76 = .ok (.bipush 124, 2) := by decide +kernel
theorem dX1_takesBehindUnit_78 : decode cX1_takesBehindUnit 78 = .ok (.if_icmp .ne 7, 3) := by decide +kernel
theorem dX1_takesBehindUnit_81 : decode cX1_takesBehindUnit 81 = .ok (.iconst 1, 1) := by decide +kernel
theorem dX1_takesBehindUnit_82 : decode cX1_takesBehindUnit 82 = .ok (.goto 4, 3) := by decide +kernel
theorem dX1_takesBehindUnit_85 : decode cX1_takesBehindUnit 85 = .ok (.iconst 0, 1) := by decide +kernel
theorem dX1_takesBehindUnit_86 : decode cX1_takesBehindUnit 86 = .ok (.ireturn, 1) := by decide +kernel
theorem dX1_isDigit_0 : decode cX1_isDigit 0 = .ok (.iload_n 0, 1) := by decide +kernel
theorem dX1_isDigit_1 : decode cX1_isDigit 1 = .ok (.bipush 48, 2) := by decide +kernel
theorem dX1_isDigit_3 : decode cX1_isDigit 3 = .ok (.if_icmp .lt 13, 3) := by decide +kernel
theorem dX1_isDigit_6 : decode cX1_isDigit 6 = .ok (.iload_n 0, 1) := by decide +kernel
theorem dX1_isDigit_7 : decode cX1_isDigit 7 = .ok (.bipush 57, 2) := by decide +kernel
theorem dX1_isDigit_9 : decode cX1_isDigit 9 = .ok (.if_icmp .gt 7, 3) := by decide +kernel
theorem dX1_isDigit_12 : decode cX1_isDigit 12 = .ok (.iconst 1, 1) := by decide +kernel
theorem dX1_isDigit_13 : decode cX1_isDigit 13 = .ok (.goto 4, 3) := by decide +kernel
theorem dX1_isDigit_16 : decode cX1_isDigit 16 = .ok (.iconst 0, 1) := by decide +kernel
theorem dX1_isDigit_17 : decode cX1_isDigit 17 = .ok (.ireturn, 1) := by decide +kernel
theorem dX2_init_0 : decode cX2_init 0 = .ok (.aload_n 0, 1) := by decide +kernel
theorem dX2_init_1 : decode cX2_init 1 = .ok (.invokespecial 3, 3) := by decide +kernel
theorem dX2_init_4 : decode cX2_init 4 = .ok (.aload_n 0, 1) := by decide +kernel
theorem dX2_init_5 : decode cX2_init 5 = .ok (.iload_n 1, 1) := by decide +kernel
theorem dX2_init_6 : decode cX2_init 6 = .ok (.putfield 9, 3) := by decide +kernel
theorem dX2_init_9 : decode cX2_init 9 = .ok (.aload_n 0, 1) := by decide +kernel
theorem dX2_init_10 : decode cX2_init 10 = .ok (.iload_n 2, 1) := by decide +kernel
theorem dX2_init_11 : decode cX2_init 11 = .ok (.putfield 15, 3) := by decide +kernel
theorem dX2_init_14 : decode cX2_init 14 = .ok (.aload_n 0, 1) := by decide +kernel
theorem dX2_init_15 : decode cX2_init 15 = .ok (.iload_n 3, 1) := by decide +kernel
theorem dX2_init_16 : decode cX2_init 16 = .ok (.putfield 18, 3) := by decide +kernel
theorem dX2_init_19 : decode cX2_init 19 = .ok (.aload_n 0, 1) := by decide +kernel
theorem dX2_init_20 : decode cX2_init 20 = .ok (.iload 4, 2) := by decide +kernel
theorem dX2_init_22 : decode cX2_init 22 = .ok (.putfield 21, 3) := by decide +kernel
theorem dX2_init_25 : decode cX2_init 25 = .ok (.aload_n 0, 1) := by decide +kernel
theorem dX2_init_26 : decode cX2_init 26 = .ok (.iload 5, 2) := by decide +kernel
theorem dX2_init_28 : decode cX2_init 28 = .ok (.putfield 24, 3) := by decide +kernel
theorem dX2_init_31 : decode cX2_init 31 = .ok (.aload_n 0, 1) := by decide +kernel
theorem dX2_init_32 : decode cX2_init 32 = .ok (.iload 6, 2) := by decide +kernel
theorem dX2_init_34 : decode cX2_init 34 = .ok (.putfield 27, 3) := by decide +kernel
theorem dX2_init_37 : decode cX2_init 37 = .ok (.aload_n 0, 1) := by decide +kernel
theorem dX2_init_38 : decode cX2_init 38 = .ok (.iload 7, 2) := by decide +kernel
theorem dX2_init_40 : decode cX2_init 40 = .ok (.putfield 30, 3) := by decide +kernel
theorem dX2_init_43 : decode cX2_init 43 = .ok (.return_, 1) := by decide +kernel
theorem dX2_cureOne_0 : decode cX2_cureOne 0 = .ok (.aload_n 0, 1) := by decide +kernel
theorem dX2_cureOne_1 : decode cX2_cureOne 1 = .ok (.dup, 1) := by decide +kernel
theorem dX2_cureOne_2 : decode cX2_cureOne 2 = .ok (.getfield 33, 3) := by decide +kernel
theorem dX2_cureOne_5 : decode cX2_cureOne 5 = .ok (.iconst 1, 1) := by decide +kernel
theorem dX2_cureOne_6 : decode cX2_cureOne 6 = .ok (.iadd, 1) := by decide +kernel
theorem dX2_cureOne_7 : decode cX2_cureOne 7 = .ok (.putfield 33, 3) := by decide +kernel
theorem dX2_cureOne_10 : decode cX2_cureOne 10 = .ok (.aload_n 0, 1) := by decide +kernel
theorem dX2_cureOne_11 : decode cX2_cureOne 11 = .ok (.aload_n 0, 1) := by decide +kernel
theorem dX2_cureOne_12 : decode cX2_cureOne 12 = .ok (.getfield 36, 3) := by decide +kernel
theorem dX2_cureOne_15 : decode cX2_cureOne 15 = .ok (.iload_n 1, 1) := by decide +kernel
theorem dX2_cureOne_16 : decode cX2_cureOne 16 = .ok (.aload_n 0, 1) := by decide +kernel
theorem dX2_cureOne_17 : decode cX2_cureOne 17 = .ok (.getfield 27, 3) := by decide +kernel
theorem dX2_cureOne_20 : decode cX2_cureOne 20 = .ok (.isub, 1) := by decide +kernel
theorem dX2_cureOne_21 : decode cX2_cureOne 21 = .ok (.invokestatic 39, 3) := by decide +kernel
theorem dX2_cureOne_24 : decode cX2_cureOne 24 = .ok (.putfield 36, 3) := by decide +kernel
theorem dX2_cureOne_27 : decode cX2_cureOne 27 = .ok (.aload_n 0, 1) := by decide +kernel
theorem dX2_cureOne_28 : decode cX2_cureOne 28 = .ok (.aload_n 0, 1) := by decide +kernel
theorem dX2_cureOne_29 : decode cX2_cureOne 29 = .ok (.getfield 45, 3) := by decide +kernel
theorem dX2_cureOne_32 : decode cX2_cureOne 32 = .ok (.iload_n 1, 1) := by decide +kernel
theorem dX2_cureOne_33 : decode cX2_cureOne 33 = .ok (.bipush 12, 2) := by decide +kernel
theorem dX2_cureOne_35 : decode cX2_cureOne 35 = .ok (.iadd, 1) := by decide +kernel
theorem dX2_cureOne_36 : decode cX2_cureOne 36 = .ok (.invokestatic 39, 3) := by decide +kernel
theorem dX2_cureOne_39 : decode cX2_cureOne 39 = .ok (.putfield 45, 3) := by decide +kernel
theorem dX2_cureOne_42 : decode cX2_cureOne 42 = .ok (.return_, 1) := by decide +kernel
theorem dX2_measure_0 : decode cX2_measure 0 = .ok (.iload_n 1, 1) := by decide +kernel
theorem dX2_measure_1 : decode cX2_measure 1 = .ok (.lookupswitch 78 #[(97, 66), (99, 51), (112, 73), (115, 56), (119, 61)], 51) := by decide +kernel
theorem dX2_measure_52 : decode cX2_measure 52 = .ok (.aload_n 0, 1) := by decide +kernel
theorem dX2_measure_53 : decode cX2_measure 53 = .ok (.getfield 33, 3) := by decide +kernel
theorem dX2_measure_56 : decode cX2_measure 56 = .ok (.ireturn, 1) := by decide +kernel
theorem dX2_measure_57 : decode cX2_measure 57 = .ok (.aload_n 0, 1) := by decide +kernel
theorem dX2_measure_58 : decode cX2_measure 58 = .ok (.getfield 48, 3) := by decide +kernel
theorem dX2_measure_61 : decode cX2_measure 61 = .ok (.ireturn, 1) := by decide +kernel
theorem dX2_measure_62 : decode cX2_measure 62 = .ok (.aload_n 0, 1) := by decide +kernel
theorem dX2_measure_63 : decode cX2_measure 63 = .ok (.getfield 36, 3) := by decide +kernel
theorem dX2_measure_66 : decode cX2_measure 66 = .ok (.ireturn, 1) := by decide +kernel
theorem dX2_measure_67 : decode cX2_measure 67 = .ok (.iload_n 2, 1) := by decide +kernel
theorem dX2_measure_68 : decode cX2_measure 68 = .ok (.aload_n 0, 1) := by decide +kernel
theorem dX2_measure_69 : decode cX2_measure 69 = .ok (.getfield 9, 3) := by decide +kernel
theorem dX2_measure_72 : decode cX2_measure 72 = .ok (.isub, 1) := by decide +kernel
theorem dX2_measure_73 : decode cX2_measure 73 = .ok (.ireturn, 1) := by decide +kernel
theorem dX2_measure_74 : decode cX2_measure 74 = .ok (.aload_n 0, 1) := by decide +kernel
theorem dX2_measure_75 : decode cX2_measure 75 = .ok (.getfield 30, 3) := by decide +kernel
theorem dX2_measure_78 : decode cX2_measure 78 = .ok (.ireturn, 1) := by decide +kernel
theorem dX2_measure_79 : decode cX2_measure 79 = .ok (.iconst 0, 1) := by decide +kernel
theorem dX2_measure_80 : decode cX2_measure 80 = .ok (.ireturn, 1) := by decide +kernel
theorem dX3_init_0 : decode cX3_init 0 = .ok (.aload_n 0, 1) := by decide +kernel
theorem dX3_init_1 : decode cX3_init 1 = .ok (.invokespecial 3, 3) := by decide +kernel
theorem dX3_init_4 : decode cX3_init 4 = .ok (.aload_n 0, 1) := by decide +kernel
theorem dX3_init_5 : decode cX3_init 5 = .ok (.bipush 12, 2) := by decide +kernel
theorem dX3_init_7 : decode cX3_init 7 = .ok (.newarray .int, 2) := by decide +kernel
theorem dX3_init_9 : decode cX3_init 9 = .ok (.putfield 9, 3) := by decide +kernel
theorem dX3_init_12 : decode cX3_init 12 = .ok (.aload_n 0, 1) := by decide +kernel
theorem dX3_init_13 : decode cX3_init 13 = .ok (.bipush 12, 2) := by decide +kernel
theorem dX3_init_15 : decode cX3_init 15 = .ok (.newarray .int, 2) := by decide +kernel
theorem dX3_init_17 : decode cX3_init 17 = .ok (.putfield 15, 3) := by decide +kernel
theorem dX3_init_20 : decode cX3_init 20 = .ok (.aload_n 0, 1) := by decide +kernel
theorem dX3_init_21 : decode cX3_init 21 = .ok (.bipush 12, 2) := by decide +kernel
theorem dX3_init_23 : decode cX3_init 23 = .ok (.newarray .int, 2) := by decide +kernel
theorem dX3_init_25 : decode cX3_init 25 = .ok (.putfield 18, 3) := by decide +kernel
theorem dX3_init_28 : decode cX3_init 28 = .ok (.return_, 1) := by decide +kernel
theorem dX3_clear_0 : decode cX3_clear 0 = .ok (.aload_n 0, 1) := by decide +kernel
theorem dX3_clear_1 : decode cX3_clear 1 = .ok (.iconst 0, 1) := by decide +kernel
theorem dX3_clear_2 : decode cX3_clear 2 = .ok (.putfield 21, 3) := by decide +kernel
theorem dX3_clear_5 : decode cX3_clear 5 = .ok (.iconst 0, 1) := by decide +kernel
theorem dX3_clear_6 : decode cX3_clear 6 = .ok (.istore_n 1, 1) := by decide +kernel
theorem dX3_clear_7 : decode cX3_clear 7 = .ok (.iload_n 1, 1) := by decide +kernel
theorem dX3_clear_8 : decode cX3_clear 8 = .ok (.bipush 12, 2) := by decide +kernel
theorem dX3_clear_10 : decode cX3_clear 10 = .ok (.if_icmp .ge 23, 3) := by decide +kernel
theorem dX3_clear_13 : decode cX3_clear 13 = .ok (.aload_n 0, 1) := by decide +kernel
theorem dX3_clear_14 : decode cX3_clear 14 = .ok (.getfield 15, 3) := by decide +kernel
theorem dX3_clear_17 : decode cX3_clear 17 = .ok (.iload_n 1, 1) := by decide +kernel
theorem dX3_clear_18 : decode cX3_clear 18 = .ok (.iconst 0, 1) := by decide +kernel
theorem dX3_clear_19 : decode cX3_clear 19 = .ok (.iastore, 1) := by decide +kernel
theorem dX3_clear_20 : decode cX3_clear 20 = .ok (.aload_n 0, 1) := by decide +kernel
theorem dX3_clear_21 : decode cX3_clear 21 = .ok (.getfield 9, 3) := by decide +kernel
theorem dX3_clear_24 : decode cX3_clear 24 = .ok (.iload_n 1, 1) := by decide +kernel
theorem dX3_clear_25 : decode cX3_clear 25 = .ok (.iconst 0, 1) := by decide +kernel
theorem dX3_clear_26 : decode cX3_clear 26 = .ok (.iastore, 1) := by decide +kernel
theorem dX3_clear_27 : decode cX3_clear 27 = .ok (.iinc 1 1, 3) := by decide +kernel
theorem dX3_clear_30 : decode cX3_clear 30 = .ok (.goto (-23), 3) := by decide +kernel
theorem dX3_clear_33 : decode cX3_clear 33 = .ok (.return_, 1) := by decide +kernel
theorem dX3_addMeasure_0 : decode cX3_addMeasure 0 = .ok (.iload_n 1, 1) := by decide +kernel
theorem dX3_addMeasure_1 : decode cX3_addMeasure 1 = .ok (.ifCond .lt 26, 3) := by decide +kernel
theorem dX3_addMeasure_4 : decode cX3_addMeasure 4 = .ok (.iload_n 1, 1) := by decide +kernel
theorem dX3_addMeasure_5 : decode cX3_addMeasure 5 = .ok (.bipush 12, 2) := by decide +kernel
theorem dX3_addMeasure_7 : decode cX3_addMeasure 7 = .ok (.if_icmp .ge 20, 3) := by decide +kernel
theorem dX3_addMeasure_10 : decode cX3_addMeasure 10 = .ok (.aload_n 0, 1) := by decide +kernel
theorem dX3_addMeasure_11 : decode cX3_addMeasure 11 = .ok (.getfield 15, 3) := by decide +kernel
theorem dX3_addMeasure_14 : decode cX3_addMeasure 14 = .ok (.iload_n 1, 1) := by decide +kernel
theorem dX3_addMeasure_15 : decode cX3_addMeasure 15 = .ok (.iload_n 2, 1) := by decide +kernel
theorem dX3_addMeasure_16 : decode cX3_addMeasure 16 = .ok (.iastore, 1) := by decide +kernel
theorem dX3_addMeasure_17 : decode cX3_addMeasure 17 = .ok (.aload_n 0, 1) := by decide +kernel
theorem dX3_addMeasure_18 : decode cX3_addMeasure 18 = .ok (.dup, 1) := by decide +kernel
theorem dX3_addMeasure_19 : decode cX3_addMeasure 19 = .ok (.getfield 21, 3) := by decide +kernel
theorem dX3_addMeasure_22 : decode cX3_addMeasure 22 = .ok (.iload_n 2, 1) := by decide +kernel
theorem dX3_addMeasure_23 : decode cX3_addMeasure 23 = .ok (.iadd, 1) := by decide +kernel
theorem dX3_addMeasure_24 : decode cX3_addMeasure 24 = .ok (.putfield 21, 3) := by decide +kernel
theorem dX3_addMeasure_27 : decode cX3_addMeasure 27 = .ok (.return_, 1) := by decide +kernel
theorem dX3_part_0 : decode cX3_part 0 = .ok (.aload_n 0, 1) := by decide +kernel
theorem dX3_part_1 : decode cX3_part 1 = .ok (.getfield 21, 3) := by decide +kernel
theorem dX3_part_4 : decode cX3_part 4 = .ok (.ifCond .gt 4, 3) := by decide +kernel
theorem dX3_part_7 : decode cX3_part 7 = .ok (.return_, 1) := by decide +kernel
theorem dX3_part_8 : decode cX3_part 8 = .ok (.iload_n 1, 1) := by decide +kernel
theorem dX3_part_9 : decode cX3_part 9 = .ok (.istore_n 2, 1) := by decide +kernel
theorem dX3_part_10 : decode cX3_part 10 = .ok (.iconst 0, 1) := by decide +kernel
theorem dX3_part_11 : decode cX3_part 11 = .ok (.istore_n 3, 1) := by decide +kernel
theorem dX3_part_12 : decode cX3_part 12 = .ok (.iload_n 3, 1) := by decide +kernel
theorem dX3_part_13 : decode cX3_part 13 = .ok (.bipush 12, 2) := by decide +kernel
theorem dX3_part_15 : decode cX3_part 15 = .ok (.if_icmp .ge 60, 3) := by decide +kernel
theorem dX3_part_18 : decode cX3_part 18 = .ok (.iload_n 1, 1) := by decide +kernel
theorem dX3_part_19 : decode cX3_part 19 = .ok (.i2l, 1) := by decide +kernel
theorem dX3_part_20 : decode cX3_part 20 = .ok (.aload_n 0, 1) := by decide +kernel
theorem dX3_part_21 : decode cX3_part 21 = .ok (.getfield 15, 3) := by decide +kernel
theorem dX3_part_24 : decode cX3_part 24 = .ok (.iload_n 3, 1) := by decide +kernel
theorem dX3_part_25 : decode cX3_part 25 = .ok (.iaload, 1) := by decide +kernel
theorem dX3_part_26 : decode cX3_part 26 = .ok (.i2l, 1) := by decide +kernel
theorem dX3_part_27 : decode cX3_part 27 = .ok (.lmul, 1) := by decide +kernel
theorem dX3_part_28 : decode cX3_part 28 = .ok (.lstore 4, 2) := by decide +kernel
theorem dX3_part_30 : decode cX3_part 30 = .ok (.aload_n 0, 1) := by decide +kernel
theorem dX3_part_31 : decode cX3_part 31 = .ok (.getfield 9, 3) := by decide +kernel
theorem dX3_part_34 : decode cX3_part 34 = .ok (.iload_n 3, 1) := by decide +kernel
theorem dX3_part_35 : decode cX3_part 35 = .ok (.lload 4, 2) := by decide +kernel
theorem dX3_part_37 : decode cX3_part 37 = .ok (.aload_n 0, 1) := by decide +kernel
theorem dX3_part_38 : decode cX3_part 38 = .ok (.getfield 21, 3) := by decide +kernel
theorem dX3_part_41 : decode cX3_part 41 = .ok (.i2l, 1) := by decide +kernel
theorem dX3_part_42 : decode cX3_part 42 = .ok (.ldiv, 1) := by decide +kernel
theorem dX3_part_43 : decode cX3_part 43 = .ok (.l2i, 1) := by decide +kernel
theorem dX3_part_44 : decode cX3_part 44 = .ok (.iastore, 1) := by decide +kernel
theorem dX3_part_45 : decode cX3_part 45 = .ok (.aload_n 0, 1) := by decide +kernel
theorem dX3_part_46 : decode cX3_part 46 = .ok (.getfield 18, 3) := by decide +kernel
theorem dX3_part_49 : decode cX3_part 49 = .ok (.iload_n 3, 1) := by decide +kernel
theorem dX3_part_50 : decode cX3_part 50 = .ok (.lload 4, 2) := by decide +kernel
theorem dX3_part_52 : decode cX3_part 52 = .ok (.aload_n 0, 1) := by decide +kernel
theorem dX3_part_53 : decode cX3_part 53 = .ok (.getfield 21, 3) := by decide +kernel
theorem dX3_part_56 : decode cX3_part 56 = .ok (.i2l, 1) := by decide +kernel
theorem dX3_part_57 : decode cX3_part 57 = .ok (.lrem, 1) := by decide +kernel
theorem dX3_part_58 : decode cX3_part 58 = .ok (.l2i, 1) := by decide +kernel
theorem dX3_part_59 : decode cX3_part 59 = .ok (.iastore, 1) := by decide +kernel
theorem dX3_part_60 : decode cX3_part 60 = .ok (.iload_n 2, 1) := by decide +kernel
theorem dX3_part_61 : decode cX3_part 61 = .ok (.aload_n 0, 1) := by decide +kernel
theorem dX3_part_62 : decode cX3_part 62 = .ok (.getfield 9, 3) := by decide +kernel
theorem dX3_part_65 : decode cX3_part 65 = .ok (.iload_n 3, 1) := by decide +kernel
theorem dX3_part_66 : decode cX3_part 66 = .ok (.iaload, 1) := by decide +kernel
theorem dX3_part_67 : decode cX3_part 67 = .ok (.isub, 1) := by decide +kernel
theorem dX3_part_68 : decode cX3_part 68 = .ok (.istore_n 2, 1) := by decide +kernel
theorem dX3_part_69 : decode cX3_part 69 = .ok (.iinc 3 1, 3) := by decide +kernel
theorem dX3_part_72 : decode cX3_part 72 = .ok (.goto (-60), 3) := by decide +kernel
theorem dX3_part_75 : decode cX3_part 75 = .ok (.iconst 0, 1) := by decide +kernel
theorem dX3_part_76 : decode cX3_part 76 = .ok (.istore_n 3, 1) := by decide +kernel
theorem dX3_part_77 : decode cX3_part 77 = .ok (.iload_n 3, 1) := by decide +kernel
theorem dX3_part_78 : decode cX3_part 78 = .ok (.iload_n 2, 1) := by decide +kernel
theorem dX3_part_79 : decode cX3_part 79 = .ok (.if_icmp .ge 40, 3) := by decide +kernel
theorem dX3_part_82 : decode cX3_part 82 = .ok (.iload_n 3, 1) := by decide +kernel
theorem dX3_part_83 : decode cX3_part 83 = .ok (.bipush 12, 2) := by decide +kernel
theorem dX3_part_85 : decode cX3_part 85 = .ok (.if_icmp .ge 34, 3) := by decide +kernel
theorem dX3_part_88 : decode cX3_part 88 = .ok (.aload_n 0, 1) := by decide +kernel
theorem dX3_part_89 : decode cX3_part 89 = .ok (.invokevirtual 25, 3) := by decide +kernel
theorem dX3_part_92 : decode cX3_part 92 = .ok (.istore 4, 2) := by decide +kernel
theorem dX3_part_94 : decode cX3_part 94 = .ok (.aload_n 0, 1) := by decide +kernel
theorem dX3_part_95 : decode cX3_part 95 = .ok (.getfield 9, 3) := by decide +kernel
theorem dX3_part_98 : decode cX3_part 98 = .ok (.iload 4, 2) := by decide +kernel
theorem dX3_part_100 : decode cX3_part 100 = .ok (.dup2, 1) := by decide +kernel
theorem dX3_part_101 : decode cX3_part 101 = .ok (.iaload, 1) := by decide +kernel
theorem dX3_part_102 : decode cX3_part 102 = .ok (.iconst 1, 1) := by decide +kernel
theorem dX3_part_103 : decode cX3_part 103 = .ok (.iadd, 1) := by decide +kernel
theorem dX3_part_104 : decode cX3_part 104 = .ok (.iastore, 1) := by decide +kernel
theorem dX3_part_105 : decode cX3_part 105 = .ok (.aload_n 0, 1) := by decide +kernel
theorem dX3_part_106 : decode cX3_part 106 = .ok (.getfield 18, 3) := by decide +kernel
theorem dX3_part_109 : decode cX3_part 109 = .ok (.iload 4, 2) := by decide +kernel
theorem dX3_part_111 : decode cX3_part 111 = .ok (.iconst 0, 1) := by decide +kernel
theorem dX3_part_112 : decode cX3_part 112 = .ok (.iastore, 1) := by decide +kernel
theorem dX3_part_113 : decode cX3_part 113 = .ok (.iinc 3 1, 3) := by decide +kernel
theorem dX3_part_116 : decode cX3_part 116 = .ok (.goto (-39), 3) := by decide +kernel
theorem dX3_part_119 : decode cX3_part 119 = .ok (.return_, 1) := by decide +kernel
theorem dX3_greatestRest_0 : decode cX3_greatestRest 0 = .ok (.iconst 0, 1) := by decide +kernel
theorem dX3_greatestRest_1 : decode cX3_greatestRest 1 = .ok (.istore_n 1, 1) := by decide +kernel
theorem dX3_greatestRest_2 : decode cX3_greatestRest 2 = .ok (.iconst 1, 1) := by decide +kernel
theorem dX3_greatestRest_3 : decode cX3_greatestRest 3 = .ok (.istore_n 2, 1) := by decide +kernel
theorem dX3_greatestRest_4 : decode cX3_greatestRest 4 = .ok (.iload_n 2, 1) := by decide +kernel
theorem dX3_greatestRest_5 : decode cX3_greatestRest 5 = .ok (.bipush 12, 2) := by decide +kernel
theorem dX3_greatestRest_7 : decode cX3_greatestRest 7 = .ok (.if_icmp .ge 26, 3) := by decide +kernel
theorem dX3_greatestRest_10 : decode cX3_greatestRest 10 = .ok (.aload_n 0, 1) := by decide +kernel
theorem dX3_greatestRest_11 : decode cX3_greatestRest 11 = .ok (.getfield 18, 3) := by decide +kernel
theorem dX3_greatestRest_14 : decode cX3_greatestRest 14 = .ok (.iload_n 2, 1) := by decide +kernel
theorem dX3_greatestRest_15 : decode cX3_greatestRest 15 = .ok (.iaload, 1) := by decide +kernel
theorem dX3_greatestRest_16 : decode cX3_greatestRest 16 = .ok (.aload_n 0, 1) := by decide +kernel
theorem dX3_greatestRest_17 : decode cX3_greatestRest 17 = .ok (.getfield 18, 3) := by decide +kernel
theorem dX3_greatestRest_20 : decode cX3_greatestRest 20 = .ok (.iload_n 1, 1) := by decide +kernel
theorem dX3_greatestRest_21 : decode cX3_greatestRest 21 = .ok (.iaload, 1) := by decide +kernel
theorem dX3_greatestRest_22 : decode cX3_greatestRest 22 = .ok (.if_icmp .le 5, 3) := by decide +kernel
theorem dX3_greatestRest_25 : decode cX3_greatestRest 25 = .ok (.iload_n 2, 1) := by decide +kernel
theorem dX3_greatestRest_26 : decode cX3_greatestRest 26 = .ok (.istore_n 1, 1) := by decide +kernel
theorem dX3_greatestRest_27 : decode cX3_greatestRest 27 = .ok (.iinc 2 1, 3) := by decide +kernel
theorem dX3_greatestRest_30 : decode cX3_greatestRest 30 = .ok (.goto (-26), 3) := by decide +kernel
theorem dX3_greatestRest_33 : decode cX3_greatestRest 33 = .ok (.iload_n 1, 1) := by decide +kernel
theorem dX3_greatestRest_34 : decode cX3_greatestRest 34 = .ok (.ireturn, 1) := by decide +kernel
theorem dX4_init_0 : decode cX4_init 0 = .ok (.aload_n 0, 1) := by decide +kernel
theorem dX4_init_1 : decode cX4_init 1 = .ok (.invokespecial 3, 3) := by decide +kernel
theorem dX4_init_4 : decode cX4_init 4 = .ok (.aload_n 0, 1) := by decide +kernel
theorem dX4_init_5 : decode cX4_init 5 = .ok (.bipush 36, 2) := by decide +kernel
theorem dX4_init_7 : decode cX4_init 7 = .ok (.newarray .int, 2) := by decide +kernel
theorem dX4_init_9 : decode cX4_init 9 = .ok (.putfield 9, 3) := by decide +kernel
theorem dX4_init_12 : decode cX4_init 12 = .ok (.aload_n 0, 1) := by decide +kernel
theorem dX4_init_13 : decode cX4_init 13 = .ok (.bipush 36, 2) := by decide +kernel
theorem dX4_init_15 : decode cX4_init 15 = .ok (.newarray .boolean, 2) := by decide +kernel
theorem dX4_init_17 : decode cX4_init 17 = .ok (.putfield 15, 3) := by decide +kernel
theorem dX4_init_20 : decode cX4_init 20 = .ok (.aload_n 0, 1) := by decide +kernel
theorem dX4_init_21 : decode cX4_init 21 = .ok (.bipush 36, 2) := by decide +kernel
theorem dX4_init_23 : decode cX4_init 23 = .ok (.newarray .int, 2) := by decide +kernel
theorem dX4_init_25 : decode cX4_init 25 = .ok (.putfield 19, 3) := by decide +kernel
theorem dX4_init_28 : decode cX4_init 28 = .ok (.return_, 1) := by decide +kernel
theorem dX4_isCell_0 : decode cX4_isCell 0 = .ok (.iload_n 0, 1) := by decide +kernel
theorem dX4_isCell_1 : decode cX4_isCell 1 = .ok (.ifCond .lt 13, 3) := by decide +kernel
theorem dX4_isCell_4 : decode cX4_isCell 4 = .ok (.iload_n 0, 1) := by decide +kernel
theorem dX4_isCell_5 : decode cX4_isCell 5 = .ok (.bipush 36, 2) := by decide +kernel
theorem dX4_isCell_7 : decode cX4_isCell 7 = .ok (.if_icmp .ge 7, 3) := by decide +kernel
theorem dX4_isCell_10 : decode cX4_isCell 10 = .ok (.iconst 1, 1) := by decide +kernel
theorem dX4_isCell_11 : decode cX4_isCell 11 = .ok (.goto 4, 3) := by decide +kernel
theorem dX4_isCell_14 : decode cX4_isCell 14 = .ok (.iconst 0, 1) := by decide +kernel
theorem dX4_isCell_15 : decode cX4_isCell 15 = .ok (.ireturn, 1) := by decide +kernel
theorem dX4_stepsFrom_0 : decode cX4_stepsFrom 0 = .ok (.iload_n 0, 1) := by decide +kernel
theorem dX4_stepsFrom_1 : decode cX4_stepsFrom 1 = .ok (.invokestatic 22, 3) := by decide +kernel
theorem dX4_stepsFrom_4 : decode cX4_stepsFrom 4 = .ok (.ifCond .eq 15, 3) := by decide +kernel
theorem dX4_stepsFrom_7 : decode cX4_stepsFrom 7 = .ok (.iload_n 0, 1) := by decide +kernel
theorem dX4_stepsFrom_8 : decode cX4_stepsFrom 8 = .ok (.bipush 6, 2) := by decide +kernel
theorem dX4_stepsFrom_10 : decode cX4_stepsFrom 10 = .ok (.irem, 1) := by decide +kernel
theorem dX4_stepsFrom_11 : decode cX4_stepsFrom 11 = .ok (.iload_n 0, 1) := by decide +kernel
theorem dX4_stepsFrom_12 : decode cX4_stepsFrom 12 = .ok (.bipush 6, 2) := by decide +kernel
theorem dX4_stepsFrom_14 : decode cX4_stepsFrom 14 = .ok (.idiv, 1) := by decide +kernel
theorem dX4_stepsFrom_15 : decode cX4_stepsFrom 15 = .ok (.iadd, 1) := by decide +kernel
theorem dX4_stepsFrom_16 : decode cX4_stepsFrom 16 = .ok (.goto 4, 3) := by decide +kernel
theorem dX4_stepsFrom_19 : decode cX4_stepsFrom 19 = .ok (.iconst (-1), 1) := by decide +kernel
theorem dX4_stepsFrom_20 : decode cX4_stepsFrom 20 = .ok (.ireturn, 1) := by decide +kernel
theorem dX4_nextCell_0 : decode cX4_nextCell 0 = .ok (.iload_n 0, 1) := by decide +kernel
theorem dX4_nextCell_1 : decode cX4_nextCell 1 = .ok (.bipush 6, 2) := by decide +kernel
theorem dX4_nextCell_3 : decode cX4_nextCell 3 = .ok (.irem, 1) := by decide +kernel
theorem dX4_nextCell_4 : decode cX4_nextCell 4 = .ok (.istore_n 2, 1) := by decide +kernel
theorem dX4_nextCell_5 : decode cX4_nextCell 5 = .ok (.iload_n 0, 1) := by decide +kernel
theorem dX4_nextCell_6 : decode cX4_nextCell 6 = .ok (.bipush 6, 2) := by decide +kernel
theorem dX4_nextCell_8 : decode cX4_nextCell 8 = .ok (.idiv, 1) := by decide +kernel
theorem dX4_nextCell_9 : decode cX4_nextCell 9 = .ok (.istore_n 3, 1) := by decide +kernel
theorem dX4_nextCell_10 : decode cX4_nextCell 10 = .ok (.iload_n 1, 1) := by decide +kernel
theorem dX4_nextCell_11 : decode cX4_nextCell 11 = .ok (.tableswitch 81 1 4 #[29, 42, 54, 68], 29) := by decide +kernel
theorem dX4_nextCell_40 : decode cX4_nextCell 40 = .ok (.iload_n 2, 1) := by decide +kernel
theorem dX4_nextCell_41 : decode cX4_nextCell 41 = .ok (.iconst 5, 1) := by decide +kernel
theorem dX4_nextCell_42 : decode cX4_nextCell 42 = .ok (.if_icmp .ge 9, 3) := by decide +kernel
theorem dX4_nextCell_45 : decode cX4_nextCell 45 = .ok (.iload_n 0, 1) := by decide +kernel
theorem dX4_nextCell_46 : decode cX4_nextCell 46 = .ok (.iconst 1, 1) := by decide +kernel
theorem dX4_nextCell_47 : decode cX4_nextCell 47 = .ok (.iadd, 1) := by decide +kernel
theorem dX4_nextCell_48 : decode cX4_nextCell 48 = .ok (.goto 4, 3) := by decide +kernel
theorem dX4_nextCell_51 : decode cX4_nextCell 51 = .ok (.iconst (-1), 1) := by decide +kernel
theorem dX4_nextCell_52 : decode cX4_nextCell 52 = .ok (.ireturn, 1) := by decide +kernel
theorem dX4_nextCell_53 : decode cX4_nextCell 53 = .ok (.iload_n 2, 1) := by decide +kernel
theorem dX4_nextCell_54 : decode cX4_nextCell 54 = .ok (.ifCond .le 9, 3) := by decide +kernel
theorem dX4_nextCell_57 : decode cX4_nextCell 57 = .ok (.iload_n 0, 1) := by decide +kernel
theorem dX4_nextCell_58 : decode cX4_nextCell 58 = .ok (.iconst 1, 1) := by decide +kernel
theorem dX4_nextCell_59 : decode cX4_nextCell 59 = .ok (.isub, 1) := by decide +kernel
theorem dX4_nextCell_60 : decode cX4_nextCell 60 = .ok (.goto 4, 3) := by decide +kernel
theorem dX4_nextCell_63 : decode cX4_nextCell 63 = .ok (.iconst (-1), 1) := by decide +kernel
theorem dX4_nextCell_64 : decode cX4_nextCell 64 = .ok (.ireturn, 1) := by decide +kernel
theorem dX4_nextCell_65 : decode cX4_nextCell 65 = .ok (.iload_n 3, 1) := by decide +kernel
theorem dX4_nextCell_66 : decode cX4_nextCell 66 = .ok (.iconst 5, 1) := by decide +kernel
theorem dX4_nextCell_67 : decode cX4_nextCell 67 = .ok (.if_icmp .ge 10, 3) := by decide +kernel
theorem dX4_nextCell_70 : decode cX4_nextCell 70 = .ok (.iload_n 0, 1) := by decide +kernel
theorem dX4_nextCell_71 : decode cX4_nextCell 71 = .ok (.bipush 6, 2) := by decide +kernel
theorem dX4_nextCell_73 : decode cX4_nextCell 73 = .ok (.iadd, 1) := by decide +kernel
theorem dX4_nextCell_74 : decode cX4_nextCell 74 = .ok (.goto 4, 3) := by decide +kernel
theorem dX4_nextCell_77 : decode cX4_nextCell 77 = .ok (.iconst (-1), 1) := by decide +kernel
theorem dX4_nextCell_78 : decode cX4_nextCell 78 = .ok (.ireturn, 1) := by decide +kernel
theorem dX4_nextCell_79 : decode cX4_nextCell 79 = .ok (.iload_n 3, 1) := by decide +kernel
theorem dX4_nextCell_80 : decode cX4_nextCell 80 = .ok (.ifCond .le 10, 3) := by decide +kernel
theorem dX4_nextCell_83 : decode cX4_nextCell 83 = .ok (.iload_n 0, 1) := by decide +kernel
theorem dX4_nextCell_84 : decode cX4_nextCell 84 = .ok (.bipush 6, 2) := by decide +kernel
theorem dX4_nextCell_86 : decode cX4_nextCell 86 = .ok (.isub, 1) := by decide +kernel
theorem dX4_nextCell_87 : decode cX4_nextCell 87 = .ok (.goto 4, 3) := by decide +kernel
theorem dX4_nextCell_90 : decode cX4_nextCell 90 = .ok (.iconst (-1), 1) := by decide +kernel
theorem dX4_nextCell_91 : decode cX4_nextCell 91 = .ok (.ireturn, 1) := by decide +kernel
theorem dX4_nextCell_92 : decode cX4_nextCell 92 = .ok (.iconst (-1), 1) := by decide +kernel
theorem dX4_nextCell_93 : decode cX4_nextCell 93 = .ok (.ireturn, 1) := by decide +kernel
theorem dX4_moveShoals_0 : decode cX4_moveShoals 0 = .ok (.iconst 0, 1) := by decide +kernel
theorem dX4_moveShoals_1 : decode cX4_moveShoals 1 = .ok (.istore_n 1, 1) := by decide +kernel
theorem dX4_moveShoals_2 : decode cX4_moveShoals 2 = .ok (.iload_n 1, 1) := by decide +kernel
theorem dX4_moveShoals_3 : decode cX4_moveShoals 3 = .ok (.bipush 36, 2) := by decide +kernel
theorem dX4_moveShoals_5 : decode cX4_moveShoals 5 = .ok (.if_icmp .ge 16, 3) := by decide +kernel
theorem dX4_moveShoals_8 : decode cX4_moveShoals 8 = .ok (.aload_n 0, 1) := by decide +kernel
theorem dX4_moveShoals_9 : decode cX4_moveShoals 9 = .ok (.getfield 19, 3) := by decide +kernel
theorem dX4_moveShoals_12 : decode cX4_moveShoals 12 = .ok (.iload_n 1, 1) := by decide +kernel
theorem dX4_moveShoals_13 : decode cX4_moveShoals 13 = .ok (.iconst 0, 1) := by decide +kernel
theorem dX4_moveShoals_14 : decode cX4_moveShoals 14 = .ok (.iastore, 1) := by decide +kernel
theorem dX4_moveShoals_15 : decode cX4_moveShoals 15 = .ok (.iinc 1 1, 3) := by decide +kernel
theorem dX4_moveShoals_18 : decode cX4_moveShoals 18 = .ok (.goto (-16), 3) := by decide +kernel
theorem dX4_moveShoals_21 : decode cX4_moveShoals 21 = .ok (.iconst 0, 1) := by decide +kernel
theorem dX4_moveShoals_22 : decode cX4_moveShoals 22 = .ok (.istore_n 1, 1) := by decide +kernel
theorem dX4_moveShoals_23 : decode cX4_moveShoals 23 = .ok (.iload_n 1, 1) := by decide +kernel
theorem dX4_moveShoals_24 : decode cX4_moveShoals 24 = .ok (.bipush 36, 2) := by decide +kernel
theorem dX4_moveShoals_26 : decode cX4_moveShoals 26 = .ok (.if_icmp .ge 54, 3) := by decide +kernel
theorem dX4_moveShoals_29 : decode cX4_moveShoals 29 = .ok (.iload_n 1, 1) := by decide +kernel
theorem dX4_moveShoals_30 : decode cX4_moveShoals 30 = .ok (.aload_n 0, 1) := by decide +kernel
theorem dX4_moveShoals_31 : decode cX4_moveShoals 31 = .ok (.getfield 26, 3) := by decide +kernel
theorem dX4_moveShoals_34 : decode cX4_moveShoals 34 = .ok (.invokestatic 30, 3) := by decide +kernel
theorem dX4_moveShoals_37 : decode cX4_moveShoals 37 = .ok (.istore_n 2, 1) := by decide +kernel
theorem dX4_moveShoals_38 : decode cX4_moveShoals 38 = .ok (.iload_n 2, 1) := by decide +kernel
theorem dX4_moveShoals_39 : decode cX4_moveShoals 39 = .ok (.invokestatic 22, 3) := by decide +kernel
theorem dX4_moveShoals_42 : decode cX4_moveShoals 42 = .ok (.ifCond .eq 32, 3) := by decide +kernel
theorem dX4_moveShoals_45 : decode cX4_moveShoals 45 = .ok (.aload_n 0, 1) := by decide +kernel
theorem dX4_moveShoals_46 : decode cX4_moveShoals 46 = .ok (.getfield 9, 3) := by decide +kernel
theorem dX4_moveShoals_49 : decode cX4_moveShoals 49 = .ok (.iload_n 1, 1) := by decide +kernel
theorem dX4_moveShoals_50 : decode cX4_moveShoals 50 = .ok (.iaload, 1) := by decide +kernel
theorem dX4_moveShoals_51 : decode cX4_moveShoals 51 = .ok (.iconst 4, 1) := by decide +kernel
theorem dX4_moveShoals_52 : decode cX4_moveShoals 52 = .ok (.idiv, 1) := by decide +kernel
theorem dX4_moveShoals_53 : decode cX4_moveShoals 53 = .ok (.istore_n 3, 1) := by decide +kernel
theorem dX4_moveShoals_54 : decode cX4_moveShoals 54 = .ok (.aload_n 0, 1) := by decide +kernel
theorem dX4_moveShoals_55 : decode cX4_moveShoals 55 = .ok (.getfield 19, 3) := by decide +kernel
theorem dX4_moveShoals_58 : decode cX4_moveShoals 58 = .ok (.iload_n 1, 1) := by decide +kernel
theorem dX4_moveShoals_59 : decode cX4_moveShoals 59 = .ok (.dup2, 1) := by decide +kernel
theorem dX4_moveShoals_60 : decode cX4_moveShoals 60 = .ok (.iaload, 1) := by decide +kernel
theorem dX4_moveShoals_61 : decode cX4_moveShoals 61 = .ok (.iload_n 3, 1) := by decide +kernel
theorem dX4_moveShoals_62 : decode cX4_moveShoals 62 = .ok (.isub, 1) := by decide +kernel
theorem dX4_moveShoals_63 : decode cX4_moveShoals 63 = .ok (.iastore, 1) := by decide +kernel
theorem dX4_moveShoals_64 : decode cX4_moveShoals 64 = .ok (.aload_n 0, 1) := by decide +kernel
theorem dX4_moveShoals_65 : decode cX4_moveShoals 65 = .ok (.getfield 19, 3) := by decide +kernel
theorem dX4_moveShoals_68 : decode cX4_moveShoals 68 = .ok (.iload_n 2, 1) := by decide +kernel
theorem dX4_moveShoals_69 : decode cX4_moveShoals 69 = .ok (.dup2, 1) := by decide +kernel
theorem dX4_moveShoals_70 : decode cX4_moveShoals 70 = .ok (.iaload, 1) := by decide +kernel
theorem dX4_moveShoals_71 : decode cX4_moveShoals 71 = .ok (.iload_n 3, 1) := by decide +kernel
theorem dX4_moveShoals_72 : decode cX4_moveShoals 72 = .ok (.iadd, 1) := by decide +kernel
theorem dX4_moveShoals_73 : decode cX4_moveShoals 73 = .ok (.iastore, 1) := by decide +kernel
theorem dX4_moveShoals_74 : decode cX4_moveShoals 74 = .ok (.iinc 1 1, 3) := by decide +kernel
theorem dX4_moveShoals_77 : decode cX4_moveShoals 77 = .ok (.goto (-54), 3) := by decide +kernel
theorem dX4_moveShoals_80 : decode cX4_moveShoals 80 = .ok (.iconst 0, 1) := by decide +kernel
theorem dX4_moveShoals_81 : decode cX4_moveShoals 81 = .ok (.istore_n 1, 1) := by decide +kernel
theorem dX4_moveShoals_82 : decode cX4_moveShoals 82 = .ok (.iload_n 1, 1) := by decide +kernel
theorem dX4_moveShoals_83 : decode cX4_moveShoals 83 = .ok (.bipush 36, 2) := by decide +kernel
theorem dX4_moveShoals_85 : decode cX4_moveShoals 85 = .ok (.if_icmp .ge 53, 3) := by decide +kernel
theorem dX4_moveShoals_88 : decode cX4_moveShoals 88 = .ok (.aload_n 0, 1) := by decide +kernel
theorem dX4_moveShoals_89 : decode cX4_moveShoals 89 = .ok (.getfield 9, 3) := by decide +kernel
theorem dX4_moveShoals_92 : decode cX4_moveShoals 92 = .ok (.iload_n 1, 1) := by decide +kernel
theorem dX4_moveShoals_93 : decode cX4_moveShoals 93 = .ok (.iaload, 1) := by decide +kernel
theorem dX4_moveShoals_94 : decode cX4_moveShoals 94 = .ok (.aload_n 0, 1) := by decide +kernel
theorem dX4_moveShoals_95 : decode cX4_moveShoals 95 = .ok (.getfield 19, 3) := by decide +kernel
theorem dX4_moveShoals_98 : decode cX4_moveShoals 98 = .ok (.iload_n 1, 1) := by decide +kernel
theorem dX4_moveShoals_99 : decode cX4_moveShoals 99 = .ok (.iaload, 1) := by decide +kernel
theorem dX4_moveShoals_100 : decode cX4_moveShoals 100 = .ok (.iadd, 1) := by decide +kernel
theorem dX4_moveShoals_101 : decode cX4_moveShoals 101 = .ok (.istore_n 2, 1) := by decide +kernel
theorem dX4_moveShoals_102 : decode cX4_moveShoals 102 = .ok (.aload_n 0, 1) := by decide +kernel
theorem dX4_moveShoals_103 : decode cX4_moveShoals 103 = .ok (.getfield 9, 3) := by decide +kernel
theorem dX4_moveShoals_106 : decode cX4_moveShoals 106 = .ok (.iload_n 1, 1) := by decide +kernel
theorem dX4_moveShoals_107 : decode cX4_moveShoals 107 = .ok (.iload_n 2, 1) := by decide +kernel
theorem dX4_moveShoals_108 : decode cX4_moveShoals 108 = .ok (.sipush 10000, 3) := by decide +kernel
theorem dX4_moveShoals_111 : decode cX4_moveShoals 111 = .ok (.invokestatic 34, 3) := by decide +kernel
theorem dX4_moveShoals_114 : decode cX4_moveShoals 114 = .ok (.iastore, 1) := by decide +kernel
theorem dX4_moveShoals_115 : decode cX4_moveShoals 115 = .ok (.aload_n 0, 1) := by decide +kernel
theorem dX4_moveShoals_116 : decode cX4_moveShoals 116 = .ok (.dup, 1) := by decide +kernel
theorem dX4_moveShoals_117 : decode cX4_moveShoals 117 = .ok (.getfield 39, 3) := by decide +kernel
theorem dX4_moveShoals_120 : decode cX4_moveShoals 120 = .ok (.iload_n 2, 1) := by decide +kernel
theorem dX4_moveShoals_121 : decode cX4_moveShoals 121 = .ok (.aload_n 0, 1) := by decide +kernel
theorem dX4_moveShoals_122 : decode cX4_moveShoals 122 = .ok (.getfield 9, 3) := by decide +kernel
theorem dX4_moveShoals_125 : decode cX4_moveShoals 125 = .ok (.iload_n 1, 1) := by decide +kernel
theorem dX4_moveShoals_126 : decode cX4_moveShoals 126 = .ok (.iaload, 1) := by decide +kernel
theorem dX4_moveShoals_127 : decode cX4_moveShoals 127 = .ok (.isub, 1) := by decide +kernel
theorem dX4_moveShoals_128 : decode cX4_moveShoals 128 = .ok (.iadd, 1) := by decide +kernel
theorem dX4_moveShoals_129 : decode cX4_moveShoals 129 = .ok (.putfield 39, 3) := by decide +kernel
theorem dX4_moveShoals_132 : decode cX4_moveShoals 132 = .ok (.iinc 1 1, 3) := by decide +kernel
theorem dX4_moveShoals_135 : decode cX4_moveShoals 135 = .ok (.goto (-53), 3) := by decide +kernel
theorem dX4_moveShoals_138 : decode cX4_moveShoals 138 = .ok (.return_, 1) := by decide +kernel
theorem dX4_cransInAll_0 : decode cX4_cransInAll 0 = .ok (.iconst 0, 1) := by decide +kernel
theorem dX4_cransInAll_1 : decode cX4_cransInAll 1 = .ok (.istore_n 1, 1) := by decide +kernel
theorem dX4_cransInAll_2 : decode cX4_cransInAll 2 = .ok (.iconst 0, 1) := by decide +kernel
theorem dX4_cransInAll_3 : decode cX4_cransInAll 3 = .ok (.istore_n 2, 1) := by decide +kernel
theorem dX4_cransInAll_4 : decode cX4_cransInAll 4 = .ok (.iload_n 2, 1) := by decide +kernel
theorem dX4_cransInAll_5 : decode cX4_cransInAll 5 = .ok (.bipush 36, 2) := by decide +kernel
theorem dX4_cransInAll_7 : decode cX4_cransInAll 7 = .ok (.if_icmp .ge 18, 3) := by decide +kernel
theorem dX4_cransInAll_10 : decode cX4_cransInAll 10 = .ok (.iload_n 1, 1) := by decide +kernel
theorem dX4_cransInAll_11 : decode cX4_cransInAll 11 = .ok (.aload_n 0, 1) := by decide +kernel
theorem dX4_cransInAll_12 : decode cX4_cransInAll 12 = .ok (.getfield 9, 3) := by decide +kernel
theorem dX4_cransInAll_15 : decode cX4_cransInAll 15 = .ok (.iload_n 2, 1) := by decide +kernel
theorem dX4_cransInAll_16 : decode cX4_cransInAll 16 = .ok (.iaload, 1) := by decide +kernel
theorem dX4_cransInAll_17 : decode cX4_cransInAll 17 = .ok (.iadd, 1) := by decide +kernel
theorem dX4_cransInAll_18 : decode cX4_cransInAll 18 = .ok (.istore_n 1, 1) := by decide +kernel
theorem dX4_cransInAll_19 : decode cX4_cransInAll 19 = .ok (.iinc 2 1, 3) := by decide +kernel
theorem dX4_cransInAll_22 : decode cX4_cransInAll 22 = .ok (.goto (-18), 3) := by decide +kernel
theorem dX4_cransInAll_25 : decode cX4_cransInAll 25 = .ok (.iload_n 1, 1) := by decide +kernel
theorem dX4_cransInAll_26 : decode cX4_cransInAll 26 = .ok (.ireturn, 1) := by decide +kernel
theorem dX5_init_0 : decode cX5_init 0 = .ok (.aload_n 0, 1) := by decide +kernel
theorem dX5_init_1 : decode cX5_init 1 = .ok (.invokespecial 3, 3) := by decide +kernel
theorem dX5_init_4 : decode cX5_init 4 = .ok (.aload_n 0, 1) := by decide +kernel
theorem dX5_init_5 : decode cX5_init 5 = .ok (.sipush 200, 3) := by decide +kernel
theorem dX5_init_8 : decode cX5_init 8 = .ok (.newarray .int, 2) := by decide +kernel
theorem dX5_init_10 : decode cX5_init 10 = .ok (.putfield 9, 3) := by decide +kernel
theorem dX5_init_13 : decode cX5_init 13 = .ok (.return_, 1) := by decide +kernel
theorem dX5_bytesIn_0 : decode cX5_bytesIn 0 = .ok (.iconst 0, 1) := by decide +kernel
theorem dX5_bytesIn_1 : decode cX5_bytesIn 1 = .ok (.istore_n 1, 1) := by decide +kernel
theorem dX5_bytesIn_2 : decode cX5_bytesIn 2 = .ok (.bipush 24, 2) := by decide +kernel
theorem dX5_bytesIn_4 : decode cX5_bytesIn 4 = .ok (.istore_n 2, 1) := by decide +kernel
theorem dX5_bytesIn_5 : decode cX5_bytesIn 5 = .ok (.iload_n 2, 1) := by decide +kernel
theorem dX5_bytesIn_6 : decode cX5_bytesIn 6 = .ok (.ifCond .lt 22, 3) := by decide +kernel
theorem dX5_bytesIn_9 : decode cX5_bytesIn 9 = .ok (.iload_n 0, 1) := by decide +kernel
theorem dX5_bytesIn_10 : decode cX5_bytesIn 10 = .ok (.iload_n 2, 1) := by decide +kernel
theorem dX5_bytesIn_11 : decode cX5_bytesIn 11 = .ok (.iushr, 1) := by decide +kernel
theorem dX5_bytesIn_12 : decode cX5_bytesIn 12 = .ok (.sipush 255, 3) := by decide +kernel
theorem dX5_bytesIn_15 : decode cX5_bytesIn 15 = .ok (.iand, 1) := by decide +kernel
theorem dX5_bytesIn_16 : decode cX5_bytesIn 16 = .ok (.ifCond .eq 6, 3) := by decide +kernel
theorem dX5_bytesIn_19 : decode cX5_bytesIn 19 = .ok (.iinc 1 1, 3) := by decide +kernel
theorem dX5_bytesIn_22 : decode cX5_bytesIn 22 = .ok (.iinc 2 (-8), 3) := by decide +kernel
theorem dX5_bytesIn_25 : decode cX5_bytesIn 25 = .ok (.goto (-20), 3) := by decide +kernel
theorem dX5_bytesIn_28 : decode cX5_bytesIn 28 = .ok (.iload_n 1, 1) := by decide +kernel
theorem dX5_bytesIn_29 : decode cX5_bytesIn 29 = .ok (.ireturn, 1) := by decide +kernel
theorem dX5_addWord_0 : decode cX5_addWord 0 = .ok (.bipush 24, 2) := by decide +kernel
theorem dX5_addWord_2 : decode cX5_addWord 2 = .ok (.istore_n 2, 1) := by decide +kernel
theorem dX5_addWord_3 : decode cX5_addWord 3 = .ok (.iload_n 2, 1) := by decide +kernel
theorem dX5_addWord_4 : decode cX5_addWord 4 = .ok (.ifCond .lt 51, 3) := by decide +kernel
theorem dX5_addWord_7 : decode cX5_addWord 7 = .ok (.iload_n 1, 1) := by decide +kernel
theorem dX5_addWord_8 : decode cX5_addWord 8 = .ok (.iload_n 2, 1) := by decide +kernel
theorem dX5_addWord_9 : decode cX5_addWord 9 = .ok (.iushr, 1) := by decide +kernel
theorem dX5_addWord_10 : decode cX5_addWord 10 = .ok (.sipush 255, 3) := by decide +kernel
theorem dX5_addWord_13 : decode cX5_addWord 13 = .ok (.iand, 1) := by decide +kernel
theorem dX5_addWord_14 : decode cX5_addWord 14 = .ok (.istore_n 3, 1) := by decide +kernel
theorem dX5_addWord_15 : decode cX5_addWord 15 = .ok (.iload_n 3, 1) := by decide +kernel
theorem dX5_addWord_16 : decode cX5_addWord 16 = .ok (.ifCond .eq 33, 3) := by decide +kernel
theorem dX5_addWord_19 : decode cX5_addWord 19 = .ok (.aload_n 0, 1) := by decide +kernel
theorem dX5_addWord_20 : decode cX5_addWord 20 = .ok (.getfield 15, 3) := by decide +kernel
theorem dX5_addWord_23 : decode cX5_addWord 23 = .ok (.sipush 200, 3) := by decide +kernel
theorem dX5_addWord_26 : decode cX5_addWord 26 = .ok (.if_icmp .ge 23, 3) := by decide +kernel
theorem dX5_addWord_29 : decode cX5_addWord 29 = .ok (.aload_n 0, 1) := by decide +kernel
theorem dX5_addWord_30 : decode cX5_addWord 30 = .ok (.getfield 9, 3) := by decide +kernel
theorem dX5_addWord_33 : decode cX5_addWord 33 = .ok (.aload_n 0, 1) := by decide +kernel
theorem dX5_addWord_34 : decode cX5_addWord 34 = .ok (.getfield 15, 3) := by decide +kernel
theorem dX5_addWord_37 : decode cX5_addWord 37 = .ok (.iload_n 3, 1) := by decide +kernel
theorem dX5_addWord_38 : decode cX5_addWord 38 = .ok (.iastore, 1) := by decide +kernel
theorem dX5_addWord_39 : decode cX5_addWord 39 = .ok (.aload_n 0, 1) := by decide +kernel
theorem dX5_addWord_40 : decode cX5_addWord 40 = .ok (.dup, 1) := by decide +kernel
theorem dX5_addWord_41 : decode cX5_addWord 41 = .ok (.getfield 15, 3) := by decide +kernel
theorem dX5_addWord_44 : decode cX5_addWord 44 = .ok (.iconst 1, 1) := by decide +kernel
theorem dX5_addWord_45 : decode cX5_addWord 45 = .ok (.iadd, 1) := by decide +kernel
theorem dX5_addWord_46 : decode cX5_addWord 46 = .ok (.putfield 15, 3) := by decide +kernel
theorem dX5_addWord_49 : decode cX5_addWord 49 = .ok (.iinc 2 (-8), 3) := by decide +kernel
theorem dX5_addWord_52 : decode cX5_addWord 52 = .ok (.goto (-49), 3) := by decide +kernel
theorem dX5_addWord_55 : decode cX5_addWord 55 = .ok (.return_, 1) := by decide +kernel
theorem dX5_byteAt_0 : decode cX5_byteAt 0 = .ok (.iload_n 1, 1) := by decide +kernel
theorem dX5_byteAt_1 : decode cX5_byteAt 1 = .ok (.ifCond .lt 19, 3) := by decide +kernel
theorem dX5_byteAt_4 : decode cX5_byteAt 4 = .ok (.iload_n 1, 1) := by decide +kernel
theorem dX5_byteAt_5 : decode cX5_byteAt 5 = .ok (.sipush 200, 3) := by decide +kernel
theorem dX5_byteAt_8 : decode cX5_byteAt 8 = .ok (.if_icmp .ge 12, 3) := by decide +kernel
theorem dX5_byteAt_11 : decode cX5_byteAt 11 = .ok (.aload_n 0, 1) := by decide +kernel
theorem dX5_byteAt_12 : decode cX5_byteAt 12 = .ok (.getfield 9, 3) := by decide +kernel
theorem dX5_byteAt_15 : decode cX5_byteAt 15 = .ok (.iload_n 1, 1) := by decide +kernel
theorem dX5_byteAt_16 : decode cX5_byteAt 16 = .ok (.iaload, 1) := by decide +kernel
theorem dX5_byteAt_17 : decode cX5_byteAt 17 = .ok (.goto 4, 3) := by decide +kernel
theorem dX5_byteAt_20 : decode cX5_byteAt 20 = .ok (.iconst 0, 1) := by decide +kernel
theorem dX5_byteAt_21 : decode cX5_byteAt 21 = .ok (.ireturn, 1) := by decide +kernel
theorem dX5_copyFrom_0 : decode cX5_copyFrom 0 = .ok (.aload_n 0, 1) := by decide +kernel
theorem dX5_copyFrom_1 : decode cX5_copyFrom 1 = .ok (.aload_n 1, 1) := by decide +kernel
theorem dX5_copyFrom_2 : decode cX5_copyFrom 2 = .ok (.getfield 15, 3) := by decide +kernel
theorem dX5_copyFrom_5 : decode cX5_copyFrom 5 = .ok (.putfield 15, 3) := by decide +kernel
theorem dX5_copyFrom_8 : decode cX5_copyFrom 8 = .ok (.iconst 0, 1) := by decide +kernel
theorem dX5_copyFrom_9 : decode cX5_copyFrom 9 = .ok (.istore_n 2, 1) := by decide +kernel
theorem dX5_copyFrom_10 : decode cX5_copyFrom 10 = .ok (.iload_n 2, 1) := by decide +kernel
theorem dX5_copyFrom_11 : decode cX5_copyFrom 11 = .ok (.aload_n 0, 1) := by decide +kernel
theorem dX5_copyFrom_12 : decode cX5_copyFrom 12 = .ok (.getfield 15, 3) := by decide +kernel
theorem dX5_copyFrom_15 : decode cX5_copyFrom 15 = .ok (.if_icmp .ge 27, 3) := by decide +kernel
theorem dX5_copyFrom_18 : decode cX5_copyFrom 18 = .ok (.iload_n 2, 1) := by decide +kernel
theorem dX5_copyFrom_19 : decode cX5_copyFrom 19 = .ok (.sipush 200, 3) := by decide +kernel
theorem dX5_copyFrom_22 : decode cX5_copyFrom 22 = .ok (.if_icmp .ge 20, 3) := by decide +kernel
theorem dX5_copyFrom_25 : decode cX5_copyFrom 25 = .ok (.aload_n 0, 1) := by decide +kernel
theorem dX5_copyFrom_26 : decode cX5_copyFrom 26 = .ok (.getfield 9, 3) := by decide +kernel
theorem dX5_copyFrom_29 : decode cX5_copyFrom 29 = .ok (.iload_n 2, 1) := by decide +kernel
theorem dX5_copyFrom_30 : decode cX5_copyFrom 30 = .ok (.aload_n 1, 1) := by decide +kernel
theorem dX5_copyFrom_31 : decode cX5_copyFrom 31 = .ok (.iload_n 2, 1) := by decide +kernel
theorem dX5_copyFrom_32 : decode cX5_copyFrom 32 = .ok (.invokevirtual 19, 3) := by decide +kernel
theorem dX5_copyFrom_35 : decode cX5_copyFrom 35 = .ok (.iastore, 1) := by decide +kernel
theorem dX5_copyFrom_36 : decode cX5_copyFrom 36 = .ok (.iinc 2 1, 3) := by decide +kernel
theorem dX5_copyFrom_39 : decode cX5_copyFrom 39 = .ok (.goto (-29), 3) := by decide +kernel
theorem dX5_copyFrom_42 : decode cX5_copyFrom 42 = .ok (.return_, 1) := by decide +kernel
theorem dX6_init_0 : decode cX6_init 0 = .ok (.aload_n 0, 1) := by decide +kernel
theorem dX6_init_1 : decode cX6_init 1 = .ok (.invokespecial 1, 3) := by decide +kernel
theorem dX6_init_4 : decode cX6_init 4 = .ok (.return_, 1) := by decide +kernel
theorem dX6_holds_0 : decode cX6_holds 0 = .ok (.aload_n 0, 1) := by decide +kernel
theorem dX6_holds_1 : decode cX6_holds 1 = .ok (.iconst 0, 1) := by decide +kernel
theorem dX6_holds_2 : decode cX6_holds 2 = .ok (.putfield 7, 3) := by decide +kernel
theorem dX6_holds_5 : decode cX6_holds 5 = .ok (.aload_n 0, 1) := by decide +kernel
theorem dX6_holds_6 : decode cX6_holds 6 = .ok (.iconst 1, 1) := by decide +kernel
theorem dX6_holds_7 : decode cX6_holds 7 = .ok (.putfield 13, 3) := by decide +kernel
theorem dX6_holds_10 : decode cX6_holds 10 = .ok (.aload_n 0, 1) := by decide +kernel
theorem dX6_holds_11 : decode cX6_holds 11 = .ok (.iconst 0, 1) := by decide +kernel
theorem dX6_holds_12 : decode cX6_holds 12 = .ok (.putfield 16, 3) := by decide +kernel
theorem dX6_holds_15 : decode cX6_holds 15 = .ok (.iconst 0, 1) := by decide +kernel
theorem dX6_holds_16 : decode cX6_holds 16 = .ok (.istore 4, 2) := by decide +kernel
theorem dX6_holds_18 : decode cX6_holds 18 = .ok (.iload 4, 2) := by decide +kernel
theorem dX6_holds_20 : decode cX6_holds 20 = .ok (.aload_n 1, 1) := by decide +kernel
theorem dX6_holds_21 : decode cX6_holds 21 = .ok (.getfield 19, 3) := by decide +kernel
theorem dX6_holds_24 : decode cX6_holds 24 = .ok (.if_icmp .ge 21, 3) := by decide +kernel
theorem dX6_holds_27 : decode cX6_holds 27 = .ok (.aload_n 0, 1) := by decide +kernel
theorem dX6_holds_28 : decode cX6_holds 28 = .ok (.aload_n 1, 1) := by decide +kernel
theorem dX6_holds_29 : decode cX6_holds 29 = .ok (.iload 4, 2) := by decide +kernel
theorem dX6_holds_31 : decode cX6_holds 31 = .ok (.invokevirtual 24, 3) := by decide +kernel
theorem dX6_holds_34 : decode cX6_holds 34 = .ok (.aload_n 2, 1) := by decide +kernel
theorem dX6_holds_35 : decode cX6_holds 35 = .ok (.iload_n 3, 1) := by decide +kernel
theorem dX6_holds_36 : decode cX6_holds 36 = .ok (.invokevirtual 28, 3) := by decide +kernel
theorem dX6_holds_39 : decode cX6_holds 39 = .ok (.iinc 4 1, 3) := by decide +kernel
theorem dX6_holds_42 : decode cX6_holds 42 = .ok (.goto (-24), 3) := by decide +kernel
theorem dX6_holds_45 : decode cX6_holds 45 = .ok (.aload_n 0, 1) := by decide +kernel
theorem dX6_holds_46 : decode cX6_holds 46 = .ok (.aload_n 2, 1) := by decide +kernel
theorem dX6_holds_47 : decode cX6_holds 47 = .ok (.iload_n 3, 1) := by decide +kernel
theorem dX6_holds_48 : decode cX6_holds 48 = .ok (.invokevirtual 32, 3) := by decide +kernel
theorem dX6_holds_51 : decode cX6_holds 51 = .ok (.aload_n 0, 1) := by decide +kernel
theorem dX6_holds_52 : decode cX6_holds 52 = .ok (.invokevirtual 36, 3) := by decide +kernel
theorem dX6_holds_55 : decode cX6_holds 55 = .ok (.aload_n 0, 1) := by decide +kernel
theorem dX6_holds_56 : decode cX6_holds 56 = .ok (.getfield 7, 3) := by decide +kernel
theorem dX6_holds_59 : decode cX6_holds 59 = .ok (.iconst 1, 1) := by decide +kernel
theorem dX6_holds_60 : decode cX6_holds 60 = .ok (.iand, 1) := by decide +kernel
theorem dX6_holds_61 : decode cX6_holds 61 = .ok (.iconst 1, 1) := by decide +kernel
theorem dX6_holds_62 : decode cX6_holds 62 = .ok (.if_icmp .ne 7, 3) := by decide +kernel
theorem dX6_holds_65 : decode cX6_holds 65 = .ok (.iconst 1, 1) := by decide +kernel
theorem dX6_holds_66 : decode cX6_holds 66 = .ok (.goto 4, 3) := by decide +kernel
theorem dX6_holds_69 : decode cX6_holds 69 = .ok (.iconst 0, 1) := by decide +kernel
theorem dX6_holds_70 : decode cX6_holds 70 = .ok (.ireturn, 1) := by decide +kernel
theorem dX6_read_0 : decode cX6_read 0 = .ok (.iload_n 1, 1) := by decide +kernel
theorem dX6_read_1 : decode cX6_read 1 = .ok (.invokestatic 39, 3) := by decide +kernel
theorem dX6_read_4 : decode cX6_read 4 = .ok (.ifCond .eq 20, 3) := by decide +kernel
theorem dX6_read_7 : decode cX6_read 7 = .ok (.aload_n 0, 1) := by decide +kernel
theorem dX6_read_8 : decode cX6_read 8 = .ok (.aload_n 0, 1) := by decide +kernel
theorem dX6_read_9 : decode cX6_read 9 = .ok (.getfield 45, 3) := by decide +kernel
theorem dX6_read_12 : decode cX6_read 12 = .ok (.bipush 10, 2) := by decide +kernel
theorem dX6_read_14 : decode cX6_read 14 = .ok (.imul, 1) := by decide +kernel
theorem dX6_read_15 : decode cX6_read 15 = .ok (.iload_n 1, 1) := by decide +kernel
theorem dX6_read_16 : decode cX6_read 16 = .ok (.bipush 48, 2) := by decide +kernel
theorem dX6_read_18 : decode cX6_read 18 = .ok (.isub, 1) := by decide +kernel
theorem dX6_read_19 : decode cX6_read 19 = .ok (.iadd, 1) := by decide +kernel
theorem dX6_read_20 : decode cX6_read 20 = .ok (.putfield 45, 3) := by decide +kernel
theorem dX6_read_23 : decode cX6_read 23 = .ok (.return_, 1) := by decide +kernel
theorem dX6_read_24 : decode cX6_read 24 = .ok (.iload_n 1, 1) := by decide +kernel
theorem dX6_read_25 : decode cX6_read 25 = .ok (.lookupswitch 151 #[(32, 75), (38, 116), (40, 78), (41, 103), (60, 138), (61, 138), (62, 138), (124, 125)], 75) := by decide +kernel
theorem dX6_read_100 : decode cX6_read 100 = .ok (.goto 81, 3) := by decide +kernel
theorem dX6_read_103 : decode cX6_read 103 = .ok (.aload_n 0, 1) := by decide +kernel
theorem dX6_read_104 : decode cX6_read 104 = .ok (.aload_n 0, 1) := by decide +kernel
theorem dX6_read_105 : decode cX6_read 105 = .ok (.getfield 7, 3) := by decide +kernel
theorem dX6_read_108 : decode cX6_read 108 = .ok (.iconst 1, 1) := by decide +kernel
theorem dX6_read_109 : decode cX6_read 109 = .ok (.ishl, 1) := by decide +kernel
theorem dX6_read_110 : decode cX6_read 110 = .ok (.putfield 7, 3) := by decide +kernel
theorem dX6_read_113 : decode cX6_read 113 = .ok (.aload_n 0, 1) := by decide +kernel
theorem dX6_read_114 : decode cX6_read 114 = .ok (.aload_n 0, 1) := by decide +kernel
theorem dX6_read_115 : decode cX6_read 115 = .ok (.getfield 13, 3) := by decide +kernel
theorem dX6_read_118 : decode cX6_read 118 = .ok (.iconst 1, 1) := by decide +kernel
theorem dX6_read_119 : decode cX6_read 119 = .ok (.ishl, 1) := by decide +kernel
theorem dX6_read_120 : decode cX6_read 120 = .ok (.iconst 1, 1) := by decide +kernel
theorem dX6_read_121 : decode cX6_read 121 = .ok (.ior, 1) := by decide +kernel
theorem dX6_read_122 : decode cX6_read 122 = .ok (.putfield 13, 3) := by decide +kernel
theorem dX6_read_125 : decode cX6_read 125 = .ok (.goto 56, 3) := by decide +kernel
theorem dX6_read_128 : decode cX6_read 128 = .ok (.aload_n 0, 1) := by decide +kernel
theorem dX6_read_129 : decode cX6_read 129 = .ok (.aload_n 2, 1) := by decide +kernel
theorem dX6_read_130 : decode cX6_read 130 = .ok (.iload_n 3, 1) := by decide +kernel
theorem dX6_read_131 : decode cX6_read 131 = .ok (.invokevirtual 32, 3) := by decide +kernel
theorem dX6_read_134 : decode cX6_read 134 = .ok (.aload_n 0, 1) := by decide +kernel
theorem dX6_read_135 : decode cX6_read 135 = .ok (.invokevirtual 48, 3) := by decide +kernel
theorem dX6_read_138 : decode cX6_read 138 = .ok (.goto 43, 3) := by decide +kernel
theorem dX6_read_141 : decode cX6_read 141 = .ok (.aload_n 0, 1) := by decide +kernel
theorem dX6_read_142 : decode cX6_read 142 = .ok (.aload_n 2, 1) := by decide +kernel
theorem dX6_read_143 : decode cX6_read 143 = .ok (.iload_n 3, 1) := by decide +kernel
theorem dX6_read_144 : decode cX6_read 144 = .ok (.invokevirtual 32, 3) := by decide +kernel
theorem dX6_read_147 : decode cX6_read 147 = .ok (.goto 34, 3) := by decide +kernel
theorem dX6_read_150 : decode cX6_read 150 = .ok (.aload_n 0, 1) := by decide +kernel
theorem dX6_read_151 : decode cX6_read 151 = .ok (.aload_n 2, 1) := by decide +kernel
theorem dX6_read_152 : decode cX6_read 152 = .ok (.iload_n 3, 1) := by decide +kernel
theorem dX6_read_153 : decode cX6_read 153 = .ok (.invokevirtual 32, 3) := by decide +kernel
theorem dX6_read_156 : decode cX6_read 156 = .ok (.aload_n 0, 1) := by decide +kernel
theorem dX6_read_157 : decode cX6_read 157 = .ok (.invokevirtual 36, 3) := by decide +kernel
theorem dX6_read_160 : decode cX6_read 160 = .ok (.goto 21, 3) := by decide +kernel
theorem dX6_read_163 : decode cX6_read 163 = .ok (.aload_n 0, 1) := by decide +kernel
theorem dX6_read_164 : decode cX6_read 164 = .ok (.iload_n 1, 1) := by decide +kernel
theorem dX6_read_165 : decode cX6_read 165 = .ok (.putfield 51, 3) := by decide +kernel
theorem dX6_read_168 : decode cX6_read 168 = .ok (.aload_n 0, 1) := by decide +kernel
theorem dX6_read_169 : decode cX6_read 169 = .ok (.iconst 0, 1) := by decide +kernel
theorem dX6_read_170 : decode cX6_read 170 = .ok (.putfield 45, 3) := by decide +kernel
theorem dX6_read_173 : decode cX6_read 173 = .ok (.goto 8, 3) := by decide +kernel
theorem dX6_read_176 : decode cX6_read 176 = .ok (.aload_n 0, 1) := by decide +kernel
theorem dX6_read_177 : decode cX6_read 177 = .ok (.iload_n 1, 1) := by decide +kernel
theorem dX6_read_178 : decode cX6_read 178 = .ok (.putfield 16, 3) := by decide +kernel
theorem dX6_read_181 : decode cX6_read 181 = .ok (.return_, 1) := by decide +kernel
theorem dX6_endComparison_0 : decode cX6_endComparison 0 = .ok (.aload_n 0, 1) := by decide +kernel
theorem dX6_endComparison_1 : decode cX6_endComparison 1 = .ok (.getfield 16, 3) := by decide +kernel
theorem dX6_endComparison_4 : decode cX6_endComparison 4 = .ok (.ifCond .eq 25, 3) := by decide +kernel
theorem dX6_endComparison_7 : decode cX6_endComparison 7 = .ok (.aload_n 0, 1) := by decide +kernel
theorem dX6_endComparison_8 : decode cX6_endComparison 8 = .ok (.aload_n 0, 1) := by decide +kernel
theorem dX6_endComparison_9 : decode cX6_endComparison 9 = .ok (.aload_n 1, 1) := by decide +kernel
theorem dX6_endComparison_10 : decode cX6_endComparison 10 = .ok (.aload_n 0, 1) := by decide +kernel
theorem dX6_endComparison_11 : decode cX6_endComparison 11 = .ok (.getfield 16, 3) := by decide +kernel
theorem dX6_endComparison_14 : decode cX6_endComparison 14 = .ok (.iload_n 2, 1) := by decide +kernel
theorem dX6_endComparison_15 : decode cX6_endComparison 15 = .ok (.invokevirtual 54, 3) := by decide +kernel
theorem dX6_endComparison_18 : decode cX6_endComparison 18 = .ok (.invokevirtual 60, 3) := by decide +kernel
theorem dX6_endComparison_21 : decode cX6_endComparison 21 = .ok (.invokevirtual 63, 3) := by decide +kernel
theorem dX6_endComparison_24 : decode cX6_endComparison 24 = .ok (.aload_n 0, 1) := by decide +kernel
theorem dX6_endComparison_25 : decode cX6_endComparison 25 = .ok (.iconst 0, 1) := by decide +kernel
theorem dX6_endComparison_26 : decode cX6_endComparison 26 = .ok (.putfield 16, 3) := by decide +kernel
theorem dX6_endComparison_29 : decode cX6_endComparison 29 = .ok (.return_, 1) := by decide +kernel
theorem dX6_compares_0 : decode cX6_compares 0 = .ok (.aload_n 0, 1) := by decide +kernel
theorem dX6_compares_1 : decode cX6_compares 1 = .ok (.getfield 51, 3) := by decide +kernel
theorem dX6_compares_4 : decode cX6_compares 4 = .ok (.lookupswitch 56 #[(60, 42), (61, 28)], 28) := by decide +kernel
theorem dX6_compares_32 : decode cX6_compares 32 = .ok (.iload_n 1, 1) := by decide +kernel
theorem dX6_compares_33 : decode cX6_compares 33 = .ok (.aload_n 0, 1) := by decide +kernel
theorem dX6_compares_34 : decode cX6_compares 34 = .ok (.getfield 45, 3) := by decide +kernel
theorem dX6_compares_37 : decode cX6_compares 37 = .ok (.if_icmp .ne 7, 3) := by decide +kernel
theorem dX6_compares_40 : decode cX6_compares 40 = .ok (.iconst 1, 1) := by decide +kernel
theorem dX6_compares_41 : decode cX6_compares 41 = .ok (.goto 4, 3) := by decide +kernel
theorem dX6_compares_44 : decode cX6_compares 44 = .ok (.iconst 0, 1) := by decide +kernel
theorem dX6_compares_45 : decode cX6_compares 45 = .ok (.ireturn, 1) := by decide +kernel
theorem dX6_compares_46 : decode cX6_compares 46 = .ok (.iload_n 1, 1) := by decide +kernel
theorem dX6_compares_47 : decode cX6_compares 47 = .ok (.aload_n 0, 1) := by decide +kernel
theorem dX6_compares_48 : decode cX6_compares 48 = .ok (.getfield 45, 3) := by decide +kernel
theorem dX6_compares_51 : decode cX6_compares 51 = .ok (.if_icmp .ge 7, 3) := by decide +kernel
theorem dX6_compares_54 : decode cX6_compares 54 = .ok (.iconst 1, 1) := by decide +kernel
theorem dX6_compares_55 : decode cX6_compares 55 = .ok (.goto 4, 3) := by decide +kernel
theorem dX6_compares_58 : decode cX6_compares 58 = .ok (.iconst 0, 1) := by decide +kernel
theorem dX6_compares_59 : decode cX6_compares 59 = .ok (.ireturn, 1) := by decide +kernel
theorem dX6_compares_60 : decode cX6_compares 60 = .ok (.iload_n 1, 1) := by decide +kernel
theorem dX6_compares_61 : decode cX6_compares 61 = .ok (.aload_n 0, 1) := by decide +kernel
theorem dX6_compares_62 : decode cX6_compares 62 = .ok (.getfield 45, 3) := by decide +kernel
theorem dX6_compares_65 : decode cX6_compares 65 = .ok (.if_icmp .le 7, 3) := by decide +kernel
theorem dX6_compares_68 : decode cX6_compares 68 = .ok (.iconst 1, 1) := by decide +kernel
theorem dX6_compares_69 : decode cX6_compares 69 = .ok (.goto 4, 3) := by decide +kernel
theorem dX6_compares_72 : decode cX6_compares 72 = .ok (.iconst 0, 1) := by decide +kernel
theorem dX6_compares_73 : decode cX6_compares 73 = .ok (.ireturn, 1) := by decide +kernel
theorem dX6_addUnit_0 : decode cX6_addUnit 0 = .ok (.iload_n 1, 1) := by decide +kernel
theorem dX6_addUnit_1 : decode cX6_addUnit 1 = .ok (.ifCond .ne 14, 3) := by decide +kernel
theorem dX6_addUnit_4 : decode cX6_addUnit 4 = .ok (.aload_n 0, 1) := by decide +kernel
theorem dX6_addUnit_5 : decode cX6_addUnit 5 = .ok (.aload_n 0, 1) := by decide +kernel
theorem dX6_addUnit_6 : decode cX6_addUnit 6 = .ok (.getfield 13, 3) := by decide +kernel
theorem dX6_addUnit_9 : decode cX6_addUnit 9 = .ok (.bipush (-2), 2) := by decide +kernel
theorem dX6_addUnit_11 : decode cX6_addUnit 11 = .ok (.iand, 1) := by decide +kernel
theorem dX6_addUnit_12 : decode cX6_addUnit 12 = .ok (.putfield 13, 3) := by decide +kernel
theorem dX6_addUnit_15 : decode cX6_addUnit 15 = .ok (.return_, 1) := by decide +kernel
theorem dX6_endPart_0 : decode cX6_endPart 0 = .ok (.aload_n 0, 1) := by decide +kernel
theorem dX6_endPart_1 : decode cX6_endPart 1 = .ok (.aload_n 0, 1) := by decide +kernel
theorem dX6_endPart_2 : decode cX6_endPart 2 = .ok (.getfield 7, 3) := by decide +kernel
theorem dX6_endPart_5 : decode cX6_endPart 5 = .ok (.aload_n 0, 1) := by decide +kernel
theorem dX6_endPart_6 : decode cX6_endPart 6 = .ok (.getfield 13, 3) := by decide +kernel
theorem dX6_endPart_9 : decode cX6_endPart 9 = .ok (.iconst 1, 1) := by decide +kernel
theorem dX6_endPart_10 : decode cX6_endPart 10 = .ok (.iand, 1) := by decide +kernel
theorem dX6_endPart_11 : decode cX6_endPart 11 = .ok (.ior, 1) := by decide +kernel
theorem dX6_endPart_12 : decode cX6_endPart 12 = .ok (.putfield 7, 3) := by decide +kernel
theorem dX6_endPart_15 : decode cX6_endPart 15 = .ok (.aload_n 0, 1) := by decide +kernel
theorem dX6_endPart_16 : decode cX6_endPart 16 = .ok (.aload_n 0, 1) := by decide +kernel
theorem dX6_endPart_17 : decode cX6_endPart 17 = .ok (.getfield 13, 3) := by decide +kernel
theorem dX6_endPart_20 : decode cX6_endPart 20 = .ok (.iconst 1, 1) := by decide +kernel
theorem dX6_endPart_21 : decode cX6_endPart 21 = .ok (.ior, 1) := by decide +kernel
theorem dX6_endPart_22 : decode cX6_endPart 22 = .ok (.putfield 13, 3) := by decide +kernel
theorem dX6_endPart_25 : decode cX6_endPart 25 = .ok (.return_, 1) := by decide +kernel
theorem dX6_endBracket_0 : decode cX6_endBracket 0 = .ok (.aload_n 0, 1) := by decide +kernel
theorem dX6_endBracket_1 : decode cX6_endBracket 1 = .ok (.invokevirtual 36, 3) := by decide +kernel
theorem dX6_endBracket_4 : decode cX6_endBracket 4 = .ok (.aload_n 0, 1) := by decide +kernel
theorem dX6_endBracket_5 : decode cX6_endBracket 5 = .ok (.getfield 7, 3) := by decide +kernel
theorem dX6_endBracket_8 : decode cX6_endBracket 8 = .ok (.iconst 1, 1) := by decide +kernel
theorem dX6_endBracket_9 : decode cX6_endBracket 9 = .ok (.iand, 1) := by decide +kernel
theorem dX6_endBracket_10 : decode cX6_endBracket 10 = .ok (.iconst 1, 1) := by decide +kernel
theorem dX6_endBracket_11 : decode cX6_endBracket 11 = .ok (.if_icmp .ne 7, 3) := by decide +kernel
theorem dX6_endBracket_14 : decode cX6_endBracket 14 = .ok (.iconst 1, 1) := by decide +kernel
theorem dX6_endBracket_15 : decode cX6_endBracket 15 = .ok (.goto 4, 3) := by decide +kernel
theorem dX6_endBracket_18 : decode cX6_endBracket 18 = .ok (.iconst 0, 1) := by decide +kernel
theorem dX6_endBracket_19 : decode cX6_endBracket 19 = .ok (.istore_n 1, 1) := by decide +kernel
theorem dX6_endBracket_20 : decode cX6_endBracket 20 = .ok (.aload_n 0, 1) := by decide +kernel
theorem dX6_endBracket_21 : decode cX6_endBracket 21 = .ok (.aload_n 0, 1) := by decide +kernel
theorem dX6_endBracket_22 : decode cX6_endBracket 22 = .ok (.getfield 7, 3) := by decide +kernel
theorem dX6_endBracket_25 : decode cX6_endBracket 25 = .ok (.iconst 1, 1) := by decide +kernel
theorem dX6_endBracket_26 : decode cX6_endBracket 26 = .ok (.iushr, 1) := by decide +kernel
theorem dX6_endBracket_27 : decode cX6_endBracket 27 = .ok (.putfield 7, 3) := by decide +kernel
theorem dX6_endBracket_30 : decode cX6_endBracket 30 = .ok (.aload_n 0, 1) := by decide +kernel
theorem dX6_endBracket_31 : decode cX6_endBracket 31 = .ok (.aload_n 0, 1) := by decide +kernel
theorem dX6_endBracket_32 : decode cX6_endBracket 32 = .ok (.getfield 13, 3) := by decide +kernel
theorem dX6_endBracket_35 : decode cX6_endBracket 35 = .ok (.iconst 1, 1) := by decide +kernel
theorem dX6_endBracket_36 : decode cX6_endBracket 36 = .ok (.iushr, 1) := by decide +kernel
theorem dX6_endBracket_37 : decode cX6_endBracket 37 = .ok (.putfield 13, 3) := by decide +kernel
theorem dX6_endBracket_40 : decode cX6_endBracket 40 = .ok (.aload_n 0, 1) := by decide +kernel
theorem dX6_endBracket_41 : decode cX6_endBracket 41 = .ok (.iload_n 1, 1) := by decide +kernel
theorem dX6_endBracket_42 : decode cX6_endBracket 42 = .ok (.invokevirtual 63, 3) := by decide +kernel
theorem dX6_endBracket_45 : decode cX6_endBracket 45 = .ok (.return_, 1) := by decide +kernel
theorem dX7_init_0 : decode cX7_init 0 = .ok (.aload_n 0, 1) := by decide +kernel
theorem dX7_init_1 : decode cX7_init 1 = .ok (.invokespecial 3, 3) := by decide +kernel
theorem dX7_init_4 : decode cX7_init 4 = .ok (.aload_n 0, 1) := by decide +kernel
theorem dX7_init_5 : decode cX7_init 5 = .ok (.bipush 6, 2) := by decide +kernel
theorem dX7_init_7 : decode cX7_init 7 = .ok (.newarray .int, 2) := by decide +kernel
theorem dX7_init_9 : decode cX7_init 9 = .ok (.putfield 9, 3) := by decide +kernel
theorem dX7_init_12 : decode cX7_init 12 = .ok (.aload_n 0, 1) := by decide +kernel
theorem dX7_init_13 : decode cX7_init 13 = .ok (.iload_n 1, 1) := by decide +kernel
theorem dX7_init_14 : decode cX7_init 14 = .ok (.bipush 6, 2) := by decide +kernel
theorem dX7_init_16 : decode cX7_init 16 = .ok (.invokestatic 15, 3) := by decide +kernel
theorem dX7_init_19 : decode cX7_init 19 = .ok (.putfield 21, 3) := by decide +kernel
theorem dX7_init_22 : decode cX7_init 22 = .ok (.aload_n 0, 1) := by decide +kernel
theorem dX7_init_23 : decode cX7_init 23 = .ok (.iload_n 2, 1) := by decide +kernel
theorem dX7_init_24 : decode cX7_init 24 = .ok (.putfield 25, 3) := by decide +kernel
theorem dX7_init_27 : decode cX7_init 27 = .ok (.return_, 1) := by decide +kernel
theorem dX7_beginDay_0 : decode cX7_beginDay 0 = .ok (.aload_n 0, 1) := by decide +kernel
theorem dX7_beginDay_1 : decode cX7_beginDay 1 = .ok (.aload_n 0, 1) := by decide +kernel
theorem dX7_beginDay_2 : decode cX7_beginDay 2 = .ok (.getfield 25, 3) := by decide +kernel
theorem dX7_beginDay_5 : decode cX7_beginDay 5 = .ok (.putfield 28, 3) := by decide +kernel
theorem dX7_beginDay_8 : decode cX7_beginDay 8 = .ok (.iconst 0, 1) := by decide +kernel
theorem dX7_beginDay_9 : decode cX7_beginDay 9 = .ok (.istore_n 1, 1) := by decide +kernel
theorem dX7_beginDay_10 : decode cX7_beginDay 10 = .ok (.iload_n 1, 1) := by decide +kernel
theorem dX7_beginDay_11 : decode cX7_beginDay 11 = .ok (.bipush 6, 2) := by decide +kernel
theorem dX7_beginDay_13 : decode cX7_beginDay 13 = .ok (.if_icmp .ge 16, 3) := by decide +kernel
theorem dX7_beginDay_16 : decode cX7_beginDay 16 = .ok (.aload_n 0, 1) := by decide +kernel
theorem dX7_beginDay_17 : decode cX7_beginDay 17 = .ok (.getfield 9, 3) := by decide +kernel
theorem dX7_beginDay_20 : decode cX7_beginDay 20 = .ok (.iload_n 1, 1) := by decide +kernel
theorem dX7_beginDay_21 : decode cX7_beginDay 21 = .ok (.iconst 0, 1) := by decide +kernel
theorem dX7_beginDay_22 : decode cX7_beginDay 22 = .ok (.iastore, 1) := by decide +kernel
theorem dX7_beginDay_23 : decode cX7_beginDay 23 = .ok (.iinc 1 1, 3) := by decide +kernel
theorem dX7_beginDay_26 : decode cX7_beginDay 26 = .ok (.goto (-16), 3) := by decide +kernel
theorem dX7_beginDay_29 : decode cX7_beginDay 29 = .ok (.return_, 1) := by decide +kernel
theorem dX7_gut_0 : decode cX7_gut 0 = .ok (.iconst 0, 1) := by decide +kernel
theorem dX7_gut_1 : decode cX7_gut 1 = .ok (.istore_n 3, 1) := by decide +kernel
theorem dX7_gut_2 : decode cX7_gut 2 = .ok (.iload_n 3, 1) := by decide +kernel
theorem dX7_gut_3 : decode cX7_gut 3 = .ok (.aload_n 1, 1) := by decide +kernel
theorem dX7_gut_4 : decode cX7_gut 4 = .ok (.getfield 31, 3) := by decide +kernel
theorem dX7_gut_7 : decode cX7_gut 7 = .ok (.if_icmp .ge 63, 3) := by decide +kernel
theorem dX7_gut_10 : decode cX7_gut 10 = .ok (.aload_n 0, 1) := by decide +kernel
theorem dX7_gut_11 : decode cX7_gut 11 = .ok (.invokevirtual 36, 3) := by decide +kernel
theorem dX7_gut_14 : decode cX7_gut 14 = .ok (.istore 4, 2) := by decide +kernel
theorem dX7_gut_16 : decode cX7_gut 16 = .ok (.aload_n 0, 1) := by decide +kernel
theorem dX7_gut_17 : decode cX7_gut 17 = .ok (.getfield 9, 3) := by decide +kernel
theorem dX7_gut_20 : decode cX7_gut 20 = .ok (.iload 4, 2) := by decide +kernel
theorem dX7_gut_22 : decode cX7_gut 22 = .ok (.iaload, 1) := by decide +kernel
theorem dX7_gut_23 : decode cX7_gut 23 = .ok (.aload_n 1, 1) := by decide +kernel
theorem dX7_gut_24 : decode cX7_gut 24 = .ok (.getfield 40, 3) := by decide +kernel
theorem dX7_gut_27 : decode cX7_gut 27 = .ok (.invokestatic 43, 3) := by decide +kernel
theorem dX7_gut_30 : decode cX7_gut 30 = .ok (.istore 5, 2) := by decide +kernel
theorem dX7_gut_32 : decode cX7_gut 32 = .ok (.iload 5, 2) := by decide +kernel
theorem dX7_gut_34 : decode cX7_gut 34 = .ok (.aload_n 1, 1) := by decide +kernel
theorem dX7_gut_35 : decode cX7_gut 35 = .ok (.getfield 40, 3) := by decide +kernel
theorem dX7_gut_38 : decode cX7_gut 38 = .ok (.isub, 1) := by decide +kernel
theorem dX7_gut_39 : decode cX7_gut 39 = .ok (.iload_n 2, 1) := by decide +kernel
theorem dX7_gut_40 : decode cX7_gut 40 = .ok (.if_icmp .le 6, 3) := by decide +kernel
theorem dX7_gut_43 : decode cX7_gut 43 = .ok (.goto 27, 3) := by decide +kernel
theorem dX7_gut_46 : decode cX7_gut 46 = .ok (.aload_n 0, 1) := by decide +kernel
theorem dX7_gut_47 : decode cX7_gut 47 = .ok (.getfield 9, 3) := by decide +kernel
theorem dX7_gut_50 : decode cX7_gut 50 = .ok (.iload 4, 2) := by decide +kernel
theorem dX7_gut_52 : decode cX7_gut 52 = .ok (.iload 5, 2) := by decide +kernel
theorem dX7_gut_54 : decode cX7_gut 54 = .ok (.bipush 12, 2) := by decide +kernel
theorem dX7_gut_56 : decode cX7_gut 56 = .ok (.iadd, 1) := by decide +kernel
theorem dX7_gut_57 : decode cX7_gut 57 = .ok (.iastore, 1) := by decide +kernel
theorem dX7_gut_58 : decode cX7_gut 58 = .ok (.aload_n 1, 1) := by decide +kernel
theorem dX7_gut_59 : decode cX7_gut 59 = .ok (.iload 5, 2) := by decide +kernel
theorem dX7_gut_61 : decode cX7_gut 61 = .ok (.invokevirtual 46, 3) := by decide +kernel
theorem dX7_gut_64 : decode cX7_gut 64 = .ok (.iinc 3 1, 3) := by decide +kernel
theorem dX7_gut_67 : decode cX7_gut 67 = .ok (.goto (-65), 3) := by decide +kernel
theorem dX7_gut_70 : decode cX7_gut 70 = .ok (.aload_n 1, 1) := by decide +kernel
theorem dX7_gut_71 : decode cX7_gut 71 = .ok (.aload_n 1, 1) := by decide +kernel
theorem dX7_gut_72 : decode cX7_gut 72 = .ok (.getfield 31, 3) := by decide +kernel
theorem dX7_gut_75 : decode cX7_gut 75 = .ok (.aload_n 1, 1) := by decide +kernel
theorem dX7_gut_76 : decode cX7_gut 76 = .ok (.getfield 50, 3) := by decide +kernel
theorem dX7_gut_79 : decode cX7_gut 79 = .ok (.isub, 1) := by decide +kernel
theorem dX7_gut_80 : decode cX7_gut 80 = .ok (.putfield 53, 3) := by decide +kernel
theorem dX7_gut_83 : decode cX7_gut 83 = .ok (.return_, 1) := by decide +kernel
theorem dX7_firstFreeCrew_0 : decode cX7_firstFreeCrew 0 = .ok (.iconst 0, 1) := by decide +kernel
theorem dX7_firstFreeCrew_1 : decode cX7_firstFreeCrew 1 = .ok (.istore_n 1, 1) := by decide +kernel
theorem dX7_firstFreeCrew_2 : decode cX7_firstFreeCrew 2 = .ok (.iconst 1, 1) := by decide +kernel
theorem dX7_firstFreeCrew_3 : decode cX7_firstFreeCrew 3 = .ok (.istore_n 2, 1) := by decide +kernel
theorem dX7_firstFreeCrew_4 : decode cX7_firstFreeCrew 4 = .ok (.iload_n 2, 1) := by decide +kernel
theorem dX7_firstFreeCrew_5 : decode cX7_firstFreeCrew 5 = .ok (.aload_n 0, 1) := by decide +kernel
theorem dX7_firstFreeCrew_6 : decode cX7_firstFreeCrew 6 = .ok (.getfield 21, 3) := by decide +kernel
theorem dX7_firstFreeCrew_9 : decode cX7_firstFreeCrew 9 = .ok (.if_icmp .ge 26, 3) := by decide +kernel
theorem dX7_firstFreeCrew_12 : decode cX7_firstFreeCrew 12 = .ok (.aload_n 0, 1) := by decide +kernel
theorem dX7_firstFreeCrew_13 : decode cX7_firstFreeCrew 13 = .ok (.getfield 9, 3) := by decide +kernel
theorem dX7_firstFreeCrew_16 : decode cX7_firstFreeCrew 16 = .ok (.iload_n 2, 1) := by decide +kernel
theorem dX7_firstFreeCrew_17 : decode cX7_firstFreeCrew 17 = .ok (.iaload, 1) := by decide +kernel
theorem dX7_firstFreeCrew_18 : decode cX7_firstFreeCrew 18 = .ok (.aload_n 0, 1) := by decide +kernel
theorem dX7_firstFreeCrew_19 : decode cX7_firstFreeCrew 19 = .ok (.getfield 9, 3) := by decide +kernel
theorem dX7_firstFreeCrew_22 : decode cX7_firstFreeCrew 22 = .ok (.iload_n 1, 1) := by decide +kernel
theorem dX7_firstFreeCrew_23 : decode cX7_firstFreeCrew 23 = .ok (.iaload, 1) := by decide +kernel
theorem dX7_firstFreeCrew_24 : decode cX7_firstFreeCrew 24 = .ok (.if_icmp .ge 5, 3) := by decide +kernel
theorem dX7_firstFreeCrew_27 : decode cX7_firstFreeCrew 27 = .ok (.iload_n 2, 1) := by decide +kernel
theorem dX7_firstFreeCrew_28 : decode cX7_firstFreeCrew 28 = .ok (.istore_n 1, 1) := by decide +kernel
theorem dX7_firstFreeCrew_29 : decode cX7_firstFreeCrew 29 = .ok (.iinc 2 1, 3) := by decide +kernel
theorem dX7_firstFreeCrew_32 : decode cX7_firstFreeCrew 32 = .ok (.goto (-28), 3) := by decide +kernel
theorem dX7_firstFreeCrew_35 : decode cX7_firstFreeCrew 35 = .ok (.iload_n 1, 1) := by decide +kernel
theorem dX7_firstFreeCrew_36 : decode cX7_firstFreeCrew 36 = .ok (.ireturn, 1) := by decide +kernel
end
section
/-! ===== the tables' good words; a heap over tags; its picture as a world ===== -/
def TB : List Cond := lw_tbl.filter goodWord
theorem TB_in {w : Cond} (h : w ∈ TB) : w ∈ lw_tbl := (List.mem_filter.mp h).1
theorem TB_good {w : Cond} (h : w ∈ TB) : goodWord w = true := (List.mem_filter.mp h).2
/-- live tags, int fields (field, tag), reference fields, rows of ints and booleans, rows of references -/
abbrev HS : Type := List Nat × (Nat → Nat → Int32) × (Nat → Nat → Option Nat) × (Nat → Nat → Int32) × (Nat → Nat → Option Nat)
def sL (S : HS) : List Nat := S.1
def sI (S : HS) : Nat → Nat → Int32 := S.2.1
def sR (S : HS) : Nat → Nat → Option Nat := S.2.2.1
def sA (S : HS) : Nat → Nat → Int32 := S.2.2.2.1
def sQ (S : HS) : Nat → Nat → Option Nat := S.2.2.2.2
def up2 {α : Type} (f : Nat → Nat → α) (i a : Nat) (v : α) : Nat → Nat → α := fun j b => if j = i ∧ b = a then v else f j b
def setI (S : HS) (f a : Nat) (v : Int32) : HS := (sL S, up2 (sI S) f a v, sR S, sA S, sQ S)
def setR (S : HS) (f a : Nat) (v : Option Nat) : HS := (sL S, sI S, up2 (sR S) f a v, sA S, sQ S)
def setA (S : HS) (a : Nat) (r : Nat → Int32) : HS := (sL S, sI S, sR S, va_up (sA S) a r, sQ S)
def setQ (S : HS) (a : Nat) (r : Nat → Option Nat) : HS := (sL S, sI S, sR S, sA S, va_up (sQ S) a r)
def newO (S : HS) (a : Nat) : HS := (sL S ++ [a], (fun f => va_up (sI S f) a 0), (fun f => va_up (sR S f) a none), sA S, sQ S)
def newA (S : HS) (a : Nat) : HS := (sL S ++ [a], sI S, sR S, va_up (sA S) a (fun _ => 0), va_up (sQ S) a (fun _ => none))
theorem sL_setI (S : HS) (f a : Nat) (v : Int32) : sL (setI S f a v) = sL S := rfl
theorem sI_setI (S : HS) (f a : Nat) (v : Int32) : sI (setI S f a v) = up2 (sI S) f a v := rfl
theorem sR_setI (S : HS) (f a : Nat) (v : Int32) : sR (setI S f a v) = sR S := rfl
theorem sA_setI (S : HS) (f a : Nat) (v : Int32) : sA (setI S f a v) = sA S := rfl
theorem sQ_setI (S : HS) (f a : Nat) (v : Int32) : sQ (setI S f a v) = sQ S := rfl
theorem sL_setR (S : HS) (f a : Nat) (v : Option Nat) : sL (setR S f a v) = sL S := rfl
theorem sI_setR (S : HS) (f a : Nat) (v : Option Nat) : sI (setR S f a v) = sI S := rfl
theorem sR_setR (S : HS) (f a : Nat) (v : Option Nat) : sR (setR S f a v) = up2 (sR S) f a v := rfl
theorem sA_setR (S : HS) (f a : Nat) (v : Option Nat) : sA (setR S f a v) = sA S := rfl
theorem sQ_setR (S : HS) (f a : Nat) (v : Option Nat) : sQ (setR S f a v) = sQ S := rfl
theorem sL_setA (S : HS) (a : Nat) (r : Nat → Int32) : sL (setA S a r) = sL S := rfl
theorem sI_setA (S : HS) (a : Nat) (r : Nat → Int32) : sI (setA S a r) = sI S := rfl
theorem sR_setA (S : HS) (a : Nat) (r : Nat → Int32) : sR (setA S a r) = sR S := rfl
theorem sA_setA (S : HS) (a : Nat) (r : Nat → Int32) : sA (setA S a r) = va_up (sA S) a r := rfl
theorem sQ_setA (S : HS) (a : Nat) (r : Nat → Int32) : sQ (setA S a r) = sQ S := rfl
theorem sL_setQ (S : HS) (a : Nat) (r : Nat → Option Nat) : sL (setQ S a r) = sL S := rfl
theorem sI_setQ (S : HS) (a : Nat) (r : Nat → Option Nat) : sI (setQ S a r) = sI S := rfl
theorem sR_setQ (S : HS) (a : Nat) (r : Nat → Option Nat) : sR (setQ S a r) = sR S := rfl
theorem sA_setQ (S : HS) (a : Nat) (r : Nat → Option Nat) : sA (setQ S a r) = sA S := rfl
theorem sQ_setQ (S : HS) (a : Nat) (r : Nat → Option Nat) : sQ (setQ S a r) = va_up (sQ S) a r := rfl
theorem sL_newO (S : HS) (a : Nat) : sL (newO S a) = sL S ++ [a] := rfl
theorem sI_newO (S : HS) (a f : Nat) : sI (newO S a) f = va_up (sI S f) a 0 := rfl
theorem sR_newO (S : HS) (a f : Nat) : sR (newO S a) f = va_up (sR S f) a none := rfl
theorem sA_newO (S : HS) (a : Nat) : sA (newO S a) = sA S := rfl
theorem sQ_newO (S : HS) (a : Nat) : sQ (newO S a) = sQ S := rfl
theorem sL_newA (S : HS) (a : Nat) : sL (newA S a) = sL S ++ [a] := rfl
theorem sI_newA (S : HS) (a : Nat) : sI (newA S a) = sI S := rfl
theorem sR_newA (S : HS) (a : Nat) : sR (newA S a) = sR S := rfl
theorem sA_newA (S : HS) (a : Nat) : sA (newA S a) = va_up (sA S) a (fun _ => 0) := rfl
theorem sQ_newA (S : HS) (a : Nat) : sQ (newA S a) = va_up (sQ S) a (fun _ => none) := rfl
/-- which fields of which kind are references -/
def fT : List (List Bool) := [[true, true, false, false, false, false, false, false], [false, false, false], [false, false, false, false, false, false, false, false, false, false, false], [true, true, true, false], [true, true, true, false, false], [true, false], [false, false, false, false, false], [true, false, false, false, false], [true, true, true, true, true, true, true, true, true, false, false, false, false, false, false, false, false, false], [true, true, true, true, true, true, true, true, true, true, true, true, true, true, true, true, true, true, true, true, true, true, true, true, false, false, false, false, false, false, false, false, false, false, false, true, true, true, true, true, true, true, true, true, true, true, true, false, false, false, false, false, true]]
def nF (ci : Nat) : Nat := (fT.getD ci []).length
def fR (ci k : Nat) : Bool := (fT.getD ci []).getD k false
def fid (ci k : Nat) : Nat := ci * 64 + k
/-- THE TAGS. The system's: 0 the object; 1 sea, 2 crans, 3 isOpen, 4 change; 5 boats, 6 yards, 7 lots; 8 tape, 9 its bytes; 10 brands; 11 parting, 12 portions, 13 measures, 14 rests; 15 grammar, 16 verdict; boat i: 100 + 3 i, its parts, what its hands got; yard i: 200 + 2 i, freeAt; text of brand i: 300 + 2 i, its bytes; lot i: 1000 + i. The reference's: 2000 the object, 2001 + j the array of its field j -/
def tkM : List Nat := [10, 11, 10, 10, 10, 10, 10, 10, 10, 10, 10, 10, 10, 10, 10, 10, 10, 10, 10, 10, 10, 10, 10, 10, 0, 0, 0, 0, 0, 0, 0, 0, 0, 0, 0, 10, 10, 11, 10, 10, 10, 11, 10, 10, 10, 10, 11, 0, 0, 0, 0, 0, 11]
def tnM : List Nat := [36, 36, 12, 12, 12, 12, 12, 12, 96, 96, 4, 4, 4, 400, 400, 400, 400, 400, 400, 400, 400, 400, 400, 400, 0, 0, 0, 0, 0, 0, 0, 0, 0, 0, 0, 12, 12, 12, 12, 36, 4, 12, 6, 220, 1680, 420, 4, 0, 0, 0, 0, 0, 420]
def tk0 : List Nat := [8, 4, 10, 11, 10, 12, 15, 13, 5, 10, 14, 3, 10, 10, 10, 1, 6]
def tn0 : List Nat := [0, 0, 36, 36, 36, 12, 4, 400, 0, 200, 4, 0, 12, 12, 12, 0, 0]
def tk (t : Nat) : Nat := if t < 17 then tk0.getD t 0 else if t < 136 then (if t % 3 = 1 then 0 else 10) else if t < 208 then (if t % 2 = 0 then 7 else 10) else if t < 308 then (if t % 2 = 0 then 5 else 10) else if t < 2000 then 2 else if t = 2000 then 9 else tkM.getD (t - 2001) 10
def tn (t : Nat) : Nat := if t < 17 then tn0.getD t 0 else if t < 136 then 8 else if t < 208 then 6 else if t < 308 then 200 else tnM.getD (t - 2001) 0
def rn (ρ : Nat → Nat) (v : Value) : Value := match v with
  | .ref a => .ref (ρ a)
  | v => v
theorem rn_rf (ρ : Nat → Nat) (r : Option Nat) : rn ρ (va_rf r) = va_rf (r.map ρ) := by cases r <;> rfl
theorem rn_cat (ρ : Nat → Nat) (v : Value) : (rn ρ v).category = v.category := by cases v <;> rfl
def fv (ρ : Nat → Nat) (S : HS) (ci a k : Nat) : Value := if fR ci k = true then va_rf ((sR S (fid ci k) a).map ρ) else .int (sI S (fid ci k) a)
def fvs (ρ : Nat → Nat) (S : HS) (ci a : Nat) : List Value := (List.range (nF ci)).map (fv ρ S ci a)
def pf (cy : Nat → ClassId) (ρ : Nat → Nat) (S : HS) (a : Nat) : va_E := if tk a < 10 then .inr (tk a, fvs ρ S (tk a) a) else if tk a < 12 then .inl (cy (tk a), tn a, .inl (sA S a)) else .inl (cy (tk a), tn a, .inr (.inr (.inr (.inr (fun i => (sQ S a i).map ρ)))))
def pool (cy : Nat → ClassId) (ρ : Nat → Nat) (S : HS) : va_W := (sL S).map (fun t => (ρ t, pf cy ρ S t))
theorem fvs_get {ρ : Nat → Nat} {S : HS} {ci a k : Nat} (hk : k < nF ci) : (fvs ρ S ci a)[k]? = some (fv ρ S ci a k) := by
  simp [fvs, hk]
theorem fvs_len (ρ : Nat → Nat) (S : HS) (ci a : Nat) : (fvs ρ S ci a).length = nF ci := by simp [fvs]
theorem pool_at {cy : Nat → ClassId} {ρ : Nat → Nat} {S : HS} {a k : Nat} (h : (sL S)[k]? = some a) : (pool cy ρ S)[k]? = some (ρ a, pf cy ρ S a) := by
  simp [pool, h]
theorem pool_inj {A : Nat → Prop} {cy : Nat → ClassId} {ρ : Nat → Nat} {S : HS} (hD : va_D A (pool cy ρ S)) {a a' k k' : Nat} (h : (sL S)[k]? = some a) (h' : (sL S)[k']? = some a') (e : ρ a = ρ a') : k = k' :=
  hD.1 k k' _ _ (pool_at h) (pool_at h') e
theorem pool_set {A : Nat → Prop} {cy : Nat → ClassId} {ρ : Nat → Nat} {S S' : HS} {a k : Nat} {e : va_E} (hD : va_D A (pool cy ρ S)) (h : (sL S)[k]? = some a) (hL : sL S' = sL S) (hp : pf cy ρ S' a = e) (hp2 : ∀ t, t ≠ a → pf cy ρ S' t = pf cy ρ S t) : (pool cy ρ S).set k (ρ a, e) = pool cy ρ S' := by
  apply List.ext_getElem?
  intro j
  by_cases hj : j = k
  · subst hj
    have hl : j < (pool cy ρ S).length := by
      have := (List.getElem?_eq_some_iff.mp h).1
      simpa [pool] using this
    rw [List.getElem?_set_self hl, pool_at (by rw [hL]; exact h), hp]
  · rw [List.getElem?_set_ne (Ne.symm hj)]
    cases hb : (sL S)[j]? with
    | none =>
      have h1 : (sL S).length ≤ j := by simpa using hb
      rw [List.getElem?_eq_none (by simpa [pool] using h1), List.getElem?_eq_none (by simpa [pool, hL] using h1)]
    | some t =>
      have ht : t ≠ a := fun q => hj (pool_inj hD hb h (by rw [q]))
      rw [pool_at hb, pool_at (by rw [hL]; exact hb), hp2 t ht]
theorem pool_push {cy : Nat → ClassId} {ρ ρ' : Nat → Nat} {S S' : HS} {a q : Nat} {e : va_E} (hL : sL S' = sL S ++ [a]) (h0 : ρ' a = q) (hp : pf cy ρ' S' a = e) (hp2 : ∀ t ∈ sL S, ρ' t = ρ t ∧ pf cy ρ' S' t = pf cy ρ S t) : pool cy ρ S ++ [(q, e)] = pool cy ρ' S' := by
  unfold pool
  rw [hL, List.map_append, List.map_cons, List.map_nil, h0, hp]
  congr 1
  apply List.map_congr_left
  intro t ht
  rw [(hp2 t ht).1, (hp2 t ht).2]
theorem fid_ne {ci j k : Nat} (h : j ≠ k) : fid ci j ≠ fid ci k := by unfold fid; omega
theorem fvs_other {ρ ρ' : Nat → Nat} {S S' : HS} {ci b : Nat} (hI : ∀ f, sI S' f b = sI S f b) (hR : ∀ f, (sR S' f b).map ρ' = (sR S f b).map ρ) : fvs ρ' S' ci b = fvs ρ S ci b := by
  unfold fvs
  apply List.map_congr_left
  intro j _
  simp only [fv, hI, hR]
theorem pf_other {cy : Nat → ClassId} {ρ ρ' : Nat → Nat} {S S' : HS} {b : Nat} (hI : ∀ f, sI S' f b = sI S f b) (hR : ∀ f, (sR S' f b).map ρ' = (sR S f b).map ρ) (hA : sA S' b = sA S b) (hQ : ∀ i, (sQ S' b i).map ρ' = (sQ S b i).map ρ) : pf cy ρ' S' b = pf cy ρ S b := by
  unfold pf
  rw [fvs_other hI hR, hA, show (fun i => (sQ S' b i).map ρ') = (fun i => (sQ S b i).map ρ) from funext hQ]
theorem pf_setI {cy : Nat → ClassId} {ρ : Nat → Nat} {S : HS} {a ci k : Nat} {v : Int32} (hK : tk a = ci) (hc : ci < 10) (hk : k < nF ci) (hr : fR ci k = false) : pf cy ρ (setI S (fid ci k) a v) a = .inr (ci, (fvs ρ S ci a).set k (.int v)) := by
  have e : fvs ρ (setI S (fid ci k) a v) ci a = (fvs ρ S ci a).set k (.int v) := by
    apply List.ext_getElem?
    intro j
    by_cases hj : j = k
    · subst hj
      rw [List.getElem?_set_self (by rw [fvs_len]; exact hk), fvs_get hk]
      simp [fv, hr, sI_setI, up2]
    · rw [List.getElem?_set_ne (Ne.symm hj)]
      by_cases hjl : j < nF ci
      · rw [fvs_get hjl, fvs_get hjl]
        simp [fv, sI_setI, sR_setI, up2, fid_ne hj]
      · rw [List.getElem?_eq_none (by rw [fvs_len]; omega), List.getElem?_eq_none (by rw [fvs_len]; omega)]
  simp [pf, hK, hc, e]
theorem pf_setI2 {cy : Nat → ClassId} {ρ : Nat → Nat} {S : HS} {f a : Nat} {v : Int32} (t : Nat) (h : t ≠ a) : pf cy ρ (setI S f a v) t = pf cy ρ S t := pf_other (fun f' => by simp [sI_setI, up2, h]) (fun _ => rfl) rfl (fun _ => rfl)
theorem pf_setR {cy : Nat → ClassId} {ρ : Nat → Nat} {S : HS} {a ci k : Nat} {v : Option Nat} (hK : tk a = ci) (hc : ci < 10) (hk : k < nF ci) (hr : fR ci k = true) : pf cy ρ (setR S (fid ci k) a v) a = .inr (ci, (fvs ρ S ci a).set k (va_rf (v.map ρ))) := by
  have e : fvs ρ (setR S (fid ci k) a v) ci a = (fvs ρ S ci a).set k (va_rf (v.map ρ)) := by
    apply List.ext_getElem?
    intro j
    by_cases hj : j = k
    · subst hj
      rw [List.getElem?_set_self (by rw [fvs_len]; exact hk), fvs_get hk]
      simp [fv, hr, sR_setR, up2]
    · rw [List.getElem?_set_ne (Ne.symm hj)]
      by_cases hjl : j < nF ci
      · rw [fvs_get hjl, fvs_get hjl]
        simp [fv, sI_setR, sR_setR, up2, fid_ne hj]
      · rw [List.getElem?_eq_none (by rw [fvs_len]; omega), List.getElem?_eq_none (by rw [fvs_len]; omega)]
  simp [pf, hK, hc, e]
theorem pf_setR2 {cy : Nat → ClassId} {ρ : Nat → Nat} {S : HS} {f a : Nat} {v : Option Nat} (t : Nat) (h : t ≠ a) : pf cy ρ (setR S f a v) t = pf cy ρ S t := pf_other (fun _ => rfl) (fun f' => by simp [sR_setR, up2, h]) rfl (fun _ => rfl)
theorem pf_setA {cy : Nat → ClassId} {ρ : Nat → Nat} {S : HS} {a : Nat} {r : Nat → Int32} (h1 : ¬ tk a < 10) (h2 : tk a < 12) : pf cy ρ (setA S a r) a = .inl (cy (tk a), tn a, .inl r) := by
  simp [pf, sA_setA, va_up, h1, h2]
theorem pf_setA2 {cy : Nat → ClassId} {ρ : Nat → Nat} {S : HS} {a : Nat} {r : Nat → Int32} (t : Nat) (h : t ≠ a) : pf cy ρ (setA S a r) t = pf cy ρ S t := pf_other (fun _ => rfl) (fun _ => rfl) (by simp [sA_setA, va_up, h]) (fun _ => rfl)
theorem pf_setQ {cy : Nat → ClassId} {ρ : Nat → Nat} {S : HS} {a : Nat} {r : Nat → Option Nat} (h1 : ¬ tk a < 12) : pf cy ρ (setQ S a r) a = .inl (cy (tk a), tn a, .inr (.inr (.inr (.inr (fun i => (r i).map ρ))))) := by
  have h2 : ¬ tk a < 10 := by omega
  simp [pf, sQ_setQ, va_up, h1, h2]
theorem pf_setQ2 {cy : Nat → ClassId} {ρ : Nat → Nat} {S : HS} {a : Nat} {r : Nat → Option Nat} (t : Nat) (h : t ≠ a) : pf cy ρ (setQ S a r) t = pf cy ρ S t := pf_other (fun _ => rfl) (fun _ => rfl) rfl (fun i => by simp [sQ_setQ, va_up, h])
/-- nobody in the heap knows the tag t -/
def Fr (t : Nat) (S : HS) : Prop := (∀ f a, sR S f a ≠ some t) ∧ (∀ a i, sQ S a i ≠ some t)
theorem map_up {ρ : Nat → Nat} {t q : Nat} {r : Option Nat} (h : r ≠ some t) : r.map (va_up ρ t q) = r.map ρ := by
  cases r with
  | none => rfl
  | some x =>
    have hx : x ≠ t := fun e => h (by rw [e])
    simp [va_up, hx]
def dfs (ci : Nat) : List Value := (List.range (nF ci)).map (fun k => if fR ci k = true then Value.null else .int 0)
theorem pf_newO {cy : Nat → ClassId} {ρ : Nat → Nat} {S : HS} {a ci : Nat} (hK : tk a = ci) (hc : ci < 10) : pf cy ρ (newO S a) a = .inr (ci, dfs ci) := by
  have e : fvs ρ (newO S a) ci a = dfs ci := by
    unfold dfs fvs
    apply List.map_congr_left
    intro j _
    simp [fv, sI_newO, sR_newO, va_up, va_rf]
  simp [pf, hK, hc, e]
theorem pf_newO2 {cy : Nat → ClassId} {ρ : Nat → Nat} {S : HS} {a q : Nat} (hF : Fr a S) (t : Nat) (h : t ≠ a) : pf cy (va_up ρ a q) (newO S a) t = pf cy ρ S t := pf_other (fun f => by simp [sI_newO, va_up, h]) (fun f => by rw [sR_newO, va_up_ne _ _ h]; exact map_up (hF.1 f t)) rfl (fun i => map_up (hF.2 t i))
theorem pf_newA {cy : Nat → ClassId} {ρ : Nat → Nat} {S : HS} {a : Nat} (h1 : ¬ tk a < 10) (h2 : tk a < 12) : pf cy ρ (newA S a) a = .inl (cy (tk a), tn a, .inl (fun _ => 0)) := by
  simp [pf, sA_newA, va_up, h1, h2]
theorem pf_newQ {cy : Nat → ClassId} {ρ : Nat → Nat} {S : HS} {a : Nat} (h1 : ¬ tk a < 12) : pf cy ρ (newA S a) a = .inl (cy (tk a), tn a, .inr (.inr (.inr (.inr (fun _ => none))))) := by
  have h2 : ¬ tk a < 10 := by omega
  simp [pf, sQ_newA, va_up, h1, h2]
theorem pf_newA2 {cy : Nat → ClassId} {ρ : Nat → Nat} {S : HS} {a q : Nat} (hF : Fr a S) (t : Nat) (h : t ≠ a) : pf cy (va_up ρ a q) (newA S a) t = pf cy ρ S t := pf_other (fun f => rfl) (fun f => map_up (hF.1 f t)) (by rw [sA_newA, va_up_ne _ _ h]) (fun i => by rw [sQ_newA, va_up_ne _ _ h]; exact map_up (hF.2 t i))
theorem pf_obj {cy : Nat → ClassId} {ρ : Nat → Nat} {S : HS} {a ci : Nat} (hK : tk a = ci) (hc : ci < 10) : pf cy ρ S a = .inr (ci, fvs ρ S ci a) := by simp [pf, hK, hc]
theorem pf_arr {cy : Nat → ClassId} {ρ : Nat → Nat} {S : HS} {a : Nat} (h1 : ¬ tk a < 10) (h2 : tk a < 12) : pf cy ρ S a = .inl (cy (tk a), tn a, .inl (sA S a)) := by simp [pf, h1, h2]
theorem pf_arq {cy : Nat → ClassId} {ρ : Nat → Nat} {S : HS} {a : Nat} (h1 : ¬ tk a < 12) : pf cy ρ S a = .inl (cy (tk a), tn a, .inr (.inr (.inr (.inr (fun i => (sQ S a i).map ρ))))) := by
  have h2 : ¬ tk a < 10 := by omega
  simp [pf, h1, h2]
/-- values whose tags are live -/
def okV (L : List Nat) (v : Value) : Prop := match v with
  | .ref t => t ∈ L
  | _ => True
def okS (L : List Nat) : List Value → Prop
  | [] => True
  | v :: r => okV L v ∧ okS L r
def okL (L : List Nat) : List (Option Value) → Prop
  | [] => True
  | none :: r => okL L r
  | some v :: r => okV L v ∧ okL L r
theorem okL_at {L : List Nat} : ∀ {lv : List (Option Value)} {i : Nat} {v : Value}, okL L lv → lv[i]? = some (some v) → okV L v
  | [], i, v, _, h => by simp at h
  | none :: r, 0, v, _, h => by simp at h
  | none :: r, i + 1, v, h0, h => okL_at (lv := r) h0 (by simpa using h)
  | some w :: r, 0, v, h0, h => by
    have e : w = v := by simpa using h
    rw [← e]
    exact h0.1
  | some w :: r, i + 1, v, h0, h => okL_at (lv := r) h0.2 (by simpa using h)
theorem okL_set {L : List Nat} : ∀ {lv : List (Option Value)} {i : Nat} {v : Value}, okL L lv → okV L v → okL L (lv.set i (some v))
  | [], i, v, _, h => trivial
  | none :: r, 0, v, h0, h => ⟨h, h0⟩
  | none :: r, i + 1, v, h0, h => okL_set (lv := r) h0 h
  | some w :: r, 0, v, h0, h => ⟨h, h0.2⟩
  | some w :: r, i + 1, v, h0, h => ⟨h0.1, okL_set (lv := r) h0.2 h⟩
theorem okL_setN {L : List Nat} : ∀ {lv : List (Option Value)} {i : Nat}, okL L lv → okL L (lv.set i none)
  | [], i, _ => trivial
  | none :: r, 0, h0 => h0
  | none :: r, i + 1, h0 => okL_setN (lv := r) h0
  | some w :: r, 0, h0 => h0.2
  | some w :: r, i + 1, h0 => ⟨h0.1, okL_setN (lv := r) h0.2⟩
theorem okV_mono {L L' : List Nat} (h : ∀ t ∈ L, t ∈ L') {v : Value} (hv : okV L v) : okV L' v := by
  cases v <;> first | trivial | exact h _ hv
theorem okS_mono {L L' : List Nat} (h : ∀ t ∈ L, t ∈ L') : ∀ {st : List Value}, okS L st → okS L' st
  | [], _ => trivial
  | v :: r, hv => ⟨okV_mono h hv.1, okS_mono h hv.2⟩
theorem okL_mono {L L' : List Nat} (h : ∀ t ∈ L, t ∈ L') : ∀ {lv : List (Option Value)}, okL L lv → okL L' lv
  | [], _ => trivial
  | none :: r, hv => okL_mono (lv := r) h hv
  | some v :: r, hv => ⟨okV_mono h hv.1, okL_mono h hv.2⟩
theorem rn_eq {L : List Nat} {ρ ρ' : Nat → Nat} (h : ∀ t ∈ L, ρ' t = ρ t) {v : Value} (hv : okV L v) : rn ρ' v = rn ρ v := by
  cases v <;> first | rfl | exact congrArg Value.ref (h _ hv)
theorem rnS_eq {L : List Nat} {ρ ρ' : Nat → Nat} (h : ∀ t ∈ L, ρ' t = ρ t) : ∀ {st : List Value}, okS L st → st.map (rn ρ') = st.map (rn ρ)
  | [], _ => rfl
  | v :: r, hv => by rw [List.map_cons, List.map_cons, rn_eq h hv.1, rnS_eq h hv.2]
theorem rnL_eq {L : List Nat} {ρ ρ' : Nat → Nat} (h : ∀ t ∈ L, ρ' t = ρ t) : ∀ {lv : List (Option Value)}, okL L lv → lv.map (Option.map (rn ρ')) = lv.map (Option.map (rn ρ))
  | [], _ => rfl
  | none :: r, hv => by rw [List.map_cons, List.map_cons, rnL_eq (lv := r) h hv]; rfl
  | some v :: r, hv => by rw [List.map_cons, List.map_cons, rnL_eq h hv.2, Option.map_some, Option.map_some, rn_eq h hv.1]
end
section
/-! ===== the judgement R: one method's frame over a heap HS; a row an instruction ===== -/
def tyK (cy : Nat → ClassId) : List (ClassId × FieldType) := [(cy 10, .int), (cy 11, .boolean), (cy 12, .object RX0), (cy 13, .object RX2), (cy 14, .object RX5), (cy 15, .object RX7)]
def nestW : List Cond := [.methodLinkNest RX8 11 yX4_init RX8, .methodLinkNest RX8 36 yX5_init RX8, .methodLinkNest RX8 47 yX3_init RX8, .methodLinkNest RX8 54 yX1_init RX8, .methodLinkNest RX8 61 yX6_init RX8]
def KK (G : va_G) (cy : Nat → ClassId) (U : State) : Prop := va_K G vwCl (tyK cy) U ∧ (∀ w ∈ nestW, va_Nw w U) ∧ (va_AO RX0 U ∧ va_AO RX2 U ∧ va_AO RX5 U ∧ va_AO RX7 U)
theorem KK.warm {G : va_G} {cy : Nat → ClassId} {s U : State} (hW : s.WarmedH U.vm) (h : KK G cy s) : KK G cy U := by
  obtain ⟨h1, h2, h3, h4, h5, h6⟩ := h
  refine ⟨va_K.moved hW.alike h1, fun w hw => ?_, va_AO.moved hW.alike h3, va_AO.moved hW.alike h4, va_AO.moved hW.alike h5, va_AO.moved hW.alike h6⟩
  have hz := h2 w hw
  simp only [nestW, List.mem_cons, List.not_mem_nil, or_false] at hw
  rcases hw with rfl | rfl | rfl | rfl | rfl <;> exact va_Nw.warmM hW hz
theorem KK.calling {G : va_G} {cy : Nat → ClassId} {U : State} {g : JFrame} {mk : MethodId} {a : Array Value} (h : KK G cy U) : KK G cy (U.calling g mk a) := by
  obtain ⟨h1, h2, h3, h4, h5, h6⟩ := h
  have e : U.vm.Alike (U.calling g mk a).vm := Vm.Alike.refl U.vm
  refine ⟨va_K.moved e h1, fun w hw => ?_, va_AO.moved e h3, va_AO.moved e h4, va_AO.moved e h5, va_AO.moved e h6⟩
  have hz := h2 w hw
  simp only [nestW, List.mem_cons, List.not_mem_nil, or_false] at hw
  rcases hw with rfl | rfl | rfl | rfl | rfl <;> exact va_Nw.same rfl rfl hz
/-- locals, a place each; none: not known -/
def la : Nat → List (Option Value) → List (Nat × Value)
  | _, [] => []
  | i, none :: r => la (i + 1) r
  | i, some v :: r => (i, v) :: la (i + 1) r
theorem la_mem : ∀ (lv : List (Option Value)) (j i : Nat) (v : Value), lv[i]? = some (some v) → (j + i, v) ∈ la j lv
  | [], j, i, v, h => by simp at h
  | none :: r, j, 0, v, h => by simp at h
  | none :: r, j, i + 1, v, h => by
    have := la_mem r (j + 1) i v (by simpa using h)
    rw [show j + 1 + i = j + (i + 1) by omega] at this
    exact this
  | some w :: r, j, 0, v, h => by
    have e : w = v := by simpa using h
    subst e
    exact List.mem_cons_self
  | some w :: r, j, i + 1, v, h => by
    have := la_mem r (j + 1) i v (by simpa using h)
    rw [show j + 1 + i = j + (i + 1) by omega] at this
    exact List.mem_cons_of_mem _ this
theorem la_of : ∀ (lv : List (Option Value)) (j : Nat) (q : Nat × Value), q ∈ la j lv → ∃ i, q.1 = j + i ∧ lv[i]? = some (some q.2)
  | [], j, q, h => by simp [la] at h
  | none :: r, j, q, h => by
    obtain ⟨i, h1, h2⟩ := la_of r (j + 1) q h
    exact ⟨i + 1, by omega, by simpa using h2⟩
  | some w :: r, j, q, h => by
    rcases List.mem_cons.mp h with h | h
    · subst h
      exact ⟨0, by simp, by simp⟩
    · obtain ⟨i, h1, h2⟩ := la_of r (j + 1) q h
      exact ⟨i + 1, by omega, by simpa using h2⟩
def lh (ls : Array Slot) (nL : Nat) (lv : List (Option Value)) : Prop := lv_has ls nL (la 0 lv)
theorem lh_at {ls : Array Slot} {nL i : Nat} {lv : List (Option Value)} {v : Value} (h : lh ls nL lv) (hi : lv[i]? = some (some v)) : ls[i]? = some (.val v) := by
  have := h.2.2 (0 + i, v) (la_mem lv 0 i v hi)
  simpa using this
def okp (a : Option Value) : Bool := match a with
  | some v => decide (v.category = 1)
  | none => true
theorem lh_set {ls : Array Slot} {nL i : Nat} {lv : List (Option Value)} {v : Value} (h : lv_has ls nL ((i, v) :: (la 0 lv).filter (fun q => !(q.1 == i) && !(q.1 + 1 == i && q.2.category == 2)))) (hp : ∀ a, i = a + 1 → okp (lv.getD a none) = true) : lh ls nL (lv.set i (some v)) := by
  refine ⟨h.1, h.2.1, fun q hq => h.2.2 q ?_⟩
  obtain ⟨j, h1, h2⟩ := la_of _ _ q hq
  have h1 : q.1 = j := by omega
  by_cases hj : j = i
  · subst hj
    have hl : j < lv.length := by
      have := (List.getElem?_eq_some_iff.mp h2).1
      simpa using this
    rw [List.getElem?_set_self hl] at h2
    have e : v = q.2 := by simpa using h2
    rw [e, ← h1]
    exact List.mem_cons_self
  · rw [List.getElem?_set_ne (Ne.symm hj)] at h2
    apply List.mem_cons_of_mem
    have hm := la_mem lv 0 j q.2 h2
    rw [Nat.zero_add, ← h1] at hm
    refine List.mem_filter.mpr ⟨hm, ?_⟩
    have e1 : (q.1 == i) = false := by simp [h1, hj]
    rw [e1]
    by_cases e2 : q.1 + 1 = i
    · have h3 := hp q.1 e2.symm
      rw [h1] at h3
      have e4 : lv.getD j none = some q.2 := by simp [List.getD, h2]
      rw [e4] at h3
      have h5 : q.2.category = 1 := by simpa [okp] using h3
      simp [h5]
    · have e3 : (q.1 + 1 == i) = false := by simp [e2]
      rw [e3]
      rfl
theorem lh_setL {ls : Array Slot} {nL i : Nat} {lv : List (Option Value)} {v : Value} (h : lv_has ls nL ((i, v) :: (la 0 lv).filter (fun q => !(q.1 == i) && (!(q.1 == i + 1) && !(q.1 + 1 == i && q.2.category == 2))))) (hp : ∀ a, i = a + 1 → okp (lv.getD a none) = true) : lh ls nL ((lv.set i (some v)).set (i + 1) none) := by
  refine ⟨h.1, h.2.1, fun q hq => h.2.2 q ?_⟩
  obtain ⟨j, h1, h2⟩ := la_of _ _ q hq
  have h1 : q.1 = j := by omega
  by_cases hj2 : j = i + 1
  · subst hj2
    by_cases hl : i + 1 < (lv.set i (some v)).length
    · rw [List.getElem?_set_self hl] at h2
      simp at h2
    · rw [List.getElem?_eq_none (by simpa using hl)] at h2
      simp at h2
  rw [List.getElem?_set_ne (Ne.symm hj2)] at h2
  by_cases hj : j = i
  · subst hj
    have hl : j < lv.length := by
      have := (List.getElem?_eq_some_iff.mp h2).1
      simpa using this
    rw [List.getElem?_set_self hl] at h2
    have e : v = q.2 := by simpa using h2
    rw [e, ← h1]
    exact List.mem_cons_self
  · rw [List.getElem?_set_ne (Ne.symm hj)] at h2
    apply List.mem_cons_of_mem
    have hm := la_mem lv 0 j q.2 h2
    rw [Nat.zero_add, ← h1] at hm
    refine List.mem_filter.mpr ⟨hm, ?_⟩
    have e1 : (q.1 == i) = false := by simp [h1, hj]
    have e1' : (q.1 == i + 1) = false := by simp [h1, hj2]
    rw [e1, e1']
    by_cases e2 : q.1 + 1 = i
    · have h3 := hp q.1 e2.symm
      rw [h1] at h3
      have e4 : lv.getD j none = some q.2 := by simp [List.getD, h2]
      rw [e4] at h3
      have h5 : q.2.category = 1 := by simpa [okp] using h3
      simp [h5]
    · have e3 : (q.1 + 1 == i) = false := by simp [e2]
      rw [e3]
      rfl
theorem okp_map {ρ : Nat → Nat} {lv : List (Option Value)} {a : Nat} (h : okp (lv.getD a none) = true) : okp ((lv.map (Option.map (rn ρ))).getD a none) = true := by
  simp only [List.getD, List.getElem?_map] at h ⊢
  cases hx : lv[a]? with
  | none => rfl
  | some x =>
    rw [hx] at h
    cases x with
    | none => rfl
    | some w =>
      simp only [Option.map_some, Option.getD_some, okp, rn_cat] at h ⊢
      exact h
def lhm (ls : Array Slot) (nL : Nat) (ρ : Nat → Nat) (lv : List (Option Value)) : Prop := lh ls nL (lv.map (Option.map (rn ρ)))
theorem lhm_at {ls : Array Slot} {nL i : Nat} {ρ : Nat → Nat} {lv : List (Option Value)} {v : Value} (h : lhm ls nL ρ lv) (hi : lv[i]? = some (some v)) : ls[i]? = some (.val (rn ρ v)) := lh_at h (by simp [hi])
theorem lhm_set {ls : Array Slot} {nL i : Nat} {ρ : Nat → Nat} {lv : List (Option Value)} {v : Value} (h : lv_has ls nL ((i, rn ρ v) :: (la 0 (lv.map (Option.map (rn ρ)))).filter (fun q => !(q.1 == i) && !(q.1 + 1 == i && q.2.category == 2)))) (hp : ∀ a, i = a + 1 → okp (lv.getD a none) = true) : lhm ls nL ρ (lv.set i (some v)) := by
  unfold lhm
  rw [List.map_set]
  exact lh_set h (fun a ha => okp_map (hp a ha))
theorem lhm_setL {ls : Array Slot} {nL i : Nat} {ρ : Nat → Nat} {lv : List (Option Value)} {v : Value} (h : lv_has ls nL ((i, rn ρ v) :: (la 0 (lv.map (Option.map (rn ρ)))).filter (fun q => !(q.1 == i) && (!(q.1 == i + 1) && !(q.1 + 1 == i && q.2.category == 2))))) (hp : ∀ a, i = a + 1 → okp (lv.getD a none) = true) : lhm ls nL ρ ((lv.set i (some v)).set (i + 1) none) := by
  unfold lhm
  rw [List.map_set, List.map_set]
  exact lh_setL h (fun a ha => okp_map (hp a ha))
theorem la_map (f : Value → Value) : ∀ (lv : List (Option Value)) (j : Nat), la j (lv.map (Option.map f)) = (la j lv).map (fun q => (q.1, f q.2))
  | [], j => rfl
  | none :: r, j => la_map f r (j + 1)
  | some v :: r, j => by
    show (j, f v) :: la (j + 1) (r.map (Option.map f)) = _
    rw [la_map f r (j + 1)]
    rfl
theorem args_map (ρ : Nat → Nat) : ∀ (vs : List Value) (j : Nat), lv_args j (vs.map (rn ρ)) = (lv_args j vs).map (fun q => (q.1, rn ρ q.2))
  | [], j => rfl
  | v :: r, j => by
    show (j, rn ρ v) :: lv_args (if (rn ρ v).category = 2 then j + 2 else j + 1) (r.map (rn ρ)) = _
    rw [args_map ρ r, rn_cat]
    rfl
theorem sl_map (ρ : Nat → Nat) : ∀ (vs : List Value), (lg_sl (vs.map (rn ρ))).length = (lg_sl vs).length
  | [] => rfl
  | v :: r => by
    have ih := sl_map ρ r
    simp only [lg_sl, List.map_cons, List.flatMap_cons, List.length_append, rn_cat] at ih ⊢
    rw [ih]
    split <;> simp
theorem okL_of {L : List Nat} : ∀ (lv : List (Option Value)) (j : Nat), (∀ q ∈ la j lv, okV L q.2) → okL L lv
  | [], j, h => trivial
  | none :: r, j, h => okL_of r (j + 1) h
  | some v :: r, j, h => ⟨h (j, v) List.mem_cons_self, okL_of r (j + 1) (fun q hq => h q (List.mem_cons_of_mem _ hq))⟩
theorem okS_args {L : List Nat} : ∀ (vs : List Value) (j : Nat), okS L vs → ∀ q ∈ lv_args j vs, okV L q.2
  | [], j, h, q, hq => by simp [lv_args] at hq
  | v :: r, j, h, q, hq => by
    rcases List.mem_cons.mp hq with e | e
    · rw [e]; exact h.1
    · exact okS_args r _ h.2 q e
def rmO (d mc ms : Nat) : Room := { frames := d, cells := mc, slots := ms, locals := 40 * d }
/-- what a method's end says: the answer, the heap behind it, the old tags where they were, and that nothing else has changed -/
def Qcn (G : va_G) (cy : Nat → ClassId) (Q : Option Value → HS → Prop) (A : Nat → Prop) (L0 : List Nat) (ρ0 : Nat → Nat) : Array Value → State → Outcome → State → Prop := fun _ st oc t => (∃ (v : Option Value) (S : HS) (ρ : Nat → Nat), oc = .returned (v.map (rn ρ)) ∧ Q v S ∧ (∀ t ∈ L0, ρ t = ρ0 t) ∧ (∀ t ∈ L0, t ∈ sL S) ∧ (∀ x, v = some x → okV (sL S) x) ∧ va_P G vwCl (pool cy ρ S) t.heap ∧ va_D A (pool cy ρ S)) ∧ va_F A st t
def Pcn (G : va_G) (cy : Nat → ClassId) (ρ : Nat → Nat) (args : List Value) (S : HS) (sz : Nat) : Array Value → State → Prop := va_Pc (args.map (rn ρ)) (fun U => U.heap.size = sz ∧ va_P G vwCl (pool cy ρ S) U.heap ∧ KK G cy U ∧ va_D (fun _ => True) (pool cy ρ S))
/-- a contract: from the heap S with these arguments, at most mc cells of ms slots are made -/
def Cn (l : Launch) (G : va_G) (cy : Nat → ClassId) (y : MethodName) (b : ByteArray) (nL : Nat) (rt : Option FieldType) (d : Nat) (args : List Value) (S : HS) (mc ms : Nat) (Q : Option Value → HS → Prop) : Prop :=
  okS (sL S) args → ∀ (sz : Nat) (ρ : Nat → Nat), Met l y (Cond.code y b nL rt :: TB) (rmO d mc ms) (Pcn G cy ρ args S sz) (Qcn G cy Q (va_A (pool cy ρ S) sz) (sL S) ρ) mc ms (va_A (pool cy ρ S) sz)
def qI (Q : Int32 → HS → Prop) : Option Value → HS → Prop := fun v S => ∃ r : Int32, v = some (.int r) ∧ Q r S
def qV (Q : HS → Prop) : Option Value → HS → Prop := fun v S => v = none ∧ Q S
def qR (Q : Option Nat → HS → Prop) : Option Value → HS → Prop := fun v S => ∃ r : Option Nat, v = some (va_rf r) ∧ Q r S
def Cx (y : MethodName) (b : ByteArray) (nL : Nat) (rt : Option FieldType) (p : Program) (s : State) (m : MethodId) (args : Array Value) (meth : Method) (c : Code) : Prop :=
  p.tables.exec = Jvm.exec ∧ c.code = b ∧ meth.sig.returnType = rt ∧ c.maxLocals = nL ∧ s.vm.findClass y.cls = some m.cls ∧ (∀ w ∈ (Cond.code y b nL rt :: TB), w.before args s = true) ∧ meth.locks = false ∧ meth.name = y.name
/-- THE JUDGEMENT: at pc with these locals, this stack, this heap (all by tags), k cells of n slots made so far, the method comes to an end with Q -/
def R (l : Launch) (G : va_G) (cy : Nat → ClassId) (y : MethodName) (b : ByteArray) (nL : Nat) (rt : Option FieldType) (d mc ms : Nat) (Q : Option Value → HS → Prop) (pc : Nat) (lv : List (Option Value)) (st : List Value) (S : HS) (k n : Nat) : Prop :=
  ∀ (p : Program) (e : Env) (s : State) (m : MethodId) (args : Array Value) (below : List Frame) (meth : Method) (c : Code) (H : Heap) (locs : List Loc) (ls : Array Slot) (A : Nat → Prop) (ρ : Nat → Nat) (L0 : List Nat) (ρ0 : Nat → Nat),
    Cx y b nL rt p s m args meth c → KK G cy s → (∀ q : Nat, s.heap.size ≤ q → A q) → va_P G vwCl (pool cy ρ S) H → va_D A (pool cy ρ S) → va_S A s.heap H locs → lhm ls nL ρ lv → okL (sL S) lv → okS (sL S) st → (∀ t ∈ L0, ρ t = ρ0 t) → (∀ t ∈ L0, t ∈ sL S) →
    W p l e (rmO d mc ms) s m args below meth c H locs k n (MQ below (Qcn G cy Q A L0 ρ0) args s mc ms A) (F0 m pc ls (st.map (rn ρ)))
section RR
variable {l : Launch} {G : va_G} {cy : Nat → ClassId} {y : MethodName} {b : ByteArray} {nL : Nat} {rt : Option FieldType} {d mc ms : Nat} {Q : Option Value → HS → Prop} {pc : Nat} {lv : List (Option Value)} {st : List Value} {S : HS} {k n : Nat}
theorem Cn.of {args : List Value} (lv : List (Option Value)) (hy : plainName y.cls = true) (hl : la 0 lv = lv_args 0 args) (hn : (lg_sl args).length ≤ nL) (h : R l G cy y b nL rt d mc ms Q 0 lv [] S 0 0) : Cn l G cy y b nL rt d args S mc ms Q := by
  intro hok sz ρ
  refine Met.ofW (cc := b) (maxL := nL) (ret := rt) hy rfl ?_
  intro p e s m args' below meth c s₁ B hml hv
  obtain ⟨rfl, hsz, hP, hK, hD0⟩ := hv
  subst hsz
  have hts := atoms_spec (ws := Cond.code y b nL rt :: TB) B.pre
  have hown : s.vm.findClass y.cls = some m.cls := findClass_of_methodNamed B.named
  have hin : meth.name = y.name := (name_of_methodNamed B.named B.method).1
  have hll := lv_entry (args.map (rn ρ)) (n := nL) (by rw [sl_map]; exact hn)
  rw [lg_entry_eq]
  refine h p e s m _ below meth c s.heap [] _ (va_A (pool cy ρ S) s.heap.size) ρ (sL S) ρ ⟨B.exec, B.bytes, B.returns, hml, hown, hts, B.notSynchronized, hin⟩ hK (fun q hq => Or.inr hq) hP (hD0.self) va_S.rf ?_ ?_ trivial (fun _ _ => rfl) (fun _ h => h)
  · unfold lhm lh
    rw [la_map, hl, ← args_map]
    exact hll
  · exact okL_of lv 0 (by rw [hl]; exact okS_args args 0 hok)
theorem R.widen {k' n' : Nat} (h1 : k ≤ k') (h2 : n ≤ n') (h : R l G cy y b nL rt d mc ms Q pc lv st S k' n') : R l G cy y b nL rt d mc ms Q pc lv st S k n := by
  intro p e s m args below meth c H locs ls A ρ L0 ρ0 X hK hA hP hD hS hl hoL hoS hρ hLL
  exact W.widen h1 h2 (h p e s m args below meth c H locs ls A ρ L0 ρ0 X hK hA hP hD hS hl hoL hoS hρ hLL)
/-- what is known of the frame's tags may be used -/
theorem R.live (h : okL (sL S) lv → okS (sL S) st → R l G cy y b nL rt d mc ms Q pc lv st S k n) : R l G cy y b nL rt d mc ms Q pc lv st S k n := by
  intro p e s m args below meth c H locs ls A ρ L0 ρ0 X hK hA hP hD hS hl hoL hoS hρ hLL
  exact h hoL hoS p e s m args below meth c H locs ls A ρ L0 ρ0 X hK hA hP hD hS hl hoL hoS hρ hLL
/-- a loop: an invariant with a measure -/
theorem R.loop (I : Nat → List (Option Value) → HS → Nat → Nat → Prop) (step : ∀ (u : Nat) (lv : List (Option Value)) (S : HS) (k n : Nat), I u lv S k n → (∀ (u' : Nat) (lv' : List (Option Value)) (S' : HS) (k' n' : Nat), u' < u → I u' lv' S' k' n' → R l G cy y b nL rt d mc ms Q pc lv' st S' k' n') → R l G cy y b nL rt d mc ms Q pc lv st S k n) :
    ∀ (u : Nat) (lv : List (Option Value)) (S : HS) (k n : Nat), I u lv S k n → R l G cy y b nL rt d mc ms Q pc lv st S k n := by
  intro u
  induction u using Nat.strongRecOn with
  | ind u ih => exact fun lv S k n h => step u lv S k n h (fun u' lv' S' k' n' hu h' => ih u' hu lv' S' k' n' h')

theorem r_iconst {z : Int} {v : Int32} (hd : decode b pc = .ok (.iconst z, 1)) (hv : Int32.ofInt z = v) (h : R l G cy y b nL rt d mc ms Q (pc + 1) lv (.int v :: st) S k n) : R l G cy y b nL rt d mc ms Q pc lv st S k n := by
  intro p e s m args below meth c H locs ls A ρ L0 ρ0 X hK hA hP hD hS hl hoL hoS hρ hLL
  obtain ⟨hx, hb, hr, hml, hown, hts, hlk, hnm⟩ := id X
  exact lv_iconst hx hb hd hv (h p e s m args below meth c H locs ls A ρ L0 ρ0 X hK hA hP hD hS hl hoL ⟨trivial, hoS⟩ hρ hLL)
theorem r_bipush {z : Int} {v : Int32} (hd : decode b pc = .ok (.bipush z, 2)) (hv : (Int8.ofInt z).toInt32 = v) (h : R l G cy y b nL rt d mc ms Q (pc + 2) lv (.int v :: st) S k n) : R l G cy y b nL rt d mc ms Q pc lv st S k n := by
  intro p e s m args below meth c H locs ls A ρ L0 ρ0 X hK hA hP hD hS hl hoL hoS hρ hLL
  obtain ⟨hx, hb, hr, hml, hown, hts, hlk, hnm⟩ := id X
  exact lv_bipush hx hb hd hv (h p e s m args below meth c H locs ls A ρ L0 ρ0 X hK hA hP hD hS hl hoL ⟨trivial, hoS⟩ hρ hLL)
theorem r_sipush {z : Int} {v : Int32} (hd : decode b pc = .ok (.sipush z, 3)) (hv : (Int16.ofInt z).toInt32 = v) (h : R l G cy y b nL rt d mc ms Q (pc + 3) lv (.int v :: st) S k n) : R l G cy y b nL rt d mc ms Q pc lv st S k n := by
  intro p e s m args below meth c H locs ls A ρ L0 ρ0 X hK hA hP hD hS hl hoL hoS hρ hLL
  obtain ⟨hx, hb, hr, hml, hown, hts, hlk, hnm⟩ := id X
  exact lv_sipush hx hb hd hv (h p e s m args below meth c H locs ls A ρ L0 ρ0 X hK hA hP hD hS hl hoL ⟨trivial, hoS⟩ hρ hLL)
theorem r_lconst {z : Fin 2} {v : Int64} (hd : decode b pc = .ok (.lconst z, 1)) (hv : Int64.ofNat (z : Nat) = v) (h : R l G cy y b nL rt d mc ms Q (pc + 1) lv (.long v :: st) S k n) : R l G cy y b nL rt d mc ms Q pc lv st S k n := by
  intro p e s m args below meth c H locs ls A ρ L0 ρ0 X hK hA hP hD hS hl hoL hoS hρ hLL
  obtain ⟨hx, hb, hr, hml, hown, hts, hlk, hnm⟩ := id X
  exact lv_lconst hx hb hd hv (h p e s m args below meth c H locs ls A ρ L0 ρ0 X hK hA hP hD hS hl hoL ⟨trivial, hoS⟩ hρ hLL)
theorem r_null  (hd : decode b pc = .ok (.aconst_null, 1)) (h : R l G cy y b nL rt d mc ms Q (pc + 1) lv (.null :: st) S k n) : R l G cy y b nL rt d mc ms Q pc lv st S k n := by
  intro p e s m args below meth c H locs ls A ρ L0 ρ0 X hK hA hP hD hS hl hoL hoS hρ hLL
  obtain ⟨hx, hb, hr, hml, hown, hts, hlk, hnm⟩ := id X
  exact lv_null hx hb hd (h p e s m args below meth c H locs ls A ρ L0 ρ0 X hK hA hP hD hS hl hoL ⟨trivial, hoS⟩ hρ hLL)
theorem r_iload_n {j : Fin 4} {i : Nat} {x : Int32} (hd : decode b pc = .ok (.iload_n j, 1)) (hi : (j : Nat) = i) (hv : lv[i]? = some (some (.int x))) (h : R l G cy y b nL rt d mc ms Q (pc + 1) lv (.int x :: st) S k n) : R l G cy y b nL rt d mc ms Q pc lv st S k n := by
  intro p e s m args below meth c H locs ls A ρ L0 ρ0 X hK hA hP hD hS hl hoL hoS hρ hLL
  obtain ⟨hx, hb, hr, hml, hown, hts, hlk, hnm⟩ := id X
  exact lv_iload_n hx hb hd hi (lhm_at hl hv) (h p e s m args below meth c H locs ls A ρ L0 ρ0 X hK hA hP hD hS hl hoL ⟨okL_at hoL hv, hoS⟩ hρ hLL)
theorem r_iload {i : Nat} {x : Int32} (hd : decode b pc = .ok (.iload i, 2)) (hv : lv[i]? = some (some (.int x))) (h : R l G cy y b nL rt d mc ms Q (pc + 2) lv (.int x :: st) S k n) : R l G cy y b nL rt d mc ms Q pc lv st S k n := by
  intro p e s m args below meth c H locs ls A ρ L0 ρ0 X hK hA hP hD hS hl hoL hoS hρ hLL
  obtain ⟨hx, hb, hr, hml, hown, hts, hlk, hnm⟩ := id X
  exact lv_iload hx hb hd (lhm_at hl hv) (h p e s m args below meth c H locs ls A ρ L0 ρ0 X hK hA hP hD hS hl hoL ⟨okL_at hoL hv, hoS⟩ hρ hLL)
theorem r_lload_n {j : Fin 4} {i : Nat} {x : Int64} (hd : decode b pc = .ok (.lload_n j, 1)) (hi : (j : Nat) = i) (hv : lv[i]? = some (some (.long x))) (h : R l G cy y b nL rt d mc ms Q (pc + 1) lv (.long x :: st) S k n) : R l G cy y b nL rt d mc ms Q pc lv st S k n := by
  intro p e s m args below meth c H locs ls A ρ L0 ρ0 X hK hA hP hD hS hl hoL hoS hρ hLL
  obtain ⟨hx, hb, hr, hml, hown, hts, hlk, hnm⟩ := id X
  exact lv_lload_n hx hb hd hi (lhm_at hl hv) (h p e s m args below meth c H locs ls A ρ L0 ρ0 X hK hA hP hD hS hl hoL ⟨okL_at hoL hv, hoS⟩ hρ hLL)
theorem r_lload {i : Nat} {x : Int64} (hd : decode b pc = .ok (.lload i, 2)) (hv : lv[i]? = some (some (.long x))) (h : R l G cy y b nL rt d mc ms Q (pc + 2) lv (.long x :: st) S k n) : R l G cy y b nL rt d mc ms Q pc lv st S k n := by
  intro p e s m args below meth c H locs ls A ρ L0 ρ0 X hK hA hP hD hS hl hoL hoS hρ hLL
  obtain ⟨hx, hb, hr, hml, hown, hts, hlk, hnm⟩ := id X
  exact lv_lload hx hb hd (lhm_at hl hv) (h p e s m args below meth c H locs ls A ρ L0 ρ0 X hK hA hP hD hS hl hoL ⟨okL_at hoL hv, hoS⟩ hρ hLL)
theorem r_aload_n {j : Fin 4} {i : Nat} {x : Nat} (hd : decode b pc = .ok (.aload_n j, 1)) (hi : (j : Nat) = i) (hv : lv[i]? = some (some (.ref x))) (h : R l G cy y b nL rt d mc ms Q (pc + 1) lv (.ref x :: st) S k n) : R l G cy y b nL rt d mc ms Q pc lv st S k n := by
  intro p e s m args below meth c H locs ls A ρ L0 ρ0 X hK hA hP hD hS hl hoL hoS hρ hLL
  obtain ⟨hx, hb, hr, hml, hown, hts, hlk, hnm⟩ := id X
  exact lv_aload_n hx hb hd hi (lhm_at hl hv) (h p e s m args below meth c H locs ls A ρ L0 ρ0 X hK hA hP hD hS hl hoL ⟨okL_at hoL hv, hoS⟩ hρ hLL)
theorem r_aload {i : Nat} {x : Nat} (hd : decode b pc = .ok (.aload i, 2)) (hv : lv[i]? = some (some (.ref x))) (h : R l G cy y b nL rt d mc ms Q (pc + 2) lv (.ref x :: st) S k n) : R l G cy y b nL rt d mc ms Q pc lv st S k n := by
  intro p e s m args below meth c H locs ls A ρ L0 ρ0 X hK hA hP hD hS hl hoL hoS hρ hLL
  obtain ⟨hx, hb, hr, hml, hown, hts, hlk, hnm⟩ := id X
  exact lv_aload hx hb hd (lhm_at hl hv) (h p e s m args below meth c H locs ls A ρ L0 ρ0 X hK hA hP hD hS hl hoL ⟨okL_at hoL hv, hoS⟩ hρ hLL)
theorem r_aload_nN {j : Fin 4} {i : Nat} (hd : decode b pc = .ok (.aload_n j, 1)) (hi : (j : Nat) = i) (hv : lv[i]? = some (some .null)) (h : R l G cy y b nL rt d mc ms Q (pc + 1) lv (.null :: st) S k n) : R l G cy y b nL rt d mc ms Q pc lv st S k n := by
  intro p e s m args below meth c H locs ls A ρ L0 ρ0 X hK hA hP hD hS hl hoL hoS hρ hLL
  obtain ⟨hx, hb, hr, hml, hown, hts, hlk, hnm⟩ := id X
  exact lv_aload_nN hx hb hd hi (lhm_at hl hv) (h p e s m args below meth c H locs ls A ρ L0 ρ0 X hK hA hP hD hS hl hoL ⟨trivial, hoS⟩ hρ hLL)
theorem r_aloadN {i : Nat} (hd : decode b pc = .ok (.aload i, 2)) (hv : lv[i]? = some (some .null)) (h : R l G cy y b nL rt d mc ms Q (pc + 2) lv (.null :: st) S k n) : R l G cy y b nL rt d mc ms Q pc lv st S k n := by
  intro p e s m args below meth c H locs ls A ρ L0 ρ0 X hK hA hP hD hS hl hoL hoS hρ hLL
  obtain ⟨hx, hb, hr, hml, hown, hts, hlk, hnm⟩ := id X
  exact lv_aloadN hx hb hd (lhm_at hl hv) (h p e s m args below meth c H locs ls A ρ L0 ρ0 X hK hA hP hD hS hl hoL ⟨trivial, hoS⟩ hρ hLL)
theorem r_istore_n {j : Fin 4} {i : Nat} {x : Int32} (hd : decode b pc = .ok (.istore_n j, 1)) (hi : (j : Nat) = i) (hn : i < nL) (hp : ∀ a, i = a + 1 → okp (lv.getD a none) = true) (h : R l G cy y b nL rt d mc ms Q (pc + 1) (lv.set i (some (.int x))) st S k n) : R l G cy y b nL rt d mc ms Q pc lv (.int x :: st) S k n := by
  intro p e s m args below meth c H locs ls A ρ L0 ρ0 X hK hA hP hD hS hl hoL hoS hρ hLL
  obtain ⟨hx, hb, hr, hml, hown, hts, hlk, hnm⟩ := id X
  exact lv_istore_n hx hb hd hi hl hn rfl (fun ls2 hl2 => h p e s m args below meth c H locs ls2 A ρ L0 ρ0 X hK hA hP hD hS (lhm_set (v := .int x) hl2 hp) (okL_set hoL hoS.1) hoS.2 hρ hLL)
theorem r_istore {i : Nat} {x : Int32} (hd : decode b pc = .ok (.istore i, 2)) (hn : i < nL) (hp : ∀ a, i = a + 1 → okp (lv.getD a none) = true) (h : R l G cy y b nL rt d mc ms Q (pc + 2) (lv.set i (some (.int x))) st S k n) : R l G cy y b nL rt d mc ms Q pc lv (.int x :: st) S k n := by
  intro p e s m args below meth c H locs ls A ρ L0 ρ0 X hK hA hP hD hS hl hoL hoS hρ hLL
  obtain ⟨hx, hb, hr, hml, hown, hts, hlk, hnm⟩ := id X
  exact lv_istore hx hb hd hl hn rfl (fun ls2 hl2 => h p e s m args below meth c H locs ls2 A ρ L0 ρ0 X hK hA hP hD hS (lhm_set (v := .int x) hl2 hp) (okL_set hoL hoS.1) hoS.2 hρ hLL)
theorem r_astore_n {j : Fin 4} {i : Nat} {x : Nat} (hd : decode b pc = .ok (.astore_n j, 1)) (hi : (j : Nat) = i) (hn : i < nL) (hp : ∀ a, i = a + 1 → okp (lv.getD a none) = true) (h : R l G cy y b nL rt d mc ms Q (pc + 1) (lv.set i (some (.ref x))) st S k n) : R l G cy y b nL rt d mc ms Q pc lv (.ref x :: st) S k n := by
  intro p e s m args below meth c H locs ls A ρ L0 ρ0 X hK hA hP hD hS hl hoL hoS hρ hLL
  obtain ⟨hx, hb, hr, hml, hown, hts, hlk, hnm⟩ := id X
  exact lv_astore_n hx hb hd hi hl hn rfl (fun ls2 hl2 => h p e s m args below meth c H locs ls2 A ρ L0 ρ0 X hK hA hP hD hS (lhm_set (v := .ref x) hl2 hp) (okL_set hoL hoS.1) hoS.2 hρ hLL)
theorem r_astore {i : Nat} {x : Nat} (hd : decode b pc = .ok (.astore i, 2)) (hn : i < nL) (hp : ∀ a, i = a + 1 → okp (lv.getD a none) = true) (h : R l G cy y b nL rt d mc ms Q (pc + 2) (lv.set i (some (.ref x))) st S k n) : R l G cy y b nL rt d mc ms Q pc lv (.ref x :: st) S k n := by
  intro p e s m args below meth c H locs ls A ρ L0 ρ0 X hK hA hP hD hS hl hoL hoS hρ hLL
  obtain ⟨hx, hb, hr, hml, hown, hts, hlk, hnm⟩ := id X
  exact lv_astore hx hb hd hl hn rfl (fun ls2 hl2 => h p e s m args below meth c H locs ls2 A ρ L0 ρ0 X hK hA hP hD hS (lhm_set (v := .ref x) hl2 hp) (okL_set hoL hoS.1) hoS.2 hρ hLL)
theorem r_astore_nN {j : Fin 4} {i : Nat}  (hd : decode b pc = .ok (.astore_n j, 1)) (hi : (j : Nat) = i) (hn : i < nL) (hp : ∀ a, i = a + 1 → okp (lv.getD a none) = true) (h : R l G cy y b nL rt d mc ms Q (pc + 1) (lv.set i (some (.null))) st S k n) : R l G cy y b nL rt d mc ms Q pc lv (.null :: st) S k n := by
  intro p e s m args below meth c H locs ls A ρ L0 ρ0 X hK hA hP hD hS hl hoL hoS hρ hLL
  obtain ⟨hx, hb, hr, hml, hown, hts, hlk, hnm⟩ := id X
  exact lv_astore_nN hx hb hd hi hl hn rfl (fun ls2 hl2 => h p e s m args below meth c H locs ls2 A ρ L0 ρ0 X hK hA hP hD hS (lhm_set (v := .null) hl2 hp) (okL_set hoL hoS.1) hoS.2 hρ hLL)
theorem r_astoreN {i : Nat}  (hd : decode b pc = .ok (.astore i, 2)) (hn : i < nL) (hp : ∀ a, i = a + 1 → okp (lv.getD a none) = true) (h : R l G cy y b nL rt d mc ms Q (pc + 2) (lv.set i (some (.null))) st S k n) : R l G cy y b nL rt d mc ms Q pc lv (.null :: st) S k n := by
  intro p e s m args below meth c H locs ls A ρ L0 ρ0 X hK hA hP hD hS hl hoL hoS hρ hLL
  obtain ⟨hx, hb, hr, hml, hown, hts, hlk, hnm⟩ := id X
  exact lv_astoreN hx hb hd hl hn rfl (fun ls2 hl2 => h p e s m args below meth c H locs ls2 A ρ L0 ρ0 X hK hA hP hD hS (lhm_set (v := .null) hl2 hp) (okL_set hoL hoS.1) hoS.2 hρ hLL)
theorem r_lstore_n {j : Fin 4} {i : Nat} {x : Int64} (hd : decode b pc = .ok (.lstore_n j, 1)) (hi : (j : Nat) = i) (hn : i + 1 < nL) (hp : ∀ a, i = a + 1 → okp (lv.getD a none) = true) (h : R l G cy y b nL rt d mc ms Q (pc + 1) ((lv.set i (some (.long x))).set (i + 1) none) st S k n) : R l G cy y b nL rt d mc ms Q pc lv (.long x :: st) S k n := by
  intro p e s m args below meth c H locs ls A ρ L0 ρ0 X hK hA hP hD hS hl hoL hoS hρ hLL
  obtain ⟨hx, hb, hr, hml, hown, hts, hlk, hnm⟩ := id X
  exact lv_lstore_n hx hb hd hi hl hn rfl (fun ls2 hl2 => h p e s m args below meth c H locs ls2 A ρ L0 ρ0 X hK hA hP hD hS (lhm_setL (v := .long x) hl2 hp) (okL_setN (okL_set hoL hoS.1)) hoS.2 hρ hLL)
theorem r_lstore {i : Nat} {x : Int64} (hd : decode b pc = .ok (.lstore i, 2)) (hn : i + 1 < nL) (hp : ∀ a, i = a + 1 → okp (lv.getD a none) = true) (h : R l G cy y b nL rt d mc ms Q (pc + 2) ((lv.set i (some (.long x))).set (i + 1) none) st S k n) : R l G cy y b nL rt d mc ms Q pc lv (.long x :: st) S k n := by
  intro p e s m args below meth c H locs ls A ρ L0 ρ0 X hK hA hP hD hS hl hoL hoS hρ hLL
  obtain ⟨hx, hb, hr, hml, hown, hts, hlk, hnm⟩ := id X
  exact lv_lstore hx hb hd hl hn rfl (fun ls2 hl2 => h p e s m args below meth c H locs ls2 A ρ L0 ρ0 X hK hA hP hD hS (lhm_setL (v := .long x) hl2 hp) (okL_setN (okL_set hoL hoS.1)) hoS.2 hρ hLL)
theorem r_iinc {i : Nat} {z : Int} {x v : Int32} (hd : decode b pc = .ok (.iinc i z, 3)) (hv : lv[i]? = some (some (.int x))) (hz : x + Int32.ofInt z = v) (hn : i < nL) (hp : ∀ a, i = a + 1 → okp (lv.getD a none) = true) (h : R l G cy y b nL rt d mc ms Q (pc + 3) (lv.set i (some (.int v))) st S k n) : R l G cy y b nL rt d mc ms Q pc lv st S k n := by
  intro p e s m args below meth c H locs ls A ρ L0 ρ0 X hK hA hP hD hS hl hoL hoS hρ hLL
  obtain ⟨hx, hb, hr, hml, hown, hts, hlk, hnm⟩ := id X
  have hm := la_mem (lv.map (Option.map (rn ρ))) 0 i (.int x) (by rw [List.getElem?_map, hv]; rfl)
  rw [Nat.zero_add] at hm
  obtain ⟨w, hw⟩ := List.getElem?_of_mem hm
  exact lv_iinc hx hb hd hl hw hz hn rfl (fun ls2 hl2 => h p e s m args below meth c H locs ls2 A ρ L0 ρ0 X hK hA hP hD hS (lhm_set (v := .int v) hl2 hp) (okL_set hoL trivial) hoS hρ hLL)
theorem r_iadd {x z : Int32} (hd : decode b pc = .ok (.iadd, 1)) (h : R l G cy y b nL rt d mc ms Q (pc + 1) lv (.int (x + z) :: st) S k n) : R l G cy y b nL rt d mc ms Q pc lv (.int z :: .int x :: st) S k n := by
  intro p e s m args below meth c H locs ls A ρ L0 ρ0 X hK hA hP hD hS hl hoL hoS hρ hLL
  obtain ⟨hx, hb, hr, hml, hown, hts, hlk, hnm⟩ := id X
  exact lv_iadd hx hb hd (h p e s m args below meth c H locs ls A ρ L0 ρ0 X hK hA hP hD hS hl hoL ⟨trivial, hoS.2.2⟩ hρ hLL)
theorem r_isub {x z : Int32} (hd : decode b pc = .ok (.isub, 1)) (h : R l G cy y b nL rt d mc ms Q (pc + 1) lv (.int (x - z) :: st) S k n) : R l G cy y b nL rt d mc ms Q pc lv (.int z :: .int x :: st) S k n := by
  intro p e s m args below meth c H locs ls A ρ L0 ρ0 X hK hA hP hD hS hl hoL hoS hρ hLL
  obtain ⟨hx, hb, hr, hml, hown, hts, hlk, hnm⟩ := id X
  exact lv_isub hx hb hd (h p e s m args below meth c H locs ls A ρ L0 ρ0 X hK hA hP hD hS hl hoL ⟨trivial, hoS.2.2⟩ hρ hLL)
theorem r_imul {x z : Int32} (hd : decode b pc = .ok (.imul, 1)) (h : R l G cy y b nL rt d mc ms Q (pc + 1) lv (.int (x * z) :: st) S k n) : R l G cy y b nL rt d mc ms Q pc lv (.int z :: .int x :: st) S k n := by
  intro p e s m args below meth c H locs ls A ρ L0 ρ0 X hK hA hP hD hS hl hoL hoS hρ hLL
  obtain ⟨hx, hb, hr, hml, hown, hts, hlk, hnm⟩ := id X
  exact lv_imul hx hb hd (h p e s m args below meth c H locs ls A ρ L0 ρ0 X hK hA hP hD hS hl hoL ⟨trivial, hoS.2.2⟩ hρ hLL)
theorem r_iand {x z : Int32} (hd : decode b pc = .ok (.iand, 1)) (h : R l G cy y b nL rt d mc ms Q (pc + 1) lv (.int (x &&& z) :: st) S k n) : R l G cy y b nL rt d mc ms Q pc lv (.int z :: .int x :: st) S k n := by
  intro p e s m args below meth c H locs ls A ρ L0 ρ0 X hK hA hP hD hS hl hoL hoS hρ hLL
  obtain ⟨hx, hb, hr, hml, hown, hts, hlk, hnm⟩ := id X
  exact lv_iand hx hb hd (h p e s m args below meth c H locs ls A ρ L0 ρ0 X hK hA hP hD hS hl hoL ⟨trivial, hoS.2.2⟩ hρ hLL)
theorem r_ior {x z : Int32} (hd : decode b pc = .ok (.ior, 1)) (h : R l G cy y b nL rt d mc ms Q (pc + 1) lv (.int (x ||| z) :: st) S k n) : R l G cy y b nL rt d mc ms Q pc lv (.int z :: .int x :: st) S k n := by
  intro p e s m args below meth c H locs ls A ρ L0 ρ0 X hK hA hP hD hS hl hoL hoS hρ hLL
  obtain ⟨hx, hb, hr, hml, hown, hts, hlk, hnm⟩ := id X
  exact lv_ior hx hb hd (h p e s m args below meth c H locs ls A ρ L0 ρ0 X hK hA hP hD hS hl hoL ⟨trivial, hoS.2.2⟩ hρ hLL)
theorem r_ixor {x z : Int32} (hd : decode b pc = .ok (.ixor, 1)) (h : R l G cy y b nL rt d mc ms Q (pc + 1) lv (.int (x ^^^ z) :: st) S k n) : R l G cy y b nL rt d mc ms Q pc lv (.int z :: .int x :: st) S k n := by
  intro p e s m args below meth c H locs ls A ρ L0 ρ0 X hK hA hP hD hS hl hoL hoS hρ hLL
  obtain ⟨hx, hb, hr, hml, hown, hts, hlk, hnm⟩ := id X
  exact lv_ixor hx hb hd (h p e s m args below meth c H locs ls A ρ L0 ρ0 X hK hA hP hD hS hl hoL ⟨trivial, hoS.2.2⟩ hρ hLL)
theorem r_ishl {x z : Int32} (hd : decode b pc = .ok (.ishl, 1)) (h : R l G cy y b nL rt d mc ms Q (pc + 1) lv (.int (x <<< (z &&& 31)) :: st) S k n) : R l G cy y b nL rt d mc ms Q pc lv (.int z :: .int x :: st) S k n := by
  intro p e s m args below meth c H locs ls A ρ L0 ρ0 X hK hA hP hD hS hl hoL hoS hρ hLL
  obtain ⟨hx, hb, hr, hml, hown, hts, hlk, hnm⟩ := id X
  exact lv_ishl hx hb hd (h p e s m args below meth c H locs ls A ρ L0 ρ0 X hK hA hP hD hS hl hoL ⟨trivial, hoS.2.2⟩ hρ hLL)
theorem r_ishr {x z : Int32} (hd : decode b pc = .ok (.ishr, 1)) (h : R l G cy y b nL rt d mc ms Q (pc + 1) lv (.int (x >>> (z &&& 31)) :: st) S k n) : R l G cy y b nL rt d mc ms Q pc lv (.int z :: .int x :: st) S k n := by
  intro p e s m args below meth c H locs ls A ρ L0 ρ0 X hK hA hP hD hS hl hoL hoS hρ hLL
  obtain ⟨hx, hb, hr, hml, hown, hts, hlk, hnm⟩ := id X
  exact lv_ishr hx hb hd (h p e s m args below meth c H locs ls A ρ L0 ρ0 X hK hA hP hD hS hl hoL ⟨trivial, hoS.2.2⟩ hρ hLL)
theorem r_idiv {x z : Int32} (hd : decode b pc = .ok (.idiv, 1)) (hne : ¬ z = 0) (h : R l G cy y b nL rt d mc ms Q (pc + 1) lv (.int (x / z) :: st) S k n) : R l G cy y b nL rt d mc ms Q pc lv (.int z :: .int x :: st) S k n := by
  intro p e s m args below meth c H locs ls A ρ L0 ρ0 X hK hA hP hD hS hl hoL hoS hρ hLL
  obtain ⟨hx, hb, hr, hml, hown, hts, hlk, hnm⟩ := id X
  exact lv_idiv hx hb hd hne (h p e s m args below meth c H locs ls A ρ L0 ρ0 X hK hA hP hD hS hl hoL ⟨trivial, hoS.2.2⟩ hρ hLL)
theorem r_irem {x z : Int32} (hd : decode b pc = .ok (.irem, 1)) (hne : ¬ z = 0) (h : R l G cy y b nL rt d mc ms Q (pc + 1) lv (.int (x - x / z * z) :: st) S k n) : R l G cy y b nL rt d mc ms Q pc lv (.int z :: .int x :: st) S k n := by
  intro p e s m args below meth c H locs ls A ρ L0 ρ0 X hK hA hP hD hS hl hoL hoS hρ hLL
  obtain ⟨hx, hb, hr, hml, hown, hts, hlk, hnm⟩ := id X
  exact lv_irem hx hb hd hne (h p e s m args below meth c H locs ls A ρ L0 ρ0 X hK hA hP hD hS hl hoL ⟨trivial, hoS.2.2⟩ hρ hLL)
theorem r_iushr {x z : Int32} (hd : decode b pc = .ok (.iushr, 1)) (h : R l G cy y b nL rt d mc ms Q (pc + 1) lv (.int (x.toUInt32 >>> (z.toUInt32 &&& Int32.toUInt32 31)).toInt32 :: st) S k n) : R l G cy y b nL rt d mc ms Q pc lv (.int z :: .int x :: st) S k n := by
  intro p e s m args below meth c H locs ls A ρ L0 ρ0 X hK hA hP hD hS hl hoL hoS hρ hLL
  obtain ⟨hx, hb, hr, hml, hown, hts, hlk, hnm⟩ := id X
  exact lv_iushr hx hb hd rfl (h p e s m args below meth c H locs ls A ρ L0 ρ0 X hK hA hP hD hS hl hoL ⟨trivial, hoS.2.2⟩ hρ hLL)
theorem r_ladd {x z : Int64} (hd : decode b pc = .ok (.ladd, 1)) (h : R l G cy y b nL rt d mc ms Q (pc + 1) lv (.long (x + z) :: st) S k n) : R l G cy y b nL rt d mc ms Q pc lv (.long z :: .long x :: st) S k n := by
  intro p e s m args below meth c H locs ls A ρ L0 ρ0 X hK hA hP hD hS hl hoL hoS hρ hLL
  obtain ⟨hx, hb, hr, hml, hown, hts, hlk, hnm⟩ := id X
  exact lv_ladd hx hb hd (h p e s m args below meth c H locs ls A ρ L0 ρ0 X hK hA hP hD hS hl hoL ⟨trivial, hoS.2.2⟩ hρ hLL)
theorem r_lsub {x z : Int64} (hd : decode b pc = .ok (.lsub, 1)) (h : R l G cy y b nL rt d mc ms Q (pc + 1) lv (.long (x - z) :: st) S k n) : R l G cy y b nL rt d mc ms Q pc lv (.long z :: .long x :: st) S k n := by
  intro p e s m args below meth c H locs ls A ρ L0 ρ0 X hK hA hP hD hS hl hoL hoS hρ hLL
  obtain ⟨hx, hb, hr, hml, hown, hts, hlk, hnm⟩ := id X
  exact lv_lsub hx hb hd (h p e s m args below meth c H locs ls A ρ L0 ρ0 X hK hA hP hD hS hl hoL ⟨trivial, hoS.2.2⟩ hρ hLL)
theorem r_lmul {x z : Int64} (hd : decode b pc = .ok (.lmul, 1)) (h : R l G cy y b nL rt d mc ms Q (pc + 1) lv (.long (x * z) :: st) S k n) : R l G cy y b nL rt d mc ms Q pc lv (.long z :: .long x :: st) S k n := by
  intro p e s m args below meth c H locs ls A ρ L0 ρ0 X hK hA hP hD hS hl hoL hoS hρ hLL
  obtain ⟨hx, hb, hr, hml, hown, hts, hlk, hnm⟩ := id X
  exact lv_lmul hx hb hd (h p e s m args below meth c H locs ls A ρ L0 ρ0 X hK hA hP hD hS hl hoL ⟨trivial, hoS.2.2⟩ hρ hLL)
theorem r_ldiv {x z : Int64} (hd : decode b pc = .ok (.ldiv, 1)) (hne : ¬ z = 0) (h : R l G cy y b nL rt d mc ms Q (pc + 1) lv (.long (x / z) :: st) S k n) : R l G cy y b nL rt d mc ms Q pc lv (.long z :: .long x :: st) S k n := by
  intro p e s m args below meth c H locs ls A ρ L0 ρ0 X hK hA hP hD hS hl hoL hoS hρ hLL
  obtain ⟨hx, hb, hr, hml, hown, hts, hlk, hnm⟩ := id X
  exact lv_ldiv hx hb hd hne (h p e s m args below meth c H locs ls A ρ L0 ρ0 X hK hA hP hD hS hl hoL ⟨trivial, hoS.2.2⟩ hρ hLL)
theorem r_lrem {x z : Int64} (hd : decode b pc = .ok (.lrem, 1)) (hne : ¬ z = 0) (h : R l G cy y b nL rt d mc ms Q (pc + 1) lv (.long (x - x / z * z) :: st) S k n) : R l G cy y b nL rt d mc ms Q pc lv (.long z :: .long x :: st) S k n := by
  intro p e s m args below meth c H locs ls A ρ L0 ρ0 X hK hA hP hD hS hl hoL hoS hρ hLL
  obtain ⟨hx, hb, hr, hml, hown, hts, hlk, hnm⟩ := id X
  exact lv_lrem hx hb hd hne (h p e s m args below meth c H locs ls A ρ L0 ρ0 X hK hA hP hD hS hl hoL ⟨trivial, hoS.2.2⟩ hρ hLL)
theorem r_lcmp {x z : Int64} (hd : decode b pc = .ok (.lcmp, 1)) (h : R l G cy y b nL rt d mc ms Q (pc + 1) lv (.int (lg_cmp x z) :: st) S k n) : R l G cy y b nL rt d mc ms Q pc lv (.long z :: .long x :: st) S k n := by
  intro p e s m args below meth c H locs ls A ρ L0 ρ0 X hK hA hP hD hS hl hoL hoS hρ hLL
  obtain ⟨hx, hb, hr, hml, hown, hts, hlk, hnm⟩ := id X
  exact W.lcmp hx hb hd (h p e s m args below meth c H locs ls A ρ L0 ρ0 X hK hA hP hD hS hl hoL ⟨trivial, hoS.2.2⟩ hρ hLL)
theorem r_i2l {x : Int32} (hd : decode b pc = .ok (.i2l, 1)) (h : R l G cy y b nL rt d mc ms Q (pc + 1) lv (.long x.toInt64 :: st) S k n) : R l G cy y b nL rt d mc ms Q pc lv (.int x :: st) S k n := by
  intro p e s m args below meth c H locs ls A ρ L0 ρ0 X hK hA hP hD hS hl hoL hoS hρ hLL
  obtain ⟨hx, hb, hr, hml, hown, hts, hlk, hnm⟩ := id X
  exact lv_i2l hx hb hd rfl (h p e s m args below meth c H locs ls A ρ L0 ρ0 X hK hA hP hD hS hl hoL ⟨trivial, hoS.2⟩ hρ hLL)
theorem r_l2i {x : Int64} (hd : decode b pc = .ok (.l2i, 1)) (h : R l G cy y b nL rt d mc ms Q (pc + 1) lv (.int x.toInt32 :: st) S k n) : R l G cy y b nL rt d mc ms Q pc lv (.long x :: st) S k n := by
  intro p e s m args below meth c H locs ls A ρ L0 ρ0 X hK hA hP hD hS hl hoL hoS hρ hLL
  obtain ⟨hx, hb, hr, hml, hown, hts, hlk, hnm⟩ := id X
  exact lv_l2i hx hb hd rfl (h p e s m args below meth c H locs ls A ρ L0 ρ0 X hK hA hP hD hS hl hoL ⟨trivial, hoS.2⟩ hρ hLL)
theorem r_dup {a1 : Value} (hd : decode b pc = .ok (.dup, 1)) (hc : a1.category = 1) (h : R l G cy y b nL rt d mc ms Q (pc + 1) lv (a1 :: a1 :: st) S k n) : R l G cy y b nL rt d mc ms Q pc lv (a1 :: st) S k n := by
  intro p e s m args below meth c H locs ls A ρ L0 ρ0 X hK hA hP hD hS hl hoL hoS hρ hLL
  obtain ⟨hx, hb, hr, hml, hown, hts, hlk, hnm⟩ := id X
  exact lv_dup hx hb hd ((rn_cat ρ a1).trans hc) (h p e s m args below meth c H locs ls A ρ L0 ρ0 X hK hA hP hD hS hl hoL ⟨hoS.1, hoS⟩ hρ hLL)
theorem r_pop {a1 : Value} (hd : decode b pc = .ok (.pop, 1)) (hc : a1.category = 1) (h : R l G cy y b nL rt d mc ms Q (pc + 1) lv st S k n) : R l G cy y b nL rt d mc ms Q pc lv (a1 :: st) S k n := by
  intro p e s m args below meth c H locs ls A ρ L0 ρ0 X hK hA hP hD hS hl hoL hoS hρ hLL
  obtain ⟨hx, hb, hr, hml, hown, hts, hlk, hnm⟩ := id X
  exact lv_pop hx hb hd ((rn_cat ρ a1).trans hc) (h p e s m args below meth c H locs ls A ρ L0 ρ0 X hK hA hP hD hS hl hoL hoS.2 hρ hLL)
theorem r_dup2 {a1 a2 : Value} (hd : decode b pc = .ok (.dup2, 1)) (hc : a1.category = 1) (hc2 : a2.category = 1) (h : R l G cy y b nL rt d mc ms Q (pc + 1) lv (a1 :: a2 :: a1 :: a2 :: st) S k n) : R l G cy y b nL rt d mc ms Q pc lv (a1 :: a2 :: st) S k n := by
  intro p e s m args below meth c H locs ls A ρ L0 ρ0 X hK hA hP hD hS hl hoL hoS hρ hLL
  obtain ⟨hx, hb, hr, hml, hown, hts, hlk, hnm⟩ := id X
  exact lv_dup2_11 hx hb hd ((rn_cat ρ a1).trans hc) ((rn_cat ρ a2).trans hc2) (h p e s m args below meth c H locs ls A ρ L0 ρ0 X hK hA hP hD hS hl hoL ⟨hoS.1, hoS.2.1, hoS⟩ hρ hLL)
theorem r_dup_x1 {a1 a2 : Value} (hd : decode b pc = .ok (.dup_x1, 1)) (hc : a1.category = 1) (hc2 : a2.category = 1) (h : R l G cy y b nL rt d mc ms Q (pc + 1) lv (a1 :: a2 :: a1 :: st) S k n) : R l G cy y b nL rt d mc ms Q pc lv (a1 :: a2 :: st) S k n := by
  intro p e s m args below meth c H locs ls A ρ L0 ρ0 X hK hA hP hD hS hl hoL hoS hρ hLL
  obtain ⟨hx, hb, hr, hml, hown, hts, hlk, hnm⟩ := id X
  exact lv_dup_x1 hx hb hd ((rn_cat ρ a1).trans hc) ((rn_cat ρ a2).trans hc2) (h p e s m args below meth c H locs ls A ρ L0 ρ0 X hK hA hP hD hS hl hoL ⟨hoS.1, hoS.2.1, hoS.1, hoS.2.2⟩ hρ hLL)
theorem r_if_eq {x : Int32} {off : Int} (t : Nat) (hd : decode b pc = .ok (.ifCond .eq off, 3)) (ht : (pc : Int) + off = (t : Int)) (h1 : x = 0 → R l G cy y b nL rt d mc ms Q t lv st S k n) (h2 : ¬ x = 0 → R l G cy y b nL rt d mc ms Q (pc + 3) lv st S k n) : R l G cy y b nL rt d mc ms Q pc lv (.int x :: st) S k n := by
  intro p e s m args below meth c H locs ls A ρ L0 ρ0 X hK hA hP hD hS hl hoL hoS hρ hLL
  obtain ⟨hx, hb, hr, hml, hown, hts, hlk, hnm⟩ := id X
  exact lv_if_eq hx hb hd ht (fun q => h1 q p e s m args below meth c H locs ls A ρ L0 ρ0 X hK hA hP hD hS hl hoL hoS.2 hρ hLL) (fun q => h2 q p e s m args below meth c H locs ls A ρ L0 ρ0 X hK hA hP hD hS hl hoL hoS.2 hρ hLL)
theorem r_icmp_eq {x z : Int32} {off : Int} (t : Nat) (hd : decode b pc = .ok (.if_icmp .eq off, 3)) (ht : (pc : Int) + off = (t : Int)) (h1 : x = z → R l G cy y b nL rt d mc ms Q t lv st S k n) (h2 : ¬ x = z → R l G cy y b nL rt d mc ms Q (pc + 3) lv st S k n) : R l G cy y b nL rt d mc ms Q pc lv (.int z :: .int x :: st) S k n := by
  intro p e s m args below meth c H locs ls A ρ L0 ρ0 X hK hA hP hD hS hl hoL hoS hρ hLL
  obtain ⟨hx, hb, hr, hml, hown, hts, hlk, hnm⟩ := id X
  exact lv_icmp_eq hx hb hd ht (fun q => h1 q p e s m args below meth c H locs ls A ρ L0 ρ0 X hK hA hP hD hS hl hoL hoS.2.2 hρ hLL) (fun q => h2 q p e s m args below meth c H locs ls A ρ L0 ρ0 X hK hA hP hD hS hl hoL hoS.2.2 hρ hLL)
theorem r_if_ne {x : Int32} {off : Int} (t : Nat) (hd : decode b pc = .ok (.ifCond .ne off, 3)) (ht : (pc : Int) + off = (t : Int)) (h1 : ¬ x = 0 → R l G cy y b nL rt d mc ms Q t lv st S k n) (h2 : x = 0 → R l G cy y b nL rt d mc ms Q (pc + 3) lv st S k n) : R l G cy y b nL rt d mc ms Q pc lv (.int x :: st) S k n := by
  intro p e s m args below meth c H locs ls A ρ L0 ρ0 X hK hA hP hD hS hl hoL hoS hρ hLL
  obtain ⟨hx, hb, hr, hml, hown, hts, hlk, hnm⟩ := id X
  exact lv_if_ne hx hb hd ht (fun q => h1 q p e s m args below meth c H locs ls A ρ L0 ρ0 X hK hA hP hD hS hl hoL hoS.2 hρ hLL) (fun q => h2 q p e s m args below meth c H locs ls A ρ L0 ρ0 X hK hA hP hD hS hl hoL hoS.2 hρ hLL)
theorem r_icmp_ne {x z : Int32} {off : Int} (t : Nat) (hd : decode b pc = .ok (.if_icmp .ne off, 3)) (ht : (pc : Int) + off = (t : Int)) (h1 : ¬ x = z → R l G cy y b nL rt d mc ms Q t lv st S k n) (h2 : x = z → R l G cy y b nL rt d mc ms Q (pc + 3) lv st S k n) : R l G cy y b nL rt d mc ms Q pc lv (.int z :: .int x :: st) S k n := by
  intro p e s m args below meth c H locs ls A ρ L0 ρ0 X hK hA hP hD hS hl hoL hoS hρ hLL
  obtain ⟨hx, hb, hr, hml, hown, hts, hlk, hnm⟩ := id X
  exact lv_icmp_ne hx hb hd ht (fun q => h1 q p e s m args below meth c H locs ls A ρ L0 ρ0 X hK hA hP hD hS hl hoL hoS.2.2 hρ hLL) (fun q => h2 q p e s m args below meth c H locs ls A ρ L0 ρ0 X hK hA hP hD hS hl hoL hoS.2.2 hρ hLL)
theorem r_if_lt {x : Int32} {off : Int} (t : Nat) (hd : decode b pc = .ok (.ifCond .lt off, 3)) (ht : (pc : Int) + off = (t : Int)) (h1 : x < 0 → R l G cy y b nL rt d mc ms Q t lv st S k n) (h2 : ¬ x < 0 → R l G cy y b nL rt d mc ms Q (pc + 3) lv st S k n) : R l G cy y b nL rt d mc ms Q pc lv (.int x :: st) S k n := by
  intro p e s m args below meth c H locs ls A ρ L0 ρ0 X hK hA hP hD hS hl hoL hoS hρ hLL
  obtain ⟨hx, hb, hr, hml, hown, hts, hlk, hnm⟩ := id X
  exact lv_if_lt hx hb hd ht (fun q => h1 q p e s m args below meth c H locs ls A ρ L0 ρ0 X hK hA hP hD hS hl hoL hoS.2 hρ hLL) (fun q => h2 q p e s m args below meth c H locs ls A ρ L0 ρ0 X hK hA hP hD hS hl hoL hoS.2 hρ hLL)
theorem r_icmp_lt {x z : Int32} {off : Int} (t : Nat) (hd : decode b pc = .ok (.if_icmp .lt off, 3)) (ht : (pc : Int) + off = (t : Int)) (h1 : x < z → R l G cy y b nL rt d mc ms Q t lv st S k n) (h2 : ¬ x < z → R l G cy y b nL rt d mc ms Q (pc + 3) lv st S k n) : R l G cy y b nL rt d mc ms Q pc lv (.int z :: .int x :: st) S k n := by
  intro p e s m args below meth c H locs ls A ρ L0 ρ0 X hK hA hP hD hS hl hoL hoS hρ hLL
  obtain ⟨hx, hb, hr, hml, hown, hts, hlk, hnm⟩ := id X
  exact lv_icmp_lt hx hb hd ht (fun q => h1 q p e s m args below meth c H locs ls A ρ L0 ρ0 X hK hA hP hD hS hl hoL hoS.2.2 hρ hLL) (fun q => h2 q p e s m args below meth c H locs ls A ρ L0 ρ0 X hK hA hP hD hS hl hoL hoS.2.2 hρ hLL)
theorem r_if_ge {x : Int32} {off : Int} (t : Nat) (hd : decode b pc = .ok (.ifCond .ge off, 3)) (ht : (pc : Int) + off = (t : Int)) (h1 : 0 ≤ x → R l G cy y b nL rt d mc ms Q t lv st S k n) (h2 : ¬ 0 ≤ x → R l G cy y b nL rt d mc ms Q (pc + 3) lv st S k n) : R l G cy y b nL rt d mc ms Q pc lv (.int x :: st) S k n := by
  intro p e s m args below meth c H locs ls A ρ L0 ρ0 X hK hA hP hD hS hl hoL hoS hρ hLL
  obtain ⟨hx, hb, hr, hml, hown, hts, hlk, hnm⟩ := id X
  exact lv_if_ge hx hb hd ht (fun q => h1 q p e s m args below meth c H locs ls A ρ L0 ρ0 X hK hA hP hD hS hl hoL hoS.2 hρ hLL) (fun q => h2 q p e s m args below meth c H locs ls A ρ L0 ρ0 X hK hA hP hD hS hl hoL hoS.2 hρ hLL)
theorem r_icmp_ge {x z : Int32} {off : Int} (t : Nat) (hd : decode b pc = .ok (.if_icmp .ge off, 3)) (ht : (pc : Int) + off = (t : Int)) (h1 : z ≤ x → R l G cy y b nL rt d mc ms Q t lv st S k n) (h2 : ¬ z ≤ x → R l G cy y b nL rt d mc ms Q (pc + 3) lv st S k n) : R l G cy y b nL rt d mc ms Q pc lv (.int z :: .int x :: st) S k n := by
  intro p e s m args below meth c H locs ls A ρ L0 ρ0 X hK hA hP hD hS hl hoL hoS hρ hLL
  obtain ⟨hx, hb, hr, hml, hown, hts, hlk, hnm⟩ := id X
  exact lv_icmp_ge hx hb hd ht (fun q => h1 q p e s m args below meth c H locs ls A ρ L0 ρ0 X hK hA hP hD hS hl hoL hoS.2.2 hρ hLL) (fun q => h2 q p e s m args below meth c H locs ls A ρ L0 ρ0 X hK hA hP hD hS hl hoL hoS.2.2 hρ hLL)
theorem r_if_gt {x : Int32} {off : Int} (t : Nat) (hd : decode b pc = .ok (.ifCond .gt off, 3)) (ht : (pc : Int) + off = (t : Int)) (h1 : 0 < x → R l G cy y b nL rt d mc ms Q t lv st S k n) (h2 : ¬ 0 < x → R l G cy y b nL rt d mc ms Q (pc + 3) lv st S k n) : R l G cy y b nL rt d mc ms Q pc lv (.int x :: st) S k n := by
  intro p e s m args below meth c H locs ls A ρ L0 ρ0 X hK hA hP hD hS hl hoL hoS hρ hLL
  obtain ⟨hx, hb, hr, hml, hown, hts, hlk, hnm⟩ := id X
  exact lv_if_gt hx hb hd ht (fun q => h1 q p e s m args below meth c H locs ls A ρ L0 ρ0 X hK hA hP hD hS hl hoL hoS.2 hρ hLL) (fun q => h2 q p e s m args below meth c H locs ls A ρ L0 ρ0 X hK hA hP hD hS hl hoL hoS.2 hρ hLL)
theorem r_icmp_gt {x z : Int32} {off : Int} (t : Nat) (hd : decode b pc = .ok (.if_icmp .gt off, 3)) (ht : (pc : Int) + off = (t : Int)) (h1 : z < x → R l G cy y b nL rt d mc ms Q t lv st S k n) (h2 : ¬ z < x → R l G cy y b nL rt d mc ms Q (pc + 3) lv st S k n) : R l G cy y b nL rt d mc ms Q pc lv (.int z :: .int x :: st) S k n := by
  intro p e s m args below meth c H locs ls A ρ L0 ρ0 X hK hA hP hD hS hl hoL hoS hρ hLL
  obtain ⟨hx, hb, hr, hml, hown, hts, hlk, hnm⟩ := id X
  exact lv_icmp_gt hx hb hd ht (fun q => h1 q p e s m args below meth c H locs ls A ρ L0 ρ0 X hK hA hP hD hS hl hoL hoS.2.2 hρ hLL) (fun q => h2 q p e s m args below meth c H locs ls A ρ L0 ρ0 X hK hA hP hD hS hl hoL hoS.2.2 hρ hLL)
theorem r_if_le {x : Int32} {off : Int} (t : Nat) (hd : decode b pc = .ok (.ifCond .le off, 3)) (ht : (pc : Int) + off = (t : Int)) (h1 : x ≤ 0 → R l G cy y b nL rt d mc ms Q t lv st S k n) (h2 : ¬ x ≤ 0 → R l G cy y b nL rt d mc ms Q (pc + 3) lv st S k n) : R l G cy y b nL rt d mc ms Q pc lv (.int x :: st) S k n := by
  intro p e s m args below meth c H locs ls A ρ L0 ρ0 X hK hA hP hD hS hl hoL hoS hρ hLL
  obtain ⟨hx, hb, hr, hml, hown, hts, hlk, hnm⟩ := id X
  exact lv_if_le hx hb hd ht (fun q => h1 q p e s m args below meth c H locs ls A ρ L0 ρ0 X hK hA hP hD hS hl hoL hoS.2 hρ hLL) (fun q => h2 q p e s m args below meth c H locs ls A ρ L0 ρ0 X hK hA hP hD hS hl hoL hoS.2 hρ hLL)
theorem r_icmp_le {x z : Int32} {off : Int} (t : Nat) (hd : decode b pc = .ok (.if_icmp .le off, 3)) (ht : (pc : Int) + off = (t : Int)) (h1 : x ≤ z → R l G cy y b nL rt d mc ms Q t lv st S k n) (h2 : ¬ x ≤ z → R l G cy y b nL rt d mc ms Q (pc + 3) lv st S k n) : R l G cy y b nL rt d mc ms Q pc lv (.int z :: .int x :: st) S k n := by
  intro p e s m args below meth c H locs ls A ρ L0 ρ0 X hK hA hP hD hS hl hoL hoS hρ hLL
  obtain ⟨hx, hb, hr, hml, hown, hts, hlk, hnm⟩ := id X
  exact lv_icmp_le hx hb hd ht (fun q => h1 q p e s m args below meth c H locs ls A ρ L0 ρ0 X hK hA hP hD hS hl hoL hoS.2.2 hρ hLL) (fun q => h2 q p e s m args below meth c H locs ls A ρ L0 ρ0 X hK hA hP hD hS hl hoL hoS.2.2 hρ hLL)
theorem r_goto {off : Int} (t : Nat) (hd : decode b pc = .ok (.goto off, 3)) (ht : (pc : Int) + off = (t : Int)) (h : R l G cy y b nL rt d mc ms Q t lv st S k n) : R l G cy y b nL rt d mc ms Q pc lv st S k n := by
  intro p e s m args below meth c H locs ls A ρ L0 ρ0 X hK hA hP hD hS hl hoL hoS hρ hLL
  obtain ⟨hx, hb, hr, hml, hown, hts, hlk, hnm⟩ := id X
  exact lv_goto hx hb hd ht (h p e s m args below meth c H locs ls A ρ L0 ρ0 X hK hA hP hD hS hl hoL hoS hρ hLL)
theorem r_ifnull {x : Nat} {off : Int} (hd : decode b pc = .ok (.ifnull off, 3)) (h : R l G cy y b nL rt d mc ms Q (pc + 3) lv st S k n) : R l G cy y b nL rt d mc ms Q pc lv (.ref x :: st) S k n := by
  intro p e s m args below meth c H locs ls A ρ L0 ρ0 X hK hA hP hD hS hl hoL hoS hρ hLL
  obtain ⟨hx, hb, hr, hml, hown, hts, hlk, hnm⟩ := id X
  exact lv_ifnull hx hb hd (h p e s m args below meth c H locs ls A ρ L0 ρ0 X hK hA hP hD hS hl hoL hoS.2 hρ hLL)
theorem r_ifnullN {off : Int} (t : Nat) (hd : decode b pc = .ok (.ifnull off, 3)) (ht : (pc : Int) + off = (t : Int)) (h : R l G cy y b nL rt d mc ms Q t lv st S k n) : R l G cy y b nL rt d mc ms Q pc lv (.null :: st) S k n := by
  intro p e s m args below meth c H locs ls A ρ L0 ρ0 X hK hA hP hD hS hl hoL hoS hρ hLL
  obtain ⟨hx, hb, hr, hml, hown, hts, hlk, hnm⟩ := id X
  exact lv_ifnullN hx hb hd ht (h p e s m args below meth c H locs ls A ρ L0 ρ0 X hK hA hP hD hS hl hoL hoS.2 hρ hLL)
theorem r_ifnonnull {x : Nat} {off : Int} (t : Nat) (hd : decode b pc = .ok (.ifnonnull off, 3)) (ht : (pc : Int) + off = (t : Int)) (h : R l G cy y b nL rt d mc ms Q t lv st S k n) : R l G cy y b nL rt d mc ms Q pc lv (.ref x :: st) S k n := by
  intro p e s m args below meth c H locs ls A ρ L0 ρ0 X hK hA hP hD hS hl hoL hoS hρ hLL
  obtain ⟨hx, hb, hr, hml, hown, hts, hlk, hnm⟩ := id X
  exact lv_ifnonnull hx hb hd ht (h p e s m args below meth c H locs ls A ρ L0 ρ0 X hK hA hP hD hS hl hoL hoS.2 hρ hLL)
theorem r_ifnonnullN {off : Int} (hd : decode b pc = .ok (.ifnonnull off, 3)) (h : R l G cy y b nL rt d mc ms Q (pc + 3) lv st S k n) : R l G cy y b nL rt d mc ms Q pc lv (.null :: st) S k n := by
  intro p e s m args below meth c H locs ls A ρ L0 ρ0 X hK hA hP hD hS hl hoL hoS hρ hLL
  obtain ⟨hx, hb, hr, hml, hown, hts, hlk, hnm⟩ := id X
  exact lv_ifnonnullN hx hb hd (h p e s m args below meth c H locs ls A ρ L0 ρ0 X hK hA hP hD hS hl hoL hoS.2 hρ hLL)
theorem r_tableOut {dflt lo hi : Int} {offs : Array Int} {len : Nat} {x : Int32} (t : Nat) (hd : decode b pc = .ok (.tableswitch dflt lo hi offs, len)) (hq : x.toInt < lo ∨ hi < x.toInt) (ht : (pc : Int) + dflt = (t : Int)) (h : R l G cy y b nL rt d mc ms Q t lv st S k n) : R l G cy y b nL rt d mc ms Q pc lv (.int x :: st) S k n := by
  intro p e s m args below meth c H locs ls A ρ L0 ρ0 X hK hA hP hD hS hl hoL hoS hρ hLL
  obtain ⟨hx, hb, hr, hml, hown, hts, hlk, hnm⟩ := id X
  exact lv_tableOut hx hb hd hq ht (h p e s m args below meth c H locs ls A ρ L0 ρ0 X hK hA hP hD hS hl hoL hoS.2 hρ hLL)
theorem r_tableIn {dflt lo hi : Int} {offs : Array Int} {len : Nat} {x : Int32} {off : Int} (t : Nat) (hd : decode b pc = .ok (.tableswitch dflt lo hi offs, len)) (q1 : ¬ x.toInt < lo) (q2 : ¬ hi < x.toInt) (ho : offs[(x.toInt - lo).toNat]? = some off) (ht : (pc : Int) + off = (t : Int)) (h : R l G cy y b nL rt d mc ms Q t lv st S k n) : R l G cy y b nL rt d mc ms Q pc lv (.int x :: st) S k n := by
  intro p e s m args below meth c H locs ls A ρ L0 ρ0 X hK hA hP hD hS hl hoL hoS hρ hLL
  obtain ⟨hx, hb, hr, hml, hown, hts, hlk, hnm⟩ := id X
  exact lv_tableIn hx hb hd q1 q2 ho ht (h p e s m args below meth c H locs ls A ρ L0 ρ0 X hK hA hP hD hS hl hoL hoS.2 hρ hLL)
theorem r_lookup {dflt : Int} {ps : Array (Int × Int)} {len : Nat} {x : Int32} {off : Int} (t : Nat) (hd : decode b pc = .ok (.lookupswitch dflt ps, len)) (hp : (ps.toList.zip (ps.toList.drop 1)).all (fun (a, next) => a.1 < next.1) = true) (ho : Op.lookupswitch.offset ps.toList dflt x.toInt = off) (ht : (pc : Int) + off = (t : Int)) (h : R l G cy y b nL rt d mc ms Q t lv st S k n) : R l G cy y b nL rt d mc ms Q pc lv (.int x :: st) S k n := by
  intro p e s m args below meth c H locs ls A ρ L0 ρ0 X hK hA hP hD hS hl hoL hoS hρ hLL
  obtain ⟨hx, hb, hr, hml, hown, hts, hlk, hnm⟩ := id X
  exact lv_lookup hx hb hd hp ho ht (h p e s m args below meth c H locs ls A ρ L0 ρ0 X hK hA hP hD hS hl hoL hoS.2 hρ hLL)
theorem r_iret {x : Int32} (hd : decode b pc = .ok (.ireturn, 1)) (hrt : rt = some .int) (hk : k ≤ mc) (hn : n ≤ ms) (hq : Q (some (.int x)) S) : R l G cy y b nL rt d mc ms Q pc lv [.int x] S k n := by
  intro p e s m args below meth c H locs ls A ρ L0 ρ0 X hK hA hP hD hS hl hoL hoS hρ hLL
  obtain ⟨hx, hb, hr, hml, hown, hts, hlk, hnm⟩ := id X
  refine W.widen hk hn ?_
  exact W.iret hx hb (hr.trans hrt) (fun t ht hW => ⟨⟨some (.int x), S, ρ, rfl, hq, hρ, hLL, (fun x hx => by cases hx; exact trivial), by rw [ht]; exact hP, hD⟩, hS.F ht⟩) hS.2.2 hd hlk
theorem r_zret {x : Int32} (hd : decode b pc = .ok (.ireturn, 1)) (hrt : rt = some .boolean) (hz : narrow .boolean (.int x) = .int x) (hk : k ≤ mc) (hn : n ≤ ms) (hq : Q (some (.int x)) S) : R l G cy y b nL rt d mc ms Q pc lv [.int x] S k n := by
  intro p e s m args below meth c H locs ls A ρ L0 ρ0 X hK hA hP hD hS hl hoL hoS hρ hLL
  obtain ⟨hx, hb, hr, hml, hown, hts, hlk, hnm⟩ := id X
  refine W.widen hk hn ?_
  exact W.zret hx hb (hr.trans hrt) hz (fun t ht hW => ⟨⟨some (.int x), S, ρ, rfl, hq, hρ, hLL, (fun x hx => by cases hx; exact trivial), by rw [ht]; exact hP, hD⟩, hS.F ht⟩) hS.2.2 hd hlk
theorem r_vret  (hd : decode b pc = .ok (.return_, 1)) (hrt : rt = none) (hk : k ≤ mc) (hn : n ≤ ms) (hq : Q none S) : R l G cy y b nL rt d mc ms Q pc lv [] S k n := by
  intro p e s m args below meth c H locs ls A ρ L0 ρ0 X hK hA hP hD hS hl hoL hoS hρ hLL
  obtain ⟨hx, hb, hr, hml, hown, hts, hlk, hnm⟩ := id X
  refine W.widen hk hn ?_
  exact W.vret hx hb (hr.trans hrt) (fun t ht hW => ⟨⟨none, S, ρ, rfl, hq, hρ, hLL, (fun x hx => by cases hx), by rw [ht]; exact hP, hD⟩, hS.F ht⟩) hS.2.2 hd hlk
theorem r_aret {C : String} {r : Option Nat} (hd : decode b pc = .ok (.areturn, 1)) (hrt : rt = some (.object C)) (hk : k ≤ mc) (hn : n ≤ ms) (hq : Q (some (va_rf r)) S) : R l G cy y b nL rt d mc ms Q pc lv [va_rf r] S k n := by
  intro p e s m args below meth c H locs ls A ρ L0 ρ0 X hK hA hP hD hS hl hoL hoS hρ hLL
  obtain ⟨hx, hb, hr, hml, hown, hts, hlk, hnm⟩ := id X
  refine W.widen hk hn ?_
  rw [show [va_rf r].map (rn ρ) = [va_rf (r.map ρ)] by rw [← rn_rf]; rfl]
  exact W.aret hx hb (hr.trans hrt) (Or.inl ⟨C, rfl⟩) (va_rf_or _) (fun t ht hW => ⟨⟨some (va_rf r), S, ρ, by rw [← rn_rf]; rfl, hq, hρ, hLL, fun x hx => by cases hx; exact hoS.1, by rw [ht]; exact hP, hD⟩, hS.F ht⟩) hS.2.2 hd hlk
-- stores by place
theorem r_ist0 {x0 : Option Value} {r0 : List (Option Value)} {x : Int32} (hd : decode b pc = .ok (.istore_n 0, 1)) (hn : 0 < nL) (h : R l G cy y b nL rt d mc ms Q (pc + 1) (some (.int x) :: r0) st S k n) : R l G cy y b nL rt d mc ms Q pc (x0 :: r0) (.int x :: st) S k n := r_istore_n hd rfl hn (fun a ha => by cases ha) h
theorem r_ast0 {x0 : Option Value} {r0 : List (Option Value)} {x : Nat} (hd : decode b pc = .ok (.astore_n 0, 1)) (hn : 0 < nL) (h : R l G cy y b nL rt d mc ms Q (pc + 1) (some (.ref x) :: r0) st S k n) : R l G cy y b nL rt d mc ms Q pc (x0 :: r0) (.ref x :: st) S k n := r_astore_n hd rfl hn (fun a ha => by cases ha) h
theorem r_ast0N {x0 : Option Value} {r0 : List (Option Value)}  (hd : decode b pc = .ok (.astore_n 0, 1)) (hn : 0 < nL) (h : R l G cy y b nL rt d mc ms Q (pc + 1) (some (.null) :: r0) st S k n) : R l G cy y b nL rt d mc ms Q pc (x0 :: r0) (.null :: st) S k n := r_astore_nN hd rfl hn (fun a ha => by cases ha) h
theorem r_inc0 {x0 : Option Value} {r0 : List (Option Value)} {z : Int} {x v : Int32} (hd : decode b pc = .ok (.iinc 0 z, 3)) (hz : x + Int32.ofInt z = v) (hn : 0 < nL) (h : R l G cy y b nL rt d mc ms Q (pc + 3) (some (.int v) :: r0) st S k n) : R l G cy y b nL rt d mc ms Q pc (some (.int x) :: r0) st S k n := r_iinc hd rfl hz hn (fun a ha => by cases ha) h
theorem r_ist1 {a0 x0 : Option Value} {r0 : List (Option Value)} {x : Int32} (hd : decode b pc = .ok (.istore_n 1, 1)) (hn : 1 < nL) (hp : okp a0 = true) (h : R l G cy y b nL rt d mc ms Q (pc + 1) (a0 :: some (.int x) :: r0) st S k n) : R l G cy y b nL rt d mc ms Q pc (a0 :: x0 :: r0) (.int x :: st) S k n := r_istore_n hd rfl hn (fun a ha => by cases ha; exact hp) h
theorem r_ast1 {a0 x0 : Option Value} {r0 : List (Option Value)} {x : Nat} (hd : decode b pc = .ok (.astore_n 1, 1)) (hn : 1 < nL) (hp : okp a0 = true) (h : R l G cy y b nL rt d mc ms Q (pc + 1) (a0 :: some (.ref x) :: r0) st S k n) : R l G cy y b nL rt d mc ms Q pc (a0 :: x0 :: r0) (.ref x :: st) S k n := r_astore_n hd rfl hn (fun a ha => by cases ha; exact hp) h
theorem r_ast1N {a0 x0 : Option Value} {r0 : List (Option Value)}  (hd : decode b pc = .ok (.astore_n 1, 1)) (hn : 1 < nL) (hp : okp a0 = true) (h : R l G cy y b nL rt d mc ms Q (pc + 1) (a0 :: some (.null) :: r0) st S k n) : R l G cy y b nL rt d mc ms Q pc (a0 :: x0 :: r0) (.null :: st) S k n := r_astore_nN hd rfl hn (fun a ha => by cases ha; exact hp) h
theorem r_inc1 {a0 x0 : Option Value} {r0 : List (Option Value)} {z : Int} {x v : Int32} (hd : decode b pc = .ok (.iinc 1 z, 3)) (hz : x + Int32.ofInt z = v) (hn : 1 < nL) (hp : okp a0 = true) (h : R l G cy y b nL rt d mc ms Q (pc + 3) (a0 :: some (.int v) :: r0) st S k n) : R l G cy y b nL rt d mc ms Q pc (a0 :: some (.int x) :: r0) st S k n := r_iinc hd rfl hz hn (fun a ha => by cases ha; exact hp) h
theorem r_lst1 {a0 x0 x1 : Option Value} {r0 : List (Option Value)} {x : Int64} (hd : decode b pc = .ok (.lstore_n 1, 1)) (hn : 1 + 1 < nL) (hp : okp a0 = true) (h : R l G cy y b nL rt d mc ms Q (pc + 1) (a0 :: some (.long x) :: none :: r0) st S k n) : R l G cy y b nL rt d mc ms Q pc (a0 :: x0 :: x1 :: r0) (.long x :: st) S k n := r_lstore_n hd rfl hn (fun a ha => by cases ha; exact hp) h
theorem r_ist2 {a0 a1 x0 : Option Value} {r0 : List (Option Value)} {x : Int32} (hd : decode b pc = .ok (.istore_n 2, 1)) (hn : 2 < nL) (hp : okp a1 = true) (h : R l G cy y b nL rt d mc ms Q (pc + 1) (a0 :: a1 :: some (.int x) :: r0) st S k n) : R l G cy y b nL rt d mc ms Q pc (a0 :: a1 :: x0 :: r0) (.int x :: st) S k n := r_istore_n hd rfl hn (fun a ha => by cases ha; exact hp) h
theorem r_ast2 {a0 a1 x0 : Option Value} {r0 : List (Option Value)} {x : Nat} (hd : decode b pc = .ok (.astore_n 2, 1)) (hn : 2 < nL) (hp : okp a1 = true) (h : R l G cy y b nL rt d mc ms Q (pc + 1) (a0 :: a1 :: some (.ref x) :: r0) st S k n) : R l G cy y b nL rt d mc ms Q pc (a0 :: a1 :: x0 :: r0) (.ref x :: st) S k n := r_astore_n hd rfl hn (fun a ha => by cases ha; exact hp) h
theorem r_ast2N {a0 a1 x0 : Option Value} {r0 : List (Option Value)}  (hd : decode b pc = .ok (.astore_n 2, 1)) (hn : 2 < nL) (hp : okp a1 = true) (h : R l G cy y b nL rt d mc ms Q (pc + 1) (a0 :: a1 :: some (.null) :: r0) st S k n) : R l G cy y b nL rt d mc ms Q pc (a0 :: a1 :: x0 :: r0) (.null :: st) S k n := r_astore_nN hd rfl hn (fun a ha => by cases ha; exact hp) h
theorem r_inc2 {a0 a1 x0 : Option Value} {r0 : List (Option Value)} {z : Int} {x v : Int32} (hd : decode b pc = .ok (.iinc 2 z, 3)) (hz : x + Int32.ofInt z = v) (hn : 2 < nL) (hp : okp a1 = true) (h : R l G cy y b nL rt d mc ms Q (pc + 3) (a0 :: a1 :: some (.int v) :: r0) st S k n) : R l G cy y b nL rt d mc ms Q pc (a0 :: a1 :: some (.int x) :: r0) st S k n := r_iinc hd rfl hz hn (fun a ha => by cases ha; exact hp) h
theorem r_lst2 {a0 a1 x0 x1 : Option Value} {r0 : List (Option Value)} {x : Int64} (hd : decode b pc = .ok (.lstore_n 2, 1)) (hn : 2 + 1 < nL) (hp : okp a1 = true) (h : R l G cy y b nL rt d mc ms Q (pc + 1) (a0 :: a1 :: some (.long x) :: none :: r0) st S k n) : R l G cy y b nL rt d mc ms Q pc (a0 :: a1 :: x0 :: x1 :: r0) (.long x :: st) S k n := r_lstore_n hd rfl hn (fun a ha => by cases ha; exact hp) h
theorem r_ist3 {a0 a1 a2 x0 : Option Value} {r0 : List (Option Value)} {x : Int32} (hd : decode b pc = .ok (.istore_n 3, 1)) (hn : 3 < nL) (hp : okp a2 = true) (h : R l G cy y b nL rt d mc ms Q (pc + 1) (a0 :: a1 :: a2 :: some (.int x) :: r0) st S k n) : R l G cy y b nL rt d mc ms Q pc (a0 :: a1 :: a2 :: x0 :: r0) (.int x :: st) S k n := r_istore_n hd rfl hn (fun a ha => by cases ha; exact hp) h
theorem r_ast3 {a0 a1 a2 x0 : Option Value} {r0 : List (Option Value)} {x : Nat} (hd : decode b pc = .ok (.astore_n 3, 1)) (hn : 3 < nL) (hp : okp a2 = true) (h : R l G cy y b nL rt d mc ms Q (pc + 1) (a0 :: a1 :: a2 :: some (.ref x) :: r0) st S k n) : R l G cy y b nL rt d mc ms Q pc (a0 :: a1 :: a2 :: x0 :: r0) (.ref x :: st) S k n := r_astore_n hd rfl hn (fun a ha => by cases ha; exact hp) h
theorem r_ast3N {a0 a1 a2 x0 : Option Value} {r0 : List (Option Value)}  (hd : decode b pc = .ok (.astore_n 3, 1)) (hn : 3 < nL) (hp : okp a2 = true) (h : R l G cy y b nL rt d mc ms Q (pc + 1) (a0 :: a1 :: a2 :: some (.null) :: r0) st S k n) : R l G cy y b nL rt d mc ms Q pc (a0 :: a1 :: a2 :: x0 :: r0) (.null :: st) S k n := r_astore_nN hd rfl hn (fun a ha => by cases ha; exact hp) h
theorem r_inc3 {a0 a1 a2 x0 : Option Value} {r0 : List (Option Value)} {z : Int} {x v : Int32} (hd : decode b pc = .ok (.iinc 3 z, 3)) (hz : x + Int32.ofInt z = v) (hn : 3 < nL) (hp : okp a2 = true) (h : R l G cy y b nL rt d mc ms Q (pc + 3) (a0 :: a1 :: a2 :: some (.int v) :: r0) st S k n) : R l G cy y b nL rt d mc ms Q pc (a0 :: a1 :: a2 :: some (.int x) :: r0) st S k n := r_iinc hd rfl hz hn (fun a ha => by cases ha; exact hp) h
theorem r_lst3 {a0 a1 a2 x0 x1 : Option Value} {r0 : List (Option Value)} {x : Int64} (hd : decode b pc = .ok (.lstore_n 3, 1)) (hn : 3 + 1 < nL) (hp : okp a2 = true) (h : R l G cy y b nL rt d mc ms Q (pc + 1) (a0 :: a1 :: a2 :: some (.long x) :: none :: r0) st S k n) : R l G cy y b nL rt d mc ms Q pc (a0 :: a1 :: a2 :: x0 :: x1 :: r0) (.long x :: st) S k n := r_lstore_n hd rfl hn (fun a ha => by cases ha; exact hp) h
theorem r_ist4 {a0 a1 a2 a3 x0 : Option Value} {r0 : List (Option Value)} {x : Int32} (hd : decode b pc = .ok (.istore 4, 2)) (hn : 4 < nL) (hp : okp a3 = true) (h : R l G cy y b nL rt d mc ms Q (pc + 2) (a0 :: a1 :: a2 :: a3 :: some (.int x) :: r0) st S k n) : R l G cy y b nL rt d mc ms Q pc (a0 :: a1 :: a2 :: a3 :: x0 :: r0) (.int x :: st) S k n := r_istore hd hn (fun a ha => by cases ha; exact hp) h
theorem r_ast4 {a0 a1 a2 a3 x0 : Option Value} {r0 : List (Option Value)} {x : Nat} (hd : decode b pc = .ok (.astore 4, 2)) (hn : 4 < nL) (hp : okp a3 = true) (h : R l G cy y b nL rt d mc ms Q (pc + 2) (a0 :: a1 :: a2 :: a3 :: some (.ref x) :: r0) st S k n) : R l G cy y b nL rt d mc ms Q pc (a0 :: a1 :: a2 :: a3 :: x0 :: r0) (.ref x :: st) S k n := r_astore hd hn (fun a ha => by cases ha; exact hp) h
theorem r_ast4N {a0 a1 a2 a3 x0 : Option Value} {r0 : List (Option Value)}  (hd : decode b pc = .ok (.astore 4, 2)) (hn : 4 < nL) (hp : okp a3 = true) (h : R l G cy y b nL rt d mc ms Q (pc + 2) (a0 :: a1 :: a2 :: a3 :: some (.null) :: r0) st S k n) : R l G cy y b nL rt d mc ms Q pc (a0 :: a1 :: a2 :: a3 :: x0 :: r0) (.null :: st) S k n := r_astoreN hd hn (fun a ha => by cases ha; exact hp) h
theorem r_inc4 {a0 a1 a2 a3 x0 : Option Value} {r0 : List (Option Value)} {z : Int} {x v : Int32} (hd : decode b pc = .ok (.iinc 4 z, 3)) (hz : x + Int32.ofInt z = v) (hn : 4 < nL) (hp : okp a3 = true) (h : R l G cy y b nL rt d mc ms Q (pc + 3) (a0 :: a1 :: a2 :: a3 :: some (.int v) :: r0) st S k n) : R l G cy y b nL rt d mc ms Q pc (a0 :: a1 :: a2 :: a3 :: some (.int x) :: r0) st S k n := r_iinc hd rfl hz hn (fun a ha => by cases ha; exact hp) h
theorem r_lst4 {a0 a1 a2 a3 x0 x1 : Option Value} {r0 : List (Option Value)} {x : Int64} (hd : decode b pc = .ok (.lstore 4, 2)) (hn : 4 + 1 < nL) (hp : okp a3 = true) (h : R l G cy y b nL rt d mc ms Q (pc + 2) (a0 :: a1 :: a2 :: a3 :: some (.long x) :: none :: r0) st S k n) : R l G cy y b nL rt d mc ms Q pc (a0 :: a1 :: a2 :: a3 :: x0 :: x1 :: r0) (.long x :: st) S k n := r_lstore hd hn (fun a ha => by cases ha; exact hp) h
theorem r_ist5 {a0 a1 a2 a3 a4 x0 : Option Value} {r0 : List (Option Value)} {x : Int32} (hd : decode b pc = .ok (.istore 5, 2)) (hn : 5 < nL) (hp : okp a4 = true) (h : R l G cy y b nL rt d mc ms Q (pc + 2) (a0 :: a1 :: a2 :: a3 :: a4 :: some (.int x) :: r0) st S k n) : R l G cy y b nL rt d mc ms Q pc (a0 :: a1 :: a2 :: a3 :: a4 :: x0 :: r0) (.int x :: st) S k n := r_istore hd hn (fun a ha => by cases ha; exact hp) h
theorem r_ast5 {a0 a1 a2 a3 a4 x0 : Option Value} {r0 : List (Option Value)} {x : Nat} (hd : decode b pc = .ok (.astore 5, 2)) (hn : 5 < nL) (hp : okp a4 = true) (h : R l G cy y b nL rt d mc ms Q (pc + 2) (a0 :: a1 :: a2 :: a3 :: a4 :: some (.ref x) :: r0) st S k n) : R l G cy y b nL rt d mc ms Q pc (a0 :: a1 :: a2 :: a3 :: a4 :: x0 :: r0) (.ref x :: st) S k n := r_astore hd hn (fun a ha => by cases ha; exact hp) h
theorem r_ast5N {a0 a1 a2 a3 a4 x0 : Option Value} {r0 : List (Option Value)}  (hd : decode b pc = .ok (.astore 5, 2)) (hn : 5 < nL) (hp : okp a4 = true) (h : R l G cy y b nL rt d mc ms Q (pc + 2) (a0 :: a1 :: a2 :: a3 :: a4 :: some (.null) :: r0) st S k n) : R l G cy y b nL rt d mc ms Q pc (a0 :: a1 :: a2 :: a3 :: a4 :: x0 :: r0) (.null :: st) S k n := r_astoreN hd hn (fun a ha => by cases ha; exact hp) h
theorem r_inc5 {a0 a1 a2 a3 a4 x0 : Option Value} {r0 : List (Option Value)} {z : Int} {x v : Int32} (hd : decode b pc = .ok (.iinc 5 z, 3)) (hz : x + Int32.ofInt z = v) (hn : 5 < nL) (hp : okp a4 = true) (h : R l G cy y b nL rt d mc ms Q (pc + 3) (a0 :: a1 :: a2 :: a3 :: a4 :: some (.int v) :: r0) st S k n) : R l G cy y b nL rt d mc ms Q pc (a0 :: a1 :: a2 :: a3 :: a4 :: some (.int x) :: r0) st S k n := r_iinc hd rfl hz hn (fun a ha => by cases ha; exact hp) h
theorem r_lst5 {a0 a1 a2 a3 a4 x0 x1 : Option Value} {r0 : List (Option Value)} {x : Int64} (hd : decode b pc = .ok (.lstore 5, 2)) (hn : 5 + 1 < nL) (hp : okp a4 = true) (h : R l G cy y b nL rt d mc ms Q (pc + 2) (a0 :: a1 :: a2 :: a3 :: a4 :: some (.long x) :: none :: r0) st S k n) : R l G cy y b nL rt d mc ms Q pc (a0 :: a1 :: a2 :: a3 :: a4 :: x0 :: x1 :: r0) (.long x :: st) S k n := r_lstore hd hn (fun a ha => by cases ha; exact hp) h
theorem r_ist6 {a0 a1 a2 a3 a4 a5 x0 : Option Value} {r0 : List (Option Value)} {x : Int32} (hd : decode b pc = .ok (.istore 6, 2)) (hn : 6 < nL) (hp : okp a5 = true) (h : R l G cy y b nL rt d mc ms Q (pc + 2) (a0 :: a1 :: a2 :: a3 :: a4 :: a5 :: some (.int x) :: r0) st S k n) : R l G cy y b nL rt d mc ms Q pc (a0 :: a1 :: a2 :: a3 :: a4 :: a5 :: x0 :: r0) (.int x :: st) S k n := r_istore hd hn (fun a ha => by cases ha; exact hp) h
theorem r_ast6 {a0 a1 a2 a3 a4 a5 x0 : Option Value} {r0 : List (Option Value)} {x : Nat} (hd : decode b pc = .ok (.astore 6, 2)) (hn : 6 < nL) (hp : okp a5 = true) (h : R l G cy y b nL rt d mc ms Q (pc + 2) (a0 :: a1 :: a2 :: a3 :: a4 :: a5 :: some (.ref x) :: r0) st S k n) : R l G cy y b nL rt d mc ms Q pc (a0 :: a1 :: a2 :: a3 :: a4 :: a5 :: x0 :: r0) (.ref x :: st) S k n := r_astore hd hn (fun a ha => by cases ha; exact hp) h
theorem r_ast6N {a0 a1 a2 a3 a4 a5 x0 : Option Value} {r0 : List (Option Value)}  (hd : decode b pc = .ok (.astore 6, 2)) (hn : 6 < nL) (hp : okp a5 = true) (h : R l G cy y b nL rt d mc ms Q (pc + 2) (a0 :: a1 :: a2 :: a3 :: a4 :: a5 :: some (.null) :: r0) st S k n) : R l G cy y b nL rt d mc ms Q pc (a0 :: a1 :: a2 :: a3 :: a4 :: a5 :: x0 :: r0) (.null :: st) S k n := r_astoreN hd hn (fun a ha => by cases ha; exact hp) h
theorem r_inc6 {a0 a1 a2 a3 a4 a5 x0 : Option Value} {r0 : List (Option Value)} {z : Int} {x v : Int32} (hd : decode b pc = .ok (.iinc 6 z, 3)) (hz : x + Int32.ofInt z = v) (hn : 6 < nL) (hp : okp a5 = true) (h : R l G cy y b nL rt d mc ms Q (pc + 3) (a0 :: a1 :: a2 :: a3 :: a4 :: a5 :: some (.int v) :: r0) st S k n) : R l G cy y b nL rt d mc ms Q pc (a0 :: a1 :: a2 :: a3 :: a4 :: a5 :: some (.int x) :: r0) st S k n := r_iinc hd rfl hz hn (fun a ha => by cases ha; exact hp) h
theorem r_lst6 {a0 a1 a2 a3 a4 a5 x0 x1 : Option Value} {r0 : List (Option Value)} {x : Int64} (hd : decode b pc = .ok (.lstore 6, 2)) (hn : 6 + 1 < nL) (hp : okp a5 = true) (h : R l G cy y b nL rt d mc ms Q (pc + 2) (a0 :: a1 :: a2 :: a3 :: a4 :: a5 :: some (.long x) :: none :: r0) st S k n) : R l G cy y b nL rt d mc ms Q pc (a0 :: a1 :: a2 :: a3 :: a4 :: a5 :: x0 :: x1 :: r0) (.long x :: st) S k n := r_lstore hd hn (fun a ha => by cases ha; exact hp) h
theorem r_ist7 {a0 a1 a2 a3 a4 a5 a6 x0 : Option Value} {r0 : List (Option Value)} {x : Int32} (hd : decode b pc = .ok (.istore 7, 2)) (hn : 7 < nL) (hp : okp a6 = true) (h : R l G cy y b nL rt d mc ms Q (pc + 2) (a0 :: a1 :: a2 :: a3 :: a4 :: a5 :: a6 :: some (.int x) :: r0) st S k n) : R l G cy y b nL rt d mc ms Q pc (a0 :: a1 :: a2 :: a3 :: a4 :: a5 :: a6 :: x0 :: r0) (.int x :: st) S k n := r_istore hd hn (fun a ha => by cases ha; exact hp) h
theorem r_ast7 {a0 a1 a2 a3 a4 a5 a6 x0 : Option Value} {r0 : List (Option Value)} {x : Nat} (hd : decode b pc = .ok (.astore 7, 2)) (hn : 7 < nL) (hp : okp a6 = true) (h : R l G cy y b nL rt d mc ms Q (pc + 2) (a0 :: a1 :: a2 :: a3 :: a4 :: a5 :: a6 :: some (.ref x) :: r0) st S k n) : R l G cy y b nL rt d mc ms Q pc (a0 :: a1 :: a2 :: a3 :: a4 :: a5 :: a6 :: x0 :: r0) (.ref x :: st) S k n := r_astore hd hn (fun a ha => by cases ha; exact hp) h
theorem r_ast7N {a0 a1 a2 a3 a4 a5 a6 x0 : Option Value} {r0 : List (Option Value)}  (hd : decode b pc = .ok (.astore 7, 2)) (hn : 7 < nL) (hp : okp a6 = true) (h : R l G cy y b nL rt d mc ms Q (pc + 2) (a0 :: a1 :: a2 :: a3 :: a4 :: a5 :: a6 :: some (.null) :: r0) st S k n) : R l G cy y b nL rt d mc ms Q pc (a0 :: a1 :: a2 :: a3 :: a4 :: a5 :: a6 :: x0 :: r0) (.null :: st) S k n := r_astoreN hd hn (fun a ha => by cases ha; exact hp) h
theorem r_inc7 {a0 a1 a2 a3 a4 a5 a6 x0 : Option Value} {r0 : List (Option Value)} {z : Int} {x v : Int32} (hd : decode b pc = .ok (.iinc 7 z, 3)) (hz : x + Int32.ofInt z = v) (hn : 7 < nL) (hp : okp a6 = true) (h : R l G cy y b nL rt d mc ms Q (pc + 3) (a0 :: a1 :: a2 :: a3 :: a4 :: a5 :: a6 :: some (.int v) :: r0) st S k n) : R l G cy y b nL rt d mc ms Q pc (a0 :: a1 :: a2 :: a3 :: a4 :: a5 :: a6 :: some (.int x) :: r0) st S k n := r_iinc hd rfl hz hn (fun a ha => by cases ha; exact hp) h
theorem r_lst7 {a0 a1 a2 a3 a4 a5 a6 x0 x1 : Option Value} {r0 : List (Option Value)} {x : Int64} (hd : decode b pc = .ok (.lstore 7, 2)) (hn : 7 + 1 < nL) (hp : okp a6 = true) (h : R l G cy y b nL rt d mc ms Q (pc + 2) (a0 :: a1 :: a2 :: a3 :: a4 :: a5 :: a6 :: some (.long x) :: none :: r0) st S k n) : R l G cy y b nL rt d mc ms Q pc (a0 :: a1 :: a2 :: a3 :: a4 :: a5 :: a6 :: x0 :: x1 :: r0) (.long x :: st) S k n := r_lstore hd hn (fun a ha => by cases ha; exact hp) h
theorem r_ist8 {a0 a1 a2 a3 a4 a5 a6 a7 x0 : Option Value} {r0 : List (Option Value)} {x : Int32} (hd : decode b pc = .ok (.istore 8, 2)) (hn : 8 < nL) (hp : okp a7 = true) (h : R l G cy y b nL rt d mc ms Q (pc + 2) (a0 :: a1 :: a2 :: a3 :: a4 :: a5 :: a6 :: a7 :: some (.int x) :: r0) st S k n) : R l G cy y b nL rt d mc ms Q pc (a0 :: a1 :: a2 :: a3 :: a4 :: a5 :: a6 :: a7 :: x0 :: r0) (.int x :: st) S k n := r_istore hd hn (fun a ha => by cases ha; exact hp) h
theorem r_ast8 {a0 a1 a2 a3 a4 a5 a6 a7 x0 : Option Value} {r0 : List (Option Value)} {x : Nat} (hd : decode b pc = .ok (.astore 8, 2)) (hn : 8 < nL) (hp : okp a7 = true) (h : R l G cy y b nL rt d mc ms Q (pc + 2) (a0 :: a1 :: a2 :: a3 :: a4 :: a5 :: a6 :: a7 :: some (.ref x) :: r0) st S k n) : R l G cy y b nL rt d mc ms Q pc (a0 :: a1 :: a2 :: a3 :: a4 :: a5 :: a6 :: a7 :: x0 :: r0) (.ref x :: st) S k n := r_astore hd hn (fun a ha => by cases ha; exact hp) h
theorem r_ast8N {a0 a1 a2 a3 a4 a5 a6 a7 x0 : Option Value} {r0 : List (Option Value)}  (hd : decode b pc = .ok (.astore 8, 2)) (hn : 8 < nL) (hp : okp a7 = true) (h : R l G cy y b nL rt d mc ms Q (pc + 2) (a0 :: a1 :: a2 :: a3 :: a4 :: a5 :: a6 :: a7 :: some (.null) :: r0) st S k n) : R l G cy y b nL rt d mc ms Q pc (a0 :: a1 :: a2 :: a3 :: a4 :: a5 :: a6 :: a7 :: x0 :: r0) (.null :: st) S k n := r_astoreN hd hn (fun a ha => by cases ha; exact hp) h
theorem r_inc8 {a0 a1 a2 a3 a4 a5 a6 a7 x0 : Option Value} {r0 : List (Option Value)} {z : Int} {x v : Int32} (hd : decode b pc = .ok (.iinc 8 z, 3)) (hz : x + Int32.ofInt z = v) (hn : 8 < nL) (hp : okp a7 = true) (h : R l G cy y b nL rt d mc ms Q (pc + 3) (a0 :: a1 :: a2 :: a3 :: a4 :: a5 :: a6 :: a7 :: some (.int v) :: r0) st S k n) : R l G cy y b nL rt d mc ms Q pc (a0 :: a1 :: a2 :: a3 :: a4 :: a5 :: a6 :: a7 :: some (.int x) :: r0) st S k n := r_iinc hd rfl hz hn (fun a ha => by cases ha; exact hp) h
theorem r_lst8 {a0 a1 a2 a3 a4 a5 a6 a7 x0 x1 : Option Value} {r0 : List (Option Value)} {x : Int64} (hd : decode b pc = .ok (.lstore 8, 2)) (hn : 8 + 1 < nL) (hp : okp a7 = true) (h : R l G cy y b nL rt d mc ms Q (pc + 2) (a0 :: a1 :: a2 :: a3 :: a4 :: a5 :: a6 :: a7 :: some (.long x) :: none :: r0) st S k n) : R l G cy y b nL rt d mc ms Q pc (a0 :: a1 :: a2 :: a3 :: a4 :: a5 :: a6 :: a7 :: x0 :: x1 :: r0) (.long x :: st) S k n := r_lstore hd hn (fun a ha => by cases ha; exact hp) h
theorem r_ist9 {a0 a1 a2 a3 a4 a5 a6 a7 a8 x0 : Option Value} {r0 : List (Option Value)} {x : Int32} (hd : decode b pc = .ok (.istore 9, 2)) (hn : 9 < nL) (hp : okp a8 = true) (h : R l G cy y b nL rt d mc ms Q (pc + 2) (a0 :: a1 :: a2 :: a3 :: a4 :: a5 :: a6 :: a7 :: a8 :: some (.int x) :: r0) st S k n) : R l G cy y b nL rt d mc ms Q pc (a0 :: a1 :: a2 :: a3 :: a4 :: a5 :: a6 :: a7 :: a8 :: x0 :: r0) (.int x :: st) S k n := r_istore hd hn (fun a ha => by cases ha; exact hp) h
theorem r_ast9 {a0 a1 a2 a3 a4 a5 a6 a7 a8 x0 : Option Value} {r0 : List (Option Value)} {x : Nat} (hd : decode b pc = .ok (.astore 9, 2)) (hn : 9 < nL) (hp : okp a8 = true) (h : R l G cy y b nL rt d mc ms Q (pc + 2) (a0 :: a1 :: a2 :: a3 :: a4 :: a5 :: a6 :: a7 :: a8 :: some (.ref x) :: r0) st S k n) : R l G cy y b nL rt d mc ms Q pc (a0 :: a1 :: a2 :: a3 :: a4 :: a5 :: a6 :: a7 :: a8 :: x0 :: r0) (.ref x :: st) S k n := r_astore hd hn (fun a ha => by cases ha; exact hp) h
theorem r_ast9N {a0 a1 a2 a3 a4 a5 a6 a7 a8 x0 : Option Value} {r0 : List (Option Value)}  (hd : decode b pc = .ok (.astore 9, 2)) (hn : 9 < nL) (hp : okp a8 = true) (h : R l G cy y b nL rt d mc ms Q (pc + 2) (a0 :: a1 :: a2 :: a3 :: a4 :: a5 :: a6 :: a7 :: a8 :: some (.null) :: r0) st S k n) : R l G cy y b nL rt d mc ms Q pc (a0 :: a1 :: a2 :: a3 :: a4 :: a5 :: a6 :: a7 :: a8 :: x0 :: r0) (.null :: st) S k n := r_astoreN hd hn (fun a ha => by cases ha; exact hp) h
theorem r_inc9 {a0 a1 a2 a3 a4 a5 a6 a7 a8 x0 : Option Value} {r0 : List (Option Value)} {z : Int} {x v : Int32} (hd : decode b pc = .ok (.iinc 9 z, 3)) (hz : x + Int32.ofInt z = v) (hn : 9 < nL) (hp : okp a8 = true) (h : R l G cy y b nL rt d mc ms Q (pc + 3) (a0 :: a1 :: a2 :: a3 :: a4 :: a5 :: a6 :: a7 :: a8 :: some (.int v) :: r0) st S k n) : R l G cy y b nL rt d mc ms Q pc (a0 :: a1 :: a2 :: a3 :: a4 :: a5 :: a6 :: a7 :: a8 :: some (.int x) :: r0) st S k n := r_iinc hd rfl hz hn (fun a ha => by cases ha; exact hp) h
theorem r_lst9 {a0 a1 a2 a3 a4 a5 a6 a7 a8 x0 x1 : Option Value} {r0 : List (Option Value)} {x : Int64} (hd : decode b pc = .ok (.lstore 9, 2)) (hn : 9 + 1 < nL) (hp : okp a8 = true) (h : R l G cy y b nL rt d mc ms Q (pc + 2) (a0 :: a1 :: a2 :: a3 :: a4 :: a5 :: a6 :: a7 :: a8 :: some (.long x) :: none :: r0) st S k n) : R l G cy y b nL rt d mc ms Q pc (a0 :: a1 :: a2 :: a3 :: a4 :: a5 :: a6 :: a7 :: a8 :: x0 :: x1 :: r0) (.long x :: st) S k n := r_lstore hd hn (fun a ha => by cases ha; exact hp) h
theorem r_ist10 {a0 a1 a2 a3 a4 a5 a6 a7 a8 a9 x0 : Option Value} {r0 : List (Option Value)} {x : Int32} (hd : decode b pc = .ok (.istore 10, 2)) (hn : 10 < nL) (hp : okp a9 = true) (h : R l G cy y b nL rt d mc ms Q (pc + 2) (a0 :: a1 :: a2 :: a3 :: a4 :: a5 :: a6 :: a7 :: a8 :: a9 :: some (.int x) :: r0) st S k n) : R l G cy y b nL rt d mc ms Q pc (a0 :: a1 :: a2 :: a3 :: a4 :: a5 :: a6 :: a7 :: a8 :: a9 :: x0 :: r0) (.int x :: st) S k n := r_istore hd hn (fun a ha => by cases ha; exact hp) h
theorem r_ast10 {a0 a1 a2 a3 a4 a5 a6 a7 a8 a9 x0 : Option Value} {r0 : List (Option Value)} {x : Nat} (hd : decode b pc = .ok (.astore 10, 2)) (hn : 10 < nL) (hp : okp a9 = true) (h : R l G cy y b nL rt d mc ms Q (pc + 2) (a0 :: a1 :: a2 :: a3 :: a4 :: a5 :: a6 :: a7 :: a8 :: a9 :: some (.ref x) :: r0) st S k n) : R l G cy y b nL rt d mc ms Q pc (a0 :: a1 :: a2 :: a3 :: a4 :: a5 :: a6 :: a7 :: a8 :: a9 :: x0 :: r0) (.ref x :: st) S k n := r_astore hd hn (fun a ha => by cases ha; exact hp) h
theorem r_ast10N {a0 a1 a2 a3 a4 a5 a6 a7 a8 a9 x0 : Option Value} {r0 : List (Option Value)}  (hd : decode b pc = .ok (.astore 10, 2)) (hn : 10 < nL) (hp : okp a9 = true) (h : R l G cy y b nL rt d mc ms Q (pc + 2) (a0 :: a1 :: a2 :: a3 :: a4 :: a5 :: a6 :: a7 :: a8 :: a9 :: some (.null) :: r0) st S k n) : R l G cy y b nL rt d mc ms Q pc (a0 :: a1 :: a2 :: a3 :: a4 :: a5 :: a6 :: a7 :: a8 :: a9 :: x0 :: r0) (.null :: st) S k n := r_astoreN hd hn (fun a ha => by cases ha; exact hp) h
theorem r_inc10 {a0 a1 a2 a3 a4 a5 a6 a7 a8 a9 x0 : Option Value} {r0 : List (Option Value)} {z : Int} {x v : Int32} (hd : decode b pc = .ok (.iinc 10 z, 3)) (hz : x + Int32.ofInt z = v) (hn : 10 < nL) (hp : okp a9 = true) (h : R l G cy y b nL rt d mc ms Q (pc + 3) (a0 :: a1 :: a2 :: a3 :: a4 :: a5 :: a6 :: a7 :: a8 :: a9 :: some (.int v) :: r0) st S k n) : R l G cy y b nL rt d mc ms Q pc (a0 :: a1 :: a2 :: a3 :: a4 :: a5 :: a6 :: a7 :: a8 :: a9 :: some (.int x) :: r0) st S k n := r_iinc hd rfl hz hn (fun a ha => by cases ha; exact hp) h
theorem r_lst10 {a0 a1 a2 a3 a4 a5 a6 a7 a8 a9 x0 x1 : Option Value} {r0 : List (Option Value)} {x : Int64} (hd : decode b pc = .ok (.lstore 10, 2)) (hn : 10 + 1 < nL) (hp : okp a9 = true) (h : R l G cy y b nL rt d mc ms Q (pc + 2) (a0 :: a1 :: a2 :: a3 :: a4 :: a5 :: a6 :: a7 :: a8 :: a9 :: some (.long x) :: none :: r0) st S k n) : R l G cy y b nL rt d mc ms Q pc (a0 :: a1 :: a2 :: a3 :: a4 :: a5 :: a6 :: a7 :: a8 :: a9 :: x0 :: x1 :: r0) (.long x :: st) S k n := r_lstore hd hn (fun a ha => by cases ha; exact hp) h
theorem r_ist11 {a0 a1 a2 a3 a4 a5 a6 a7 a8 a9 a10 x0 : Option Value} {r0 : List (Option Value)} {x : Int32} (hd : decode b pc = .ok (.istore 11, 2)) (hn : 11 < nL) (hp : okp a10 = true) (h : R l G cy y b nL rt d mc ms Q (pc + 2) (a0 :: a1 :: a2 :: a3 :: a4 :: a5 :: a6 :: a7 :: a8 :: a9 :: a10 :: some (.int x) :: r0) st S k n) : R l G cy y b nL rt d mc ms Q pc (a0 :: a1 :: a2 :: a3 :: a4 :: a5 :: a6 :: a7 :: a8 :: a9 :: a10 :: x0 :: r0) (.int x :: st) S k n := r_istore hd hn (fun a ha => by cases ha; exact hp) h
theorem r_ast11 {a0 a1 a2 a3 a4 a5 a6 a7 a8 a9 a10 x0 : Option Value} {r0 : List (Option Value)} {x : Nat} (hd : decode b pc = .ok (.astore 11, 2)) (hn : 11 < nL) (hp : okp a10 = true) (h : R l G cy y b nL rt d mc ms Q (pc + 2) (a0 :: a1 :: a2 :: a3 :: a4 :: a5 :: a6 :: a7 :: a8 :: a9 :: a10 :: some (.ref x) :: r0) st S k n) : R l G cy y b nL rt d mc ms Q pc (a0 :: a1 :: a2 :: a3 :: a4 :: a5 :: a6 :: a7 :: a8 :: a9 :: a10 :: x0 :: r0) (.ref x :: st) S k n := r_astore hd hn (fun a ha => by cases ha; exact hp) h
theorem r_ast11N {a0 a1 a2 a3 a4 a5 a6 a7 a8 a9 a10 x0 : Option Value} {r0 : List (Option Value)}  (hd : decode b pc = .ok (.astore 11, 2)) (hn : 11 < nL) (hp : okp a10 = true) (h : R l G cy y b nL rt d mc ms Q (pc + 2) (a0 :: a1 :: a2 :: a3 :: a4 :: a5 :: a6 :: a7 :: a8 :: a9 :: a10 :: some (.null) :: r0) st S k n) : R l G cy y b nL rt d mc ms Q pc (a0 :: a1 :: a2 :: a3 :: a4 :: a5 :: a6 :: a7 :: a8 :: a9 :: a10 :: x0 :: r0) (.null :: st) S k n := r_astoreN hd hn (fun a ha => by cases ha; exact hp) h
theorem r_inc11 {a0 a1 a2 a3 a4 a5 a6 a7 a8 a9 a10 x0 : Option Value} {r0 : List (Option Value)} {z : Int} {x v : Int32} (hd : decode b pc = .ok (.iinc 11 z, 3)) (hz : x + Int32.ofInt z = v) (hn : 11 < nL) (hp : okp a10 = true) (h : R l G cy y b nL rt d mc ms Q (pc + 3) (a0 :: a1 :: a2 :: a3 :: a4 :: a5 :: a6 :: a7 :: a8 :: a9 :: a10 :: some (.int v) :: r0) st S k n) : R l G cy y b nL rt d mc ms Q pc (a0 :: a1 :: a2 :: a3 :: a4 :: a5 :: a6 :: a7 :: a8 :: a9 :: a10 :: some (.int x) :: r0) st S k n := r_iinc hd rfl hz hn (fun a ha => by cases ha; exact hp) h
theorem r_lst11 {a0 a1 a2 a3 a4 a5 a6 a7 a8 a9 a10 x0 x1 : Option Value} {r0 : List (Option Value)} {x : Int64} (hd : decode b pc = .ok (.lstore 11, 2)) (hn : 11 + 1 < nL) (hp : okp a10 = true) (h : R l G cy y b nL rt d mc ms Q (pc + 2) (a0 :: a1 :: a2 :: a3 :: a4 :: a5 :: a6 :: a7 :: a8 :: a9 :: a10 :: some (.long x) :: none :: r0) st S k n) : R l G cy y b nL rt d mc ms Q pc (a0 :: a1 :: a2 :: a3 :: a4 :: a5 :: a6 :: a7 :: a8 :: a9 :: a10 :: x0 :: x1 :: r0) (.long x :: st) S k n := r_lstore hd hn (fun a ha => by cases ha; exact hp) h
theorem r_ist12 {a0 a1 a2 a3 a4 a5 a6 a7 a8 a9 a10 a11 x0 : Option Value} {r0 : List (Option Value)} {x : Int32} (hd : decode b pc = .ok (.istore 12, 2)) (hn : 12 < nL) (hp : okp a11 = true) (h : R l G cy y b nL rt d mc ms Q (pc + 2) (a0 :: a1 :: a2 :: a3 :: a4 :: a5 :: a6 :: a7 :: a8 :: a9 :: a10 :: a11 :: some (.int x) :: r0) st S k n) : R l G cy y b nL rt d mc ms Q pc (a0 :: a1 :: a2 :: a3 :: a4 :: a5 :: a6 :: a7 :: a8 :: a9 :: a10 :: a11 :: x0 :: r0) (.int x :: st) S k n := r_istore hd hn (fun a ha => by cases ha; exact hp) h
theorem r_ast12 {a0 a1 a2 a3 a4 a5 a6 a7 a8 a9 a10 a11 x0 : Option Value} {r0 : List (Option Value)} {x : Nat} (hd : decode b pc = .ok (.astore 12, 2)) (hn : 12 < nL) (hp : okp a11 = true) (h : R l G cy y b nL rt d mc ms Q (pc + 2) (a0 :: a1 :: a2 :: a3 :: a4 :: a5 :: a6 :: a7 :: a8 :: a9 :: a10 :: a11 :: some (.ref x) :: r0) st S k n) : R l G cy y b nL rt d mc ms Q pc (a0 :: a1 :: a2 :: a3 :: a4 :: a5 :: a6 :: a7 :: a8 :: a9 :: a10 :: a11 :: x0 :: r0) (.ref x :: st) S k n := r_astore hd hn (fun a ha => by cases ha; exact hp) h
theorem r_ast12N {a0 a1 a2 a3 a4 a5 a6 a7 a8 a9 a10 a11 x0 : Option Value} {r0 : List (Option Value)}  (hd : decode b pc = .ok (.astore 12, 2)) (hn : 12 < nL) (hp : okp a11 = true) (h : R l G cy y b nL rt d mc ms Q (pc + 2) (a0 :: a1 :: a2 :: a3 :: a4 :: a5 :: a6 :: a7 :: a8 :: a9 :: a10 :: a11 :: some (.null) :: r0) st S k n) : R l G cy y b nL rt d mc ms Q pc (a0 :: a1 :: a2 :: a3 :: a4 :: a5 :: a6 :: a7 :: a8 :: a9 :: a10 :: a11 :: x0 :: r0) (.null :: st) S k n := r_astoreN hd hn (fun a ha => by cases ha; exact hp) h
theorem r_inc12 {a0 a1 a2 a3 a4 a5 a6 a7 a8 a9 a10 a11 x0 : Option Value} {r0 : List (Option Value)} {z : Int} {x v : Int32} (hd : decode b pc = .ok (.iinc 12 z, 3)) (hz : x + Int32.ofInt z = v) (hn : 12 < nL) (hp : okp a11 = true) (h : R l G cy y b nL rt d mc ms Q (pc + 3) (a0 :: a1 :: a2 :: a3 :: a4 :: a5 :: a6 :: a7 :: a8 :: a9 :: a10 :: a11 :: some (.int v) :: r0) st S k n) : R l G cy y b nL rt d mc ms Q pc (a0 :: a1 :: a2 :: a3 :: a4 :: a5 :: a6 :: a7 :: a8 :: a9 :: a10 :: a11 :: some (.int x) :: r0) st S k n := r_iinc hd rfl hz hn (fun a ha => by cases ha; exact hp) h
theorem r_lst12 {a0 a1 a2 a3 a4 a5 a6 a7 a8 a9 a10 a11 x0 x1 : Option Value} {r0 : List (Option Value)} {x : Int64} (hd : decode b pc = .ok (.lstore 12, 2)) (hn : 12 + 1 < nL) (hp : okp a11 = true) (h : R l G cy y b nL rt d mc ms Q (pc + 2) (a0 :: a1 :: a2 :: a3 :: a4 :: a5 :: a6 :: a7 :: a8 :: a9 :: a10 :: a11 :: some (.long x) :: none :: r0) st S k n) : R l G cy y b nL rt d mc ms Q pc (a0 :: a1 :: a2 :: a3 :: a4 :: a5 :: a6 :: a7 :: a8 :: a9 :: a10 :: a11 :: x0 :: x1 :: r0) (.long x :: st) S k n := r_lstore hd hn (fun a ha => by cases ha; exact hp) h
theorem r_ist13 {a0 a1 a2 a3 a4 a5 a6 a7 a8 a9 a10 a11 a12 x0 : Option Value} {r0 : List (Option Value)} {x : Int32} (hd : decode b pc = .ok (.istore 13, 2)) (hn : 13 < nL) (hp : okp a12 = true) (h : R l G cy y b nL rt d mc ms Q (pc + 2) (a0 :: a1 :: a2 :: a3 :: a4 :: a5 :: a6 :: a7 :: a8 :: a9 :: a10 :: a11 :: a12 :: some (.int x) :: r0) st S k n) : R l G cy y b nL rt d mc ms Q pc (a0 :: a1 :: a2 :: a3 :: a4 :: a5 :: a6 :: a7 :: a8 :: a9 :: a10 :: a11 :: a12 :: x0 :: r0) (.int x :: st) S k n := r_istore hd hn (fun a ha => by cases ha; exact hp) h
theorem r_ast13 {a0 a1 a2 a3 a4 a5 a6 a7 a8 a9 a10 a11 a12 x0 : Option Value} {r0 : List (Option Value)} {x : Nat} (hd : decode b pc = .ok (.astore 13, 2)) (hn : 13 < nL) (hp : okp a12 = true) (h : R l G cy y b nL rt d mc ms Q (pc + 2) (a0 :: a1 :: a2 :: a3 :: a4 :: a5 :: a6 :: a7 :: a8 :: a9 :: a10 :: a11 :: a12 :: some (.ref x) :: r0) st S k n) : R l G cy y b nL rt d mc ms Q pc (a0 :: a1 :: a2 :: a3 :: a4 :: a5 :: a6 :: a7 :: a8 :: a9 :: a10 :: a11 :: a12 :: x0 :: r0) (.ref x :: st) S k n := r_astore hd hn (fun a ha => by cases ha; exact hp) h
theorem r_ast13N {a0 a1 a2 a3 a4 a5 a6 a7 a8 a9 a10 a11 a12 x0 : Option Value} {r0 : List (Option Value)}  (hd : decode b pc = .ok (.astore 13, 2)) (hn : 13 < nL) (hp : okp a12 = true) (h : R l G cy y b nL rt d mc ms Q (pc + 2) (a0 :: a1 :: a2 :: a3 :: a4 :: a5 :: a6 :: a7 :: a8 :: a9 :: a10 :: a11 :: a12 :: some (.null) :: r0) st S k n) : R l G cy y b nL rt d mc ms Q pc (a0 :: a1 :: a2 :: a3 :: a4 :: a5 :: a6 :: a7 :: a8 :: a9 :: a10 :: a11 :: a12 :: x0 :: r0) (.null :: st) S k n := r_astoreN hd hn (fun a ha => by cases ha; exact hp) h
theorem r_inc13 {a0 a1 a2 a3 a4 a5 a6 a7 a8 a9 a10 a11 a12 x0 : Option Value} {r0 : List (Option Value)} {z : Int} {x v : Int32} (hd : decode b pc = .ok (.iinc 13 z, 3)) (hz : x + Int32.ofInt z = v) (hn : 13 < nL) (hp : okp a12 = true) (h : R l G cy y b nL rt d mc ms Q (pc + 3) (a0 :: a1 :: a2 :: a3 :: a4 :: a5 :: a6 :: a7 :: a8 :: a9 :: a10 :: a11 :: a12 :: some (.int v) :: r0) st S k n) : R l G cy y b nL rt d mc ms Q pc (a0 :: a1 :: a2 :: a3 :: a4 :: a5 :: a6 :: a7 :: a8 :: a9 :: a10 :: a11 :: a12 :: some (.int x) :: r0) st S k n := r_iinc hd rfl hz hn (fun a ha => by cases ha; exact hp) h
theorem r_lst13 {a0 a1 a2 a3 a4 a5 a6 a7 a8 a9 a10 a11 a12 x0 x1 : Option Value} {r0 : List (Option Value)} {x : Int64} (hd : decode b pc = .ok (.lstore 13, 2)) (hn : 13 + 1 < nL) (hp : okp a12 = true) (h : R l G cy y b nL rt d mc ms Q (pc + 2) (a0 :: a1 :: a2 :: a3 :: a4 :: a5 :: a6 :: a7 :: a8 :: a9 :: a10 :: a11 :: a12 :: some (.long x) :: none :: r0) st S k n) : R l G cy y b nL rt d mc ms Q pc (a0 :: a1 :: a2 :: a3 :: a4 :: a5 :: a6 :: a7 :: a8 :: a9 :: a10 :: a11 :: a12 :: x0 :: x1 :: r0) (.long x :: st) S k n := r_lstore hd hn (fun a ha => by cases ha; exact hp) h
theorem r_ist14 {a0 a1 a2 a3 a4 a5 a6 a7 a8 a9 a10 a11 a12 a13 x0 : Option Value} {r0 : List (Option Value)} {x : Int32} (hd : decode b pc = .ok (.istore 14, 2)) (hn : 14 < nL) (hp : okp a13 = true) (h : R l G cy y b nL rt d mc ms Q (pc + 2) (a0 :: a1 :: a2 :: a3 :: a4 :: a5 :: a6 :: a7 :: a8 :: a9 :: a10 :: a11 :: a12 :: a13 :: some (.int x) :: r0) st S k n) : R l G cy y b nL rt d mc ms Q pc (a0 :: a1 :: a2 :: a3 :: a4 :: a5 :: a6 :: a7 :: a8 :: a9 :: a10 :: a11 :: a12 :: a13 :: x0 :: r0) (.int x :: st) S k n := r_istore hd hn (fun a ha => by cases ha; exact hp) h
theorem r_ast14 {a0 a1 a2 a3 a4 a5 a6 a7 a8 a9 a10 a11 a12 a13 x0 : Option Value} {r0 : List (Option Value)} {x : Nat} (hd : decode b pc = .ok (.astore 14, 2)) (hn : 14 < nL) (hp : okp a13 = true) (h : R l G cy y b nL rt d mc ms Q (pc + 2) (a0 :: a1 :: a2 :: a3 :: a4 :: a5 :: a6 :: a7 :: a8 :: a9 :: a10 :: a11 :: a12 :: a13 :: some (.ref x) :: r0) st S k n) : R l G cy y b nL rt d mc ms Q pc (a0 :: a1 :: a2 :: a3 :: a4 :: a5 :: a6 :: a7 :: a8 :: a9 :: a10 :: a11 :: a12 :: a13 :: x0 :: r0) (.ref x :: st) S k n := r_astore hd hn (fun a ha => by cases ha; exact hp) h
theorem r_ast14N {a0 a1 a2 a3 a4 a5 a6 a7 a8 a9 a10 a11 a12 a13 x0 : Option Value} {r0 : List (Option Value)}  (hd : decode b pc = .ok (.astore 14, 2)) (hn : 14 < nL) (hp : okp a13 = true) (h : R l G cy y b nL rt d mc ms Q (pc + 2) (a0 :: a1 :: a2 :: a3 :: a4 :: a5 :: a6 :: a7 :: a8 :: a9 :: a10 :: a11 :: a12 :: a13 :: some (.null) :: r0) st S k n) : R l G cy y b nL rt d mc ms Q pc (a0 :: a1 :: a2 :: a3 :: a4 :: a5 :: a6 :: a7 :: a8 :: a9 :: a10 :: a11 :: a12 :: a13 :: x0 :: r0) (.null :: st) S k n := r_astoreN hd hn (fun a ha => by cases ha; exact hp) h
theorem r_inc14 {a0 a1 a2 a3 a4 a5 a6 a7 a8 a9 a10 a11 a12 a13 x0 : Option Value} {r0 : List (Option Value)} {z : Int} {x v : Int32} (hd : decode b pc = .ok (.iinc 14 z, 3)) (hz : x + Int32.ofInt z = v) (hn : 14 < nL) (hp : okp a13 = true) (h : R l G cy y b nL rt d mc ms Q (pc + 3) (a0 :: a1 :: a2 :: a3 :: a4 :: a5 :: a6 :: a7 :: a8 :: a9 :: a10 :: a11 :: a12 :: a13 :: some (.int v) :: r0) st S k n) : R l G cy y b nL rt d mc ms Q pc (a0 :: a1 :: a2 :: a3 :: a4 :: a5 :: a6 :: a7 :: a8 :: a9 :: a10 :: a11 :: a12 :: a13 :: some (.int x) :: r0) st S k n := r_iinc hd rfl hz hn (fun a ha => by cases ha; exact hp) h
theorem r_lst14 {a0 a1 a2 a3 a4 a5 a6 a7 a8 a9 a10 a11 a12 a13 x0 x1 : Option Value} {r0 : List (Option Value)} {x : Int64} (hd : decode b pc = .ok (.lstore 14, 2)) (hn : 14 + 1 < nL) (hp : okp a13 = true) (h : R l G cy y b nL rt d mc ms Q (pc + 2) (a0 :: a1 :: a2 :: a3 :: a4 :: a5 :: a6 :: a7 :: a8 :: a9 :: a10 :: a11 :: a12 :: a13 :: some (.long x) :: none :: r0) st S k n) : R l G cy y b nL rt d mc ms Q pc (a0 :: a1 :: a2 :: a3 :: a4 :: a5 :: a6 :: a7 :: a8 :: a9 :: a10 :: a11 :: a12 :: a13 :: x0 :: x1 :: r0) (.long x :: st) S k n := r_lstore hd hn (fun a ha => by cases ha; exact hp) h
theorem r_ist15 {a0 a1 a2 a3 a4 a5 a6 a7 a8 a9 a10 a11 a12 a13 a14 x0 : Option Value} {r0 : List (Option Value)} {x : Int32} (hd : decode b pc = .ok (.istore 15, 2)) (hn : 15 < nL) (hp : okp a14 = true) (h : R l G cy y b nL rt d mc ms Q (pc + 2) (a0 :: a1 :: a2 :: a3 :: a4 :: a5 :: a6 :: a7 :: a8 :: a9 :: a10 :: a11 :: a12 :: a13 :: a14 :: some (.int x) :: r0) st S k n) : R l G cy y b nL rt d mc ms Q pc (a0 :: a1 :: a2 :: a3 :: a4 :: a5 :: a6 :: a7 :: a8 :: a9 :: a10 :: a11 :: a12 :: a13 :: a14 :: x0 :: r0) (.int x :: st) S k n := r_istore hd hn (fun a ha => by cases ha; exact hp) h
theorem r_ast15 {a0 a1 a2 a3 a4 a5 a6 a7 a8 a9 a10 a11 a12 a13 a14 x0 : Option Value} {r0 : List (Option Value)} {x : Nat} (hd : decode b pc = .ok (.astore 15, 2)) (hn : 15 < nL) (hp : okp a14 = true) (h : R l G cy y b nL rt d mc ms Q (pc + 2) (a0 :: a1 :: a2 :: a3 :: a4 :: a5 :: a6 :: a7 :: a8 :: a9 :: a10 :: a11 :: a12 :: a13 :: a14 :: some (.ref x) :: r0) st S k n) : R l G cy y b nL rt d mc ms Q pc (a0 :: a1 :: a2 :: a3 :: a4 :: a5 :: a6 :: a7 :: a8 :: a9 :: a10 :: a11 :: a12 :: a13 :: a14 :: x0 :: r0) (.ref x :: st) S k n := r_astore hd hn (fun a ha => by cases ha; exact hp) h
theorem r_ast15N {a0 a1 a2 a3 a4 a5 a6 a7 a8 a9 a10 a11 a12 a13 a14 x0 : Option Value} {r0 : List (Option Value)}  (hd : decode b pc = .ok (.astore 15, 2)) (hn : 15 < nL) (hp : okp a14 = true) (h : R l G cy y b nL rt d mc ms Q (pc + 2) (a0 :: a1 :: a2 :: a3 :: a4 :: a5 :: a6 :: a7 :: a8 :: a9 :: a10 :: a11 :: a12 :: a13 :: a14 :: some (.null) :: r0) st S k n) : R l G cy y b nL rt d mc ms Q pc (a0 :: a1 :: a2 :: a3 :: a4 :: a5 :: a6 :: a7 :: a8 :: a9 :: a10 :: a11 :: a12 :: a13 :: a14 :: x0 :: r0) (.null :: st) S k n := r_astoreN hd hn (fun a ha => by cases ha; exact hp) h
theorem r_inc15 {a0 a1 a2 a3 a4 a5 a6 a7 a8 a9 a10 a11 a12 a13 a14 x0 : Option Value} {r0 : List (Option Value)} {z : Int} {x v : Int32} (hd : decode b pc = .ok (.iinc 15 z, 3)) (hz : x + Int32.ofInt z = v) (hn : 15 < nL) (hp : okp a14 = true) (h : R l G cy y b nL rt d mc ms Q (pc + 3) (a0 :: a1 :: a2 :: a3 :: a4 :: a5 :: a6 :: a7 :: a8 :: a9 :: a10 :: a11 :: a12 :: a13 :: a14 :: some (.int v) :: r0) st S k n) : R l G cy y b nL rt d mc ms Q pc (a0 :: a1 :: a2 :: a3 :: a4 :: a5 :: a6 :: a7 :: a8 :: a9 :: a10 :: a11 :: a12 :: a13 :: a14 :: some (.int x) :: r0) st S k n := r_iinc hd rfl hz hn (fun a ha => by cases ha; exact hp) h
theorem r_lst15 {a0 a1 a2 a3 a4 a5 a6 a7 a8 a9 a10 a11 a12 a13 a14 x0 x1 : Option Value} {r0 : List (Option Value)} {x : Int64} (hd : decode b pc = .ok (.lstore 15, 2)) (hn : 15 + 1 < nL) (hp : okp a14 = true) (h : R l G cy y b nL rt d mc ms Q (pc + 2) (a0 :: a1 :: a2 :: a3 :: a4 :: a5 :: a6 :: a7 :: a8 :: a9 :: a10 :: a11 :: a12 :: a13 :: a14 :: some (.long x) :: none :: r0) st S k n) : R l G cy y b nL rt d mc ms Q pc (a0 :: a1 :: a2 :: a3 :: a4 :: a5 :: a6 :: a7 :: a8 :: a9 :: a10 :: a11 :: a12 :: a13 :: a14 :: x0 :: x1 :: r0) (.long x :: st) S k n := r_lstore hd hn (fun a ha => by cases ha; exact hp) h
end RR
end
section
/-! ===== fields, arrays, new cells, calls ===== -/
def isRefTy : FieldType → Bool
  | .object _ => true
  | .array _ => true
  | _ => false
def ClsF (ci : Nat) (C : String) (T : u_T) (N : Nat) (ty : Nat → FieldType) : Prop := vwCl[ci]? = some (C, T, N) ∧ N = nF ci ∧ ci < 10 ∧ (∀ w ∈ u_ws C T N, w ∈ TB) ∧ (∀ k, k < N → parseFieldDescriptor (T k).2.2.1 = some (ty k)) ∧ (∀ a, a < N → ∀ b, b < N → a ≠ b → (T a).2.1 ≠ (T b).2.1) ∧ (∀ k, k < N → (fR ci k = false ∧ ty k = .int) ∨ (fR ci k = true ∧ isRefTy (ty k) = true))

theorem uwX0 : ∀ w ∈ u_ws RX0 TX0 8, w ∈ TB := by decide +kernel
theorem cfX0 : ClsF 0 RX0 TX0 8 tyX0 := ⟨rfl, rfl, by decide, uwX0, tyX0_ok, nmX0, by decide +kernel⟩
theorem uwX1 : ∀ w ∈ u_ws RX1 TX1 3, w ∈ TB := by decide +kernel
theorem cfX1 : ClsF 1 RX1 TX1 3 tyX1 := ⟨rfl, rfl, by decide, uwX1, tyX1_ok, nmX1, by decide +kernel⟩
theorem uwX2 : ∀ w ∈ u_ws RX2 TX2 11, w ∈ TB := by decide +kernel
theorem cfX2 : ClsF 2 RX2 TX2 11 tyX2 := ⟨rfl, rfl, by decide, uwX2, tyX2_ok, nmX2, by decide +kernel⟩
theorem uwX3 : ∀ w ∈ u_ws RX3 TX3 4, w ∈ TB := by decide +kernel
theorem cfX3 : ClsF 3 RX3 TX3 4 tyX3 := ⟨rfl, rfl, by decide, uwX3, tyX3_ok, nmX3, by decide +kernel⟩
theorem uwX4 : ∀ w ∈ u_ws RX4 TX4 5, w ∈ TB := by decide +kernel
theorem cfX4 : ClsF 4 RX4 TX4 5 tyX4 := ⟨rfl, rfl, by decide, uwX4, tyX4_ok, nmX4, by decide +kernel⟩
theorem uwX5 : ∀ w ∈ u_ws RX5 TX5 2, w ∈ TB := by decide +kernel
theorem cfX5 : ClsF 5 RX5 TX5 2 tyX5 := ⟨rfl, rfl, by decide, uwX5, tyX5_ok, nmX5, by decide +kernel⟩
theorem uwX6 : ∀ w ∈ u_ws RX6 TX6 5, w ∈ TB := by decide +kernel
theorem cfX6 : ClsF 6 RX6 TX6 5 tyX6 := ⟨rfl, rfl, by decide, uwX6, tyX6_ok, nmX6, by decide +kernel⟩
theorem uwX7 : ∀ w ∈ u_ws RX7 TX7 5, w ∈ TB := by decide +kernel
theorem cfX7 : ClsF 7 RX7 TX7 5 tyX7 := ⟨rfl, rfl, by decide, uwX7, tyX7_ok, nmX7, by decide +kernel⟩
theorem uwX8 : ∀ w ∈ u_ws RX8 TX8 18, w ∈ TB := by decide +kernel
theorem cfX8 : ClsF 8 RX8 TX8 18 tyX8 := ⟨rfl, rfl, by decide, uwX8, tyX8_ok, nmX8, by decide +kernel⟩
theorem uwX9 : ∀ w ∈ u_ws RX9 TX9 53, w ∈ TB := by decide +kernel
theorem cfX9 : ClsF 9 RX9 TX9 53 tyX9 := ⟨rfl, rfl, by decide, uwX9, tyX9_ok, nmX9, by decide +kernel⟩
/-- a field link: the class at place ci, its field j, under the index idx of the class own -/
def LkF (own : String) (idx ci j : Nat) : Prop := ∃ (C : String) (T : u_T) (N : Nat) (ty : Nat → FieldType), ClsF ci C T N ty ∧ j < N ∧ Cond.fieldLink own idx (T j).1 (T j).2.1 (T j).2.2.1 ∈ TB
def LkP (own nm : String) (idx ci j : Nat) : Prop := ∃ (C : String) (T : u_T) (N : Nat) (ty : Nat → FieldType), ClsF ci C T N ty ∧ j < N ∧ Cond.fieldLink own idx (T j).1 (T j).2.1 (T j).2.2.1 ∈ TB ∧ ((T j).2.2.2 = false ∨ ((T j).2.2.2 = true ∧ nm = "<init>" ∧ (T j).1 = own))
def LkN (own : String) (idx ci : Nat) : Prop := ∃ (C : String) (T : u_T) (N : Nat) (ty : Nat → FieldType), ClsF ci C T N ty ∧ Cond.classLink own idx C ∈ TB ∧ Cond.instantiable C N ∈ TB ∧ Cond.initialized C ∈ TB
theorem narrow_rf {ty : FieldType} {v : Option Nat} (h : isRefTy ty = true) : narrow ty (va_rf v) = va_rf v ∧ fits ty (va_rf v) = true := by
  cases ty <;> simp [isRefTy] at h <;> cases v <;> exact ⟨rfl, rfl⟩
theorem TBc {w : Cond} {y : MethodName} {b : ByteArray} {nL : Nat} {rt : Option FieldType} (h : w ∈ TB) : w ∈ (Cond.code y b nL rt :: TB) := List.mem_cons_of_mem _ h
section RH
variable {l : Launch} {G : va_G} {cy : Nat → ClassId} {y : MethodName} {b : ByteArray} {nL : Nat} {rt : Option FieldType} {d mc ms : Nat} {Q : Option Value → HS → Prop} {pc : Nat} {lv : List (Option Value)} {st : List Value} {S : HS} {k n : Nat}
theorem r_getI {a ci j idx : Nat} (hd : decode b pc = .ok (.getfield idx, 3)) (hk : LkF y.cls idx ci j) (hr0 : fR ci j = false) (hK0 : tk a = ci) (h : R l G cy y b nL rt d mc ms Q (pc + 3) lv (.int (sI S (fid ci j) a) :: st) S k n) : R l G cy y b nL rt d mc ms Q pc lv (.ref a :: st) S k n := by
  intro p e s m args below meth c H locs ls A ρ L0 ρ0 X hK hA hP hD hS hl hoL hoS hρ hLL
  obtain ⟨hx, hb, hr, hml, hown, hts, hlk, hnm⟩ := id X
  obtain ⟨C, T, N, ty, ⟨c1, c2, c3, c4, c5, c6, c7⟩, hj, hw⟩ := hk
  obtain ⟨q0, hq0⟩ := List.getElem?_of_mem hoS.1
  have hq := pool_at (cy := cy) (ρ := ρ) hq0
  rw [pf_obj hK0 c3] at hq
  refine va_get (v := .int (sI S (fid ci j) a)) hx hb hts (fun w h => TBc (c4 w h)) hown hK.1 hP q0 hq c1 j hj (hts _ (TBc hw)) (fun _ h9 => h9) ?_ hd (h p e s m args below meth c H locs ls A ρ L0 ρ0 X hK hA hP hD hS hl hoL ⟨trivial, hoS.2⟩ hρ hLL)
  rw [fvs_get (by omega)]
  simp [fv, hr0]
theorem r_getR {a ci j idx : Nat} {x : Nat} (hd : decode b pc = .ok (.getfield idx, 3)) (hk : LkF y.cls idx ci j) (hr0 : fR ci j = true) (hK0 : tk a = ci) (hx0 : sR S (fid ci j) a = some x) (hxL : x ∈ sL S) (h : R l G cy y b nL rt d mc ms Q (pc + 3) lv (.ref x :: st) S k n) : R l G cy y b nL rt d mc ms Q pc lv (.ref a :: st) S k n := by
  intro p e s m args below meth c H locs ls A ρ L0 ρ0 X hK hA hP hD hS hl hoL hoS hρ hLL
  obtain ⟨hx, hb, hr, hml, hown, hts, hlk, hnm⟩ := id X
  obtain ⟨C, T, N, ty, ⟨c1, c2, c3, c4, c5, c6, c7⟩, hj, hw⟩ := hk
  obtain ⟨q0, hq0⟩ := List.getElem?_of_mem hoS.1
  have hq := pool_at (cy := cy) (ρ := ρ) hq0
  rw [pf_obj hK0 c3] at hq
  refine va_get (v := .ref (ρ x)) hx hb hts (fun w h => TBc (c4 w h)) hown hK.1 hP q0 hq c1 j hj (hts _ (TBc hw)) (fun _ h9 => h9) ?_ hd (h p e s m args below meth c H locs ls A ρ L0 ρ0 X hK hA hP hD hS hl hoL ⟨hxL, hoS.2⟩ hρ hLL)
  rw [fvs_get (by omega)]
  simp [fv, hr0, hx0, va_rf]
theorem r_putI {a ci j idx : Nat} {v : Int32} (hd : decode b pc = .ok (.putfield idx, 3)) (hk : LkP y.cls y.name idx ci j) (hr0 : fR ci j = false) (hK0 : tk a = ci) (h : R l G cy y b nL rt d mc ms Q (pc + 3) lv st (setI S (fid ci j) a v) k n) : R l G cy y b nL rt d mc ms Q pc lv (.int v :: .ref a :: st) S k n := by
  intro p e s m args below meth c H locs ls A ρ L0 ρ0 X hK hA hP hD hS hl hoL hoS hρ hLL
  obtain ⟨hx, hb, hr, hml, hown, hts, hlk, hnm⟩ := id X
  obtain ⟨C, T, N, ty, ⟨c1, c2, c3, c4, c5, c6, c7⟩, hj, hw, hf⟩ := hk
  obtain ⟨q0, hq0⟩ := List.getElem?_of_mem hoS.2.1
  have hq' := pool_at (cy := cy) (ρ := ρ) hq0
  rw [pf_obj hK0 c3] at hq'
  have hj' : j < nF ci := by omega
  have e9 : ty j = .int := (c7 j hj).elim (fun h => h.2) (fun h => by rw [hr0] at h; cases h.1)
  have e8 : narrow (ty j) (.int v) = .int v ∧ fits (ty j) (.int v) = true := by rw [e9]; exact ⟨rfl, rfl⟩
  have key : ∀ (H1 : Heap) (locs1 : List Loc), va_P G vwCl ((pool cy ρ S).set q0 (ρ a, .inr (ci, (fvs ρ S ci a).set j (.int v)))) H1 → va_D A ((pool cy ρ S).set q0 (ρ a, .inr (ci, (fvs ρ S ci a).set j (.int v)))) → va_S A s.heap H1 locs1 → W p l e (rmO d mc ms) s m args below meth c H1 locs1 k n (MQ below (Qcn G cy Q A L0 ρ0) args s mc ms A) (F0 m (pc + 3) ls (st.map (rn ρ))) := by
    intro H1 locs1 hP1 hD1 hS1
    have e7 : (pool cy ρ S).set q0 (ρ a, .inr (ci, (fvs ρ S ci a).set j (.int v))) = pool cy ρ (setI S (fid ci j) a v) := pool_set hD hq0 rfl (pf_setI hK0 c3 hj' hr0) pf_setI2
    rw [e7] at hP1 hD1
    exact h p e s m args below meth c H1 locs1 ls A ρ L0 ρ0 X hK hA hP1 hD1 hS1 hl hoL hoS.2.2 hρ hLL
  rcases hf with hf | ⟨hf, hn1, hn2⟩
  · exact va_put hx hb hts (fun w h => TBc (c4 w h)) ty c5 c6 hown hK.1 hP hD hS q0 hq' c1 j hj (hts _ (TBc hw)) (fun _ h9 => h9) hf (c5 j hj) e8.1 e8.2 (by rw [fvs_len]; exact hj') hd key
  · exact va_putF hx hb hts (fun w h => TBc (c4 w h)) ty c5 c6 hown hK.1 hP hD hS q0 hq' c1 j hj (hts _ (TBc hw)) (fun _ h9 => h9) hf (hnm.trans hn1) hn2 (c5 j hj) e8.1 e8.2 (by rw [fvs_len]; exact hj') hd key
theorem r_putR {a ci j idx : Nat} {v : Option Nat} (hd : decode b pc = .ok (.putfield idx, 3)) (hk : LkP y.cls y.name idx ci j) (hr0 : fR ci j = true) (hK0 : tk a = ci) (h : R l G cy y b nL rt d mc ms Q (pc + 3) lv st (setR S (fid ci j) a v) k n) : R l G cy y b nL rt d mc ms Q pc lv (va_rf v :: .ref a :: st) S k n := by
  intro p e s m args below meth c H locs ls A ρ L0 ρ0 X hK hA hP hD hS hl hoL hoS hρ hLL
  obtain ⟨hx, hb, hr, hml, hown, hts, hlk, hnm⟩ := id X
  obtain ⟨C, T, N, ty, ⟨c1, c2, c3, c4, c5, c6, c7⟩, hj, hw, hf⟩ := hk
  obtain ⟨q0, hq0⟩ := List.getElem?_of_mem hoS.2.1
  have hq' := pool_at (cy := cy) (ρ := ρ) hq0
  rw [pf_obj hK0 c3] at hq'
  have hj' : j < nF ci := by omega
  have e8 : narrow (ty j) (va_rf (v.map ρ)) = va_rf (v.map ρ) ∧ fits (ty j) (va_rf (v.map ρ)) = true := narrow_rf ((c7 j hj).elim (fun h => by rw [hr0] at h; cases h.1) (fun h => h.2))
  have e6 : (va_rf v :: Value.ref a :: st).map (rn ρ) = va_rf (v.map ρ) :: .ref (ρ a) :: st.map (rn ρ) := by rw [List.map_cons, rn_rf]; rfl
  rw [e6]
  have key : ∀ (H1 : Heap) (locs1 : List Loc), va_P G vwCl ((pool cy ρ S).set q0 (ρ a, .inr (ci, (fvs ρ S ci a).set j (va_rf (v.map ρ))))) H1 → va_D A ((pool cy ρ S).set q0 (ρ a, .inr (ci, (fvs ρ S ci a).set j (va_rf (v.map ρ))))) → va_S A s.heap H1 locs1 → W p l e (rmO d mc ms) s m args below meth c H1 locs1 k n (MQ below (Qcn G cy Q A L0 ρ0) args s mc ms A) (F0 m (pc + 3) ls (st.map (rn ρ))) := by
    intro H1 locs1 hP1 hD1 hS1
    have e7 : (pool cy ρ S).set q0 (ρ a, .inr (ci, (fvs ρ S ci a).set j (va_rf (v.map ρ)))) = pool cy ρ (setR S (fid ci j) a v) := pool_set hD hq0 rfl (pf_setR hK0 c3 hj' hr0) pf_setR2
    rw [e7] at hP1 hD1
    exact h p e s m args below meth c H1 locs1 ls A ρ L0 ρ0 X hK hA hP1 hD1 hS1 hl hoL hoS.2.2 hρ hLL
  rcases hf with hf | ⟨hf, hn1, hn2⟩
  · exact va_put hx hb hts (fun w h => TBc (c4 w h)) ty c5 c6 hown hK.1 hP hD hS q0 hq' c1 j hj (hts _ (TBc hw)) (fun _ h9 => h9) hf (c5 j hj) e8.1 e8.2 (by rw [fvs_len]; exact hj') hd key
  · exact va_putF hx hb hts (fun w h => TBc (c4 w h)) ty c5 c6 hown hK.1 hP hD hS q0 hq' c1 j hj (hts _ (TBc hw)) (fun _ h9 => h9) hf (hnm.trans hn1) hn2 (c5 j hj) e8.1 e8.2 (by rw [fvs_len]; exact hj') hd key
theorem r_iald {a : Nat} {i : Int32} (hd : decode b pc = .ok (.iaload, 1)) (hK0 : tk a = 10) (hi : vp_in i (tn a)) (h : R l G cy y b nL rt d mc ms Q (pc + 1) lv (.int (sA S a i.toNatClampNeg) :: st) S k n) : R l G cy y b nL rt d mc ms Q pc lv (.int i :: .ref a :: st) S k n := by
  intro p e s m args below meth c H locs ls A ρ L0 ρ0 X hK hA hP hD hS hl hoL hoS hρ hLL
  obtain ⟨hx, hb, hr, hml, hown, hts, hlk, hnm⟩ := id X
  obtain ⟨q0, hq0⟩ := List.getElem?_of_mem hoS.2.1
  have hq := pool_at (cy := cy) (ρ := ρ) hq0
  rw [pf_arr (by omega) (by omega), hK0] at hq
  exact va_iald hx hb hK.1 hP q0 0 hq rfl hi hd (h p e s m args below meth c H locs ls A ρ L0 ρ0 X hK hA hP hD hS hl hoL ⟨trivial, hoS.2.2⟩ hρ hLL)
theorem r_zald {a : Nat} {i : Int32} (hd : decode b pc = .ok (.baload, 1)) (hK0 : tk a = 11) (hi : vp_in i (tn a)) (h : R l G cy y b nL rt d mc ms Q (pc + 1) lv (.int (sA S a i.toNatClampNeg) :: st) S k n) : R l G cy y b nL rt d mc ms Q pc lv (.int i :: .ref a :: st) S k n := by
  intro p e s m args below meth c H locs ls A ρ L0 ρ0 X hK hA hP hD hS hl hoL hoS hρ hLL
  obtain ⟨hx, hb, hr, hml, hown, hts, hlk, hnm⟩ := id X
  obtain ⟨q0, hq0⟩ := List.getElem?_of_mem hoS.2.1
  have hq := pool_at (cy := cy) (ρ := ρ) hq0
  rw [pf_arr (by omega) (by omega), hK0] at hq
  exact va_zald hx hb hK.1 hP q0 1 hq rfl hi hd (h p e s m args below meth c H locs ls A ρ L0 ρ0 X hK hA hP hD hS hl hoL ⟨trivial, hoS.2.2⟩ hρ hLL)
theorem r_iast {a : Nat} {i x : Int32} (hd : decode b pc = .ok (.iastore, 1)) (hK0 : tk a = 10) (hi : vp_in i (tn a)) (h : R l G cy y b nL rt d mc ms Q (pc + 1) lv st (setA S a (upd (sA S a) i.toNatClampNeg x)) k n) : R l G cy y b nL rt d mc ms Q pc lv (.int x :: .int i :: .ref a :: st) S k n := by
  intro p e s m args below meth c H locs ls A ρ L0 ρ0 X hK hA hP hD hS hl hoL hoS hρ hLL
  obtain ⟨hx, hb, hr, hml, hown, hts, hlk, hnm⟩ := id X
  obtain ⟨q0, hq0⟩ := List.getElem?_of_mem hoS.2.2.1
  have hq := pool_at (cy := cy) (ρ := ρ) hq0
  rw [pf_arr (by omega) (by omega), hK0] at hq
  refine va_iast hx hb hK.1 hP hD hS q0 0 hq rfl hi hd (fun H1 locs1 hP1 hD1 hS1 => ?_)
  have e7 : (pool cy ρ S).set q0 (ρ a, .inl (cy 10, tn a, .inl (upd (sA S a) i.toNatClampNeg x))) = pool cy ρ (setA S a (upd (sA S a) i.toNatClampNeg x)) := pool_set hD hq0 rfl (by rw [← hK0]; exact pf_setA (by omega) (by omega)) pf_setA2
  rw [e7] at hP1 hD1
  exact h p e s m args below meth c H1 locs1 ls A ρ L0 ρ0 X hK hA hP1 hD1 hS1 hl hoL hoS.2.2.2 hρ hLL
theorem r_zast {a : Nat} {i x : Int32} (hd : decode b pc = .ok (.bastore, 1)) (hK0 : tk a = 11) (hi : vp_in i (tn a)) (h : R l G cy y b nL rt d mc ms Q (pc + 1) lv st (setA S a (upd (sA S a) i.toNatClampNeg (vp_nar .boolean x))) k n) : R l G cy y b nL rt d mc ms Q pc lv (.int x :: .int i :: .ref a :: st) S k n := by
  intro p e s m args below meth c H locs ls A ρ L0 ρ0 X hK hA hP hD hS hl hoL hoS hρ hLL
  obtain ⟨hx, hb, hr, hml, hown, hts, hlk, hnm⟩ := id X
  obtain ⟨q0, hq0⟩ := List.getElem?_of_mem hoS.2.2.1
  have hq := pool_at (cy := cy) (ρ := ρ) hq0
  rw [pf_arr (by omega) (by omega), hK0] at hq
  refine va_zast hx hb hK.1 hP hD hS q0 1 hq rfl hi hd (fun H1 locs1 hP1 hD1 hS1 => ?_)
  have e7 : (pool cy ρ S).set q0 (ρ a, .inl (cy 11, tn a, .inl (upd (sA S a) i.toNatClampNeg (vp_nar .boolean x)))) = pool cy ρ (setA S a (upd (sA S a) i.toNatClampNeg (vp_nar .boolean x))) := pool_set hD hq0 rfl (by rw [← hK0]; exact pf_setA (by omega) (by omega)) pf_setA2
  rw [e7] at hP1 hD1
  exact h p e s m args below meth c H1 locs1 ls A ρ L0 ρ0 X hK hA hP1 hD1 hS1 hl hoL hoS.2.2.2 hρ hLL
theorem r_aald12 {a : Nat} {i : Int32} (hd : decode b pc = .ok (.aaload, 1)) (hK0 : tk a = 12) (hi : vp_in i (tn a)) (hv : okV (sL S) (va_rf (sQ S a i.toNatClampNeg))) (h : R l G cy y b nL rt d mc ms Q (pc + 1) lv (va_rf (sQ S a i.toNatClampNeg) :: st) S k n) : R l G cy y b nL rt d mc ms Q pc lv (.int i :: .ref a :: st) S k n := by
  intro p e s m args below meth c H locs ls A ρ L0 ρ0 X hK hA hP hD hS hl hoL hoS hρ hLL
  obtain ⟨hx, hb, hr, hml, hown, hts, hlk, hnm⟩ := id X
  obtain ⟨q0, hq0⟩ := List.getElem?_of_mem hoS.2.1
  have hq := pool_at (cy := cy) (ρ := ρ) hq0
  rw [pf_arq (by omega), hK0] at hq
  have h' := (h p e s m args below meth c H locs ls A ρ L0 ρ0 X hK hA hP hD hS hl hoL ⟨hv, hoS.2.2⟩ hρ hLL)
  rw [List.map_cons, rn_rf] at h'
  exact va_aldq hx hb hK.1 hP q0 2 hq rfl hi hd h'
theorem r_aast12 {a x : Nat} {i : Int32} (hd : decode b pc = .ok (.aastore, 1)) (hK0 : tk a = 12) (hK2 : tk x = 0) (hi : vp_in i (tn a)) (h : R l G cy y b nL rt d mc ms Q (pc + 1) lv st (setQ S a (va_up (sQ S a) i.toNatClampNeg (some x))) k n) : R l G cy y b nL rt d mc ms Q pc lv (.ref x :: .int i :: .ref a :: st) S k n := by
  intro p e s m args below meth c H locs ls A ρ L0 ρ0 X hK hA hP hD hS hl hoL hoS hρ hLL
  obtain ⟨hx, hb, hr, hml, hown, hts, hlk, hnm⟩ := id X
  obtain ⟨q0, hq0⟩ := List.getElem?_of_mem hoS.2.2.1
  have hq := pool_at (cy := cy) (ρ := ρ) hq0
  rw [pf_arq (by omega), hK0] at hq
  obtain ⟨q2, hq2⟩ := List.getElem?_of_mem hoS.1
  have hq2 := pool_at (cy := cy) (ρ := ρ) hq2
  rw [pf_obj hK2 (by omega)] at hq2
  refine va_astq (r := (RX0, TX0, 8)) hx hb hK.1 hP hD hS q0 2 q2 0 hq rfl hq2 rfl hi hd (fun H1 locs1 hP1 hD1 hS1 => ?_)
  have e6 : (va_up (fun i => (sQ S a i).map ρ) i.toNatClampNeg (some (ρ x))) = (fun j => (va_up (sQ S a) i.toNatClampNeg (some x) j).map ρ) := by
    funext j
    unfold va_up
    split <;> rfl
  rw [e6] at hP1 hD1
  have e7 : (pool cy ρ S).set q0 (ρ a, .inl (cy 12, tn a, .inr (.inr (.inr (.inr (fun j => (va_up (sQ S a) i.toNatClampNeg (some x) j).map ρ)))))) = pool cy ρ (setQ S a (va_up (sQ S a) i.toNatClampNeg (some x))) := pool_set hD hq0 rfl (by rw [← hK0]; exact pf_setQ (by omega)) pf_setQ2
  rw [e7] at hP1 hD1
  exact h p e s m args below meth c H1 locs1 ls A ρ L0 ρ0 X hK hA hP1 hD1 hS1 hl hoL hoS.2.2.2 hρ hLL
theorem r_aald13 {a : Nat} {i : Int32} (hd : decode b pc = .ok (.aaload, 1)) (hK0 : tk a = 13) (hi : vp_in i (tn a)) (hv : okV (sL S) (va_rf (sQ S a i.toNatClampNeg))) (h : R l G cy y b nL rt d mc ms Q (pc + 1) lv (va_rf (sQ S a i.toNatClampNeg) :: st) S k n) : R l G cy y b nL rt d mc ms Q pc lv (.int i :: .ref a :: st) S k n := by
  intro p e s m args below meth c H locs ls A ρ L0 ρ0 X hK hA hP hD hS hl hoL hoS hρ hLL
  obtain ⟨hx, hb, hr, hml, hown, hts, hlk, hnm⟩ := id X
  obtain ⟨q0, hq0⟩ := List.getElem?_of_mem hoS.2.1
  have hq := pool_at (cy := cy) (ρ := ρ) hq0
  rw [pf_arq (by omega), hK0] at hq
  have h' := (h p e s m args below meth c H locs ls A ρ L0 ρ0 X hK hA hP hD hS hl hoL ⟨hv, hoS.2.2⟩ hρ hLL)
  rw [List.map_cons, rn_rf] at h'
  exact va_aldq hx hb hK.1 hP q0 3 hq rfl hi hd h'
theorem r_aast13 {a x : Nat} {i : Int32} (hd : decode b pc = .ok (.aastore, 1)) (hK0 : tk a = 13) (hK2 : tk x = 2) (hi : vp_in i (tn a)) (h : R l G cy y b nL rt d mc ms Q (pc + 1) lv st (setQ S a (va_up (sQ S a) i.toNatClampNeg (some x))) k n) : R l G cy y b nL rt d mc ms Q pc lv (.ref x :: .int i :: .ref a :: st) S k n := by
  intro p e s m args below meth c H locs ls A ρ L0 ρ0 X hK hA hP hD hS hl hoL hoS hρ hLL
  obtain ⟨hx, hb, hr, hml, hown, hts, hlk, hnm⟩ := id X
  obtain ⟨q0, hq0⟩ := List.getElem?_of_mem hoS.2.2.1
  have hq := pool_at (cy := cy) (ρ := ρ) hq0
  rw [pf_arq (by omega), hK0] at hq
  obtain ⟨q2, hq2⟩ := List.getElem?_of_mem hoS.1
  have hq2 := pool_at (cy := cy) (ρ := ρ) hq2
  rw [pf_obj hK2 (by omega)] at hq2
  refine va_astq (r := (RX2, TX2, 11)) hx hb hK.1 hP hD hS q0 3 q2 2 hq rfl hq2 rfl hi hd (fun H1 locs1 hP1 hD1 hS1 => ?_)
  have e6 : (va_up (fun i => (sQ S a i).map ρ) i.toNatClampNeg (some (ρ x))) = (fun j => (va_up (sQ S a) i.toNatClampNeg (some x) j).map ρ) := by
    funext j
    unfold va_up
    split <;> rfl
  rw [e6] at hP1 hD1
  have e7 : (pool cy ρ S).set q0 (ρ a, .inl (cy 13, tn a, .inr (.inr (.inr (.inr (fun j => (va_up (sQ S a) i.toNatClampNeg (some x) j).map ρ)))))) = pool cy ρ (setQ S a (va_up (sQ S a) i.toNatClampNeg (some x))) := pool_set hD hq0 rfl (by rw [← hK0]; exact pf_setQ (by omega)) pf_setQ2
  rw [e7] at hP1 hD1
  exact h p e s m args below meth c H1 locs1 ls A ρ L0 ρ0 X hK hA hP1 hD1 hS1 hl hoL hoS.2.2.2 hρ hLL
theorem r_aald14 {a : Nat} {i : Int32} (hd : decode b pc = .ok (.aaload, 1)) (hK0 : tk a = 14) (hi : vp_in i (tn a)) (hv : okV (sL S) (va_rf (sQ S a i.toNatClampNeg))) (h : R l G cy y b nL rt d mc ms Q (pc + 1) lv (va_rf (sQ S a i.toNatClampNeg) :: st) S k n) : R l G cy y b nL rt d mc ms Q pc lv (.int i :: .ref a :: st) S k n := by
  intro p e s m args below meth c H locs ls A ρ L0 ρ0 X hK hA hP hD hS hl hoL hoS hρ hLL
  obtain ⟨hx, hb, hr, hml, hown, hts, hlk, hnm⟩ := id X
  obtain ⟨q0, hq0⟩ := List.getElem?_of_mem hoS.2.1
  have hq := pool_at (cy := cy) (ρ := ρ) hq0
  rw [pf_arq (by omega), hK0] at hq
  have h' := (h p e s m args below meth c H locs ls A ρ L0 ρ0 X hK hA hP hD hS hl hoL ⟨hv, hoS.2.2⟩ hρ hLL)
  rw [List.map_cons, rn_rf] at h'
  exact va_aldq hx hb hK.1 hP q0 4 hq rfl hi hd h'
theorem r_aast14 {a x : Nat} {i : Int32} (hd : decode b pc = .ok (.aastore, 1)) (hK0 : tk a = 14) (hK2 : tk x = 5) (hi : vp_in i (tn a)) (h : R l G cy y b nL rt d mc ms Q (pc + 1) lv st (setQ S a (va_up (sQ S a) i.toNatClampNeg (some x))) k n) : R l G cy y b nL rt d mc ms Q pc lv (.ref x :: .int i :: .ref a :: st) S k n := by
  intro p e s m args below meth c H locs ls A ρ L0 ρ0 X hK hA hP hD hS hl hoL hoS hρ hLL
  obtain ⟨hx, hb, hr, hml, hown, hts, hlk, hnm⟩ := id X
  obtain ⟨q0, hq0⟩ := List.getElem?_of_mem hoS.2.2.1
  have hq := pool_at (cy := cy) (ρ := ρ) hq0
  rw [pf_arq (by omega), hK0] at hq
  obtain ⟨q2, hq2⟩ := List.getElem?_of_mem hoS.1
  have hq2 := pool_at (cy := cy) (ρ := ρ) hq2
  rw [pf_obj hK2 (by omega)] at hq2
  refine va_astq (r := (RX5, TX5, 2)) hx hb hK.1 hP hD hS q0 4 q2 5 hq rfl hq2 rfl hi hd (fun H1 locs1 hP1 hD1 hS1 => ?_)
  have e6 : (va_up (fun i => (sQ S a i).map ρ) i.toNatClampNeg (some (ρ x))) = (fun j => (va_up (sQ S a) i.toNatClampNeg (some x) j).map ρ) := by
    funext j
    unfold va_up
    split <;> rfl
  rw [e6] at hP1 hD1
  have e7 : (pool cy ρ S).set q0 (ρ a, .inl (cy 14, tn a, .inr (.inr (.inr (.inr (fun j => (va_up (sQ S a) i.toNatClampNeg (some x) j).map ρ)))))) = pool cy ρ (setQ S a (va_up (sQ S a) i.toNatClampNeg (some x))) := pool_set hD hq0 rfl (by rw [← hK0]; exact pf_setQ (by omega)) pf_setQ2
  rw [e7] at hP1 hD1
  exact h p e s m args below meth c H1 locs1 ls A ρ L0 ρ0 X hK hA hP1 hD1 hS1 hl hoL hoS.2.2.2 hρ hLL
theorem r_aald15 {a : Nat} {i : Int32} (hd : decode b pc = .ok (.aaload, 1)) (hK0 : tk a = 15) (hi : vp_in i (tn a)) (hv : okV (sL S) (va_rf (sQ S a i.toNatClampNeg))) (h : R l G cy y b nL rt d mc ms Q (pc + 1) lv (va_rf (sQ S a i.toNatClampNeg) :: st) S k n) : R l G cy y b nL rt d mc ms Q pc lv (.int i :: .ref a :: st) S k n := by
  intro p e s m args below meth c H locs ls A ρ L0 ρ0 X hK hA hP hD hS hl hoL hoS hρ hLL
  obtain ⟨hx, hb, hr, hml, hown, hts, hlk, hnm⟩ := id X
  obtain ⟨q0, hq0⟩ := List.getElem?_of_mem hoS.2.1
  have hq := pool_at (cy := cy) (ρ := ρ) hq0
  rw [pf_arq (by omega), hK0] at hq
  have h' := (h p e s m args below meth c H locs ls A ρ L0 ρ0 X hK hA hP hD hS hl hoL ⟨hv, hoS.2.2⟩ hρ hLL)
  rw [List.map_cons, rn_rf] at h'
  exact va_aldq hx hb hK.1 hP q0 5 hq rfl hi hd h'
theorem r_aast15 {a x : Nat} {i : Int32} (hd : decode b pc = .ok (.aastore, 1)) (hK0 : tk a = 15) (hK2 : tk x = 7) (hi : vp_in i (tn a)) (h : R l G cy y b nL rt d mc ms Q (pc + 1) lv st (setQ S a (va_up (sQ S a) i.toNatClampNeg (some x))) k n) : R l G cy y b nL rt d mc ms Q pc lv (.ref x :: .int i :: .ref a :: st) S k n := by
  intro p e s m args below meth c H locs ls A ρ L0 ρ0 X hK hA hP hD hS hl hoL hoS hρ hLL
  obtain ⟨hx, hb, hr, hml, hown, hts, hlk, hnm⟩ := id X
  obtain ⟨q0, hq0⟩ := List.getElem?_of_mem hoS.2.2.1
  have hq := pool_at (cy := cy) (ρ := ρ) hq0
  rw [pf_arq (by omega), hK0] at hq
  obtain ⟨q2, hq2⟩ := List.getElem?_of_mem hoS.1
  have hq2 := pool_at (cy := cy) (ρ := ρ) hq2
  rw [pf_obj hK2 (by omega)] at hq2
  refine va_astq (r := (RX7, TX7, 5)) hx hb hK.1 hP hD hS q0 5 q2 7 hq rfl hq2 rfl hi hd (fun H1 locs1 hP1 hD1 hS1 => ?_)
  have e6 : (va_up (fun i => (sQ S a i).map ρ) i.toNatClampNeg (some (ρ x))) = (fun j => (va_up (sQ S a) i.toNatClampNeg (some x) j).map ρ) := by
    funext j
    unfold va_up
    split <;> rfl
  rw [e6] at hP1 hD1
  have e7 : (pool cy ρ S).set q0 (ρ a, .inl (cy 15, tn a, .inr (.inr (.inr (.inr (fun j => (va_up (sQ S a) i.toNatClampNeg (some x) j).map ρ)))))) = pool cy ρ (setQ S a (va_up (sQ S a) i.toNatClampNeg (some x))) := pool_set hD hq0 rfl (by rw [← hK0]; exact pf_setQ (by omega)) pf_setQ2
  rw [e7] at hP1 hD1
  exact h p e s m args below meth c H1 locs1 ls A ρ L0 ρ0 X hK hA hP1 hD1 hS1 hl hoL hoS.2.2.2 hρ hLL
theorem r_new (t : Nat) {ci idx : Nat} (hd : decode b pc = .ok (.new idx, 3)) (hk : LkN y.cls idx ci) (ht : tk t = ci) (hL : t ∉ sL S) (hF : Fr t S) (h1 : k + 1 ≤ mc) (h2 : n + nF ci ≤ ms) (h : R l G cy y b nL rt d mc ms Q (pc + 3) lv (.ref t :: st) (newO S t) (k + 1) (n + nF ci)) : R l G cy y b nL rt d mc ms Q pc lv st S k n := by
  intro p e s m args below meth c H locs ls A ρ L0 ρ0 X hK hA hP hD hS hl hoL hoS hρ hLL
  obtain ⟨hx, hb, hr, hml, hown, hts, hlk, hnm⟩ := id X
  obtain ⟨C, T, N, ty, ⟨c1, c2, c3, c4, c5, c6, c7⟩, w1, w2, w3⟩ := hk
  subst c2
  refine va_new (fs := dfs ci) hx hb hts (fun w h => TBc (c4 w h)) ty c5 hown (hts _ (TBc w1)) (hts _ (TBc w2)) (hts _ (TBc w3)) hK.1 hP hD hS hA c1 ?_ h1 h2 hd (fun q H1 hP1 hD1 hS1 => ?_)
  · intro j hj
    have e1 : vp_V (dfs ci) j = if fR ci j = true then Value.null else .int 0 := by simp [vp_V, dfs, List.getD, hj]
    rw [e1]
    rcases c7 j hj with ⟨a1, a2⟩ | ⟨a1, a2⟩
    · rw [a1, a2]; rfl
    · rw [a1, if_pos rfl]
      cases ht : ty j <;> rw [ht] at a2 <;> simp [isRefTy] at a2 <;> rfl
  · have hne : ∀ t' ∈ sL S, t' ≠ t := fun t' h1 h2 => hL (h2 ▸ h1)
    have hag : ∀ t' ∈ sL S, va_up ρ t q t' = ρ t' := fun t' h1 => va_up_ne _ _ (hne t' h1)
    have e7 : pool cy ρ S ++ [(q, .inr (ci, dfs ci))] = pool cy (va_up ρ t q) (newO S t) := pool_push rfl (va_up_self _ _ _) (pf_newO ht c3) (fun t' h1 => ⟨hag t' h1, pf_newO2 hF t' (hne t' h1)⟩)
    rw [e7] at hP1 hD1
    have hl' : lhm ls nL (va_up ρ t q) lv := by
      unfold lhm at hl ⊢
      rw [rnL_eq hag hoL]
      exact hl
    have hsub : ∀ t' ∈ sL S, t' ∈ sL (newO S t) := fun t' h1 => List.mem_append_left _ h1
    have h' := h p e s m args below meth c H1 locs ls A (va_up ρ t q) L0 ρ0 X hK hA hP1 hD1 hS1 hl' (okL_mono hsub hoL) ⟨List.mem_append_right _ (List.mem_singleton.mpr rfl), okS_mono hsub hoS⟩ (fun t' h1 => (hag t' (hLL t' h1)).trans (hρ t' h1)) (fun t' h1 => hsub t' (hLL t' h1))
    rw [List.map_cons, rnS_eq hag hoS] at h'
    have e5 : rn (va_up ρ t q) (.ref t) = .ref q := congrArg Value.ref (va_up_self _ _ _)
    rw [e5] at h'
    exact h'

theorem r_newI (t : Nat) {N : Nat} {z : Int32} (hd : decode b pc = .ok (.newarray .int, 2)) (hw : Cond.arrayClass .int ∈ TB) (hz : ¬ z < 0) (hN : z.toNatClampNeg = N) (hs : N * componentBytes .int ≤ 536870912) (ht : tk t = 10) (htn : tn t = N) (hL : t ∉ sL S) (hF : Fr t S) (h1 : k + 1 ≤ mc) (h2 : n + N ≤ ms) (h : R l G cy y b nL rt d mc ms Q (pc + 2) lv (.ref t :: st) (newA S t) (k + 1) (n + N)) : R l G cy y b nL rt d mc ms Q pc lv (.int z :: st) S k n := by
  intro p e s m args below meth c H locs ls A ρ L0 ρ0 X hK hA hP hD hS hl hoL hoS hρ hLL
  obtain ⟨hx, hb, hr, hml, hown, hts, hlk, hnm⟩ := id X
  refine va_newa (atype := .int) (ty := .int) (a0 := (N, .inl (fun _ => 0))) hx hb (hts _ (TBc hw)) rfl hK.1 hP hD hS hA (fun cA => by rw [vp_cell_i] <;> rfl) hz hN hs h1 h2 hd (fun q cA H1 hK1 hP1 hD1 hS1 => ?_)
  have hc : cA = cy 10 := by
    have e1 := (hK1.2 6 (cA, .int) rfl).2
    have e2 := (hK.1.2 0 (cy 10, .int) rfl).2
    exact Option.some.inj (e1.symm.trans e2)
  subst hc
  have hne : ∀ t' ∈ sL S, t' ≠ t := fun t' h1 h2 => hL (h2 ▸ h1)
  have hag : ∀ t' ∈ sL S, va_up ρ t q t' = ρ t' := fun t' h1 => va_up_ne _ _ (hne t' h1)
  have e7 : pool cy ρ S ++ [(q, .inl (cy 10, N, .inl (fun _ => 0)))] = pool cy (va_up ρ t q) (newA S t) := pool_push rfl (va_up_self _ _ _) (by rw [← htn, ← ht]; exact pf_newA (by omega) (by omega)) (fun t' h1 => ⟨hag t' h1, pf_newA2 hF t' (hne t' h1)⟩)
  rw [e7] at hP1 hD1
  have hl' : lhm ls nL (va_up ρ t q) lv := by
    unfold lhm at hl ⊢
    rw [rnL_eq hag hoL]
    exact hl
  have hsub : ∀ t' ∈ sL S, t' ∈ sL (newA S t) := fun t' h1 => List.mem_append_left _ h1
  have h' := h p e s m args below meth c H1 locs ls A (va_up ρ t q) L0 ρ0 X hK hA hP1 hD1 hS1 hl' (okL_mono hsub hoL) ⟨List.mem_append_right _ (List.mem_singleton.mpr rfl), okS_mono hsub hoS.2⟩ (fun t' h1 => (hag t' (hLL t' h1)).trans (hρ t' h1)) (fun t' h1 => hsub t' (hLL t' h1))
  rw [List.map_cons, rnS_eq hag hoS.2] at h'
  have e5 : rn (va_up ρ t q) (.ref t) = .ref q := congrArg Value.ref (va_up_self _ _ _)
  rw [e5] at h'
  exact h'

theorem r_newZ (t : Nat) {N : Nat} {z : Int32} (hd : decode b pc = .ok (.newarray .boolean, 2)) (hw : Cond.arrayClass .boolean ∈ TB) (hz : ¬ z < 0) (hN : z.toNatClampNeg = N) (hs : N * componentBytes .boolean ≤ 536870912) (ht : tk t = 11) (htn : tn t = N) (hL : t ∉ sL S) (hF : Fr t S) (h1 : k + 1 ≤ mc) (h2 : n + N ≤ ms) (h : R l G cy y b nL rt d mc ms Q (pc + 2) lv (.ref t :: st) (newA S t) (k + 1) (n + N)) : R l G cy y b nL rt d mc ms Q pc lv (.int z :: st) S k n := by
  intro p e s m args below meth c H locs ls A ρ L0 ρ0 X hK hA hP hD hS hl hoL hoS hρ hLL
  obtain ⟨hx, hb, hr, hml, hown, hts, hlk, hnm⟩ := id X
  refine va_newa (atype := .boolean) (ty := .boolean) (a0 := (N, .inl (fun _ => 0))) hx hb (hts _ (TBc hw)) rfl hK.1 hP hD hS hA (fun cA => by rw [vp_cell_i] <;> rfl) hz hN hs h1 h2 hd (fun q cA H1 hK1 hP1 hD1 hS1 => ?_)
  have hc : cA = cy 11 := by
    have e1 := (hK1.2 6 (cA, .boolean) rfl).2
    have e2 := (hK.1.2 1 (cy 11, .boolean) rfl).2
    exact Option.some.inj (e1.symm.trans e2)
  subst hc
  have hne : ∀ t' ∈ sL S, t' ≠ t := fun t' h1 h2 => hL (h2 ▸ h1)
  have hag : ∀ t' ∈ sL S, va_up ρ t q t' = ρ t' := fun t' h1 => va_up_ne _ _ (hne t' h1)
  have e7 : pool cy ρ S ++ [(q, .inl (cy 11, N, .inl (fun _ => 0)))] = pool cy (va_up ρ t q) (newA S t) := pool_push rfl (va_up_self _ _ _) (by rw [← htn, ← ht]; exact pf_newA (by omega) (by omega)) (fun t' h1 => ⟨hag t' h1, pf_newA2 hF t' (hne t' h1)⟩)
  rw [e7] at hP1 hD1
  have hl' : lhm ls nL (va_up ρ t q) lv := by
    unfold lhm at hl ⊢
    rw [rnL_eq hag hoL]
    exact hl
  have hsub : ∀ t' ∈ sL S, t' ∈ sL (newA S t) := fun t' h1 => List.mem_append_left _ h1
  have h' := h p e s m args below meth c H1 locs ls A (va_up ρ t q) L0 ρ0 X hK hA hP1 hD1 hS1 hl' (okL_mono hsub hoL) ⟨List.mem_append_right _ (List.mem_singleton.mpr rfl), okS_mono hsub hoS.2⟩ (fun t' h1 => (hag t' (hLL t' h1)).trans (hρ t' h1)) (fun t' h1 => hsub t' (hLL t' h1))
  rw [List.map_cons, rnS_eq hag hoS.2] at h'
  have e5 : rn (va_up ρ t q) (.ref t) = .ref q := congrArg Value.ref (va_up_self _ _ _)
  rw [e5] at h'
  exact h'

theorem r_newq12 (t : Nat) {N idx : Nat} {z : Int32} (hd : decode b pc = .ok (.anewarray idx, 3)) (hw : Cond.classLink y.cls idx RX0 ∈ TB) (hz : ¬ z < 0) (hN : z.toNatClampNeg = N) (hs : N * 4 ≤ 536870912) (ht : tk t = 12) (htn : tn t = N) (hL : t ∉ sL S) (hF : Fr t S) (h1 : k + 1 ≤ mc) (h2 : n + N ≤ ms) (h : R l G cy y b nL rt d mc ms Q (pc + 3) lv (.ref t :: st) (newA S t) (k + 1) (n + N)) : R l G cy y b nL rt d mc ms Q pc lv (.int z :: st) S k n := by
  intro p e s m args below meth c H locs ls A ρ L0 ρ0 X hK hA hP hD hS hl hoL hoS hρ hLL
  obtain ⟨hx, hb, hr, hml, hown, hts, hlk, hnm⟩ := id X
  refine va_newq hx hb hown (hts _ (TBc hw)) hK.2.2.1 hK.1 hP hD hS hA hz hN hs h1 h2 hd (fun q cA H1 hK1 hP1 hD1 hS1 => ?_)
  have hc : cA = cy 12 := by
    obtain ⟨_, _, _, _, _, e1⟩ := (hK1.2 6 (cA, .object RX0) rfl).2
    obtain ⟨_, _, _, _, _, e2⟩ := (hK.1.2 2 (cy 12, .object RX0) rfl).2
    exact Option.some.inj (e1.symm.trans e2)
  subst hc
  have hne : ∀ t' ∈ sL S, t' ≠ t := fun t' h1 h2 => hL (h2 ▸ h1)
  have hag : ∀ t' ∈ sL S, va_up ρ t q t' = ρ t' := fun t' h1 => va_up_ne _ _ (hne t' h1)
  have e7 : pool cy ρ S ++ [(q, .inl (cy 12, N, .inr (.inr (.inr (.inr (fun _ => none))))))] = pool cy (va_up ρ t q) (newA S t) := pool_push rfl (va_up_self _ _ _) (by rw [← htn, ← ht]; exact pf_newQ (by omega)) (fun t' h1 => ⟨hag t' h1, pf_newA2 hF t' (hne t' h1)⟩)
  rw [e7] at hP1 hD1
  have hl' : lhm ls nL (va_up ρ t q) lv := by
    unfold lhm at hl ⊢
    rw [rnL_eq hag hoL]
    exact hl
  have hsub : ∀ t' ∈ sL S, t' ∈ sL (newA S t) := fun t' h1 => List.mem_append_left _ h1
  have h' := h p e s m args below meth c H1 locs ls A (va_up ρ t q) L0 ρ0 X hK hA hP1 hD1 hS1 hl' (okL_mono hsub hoL) ⟨List.mem_append_right _ (List.mem_singleton.mpr rfl), okS_mono hsub hoS.2⟩ (fun t' h1 => (hag t' (hLL t' h1)).trans (hρ t' h1)) (fun t' h1 => hsub t' (hLL t' h1))
  rw [List.map_cons, rnS_eq hag hoS.2] at h'
  have e5 : rn (va_up ρ t q) (.ref t) = .ref q := congrArg Value.ref (va_up_self _ _ _)
  rw [e5] at h'
  exact h'

theorem r_newq13 (t : Nat) {N idx : Nat} {z : Int32} (hd : decode b pc = .ok (.anewarray idx, 3)) (hw : Cond.classLink y.cls idx RX2 ∈ TB) (hz : ¬ z < 0) (hN : z.toNatClampNeg = N) (hs : N * 4 ≤ 536870912) (ht : tk t = 13) (htn : tn t = N) (hL : t ∉ sL S) (hF : Fr t S) (h1 : k + 1 ≤ mc) (h2 : n + N ≤ ms) (h : R l G cy y b nL rt d mc ms Q (pc + 3) lv (.ref t :: st) (newA S t) (k + 1) (n + N)) : R l G cy y b nL rt d mc ms Q pc lv (.int z :: st) S k n := by
  intro p e s m args below meth c H locs ls A ρ L0 ρ0 X hK hA hP hD hS hl hoL hoS hρ hLL
  obtain ⟨hx, hb, hr, hml, hown, hts, hlk, hnm⟩ := id X
  refine va_newq hx hb hown (hts _ (TBc hw)) hK.2.2.2.1 hK.1 hP hD hS hA hz hN hs h1 h2 hd (fun q cA H1 hK1 hP1 hD1 hS1 => ?_)
  have hc : cA = cy 13 := by
    obtain ⟨_, _, _, _, _, e1⟩ := (hK1.2 6 (cA, .object RX2) rfl).2
    obtain ⟨_, _, _, _, _, e2⟩ := (hK.1.2 3 (cy 13, .object RX2) rfl).2
    exact Option.some.inj (e1.symm.trans e2)
  subst hc
  have hne : ∀ t' ∈ sL S, t' ≠ t := fun t' h1 h2 => hL (h2 ▸ h1)
  have hag : ∀ t' ∈ sL S, va_up ρ t q t' = ρ t' := fun t' h1 => va_up_ne _ _ (hne t' h1)
  have e7 : pool cy ρ S ++ [(q, .inl (cy 13, N, .inr (.inr (.inr (.inr (fun _ => none))))))] = pool cy (va_up ρ t q) (newA S t) := pool_push rfl (va_up_self _ _ _) (by rw [← htn, ← ht]; exact pf_newQ (by omega)) (fun t' h1 => ⟨hag t' h1, pf_newA2 hF t' (hne t' h1)⟩)
  rw [e7] at hP1 hD1
  have hl' : lhm ls nL (va_up ρ t q) lv := by
    unfold lhm at hl ⊢
    rw [rnL_eq hag hoL]
    exact hl
  have hsub : ∀ t' ∈ sL S, t' ∈ sL (newA S t) := fun t' h1 => List.mem_append_left _ h1
  have h' := h p e s m args below meth c H1 locs ls A (va_up ρ t q) L0 ρ0 X hK hA hP1 hD1 hS1 hl' (okL_mono hsub hoL) ⟨List.mem_append_right _ (List.mem_singleton.mpr rfl), okS_mono hsub hoS.2⟩ (fun t' h1 => (hag t' (hLL t' h1)).trans (hρ t' h1)) (fun t' h1 => hsub t' (hLL t' h1))
  rw [List.map_cons, rnS_eq hag hoS.2] at h'
  have e5 : rn (va_up ρ t q) (.ref t) = .ref q := congrArg Value.ref (va_up_self _ _ _)
  rw [e5] at h'
  exact h'

theorem r_newq14 (t : Nat) {N idx : Nat} {z : Int32} (hd : decode b pc = .ok (.anewarray idx, 3)) (hw : Cond.classLink y.cls idx RX5 ∈ TB) (hz : ¬ z < 0) (hN : z.toNatClampNeg = N) (hs : N * 4 ≤ 536870912) (ht : tk t = 14) (htn : tn t = N) (hL : t ∉ sL S) (hF : Fr t S) (h1 : k + 1 ≤ mc) (h2 : n + N ≤ ms) (h : R l G cy y b nL rt d mc ms Q (pc + 3) lv (.ref t :: st) (newA S t) (k + 1) (n + N)) : R l G cy y b nL rt d mc ms Q pc lv (.int z :: st) S k n := by
  intro p e s m args below meth c H locs ls A ρ L0 ρ0 X hK hA hP hD hS hl hoL hoS hρ hLL
  obtain ⟨hx, hb, hr, hml, hown, hts, hlk, hnm⟩ := id X
  refine va_newq hx hb hown (hts _ (TBc hw)) hK.2.2.2.2.1 hK.1 hP hD hS hA hz hN hs h1 h2 hd (fun q cA H1 hK1 hP1 hD1 hS1 => ?_)
  have hc : cA = cy 14 := by
    obtain ⟨_, _, _, _, _, e1⟩ := (hK1.2 6 (cA, .object RX5) rfl).2
    obtain ⟨_, _, _, _, _, e2⟩ := (hK.1.2 4 (cy 14, .object RX5) rfl).2
    exact Option.some.inj (e1.symm.trans e2)
  subst hc
  have hne : ∀ t' ∈ sL S, t' ≠ t := fun t' h1 h2 => hL (h2 ▸ h1)
  have hag : ∀ t' ∈ sL S, va_up ρ t q t' = ρ t' := fun t' h1 => va_up_ne _ _ (hne t' h1)
  have e7 : pool cy ρ S ++ [(q, .inl (cy 14, N, .inr (.inr (.inr (.inr (fun _ => none))))))] = pool cy (va_up ρ t q) (newA S t) := pool_push rfl (va_up_self _ _ _) (by rw [← htn, ← ht]; exact pf_newQ (by omega)) (fun t' h1 => ⟨hag t' h1, pf_newA2 hF t' (hne t' h1)⟩)
  rw [e7] at hP1 hD1
  have hl' : lhm ls nL (va_up ρ t q) lv := by
    unfold lhm at hl ⊢
    rw [rnL_eq hag hoL]
    exact hl
  have hsub : ∀ t' ∈ sL S, t' ∈ sL (newA S t) := fun t' h1 => List.mem_append_left _ h1
  have h' := h p e s m args below meth c H1 locs ls A (va_up ρ t q) L0 ρ0 X hK hA hP1 hD1 hS1 hl' (okL_mono hsub hoL) ⟨List.mem_append_right _ (List.mem_singleton.mpr rfl), okS_mono hsub hoS.2⟩ (fun t' h1 => (hag t' (hLL t' h1)).trans (hρ t' h1)) (fun t' h1 => hsub t' (hLL t' h1))
  rw [List.map_cons, rnS_eq hag hoS.2] at h'
  have e5 : rn (va_up ρ t q) (.ref t) = .ref q := congrArg Value.ref (va_up_self _ _ _)
  rw [e5] at h'
  exact h'

theorem r_newq15 (t : Nat) {N idx : Nat} {z : Int32} (hd : decode b pc = .ok (.anewarray idx, 3)) (hw : Cond.classLink y.cls idx RX7 ∈ TB) (hz : ¬ z < 0) (hN : z.toNatClampNeg = N) (hs : N * 4 ≤ 536870912) (ht : tk t = 15) (htn : tn t = N) (hL : t ∉ sL S) (hF : Fr t S) (h1 : k + 1 ≤ mc) (h2 : n + N ≤ ms) (h : R l G cy y b nL rt d mc ms Q (pc + 3) lv (.ref t :: st) (newA S t) (k + 1) (n + N)) : R l G cy y b nL rt d mc ms Q pc lv (.int z :: st) S k n := by
  intro p e s m args below meth c H locs ls A ρ L0 ρ0 X hK hA hP hD hS hl hoL hoS hρ hLL
  obtain ⟨hx, hb, hr, hml, hown, hts, hlk, hnm⟩ := id X
  refine va_newq hx hb hown (hts _ (TBc hw)) hK.2.2.2.2.2 hK.1 hP hD hS hA hz hN hs h1 h2 hd (fun q cA H1 hK1 hP1 hD1 hS1 => ?_)
  have hc : cA = cy 15 := by
    obtain ⟨_, _, _, _, _, e1⟩ := (hK1.2 6 (cA, .object RX7) rfl).2
    obtain ⟨_, _, _, _, _, e2⟩ := (hK.1.2 5 (cy 15, .object RX7) rfl).2
    exact Option.some.inj (e1.symm.trans e2)
  subst hc
  have hne : ∀ t' ∈ sL S, t' ≠ t := fun t' h1 h2 => hL (h2 ▸ h1)
  have hag : ∀ t' ∈ sL S, va_up ρ t q t' = ρ t' := fun t' h1 => va_up_ne _ _ (hne t' h1)
  have e7 : pool cy ρ S ++ [(q, .inl (cy 15, N, .inr (.inr (.inr (.inr (fun _ => none))))))] = pool cy (va_up ρ t q) (newA S t) := pool_push rfl (va_up_self _ _ _) (by rw [← htn, ← ht]; exact pf_newQ (by omega)) (fun t' h1 => ⟨hag t' h1, pf_newA2 hF t' (hne t' h1)⟩)
  rw [e7] at hP1 hD1
  have hl' : lhm ls nL (va_up ρ t q) lv := by
    unfold lhm at hl ⊢
    rw [rnL_eq hag hoL]
    exact hl
  have hsub : ∀ t' ∈ sL S, t' ∈ sL (newA S t) := fun t' h1 => List.mem_append_left _ h1
  have h' := h p e s m args below meth c H1 locs ls A (va_up ρ t q) L0 ρ0 X hK hA hP1 hD1 hS1 hl' (okL_mono hsub hoL) ⟨List.mem_append_right _ (List.mem_singleton.mpr rfl), okS_mono hsub hoS.2⟩ (fun t' h1 => (hag t' (hLL t' h1)).trans (hρ t' h1)) (fun t' h1 => hsub t' (hLL t' h1))
  rw [List.map_cons, rnS_eq hag hoS.2] at h'
  have e5 : rn (va_up ρ t q) (.ref t) = .ref q := congrArg Value.ref (va_up_self _ _ _)
  rw [e5] at h'
  exact h'

theorem cat_map (ρ : Nat → Nat) : ∀ (st : List Value), ((st.map (rn ρ)).map fun v => v.category).sum = (st.map fun v => v.category).sum
  | [] => rfl
  | v :: r => by
    have ih := cat_map ρ r
    simp only [List.map_cons, List.sum_cons, rn_cat] at ih ⊢
    rw [ih]
def LkMmin (own : String) (idx : Nat) : Prop := Cond.methodLink own idx Lib.Math.min.name ∈ TB ∧ Cond.static Lib.Math.min.name ∈ TB ∧ Cond.initialized "java/lang/Math" ∈ TB ∧ Cond.code Lib.Math.min.name Lib.Math.min.code 2 (some .int) ∈ TB
theorem r_mmin {idx : Nat} {x z : Int32} (hd : decode b pc = .ok (.invokestatic idx, 3)) (hw : LkMmin y.cls idx) (hd1 : 1 ≤ d) (hst : (st.map fun v => v.category).sum ≤ 8) (h1 : k ≤ mc) (h2 : n ≤ ms) (h : R l G cy y b nL rt d mc ms Q (pc + 3) lv (.int (if z < x then z else x) :: st) S k n) : R l G cy y b nL rt d mc ms Q pc lv (.int z :: .int x :: st) S k n := by
  intro p e s m args below meth c H locs ls A ρ L0 ρ0 X hK hA hP hD hS hl hoL hoS hρ hLL
  obtain ⟨hx, hb, hr, hml, hown, hts, hlk, hnm⟩ := id X
  have hl1 : c.maxLocals = ls.size := hml.trans hl.1.symm
  exact va_mmin hx hb hl1 hown (hts _ (TBc hw.1)) (hts _ (TBc hw.2.1)) (hts _ (TBc hw.2.2.1)) (hts _ (TBc hw.2.2.2)) hd1 (by rw [cat_map]; show _ ≤ 40 * d; omega) h1 h2 hd (h p e s m args below meth c H locs ls A ρ L0 ρ0 X hK hA hP hD hS hl hoL ⟨trivial, hoS.2.2⟩ hρ hLL)
def LkMmax (own : String) (idx : Nat) : Prop := Cond.methodLink own idx Lib.Math.max.name ∈ TB ∧ Cond.static Lib.Math.max.name ∈ TB ∧ Cond.initialized "java/lang/Math" ∈ TB ∧ Cond.code Lib.Math.max.name Lib.Math.max.code 2 (some .int) ∈ TB
theorem r_mmax {idx : Nat} {x z : Int32} (hd : decode b pc = .ok (.invokestatic idx, 3)) (hw : LkMmax y.cls idx) (hd1 : 1 ≤ d) (hst : (st.map fun v => v.category).sum ≤ 8) (h1 : k ≤ mc) (h2 : n ≤ ms) (h : R l G cy y b nL rt d mc ms Q (pc + 3) lv (.int (if x < z then z else x) :: st) S k n) : R l G cy y b nL rt d mc ms Q pc lv (.int z :: .int x :: st) S k n := by
  intro p e s m args below meth c H locs ls A ρ L0 ρ0 X hK hA hP hD hS hl hoL hoS hρ hLL
  obtain ⟨hx, hb, hr, hml, hown, hts, hlk, hnm⟩ := id X
  have hl1 : c.maxLocals = ls.size := hml.trans hl.1.symm
  exact va_mmax hx hb hl1 hown (hts _ (TBc hw.1)) (hts _ (TBc hw.2.1)) (hts _ (TBc hw.2.2.1)) (hts _ (TBc hw.2.2.2)) hd1 (by rw [cat_map]; show _ ≤ 40 * d; omega) h1 h2 hd (h p e s m args below meth c H locs ls A ρ L0 ρ0 X hK hA hP hD hS hl hoL ⟨trivial, hoS.2.2⟩ hρ hLL)
def LkO (own : String) (idx : Nat) : Prop := Cond.methodLink own idx objectInit ∈ TB ∧ Cond.instanceMethod objectInit ∈ TB ∧ Cond.code objectInit ⟨#[0xb1]⟩ 1 none ∈ TB
theorem r_objInit {idx a : Nat} (hd : decode b pc = .ok (.invokespecial idx, 3)) (hw : LkO y.cls idx) (hd1 : 1 ≤ d) (hst : (st.map fun v => v.category).sum ≤ 8) (h : R l G cy y b nL rt d mc ms Q (pc + 3) lv st S k n) : R l G cy y b nL rt d mc ms Q pc lv (.ref a :: st) S k n := by
  intro p e s m args below meth c H locs ls A ρ L0 ρ0 X hK hA hP hD hS hl hoL hoS hρ hLL
  obtain ⟨hx, hb, hr, hml, hown, hts, hlk, hnm⟩ := id X
  have hl1 : ls.size = c.maxLocals := hl.1.trans hml.symm
  exact W.objInit hx hb hown (hts _ (TBc hw.1)) (hts _ (TBc hw.2.1)) (hts _ (TBc hw.2.2)) rfl hl1 rfl hd hd1 (by have := lv_room (m := m) (pc := pc) (ls := ls) (rest := ((Value.ref a :: st).map (rn ρ))) (st := st.map (rn ρ)) (by rw [cat_map]; exact hst); show _ ≤ 40 * d; omega) (h p e s m args below meth c H locs ls A ρ L0 ρ0 X hK hA hP hD hS hl hoL hoS.2 hρ hLL)
theorem Pcn.blind {ρ : Nat → Nat} {args : List Value} {sz : Nat} : FrameBlind (Pcn G cy ρ args S sz) := by
  intro a U g mk q
  obtain ⟨q0, q1, qP, qK, qD⟩ := q
  exact ⟨q0, q1, qP, qK.calling, qD⟩
theorem TBgood (y b nL rt) (y' b' nL' rt') (h : Cond.code y' b' nL' rt' ∈ TB) : GoodIn (Cond.code y b nL rt :: TB) (Cond.code y' b' nL' rt' :: TB) := by
  intro w hw
  rcases List.mem_cons.mp hw with rfl | hw
  · exact ⟨TBc h, good_of_word (TB_good h)⟩
  · exact ⟨TBc hw, good_of_word (TB_good hw)⟩
theorem okS_app {L : List Nat} : ∀ {a b : List Value}, okS L (a ++ b) ↔ okS L a ∧ okS L b
  | [], b => ⟨fun h => ⟨trivial, h⟩, fun h => h.2⟩
  | v :: r, b => ⟨fun h => ⟨⟨h.1, (okS_app.mp h.2).1⟩, (okS_app.mp h.2).2⟩, fun h => ⟨h.1.1, okS_app.mpr ⟨h.1.2, h.2⟩⟩⟩
theorem okS_rev {L : List Nat} : ∀ {a : List Value}, okS L a.reverse → okS L a
  | [], h => trivial
  | v :: r, h => by
    rw [List.reverse_cons] at h
    exact ⟨(okS_app.mp h).2.1, okS_rev (okS_app.mp h).1⟩
/-- behind any call: the heap is the callee's -/
theorem r_behind {Q' : Option Value → HS → Prop} {mc' ms' : Nat} {st0 rest : List Value} {a : Array Value} {p : Program} {e : Env} {s : State} {m : MethodId} {args : Array Value} {below : List Frame} {meth : Method} {c : Code} {H : Heap} {locs : List Loc} {ls : Array Slot} {A : Nat → Prop} {ρ : Nat → Nat} {L0 : List Nat} {ρ0 : Nat → Nat} (X : Cx y b nL rt p s m args meth c) (hK : KK G cy s) (hA : ∀ q : Nat, s.heap.size ≤ q → A q) (hP : va_P G vwCl (pool cy ρ S) H) (hD : va_D A (pool cy ρ S)) (hS : va_S A s.heap H locs) (hl : lhm ls nL ρ lv) (hoL : okL (sL S) lv) (hoR : okS (sL S) rest) (hρ : ∀ t ∈ L0, ρ t = ρ0 t) (hLL : ∀ t ∈ L0, t ∈ sL S)
    (hr : va_Run p l e (rmO d mc ms) s m args below meth c H locs k n mc' ms' (F0 m pc ls st0) (rest.map (rn ρ)) (Qcn G cy Q' (va_A (pool cy ρ S) H.size) (sL S) ρ a) (va_A (pool cy ρ S) H.size))
    (h : ∀ (v : Option Value) (S' : HS), Q' v S' → R l G cy y b nL rt d mc ms Q (pc + 3) lv (v.toList ++ rest) S' (k + mc') (n + ms')) : W p l e (rmO d mc ms) s m args below meth c H locs k n (MQ below (Qcn G cy Q A L0 ρ0) args s mc ms A) (F0 m pc ls st0) := by
  have hF : ∀ q, va_A (pool cy ρ S) H.size q → A q := by
    intro q hq
    rcases hq with ⟨i, e1, h1⟩ | h1
    · exact hD.2 i (q, e1) h1
    · exact hA q (Nat.le_trans hS.1 h1)
  intro T hT hst
  obtain ⟨v, st₀, t, T', L, h0, X', hL, e1, e2, ⟨⟨v', S', ρ', hv, hq, hρ', hLL', hov, hP1, hD1⟩, hz, hk⟩, stp⟩ := hr T hT hst
  cases hv
  rw [h0] at hz hk
  have hS1 : va_S A s.heap T'.heap (locs ++ L) := by
    refine ⟨Nat.le_trans hS.1 (by rw [e1]; exact hz), fun q h1 h2 => ?_, fun q hq => ?_⟩
    · rw [e1, hk q (Nat.lt_of_lt_of_le h1 hS.1) (fun z => h2 (hF q z))]
      exact hS.2.1 q h1 h2
    · rcases List.mem_append.mp hq with h9 | h9
      · exact hS.2.2 q h9
      · exact hF _ (hL q h9)
  have hl' : lhm ls nL ρ' lv := by
    unfold lhm at hl ⊢
    rw [rnL_eq hρ' hoL]
    exact hl
  have hos : okS (sL S') (v'.toList ++ rest) := by
    refine okS_app.mpr ⟨?_, okS_mono hLL' hoR⟩
    cases v' with
    | none => trivial
    | some x => exact ⟨hov x rfl, trivial⟩
  have e9 : (v'.toList ++ rest).map (rn ρ') = (v'.map (rn ρ')).toList ++ rest.map (rn ρ) := by
    rw [List.map_append, rnS_eq hρ' hoR]
    cases v' <;> rfl
  have hW := h v' S' hq p e s m args below meth c T'.heap (locs ++ L) ls A ρ' L0 ρ0 X hK hA (by rw [e1]; exact hP1) (hD1.weaken (fun i q _ hz => hF q.1 hz)) hS1 hl' (okL_mono hLL' hoL) hos (fun t ht => (hρ' t (hLL t ht)).trans (hρ t ht)) (fun t ht => hLL' t (hLL t ht))
  rw [e9] at hW
  obtain ⟨t2, a1, b1⟩ := hW T' rfl X'
  exact ⟨t2, stp t2 a1, b1⟩
/-- what a call wants of the tables: an instance method (virtual or private), a static one, a constructor, a nest mate's constructor -/
def LkV (own : String) (idx : Nat) (y' : MethodName) (b' : ByteArray) (nL' : Nat) (rt' : Option FieldType) (np ci : Nat) : Prop := Cond.methodLink own idx y' ∈ TB ∧ Cond.instanceMethod y' ∈ TB ∧ Cond.selects y'.cls y' y' ∈ TB ∧ Cond.initialized y'.cls ∈ TB ∧ Cond.code y' b' nL' rt' ∈ TB ∧ (y'.cls ≠ "java/lang/invoke/MethodHandle" ∧ y'.cls ≠ "java/lang/invoke/VarHandle" ∧ (parseMethodDescriptor y'.desc).map (fun d => d.parameters.length) = some np) ∧ nL' ≤ 21 ∧ ci < 10 ∧ ∃ q : vw_C, vwCl[ci]? = some q ∧ q.1 = y'.cls
def LkS (own : String) (idx : Nat) (y' : MethodName) (b' : ByteArray) (nL' : Nat) (rt' : Option FieldType) (np : Nat) : Prop := Cond.methodLink own idx y' ∈ TB ∧ Cond.static y' ∈ TB ∧ Cond.initialized y'.cls ∈ TB ∧ Cond.code y' b' nL' rt' ∈ TB ∧ (y'.cls ≠ "java/lang/invoke/MethodHandle" ∧ y'.cls ≠ "java/lang/invoke/VarHandle" ∧ (parseMethodDescriptor y'.desc).map (fun d => d.parameters.length) = some np) ∧ nL' ≤ 21
def LkI (own : String) (idx : Nat) (y' : MethodName) (b' : ByteArray) (nL' : Nat) (np : Nat) : Prop := (Cond.methodLink own idx y' ∈ TB ∨ Cond.methodLinkNest own idx y' RX8 ∈ nestW) ∧ Cond.instanceMethod y' ∈ TB ∧ Cond.initialized y'.cls ∈ TB ∧ Cond.code y' b' nL' none ∈ TB ∧ (y'.cls ≠ "java/lang/invoke/MethodHandle" ∧ y'.cls ≠ "java/lang/invoke/VarHandle" ∧ (parseMethodDescriptor y'.desc).map (fun d => d.parameters.length) = some np) ∧ nL' ≤ 21 ∧ y'.name = "<init>"

theorem r_callV {y' : MethodName} {b' : ByteArray} {nL' : Nat} {rt' : Option FieldType} {d' mc' ms' np ci idx o : Nat} {As rest : List Value} {Q' : Option Value → HS → Prop} (hd : decode b pc = .ok (.invokevirtual idx, 3)) (hk : LkV y.cls idx y' b' nL' rt' np ci) (hK0 : tk o = ci) (hC : Cn l G cy y' b' nL' rt' d' (.ref o :: As) S mc' ms' Q') (hnp : As.length = np) (hc : (rest.map fun v => v.category).sum ≤ 8) (hdd : d' + 1 ≤ d) (h1 : k + mc' ≤ mc) (h2 : n + ms' ≤ ms) (h : ∀ (v : Option Value) (S' : HS), Q' v S' → R l G cy y b nL rt d mc ms Q (pc + 3) lv (v.toList ++ rest) S' (k + mc') (n + ms')) : R l G cy y b nL rt d mc ms Q pc lv (As.reverse ++ .ref o :: rest) S k n := by
  intro p e s m args below meth c H locs ls A ρ L0 ρ0 X hK hA hP hD hS hl hoL hoS hρ hLL
  obtain ⟨hx, hb, hr, hml, hown, hts, hlk, hnm⟩ := id X
  obtain ⟨w1, w2, w3, w4, w5, w6, w7, w8, vq, w9, w10⟩ := hk
  have ho1 := (okS_app.mp hoS).1
  have ho2 := (okS_app.mp hoS).2
  obtain ⟨q0, hq0⟩ := List.getElem?_of_mem ho2.1
  have hq := pool_at (cy := cy) (ρ := ρ) hq0
  rw [pf_obj hK0 w8] at hq
  have hre := va_recv hK.1 hP w9 hq
  rw [w10] at hre
  have hcb : CallB (rmO d mc ms) s args y.cls idx y' b' nL' rt' (Cond.code y' b' nL' rt' :: TB) (rmO d' mc' ms') mc' ms' np := callB_of np hts (TBgood y b nL rt y' b' nL' rt' w5) rfl rfl rfl (hts _ (TBc w4)) (hts _ (TBc w1)) w6 ⟨hdd, by show 8 + (nL' + 11) + 40 * d' ≤ 40 * d; omega⟩
  exact r_behind X hK hA hP hD hS hl hoL ho2.2 hρ hLL (va_runV (As := As.map (rn ρ)) (b := ρ o) ⟨hx, hb, hml, hown, hts⟩ (hC ⟨ho2.1, okS_rev ho1⟩ H.size ρ) ⟨hcb, hts _ (TBc w2), hts _ (TBc w3)⟩ ⟨Pcn.blind, hre, fun U hU hW => ⟨rfl, by rw [hU], by rw [hU]; exact hP, hK.warm hW, hD.weaken (fun _ _ _ _ => trivial)⟩⟩ rfl (by rw [List.length_map]; exact hnp) hl.1 (by show List.map _ _ = _; rw [List.map_append, List.map_reverse]; rfl) (lv_room (by rw [cat_map]; exact hc)) hd ⟨h1, h2⟩) h
theorem r_callS {y' : MethodName} {b' : ByteArray} {nL' : Nat} {rt' : Option FieldType} {d' mc' ms' np idx : Nat} {As rest : List Value} {Q' : Option Value → HS → Prop} (hd : decode b pc = .ok (.invokestatic idx, 3)) (hk : LkS y.cls idx y' b' nL' rt' np) (hC : Cn l G cy y' b' nL' rt' d' As S mc' ms' Q') (hnp : As.length = np) (hc : (rest.map fun v => v.category).sum ≤ 8) (hdd : d' + 1 ≤ d) (h1 : k + mc' ≤ mc) (h2 : n + ms' ≤ ms) (h : ∀ (v : Option Value) (S' : HS), Q' v S' → R l G cy y b nL rt d mc ms Q (pc + 3) lv (v.toList ++ rest) S' (k + mc') (n + ms')) : R l G cy y b nL rt d mc ms Q pc lv (As.reverse ++ rest) S k n := by
  intro p e s m args below meth c H locs ls A ρ L0 ρ0 X hK hA hP hD hS hl hoL hoS hρ hLL
  obtain ⟨hx, hb, hr, hml, hown, hts, hlk, hnm⟩ := id X
  obtain ⟨w1, w2, w4, w5, w6, w7⟩ := hk
  have ho1 := (okS_app.mp hoS).1
  have ho2 := (okS_app.mp hoS).2
  have hcb : CallB (rmO d mc ms) s args y.cls idx y' b' nL' rt' (Cond.code y' b' nL' rt' :: TB) (rmO d' mc' ms') mc' ms' np := callB_of np hts (TBgood y b nL rt y' b' nL' rt' w5) rfl rfl rfl (hts _ (TBc w4)) (hts _ (TBc w1)) w6 ⟨hdd, by show 8 + (nL' + 11) + 40 * d' ≤ 40 * d; omega⟩
  exact r_behind X hK hA hP hD hS hl hoL ho2 hρ hLL (va_runS (As := As.map (rn ρ)) ⟨hx, hb, hml, hown, hts⟩ (hC (okS_rev ho1) H.size ρ) ⟨hcb, hts _ (TBc w2)⟩ ⟨Pcn.blind, fun U hU hW => ⟨rfl, by rw [hU], by rw [hU]; exact hP, hK.warm hW, hD.weaken (fun _ _ _ _ => trivial)⟩⟩ rfl (by rw [List.length_map]; exact hnp) hl.1 (by show List.map _ _ = _; rw [List.map_append, List.map_reverse]) (lv_room (by rw [cat_map]; exact hc)) hd ⟨h1, h2⟩) h
theorem r_callI {y' : MethodName} {b' : ByteArray} {nL' : Nat} {d' mc' ms' np idx o : Nat} {As rest : List Value} {Q' : Option Value → HS → Prop} (hd : decode b pc = .ok (.invokespecial idx, 3)) (hk : LkI y.cls idx y' b' nL' np) (hC : Cn l G cy y' b' nL' none d' (.ref o :: As) S mc' ms' Q') (hnp : As.length = np) (hc : (rest.map fun v => v.category).sum ≤ 8) (hdd : d' + 1 ≤ d) (h1 : k + mc' ≤ mc) (h2 : n + ms' ≤ ms) (h : ∀ (v : Option Value) (S' : HS), Q' v S' → R l G cy y b nL rt d mc ms Q (pc + 3) lv (v.toList ++ rest) S' (k + mc') (n + ms')) : R l G cy y b nL rt d mc ms Q pc lv (As.reverse ++ .ref o :: rest) S k n := by
  intro p e s m args below meth c H locs ls A ρ L0 ρ0 X hK hA hP hD hS hl hoL hoS hρ hLL
  obtain ⟨hx, hb, hr, hml, hown, hts, hlk, hnm⟩ := id X
  obtain ⟨w1, w2, w4, w5, w6, w7, w8⟩ := hk
  have ho1 := (okS_app.mp hoS).1
  have ho2 := (okS_app.mp hoS).2
  have hM := hC ⟨ho2.1, okS_rev ho1⟩ H.size ρ
  have hpre : PreS s H (Pcn G cy ρ (.ref o :: As) S H.size) ((Value.ref (ρ o) :: As.map (rn ρ))) := ⟨Pcn.blind, fun U hU hW => ⟨rfl, by rw [hU], by rw [hU]; exact hP, hK.warm hW, hD.weaken (fun _ _ _ _ => trivial)⟩⟩
  have hro : (rmO d' mc' ms').frames + 1 ≤ (rmO d mc ms).frames ∧ 8 + (nL' + 11) + (rmO d' mc' ms').locals ≤ (rmO d mc ms).locals := ⟨hdd, by show 8 + (nL' + 11) + 40 * d' ≤ 40 * d; omega⟩
  have hstk : (F0 m pc ls ((As.reverse ++ Value.ref o :: rest).map (rn ρ))).stack = (As.map (rn ρ)).reverse ++ .ref (ρ o) :: rest.map (rn ρ) := by
    show List.map _ _ = _
    rw [List.map_append, List.map_reverse]
    rfl
  rcases w1 with w1 | w1
  · have hcb : CallB (rmO d mc ms) s args y.cls idx y' b' nL' none (Cond.code y' b' nL' none :: TB) (rmO d' mc' ms') mc' ms' np := callB_of np hts (TBgood y b nL rt y' b' nL' none w5) rfl rfl rfl (hts _ (TBc w4)) (hts _ (TBc w1)) w6 hro
    exact r_behind X hK hA hP hD hS hl hoL ho2.2 hρ hLL (va_runI (As := As.map (rn ρ)) (b := ρ o) ⟨hx, hb, hml, hown, hts⟩ hM ⟨hcb, w8, hts _ (TBc w2)⟩ hpre rfl (by rw [List.length_map]; exact hnp) hl.1 hstk (lv_room (by rw [cat_map]; exact hc)) hd ⟨h1, h2⟩) h
  · have hcb := va_cnB (R := rmO d mc ms) (rm := rmO d' mc' ms') (mc := mc') (ms := ms') np hts (TBgood y b nL rt y' b' nL' none w5) rfl rfl rfl (hK.2.1 _ w1) (hts _ (TBc w4)) w6 hro
    exact r_behind X hK hA hP hD hS hl hoL ho2.2 hρ hLL (va_runIN (As := As.map (rn ρ)) (b := ρ o) ⟨hx, hb, hml, hown, hts⟩ hM ⟨hcb, w8, hts _ (TBc w2)⟩ hpre rfl (by rw [List.length_map]; exact hnp) hl.1 hstk (lv_room (by rw [cat_map]; exact hc)) hd ⟨h1, h2⟩) h
-- calls by the number of arguments and the kind of the answer
theorem r_invV0i {y' : MethodName} {b' : ByteArray} {nL' : Nat} {rt' : Option FieldType} {d' mc' ms' idx : Nat} {ci : Nat} {o : Nat}  {Q0 : Int32 → HS → Prop} (hd : decode b pc = .ok (.invokevirtual idx, 3)) (hk : LkV y.cls idx y' b' nL' rt' 0 ci) (hK0 : tk o = ci) (hC : Cn l G cy y' b' nL' rt' d' (.ref o :: []) S mc' ms' (qI Q0)) (hc : (st.map fun v => v.category).sum ≤ 8) (hdd : d' + 1 ≤ d) (h1 : k + mc' ≤ mc) (h2 : n + ms' ≤ ms) (h : ∀ (r : Int32) (S' : HS), Q0 r S' → R l G cy y b nL rt d mc ms Q (pc + 3) lv (.int r :: st) S' (k + mc') (n + ms')) : R l G cy y b nL rt d mc ms Q pc lv (.ref o :: st) S k n := r_callV (As := []) hd hk hK0 hC rfl hc hdd h1 h2 (fun v S2 hq => by obtain ⟨r, rfl, hq⟩ := hq; exact h r S2 hq)
theorem r_invV0v {y' : MethodName} {b' : ByteArray} {nL' : Nat} {rt' : Option FieldType} {d' mc' ms' idx : Nat} {ci : Nat} {o : Nat}  {Q0 : HS → Prop} (hd : decode b pc = .ok (.invokevirtual idx, 3)) (hk : LkV y.cls idx y' b' nL' rt' 0 ci) (hK0 : tk o = ci) (hC : Cn l G cy y' b' nL' rt' d' (.ref o :: []) S mc' ms' (qV Q0)) (hc : (st.map fun v => v.category).sum ≤ 8) (hdd : d' + 1 ≤ d) (h1 : k + mc' ≤ mc) (h2 : n + ms' ≤ ms) (h : ∀ (S' : HS), Q0 S' → R l G cy y b nL rt d mc ms Q (pc + 3) lv st S' (k + mc') (n + ms')) : R l G cy y b nL rt d mc ms Q pc lv (.ref o :: st) S k n := r_callV (As := []) hd hk hK0 hC rfl hc hdd h1 h2 (fun v S2 hq => by obtain ⟨rfl, hq⟩ := hq; exact h S2 hq)
theorem r_invV0r {y' : MethodName} {b' : ByteArray} {nL' : Nat} {rt' : Option FieldType} {d' mc' ms' idx : Nat} {ci : Nat} {o : Nat}  {Q0 : Option Nat → HS → Prop} (hd : decode b pc = .ok (.invokevirtual idx, 3)) (hk : LkV y.cls idx y' b' nL' rt' 0 ci) (hK0 : tk o = ci) (hC : Cn l G cy y' b' nL' rt' d' (.ref o :: []) S mc' ms' (qR Q0)) (hc : (st.map fun v => v.category).sum ≤ 8) (hdd : d' + 1 ≤ d) (h1 : k + mc' ≤ mc) (h2 : n + ms' ≤ ms) (h : ∀ (r : Option Nat) (S' : HS), Q0 r S' → R l G cy y b nL rt d mc ms Q (pc + 3) lv (va_rf r :: st) S' (k + mc') (n + ms')) : R l G cy y b nL rt d mc ms Q pc lv (.ref o :: st) S k n := r_callV (As := []) hd hk hK0 hC rfl hc hdd h1 h2 (fun v S2 hq => by obtain ⟨r, rfl, hq⟩ := hq; exact h r S2 hq)
theorem r_invS0i {y' : MethodName} {b' : ByteArray} {nL' : Nat} {rt' : Option FieldType} {d' mc' ms' idx : Nat}   {Q0 : Int32 → HS → Prop} (hd : decode b pc = .ok (.invokestatic idx, 3)) (hk : LkS y.cls idx y' b' nL' rt' 0) (hC : Cn l G cy y' b' nL' rt' d' [] S mc' ms' (qI Q0)) (hc : (st.map fun v => v.category).sum ≤ 8) (hdd : d' + 1 ≤ d) (h1 : k + mc' ≤ mc) (h2 : n + ms' ≤ ms) (h : ∀ (r : Int32) (S' : HS), Q0 r S' → R l G cy y b nL rt d mc ms Q (pc + 3) lv (.int r :: st) S' (k + mc') (n + ms')) : R l G cy y b nL rt d mc ms Q pc lv (st) S k n := r_callS (As := []) hd hk hC rfl hc hdd h1 h2 (fun v S2 hq => by obtain ⟨r, rfl, hq⟩ := hq; exact h r S2 hq)
theorem r_invS0v {y' : MethodName} {b' : ByteArray} {nL' : Nat} {rt' : Option FieldType} {d' mc' ms' idx : Nat}   {Q0 : HS → Prop} (hd : decode b pc = .ok (.invokestatic idx, 3)) (hk : LkS y.cls idx y' b' nL' rt' 0) (hC : Cn l G cy y' b' nL' rt' d' [] S mc' ms' (qV Q0)) (hc : (st.map fun v => v.category).sum ≤ 8) (hdd : d' + 1 ≤ d) (h1 : k + mc' ≤ mc) (h2 : n + ms' ≤ ms) (h : ∀ (S' : HS), Q0 S' → R l G cy y b nL rt d mc ms Q (pc + 3) lv st S' (k + mc') (n + ms')) : R l G cy y b nL rt d mc ms Q pc lv (st) S k n := r_callS (As := []) hd hk hC rfl hc hdd h1 h2 (fun v S2 hq => by obtain ⟨rfl, hq⟩ := hq; exact h S2 hq)
theorem r_invS0r {y' : MethodName} {b' : ByteArray} {nL' : Nat} {rt' : Option FieldType} {d' mc' ms' idx : Nat}   {Q0 : Option Nat → HS → Prop} (hd : decode b pc = .ok (.invokestatic idx, 3)) (hk : LkS y.cls idx y' b' nL' rt' 0) (hC : Cn l G cy y' b' nL' rt' d' [] S mc' ms' (qR Q0)) (hc : (st.map fun v => v.category).sum ≤ 8) (hdd : d' + 1 ≤ d) (h1 : k + mc' ≤ mc) (h2 : n + ms' ≤ ms) (h : ∀ (r : Option Nat) (S' : HS), Q0 r S' → R l G cy y b nL rt d mc ms Q (pc + 3) lv (va_rf r :: st) S' (k + mc') (n + ms')) : R l G cy y b nL rt d mc ms Q pc lv (st) S k n := r_callS (As := []) hd hk hC rfl hc hdd h1 h2 (fun v S2 hq => by obtain ⟨r, rfl, hq⟩ := hq; exact h r S2 hq)
theorem r_invI0v {y' : MethodName} {b' : ByteArray} {nL' : Nat}  {d' mc' ms' idx : Nat} {o : Nat}  {Q0 : HS → Prop} (hd : decode b pc = .ok (.invokespecial idx, 3)) (hk : LkI y.cls idx y' b' nL' 0) (hC : Cn l G cy y' b' nL' none d' (.ref o :: []) S mc' ms' (qV Q0)) (hc : (st.map fun v => v.category).sum ≤ 8) (hdd : d' + 1 ≤ d) (h1 : k + mc' ≤ mc) (h2 : n + ms' ≤ ms) (h : ∀ (S' : HS), Q0 S' → R l G cy y b nL rt d mc ms Q (pc + 3) lv st S' (k + mc') (n + ms')) : R l G cy y b nL rt d mc ms Q pc lv (.ref o :: st) S k n := r_callI (As := []) hd hk hC rfl hc hdd h1 h2 (fun v S2 hq => by obtain ⟨rfl, hq⟩ := hq; exact h S2 hq)
theorem r_invV1i {y' : MethodName} {b' : ByteArray} {nL' : Nat} {rt' : Option FieldType} {d' mc' ms' idx : Nat} {ci : Nat} {o : Nat} {a1 : Value} {Q0 : Int32 → HS → Prop} (hd : decode b pc = .ok (.invokevirtual idx, 3)) (hk : LkV y.cls idx y' b' nL' rt' 1 ci) (hK0 : tk o = ci) (hC : Cn l G cy y' b' nL' rt' d' (.ref o :: [a1]) S mc' ms' (qI Q0)) (hc : (st.map fun v => v.category).sum ≤ 8) (hdd : d' + 1 ≤ d) (h1 : k + mc' ≤ mc) (h2 : n + ms' ≤ ms) (h : ∀ (r : Int32) (S' : HS), Q0 r S' → R l G cy y b nL rt d mc ms Q (pc + 3) lv (.int r :: st) S' (k + mc') (n + ms')) : R l G cy y b nL rt d mc ms Q pc lv (a1 :: .ref o :: st) S k n := r_callV (As := [a1]) hd hk hK0 hC rfl hc hdd h1 h2 (fun v S2 hq => by obtain ⟨r, rfl, hq⟩ := hq; exact h r S2 hq)
theorem r_invV1v {y' : MethodName} {b' : ByteArray} {nL' : Nat} {rt' : Option FieldType} {d' mc' ms' idx : Nat} {ci : Nat} {o : Nat} {a1 : Value} {Q0 : HS → Prop} (hd : decode b pc = .ok (.invokevirtual idx, 3)) (hk : LkV y.cls idx y' b' nL' rt' 1 ci) (hK0 : tk o = ci) (hC : Cn l G cy y' b' nL' rt' d' (.ref o :: [a1]) S mc' ms' (qV Q0)) (hc : (st.map fun v => v.category).sum ≤ 8) (hdd : d' + 1 ≤ d) (h1 : k + mc' ≤ mc) (h2 : n + ms' ≤ ms) (h : ∀ (S' : HS), Q0 S' → R l G cy y b nL rt d mc ms Q (pc + 3) lv st S' (k + mc') (n + ms')) : R l G cy y b nL rt d mc ms Q pc lv (a1 :: .ref o :: st) S k n := r_callV (As := [a1]) hd hk hK0 hC rfl hc hdd h1 h2 (fun v S2 hq => by obtain ⟨rfl, hq⟩ := hq; exact h S2 hq)
theorem r_invV1r {y' : MethodName} {b' : ByteArray} {nL' : Nat} {rt' : Option FieldType} {d' mc' ms' idx : Nat} {ci : Nat} {o : Nat} {a1 : Value} {Q0 : Option Nat → HS → Prop} (hd : decode b pc = .ok (.invokevirtual idx, 3)) (hk : LkV y.cls idx y' b' nL' rt' 1 ci) (hK0 : tk o = ci) (hC : Cn l G cy y' b' nL' rt' d' (.ref o :: [a1]) S mc' ms' (qR Q0)) (hc : (st.map fun v => v.category).sum ≤ 8) (hdd : d' + 1 ≤ d) (h1 : k + mc' ≤ mc) (h2 : n + ms' ≤ ms) (h : ∀ (r : Option Nat) (S' : HS), Q0 r S' → R l G cy y b nL rt d mc ms Q (pc + 3) lv (va_rf r :: st) S' (k + mc') (n + ms')) : R l G cy y b nL rt d mc ms Q pc lv (a1 :: .ref o :: st) S k n := r_callV (As := [a1]) hd hk hK0 hC rfl hc hdd h1 h2 (fun v S2 hq => by obtain ⟨r, rfl, hq⟩ := hq; exact h r S2 hq)
theorem r_invS1i {y' : MethodName} {b' : ByteArray} {nL' : Nat} {rt' : Option FieldType} {d' mc' ms' idx : Nat}  {a1 : Value} {Q0 : Int32 → HS → Prop} (hd : decode b pc = .ok (.invokestatic idx, 3)) (hk : LkS y.cls idx y' b' nL' rt' 1) (hC : Cn l G cy y' b' nL' rt' d' [a1] S mc' ms' (qI Q0)) (hc : (st.map fun v => v.category).sum ≤ 8) (hdd : d' + 1 ≤ d) (h1 : k + mc' ≤ mc) (h2 : n + ms' ≤ ms) (h : ∀ (r : Int32) (S' : HS), Q0 r S' → R l G cy y b nL rt d mc ms Q (pc + 3) lv (.int r :: st) S' (k + mc') (n + ms')) : R l G cy y b nL rt d mc ms Q pc lv (a1 :: st) S k n := r_callS (As := [a1]) hd hk hC rfl hc hdd h1 h2 (fun v S2 hq => by obtain ⟨r, rfl, hq⟩ := hq; exact h r S2 hq)
theorem r_invS1v {y' : MethodName} {b' : ByteArray} {nL' : Nat} {rt' : Option FieldType} {d' mc' ms' idx : Nat}  {a1 : Value} {Q0 : HS → Prop} (hd : decode b pc = .ok (.invokestatic idx, 3)) (hk : LkS y.cls idx y' b' nL' rt' 1) (hC : Cn l G cy y' b' nL' rt' d' [a1] S mc' ms' (qV Q0)) (hc : (st.map fun v => v.category).sum ≤ 8) (hdd : d' + 1 ≤ d) (h1 : k + mc' ≤ mc) (h2 : n + ms' ≤ ms) (h : ∀ (S' : HS), Q0 S' → R l G cy y b nL rt d mc ms Q (pc + 3) lv st S' (k + mc') (n + ms')) : R l G cy y b nL rt d mc ms Q pc lv (a1 :: st) S k n := r_callS (As := [a1]) hd hk hC rfl hc hdd h1 h2 (fun v S2 hq => by obtain ⟨rfl, hq⟩ := hq; exact h S2 hq)
theorem r_invS1r {y' : MethodName} {b' : ByteArray} {nL' : Nat} {rt' : Option FieldType} {d' mc' ms' idx : Nat}  {a1 : Value} {Q0 : Option Nat → HS → Prop} (hd : decode b pc = .ok (.invokestatic idx, 3)) (hk : LkS y.cls idx y' b' nL' rt' 1) (hC : Cn l G cy y' b' nL' rt' d' [a1] S mc' ms' (qR Q0)) (hc : (st.map fun v => v.category).sum ≤ 8) (hdd : d' + 1 ≤ d) (h1 : k + mc' ≤ mc) (h2 : n + ms' ≤ ms) (h : ∀ (r : Option Nat) (S' : HS), Q0 r S' → R l G cy y b nL rt d mc ms Q (pc + 3) lv (va_rf r :: st) S' (k + mc') (n + ms')) : R l G cy y b nL rt d mc ms Q pc lv (a1 :: st) S k n := r_callS (As := [a1]) hd hk hC rfl hc hdd h1 h2 (fun v S2 hq => by obtain ⟨r, rfl, hq⟩ := hq; exact h r S2 hq)
theorem r_invI1v {y' : MethodName} {b' : ByteArray} {nL' : Nat}  {d' mc' ms' idx : Nat} {o : Nat} {a1 : Value} {Q0 : HS → Prop} (hd : decode b pc = .ok (.invokespecial idx, 3)) (hk : LkI y.cls idx y' b' nL' 1) (hC : Cn l G cy y' b' nL' none d' (.ref o :: [a1]) S mc' ms' (qV Q0)) (hc : (st.map fun v => v.category).sum ≤ 8) (hdd : d' + 1 ≤ d) (h1 : k + mc' ≤ mc) (h2 : n + ms' ≤ ms) (h : ∀ (S' : HS), Q0 S' → R l G cy y b nL rt d mc ms Q (pc + 3) lv st S' (k + mc') (n + ms')) : R l G cy y b nL rt d mc ms Q pc lv (a1 :: .ref o :: st) S k n := r_callI (As := [a1]) hd hk hC rfl hc hdd h1 h2 (fun v S2 hq => by obtain ⟨rfl, hq⟩ := hq; exact h S2 hq)
theorem r_invV2i {y' : MethodName} {b' : ByteArray} {nL' : Nat} {rt' : Option FieldType} {d' mc' ms' idx : Nat} {ci : Nat} {o : Nat} {a1 a2 : Value} {Q0 : Int32 → HS → Prop} (hd : decode b pc = .ok (.invokevirtual idx, 3)) (hk : LkV y.cls idx y' b' nL' rt' 2 ci) (hK0 : tk o = ci) (hC : Cn l G cy y' b' nL' rt' d' (.ref o :: [a1, a2]) S mc' ms' (qI Q0)) (hc : (st.map fun v => v.category).sum ≤ 8) (hdd : d' + 1 ≤ d) (h1 : k + mc' ≤ mc) (h2 : n + ms' ≤ ms) (h : ∀ (r : Int32) (S' : HS), Q0 r S' → R l G cy y b nL rt d mc ms Q (pc + 3) lv (.int r :: st) S' (k + mc') (n + ms')) : R l G cy y b nL rt d mc ms Q pc lv (a2 :: a1 :: .ref o :: st) S k n := r_callV (As := [a1, a2]) hd hk hK0 hC rfl hc hdd h1 h2 (fun v S2 hq => by obtain ⟨r, rfl, hq⟩ := hq; exact h r S2 hq)
theorem r_invV2v {y' : MethodName} {b' : ByteArray} {nL' : Nat} {rt' : Option FieldType} {d' mc' ms' idx : Nat} {ci : Nat} {o : Nat} {a1 a2 : Value} {Q0 : HS → Prop} (hd : decode b pc = .ok (.invokevirtual idx, 3)) (hk : LkV y.cls idx y' b' nL' rt' 2 ci) (hK0 : tk o = ci) (hC : Cn l G cy y' b' nL' rt' d' (.ref o :: [a1, a2]) S mc' ms' (qV Q0)) (hc : (st.map fun v => v.category).sum ≤ 8) (hdd : d' + 1 ≤ d) (h1 : k + mc' ≤ mc) (h2 : n + ms' ≤ ms) (h : ∀ (S' : HS), Q0 S' → R l G cy y b nL rt d mc ms Q (pc + 3) lv st S' (k + mc') (n + ms')) : R l G cy y b nL rt d mc ms Q pc lv (a2 :: a1 :: .ref o :: st) S k n := r_callV (As := [a1, a2]) hd hk hK0 hC rfl hc hdd h1 h2 (fun v S2 hq => by obtain ⟨rfl, hq⟩ := hq; exact h S2 hq)
theorem r_invV2r {y' : MethodName} {b' : ByteArray} {nL' : Nat} {rt' : Option FieldType} {d' mc' ms' idx : Nat} {ci : Nat} {o : Nat} {a1 a2 : Value} {Q0 : Option Nat → HS → Prop} (hd : decode b pc = .ok (.invokevirtual idx, 3)) (hk : LkV y.cls idx y' b' nL' rt' 2 ci) (hK0 : tk o = ci) (hC : Cn l G cy y' b' nL' rt' d' (.ref o :: [a1, a2]) S mc' ms' (qR Q0)) (hc : (st.map fun v => v.category).sum ≤ 8) (hdd : d' + 1 ≤ d) (h1 : k + mc' ≤ mc) (h2 : n + ms' ≤ ms) (h : ∀ (r : Option Nat) (S' : HS), Q0 r S' → R l G cy y b nL rt d mc ms Q (pc + 3) lv (va_rf r :: st) S' (k + mc') (n + ms')) : R l G cy y b nL rt d mc ms Q pc lv (a2 :: a1 :: .ref o :: st) S k n := r_callV (As := [a1, a2]) hd hk hK0 hC rfl hc hdd h1 h2 (fun v S2 hq => by obtain ⟨r, rfl, hq⟩ := hq; exact h r S2 hq)
theorem r_invS2i {y' : MethodName} {b' : ByteArray} {nL' : Nat} {rt' : Option FieldType} {d' mc' ms' idx : Nat}  {a1 a2 : Value} {Q0 : Int32 → HS → Prop} (hd : decode b pc = .ok (.invokestatic idx, 3)) (hk : LkS y.cls idx y' b' nL' rt' 2) (hC : Cn l G cy y' b' nL' rt' d' [a1, a2] S mc' ms' (qI Q0)) (hc : (st.map fun v => v.category).sum ≤ 8) (hdd : d' + 1 ≤ d) (h1 : k + mc' ≤ mc) (h2 : n + ms' ≤ ms) (h : ∀ (r : Int32) (S' : HS), Q0 r S' → R l G cy y b nL rt d mc ms Q (pc + 3) lv (.int r :: st) S' (k + mc') (n + ms')) : R l G cy y b nL rt d mc ms Q pc lv (a2 :: a1 :: st) S k n := r_callS (As := [a1, a2]) hd hk hC rfl hc hdd h1 h2 (fun v S2 hq => by obtain ⟨r, rfl, hq⟩ := hq; exact h r S2 hq)
theorem r_invS2v {y' : MethodName} {b' : ByteArray} {nL' : Nat} {rt' : Option FieldType} {d' mc' ms' idx : Nat}  {a1 a2 : Value} {Q0 : HS → Prop} (hd : decode b pc = .ok (.invokestatic idx, 3)) (hk : LkS y.cls idx y' b' nL' rt' 2) (hC : Cn l G cy y' b' nL' rt' d' [a1, a2] S mc' ms' (qV Q0)) (hc : (st.map fun v => v.category).sum ≤ 8) (hdd : d' + 1 ≤ d) (h1 : k + mc' ≤ mc) (h2 : n + ms' ≤ ms) (h : ∀ (S' : HS), Q0 S' → R l G cy y b nL rt d mc ms Q (pc + 3) lv st S' (k + mc') (n + ms')) : R l G cy y b nL rt d mc ms Q pc lv (a2 :: a1 :: st) S k n := r_callS (As := [a1, a2]) hd hk hC rfl hc hdd h1 h2 (fun v S2 hq => by obtain ⟨rfl, hq⟩ := hq; exact h S2 hq)
theorem r_invS2r {y' : MethodName} {b' : ByteArray} {nL' : Nat} {rt' : Option FieldType} {d' mc' ms' idx : Nat}  {a1 a2 : Value} {Q0 : Option Nat → HS → Prop} (hd : decode b pc = .ok (.invokestatic idx, 3)) (hk : LkS y.cls idx y' b' nL' rt' 2) (hC : Cn l G cy y' b' nL' rt' d' [a1, a2] S mc' ms' (qR Q0)) (hc : (st.map fun v => v.category).sum ≤ 8) (hdd : d' + 1 ≤ d) (h1 : k + mc' ≤ mc) (h2 : n + ms' ≤ ms) (h : ∀ (r : Option Nat) (S' : HS), Q0 r S' → R l G cy y b nL rt d mc ms Q (pc + 3) lv (va_rf r :: st) S' (k + mc') (n + ms')) : R l G cy y b nL rt d mc ms Q pc lv (a2 :: a1 :: st) S k n := r_callS (As := [a1, a2]) hd hk hC rfl hc hdd h1 h2 (fun v S2 hq => by obtain ⟨r, rfl, hq⟩ := hq; exact h r S2 hq)
theorem r_invI2v {y' : MethodName} {b' : ByteArray} {nL' : Nat}  {d' mc' ms' idx : Nat} {o : Nat} {a1 a2 : Value} {Q0 : HS → Prop} (hd : decode b pc = .ok (.invokespecial idx, 3)) (hk : LkI y.cls idx y' b' nL' 2) (hC : Cn l G cy y' b' nL' none d' (.ref o :: [a1, a2]) S mc' ms' (qV Q0)) (hc : (st.map fun v => v.category).sum ≤ 8) (hdd : d' + 1 ≤ d) (h1 : k + mc' ≤ mc) (h2 : n + ms' ≤ ms) (h : ∀ (S' : HS), Q0 S' → R l G cy y b nL rt d mc ms Q (pc + 3) lv st S' (k + mc') (n + ms')) : R l G cy y b nL rt d mc ms Q pc lv (a2 :: a1 :: .ref o :: st) S k n := r_callI (As := [a1, a2]) hd hk hC rfl hc hdd h1 h2 (fun v S2 hq => by obtain ⟨rfl, hq⟩ := hq; exact h S2 hq)
theorem r_invV3i {y' : MethodName} {b' : ByteArray} {nL' : Nat} {rt' : Option FieldType} {d' mc' ms' idx : Nat} {ci : Nat} {o : Nat} {a1 a2 a3 : Value} {Q0 : Int32 → HS → Prop} (hd : decode b pc = .ok (.invokevirtual idx, 3)) (hk : LkV y.cls idx y' b' nL' rt' 3 ci) (hK0 : tk o = ci) (hC : Cn l G cy y' b' nL' rt' d' (.ref o :: [a1, a2, a3]) S mc' ms' (qI Q0)) (hc : (st.map fun v => v.category).sum ≤ 8) (hdd : d' + 1 ≤ d) (h1 : k + mc' ≤ mc) (h2 : n + ms' ≤ ms) (h : ∀ (r : Int32) (S' : HS), Q0 r S' → R l G cy y b nL rt d mc ms Q (pc + 3) lv (.int r :: st) S' (k + mc') (n + ms')) : R l G cy y b nL rt d mc ms Q pc lv (a3 :: a2 :: a1 :: .ref o :: st) S k n := r_callV (As := [a1, a2, a3]) hd hk hK0 hC rfl hc hdd h1 h2 (fun v S2 hq => by obtain ⟨r, rfl, hq⟩ := hq; exact h r S2 hq)
theorem r_invV3v {y' : MethodName} {b' : ByteArray} {nL' : Nat} {rt' : Option FieldType} {d' mc' ms' idx : Nat} {ci : Nat} {o : Nat} {a1 a2 a3 : Value} {Q0 : HS → Prop} (hd : decode b pc = .ok (.invokevirtual idx, 3)) (hk : LkV y.cls idx y' b' nL' rt' 3 ci) (hK0 : tk o = ci) (hC : Cn l G cy y' b' nL' rt' d' (.ref o :: [a1, a2, a3]) S mc' ms' (qV Q0)) (hc : (st.map fun v => v.category).sum ≤ 8) (hdd : d' + 1 ≤ d) (h1 : k + mc' ≤ mc) (h2 : n + ms' ≤ ms) (h : ∀ (S' : HS), Q0 S' → R l G cy y b nL rt d mc ms Q (pc + 3) lv st S' (k + mc') (n + ms')) : R l G cy y b nL rt d mc ms Q pc lv (a3 :: a2 :: a1 :: .ref o :: st) S k n := r_callV (As := [a1, a2, a3]) hd hk hK0 hC rfl hc hdd h1 h2 (fun v S2 hq => by obtain ⟨rfl, hq⟩ := hq; exact h S2 hq)
theorem r_invV3r {y' : MethodName} {b' : ByteArray} {nL' : Nat} {rt' : Option FieldType} {d' mc' ms' idx : Nat} {ci : Nat} {o : Nat} {a1 a2 a3 : Value} {Q0 : Option Nat → HS → Prop} (hd : decode b pc = .ok (.invokevirtual idx, 3)) (hk : LkV y.cls idx y' b' nL' rt' 3 ci) (hK0 : tk o = ci) (hC : Cn l G cy y' b' nL' rt' d' (.ref o :: [a1, a2, a3]) S mc' ms' (qR Q0)) (hc : (st.map fun v => v.category).sum ≤ 8) (hdd : d' + 1 ≤ d) (h1 : k + mc' ≤ mc) (h2 : n + ms' ≤ ms) (h : ∀ (r : Option Nat) (S' : HS), Q0 r S' → R l G cy y b nL rt d mc ms Q (pc + 3) lv (va_rf r :: st) S' (k + mc') (n + ms')) : R l G cy y b nL rt d mc ms Q pc lv (a3 :: a2 :: a1 :: .ref o :: st) S k n := r_callV (As := [a1, a2, a3]) hd hk hK0 hC rfl hc hdd h1 h2 (fun v S2 hq => by obtain ⟨r, rfl, hq⟩ := hq; exact h r S2 hq)
theorem r_invS3i {y' : MethodName} {b' : ByteArray} {nL' : Nat} {rt' : Option FieldType} {d' mc' ms' idx : Nat}  {a1 a2 a3 : Value} {Q0 : Int32 → HS → Prop} (hd : decode b pc = .ok (.invokestatic idx, 3)) (hk : LkS y.cls idx y' b' nL' rt' 3) (hC : Cn l G cy y' b' nL' rt' d' [a1, a2, a3] S mc' ms' (qI Q0)) (hc : (st.map fun v => v.category).sum ≤ 8) (hdd : d' + 1 ≤ d) (h1 : k + mc' ≤ mc) (h2 : n + ms' ≤ ms) (h : ∀ (r : Int32) (S' : HS), Q0 r S' → R l G cy y b nL rt d mc ms Q (pc + 3) lv (.int r :: st) S' (k + mc') (n + ms')) : R l G cy y b nL rt d mc ms Q pc lv (a3 :: a2 :: a1 :: st) S k n := r_callS (As := [a1, a2, a3]) hd hk hC rfl hc hdd h1 h2 (fun v S2 hq => by obtain ⟨r, rfl, hq⟩ := hq; exact h r S2 hq)
theorem r_invS3v {y' : MethodName} {b' : ByteArray} {nL' : Nat} {rt' : Option FieldType} {d' mc' ms' idx : Nat}  {a1 a2 a3 : Value} {Q0 : HS → Prop} (hd : decode b pc = .ok (.invokestatic idx, 3)) (hk : LkS y.cls idx y' b' nL' rt' 3) (hC : Cn l G cy y' b' nL' rt' d' [a1, a2, a3] S mc' ms' (qV Q0)) (hc : (st.map fun v => v.category).sum ≤ 8) (hdd : d' + 1 ≤ d) (h1 : k + mc' ≤ mc) (h2 : n + ms' ≤ ms) (h : ∀ (S' : HS), Q0 S' → R l G cy y b nL rt d mc ms Q (pc + 3) lv st S' (k + mc') (n + ms')) : R l G cy y b nL rt d mc ms Q pc lv (a3 :: a2 :: a1 :: st) S k n := r_callS (As := [a1, a2, a3]) hd hk hC rfl hc hdd h1 h2 (fun v S2 hq => by obtain ⟨rfl, hq⟩ := hq; exact h S2 hq)
theorem r_invS3r {y' : MethodName} {b' : ByteArray} {nL' : Nat} {rt' : Option FieldType} {d' mc' ms' idx : Nat}  {a1 a2 a3 : Value} {Q0 : Option Nat → HS → Prop} (hd : decode b pc = .ok (.invokestatic idx, 3)) (hk : LkS y.cls idx y' b' nL' rt' 3) (hC : Cn l G cy y' b' nL' rt' d' [a1, a2, a3] S mc' ms' (qR Q0)) (hc : (st.map fun v => v.category).sum ≤ 8) (hdd : d' + 1 ≤ d) (h1 : k + mc' ≤ mc) (h2 : n + ms' ≤ ms) (h : ∀ (r : Option Nat) (S' : HS), Q0 r S' → R l G cy y b nL rt d mc ms Q (pc + 3) lv (va_rf r :: st) S' (k + mc') (n + ms')) : R l G cy y b nL rt d mc ms Q pc lv (a3 :: a2 :: a1 :: st) S k n := r_callS (As := [a1, a2, a3]) hd hk hC rfl hc hdd h1 h2 (fun v S2 hq => by obtain ⟨r, rfl, hq⟩ := hq; exact h r S2 hq)
theorem r_invI3v {y' : MethodName} {b' : ByteArray} {nL' : Nat}  {d' mc' ms' idx : Nat} {o : Nat} {a1 a2 a3 : Value} {Q0 : HS → Prop} (hd : decode b pc = .ok (.invokespecial idx, 3)) (hk : LkI y.cls idx y' b' nL' 3) (hC : Cn l G cy y' b' nL' none d' (.ref o :: [a1, a2, a3]) S mc' ms' (qV Q0)) (hc : (st.map fun v => v.category).sum ≤ 8) (hdd : d' + 1 ≤ d) (h1 : k + mc' ≤ mc) (h2 : n + ms' ≤ ms) (h : ∀ (S' : HS), Q0 S' → R l G cy y b nL rt d mc ms Q (pc + 3) lv st S' (k + mc') (n + ms')) : R l G cy y b nL rt d mc ms Q pc lv (a3 :: a2 :: a1 :: .ref o :: st) S k n := r_callI (As := [a1, a2, a3]) hd hk hC rfl hc hdd h1 h2 (fun v S2 hq => by obtain ⟨rfl, hq⟩ := hq; exact h S2 hq)
theorem r_invV4i {y' : MethodName} {b' : ByteArray} {nL' : Nat} {rt' : Option FieldType} {d' mc' ms' idx : Nat} {ci : Nat} {o : Nat} {a1 a2 a3 a4 : Value} {Q0 : Int32 → HS → Prop} (hd : decode b pc = .ok (.invokevirtual idx, 3)) (hk : LkV y.cls idx y' b' nL' rt' 4 ci) (hK0 : tk o = ci) (hC : Cn l G cy y' b' nL' rt' d' (.ref o :: [a1, a2, a3, a4]) S mc' ms' (qI Q0)) (hc : (st.map fun v => v.category).sum ≤ 8) (hdd : d' + 1 ≤ d) (h1 : k + mc' ≤ mc) (h2 : n + ms' ≤ ms) (h : ∀ (r : Int32) (S' : HS), Q0 r S' → R l G cy y b nL rt d mc ms Q (pc + 3) lv (.int r :: st) S' (k + mc') (n + ms')) : R l G cy y b nL rt d mc ms Q pc lv (a4 :: a3 :: a2 :: a1 :: .ref o :: st) S k n := r_callV (As := [a1, a2, a3, a4]) hd hk hK0 hC rfl hc hdd h1 h2 (fun v S2 hq => by obtain ⟨r, rfl, hq⟩ := hq; exact h r S2 hq)
theorem r_invV4v {y' : MethodName} {b' : ByteArray} {nL' : Nat} {rt' : Option FieldType} {d' mc' ms' idx : Nat} {ci : Nat} {o : Nat} {a1 a2 a3 a4 : Value} {Q0 : HS → Prop} (hd : decode b pc = .ok (.invokevirtual idx, 3)) (hk : LkV y.cls idx y' b' nL' rt' 4 ci) (hK0 : tk o = ci) (hC : Cn l G cy y' b' nL' rt' d' (.ref o :: [a1, a2, a3, a4]) S mc' ms' (qV Q0)) (hc : (st.map fun v => v.category).sum ≤ 8) (hdd : d' + 1 ≤ d) (h1 : k + mc' ≤ mc) (h2 : n + ms' ≤ ms) (h : ∀ (S' : HS), Q0 S' → R l G cy y b nL rt d mc ms Q (pc + 3) lv st S' (k + mc') (n + ms')) : R l G cy y b nL rt d mc ms Q pc lv (a4 :: a3 :: a2 :: a1 :: .ref o :: st) S k n := r_callV (As := [a1, a2, a3, a4]) hd hk hK0 hC rfl hc hdd h1 h2 (fun v S2 hq => by obtain ⟨rfl, hq⟩ := hq; exact h S2 hq)
theorem r_invV4r {y' : MethodName} {b' : ByteArray} {nL' : Nat} {rt' : Option FieldType} {d' mc' ms' idx : Nat} {ci : Nat} {o : Nat} {a1 a2 a3 a4 : Value} {Q0 : Option Nat → HS → Prop} (hd : decode b pc = .ok (.invokevirtual idx, 3)) (hk : LkV y.cls idx y' b' nL' rt' 4 ci) (hK0 : tk o = ci) (hC : Cn l G cy y' b' nL' rt' d' (.ref o :: [a1, a2, a3, a4]) S mc' ms' (qR Q0)) (hc : (st.map fun v => v.category).sum ≤ 8) (hdd : d' + 1 ≤ d) (h1 : k + mc' ≤ mc) (h2 : n + ms' ≤ ms) (h : ∀ (r : Option Nat) (S' : HS), Q0 r S' → R l G cy y b nL rt d mc ms Q (pc + 3) lv (va_rf r :: st) S' (k + mc') (n + ms')) : R l G cy y b nL rt d mc ms Q pc lv (a4 :: a3 :: a2 :: a1 :: .ref o :: st) S k n := r_callV (As := [a1, a2, a3, a4]) hd hk hK0 hC rfl hc hdd h1 h2 (fun v S2 hq => by obtain ⟨r, rfl, hq⟩ := hq; exact h r S2 hq)
theorem r_invS4i {y' : MethodName} {b' : ByteArray} {nL' : Nat} {rt' : Option FieldType} {d' mc' ms' idx : Nat}  {a1 a2 a3 a4 : Value} {Q0 : Int32 → HS → Prop} (hd : decode b pc = .ok (.invokestatic idx, 3)) (hk : LkS y.cls idx y' b' nL' rt' 4) (hC : Cn l G cy y' b' nL' rt' d' [a1, a2, a3, a4] S mc' ms' (qI Q0)) (hc : (st.map fun v => v.category).sum ≤ 8) (hdd : d' + 1 ≤ d) (h1 : k + mc' ≤ mc) (h2 : n + ms' ≤ ms) (h : ∀ (r : Int32) (S' : HS), Q0 r S' → R l G cy y b nL rt d mc ms Q (pc + 3) lv (.int r :: st) S' (k + mc') (n + ms')) : R l G cy y b nL rt d mc ms Q pc lv (a4 :: a3 :: a2 :: a1 :: st) S k n := r_callS (As := [a1, a2, a3, a4]) hd hk hC rfl hc hdd h1 h2 (fun v S2 hq => by obtain ⟨r, rfl, hq⟩ := hq; exact h r S2 hq)
theorem r_invS4v {y' : MethodName} {b' : ByteArray} {nL' : Nat} {rt' : Option FieldType} {d' mc' ms' idx : Nat}  {a1 a2 a3 a4 : Value} {Q0 : HS → Prop} (hd : decode b pc = .ok (.invokestatic idx, 3)) (hk : LkS y.cls idx y' b' nL' rt' 4) (hC : Cn l G cy y' b' nL' rt' d' [a1, a2, a3, a4] S mc' ms' (qV Q0)) (hc : (st.map fun v => v.category).sum ≤ 8) (hdd : d' + 1 ≤ d) (h1 : k + mc' ≤ mc) (h2 : n + ms' ≤ ms) (h : ∀ (S' : HS), Q0 S' → R l G cy y b nL rt d mc ms Q (pc + 3) lv st S' (k + mc') (n + ms')) : R l G cy y b nL rt d mc ms Q pc lv (a4 :: a3 :: a2 :: a1 :: st) S k n := r_callS (As := [a1, a2, a3, a4]) hd hk hC rfl hc hdd h1 h2 (fun v S2 hq => by obtain ⟨rfl, hq⟩ := hq; exact h S2 hq)
theorem r_invS4r {y' : MethodName} {b' : ByteArray} {nL' : Nat} {rt' : Option FieldType} {d' mc' ms' idx : Nat}  {a1 a2 a3 a4 : Value} {Q0 : Option Nat → HS → Prop} (hd : decode b pc = .ok (.invokestatic idx, 3)) (hk : LkS y.cls idx y' b' nL' rt' 4) (hC : Cn l G cy y' b' nL' rt' d' [a1, a2, a3, a4] S mc' ms' (qR Q0)) (hc : (st.map fun v => v.category).sum ≤ 8) (hdd : d' + 1 ≤ d) (h1 : k + mc' ≤ mc) (h2 : n + ms' ≤ ms) (h : ∀ (r : Option Nat) (S' : HS), Q0 r S' → R l G cy y b nL rt d mc ms Q (pc + 3) lv (va_rf r :: st) S' (k + mc') (n + ms')) : R l G cy y b nL rt d mc ms Q pc lv (a4 :: a3 :: a2 :: a1 :: st) S k n := r_callS (As := [a1, a2, a3, a4]) hd hk hC rfl hc hdd h1 h2 (fun v S2 hq => by obtain ⟨r, rfl, hq⟩ := hq; exact h r S2 hq)
theorem r_invI4v {y' : MethodName} {b' : ByteArray} {nL' : Nat}  {d' mc' ms' idx : Nat} {o : Nat} {a1 a2 a3 a4 : Value} {Q0 : HS → Prop} (hd : decode b pc = .ok (.invokespecial idx, 3)) (hk : LkI y.cls idx y' b' nL' 4) (hC : Cn l G cy y' b' nL' none d' (.ref o :: [a1, a2, a3, a4]) S mc' ms' (qV Q0)) (hc : (st.map fun v => v.category).sum ≤ 8) (hdd : d' + 1 ≤ d) (h1 : k + mc' ≤ mc) (h2 : n + ms' ≤ ms) (h : ∀ (S' : HS), Q0 S' → R l G cy y b nL rt d mc ms Q (pc + 3) lv st S' (k + mc') (n + ms')) : R l G cy y b nL rt d mc ms Q pc lv (a4 :: a3 :: a2 :: a1 :: .ref o :: st) S k n := r_callI (As := [a1, a2, a3, a4]) hd hk hC rfl hc hdd h1 h2 (fun v S2 hq => by obtain ⟨rfl, hq⟩ := hq; exact h S2 hq)
theorem r_invV5i {y' : MethodName} {b' : ByteArray} {nL' : Nat} {rt' : Option FieldType} {d' mc' ms' idx : Nat} {ci : Nat} {o : Nat} {a1 a2 a3 a4 a5 : Value} {Q0 : Int32 → HS → Prop} (hd : decode b pc = .ok (.invokevirtual idx, 3)) (hk : LkV y.cls idx y' b' nL' rt' 5 ci) (hK0 : tk o = ci) (hC : Cn l G cy y' b' nL' rt' d' (.ref o :: [a1, a2, a3, a4, a5]) S mc' ms' (qI Q0)) (hc : (st.map fun v => v.category).sum ≤ 8) (hdd : d' + 1 ≤ d) (h1 : k + mc' ≤ mc) (h2 : n + ms' ≤ ms) (h : ∀ (r : Int32) (S' : HS), Q0 r S' → R l G cy y b nL rt d mc ms Q (pc + 3) lv (.int r :: st) S' (k + mc') (n + ms')) : R l G cy y b nL rt d mc ms Q pc lv (a5 :: a4 :: a3 :: a2 :: a1 :: .ref o :: st) S k n := r_callV (As := [a1, a2, a3, a4, a5]) hd hk hK0 hC rfl hc hdd h1 h2 (fun v S2 hq => by obtain ⟨r, rfl, hq⟩ := hq; exact h r S2 hq)
theorem r_invV5v {y' : MethodName} {b' : ByteArray} {nL' : Nat} {rt' : Option FieldType} {d' mc' ms' idx : Nat} {ci : Nat} {o : Nat} {a1 a2 a3 a4 a5 : Value} {Q0 : HS → Prop} (hd : decode b pc = .ok (.invokevirtual idx, 3)) (hk : LkV y.cls idx y' b' nL' rt' 5 ci) (hK0 : tk o = ci) (hC : Cn l G cy y' b' nL' rt' d' (.ref o :: [a1, a2, a3, a4, a5]) S mc' ms' (qV Q0)) (hc : (st.map fun v => v.category).sum ≤ 8) (hdd : d' + 1 ≤ d) (h1 : k + mc' ≤ mc) (h2 : n + ms' ≤ ms) (h : ∀ (S' : HS), Q0 S' → R l G cy y b nL rt d mc ms Q (pc + 3) lv st S' (k + mc') (n + ms')) : R l G cy y b nL rt d mc ms Q pc lv (a5 :: a4 :: a3 :: a2 :: a1 :: .ref o :: st) S k n := r_callV (As := [a1, a2, a3, a4, a5]) hd hk hK0 hC rfl hc hdd h1 h2 (fun v S2 hq => by obtain ⟨rfl, hq⟩ := hq; exact h S2 hq)
theorem r_invV5r {y' : MethodName} {b' : ByteArray} {nL' : Nat} {rt' : Option FieldType} {d' mc' ms' idx : Nat} {ci : Nat} {o : Nat} {a1 a2 a3 a4 a5 : Value} {Q0 : Option Nat → HS → Prop} (hd : decode b pc = .ok (.invokevirtual idx, 3)) (hk : LkV y.cls idx y' b' nL' rt' 5 ci) (hK0 : tk o = ci) (hC : Cn l G cy y' b' nL' rt' d' (.ref o :: [a1, a2, a3, a4, a5]) S mc' ms' (qR Q0)) (hc : (st.map fun v => v.category).sum ≤ 8) (hdd : d' + 1 ≤ d) (h1 : k + mc' ≤ mc) (h2 : n + ms' ≤ ms) (h : ∀ (r : Option Nat) (S' : HS), Q0 r S' → R l G cy y b nL rt d mc ms Q (pc + 3) lv (va_rf r :: st) S' (k + mc') (n + ms')) : R l G cy y b nL rt d mc ms Q pc lv (a5 :: a4 :: a3 :: a2 :: a1 :: .ref o :: st) S k n := r_callV (As := [a1, a2, a3, a4, a5]) hd hk hK0 hC rfl hc hdd h1 h2 (fun v S2 hq => by obtain ⟨r, rfl, hq⟩ := hq; exact h r S2 hq)
theorem r_invS5i {y' : MethodName} {b' : ByteArray} {nL' : Nat} {rt' : Option FieldType} {d' mc' ms' idx : Nat}  {a1 a2 a3 a4 a5 : Value} {Q0 : Int32 → HS → Prop} (hd : decode b pc = .ok (.invokestatic idx, 3)) (hk : LkS y.cls idx y' b' nL' rt' 5) (hC : Cn l G cy y' b' nL' rt' d' [a1, a2, a3, a4, a5] S mc' ms' (qI Q0)) (hc : (st.map fun v => v.category).sum ≤ 8) (hdd : d' + 1 ≤ d) (h1 : k + mc' ≤ mc) (h2 : n + ms' ≤ ms) (h : ∀ (r : Int32) (S' : HS), Q0 r S' → R l G cy y b nL rt d mc ms Q (pc + 3) lv (.int r :: st) S' (k + mc') (n + ms')) : R l G cy y b nL rt d mc ms Q pc lv (a5 :: a4 :: a3 :: a2 :: a1 :: st) S k n := r_callS (As := [a1, a2, a3, a4, a5]) hd hk hC rfl hc hdd h1 h2 (fun v S2 hq => by obtain ⟨r, rfl, hq⟩ := hq; exact h r S2 hq)
theorem r_invS5v {y' : MethodName} {b' : ByteArray} {nL' : Nat} {rt' : Option FieldType} {d' mc' ms' idx : Nat}  {a1 a2 a3 a4 a5 : Value} {Q0 : HS → Prop} (hd : decode b pc = .ok (.invokestatic idx, 3)) (hk : LkS y.cls idx y' b' nL' rt' 5) (hC : Cn l G cy y' b' nL' rt' d' [a1, a2, a3, a4, a5] S mc' ms' (qV Q0)) (hc : (st.map fun v => v.category).sum ≤ 8) (hdd : d' + 1 ≤ d) (h1 : k + mc' ≤ mc) (h2 : n + ms' ≤ ms) (h : ∀ (S' : HS), Q0 S' → R l G cy y b nL rt d mc ms Q (pc + 3) lv st S' (k + mc') (n + ms')) : R l G cy y b nL rt d mc ms Q pc lv (a5 :: a4 :: a3 :: a2 :: a1 :: st) S k n := r_callS (As := [a1, a2, a3, a4, a5]) hd hk hC rfl hc hdd h1 h2 (fun v S2 hq => by obtain ⟨rfl, hq⟩ := hq; exact h S2 hq)
theorem r_invS5r {y' : MethodName} {b' : ByteArray} {nL' : Nat} {rt' : Option FieldType} {d' mc' ms' idx : Nat}  {a1 a2 a3 a4 a5 : Value} {Q0 : Option Nat → HS → Prop} (hd : decode b pc = .ok (.invokestatic idx, 3)) (hk : LkS y.cls idx y' b' nL' rt' 5) (hC : Cn l G cy y' b' nL' rt' d' [a1, a2, a3, a4, a5] S mc' ms' (qR Q0)) (hc : (st.map fun v => v.category).sum ≤ 8) (hdd : d' + 1 ≤ d) (h1 : k + mc' ≤ mc) (h2 : n + ms' ≤ ms) (h : ∀ (r : Option Nat) (S' : HS), Q0 r S' → R l G cy y b nL rt d mc ms Q (pc + 3) lv (va_rf r :: st) S' (k + mc') (n + ms')) : R l G cy y b nL rt d mc ms Q pc lv (a5 :: a4 :: a3 :: a2 :: a1 :: st) S k n := r_callS (As := [a1, a2, a3, a4, a5]) hd hk hC rfl hc hdd h1 h2 (fun v S2 hq => by obtain ⟨r, rfl, hq⟩ := hq; exact h r S2 hq)
theorem r_invI5v {y' : MethodName} {b' : ByteArray} {nL' : Nat}  {d' mc' ms' idx : Nat} {o : Nat} {a1 a2 a3 a4 a5 : Value} {Q0 : HS → Prop} (hd : decode b pc = .ok (.invokespecial idx, 3)) (hk : LkI y.cls idx y' b' nL' 5) (hC : Cn l G cy y' b' nL' none d' (.ref o :: [a1, a2, a3, a4, a5]) S mc' ms' (qV Q0)) (hc : (st.map fun v => v.category).sum ≤ 8) (hdd : d' + 1 ≤ d) (h1 : k + mc' ≤ mc) (h2 : n + ms' ≤ ms) (h : ∀ (S' : HS), Q0 S' → R l G cy y b nL rt d mc ms Q (pc + 3) lv st S' (k + mc') (n + ms')) : R l G cy y b nL rt d mc ms Q pc lv (a5 :: a4 :: a3 :: a2 :: a1 :: .ref o :: st) S k n := r_callI (As := [a1, a2, a3, a4, a5]) hd hk hC rfl hc hdd h1 h2 (fun v S2 hq => by obtain ⟨rfl, hq⟩ := hq; exact h S2 hq)
theorem r_invV6i {y' : MethodName} {b' : ByteArray} {nL' : Nat} {rt' : Option FieldType} {d' mc' ms' idx : Nat} {ci : Nat} {o : Nat} {a1 a2 a3 a4 a5 a6 : Value} {Q0 : Int32 → HS → Prop} (hd : decode b pc = .ok (.invokevirtual idx, 3)) (hk : LkV y.cls idx y' b' nL' rt' 6 ci) (hK0 : tk o = ci) (hC : Cn l G cy y' b' nL' rt' d' (.ref o :: [a1, a2, a3, a4, a5, a6]) S mc' ms' (qI Q0)) (hc : (st.map fun v => v.category).sum ≤ 8) (hdd : d' + 1 ≤ d) (h1 : k + mc' ≤ mc) (h2 : n + ms' ≤ ms) (h : ∀ (r : Int32) (S' : HS), Q0 r S' → R l G cy y b nL rt d mc ms Q (pc + 3) lv (.int r :: st) S' (k + mc') (n + ms')) : R l G cy y b nL rt d mc ms Q pc lv (a6 :: a5 :: a4 :: a3 :: a2 :: a1 :: .ref o :: st) S k n := r_callV (As := [a1, a2, a3, a4, a5, a6]) hd hk hK0 hC rfl hc hdd h1 h2 (fun v S2 hq => by obtain ⟨r, rfl, hq⟩ := hq; exact h r S2 hq)
theorem r_invV6v {y' : MethodName} {b' : ByteArray} {nL' : Nat} {rt' : Option FieldType} {d' mc' ms' idx : Nat} {ci : Nat} {o : Nat} {a1 a2 a3 a4 a5 a6 : Value} {Q0 : HS → Prop} (hd : decode b pc = .ok (.invokevirtual idx, 3)) (hk : LkV y.cls idx y' b' nL' rt' 6 ci) (hK0 : tk o = ci) (hC : Cn l G cy y' b' nL' rt' d' (.ref o :: [a1, a2, a3, a4, a5, a6]) S mc' ms' (qV Q0)) (hc : (st.map fun v => v.category).sum ≤ 8) (hdd : d' + 1 ≤ d) (h1 : k + mc' ≤ mc) (h2 : n + ms' ≤ ms) (h : ∀ (S' : HS), Q0 S' → R l G cy y b nL rt d mc ms Q (pc + 3) lv st S' (k + mc') (n + ms')) : R l G cy y b nL rt d mc ms Q pc lv (a6 :: a5 :: a4 :: a3 :: a2 :: a1 :: .ref o :: st) S k n := r_callV (As := [a1, a2, a3, a4, a5, a6]) hd hk hK0 hC rfl hc hdd h1 h2 (fun v S2 hq => by obtain ⟨rfl, hq⟩ := hq; exact h S2 hq)
theorem r_invV6r {y' : MethodName} {b' : ByteArray} {nL' : Nat} {rt' : Option FieldType} {d' mc' ms' idx : Nat} {ci : Nat} {o : Nat} {a1 a2 a3 a4 a5 a6 : Value} {Q0 : Option Nat → HS → Prop} (hd : decode b pc = .ok (.invokevirtual idx, 3)) (hk : LkV y.cls idx y' b' nL' rt' 6 ci) (hK0 : tk o = ci) (hC : Cn l G cy y' b' nL' rt' d' (.ref o :: [a1, a2, a3, a4, a5, a6]) S mc' ms' (qR Q0)) (hc : (st.map fun v => v.category).sum ≤ 8) (hdd : d' + 1 ≤ d) (h1 : k + mc' ≤ mc) (h2 : n + ms' ≤ ms) (h : ∀ (r : Option Nat) (S' : HS), Q0 r S' → R l G cy y b nL rt d mc ms Q (pc + 3) lv (va_rf r :: st) S' (k + mc') (n + ms')) : R l G cy y b nL rt d mc ms Q pc lv (a6 :: a5 :: a4 :: a3 :: a2 :: a1 :: .ref o :: st) S k n := r_callV (As := [a1, a2, a3, a4, a5, a6]) hd hk hK0 hC rfl hc hdd h1 h2 (fun v S2 hq => by obtain ⟨r, rfl, hq⟩ := hq; exact h r S2 hq)
theorem r_invS6i {y' : MethodName} {b' : ByteArray} {nL' : Nat} {rt' : Option FieldType} {d' mc' ms' idx : Nat}  {a1 a2 a3 a4 a5 a6 : Value} {Q0 : Int32 → HS → Prop} (hd : decode b pc = .ok (.invokestatic idx, 3)) (hk : LkS y.cls idx y' b' nL' rt' 6) (hC : Cn l G cy y' b' nL' rt' d' [a1, a2, a3, a4, a5, a6] S mc' ms' (qI Q0)) (hc : (st.map fun v => v.category).sum ≤ 8) (hdd : d' + 1 ≤ d) (h1 : k + mc' ≤ mc) (h2 : n + ms' ≤ ms) (h : ∀ (r : Int32) (S' : HS), Q0 r S' → R l G cy y b nL rt d mc ms Q (pc + 3) lv (.int r :: st) S' (k + mc') (n + ms')) : R l G cy y b nL rt d mc ms Q pc lv (a6 :: a5 :: a4 :: a3 :: a2 :: a1 :: st) S k n := r_callS (As := [a1, a2, a3, a4, a5, a6]) hd hk hC rfl hc hdd h1 h2 (fun v S2 hq => by obtain ⟨r, rfl, hq⟩ := hq; exact h r S2 hq)
theorem r_invS6v {y' : MethodName} {b' : ByteArray} {nL' : Nat} {rt' : Option FieldType} {d' mc' ms' idx : Nat}  {a1 a2 a3 a4 a5 a6 : Value} {Q0 : HS → Prop} (hd : decode b pc = .ok (.invokestatic idx, 3)) (hk : LkS y.cls idx y' b' nL' rt' 6) (hC : Cn l G cy y' b' nL' rt' d' [a1, a2, a3, a4, a5, a6] S mc' ms' (qV Q0)) (hc : (st.map fun v => v.category).sum ≤ 8) (hdd : d' + 1 ≤ d) (h1 : k + mc' ≤ mc) (h2 : n + ms' ≤ ms) (h : ∀ (S' : HS), Q0 S' → R l G cy y b nL rt d mc ms Q (pc + 3) lv st S' (k + mc') (n + ms')) : R l G cy y b nL rt d mc ms Q pc lv (a6 :: a5 :: a4 :: a3 :: a2 :: a1 :: st) S k n := r_callS (As := [a1, a2, a3, a4, a5, a6]) hd hk hC rfl hc hdd h1 h2 (fun v S2 hq => by obtain ⟨rfl, hq⟩ := hq; exact h S2 hq)
theorem r_invS6r {y' : MethodName} {b' : ByteArray} {nL' : Nat} {rt' : Option FieldType} {d' mc' ms' idx : Nat}  {a1 a2 a3 a4 a5 a6 : Value} {Q0 : Option Nat → HS → Prop} (hd : decode b pc = .ok (.invokestatic idx, 3)) (hk : LkS y.cls idx y' b' nL' rt' 6) (hC : Cn l G cy y' b' nL' rt' d' [a1, a2, a3, a4, a5, a6] S mc' ms' (qR Q0)) (hc : (st.map fun v => v.category).sum ≤ 8) (hdd : d' + 1 ≤ d) (h1 : k + mc' ≤ mc) (h2 : n + ms' ≤ ms) (h : ∀ (r : Option Nat) (S' : HS), Q0 r S' → R l G cy y b nL rt d mc ms Q (pc + 3) lv (va_rf r :: st) S' (k + mc') (n + ms')) : R l G cy y b nL rt d mc ms Q pc lv (a6 :: a5 :: a4 :: a3 :: a2 :: a1 :: st) S k n := r_callS (As := [a1, a2, a3, a4, a5, a6]) hd hk hC rfl hc hdd h1 h2 (fun v S2 hq => by obtain ⟨r, rfl, hq⟩ := hq; exact h r S2 hq)
theorem r_invI6v {y' : MethodName} {b' : ByteArray} {nL' : Nat}  {d' mc' ms' idx : Nat} {o : Nat} {a1 a2 a3 a4 a5 a6 : Value} {Q0 : HS → Prop} (hd : decode b pc = .ok (.invokespecial idx, 3)) (hk : LkI y.cls idx y' b' nL' 6) (hC : Cn l G cy y' b' nL' none d' (.ref o :: [a1, a2, a3, a4, a5, a6]) S mc' ms' (qV Q0)) (hc : (st.map fun v => v.category).sum ≤ 8) (hdd : d' + 1 ≤ d) (h1 : k + mc' ≤ mc) (h2 : n + ms' ≤ ms) (h : ∀ (S' : HS), Q0 S' → R l G cy y b nL rt d mc ms Q (pc + 3) lv st S' (k + mc') (n + ms')) : R l G cy y b nL rt d mc ms Q pc lv (a6 :: a5 :: a4 :: a3 :: a2 :: a1 :: .ref o :: st) S k n := r_callI (As := [a1, a2, a3, a4, a5, a6]) hd hk hC rfl hc hdd h1 h2 (fun v S2 hq => by obtain ⟨rfl, hq⟩ := hq; exact h S2 hq)
theorem r_invV7i {y' : MethodName} {b' : ByteArray} {nL' : Nat} {rt' : Option FieldType} {d' mc' ms' idx : Nat} {ci : Nat} {o : Nat} {a1 a2 a3 a4 a5 a6 a7 : Value} {Q0 : Int32 → HS → Prop} (hd : decode b pc = .ok (.invokevirtual idx, 3)) (hk : LkV y.cls idx y' b' nL' rt' 7 ci) (hK0 : tk o = ci) (hC : Cn l G cy y' b' nL' rt' d' (.ref o :: [a1, a2, a3, a4, a5, a6, a7]) S mc' ms' (qI Q0)) (hc : (st.map fun v => v.category).sum ≤ 8) (hdd : d' + 1 ≤ d) (h1 : k + mc' ≤ mc) (h2 : n + ms' ≤ ms) (h : ∀ (r : Int32) (S' : HS), Q0 r S' → R l G cy y b nL rt d mc ms Q (pc + 3) lv (.int r :: st) S' (k + mc') (n + ms')) : R l G cy y b nL rt d mc ms Q pc lv (a7 :: a6 :: a5 :: a4 :: a3 :: a2 :: a1 :: .ref o :: st) S k n := r_callV (As := [a1, a2, a3, a4, a5, a6, a7]) hd hk hK0 hC rfl hc hdd h1 h2 (fun v S2 hq => by obtain ⟨r, rfl, hq⟩ := hq; exact h r S2 hq)
theorem r_invV7v {y' : MethodName} {b' : ByteArray} {nL' : Nat} {rt' : Option FieldType} {d' mc' ms' idx : Nat} {ci : Nat} {o : Nat} {a1 a2 a3 a4 a5 a6 a7 : Value} {Q0 : HS → Prop} (hd : decode b pc = .ok (.invokevirtual idx, 3)) (hk : LkV y.cls idx y' b' nL' rt' 7 ci) (hK0 : tk o = ci) (hC : Cn l G cy y' b' nL' rt' d' (.ref o :: [a1, a2, a3, a4, a5, a6, a7]) S mc' ms' (qV Q0)) (hc : (st.map fun v => v.category).sum ≤ 8) (hdd : d' + 1 ≤ d) (h1 : k + mc' ≤ mc) (h2 : n + ms' ≤ ms) (h : ∀ (S' : HS), Q0 S' → R l G cy y b nL rt d mc ms Q (pc + 3) lv st S' (k + mc') (n + ms')) : R l G cy y b nL rt d mc ms Q pc lv (a7 :: a6 :: a5 :: a4 :: a3 :: a2 :: a1 :: .ref o :: st) S k n := r_callV (As := [a1, a2, a3, a4, a5, a6, a7]) hd hk hK0 hC rfl hc hdd h1 h2 (fun v S2 hq => by obtain ⟨rfl, hq⟩ := hq; exact h S2 hq)
theorem r_invV7r {y' : MethodName} {b' : ByteArray} {nL' : Nat} {rt' : Option FieldType} {d' mc' ms' idx : Nat} {ci : Nat} {o : Nat} {a1 a2 a3 a4 a5 a6 a7 : Value} {Q0 : Option Nat → HS → Prop} (hd : decode b pc = .ok (.invokevirtual idx, 3)) (hk : LkV y.cls idx y' b' nL' rt' 7 ci) (hK0 : tk o = ci) (hC : Cn l G cy y' b' nL' rt' d' (.ref o :: [a1, a2, a3, a4, a5, a6, a7]) S mc' ms' (qR Q0)) (hc : (st.map fun v => v.category).sum ≤ 8) (hdd : d' + 1 ≤ d) (h1 : k + mc' ≤ mc) (h2 : n + ms' ≤ ms) (h : ∀ (r : Option Nat) (S' : HS), Q0 r S' → R l G cy y b nL rt d mc ms Q (pc + 3) lv (va_rf r :: st) S' (k + mc') (n + ms')) : R l G cy y b nL rt d mc ms Q pc lv (a7 :: a6 :: a5 :: a4 :: a3 :: a2 :: a1 :: .ref o :: st) S k n := r_callV (As := [a1, a2, a3, a4, a5, a6, a7]) hd hk hK0 hC rfl hc hdd h1 h2 (fun v S2 hq => by obtain ⟨r, rfl, hq⟩ := hq; exact h r S2 hq)
theorem r_invS7i {y' : MethodName} {b' : ByteArray} {nL' : Nat} {rt' : Option FieldType} {d' mc' ms' idx : Nat}  {a1 a2 a3 a4 a5 a6 a7 : Value} {Q0 : Int32 → HS → Prop} (hd : decode b pc = .ok (.invokestatic idx, 3)) (hk : LkS y.cls idx y' b' nL' rt' 7) (hC : Cn l G cy y' b' nL' rt' d' [a1, a2, a3, a4, a5, a6, a7] S mc' ms' (qI Q0)) (hc : (st.map fun v => v.category).sum ≤ 8) (hdd : d' + 1 ≤ d) (h1 : k + mc' ≤ mc) (h2 : n + ms' ≤ ms) (h : ∀ (r : Int32) (S' : HS), Q0 r S' → R l G cy y b nL rt d mc ms Q (pc + 3) lv (.int r :: st) S' (k + mc') (n + ms')) : R l G cy y b nL rt d mc ms Q pc lv (a7 :: a6 :: a5 :: a4 :: a3 :: a2 :: a1 :: st) S k n := r_callS (As := [a1, a2, a3, a4, a5, a6, a7]) hd hk hC rfl hc hdd h1 h2 (fun v S2 hq => by obtain ⟨r, rfl, hq⟩ := hq; exact h r S2 hq)
theorem r_invS7v {y' : MethodName} {b' : ByteArray} {nL' : Nat} {rt' : Option FieldType} {d' mc' ms' idx : Nat}  {a1 a2 a3 a4 a5 a6 a7 : Value} {Q0 : HS → Prop} (hd : decode b pc = .ok (.invokestatic idx, 3)) (hk : LkS y.cls idx y' b' nL' rt' 7) (hC : Cn l G cy y' b' nL' rt' d' [a1, a2, a3, a4, a5, a6, a7] S mc' ms' (qV Q0)) (hc : (st.map fun v => v.category).sum ≤ 8) (hdd : d' + 1 ≤ d) (h1 : k + mc' ≤ mc) (h2 : n + ms' ≤ ms) (h : ∀ (S' : HS), Q0 S' → R l G cy y b nL rt d mc ms Q (pc + 3) lv st S' (k + mc') (n + ms')) : R l G cy y b nL rt d mc ms Q pc lv (a7 :: a6 :: a5 :: a4 :: a3 :: a2 :: a1 :: st) S k n := r_callS (As := [a1, a2, a3, a4, a5, a6, a7]) hd hk hC rfl hc hdd h1 h2 (fun v S2 hq => by obtain ⟨rfl, hq⟩ := hq; exact h S2 hq)
theorem r_invS7r {y' : MethodName} {b' : ByteArray} {nL' : Nat} {rt' : Option FieldType} {d' mc' ms' idx : Nat}  {a1 a2 a3 a4 a5 a6 a7 : Value} {Q0 : Option Nat → HS → Prop} (hd : decode b pc = .ok (.invokestatic idx, 3)) (hk : LkS y.cls idx y' b' nL' rt' 7) (hC : Cn l G cy y' b' nL' rt' d' [a1, a2, a3, a4, a5, a6, a7] S mc' ms' (qR Q0)) (hc : (st.map fun v => v.category).sum ≤ 8) (hdd : d' + 1 ≤ d) (h1 : k + mc' ≤ mc) (h2 : n + ms' ≤ ms) (h : ∀ (r : Option Nat) (S' : HS), Q0 r S' → R l G cy y b nL rt d mc ms Q (pc + 3) lv (va_rf r :: st) S' (k + mc') (n + ms')) : R l G cy y b nL rt d mc ms Q pc lv (a7 :: a6 :: a5 :: a4 :: a3 :: a2 :: a1 :: st) S k n := r_callS (As := [a1, a2, a3, a4, a5, a6, a7]) hd hk hC rfl hc hdd h1 h2 (fun v S2 hq => by obtain ⟨r, rfl, hq⟩ := hq; exact h r S2 hq)
theorem r_invI7v {y' : MethodName} {b' : ByteArray} {nL' : Nat}  {d' mc' ms' idx : Nat} {o : Nat} {a1 a2 a3 a4 a5 a6 a7 : Value} {Q0 : HS → Prop} (hd : decode b pc = .ok (.invokespecial idx, 3)) (hk : LkI y.cls idx y' b' nL' 7) (hC : Cn l G cy y' b' nL' none d' (.ref o :: [a1, a2, a3, a4, a5, a6, a7]) S mc' ms' (qV Q0)) (hc : (st.map fun v => v.category).sum ≤ 8) (hdd : d' + 1 ≤ d) (h1 : k + mc' ≤ mc) (h2 : n + ms' ≤ ms) (h : ∀ (S' : HS), Q0 S' → R l G cy y b nL rt d mc ms Q (pc + 3) lv st S' (k + mc') (n + ms')) : R l G cy y b nL rt d mc ms Q pc lv (a7 :: a6 :: a5 :: a4 :: a3 :: a2 :: a1 :: .ref o :: st) S k n := r_callI (As := [a1, a2, a3, a4, a5, a6, a7]) hd hk hC rfl hc hdd h1 h2 (fun v S2 hq => by obtain ⟨rfl, hq⟩ := hq; exact h S2 hq)
end RH
end
section
/-! ===== links: what each index of each class names ===== -/
theorem tbI : Cond.arrayClass .int ∈ TB := by decide +kernel
theorem tbZ : Cond.arrayClass .boolean ∈ TB := by decide +kernel
theorem lm_X8_3 : LkO RX8 3 := ⟨by decide +kernel, by decide +kernel, by decide +kernel⟩
theorem ln_X8_9 : LkN RX8 9 4 := ⟨RX4, TX4, 5, tyX4, cfX4, by decide +kernel, by decide +kernel, by decide +kernel⟩
theorem lm_X8_11 : LkI RX8 11 yX4_init cX4_init 1 0 := ⟨Or.inr (by decide +kernel), by decide +kernel, by decide +kernel, by decide +kernel, by decide +kernel, by decide, rfl⟩
theorem lp_X8_12 : LkP RX8 "<init>" 12 8 0 := ⟨RX8, TX8, 18, tyX8, cfX8, by decide, by decide +kernel, Or.inr ⟨rfl, rfl, rfl⟩⟩
theorem la_X8_16 : Cond.classLink RX8 16 RX0 ∈ TB := by decide +kernel
theorem lp_X8_18 : LkP RX8 "<init>" 18 8 1 := ⟨RX8, TX8, 18, tyX8, cfX8, by decide, by decide +kernel, Or.inr ⟨rfl, rfl, rfl⟩⟩
theorem la_X8_22 : Cond.classLink RX8 22 RX7 ∈ TB := by decide +kernel
theorem lp_X8_24 : LkP RX8 "<init>" 24 8 2 := ⟨RX8, TX8, 18, tyX8, cfX8, by decide, by decide +kernel, Or.inr ⟨rfl, rfl, rfl⟩⟩
theorem la_X8_28 : Cond.classLink RX8 28 RX2 ∈ TB := by decide +kernel
theorem lp_X8_30 : LkP RX8 "<init>" 30 8 3 := ⟨RX8, TX8, 18, tyX8, cfX8, by decide, by decide +kernel, Or.inr ⟨rfl, rfl, rfl⟩⟩
theorem ln_X8_34 : LkN RX8 34 5 := ⟨RX5, TX5, 2, tyX5, cfX5, by decide +kernel, by decide +kernel, by decide +kernel⟩
theorem lm_X8_36 : LkI RX8 36 yX5_init cX5_init 1 0 := ⟨Or.inr (by decide +kernel), by decide +kernel, by decide +kernel, by decide +kernel, by decide +kernel, by decide, rfl⟩
theorem lp_X8_37 : LkP RX8 "<init>" 37 8 4 := ⟨RX8, TX8, 18, tyX8, cfX8, by decide, by decide +kernel, Or.inr ⟨rfl, rfl, rfl⟩⟩
theorem la_X8_34 : Cond.classLink RX8 34 RX5 ∈ TB := by decide +kernel
theorem lp_X8_41 : LkP RX8 "<init>" 41 8 5 := ⟨RX8, TX8, 18, tyX8, cfX8, by decide, by decide +kernel, Or.inr ⟨rfl, rfl, rfl⟩⟩
theorem ln_X8_45 : LkN RX8 45 3 := ⟨RX3, TX3, 4, tyX3, cfX3, by decide +kernel, by decide +kernel, by decide +kernel⟩
theorem lm_X8_47 : LkI RX8 47 yX3_init cX3_init 1 0 := ⟨Or.inr (by decide +kernel), by decide +kernel, by decide +kernel, by decide +kernel, by decide +kernel, by decide, rfl⟩
theorem lp_X8_48 : LkP RX8 "<init>" 48 8 6 := ⟨RX8, TX8, 18, tyX8, cfX8, by decide, by decide +kernel, Or.inr ⟨rfl, rfl, rfl⟩⟩
theorem ln_X8_52 : LkN RX8 52 1 := ⟨RX1, TX1, 3, tyX1, cfX1, by decide +kernel, by decide +kernel, by decide +kernel⟩
theorem lm_X8_54 : LkI RX8 54 yX1_init cX1_init 1 0 := ⟨Or.inr (by decide +kernel), by decide +kernel, by decide +kernel, by decide +kernel, by decide +kernel, by decide, rfl⟩
theorem lp_X8_55 : LkP RX8 "<init>" 55 8 7 := ⟨RX8, TX8, 18, tyX8, cfX8, by decide, by decide +kernel, Or.inr ⟨rfl, rfl, rfl⟩⟩
theorem ln_X8_59 : LkN RX8 59 6 := ⟨RX6, TX6, 5, tyX6, cfX6, by decide +kernel, by decide +kernel, by decide +kernel⟩
theorem lm_X8_61 : LkI RX8 61 yX6_init cX6_init 1 0 := ⟨Or.inr (by decide +kernel), by decide +kernel, by decide +kernel, by decide +kernel, by decide +kernel, by decide, rfl⟩
theorem lp_X8_62 : LkP RX8 "<init>" 62 8 8 := ⟨RX8, TX8, 18, tyX8, cfX8, by decide, by decide +kernel, Or.inr ⟨rfl, rfl, rfl⟩⟩
theorem lp_X8_66 (nm : String) : LkP RX8 nm 66 8 13 := ⟨RX8, TX8, 18, tyX8, cfX8, by decide, by decide +kernel, Or.inl rfl⟩
theorem lm_X8_70 : LkS RX8 70 yX4_isCell cX4_isCell 1 (some .boolean) 1 := ⟨by decide +kernel, by decide +kernel, by decide +kernel, by decide +kernel, by decide +kernel, by decide⟩
theorem lm_X8_74 : LkS RX8 74 yX8_isWithin cX8_isWithin 3 (some .boolean) 3 := ⟨by decide +kernel, by decide +kernel, by decide +kernel, by decide +kernel, by decide +kernel, by decide⟩
theorem lf_X8_12 : LkF RX8 12 8 0 := ⟨RX8, TX8, 18, tyX8, cfX8, by decide, by decide +kernel⟩
theorem lf_X8_78 : LkF RX8 78 4 0 := ⟨RX4, TX4, 5, tyX4, cfX4, by decide, by decide +kernel⟩
theorem lf_X8_82 : LkF RX8 82 4 1 := ⟨RX4, TX4, 5, tyX4, cfX4, by decide, by decide +kernel⟩
theorem lp_X8_86 (nm : String) : LkP RX8 nm 86 4 3 := ⟨RX4, TX4, 5, tyX4, cfX4, by decide, by decide +kernel, Or.inl rfl⟩
theorem lf_X8_89 : LkF RX8 89 8 9 := ⟨RX8, TX8, 18, tyX8, cfX8, by decide, by decide +kernel⟩
theorem lf_X8_18 : LkF RX8 18 8 1 := ⟨RX8, TX8, 18, tyX8, cfX8, by decide, by decide +kernel⟩
theorem ln_X8_16 : LkN RX8 16 0 := ⟨RX0, TX0, 8, tyX0, cfX0, by decide +kernel, by decide +kernel, by decide +kernel⟩
theorem lm_X8_92 : LkI RX8 92 yX0_init cX0_init 2 1 := ⟨Or.inl (by decide +kernel), by decide +kernel, by decide +kernel, by decide +kernel, by decide +kernel, by decide, rfl⟩
theorem lp_X8_89 (nm : String) : LkP RX8 nm 89 8 9 := ⟨RX8, TX8, 18, tyX8, cfX8, by decide, by decide +kernel, Or.inl rfl⟩
theorem lm_X8_95 : LkV RX8 95 yX8_boatAt cX8_boatAt 2 (some (.object "HerringSea$Boat")) 1 8 := ⟨by decide +kernel, by decide +kernel, by decide +kernel, by decide +kernel, by decide +kernel, by decide +kernel, by decide, by decide, _, rfl, rfl⟩
theorem lp_X8_99 (nm : String) : LkP RX8 nm 99 0 3 := ⟨RX0, TX0, 8, tyX0, cfX0, by decide, by decide +kernel, Or.inl rfl⟩
theorem lf_X8_102 : LkF RX8 102 0 2 := ⟨RX0, TX0, 8, tyX0, cfX0, by decide, by decide +kernel⟩
theorem lp_X8_102 (nm : String) : LkP RX8 nm 102 0 2 := ⟨RX0, TX0, 8, tyX0, cfX0, by decide, by decide +kernel, Or.inl rfl⟩
theorem lf_X8_105 : LkF RX8 105 8 10 := ⟨RX8, TX8, 18, tyX8, cfX8, by decide, by decide +kernel⟩
theorem lf_X8_24 : LkF RX8 24 8 2 := ⟨RX8, TX8, 18, tyX8, cfX8, by decide, by decide +kernel⟩
theorem ln_X8_22 : LkN RX8 22 7 := ⟨RX7, TX7, 5, tyX7, cfX7, by decide +kernel, by decide +kernel, by decide +kernel⟩
theorem lm_X8_108 : LkI RX8 108 yX7_init cX7_init 3 2 := ⟨Or.inl (by decide +kernel), by decide +kernel, by decide +kernel, by decide +kernel, by decide +kernel, by decide, rfl⟩
theorem lp_X8_105 (nm : String) : LkP RX8 nm 105 8 10 := ⟨RX8, TX8, 18, tyX8, cfX8, by decide, by decide +kernel, Or.inl rfl⟩
theorem lm_X8_111 : LkV RX8 111 yX8_yardAt cX8_yardAt 2 (some (.object "HerringSea$Yard")) 1 8 := ⟨by decide +kernel, by decide +kernel, by decide +kernel, by decide +kernel, by decide +kernel, by decide +kernel, by decide, by decide, _, rfl, rfl⟩
theorem lp_X8_115 (nm : String) : LkP RX8 nm 115 7 3 := ⟨RX7, TX7, 5, tyX7, cfX7, by decide, by decide +kernel, Or.inl rfl⟩
theorem lf_X8_118 : LkF RX8 118 8 12 := ⟨RX8, TX8, 18, tyX8, cfX8, by decide, by decide +kernel⟩
theorem lf_X8_121 : LkF RX8 121 8 11 := ⟨RX8, TX8, 18, tyX8, cfX8, by decide, by decide +kernel⟩
theorem lm_X8_124 : LkV RX8 124 yX8_beginNight cX8_beginNight 4 none 1 8 := ⟨by decide +kernel, by decide +kernel, by decide +kernel, by decide +kernel, by decide +kernel, by decide +kernel, by decide, by decide, _, rfl, rfl⟩
theorem lm_X8_128 : LkV RX8 128 yX8_haulEverywhere cX8_haulEverywhere 4 (some .int) 1 8 := ⟨by decide +kernel, by decide +kernel, by decide +kernel, by decide +kernel, by decide +kernel, by decide +kernel, by decide, by decide, _, rfl, rfl⟩
theorem lm_X8_132 : LkV RX8 132 yX4_moveShoals cX4_moveShoals 4 none 0 4 := ⟨by decide +kernel, by decide +kernel, by decide +kernel, by decide +kernel, by decide +kernel, by decide +kernel, by decide, by decide, _, rfl, rfl⟩
theorem lm_X8_135 : LkV RX8 135 yX8_sellAllCatches cX8_sellAllCatches 4 none 0 8 := ⟨by decide +kernel, by decide +kernel, by decide +kernel, by decide +kernel, by decide +kernel, by decide +kernel, by decide, by decide, _, rfl, rfl⟩
theorem lm_X8_138 : LkV RX8 138 yX8_gutLotsFrom cX8_gutLotsFrom 4 none 1 8 := ⟨by decide +kernel, by decide +kernel, by decide +kernel, by decide +kernel, by decide +kernel, by decide +kernel, by decide, by decide, _, rfl, rfl⟩
theorem lp_X8_118 (nm : String) : LkP RX8 nm 118 8 12 := ⟨RX8, TX8, 18, tyX8, cfX8, by decide, by decide +kernel, Or.inl rfl⟩
theorem lm_X8_141 : LkS RX8 141 yX5_bytesIn cX5_bytesIn 3 (some .int) 1 := ⟨by decide +kernel, by decide +kernel, by decide +kernel, by decide +kernel, by decide +kernel, by decide⟩
theorem lf_X8_37 : LkF RX8 37 8 4 := ⟨RX8, TX8, 18, tyX8, cfX8, by decide, by decide +kernel⟩
theorem lf_X8_145 : LkF RX8 145 5 1 := ⟨RX5, TX5, 2, tyX5, cfX5, by decide, by decide +kernel⟩
theorem lm_X8_148 : LkV RX8 148 yX5_addWord cX5_addWord 4 none 1 5 := ⟨by decide +kernel, by decide +kernel, by decide +kernel, by decide +kernel, by decide +kernel, by decide +kernel, by decide, by decide, _, rfl, rfl⟩
theorem lp_X8_145 (nm : String) : LkP RX8 nm 145 5 1 := ⟨RX5, TX5, 2, tyX5, cfX5, by decide, by decide +kernel, Or.inl rfl⟩
theorem lf_X8_55 : LkF RX8 55 8 7 := ⟨RX8, TX8, 18, tyX8, cfX8, by decide, by decide +kernel⟩
theorem lm_X8_151 : LkV RX8 151 yX1_faultOf cX1_faultOf 3 (some .int) 1 1 := ⟨by decide +kernel, by decide +kernel, by decide +kernel, by decide +kernel, by decide +kernel, by decide +kernel, by decide, by decide, _, rfl, rfl⟩
theorem lf_X8_41 : LkF RX8 41 8 5 := ⟨RX8, TX8, 18, tyX8, cfX8, by decide, by decide +kernel⟩
theorem lm_X8_155 : LkV RX8 155 yX5_copyFrom cX5_copyFrom 3 none 1 5 := ⟨by decide +kernel, by decide +kernel, by decide +kernel, by decide +kernel, by decide +kernel, by decide +kernel, by decide, by decide, _, rfl, rfl⟩
theorem lm_X8_159 : LkV RX8 159 yX8_textAt cX8_textAt 2 (some (.object "HerringSea$Text")) 1 8 := ⟨by decide +kernel, by decide +kernel, by decide +kernel, by decide +kernel, by decide +kernel, by decide +kernel, by decide, by decide, _, rfl, rfl⟩
theorem lm_X8_163 : LkV RX8 163 yX8_lotAt cX8_lotAt 2 (some (.object "HerringSea$Lot")) 1 8 := ⟨by decide +kernel, by decide +kernel, by decide +kernel, by decide +kernel, by decide +kernel, by decide +kernel, by decide, by decide, _, rfl, rfl⟩
theorem lf_X8_62 : LkF RX8 62 8 8 := ⟨RX8, TX8, 18, tyX8, cfX8, by decide, by decide +kernel⟩
theorem lm_X8_167 : LkV RX8 167 yX6_holds cX6_holds 5 (some .boolean) 3 6 := ⟨by decide +kernel, by decide +kernel, by decide +kernel, by decide +kernel, by decide +kernel, by decide +kernel, by decide, by decide, _, rfl, rfl⟩
theorem lm_X8_171 : LkS RX8 171 yX0_isHand cX0_isHand 1 (some .boolean) 1 := ⟨by decide +kernel, by decide +kernel, by decide +kernel, by decide +kernel, by decide +kernel, by decide⟩
theorem lf_X8_174 : LkF RX8 174 0 0 := ⟨RX0, TX0, 8, tyX0, cfX0, by decide, by decide +kernel⟩
theorem lf_X8_177 : LkF RX8 177 0 6 := ⟨RX0, TX0, 8, tyX0, cfX0, by decide, by decide +kernel⟩
theorem lf_X8_48 : LkF RX8 48 8 6 := ⟨RX8, TX8, 18, tyX8, cfX8, by decide, by decide +kernel⟩
theorem lm_X8_180 : LkV RX8 180 yX3_clear cX3_clear 2 none 0 3 := ⟨by decide +kernel, by decide +kernel, by decide +kernel, by decide +kernel, by decide +kernel, by decide +kernel, by decide, by decide, _, rfl, rfl⟩
theorem lm_X8_183 : LkV RX8 183 yX3_addMeasure cX3_addMeasure 3 none 2 3 := ⟨by decide +kernel, by decide +kernel, by decide +kernel, by decide +kernel, by decide +kernel, by decide +kernel, by decide, by decide, _, rfl, rfl⟩
theorem lf_X8_186 : LkF RX8 186 3 3 := ⟨RX3, TX3, 4, tyX3, cfX3, by decide, by decide +kernel⟩
theorem lm_X8_189 : LkV RX8 189 yX3_part cX3_part 6 none 1 3 := ⟨by decide +kernel, by decide +kernel, by decide +kernel, by decide +kernel, by decide +kernel, by decide +kernel, by decide, by decide, _, rfl, rfl⟩
theorem lf_X8_192 : LkF RX8 192 0 1 := ⟨RX0, TX0, 8, tyX0, cfX0, by decide, by decide +kernel⟩
theorem lf_X8_195 : LkF RX8 195 3 0 := ⟨RX3, TX3, 4, tyX3, cfX3, by decide, by decide +kernel⟩
theorem lp_X8_177 (nm : String) : LkP RX8 nm 177 0 6 := ⟨RX0, TX0, 8, tyX0, cfX0, by decide, by decide +kernel, Or.inl rfl⟩
theorem lf_X8_99 : LkF RX8 99 0 3 := ⟨RX0, TX0, 8, tyX0, cfX0, by decide, by decide +kernel⟩
theorem lf_X8_198 : LkF RX8 198 0 4 := ⟨RX0, TX0, 8, tyX0, cfX0, by decide, by decide +kernel⟩
theorem lf_X8_201 : LkF RX8 201 0 7 := ⟨RX0, TX0, 8, tyX0, cfX0, by decide, by decide +kernel⟩
theorem lf_X8_204 : LkF RX8 204 0 5 := ⟨RX0, TX0, 8, tyX0, cfX0, by decide, by decide +kernel⟩
theorem lf_X8_207 : LkF RX8 207 2 0 := ⟨RX2, TX2, 11, tyX2, cfX2, by decide, by decide +kernel⟩
theorem lf_X8_210 : LkF RX8 210 2 1 := ⟨RX2, TX2, 11, tyX2, cfX2, by decide, by decide +kernel⟩
theorem lf_X8_213 : LkF RX8 213 2 2 := ⟨RX2, TX2, 11, tyX2, cfX2, by decide, by decide +kernel⟩
theorem lf_X8_214 : LkF RX8 214 2 3 := ⟨RX2, TX2, 11, tyX2, cfX2, by decide, by decide +kernel⟩
theorem lf_X8_217 : LkF RX8 217 2 4 := ⟨RX2, TX2, 11, tyX2, cfX2, by decide, by decide +kernel⟩
theorem lf_X8_219 : LkF RX8 219 2 7 := ⟨RX2, TX2, 11, tyX2, cfX2, by decide, by decide +kernel⟩
theorem lf_X8_222 : LkF RX8 222 2 8 := ⟨RX2, TX2, 11, tyX2, cfX2, by decide, by decide +kernel⟩
theorem lf_X8_225 : LkF RX8 225 2 5 := ⟨RX2, TX2, 11, tyX2, cfX2, by decide, by decide +kernel⟩
theorem lf_X8_228 : LkF RX8 228 2 6 := ⟨RX2, TX2, 11, tyX2, cfX2, by decide, by decide +kernel⟩
theorem lf_X8_231 : LkF RX8 231 2 9 := ⟨RX2, TX2, 11, tyX2, cfX2, by decide, by decide +kernel⟩
theorem lf_X8_234 : LkF RX8 234 2 10 := ⟨RX2, TX2, 11, tyX2, cfX2, by decide, by decide +kernel⟩
theorem lm_X8_237 : LkV RX8 237 yX4_cransInAll cX4_cransInAll 3 (some .int) 0 4 := ⟨by decide +kernel, by decide +kernel, by decide +kernel, by decide +kernel, by decide +kernel, by decide +kernel, by decide, by decide, _, rfl, rfl⟩
theorem lf_X8_241 : LkF RX8 241 8 14 := ⟨RX8, TX8, 18, tyX8, cfX8, by decide, by decide +kernel⟩
theorem lf_X8_242 : LkF RX8 242 8 15 := ⟨RX8, TX8, 18, tyX8, cfX8, by decide, by decide +kernel⟩
theorem lf_X8_245 : LkF RX8 245 8 16 := ⟨RX8, TX8, 18, tyX8, cfX8, by decide, by decide +kernel⟩
theorem lf_X8_248 : LkF RX8 248 4 4 := ⟨RX4, TX4, 5, tyX4, cfX4, by decide, by decide +kernel⟩
theorem lf_X8_251 : LkF RX8 251 8 17 := ⟨RX8, TX8, 18, tyX8, cfX8, by decide, by decide +kernel⟩
theorem lm_X8_254 : LkV RX8 254 yX8_owedInAll cX8_owedInAll 4 (some .int) 0 8 := ⟨by decide +kernel, by decide +kernel, by decide +kernel, by decide +kernel, by decide +kernel, by decide +kernel, by decide, by decide, _, rfl, rfl⟩
theorem lf_X8_30 : LkF RX8 30 8 3 := ⟨RX8, TX8, 18, tyX8, cfX8, by decide, by decide +kernel⟩
theorem lp_X8_204 (nm : String) : LkP RX8 nm 204 0 5 := ⟨RX0, TX0, 8, tyX0, cfX0, by decide, by decide +kernel, Or.inl rfl⟩
theorem lm_X8_257 : LkV RX8 257 yX8_isStormy cX8_isStormy 3 (some .boolean) 2 8 := ⟨by decide +kernel, by decide +kernel, by decide +kernel, by decide +kernel, by decide +kernel, by decide +kernel, by decide, by decide, _, rfl, rfl⟩
theorem lm_X8_261 : LkV RX8 261 yX0_loseNets cX0_loseNets 2 none 0 0 := ⟨by decide +kernel, by decide +kernel, by decide +kernel, by decide +kernel, by decide +kernel, by decide +kernel, by decide, by decide, _, rfl, rfl⟩
theorem lm_X8_264 : LkV RX8 264 yX7_beginDay cX7_beginDay 2 none 0 7 := ⟨by decide +kernel, by decide +kernel, by decide +kernel, by decide +kernel, by decide +kernel, by decide +kernel, by decide, by decide, _, rfl, rfl⟩
theorem lm_X8_267 : LkV RX8 267 yX8_haulIn cX8_haulIn 5 (some .int) 1 8 := ⟨by decide +kernel, by decide +kernel, by decide +kernel, by decide +kernel, by decide +kernel, by decide +kernel, by decide, by decide, _, rfl, rfl⟩
theorem lp_X8_241 (nm : String) : LkP RX8 nm 241 8 14 := ⟨RX8, TX8, 18, tyX8, cfX8, by decide, by decide +kernel, Or.inl rfl⟩
theorem lm_X8_270 : LkMmin RX8 270 := ⟨by decide +kernel, by decide +kernel, by decide +kernel, by decide +kernel⟩
theorem lm_X8_276 : LkV RX8 276 yX0_takeIn cX0_takeIn 2 none 1 0 := ⟨by decide +kernel, by decide +kernel, by decide +kernel, by decide +kernel, by decide +kernel, by decide +kernel, by decide, by decide, _, rfl, rfl⟩
theorem lm_X8_279 : LkS RX8 279 yX4_stepsFrom cX4_stepsFrom 1 (some .int) 1 := ⟨by decide +kernel, by decide +kernel, by decide +kernel, by decide +kernel, by decide +kernel, by decide⟩
theorem lm_X8_282 : LkV RX8 282 yX8_sellCatch cX8_sellCatch 9 none 3 8 := ⟨by decide +kernel, by decide +kernel, by decide +kernel, by decide +kernel, by decide +kernel, by decide +kernel, by decide, by decide, _, rfl, rfl⟩
theorem lm_X8_286 : LkV RX8 286 yX8_bestBidder cX8_bestBidder 5 (some .int) 0 8 := ⟨by decide +kernel, by decide +kernel, by decide +kernel, by decide +kernel, by decide +kernel, by decide +kernel, by decide, by decide, _, rfl, rfl⟩
theorem lf_X8_289 : LkF RX8 289 7 4 := ⟨RX7, TX7, 5, tyX7, cfX7, by decide, by decide +kernel⟩
theorem ln_X8_28 : LkN RX8 28 2 := ⟨RX2, TX2, 11, tyX2, cfX2, by decide +kernel, by decide +kernel, by decide +kernel⟩
theorem lf_X8_115 : LkF RX8 115 7 3 := ⟨RX7, TX7, 5, tyX7, cfX7, by decide, by decide +kernel⟩
theorem lm_X8_292 : LkI RX8 292 yX2_init cX2_init 8 7 := ⟨Or.inl (by decide +kernel), by decide +kernel, by decide +kernel, by decide +kernel, by decide +kernel, by decide, rfl⟩
theorem lp_X8_121 (nm : String) : LkP RX8 nm 121 8 11 := ⟨RX8, TX8, 18, tyX8, cfX8, by decide, by decide +kernel, Or.inl rfl⟩
theorem lp_X8_289 (nm : String) : LkP RX8 nm 289 7 4 := ⟨RX7, TX7, 5, tyX7, cfX7, by decide, by decide +kernel, Or.inl rfl⟩
theorem lp_X8_251 (nm : String) : LkP RX8 nm 251 8 17 := ⟨RX8, TX8, 18, tyX8, cfX8, by decide, by decide +kernel, Or.inl rfl⟩
theorem lm_X8_295 : LkV RX8 295 yX8_gutLot cX8_gutLot 3 none 1 8 := ⟨by decide +kernel, by decide +kernel, by decide +kernel, by decide +kernel, by decide +kernel, by decide +kernel, by decide, by decide, _, rfl, rfl⟩
theorem lf_X8_66 : LkF RX8 66 8 13 := ⟨RX8, TX8, 18, tyX8, cfX8, by decide, by decide +kernel⟩
theorem lm_X8_299 : LkV RX8 299 yX7_gut cX7_gut 6 none 2 7 := ⟨by decide +kernel, by decide +kernel, by decide +kernel, by decide +kernel, by decide +kernel, by decide +kernel, by decide, by decide, _, rfl, rfl⟩
theorem lp_X8_242 (nm : String) : LkP RX8 nm 242 8 15 := ⟨RX8, TX8, 18, tyX8, cfX8, by decide, by decide +kernel, Or.inl rfl⟩
theorem lp_X8_245 (nm : String) : LkP RX8 nm 245 8 16 := ⟨RX8, TX8, 18, tyX8, cfX8, by decide, by decide +kernel, Or.inl rfl⟩
theorem lm_X9_1 : LkO RX9 1 := ⟨by decide +kernel, by decide +kernel, by decide +kernel⟩
theorem lp_X9_9 : LkP RX9 "<init>" 9 9 0 := ⟨RX9, TX9, 53, tyX9, cfX9, by decide, by decide +kernel, Or.inr ⟨rfl, rfl, rfl⟩⟩
theorem lp_X9_13 : LkP RX9 "<init>" 13 9 1 := ⟨RX9, TX9, 53, tyX9, cfX9, by decide, by decide +kernel, Or.inr ⟨rfl, rfl, rfl⟩⟩
theorem lp_X9_17 : LkP RX9 "<init>" 17 9 2 := ⟨RX9, TX9, 53, tyX9, cfX9, by decide, by decide +kernel, Or.inr ⟨rfl, rfl, rfl⟩⟩
theorem lp_X9_20 : LkP RX9 "<init>" 20 9 3 := ⟨RX9, TX9, 53, tyX9, cfX9, by decide, by decide +kernel, Or.inr ⟨rfl, rfl, rfl⟩⟩
theorem lp_X9_23 : LkP RX9 "<init>" 23 9 4 := ⟨RX9, TX9, 53, tyX9, cfX9, by decide, by decide +kernel, Or.inr ⟨rfl, rfl, rfl⟩⟩
theorem lp_X9_26 : LkP RX9 "<init>" 26 9 5 := ⟨RX9, TX9, 53, tyX9, cfX9, by decide, by decide +kernel, Or.inr ⟨rfl, rfl, rfl⟩⟩
theorem lp_X9_29 : LkP RX9 "<init>" 29 9 6 := ⟨RX9, TX9, 53, tyX9, cfX9, by decide, by decide +kernel, Or.inr ⟨rfl, rfl, rfl⟩⟩
theorem lp_X9_32 : LkP RX9 "<init>" 32 9 7 := ⟨RX9, TX9, 53, tyX9, cfX9, by decide, by decide +kernel, Or.inr ⟨rfl, rfl, rfl⟩⟩
theorem lp_X9_35 : LkP RX9 "<init>" 35 9 8 := ⟨RX9, TX9, 53, tyX9, cfX9, by decide, by decide +kernel, Or.inr ⟨rfl, rfl, rfl⟩⟩
theorem lp_X9_38 : LkP RX9 "<init>" 38 9 9 := ⟨RX9, TX9, 53, tyX9, cfX9, by decide, by decide +kernel, Or.inr ⟨rfl, rfl, rfl⟩⟩
theorem lp_X9_41 : LkP RX9 "<init>" 41 9 10 := ⟨RX9, TX9, 53, tyX9, cfX9, by decide, by decide +kernel, Or.inr ⟨rfl, rfl, rfl⟩⟩
theorem lp_X9_44 : LkP RX9 "<init>" 44 9 11 := ⟨RX9, TX9, 53, tyX9, cfX9, by decide, by decide +kernel, Or.inr ⟨rfl, rfl, rfl⟩⟩
theorem lp_X9_47 : LkP RX9 "<init>" 47 9 12 := ⟨RX9, TX9, 53, tyX9, cfX9, by decide, by decide +kernel, Or.inr ⟨rfl, rfl, rfl⟩⟩
theorem lp_X9_50 : LkP RX9 "<init>" 50 9 13 := ⟨RX9, TX9, 53, tyX9, cfX9, by decide, by decide +kernel, Or.inr ⟨rfl, rfl, rfl⟩⟩
theorem lp_X9_53 : LkP RX9 "<init>" 53 9 14 := ⟨RX9, TX9, 53, tyX9, cfX9, by decide, by decide +kernel, Or.inr ⟨rfl, rfl, rfl⟩⟩
theorem lp_X9_56 : LkP RX9 "<init>" 56 9 15 := ⟨RX9, TX9, 53, tyX9, cfX9, by decide, by decide +kernel, Or.inr ⟨rfl, rfl, rfl⟩⟩
theorem lp_X9_59 : LkP RX9 "<init>" 59 9 16 := ⟨RX9, TX9, 53, tyX9, cfX9, by decide, by decide +kernel, Or.inr ⟨rfl, rfl, rfl⟩⟩
theorem lp_X9_62 : LkP RX9 "<init>" 62 9 17 := ⟨RX9, TX9, 53, tyX9, cfX9, by decide, by decide +kernel, Or.inr ⟨rfl, rfl, rfl⟩⟩
theorem lp_X9_65 : LkP RX9 "<init>" 65 9 18 := ⟨RX9, TX9, 53, tyX9, cfX9, by decide, by decide +kernel, Or.inr ⟨rfl, rfl, rfl⟩⟩
theorem lp_X9_68 : LkP RX9 "<init>" 68 9 19 := ⟨RX9, TX9, 53, tyX9, cfX9, by decide, by decide +kernel, Or.inr ⟨rfl, rfl, rfl⟩⟩
theorem lp_X9_71 : LkP RX9 "<init>" 71 9 20 := ⟨RX9, TX9, 53, tyX9, cfX9, by decide, by decide +kernel, Or.inr ⟨rfl, rfl, rfl⟩⟩
theorem lp_X9_74 : LkP RX9 "<init>" 74 9 21 := ⟨RX9, TX9, 53, tyX9, cfX9, by decide, by decide +kernel, Or.inr ⟨rfl, rfl, rfl⟩⟩
theorem lp_X9_77 : LkP RX9 "<init>" 77 9 22 := ⟨RX9, TX9, 53, tyX9, cfX9, by decide, by decide +kernel, Or.inr ⟨rfl, rfl, rfl⟩⟩
theorem lp_X9_80 : LkP RX9 "<init>" 80 9 23 := ⟨RX9, TX9, 53, tyX9, cfX9, by decide, by decide +kernel, Or.inr ⟨rfl, rfl, rfl⟩⟩
theorem lp_X9_83 (nm : String) : LkP RX9 nm 83 9 29 := ⟨RX9, TX9, 53, tyX9, cfX9, by decide, by decide +kernel, Or.inl rfl⟩
theorem lp_X9_87 : LkP RX9 "<init>" 87 9 35 := ⟨RX9, TX9, 53, tyX9, cfX9, by decide, by decide +kernel, Or.inr ⟨rfl, rfl, rfl⟩⟩
theorem lp_X9_90 : LkP RX9 "<init>" 90 9 36 := ⟨RX9, TX9, 53, tyX9, cfX9, by decide, by decide +kernel, Or.inr ⟨rfl, rfl, rfl⟩⟩
theorem lp_X9_93 : LkP RX9 "<init>" 93 9 37 := ⟨RX9, TX9, 53, tyX9, cfX9, by decide, by decide +kernel, Or.inr ⟨rfl, rfl, rfl⟩⟩
theorem lp_X9_96 : LkP RX9 "<init>" 96 9 38 := ⟨RX9, TX9, 53, tyX9, cfX9, by decide, by decide +kernel, Or.inr ⟨rfl, rfl, rfl⟩⟩
theorem lp_X9_99 : LkP RX9 "<init>" 99 9 39 := ⟨RX9, TX9, 53, tyX9, cfX9, by decide, by decide +kernel, Or.inr ⟨rfl, rfl, rfl⟩⟩
theorem lp_X9_102 : LkP RX9 "<init>" 102 9 40 := ⟨RX9, TX9, 53, tyX9, cfX9, by decide, by decide +kernel, Or.inr ⟨rfl, rfl, rfl⟩⟩
theorem lp_X9_105 : LkP RX9 "<init>" 105 9 41 := ⟨RX9, TX9, 53, tyX9, cfX9, by decide, by decide +kernel, Or.inr ⟨rfl, rfl, rfl⟩⟩
theorem lp_X9_108 : LkP RX9 "<init>" 108 9 42 := ⟨RX9, TX9, 53, tyX9, cfX9, by decide, by decide +kernel, Or.inr ⟨rfl, rfl, rfl⟩⟩
theorem lp_X9_111 : LkP RX9 "<init>" 111 9 43 := ⟨RX9, TX9, 53, tyX9, cfX9, by decide, by decide +kernel, Or.inr ⟨rfl, rfl, rfl⟩⟩
theorem lp_X9_114 : LkP RX9 "<init>" 114 9 44 := ⟨RX9, TX9, 53, tyX9, cfX9, by decide, by decide +kernel, Or.inr ⟨rfl, rfl, rfl⟩⟩
theorem lp_X9_117 : LkP RX9 "<init>" 117 9 45 := ⟨RX9, TX9, 53, tyX9, cfX9, by decide, by decide +kernel, Or.inr ⟨rfl, rfl, rfl⟩⟩
theorem lp_X9_120 : LkP RX9 "<init>" 120 9 46 := ⟨RX9, TX9, 53, tyX9, cfX9, by decide, by decide +kernel, Or.inr ⟨rfl, rfl, rfl⟩⟩
theorem lp_X9_123 : LkP RX9 "<init>" 123 9 52 := ⟨RX9, TX9, 53, tyX9, cfX9, by decide, by decide +kernel, Or.inr ⟨rfl, rfl, rfl⟩⟩
theorem lf_X9_126 : LkF RX9 126 9 25 := ⟨RX9, TX9, 53, tyX9, cfX9, by decide, by decide +kernel⟩
theorem lm_X9_129 : LkS RX9 129 yX9_in cX9_in 3 (some .boolean) 3 := ⟨by decide +kernel, by decide +kernel, by decide +kernel, by decide +kernel, by decide +kernel, by decide⟩
theorem lf_X9_87 : LkF RX9 87 9 35 := ⟨RX9, TX9, 53, tyX9, cfX9, by decide, by decide +kernel⟩
theorem lf_X9_90 : LkF RX9 90 9 36 := ⟨RX9, TX9, 53, tyX9, cfX9, by decide, by decide +kernel⟩
theorem lf_X9_93 : LkF RX9 93 9 37 := ⟨RX9, TX9, 53, tyX9, cfX9, by decide, by decide +kernel⟩
theorem lf_X9_9 : LkF RX9 9 9 0 := ⟨RX9, TX9, 53, tyX9, cfX9, by decide, by decide +kernel⟩
theorem lf_X9_13 : LkF RX9 13 9 1 := ⟨RX9, TX9, 53, tyX9, cfX9, by decide, by decide +kernel⟩
theorem lp_X9_133 (nm : String) : LkP RX9 nm 133 9 28 := ⟨RX9, TX9, 53, tyX9, cfX9, by decide, by decide +kernel, Or.inl rfl⟩
theorem lf_X9_17 : LkF RX9 17 9 2 := ⟨RX9, TX9, 53, tyX9, cfX9, by decide, by decide +kernel⟩
theorem lf_X9_20 : LkF RX9 20 9 3 := ⟨RX9, TX9, 53, tyX9, cfX9, by decide, by decide +kernel⟩
theorem lp_X9_126 (nm : String) : LkP RX9 nm 126 9 25 := ⟨RX9, TX9, 53, tyX9, cfX9, by decide, by decide +kernel, Or.inl rfl⟩
theorem lm_X9_136 : LkV RX9 136 yX9_isBoat cX9_isBoat 2 (some .boolean) 1 9 := ⟨by decide +kernel, by decide +kernel, by decide +kernel, by decide +kernel, by decide +kernel, by decide +kernel, by decide, by decide, _, rfl, rfl⟩
theorem lf_X9_140 : LkF RX9 140 9 26 := ⟨RX9, TX9, 53, tyX9, cfX9, by decide, by decide +kernel⟩
theorem lf_X9_41 : LkF RX9 41 9 10 := ⟨RX9, TX9, 53, tyX9, cfX9, by decide, by decide +kernel⟩
theorem lf_X9_44 : LkF RX9 44 9 11 := ⟨RX9, TX9, 53, tyX9, cfX9, by decide, by decide +kernel⟩
theorem lp_X9_140 (nm : String) : LkP RX9 nm 140 9 26 := ⟨RX9, TX9, 53, tyX9, cfX9, by decide, by decide +kernel, Or.inl rfl⟩
theorem lf_X9_47 : LkF RX9 47 9 12 := ⟨RX9, TX9, 53, tyX9, cfX9, by decide, by decide +kernel⟩
theorem lf_X9_96 : LkF RX9 96 9 38 := ⟨RX9, TX9, 53, tyX9, cfX9, by decide, by decide +kernel⟩
theorem lm_X9_143 : LkMmin RX9 143 := ⟨by decide +kernel, by decide +kernel, by decide +kernel, by decide +kernel⟩
theorem lm_X9_149 : LkV RX9 149 yX9_partAmong cX9_partAmong 14 none 2 9 := ⟨by decide +kernel, by decide +kernel, by decide +kernel, by decide +kernel, by decide +kernel, by decide +kernel, by decide, by decide, _, rfl, rfl⟩
theorem lf_X9_26 : LkF RX9 26 9 5 := ⟨RX9, TX9, 53, tyX9, cfX9, by decide, by decide +kernel⟩
theorem lf_X9_23 : LkF RX9 23 9 4 := ⟨RX9, TX9, 53, tyX9, cfX9, by decide, by decide +kernel⟩
theorem lf_X9_32 : LkF RX9 32 9 7 := ⟨RX9, TX9, 53, tyX9, cfX9, by decide, by decide +kernel⟩
theorem lf_X9_133 : LkF RX9 133 9 28 := ⟨RX9, TX9, 53, tyX9, cfX9, by decide, by decide +kernel⟩
theorem lf_X9_99 : LkF RX9 99 9 39 := ⟨RX9, TX9, 53, tyX9, cfX9, by decide, by decide +kernel⟩
theorem lm_X9_153 : LkV RX9 153 yX9_beside cX9_beside 4 (some .int) 1 9 := ⟨by decide +kernel, by decide +kernel, by decide +kernel, by decide +kernel, by decide +kernel, by decide +kernel, by decide, by decide, _, rfl, rfl⟩
theorem lf_X9_157 : LkF RX9 157 9 33 := ⟨RX9, TX9, 53, tyX9, cfX9, by decide, by decide +kernel⟩
theorem lm_X9_160 : LkMmax RX9 160 := ⟨by decide +kernel, by decide +kernel, by decide +kernel, by decide +kernel⟩
theorem lp_X9_157 (nm : String) : LkP RX9 nm 157 9 33 := ⟨RX9, TX9, 53, tyX9, cfX9, by decide, by decide +kernel, Or.inl rfl⟩
theorem lf_X9_105 : LkF RX9 105 9 41 := ⟨RX9, TX9, 53, tyX9, cfX9, by decide, by decide +kernel⟩
theorem lm_X9_163 : LkV RX9 163 yX9_minute cX9_minute 2 (some .int) 1 9 := ⟨by decide +kernel, by decide +kernel, by decide +kernel, by decide +kernel, by decide +kernel, by decide +kernel, by decide, by decide, _, rfl, rfl⟩
theorem lf_X9_102 : LkF RX9 102 9 40 := ⟨RX9, TX9, 53, tyX9, cfX9, by decide, by decide +kernel⟩
theorem lm_X9_166 : LkV RX9 166 yX9_nextBoat cX9_nextBoat 3 (some .int) 0 9 := ⟨by decide +kernel, by decide +kernel, by decide +kernel, by decide +kernel, by decide +kernel, by decide +kernel, by decide, by decide, _, rfl, rfl⟩
theorem lm_X9_170 : LkV RX9 170 yX9_bestYard cX9_bestYard 3 (some .int) 0 9 := ⟨by decide +kernel, by decide +kernel, by decide +kernel, by decide +kernel, by decide +kernel, by decide +kernel, by decide, by decide, _, rfl, rfl⟩
theorem lf_X9_173 : LkF RX9 173 9 27 := ⟨RX9, TX9, 53, tyX9, cfX9, by decide, by decide +kernel⟩
theorem lm_X9_176 : LkV RX9 176 yX9_sell cX9_sell 4 none 3 9 := ⟨by decide +kernel, by decide +kernel, by decide +kernel, by decide +kernel, by decide +kernel, by decide +kernel, by decide, by decide, _, rfl, rfl⟩
theorem lf_X9_180 : LkF RX9 180 9 34 := ⟨RX9, TX9, 53, tyX9, cfX9, by decide, by decide +kernel⟩
theorem lp_X9_180 (nm : String) : LkP RX9 nm 180 9 34 := ⟨RX9, TX9, 53, tyX9, cfX9, by decide, by decide +kernel, Or.inl rfl⟩
theorem lf_X9_29 : LkF RX9 29 9 6 := ⟨RX9, TX9, 53, tyX9, cfX9, by decide, by decide +kernel⟩
theorem lf_X9_50 : LkF RX9 50 9 13 := ⟨RX9, TX9, 53, tyX9, cfX9, by decide, by decide +kernel⟩
theorem lf_X9_183 : LkF RX9 183 9 24 := ⟨RX9, TX9, 53, tyX9, cfX9, by decide, by decide +kernel⟩
theorem lf_X9_53 : LkF RX9 53 9 14 := ⟨RX9, TX9, 53, tyX9, cfX9, by decide, by decide +kernel⟩
theorem lf_X9_56 : LkF RX9 56 9 15 := ⟨RX9, TX9, 53, tyX9, cfX9, by decide, by decide +kernel⟩
theorem lf_X9_59 : LkF RX9 59 9 16 := ⟨RX9, TX9, 53, tyX9, cfX9, by decide, by decide +kernel⟩
theorem lf_X9_62 : LkF RX9 62 9 17 := ⟨RX9, TX9, 53, tyX9, cfX9, by decide, by decide +kernel⟩
theorem lf_X9_71 : LkF RX9 71 9 20 := ⟨RX9, TX9, 53, tyX9, cfX9, by decide, by decide +kernel⟩
theorem lf_X9_74 : LkF RX9 74 9 21 := ⟨RX9, TX9, 53, tyX9, cfX9, by decide, by decide +kernel⟩
theorem lp_X9_173 (nm : String) : LkP RX9 nm 173 9 27 := ⟨RX9, TX9, 53, tyX9, cfX9, by decide, by decide +kernel, Or.inl rfl⟩
theorem lf_X9_108 : LkF RX9 108 9 42 := ⟨RX9, TX9, 53, tyX9, cfX9, by decide, by decide +kernel⟩
theorem lf_X9_83 : LkF RX9 83 9 29 := ⟨RX9, TX9, 53, tyX9, cfX9, by decide, by decide +kernel⟩
theorem lf_X9_68 : LkF RX9 68 9 19 := ⟨RX9, TX9, 53, tyX9, cfX9, by decide, by decide +kernel⟩
theorem lf_X9_186 : LkF RX9 186 9 32 := ⟨RX9, TX9, 53, tyX9, cfX9, by decide, by decide +kernel⟩
theorem lp_X9_186 (nm : String) : LkP RX9 nm 186 9 32 := ⟨RX9, TX9, 53, tyX9, cfX9, by decide, by decide +kernel, Or.inl rfl⟩
theorem lf_X9_65 : LkF RX9 65 9 18 := ⟨RX9, TX9, 53, tyX9, cfX9, by decide, by decide +kernel⟩
theorem lf_X9_189 : LkF RX9 189 9 31 := ⟨RX9, TX9, 53, tyX9, cfX9, by decide, by decide +kernel⟩
theorem lp_X9_189 (nm : String) : LkP RX9 nm 189 9 31 := ⟨RX9, TX9, 53, tyX9, cfX9, by decide, by decide +kernel, Or.inl rfl⟩
theorem lf_X9_77 : LkF RX9 77 9 22 := ⟨RX9, TX9, 53, tyX9, cfX9, by decide, by decide +kernel⟩
theorem lf_X9_80 : LkF RX9 80 9 23 := ⟨RX9, TX9, 53, tyX9, cfX9, by decide, by decide +kernel⟩
theorem lm_X9_192 : LkV RX9 192 yX9_haul cX9_haul 6 (some .int) 1 9 := ⟨by decide +kernel, by decide +kernel, by decide +kernel, by decide +kernel, by decide +kernel, by decide +kernel, by decide, by decide, _, rfl, rfl⟩
theorem lm_X9_195 : LkV RX9 195 yX9_storm cX9_storm 3 none 0 9 := ⟨by decide +kernel, by decide +kernel, by decide +kernel, by decide +kernel, by decide +kernel, by decide +kernel, by decide, by decide, _, rfl, rfl⟩
theorem lf_X9_198 : LkF RX9 198 9 30 := ⟨RX9, TX9, 53, tyX9, cfX9, by decide, by decide +kernel⟩
theorem lp_X9_198 (nm : String) : LkP RX9 nm 198 9 30 := ⟨RX9, TX9, 53, tyX9, cfX9, by decide, by decide +kernel, Or.inl rfl⟩
theorem lm_X9_201 : LkV RX9 201 yX9_driftAll cX9_driftAll 3 none 0 9 := ⟨by decide +kernel, by decide +kernel, by decide +kernel, by decide +kernel, by decide +kernel, by decide +kernel, by decide, by decide, _, rfl, rfl⟩
theorem lm_X9_204 : LkV RX9 204 yX9_sellAll cX9_sellAll 5 none 0 9 := ⟨by decide +kernel, by decide +kernel, by decide +kernel, by decide +kernel, by decide +kernel, by decide +kernel, by decide, by decide, _, rfl, rfl⟩
theorem lm_X9_207 : LkV RX9 207 yX9_work cX9_work 8 none 2 9 := ⟨by decide +kernel, by decide +kernel, by decide +kernel, by decide +kernel, by decide +kernel, by decide +kernel, by decide, by decide, _, rfl, rfl⟩
theorem lp_X9_183 (nm : String) : LkP RX9 nm 183 9 24 := ⟨RX9, TX9, 53, tyX9, cfX9, by decide, by decide +kernel, Or.inl rfl⟩
theorem lm_X9_211 : LkS RX9 211 yX9_byteOf cX9_byteOf 7 (some .int) 6 := ⟨by decide +kernel, by decide +kernel, by decide +kernel, by decide +kernel, by decide +kernel, by decide⟩
theorem lf_X9_215 : LkF RX9 215 9 47 := ⟨RX9, TX9, 53, tyX9, cfX9, by decide, by decide +kernel⟩
theorem lf_X9_111 : LkF RX9 111 9 43 := ⟨RX9, TX9, 53, tyX9, cfX9, by decide, by decide +kernel⟩
theorem lp_X9_215 (nm : String) : LkP RX9 nm 215 9 47 := ⟨RX9, TX9, 53, tyX9, cfX9, by decide, by decide +kernel, Or.inl rfl⟩
theorem lf_X9_218 : LkF RX9 218 9 48 := ⟨RX9, TX9, 53, tyX9, cfX9, by decide, by decide +kernel⟩
theorem lp_X9_218 (nm : String) : LkP RX9 nm 218 9 48 := ⟨RX9, TX9, 53, tyX9, cfX9, by decide, by decide +kernel, Or.inl rfl⟩
theorem lf_X9_221 : LkF RX9 221 9 49 := ⟨RX9, TX9, 53, tyX9, cfX9, by decide, by decide +kernel⟩
theorem lp_X9_221 (nm : String) : LkP RX9 nm 221 9 49 := ⟨RX9, TX9, 53, tyX9, cfX9, by decide, by decide +kernel, Or.inl rfl⟩
theorem lf_X9_117 : LkF RX9 117 9 45 := ⟨RX9, TX9, 53, tyX9, cfX9, by decide, by decide +kernel⟩
theorem lf_X9_224 : LkF RX9 224 9 51 := ⟨RX9, TX9, 53, tyX9, cfX9, by decide, by decide +kernel⟩
theorem lp_X9_224 (nm : String) : LkP RX9 nm 224 9 51 := ⟨RX9, TX9, 53, tyX9, cfX9, by decide, by decide +kernel, Or.inl rfl⟩
theorem lm_X9_227 : LkV RX9 227 yX9_look cX9_look 1 (some .int) 0 9 := ⟨by decide +kernel, by decide +kernel, by decide +kernel, by decide +kernel, by decide +kernel, by decide +kernel, by decide, by decide, _, rfl, rfl⟩
theorem lf_X9_230 : LkF RX9 230 9 50 := ⟨RX9, TX9, 53, tyX9, cfX9, by decide, by decide +kernel⟩
theorem lp_X9_230 (nm : String) : LkP RX9 nm 230 9 50 := ⟨RX9, TX9, 53, tyX9, cfX9, by decide, by decide +kernel, Or.inl rfl⟩
theorem lm_X9_233 : LkV RX9 233 yX9_whole cX9_whole 1 none 0 9 := ⟨by decide +kernel, by decide +kernel, by decide +kernel, by decide +kernel, by decide +kernel, by decide +kernel, by decide, by decide, _, rfl, rfl⟩
theorem lm_X9_236 : LkV RX9 236 yX9_fail cX9_fail 1 none 0 9 := ⟨by decide +kernel, by decide +kernel, by decide +kernel, by decide +kernel, by decide +kernel, by decide +kernel, by decide, by decide, _, rfl, rfl⟩
theorem lm_X9_239 : LkV RX9 239 yX9_say cX9_say 2 none 1 9 := ⟨by decide +kernel, by decide +kernel, by decide +kernel, by decide +kernel, by decide +kernel, by decide +kernel, by decide, by decide, _, rfl, rfl⟩
theorem lm_X9_243 : LkV RX9 243 yX9_number cX9_number 4 none 0 9 := ⟨by decide +kernel, by decide +kernel, by decide +kernel, by decide +kernel, by decide +kernel, by decide +kernel, by decide, by decide, _, rfl, rfl⟩
theorem lm_X9_246 : LkV RX9 246 yX9_unit cX9_unit 4 none 0 9 := ⟨by decide +kernel, by decide +kernel, by decide +kernel, by decide +kernel, by decide +kernel, by decide +kernel, by decide, by decide, _, rfl, rfl⟩
theorem lm_X9_249 : LkV RX9 249 yX9_part cX9_part 1 none 0 9 := ⟨by decide +kernel, by decide +kernel, by decide +kernel, by decide +kernel, by decide +kernel, by decide +kernel, by decide, by decide, _, rfl, rfl⟩
theorem lm_X9_252 : LkV RX9 252 yX9_fault cX9_fault 1 (some .int) 0 9 := ⟨by decide +kernel, by decide +kernel, by decide +kernel, by decide +kernel, by decide +kernel, by decide +kernel, by decide, by decide, _, rfl, rfl⟩
theorem lf_X9_114 : LkF RX9 114 9 44 := ⟨RX9, TX9, 53, tyX9, cfX9, by decide, by decide +kernel⟩
theorem lf_X9_120 : LkF RX9 120 9 46 := ⟨RX9, TX9, 53, tyX9, cfX9, by decide, by decide +kernel⟩
theorem lm_X9_255 : LkV RX9 255 yX9_value cX9_value 3 (some .int) 2 9 := ⟨by decide +kernel, by decide +kernel, by decide +kernel, by decide +kernel, by decide +kernel, by decide +kernel, by decide, by decide, _, rfl, rfl⟩
theorem lf_X9_123 : LkF RX9 123 9 52 := ⟨RX9, TX9, 53, tyX9, cfX9, by decide, by decide +kernel⟩
theorem lm_X9_258 : LkV RX9 258 yX9_isLot cX9_isLot 2 (some .boolean) 1 9 := ⟨by decide +kernel, by decide +kernel, by decide +kernel, by decide +kernel, by decide +kernel, by decide +kernel, by decide, by decide, _, rfl, rfl⟩
theorem lm_X9_261 : LkV RX9 261 yX9_holds cX9_holds 7 (some .boolean) 2 9 := ⟨by decide +kernel, by decide +kernel, by decide +kernel, by decide +kernel, by decide +kernel, by decide +kernel, by decide, by decide, _, rfl, rfl⟩
theorem lf_X9_35 : LkF RX9 35 9 8 := ⟨RX9, TX9, 53, tyX9, cfX9, by decide, by decide +kernel⟩
theorem lf_X9_38 : LkF RX9 38 9 9 := ⟨RX9, TX9, 53, tyX9, cfX9, by decide, by decide +kernel⟩
theorem lm_X0_3 : LkO RX0 3 := ⟨by decide +kernel, by decide +kernel, by decide +kernel⟩
theorem lp_X0_9 : LkP RX0 "<init>" 9 0 0 := ⟨RX0, TX0, 8, tyX0, cfX0, by decide, by decide +kernel, Or.inr ⟨rfl, rfl, rfl⟩⟩
theorem lp_X0_15 : LkP RX0 "<init>" 15 0 1 := ⟨RX0, TX0, 8, tyX0, cfX0, by decide, by decide +kernel, Or.inr ⟨rfl, rfl, rfl⟩⟩
theorem lp_X0_18 (nm : String) : LkP RX0 nm 18 0 3 := ⟨RX0, TX0, 8, tyX0, cfX0, by decide, by decide +kernel, Or.inl rfl⟩
theorem lp_X0_22 (nm : String) : LkP RX0 nm 22 0 2 := ⟨RX0, TX0, 8, tyX0, cfX0, by decide, by decide +kernel, Or.inl rfl⟩
theorem lf_X0_22 : LkF RX0 22 0 2 := ⟨RX0, TX0, 8, tyX0, cfX0, by decide, by decide +kernel⟩
theorem lf_X0_25 : LkF RX0 25 0 7 := ⟨RX0, TX0, 8, tyX0, cfX0, by decide, by decide +kernel⟩
theorem lp_X0_25 (nm : String) : LkP RX0 nm 25 0 7 := ⟨RX0, TX0, 8, tyX0, cfX0, by decide, by decide +kernel, Or.inl rfl⟩
theorem lf_X0_28 : LkF RX0 28 0 5 := ⟨RX0, TX0, 8, tyX0, cfX0, by decide, by decide +kernel⟩
theorem lp_X0_28 (nm : String) : LkP RX0 nm 28 0 5 := ⟨RX0, TX0, 8, tyX0, cfX0, by decide, by decide +kernel, Or.inl rfl⟩
theorem lf_X0_31 : LkF RX0 31 0 4 := ⟨RX0, TX0, 8, tyX0, cfX0, by decide, by decide +kernel⟩
theorem lp_X0_31 (nm : String) : LkP RX0 nm 31 0 4 := ⟨RX0, TX0, 8, tyX0, cfX0, by decide, by decide +kernel, Or.inl rfl⟩
theorem lm_X1_3 : LkO RX1 3 := ⟨by decide +kernel, by decide +kernel, by decide +kernel⟩
theorem lp_X1_11 (nm : String) : LkP RX1 nm 11 1 0 := ⟨RX1, TX1, 3, tyX1, cfX1, by decide, by decide +kernel, Or.inl rfl⟩
theorem lp_X1_15 (nm : String) : LkP RX1 nm 15 1 1 := ⟨RX1, TX1, 3, tyX1, cfX1, by decide, by decide +kernel, Or.inl rfl⟩
theorem lp_X1_18 (nm : String) : LkP RX1 nm 18 1 2 := ⟨RX1, TX1, 3, tyX1, cfX1, by decide, by decide +kernel, Or.inl rfl⟩
theorem lf_X1_21 : LkF RX1 21 5 1 := ⟨RX5, TX5, 2, tyX5, cfX5, by decide, by decide +kernel⟩
theorem lm_X1_26 : LkV RX1 26 yX5_byteAt cX5_byteAt 2 (some .int) 1 5 := ⟨by decide +kernel, by decide +kernel, by decide +kernel, by decide +kernel, by decide +kernel, by decide +kernel, by decide, by decide, _, rfl, rfl⟩
theorem lm_X1_30 : LkV RX1 30 yX1_takes cX1_takes 2 (some .boolean) 1 1 := ⟨by decide +kernel, by decide +kernel, by decide +kernel, by decide +kernel, by decide +kernel, by decide +kernel, by decide, by decide, _, rfl, rfl⟩
theorem lf_X1_11 : LkF RX1 11 1 0 := ⟨RX1, TX1, 3, tyX1, cfX1, by decide, by decide +kernel⟩
theorem lf_X1_15 : LkF RX1 15 1 1 := ⟨RX1, TX1, 3, tyX1, cfX1, by decide, by decide +kernel⟩
theorem lm_X1_34 : LkV RX1 34 yX1_takesUnit cX1_takesUnit 2 (some .boolean) 1 1 := ⟨by decide +kernel, by decide +kernel, by decide +kernel, by decide +kernel, by decide +kernel, by decide +kernel, by decide, by decide, _, rfl, rfl⟩
theorem lm_X1_37 : LkV RX1 37 yX1_takesSign cX1_takesSign 2 (some .boolean) 1 1 := ⟨by decide +kernel, by decide +kernel, by decide +kernel, by decide +kernel, by decide +kernel, by decide +kernel, by decide, by decide, _, rfl, rfl⟩
theorem lm_X1_40 : LkV RX1 40 yX1_takesFirstDigit cX1_takesFirstDigit 2 (some .boolean) 1 1 := ⟨by decide +kernel, by decide +kernel, by decide +kernel, by decide +kernel, by decide +kernel, by decide +kernel, by decide, by decide, _, rfl, rfl⟩
theorem lm_X1_43 : LkV RX1 43 yX1_takesBehindUnit cX1_takesBehindUnit 2 (some .boolean) 1 1 := ⟨by decide +kernel, by decide +kernel, by decide +kernel, by decide +kernel, by decide +kernel, by decide +kernel, by decide, by decide, _, rfl, rfl⟩
theorem lm_X1_46 : LkS RX1 46 yX1_isDigit cX1_isDigit 1 (some .boolean) 1 := ⟨by decide +kernel, by decide +kernel, by decide +kernel, by decide +kernel, by decide +kernel, by decide⟩
theorem lf_X1_18 : LkF RX1 18 1 2 := ⟨RX1, TX1, 3, tyX1, cfX1, by decide, by decide +kernel⟩
theorem lm_X2_3 : LkO RX2 3 := ⟨by decide +kernel, by decide +kernel, by decide +kernel⟩
theorem lp_X2_9 : LkP RX2 "<init>" 9 2 0 := ⟨RX2, TX2, 11, tyX2, cfX2, by decide, by decide +kernel, Or.inr ⟨rfl, rfl, rfl⟩⟩
theorem lp_X2_15 : LkP RX2 "<init>" 15 2 1 := ⟨RX2, TX2, 11, tyX2, cfX2, by decide, by decide +kernel, Or.inr ⟨rfl, rfl, rfl⟩⟩
theorem lp_X2_18 : LkP RX2 "<init>" 18 2 2 := ⟨RX2, TX2, 11, tyX2, cfX2, by decide, by decide +kernel, Or.inr ⟨rfl, rfl, rfl⟩⟩
theorem lp_X2_21 : LkP RX2 "<init>" 21 2 3 := ⟨RX2, TX2, 11, tyX2, cfX2, by decide, by decide +kernel, Or.inr ⟨rfl, rfl, rfl⟩⟩
theorem lp_X2_24 : LkP RX2 "<init>" 24 2 4 := ⟨RX2, TX2, 11, tyX2, cfX2, by decide, by decide +kernel, Or.inr ⟨rfl, rfl, rfl⟩⟩
theorem lp_X2_27 : LkP RX2 "<init>" 27 2 5 := ⟨RX2, TX2, 11, tyX2, cfX2, by decide, by decide +kernel, Or.inr ⟨rfl, rfl, rfl⟩⟩
theorem lp_X2_30 : LkP RX2 "<init>" 30 2 6 := ⟨RX2, TX2, 11, tyX2, cfX2, by decide, by decide +kernel, Or.inr ⟨rfl, rfl, rfl⟩⟩
theorem lf_X2_33 : LkF RX2 33 2 7 := ⟨RX2, TX2, 11, tyX2, cfX2, by decide, by decide +kernel⟩
theorem lp_X2_33 (nm : String) : LkP RX2 nm 33 2 7 := ⟨RX2, TX2, 11, tyX2, cfX2, by decide, by decide +kernel, Or.inl rfl⟩
theorem lf_X2_36 : LkF RX2 36 2 9 := ⟨RX2, TX2, 11, tyX2, cfX2, by decide, by decide +kernel⟩
theorem lf_X2_27 : LkF RX2 27 2 5 := ⟨RX2, TX2, 11, tyX2, cfX2, by decide, by decide +kernel⟩
theorem lm_X2_39 : LkMmax RX2 39 := ⟨by decide +kernel, by decide +kernel, by decide +kernel, by decide +kernel⟩
theorem lp_X2_36 (nm : String) : LkP RX2 nm 36 2 9 := ⟨RX2, TX2, 11, tyX2, cfX2, by decide, by decide +kernel, Or.inl rfl⟩
theorem lf_X2_45 : LkF RX2 45 2 10 := ⟨RX2, TX2, 11, tyX2, cfX2, by decide, by decide +kernel⟩
theorem lp_X2_45 (nm : String) : LkP RX2 nm 45 2 10 := ⟨RX2, TX2, 11, tyX2, cfX2, by decide, by decide +kernel, Or.inl rfl⟩
theorem lf_X2_48 : LkF RX2 48 2 8 := ⟨RX2, TX2, 11, tyX2, cfX2, by decide, by decide +kernel⟩
theorem lf_X2_9 : LkF RX2 9 2 0 := ⟨RX2, TX2, 11, tyX2, cfX2, by decide, by decide +kernel⟩
theorem lf_X2_30 : LkF RX2 30 2 6 := ⟨RX2, TX2, 11, tyX2, cfX2, by decide, by decide +kernel⟩
theorem lm_X3_3 : LkO RX3 3 := ⟨by decide +kernel, by decide +kernel, by decide +kernel⟩
theorem lp_X3_9 : LkP RX3 "<init>" 9 3 0 := ⟨RX3, TX3, 4, tyX3, cfX3, by decide, by decide +kernel, Or.inr ⟨rfl, rfl, rfl⟩⟩
theorem lp_X3_15 : LkP RX3 "<init>" 15 3 1 := ⟨RX3, TX3, 4, tyX3, cfX3, by decide, by decide +kernel, Or.inr ⟨rfl, rfl, rfl⟩⟩
theorem lp_X3_18 : LkP RX3 "<init>" 18 3 2 := ⟨RX3, TX3, 4, tyX3, cfX3, by decide, by decide +kernel, Or.inr ⟨rfl, rfl, rfl⟩⟩
theorem lp_X3_21 (nm : String) : LkP RX3 nm 21 3 3 := ⟨RX3, TX3, 4, tyX3, cfX3, by decide, by decide +kernel, Or.inl rfl⟩
theorem lf_X3_15 : LkF RX3 15 3 1 := ⟨RX3, TX3, 4, tyX3, cfX3, by decide, by decide +kernel⟩
theorem lf_X3_9 : LkF RX3 9 3 0 := ⟨RX3, TX3, 4, tyX3, cfX3, by decide, by decide +kernel⟩
theorem lf_X3_21 : LkF RX3 21 3 3 := ⟨RX3, TX3, 4, tyX3, cfX3, by decide, by decide +kernel⟩
theorem lf_X3_18 : LkF RX3 18 3 2 := ⟨RX3, TX3, 4, tyX3, cfX3, by decide, by decide +kernel⟩
theorem lm_X3_25 : LkV RX3 25 yX3_greatestRest cX3_greatestRest 3 (some .int) 0 3 := ⟨by decide +kernel, by decide +kernel, by decide +kernel, by decide +kernel, by decide +kernel, by decide +kernel, by decide, by decide, _, rfl, rfl⟩
theorem lm_X4_3 : LkO RX4 3 := ⟨by decide +kernel, by decide +kernel, by decide +kernel⟩
theorem lp_X4_9 : LkP RX4 "<init>" 9 4 0 := ⟨RX4, TX4, 5, tyX4, cfX4, by decide, by decide +kernel, Or.inr ⟨rfl, rfl, rfl⟩⟩
theorem lp_X4_15 : LkP RX4 "<init>" 15 4 1 := ⟨RX4, TX4, 5, tyX4, cfX4, by decide, by decide +kernel, Or.inr ⟨rfl, rfl, rfl⟩⟩
theorem lp_X4_19 : LkP RX4 "<init>" 19 4 2 := ⟨RX4, TX4, 5, tyX4, cfX4, by decide, by decide +kernel, Or.inr ⟨rfl, rfl, rfl⟩⟩
theorem lm_X4_22 : LkS RX4 22 yX4_isCell cX4_isCell 1 (some .boolean) 1 := ⟨by decide +kernel, by decide +kernel, by decide +kernel, by decide +kernel, by decide +kernel, by decide⟩
theorem lf_X4_19 : LkF RX4 19 4 2 := ⟨RX4, TX4, 5, tyX4, cfX4, by decide, by decide +kernel⟩
theorem lf_X4_26 : LkF RX4 26 4 3 := ⟨RX4, TX4, 5, tyX4, cfX4, by decide, by decide +kernel⟩
theorem lm_X4_30 : LkS RX4 30 yX4_nextCell cX4_nextCell 4 (some .int) 2 := ⟨by decide +kernel, by decide +kernel, by decide +kernel, by decide +kernel, by decide +kernel, by decide⟩
theorem lf_X4_9 : LkF RX4 9 4 0 := ⟨RX4, TX4, 5, tyX4, cfX4, by decide, by decide +kernel⟩
theorem lm_X4_34 : LkMmin RX4 34 := ⟨by decide +kernel, by decide +kernel, by decide +kernel, by decide +kernel⟩
theorem lf_X4_39 : LkF RX4 39 4 4 := ⟨RX4, TX4, 5, tyX4, cfX4, by decide, by decide +kernel⟩
theorem lp_X4_39 (nm : String) : LkP RX4 nm 39 4 4 := ⟨RX4, TX4, 5, tyX4, cfX4, by decide, by decide +kernel, Or.inl rfl⟩
theorem lm_X5_3 : LkO RX5 3 := ⟨by decide +kernel, by decide +kernel, by decide +kernel⟩
theorem lp_X5_9 : LkP RX5 "<init>" 9 5 0 := ⟨RX5, TX5, 2, tyX5, cfX5, by decide, by decide +kernel, Or.inr ⟨rfl, rfl, rfl⟩⟩
theorem lf_X5_15 : LkF RX5 15 5 1 := ⟨RX5, TX5, 2, tyX5, cfX5, by decide, by decide +kernel⟩
theorem lf_X5_9 : LkF RX5 9 5 0 := ⟨RX5, TX5, 2, tyX5, cfX5, by decide, by decide +kernel⟩
theorem lp_X5_15 (nm : String) : LkP RX5 nm 15 5 1 := ⟨RX5, TX5, 2, tyX5, cfX5, by decide, by decide +kernel, Or.inl rfl⟩
theorem lm_X5_19 : LkV RX5 19 yX5_byteAt cX5_byteAt 2 (some .int) 1 5 := ⟨by decide +kernel, by decide +kernel, by decide +kernel, by decide +kernel, by decide +kernel, by decide +kernel, by decide, by decide, _, rfl, rfl⟩
theorem lm_X6_1 : LkO RX6 1 := ⟨by decide +kernel, by decide +kernel, by decide +kernel⟩
theorem lp_X6_7 (nm : String) : LkP RX6 nm 7 6 0 := ⟨RX6, TX6, 5, tyX6, cfX6, by decide, by decide +kernel, Or.inl rfl⟩
theorem lp_X6_13 (nm : String) : LkP RX6 nm 13 6 1 := ⟨RX6, TX6, 5, tyX6, cfX6, by decide, by decide +kernel, Or.inl rfl⟩
theorem lp_X6_16 (nm : String) : LkP RX6 nm 16 6 2 := ⟨RX6, TX6, 5, tyX6, cfX6, by decide, by decide +kernel, Or.inl rfl⟩
theorem lf_X6_19 : LkF RX6 19 5 1 := ⟨RX5, TX5, 2, tyX5, cfX5, by decide, by decide +kernel⟩
theorem lm_X6_24 : LkV RX6 24 yX5_byteAt cX5_byteAt 2 (some .int) 1 5 := ⟨by decide +kernel, by decide +kernel, by decide +kernel, by decide +kernel, by decide +kernel, by decide +kernel, by decide, by decide, _, rfl, rfl⟩
theorem lm_X6_28 : LkV RX6 28 yX6_read cX6_read 4 none 3 6 := ⟨by decide +kernel, by decide +kernel, by decide +kernel, by decide +kernel, by decide +kernel, by decide +kernel, by decide, by decide, _, rfl, rfl⟩
theorem lm_X6_32 : LkV RX6 32 yX6_endComparison cX6_endComparison 3 none 2 6 := ⟨by decide +kernel, by decide +kernel, by decide +kernel, by decide +kernel, by decide +kernel, by decide +kernel, by decide, by decide, _, rfl, rfl⟩
theorem lm_X6_36 : LkV RX6 36 yX6_endPart cX6_endPart 1 none 0 6 := ⟨by decide +kernel, by decide +kernel, by decide +kernel, by decide +kernel, by decide +kernel, by decide +kernel, by decide, by decide, _, rfl, rfl⟩
theorem lf_X6_7 : LkF RX6 7 6 0 := ⟨RX6, TX6, 5, tyX6, cfX6, by decide, by decide +kernel⟩
theorem lm_X6_39 : LkS RX6 39 yX1_isDigit cX1_isDigit 1 (some .boolean) 1 := ⟨by decide +kernel, by decide +kernel, by decide +kernel, by decide +kernel, by decide +kernel, by decide⟩
theorem lf_X6_45 : LkF RX6 45 6 4 := ⟨RX6, TX6, 5, tyX6, cfX6, by decide, by decide +kernel⟩
theorem lp_X6_45 (nm : String) : LkP RX6 nm 45 6 4 := ⟨RX6, TX6, 5, tyX6, cfX6, by decide, by decide +kernel, Or.inl rfl⟩
theorem lf_X6_13 : LkF RX6 13 6 1 := ⟨RX6, TX6, 5, tyX6, cfX6, by decide, by decide +kernel⟩
theorem lm_X6_48 : LkV RX6 48 yX6_endBracket cX6_endBracket 2 none 0 6 := ⟨by decide +kernel, by decide +kernel, by decide +kernel, by decide +kernel, by decide +kernel, by decide +kernel, by decide, by decide, _, rfl, rfl⟩
theorem lp_X6_51 (nm : String) : LkP RX6 nm 51 6 3 := ⟨RX6, TX6, 5, tyX6, cfX6, by decide, by decide +kernel, Or.inl rfl⟩
theorem lf_X6_16 : LkF RX6 16 6 2 := ⟨RX6, TX6, 5, tyX6, cfX6, by decide, by decide +kernel⟩
theorem lm_X6_54 : LkV RX6 54 yX2_measure cX2_measure 3 (some .int) 2 2 := ⟨by decide +kernel, by decide +kernel, by decide +kernel, by decide +kernel, by decide +kernel, by decide +kernel, by decide, by decide, _, rfl, rfl⟩
theorem lm_X6_60 : LkV RX6 60 yX6_compares cX6_compares 2 (some .boolean) 1 6 := ⟨by decide +kernel, by decide +kernel, by decide +kernel, by decide +kernel, by decide +kernel, by decide +kernel, by decide, by decide, _, rfl, rfl⟩
theorem lm_X6_63 : LkV RX6 63 yX6_addUnit cX6_addUnit 2 none 1 6 := ⟨by decide +kernel, by decide +kernel, by decide +kernel, by decide +kernel, by decide +kernel, by decide +kernel, by decide, by decide, _, rfl, rfl⟩
theorem lf_X6_51 : LkF RX6 51 6 3 := ⟨RX6, TX6, 5, tyX6, cfX6, by decide, by decide +kernel⟩
theorem lm_X7_3 : LkO RX7 3 := ⟨by decide +kernel, by decide +kernel, by decide +kernel⟩
theorem lp_X7_9 : LkP RX7 "<init>" 9 7 0 := ⟨RX7, TX7, 5, tyX7, cfX7, by decide, by decide +kernel, Or.inr ⟨rfl, rfl, rfl⟩⟩
theorem lm_X7_15 : LkMmin RX7 15 := ⟨by decide +kernel, by decide +kernel, by decide +kernel, by decide +kernel⟩
theorem lp_X7_21 : LkP RX7 "<init>" 21 7 1 := ⟨RX7, TX7, 5, tyX7, cfX7, by decide, by decide +kernel, Or.inr ⟨rfl, rfl, rfl⟩⟩
theorem lp_X7_25 : LkP RX7 "<init>" 25 7 2 := ⟨RX7, TX7, 5, tyX7, cfX7, by decide, by decide +kernel, Or.inr ⟨rfl, rfl, rfl⟩⟩
theorem lf_X7_25 : LkF RX7 25 7 2 := ⟨RX7, TX7, 5, tyX7, cfX7, by decide, by decide +kernel⟩
theorem lp_X7_28 (nm : String) : LkP RX7 nm 28 7 4 := ⟨RX7, TX7, 5, tyX7, cfX7, by decide, by decide +kernel, Or.inl rfl⟩
theorem lf_X7_9 : LkF RX7 9 7 0 := ⟨RX7, TX7, 5, tyX7, cfX7, by decide, by decide +kernel⟩
theorem lf_X7_31 : LkF RX7 31 2 4 := ⟨RX2, TX2, 11, tyX2, cfX2, by decide, by decide +kernel⟩
theorem lm_X7_36 : LkV RX7 36 yX7_firstFreeCrew cX7_firstFreeCrew 3 (some .int) 0 7 := ⟨by decide +kernel, by decide +kernel, by decide +kernel, by decide +kernel, by decide +kernel, by decide +kernel, by decide, by decide, _, rfl, rfl⟩
theorem lf_X7_40 : LkF RX7 40 2 5 := ⟨RX2, TX2, 11, tyX2, cfX2, by decide, by decide +kernel⟩
theorem lm_X7_43 : LkMmax RX7 43 := ⟨by decide +kernel, by decide +kernel, by decide +kernel, by decide +kernel⟩
theorem lm_X7_46 : LkV RX7 46 yX2_cureOne cX2_cureOne 2 none 1 2 := ⟨by decide +kernel, by decide +kernel, by decide +kernel, by decide +kernel, by decide +kernel, by decide +kernel, by decide, by decide, _, rfl, rfl⟩
theorem lf_X7_50 : LkF RX7 50 2 7 := ⟨RX2, TX2, 11, tyX2, cfX2, by decide, by decide +kernel⟩
theorem lp_X7_53 (nm : String) : LkP RX7 nm 53 2 8 := ⟨RX2, TX2, 11, tyX2, cfX2, by decide, by decide +kernel, Or.inl rfl⟩
theorem lf_X7_21 : LkF RX7 21 7 1 := ⟨RX7, TX7, 5, tyX7, cfX7, by decide, by decide +kernel⟩
end
