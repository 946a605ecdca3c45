section
-- ===== PART A: goes FIRST, ahead of the names: the tables' words, and 'selects' of the private methods out of them =====
/-- a private method of a class that the tables say can be made, by its rows of tables_1 -/
def lw_okq (q : MethodName × Nat) : Prop := (q.1.cls ≠ "java/lang/invoke/MethodHandle" ∧ q.1.cls ≠ "java/lang/invoke/VarHandle") ∧ Cond.instantiable q.1.cls q.2 ∈ tables_1 ∧ Cond.privateMethod q.1 ∈ tables_1 ∧ Cond.instanceMethod q.1 ∈ tables_1
theorem lw_p0 : lw_okq (⟨"BoatNames", "textOf", "(I)LBoatNames$Text;"⟩, 11) := ⟨⟨by decide +kernel, by decide +kernel⟩, List.mem_of_getElem? (i := 14) (by decide +kernel), List.mem_of_getElem? (i := 259) (by decide +kernel), List.mem_of_getElem? (i := 260) (by decide +kernel)⟩
theorem lw_p1 : lw_okq (⟨"BoatNames", "hear", "(I)V"⟩, 11) := ⟨⟨by decide +kernel, by decide +kernel⟩, List.mem_of_getElem? (i := 14) (by decide +kernel), List.mem_of_getElem? (i := 271) (by decide +kernel), List.mem_of_getElem? (i := 272) (by decide +kernel)⟩
theorem lw_p2 : lw_okq (⟨"BoatNames$Text", "isHateByte", "(I)Z"⟩, 3) := ⟨⟨by decide +kernel, by decide +kernel⟩, List.mem_of_getElem? (i := 22) (by decide +kernel), List.mem_of_getElem? (i := 283) (by decide +kernel), List.mem_of_getElem? (i := 284) (by decide +kernel)⟩
theorem lw_p3 : lw_okq (⟨"BoatNames$Text", "faultOfEnd", "(I)I"⟩, 3) := ⟨⟨by decide +kernel, by decide +kernel⟩, List.mem_of_getElem? (i := 22) (by decide +kernel), List.mem_of_getElem? (i := 291) (by decide +kernel), List.mem_of_getElem? (i := 292) (by decide +kernel)⟩
theorem lw_p4 : lw_okq (⟨"BoatNames$Text", "isBoatByte", "(I)Z"⟩, 3) := ⟨⟨by decide +kernel, by decide +kernel⟩, List.mem_of_getElem? (i := 22) (by decide +kernel), List.mem_of_getElem? (i := 313) (by decide +kernel), List.mem_of_getElem? (i := 314) (by decide +kernel)⟩
theorem lw_p5 : lw_okq (⟨"BoatNames", "isBoat", "(I)Z"⟩, 11) := ⟨⟨by decide +kernel, by decide +kernel⟩, List.mem_of_getElem? (i := 14) (by decide +kernel), List.mem_of_getElem? (i := 345) (by decide +kernel), List.mem_of_getElem? (i := 346) (by decide +kernel)⟩
theorem lw_p6 : lw_okq (⟨"BoatNames", "find", "(I)I"⟩, 11) := ⟨⟨by decide +kernel, by decide +kernel⟩, List.mem_of_getElem? (i := 14) (by decide +kernel), List.mem_of_getElem? (i := 365) (by decide +kernel), List.mem_of_getElem? (i := 366) (by decide +kernel)⟩
theorem lw_p7 : lw_okq (⟨"BoatNames$Voyage", "storm", "()V"⟩, 12) := ⟨⟨by decide +kernel, by decide +kernel⟩, List.mem_of_getElem? (i := 106) (by decide +kernel), List.mem_of_getElem? (i := 394) (by decide +kernel), List.mem_of_getElem? (i := 395) (by decide +kernel)⟩
theorem lw_p8 : lw_okq (⟨"BoatNames$Voyage", "settle", "(II)V"⟩, 12) := ⟨⟨by decide +kernel, by decide +kernel⟩, List.mem_of_getElem? (i := 106) (by decide +kernel), List.mem_of_getElem? (i := 401) (by decide +kernel), List.mem_of_getElem? (i := 402) (by decide +kernel)⟩
theorem lw_p9 : lw_okq (⟨"BoatNames$Voyage", "launch", "(I)V"⟩, 12) := ⟨⟨by decide +kernel, by decide +kernel⟩, List.mem_of_getElem? (i := 106) (by decide +kernel), List.mem_of_getElem? (i := 405) (by decide +kernel), List.mem_of_getElem? (i := 406) (by decide +kernel)⟩
theorem lw_p10 : lw_okq (⟨"BoatNames$Voyage", "bear", "(II)V"⟩, 12) := ⟨⟨by decide +kernel, by decide +kernel⟩, List.mem_of_getElem? (i := 106) (by decide +kernel), List.mem_of_getElem? (i := 414) (by decide +kernel), List.mem_of_getElem? (i := 415) (by decide +kernel)⟩
theorem lw_p11 : lw_okq (⟨"BoatNames$Voyage", "sink", "(II)V"⟩, 12) := ⟨⟨by decide +kernel, by decide +kernel⟩, List.mem_of_getElem? (i := 106) (by decide +kernel), List.mem_of_getElem? (i := 418) (by decide +kernel), List.mem_of_getElem? (i := 419) (by decide +kernel)⟩
theorem lw_p12 : lw_okq (⟨"BoatNames", "seekWrong", "(I)V"⟩, 11) := ⟨⟨by decide +kernel, by decide +kernel⟩, List.mem_of_getElem? (i := 14) (by decide +kernel), List.mem_of_getElem? (i := 475) (by decide +kernel), List.mem_of_getElem? (i := 476) (by decide +kernel)⟩
theorem lw_p13 : lw_okq (⟨"BoatNames", "seekPay", "(I)V"⟩, 11) := ⟨⟨by decide +kernel, by decide +kernel⟩, List.mem_of_getElem? (i := 14) (by decide +kernel), List.mem_of_getElem? (i := 488) (by decide +kernel), List.mem_of_getElem? (i := 489) (by decide +kernel)⟩
theorem lw_p14 : lw_okq (⟨"BoatNames", "seekWait", "(I)V"⟩, 11) := ⟨⟨by decide +kernel, by decide +kernel⟩, List.mem_of_getElem? (i := 14) (by decide +kernel), List.mem_of_getElem? (i := 496) (by decide +kernel), List.mem_of_getElem? (i := 497) (by decide +kernel)⟩
theorem lw_p15 : lw_okq (⟨"BoatNames", "spareBits", "()I"⟩, 11) := ⟨⟨by decide +kernel, by decide +kernel⟩, List.mem_of_getElem? (i := 14) (by decide +kernel), List.mem_of_getElem? (i := 504) (by decide +kernel), List.mem_of_getElem? (i := 505) (by decide +kernel)⟩
def lw_privs_1 : List (MethodName × Nat) := [(⟨"BoatNames", "textOf", "(I)LBoatNames$Text;"⟩, 11), (⟨"BoatNames", "hear", "(I)V"⟩, 11), (⟨"BoatNames$Text", "isHateByte", "(I)Z"⟩, 3), (⟨"BoatNames$Text", "faultOfEnd", "(I)I"⟩, 3), (⟨"BoatNames$Text", "isBoatByte", "(I)Z"⟩, 3), (⟨"BoatNames", "isBoat", "(I)Z"⟩, 11), (⟨"BoatNames", "find", "(I)I"⟩, 11), (⟨"BoatNames$Voyage", "storm", "()V"⟩, 12), (⟨"BoatNames$Voyage", "settle", "(II)V"⟩, 12), (⟨"BoatNames$Voyage", "launch", "(I)V"⟩, 12), (⟨"BoatNames$Voyage", "bear", "(II)V"⟩, 12), (⟨"BoatNames$Voyage", "sink", "(II)V"⟩, 12), (⟨"BoatNames", "seekWrong", "(I)V"⟩, 11), (⟨"BoatNames", "seekPay", "(I)V"⟩, 11), (⟨"BoatNames", "seekWait", "(I)V"⟩, 11), (⟨"BoatNames", "spareBits", "()I"⟩, 11)]
theorem lw_r1 : ∀ q ∈ lw_privs_1, lw_okq q := List.forall_mem_cons.mpr ⟨lw_p0, List.forall_mem_cons.mpr ⟨lw_p1, List.forall_mem_cons.mpr ⟨lw_p2, List.forall_mem_cons.mpr ⟨lw_p3, List.forall_mem_cons.mpr ⟨lw_p4, List.forall_mem_cons.mpr ⟨lw_p5, List.forall_mem_cons.mpr ⟨lw_p6, List.forall_mem_cons.mpr ⟨lw_p7, List.forall_mem_cons.mpr ⟨lw_p8, List.forall_mem_cons.mpr ⟨lw_p9, List.forall_mem_cons.mpr ⟨lw_p10, List.forall_mem_cons.mpr ⟨lw_p11, List.forall_mem_cons.mpr ⟨lw_p12, List.forall_mem_cons.mpr ⟨lw_p13, List.forall_mem_cons.mpr ⟨lw_p14, List.forall_mem_cons.mpr ⟨lw_p15, fun _ h => absurd h List.not_mem_nil⟩⟩⟩⟩⟩⟩⟩⟩⟩⟩⟩⟩⟩⟩⟩⟩
theorem lw_p16 : lw_okq (⟨"BoatNames", "isSafeWithout", "(I)Z"⟩, 11) := ⟨⟨by decide +kernel, by decide +kernel⟩, List.mem_of_getElem? (i := 14) (by decide +kernel), List.mem_of_getElem? (i := 508) (by decide +kernel), List.mem_of_getElem? (i := 509) (by decide +kernel)⟩
theorem lw_p17 : lw_okq (⟨"BoatNames", "trialComesOutSo", "()Z"⟩, 11) := ⟨⟨by decide +kernel, by decide +kernel⟩, List.mem_of_getElem? (i := 14) (by decide +kernel), List.mem_of_getElem? (i := 537) (by decide +kernel), List.mem_of_getElem? (i := 538) (by decide +kernel)⟩
theorem lw_p18 : lw_okq (⟨"BoatNames", "seekHated", "(II)I"⟩, 11) := ⟨⟨by decide +kernel, by decide +kernel⟩, List.mem_of_getElem? (i := 14) (by decide +kernel), List.mem_of_getElem? (i := 557) (by decide +kernel), List.mem_of_getElem? (i := 558) (by decide +kernel)⟩
theorem lw_p19 : lw_okq (⟨"BoatNames", "weekToAsk", "(I)I"⟩, 11) := ⟨⟨by decide +kernel, by decide +kernel⟩, List.mem_of_getElem? (i := 14) (by decide +kernel), List.mem_of_getElem? (i := 570) (by decide +kernel), List.mem_of_getElem? (i := 571) (by decide +kernel)⟩
theorem lw_p20 : lw_okq (⟨"BoatNames", "greatestGroup", "(II)I"⟩, 11) := ⟨⟨by decide +kernel, by decide +kernel⟩, List.mem_of_getElem? (i := 14) (by decide +kernel), List.mem_of_getElem? (i := 578) (by decide +kernel), List.mem_of_getElem? (i := 579) (by decide +kernel)⟩
theorem lw_p21 : lw_okq (⟨"BoatNames", "weighSunk", "(I)V"⟩, 11) := ⟨⟨by decide +kernel, by decide +kernel⟩, List.mem_of_getElem? (i := 14) (by decide +kernel), List.mem_of_getElem? (i := 588) (by decide +kernel), List.mem_of_getElem? (i := 589) (by decide +kernel)⟩
theorem lw_p22 : lw_okq (⟨"BoatNames", "addWeight", "(J)V"⟩, 11) := ⟨⟨by decide +kernel, by decide +kernel⟩, List.mem_of_getElem? (i := 14) (by decide +kernel), List.mem_of_getElem? (i := 599) (by decide +kernel), List.mem_of_getElem? (i := 600) (by decide +kernel)⟩
theorem lw_p23 : lw_okq (⟨"BoatNames", "chanceAbove", "(I)J"⟩, 11) := ⟨⟨by decide +kernel, by decide +kernel⟩, List.mem_of_getElem? (i := 14) (by decide +kernel), List.mem_of_getElem? (i := 603) (by decide +kernel), List.mem_of_getElem? (i := 604) (by decide +kernel)⟩
theorem lw_p24 : lw_okq (⟨"BoatNames", "sharedHalvings", "(I)I"⟩, 11) := ⟨⟨by decide +kernel, by decide +kernel⟩, List.mem_of_getElem? (i := 14) (by decide +kernel), List.mem_of_getElem? (i := 607) (by decide +kernel), List.mem_of_getElem? (i := 608) (by decide +kernel)⟩
theorem lw_p25 : lw_okq (⟨"BoatNames", "chanceBelow", "(I)J"⟩, 11) := ⟨⟨by decide +kernel, by decide +kernel⟩, List.mem_of_getElem? (i := 14) (by decide +kernel), List.mem_of_getElem? (i := 611) (by decide +kernel), List.mem_of_getElem? (i := 612) (by decide +kernel)⟩
theorem lw_p26 : lw_okq (⟨"BoatNames", "digestBoat", "(JI)J"⟩, 11) := ⟨⟨by decide +kernel, by decide +kernel⟩, List.mem_of_getElem? (i := 14) (by decide +kernel), List.mem_of_getElem? (i := 694) (by decide +kernel), List.mem_of_getElem? (i := 695) (by decide +kernel)⟩
theorem lw_p27 : lw_okq (⟨"BoatNames", "digestWeek", "(JII)J"⟩, 11) := ⟨⟨by decide +kernel, by decide +kernel⟩, List.mem_of_getElem? (i := 14) (by decide +kernel), List.mem_of_getElem? (i := 699) (by decide +kernel), List.mem_of_getElem? (i := 700) (by decide +kernel)⟩
theorem lw_p28 : lw_okq (⟨"BoatNames", "digestPerson", "(JI)J"⟩, 11) := ⟨⟨by decide +kernel, by decide +kernel⟩, List.mem_of_getElem? (i := 14) (by decide +kernel), List.mem_of_getElem? (i := 706) (by decide +kernel), List.mem_of_getElem? (i := 707) (by decide +kernel)⟩
theorem lw_p29 : lw_okq (⟨"BoatNamesModel", "faultOf", "(I)I"⟩, 43) := ⟨⟨by decide +kernel, by decide +kernel⟩, List.mem_of_getElem? (i := 719) (by decide +kernel), List.mem_of_getElem? (i := 878) (by decide +kernel), List.mem_of_getElem? (i := 879) (by decide +kernel)⟩
theorem lw_p30 : lw_okq (⟨"BoatNamesModel", "readsParts", "(I)I"⟩, 43) := ⟨⟨by decide +kernel, by decide +kernel⟩, List.mem_of_getElem? (i := 719) (by decide +kernel), List.mem_of_getElem? (i := 882) (by decide +kernel), List.mem_of_getElem? (i := 883) (by decide +kernel)⟩
theorem lw_p31 : lw_okq (⟨"BoatNamesModel", "readsHate", "(II)I"⟩, 43) := ⟨⟨by decide +kernel, by decide +kernel⟩, List.mem_of_getElem? (i := 719) (by decide +kernel), List.mem_of_getElem? (i := 886) (by decide +kernel), List.mem_of_getElem? (i := 887) (by decide +kernel)⟩
def lw_privs_2 : List (MethodName × Nat) := [(⟨"BoatNames", "isSafeWithout", "(I)Z"⟩, 11), (⟨"BoatNames", "trialComesOutSo", "()Z"⟩, 11), (⟨"BoatNames", "seekHated", "(II)I"⟩, 11), (⟨"BoatNames", "weekToAsk", "(I)I"⟩, 11), (⟨"BoatNames", "greatestGroup", "(II)I"⟩, 11), (⟨"BoatNames", "weighSunk", "(I)V"⟩, 11), (⟨"BoatNames", "addWeight", "(J)V"⟩, 11), (⟨"BoatNames", "chanceAbove", "(I)J"⟩, 11), (⟨"BoatNames", "sharedHalvings", "(I)I"⟩, 11), (⟨"BoatNames", "chanceBelow", "(I)J"⟩, 11), (⟨"BoatNames", "digestBoat", "(JI)J"⟩, 11), (⟨"BoatNames", "digestWeek", "(JII)J"⟩, 11), (⟨"BoatNames", "digestPerson", "(JI)J"⟩, 11), (⟨"BoatNamesModel", "faultOf", "(I)I"⟩, 43), (⟨"BoatNamesModel", "readsParts", "(I)I"⟩, 43), (⟨"BoatNamesModel", "readsHate", "(II)I"⟩, 43)]
theorem lw_r2 : ∀ q ∈ lw_privs_2, lw_okq q := List.forall_mem_cons.mpr ⟨lw_p16, List.forall_mem_cons.mpr ⟨lw_p17, List.forall_mem_cons.mpr ⟨lw_p18, List.forall_mem_cons.mpr ⟨lw_p19, List.forall_mem_cons.mpr ⟨lw_p20, List.forall_mem_cons.mpr ⟨lw_p21, List.forall_mem_cons.mpr ⟨lw_p22, List.forall_mem_cons.mpr ⟨lw_p23, List.forall_mem_cons.mpr ⟨lw_p24, List.forall_mem_cons.mpr ⟨lw_p25, List.forall_mem_cons.mpr ⟨lw_p26, List.forall_mem_cons.mpr ⟨lw_p27, List.forall_mem_cons.mpr ⟨lw_p28, List.forall_mem_cons.mpr ⟨lw_p29, List.forall_mem_cons.mpr ⟨lw_p30, List.forall_mem_cons.mpr ⟨lw_p31, fun _ h => absurd h List.not_mem_nil⟩⟩⟩⟩⟩⟩⟩⟩⟩⟩⟩⟩⟩⟩⟩⟩
theorem lw_p32 : lw_okq (⟨"BoatNamesModel", "byteAt", "(II)I"⟩, 43) := ⟨⟨by decide +kernel, by decide +kernel⟩, List.mem_of_getElem? (i := 719) (by decide +kernel), List.mem_of_getElem? (i := 890) (by decide +kernel), List.mem_of_getElem? (i := 891) (by decide +kernel)⟩
theorem lw_p33 : lw_okq (⟨"BoatNamesModel", "readsBoat", "(II)I"⟩, 43) := ⟨⟨by decide +kernel, by decide +kernel⟩, List.mem_of_getElem? (i := 719) (by decide +kernel), List.mem_of_getElem? (i := 897) (by decide +kernel), List.mem_of_getElem? (i := 898) (by decide +kernel)⟩
theorem lw_p34 : lw_okq (⟨"BoatNamesModel", "toldOf", "(II)I"⟩, 43) := ⟨⟨by decide +kernel, by decide +kernel⟩, List.mem_of_getElem? (i := 719) (by decide +kernel), List.mem_of_getElem? (i := 911) (by decide +kernel), List.mem_of_getElem? (i := 912) (by decide +kernel)⟩
theorem lw_p35 : lw_okq (⟨"BoatNamesModel", "reads", "()V"⟩, 43) := ⟨⟨by decide +kernel, by decide +kernel⟩, List.mem_of_getElem? (i := 719) (by decide +kernel), List.mem_of_getElem? (i := 915) (by decide +kernel), List.mem_of_getElem? (i := 916) (by decide +kernel)⟩
theorem lw_p36 : lw_okq (⟨"BoatNamesModel", "isBoat", "(I)Z"⟩, 43) := ⟨⟨by decide +kernel, by decide +kernel⟩, List.mem_of_getElem? (i := 719) (by decide +kernel), List.mem_of_getElem? (i := 923) (by decide +kernel), List.mem_of_getElem? (i := 924) (by decide +kernel)⟩
theorem lw_p37 : lw_okq (⟨"BoatNamesModel", "boatOf", "(II)I"⟩, 43) := ⟨⟨by decide +kernel, by decide +kernel⟩, List.mem_of_getElem? (i := 719) (by decide +kernel), List.mem_of_getElem? (i := 927) (by decide +kernel), List.mem_of_getElem? (i := 928) (by decide +kernel)⟩
theorem lw_p38 : lw_okq (⟨"BoatNamesModel", "meets", "(I)I"⟩, 43) := ⟨⟨by decide +kernel, by decide +kernel⟩, List.mem_of_getElem? (i := 719) (by decide +kernel), List.mem_of_getElem? (i := 946) (by decide +kernel), List.mem_of_getElem? (i := 947) (by decide +kernel)⟩
theorem lw_p39 : lw_okq (⟨"BoatNamesModel", "hatesOf", "(III)I"⟩, 43) := ⟨⟨by decide +kernel, by decide +kernel⟩, List.mem_of_getElem? (i := 719) (by decide +kernel), List.mem_of_getElem? (i := 955) (by decide +kernel), List.mem_of_getElem? (i := 956) (by decide +kernel)⟩
theorem lw_p40 : lw_okq (⟨"BoatNamesModel", "runsTold", "()V"⟩, 43) := ⟨⟨by decide +kernel, by decide +kernel⟩, List.mem_of_getElem? (i := 719) (by decide +kernel), List.mem_of_getElem? (i := 959) (by decide +kernel), List.mem_of_getElem? (i := 960) (by decide +kernel)⟩
theorem lw_p41 : lw_okq (⟨"BoatNamesModel", "asTold", "()V"⟩, 43) := ⟨⟨by decide +kernel, by decide +kernel⟩, List.mem_of_getElem? (i := 719) (by decide +kernel), List.mem_of_getElem? (i := 963) (by decide +kernel), List.mem_of_getElem? (i := 964) (by decide +kernel)⟩
theorem lw_p42 : lw_okq (⟨"BoatNamesModel", "runs", "()V"⟩, 43) := ⟨⟨by decide +kernel, by decide +kernel⟩, List.mem_of_getElem? (i := 719) (by decide +kernel), List.mem_of_getElem? (i := 967) (by decide +kernel), List.mem_of_getElem? (i := 968) (by decide +kernel)⟩
theorem lw_p43 : lw_okq (⟨"BoatNamesModel", "goesBy", "(I)V"⟩, 43) := ⟨⟨by decide +kernel, by decide +kernel⟩, List.mem_of_getElem? (i := 719) (by decide +kernel), List.mem_of_getElem? (i := 971) (by decide +kernel), List.mem_of_getElem? (i := 972) (by decide +kernel)⟩
theorem lw_p44 : lw_okq (⟨"BoatNamesModel", "befalls", "(I)V"⟩, 43) := ⟨⟨by decide +kernel, by decide +kernel⟩, List.mem_of_getElem? (i := 719) (by decide +kernel), List.mem_of_getElem? (i := 978) (by decide +kernel), List.mem_of_getElem? (i := 979) (by decide +kernel)⟩
theorem lw_p45 : lw_okq (⟨"BoatNamesModel", "storms", "()V"⟩, 43) := ⟨⟨by decide +kernel, by decide +kernel⟩, List.mem_of_getElem? (i := 719) (by decide +kernel), List.mem_of_getElem? (i := 982) (by decide +kernel), List.mem_of_getElem? (i := 983) (by decide +kernel)⟩
theorem lw_p46 : lw_okq (⟨"BoatNamesModel", "shares", "(I)V"⟩, 43) := ⟨⟨by decide +kernel, by decide +kernel⟩, List.mem_of_getElem? (i := 719) (by decide +kernel), List.mem_of_getElem? (i := 986) (by decide +kernel), List.mem_of_getElem? (i := 987) (by decide +kernel)⟩
theorem lw_p47 : lw_okq (⟨"BoatNamesModel", "makesUp", "(I)V"⟩, 43) := ⟨⟨by decide +kernel, by decide +kernel⟩, List.mem_of_getElem? (i := 719) (by decide +kernel), List.mem_of_getElem? (i := 990) (by decide +kernel), List.mem_of_getElem? (i := 991) (by decide +kernel)⟩
def lw_privs_3 : List (MethodName × Nat) := [(⟨"BoatNamesModel", "byteAt", "(II)I"⟩, 43), (⟨"BoatNamesModel", "readsBoat", "(II)I"⟩, 43), (⟨"BoatNamesModel", "toldOf", "(II)I"⟩, 43), (⟨"BoatNamesModel", "reads", "()V"⟩, 43), (⟨"BoatNamesModel", "isBoat", "(I)Z"⟩, 43), (⟨"BoatNamesModel", "boatOf", "(II)I"⟩, 43), (⟨"BoatNamesModel", "meets", "(I)I"⟩, 43), (⟨"BoatNamesModel", "hatesOf", "(III)I"⟩, 43), (⟨"BoatNamesModel", "runsTold", "()V"⟩, 43), (⟨"BoatNamesModel", "asTold", "()V"⟩, 43), (⟨"BoatNamesModel", "runs", "()V"⟩, 43), (⟨"BoatNamesModel", "goesBy", "(I)V"⟩, 43), (⟨"BoatNamesModel", "befalls", "(I)V"⟩, 43), (⟨"BoatNamesModel", "storms", "()V"⟩, 43), (⟨"BoatNamesModel", "shares", "(I)V"⟩, 43), (⟨"BoatNamesModel", "makesUp", "(I)V"⟩, 43)]
theorem lw_r3 : ∀ q ∈ lw_privs_3, lw_okq q := List.forall_mem_cons.mpr ⟨lw_p32, List.forall_mem_cons.mpr ⟨lw_p33, List.forall_mem_cons.mpr ⟨lw_p34, List.forall_mem_cons.mpr ⟨lw_p35, List.forall_mem_cons.mpr ⟨lw_p36, List.forall_mem_cons.mpr ⟨lw_p37, List.forall_mem_cons.mpr ⟨lw_p38, List.forall_mem_cons.mpr ⟨lw_p39, List.forall_mem_cons.mpr ⟨lw_p40, List.forall_mem_cons.mpr ⟨lw_p41, List.forall_mem_cons.mpr ⟨lw_p42, List.forall_mem_cons.mpr ⟨lw_p43, List.forall_mem_cons.mpr ⟨lw_p44, List.forall_mem_cons.mpr ⟨lw_p45, List.forall_mem_cons.mpr ⟨lw_p46, List.forall_mem_cons.mpr ⟨lw_p47, fun _ h => absurd h List.not_mem_nil⟩⟩⟩⟩⟩⟩⟩⟩⟩⟩⟩⟩⟩⟩⟩⟩
theorem lw_p48 : lw_okq (⟨"BoatNamesModel", "launches", "(I)V"⟩, 43) := ⟨⟨by decide +kernel, by decide +kernel⟩, List.mem_of_getElem? (i := 719) (by decide +kernel), List.mem_of_getElem? (i := 994) (by decide +kernel), List.mem_of_getElem? (i := 995) (by decide +kernel)⟩
theorem lw_p49 : lw_okq (⟨"BoatNamesModel", "sails", "(II)V"⟩, 43) := ⟨⟨by decide +kernel, by decide +kernel⟩, List.mem_of_getElem? (i := 719) (by decide +kernel), List.mem_of_getElem? (i := 998) (by decide +kernel), List.mem_of_getElem? (i := 999) (by decide +kernel)⟩
theorem lw_p50 : lw_okq (⟨"BoatNamesModel", "atOf", "(III)I"⟩, 43) := ⟨⟨by decide +kernel, by decide +kernel⟩, List.mem_of_getElem? (i := 719) (by decide +kernel), List.mem_of_getElem? (i := 1006) (by decide +kernel), List.mem_of_getElem? (i := 1007) (by decide +kernel)⟩
theorem lw_p51 : lw_okq (⟨"BoatNamesModel", "afloatOf", "(I)I"⟩, 43) := ⟨⟨by decide +kernel, by decide +kernel⟩, List.mem_of_getElem? (i := 719) (by decide +kernel), List.mem_of_getElem? (i := 1014) (by decide +kernel), List.mem_of_getElem? (i := 1015) (by decide +kernel)⟩
theorem lw_p52 : lw_okq (⟨"BoatNamesModel", "manyAt", "(II)I"⟩, 43) := ⟨⟨by decide +kernel, by decide +kernel⟩, List.mem_of_getElem? (i := 719) (by decide +kernel), List.mem_of_getElem? (i := 1018) (by decide +kernel), List.mem_of_getElem? (i := 1019) (by decide +kernel)⟩
theorem lw_p53 : lw_okq (⟨"BoatNamesModel", "namedOf", "(II)I"⟩, 43) := ⟨⟨by decide +kernel, by decide +kernel⟩, List.mem_of_getElem? (i := 719) (by decide +kernel), List.mem_of_getElem? (i := 1029) (by decide +kernel), List.mem_of_getElem? (i := 1030) (by decide +kernel)⟩
theorem lw_p54 : lw_okq (⟨"BoatNamesModel", "firstOf", "(I)I"⟩, 43) := ⟨⟨by decide +kernel, by decide +kernel⟩, List.mem_of_getElem? (i := 719) (by decide +kernel), List.mem_of_getElem? (i := 1037) (by decide +kernel), List.mem_of_getElem? (i := 1038) (by decide +kernel)⟩
theorem lw_p55 : lw_okq (⟨"BoatNamesModel", "lovedOf", "()I"⟩, 43) := ⟨⟨by decide +kernel, by decide +kernel⟩, List.mem_of_getElem? (i := 719) (by decide +kernel), List.mem_of_getElem? (i := 1045) (by decide +kernel), List.mem_of_getElem? (i := 1046) (by decide +kernel)⟩
theorem lw_p56 : lw_okq (⟨"BoatNamesModel", "bitterOf", "()I"⟩, 43) := ⟨⟨by decide +kernel, by decide +kernel⟩, List.mem_of_getElem? (i := 719) (by decide +kernel), List.mem_of_getElem? (i := 1053) (by decide +kernel), List.mem_of_getElem? (i := 1054) (by decide +kernel)⟩
theorem lw_p57 : lw_okq (⟨"BoatNamesModel", "hatesAll", "(I)I"⟩, 43) := ⟨⟨by decide +kernel, by decide +kernel⟩, List.mem_of_getElem? (i := 719) (by decide +kernel), List.mem_of_getElem? (i := 1057) (by decide +kernel), List.mem_of_getElem? (i := 1058) (by decide +kernel)⟩
theorem lw_p58 : lw_okq (⟨"BoatNamesModel", "longOf", "(I)I"⟩, 43) := ⟨⟨by decide +kernel, by decide +kernel⟩, List.mem_of_getElem? (i := 719) (by decide +kernel), List.mem_of_getElem? (i := 1065) (by decide +kernel), List.mem_of_getElem? (i := 1066) (by decide +kernel)⟩
theorem lw_p59 : lw_okq (⟨"BoatNamesModel", "longNow", "(I)I"⟩, 43) := ⟨⟨by decide +kernel, by decide +kernel⟩, List.mem_of_getElem? (i := 719) (by decide +kernel), List.mem_of_getElem? (i := 1069) (by decide +kernel), List.mem_of_getElem? (i := 1070) (by decide +kernel)⟩
theorem lw_p60 : lw_okq (⟨"BoatNamesModel", "wrongOf", "(II)I"⟩, 43) := ⟨⟨by decide +kernel, by decide +kernel⟩, List.mem_of_getElem? (i := 719) (by decide +kernel), List.mem_of_getElem? (i := 1077) (by decide +kernel), List.mem_of_getElem? (i := 1078) (by decide +kernel)⟩
theorem lw_p61 : lw_okq (⟨"BoatNamesModel", "payOf", "(II)I"⟩, 43) := ⟨⟨by decide +kernel, by decide +kernel⟩, List.mem_of_getElem? (i := 719) (by decide +kernel), List.mem_of_getElem? (i := 1085) (by decide +kernel), List.mem_of_getElem? (i := 1086) (by decide +kernel)⟩
theorem lw_p62 : lw_okq (⟨"BoatNamesModel", "waitsOf", "(II)I"⟩, 43) := ⟨⟨by decide +kernel, by decide +kernel⟩, List.mem_of_getElem? (i := 719) (by decide +kernel), List.mem_of_getElem? (i := 1093) (by decide +kernel), List.mem_of_getElem? (i := 1094) (by decide +kernel)⟩
theorem lw_p63 : lw_okq (⟨"BoatNamesModel", "spareBy", "()I"⟩, 43) := ⟨⟨by decide +kernel, by decide +kernel⟩, List.mem_of_getElem? (i := 719) (by decide +kernel), List.mem_of_getElem? (i := 1101) (by decide +kernel), List.mem_of_getElem? (i := 1102) (by decide +kernel)⟩
def lw_privs_4 : List (MethodName × Nat) := [(⟨"BoatNamesModel", "launches", "(I)V"⟩, 43), (⟨"BoatNamesModel", "sails", "(II)V"⟩, 43), (⟨"BoatNamesModel", "atOf", "(III)I"⟩, 43), (⟨"BoatNamesModel", "afloatOf", "(I)I"⟩, 43), (⟨"BoatNamesModel", "manyAt", "(II)I"⟩, 43), (⟨"BoatNamesModel", "namedOf", "(II)I"⟩, 43), (⟨"BoatNamesModel", "firstOf", "(I)I"⟩, 43), (⟨"BoatNamesModel", "lovedOf", "()I"⟩, 43), (⟨"BoatNamesModel", "bitterOf", "()I"⟩, 43), (⟨"BoatNamesModel", "hatesAll", "(I)I"⟩, 43), (⟨"BoatNamesModel", "longOf", "(I)I"⟩, 43), (⟨"BoatNamesModel", "longNow", "(I)I"⟩, 43), (⟨"BoatNamesModel", "wrongOf", "(II)I"⟩, 43), (⟨"BoatNamesModel", "payOf", "(II)I"⟩, 43), (⟨"BoatNamesModel", "waitsOf", "(II)I"⟩, 43), (⟨"BoatNamesModel", "spareBy", "()I"⟩, 43)]
theorem lw_r4 : ∀ q ∈ lw_privs_4, lw_okq q := List.forall_mem_cons.mpr ⟨lw_p48, List.forall_mem_cons.mpr ⟨lw_p49, List.forall_mem_cons.mpr ⟨lw_p50, List.forall_mem_cons.mpr ⟨lw_p51, List.forall_mem_cons.mpr ⟨lw_p52, List.forall_mem_cons.mpr ⟨lw_p53, List.forall_mem_cons.mpr ⟨lw_p54, List.forall_mem_cons.mpr ⟨lw_p55, List.forall_mem_cons.mpr ⟨lw_p56, List.forall_mem_cons.mpr ⟨lw_p57, List.forall_mem_cons.mpr ⟨lw_p58, List.forall_mem_cons.mpr ⟨lw_p59, List.forall_mem_cons.mpr ⟨lw_p60, List.forall_mem_cons.mpr ⟨lw_p61, List.forall_mem_cons.mpr ⟨lw_p62, List.forall_mem_cons.mpr ⟨lw_p63, fun _ h => absurd h List.not_mem_nil⟩⟩⟩⟩⟩⟩⟩⟩⟩⟩⟩⟩⟩⟩⟩⟩
theorem lw_p64 : lw_okq (⟨"BoatNamesModel", "isSpared", "(I)Z"⟩, 43) := ⟨⟨by decide +kernel, by decide +kernel⟩, List.mem_of_getElem? (i := 719) (by decide +kernel), List.mem_of_getElem? (i := 1105) (by decide +kernel), List.mem_of_getElem? (i := 1106) (by decide +kernel)⟩
theorem lw_p65 : lw_okq (⟨"BoatNamesModel", "ofRow", "(II)I"⟩, 43) := ⟨⟨by decide +kernel, by decide +kernel⟩, List.mem_of_getElem? (i := 719) (by decide +kernel), List.mem_of_getElem? (i := 1109) (by decide +kernel), List.mem_of_getElem? (i := 1110) (by decide +kernel)⟩
theorem lw_p66 : lw_okq (⟨"BoatNamesModel", "neverNow", "()I"⟩, 43) := ⟨⟨by decide +kernel, by decide +kernel⟩, List.mem_of_getElem? (i := 719) (by decide +kernel), List.mem_of_getElem? (i := 1125) (by decide +kernel), List.mem_of_getElem? (i := 1126) (by decide +kernel)⟩
theorem lw_p67 : lw_okq (⟨"BoatNamesModel", "isSeen", "()Z"⟩, 43) := ⟨⟨by decide +kernel, by decide +kernel⟩, List.mem_of_getElem? (i := 719) (by decide +kernel), List.mem_of_getElem? (i := 1129) (by decide +kernel), List.mem_of_getElem? (i := 1130) (by decide +kernel)⟩
theorem lw_p68 : lw_okq (⟨"BoatNamesModel", "sortsBy", "(I)I"⟩, 43) := ⟨⟨by decide +kernel, by decide +kernel⟩, List.mem_of_getElem? (i := 719) (by decide +kernel), List.mem_of_getElem? (i := 1137) (by decide +kernel), List.mem_of_getElem? (i := 1138) (by decide +kernel)⟩
theorem lw_p69 : lw_okq (⟨"BoatNamesModel", "hatedBy", "(II)I"⟩, 43) := ⟨⟨by decide +kernel, by decide +kernel⟩, List.mem_of_getElem? (i := 719) (by decide +kernel), List.mem_of_getElem? (i := 1145) (by decide +kernel), List.mem_of_getElem? (i := 1146) (by decide +kernel)⟩
theorem lw_p70 : lw_okq (⟨"BoatNamesModel", "namesAll", "(I)I"⟩, 43) := ⟨⟨by decide +kernel, by decide +kernel⟩, List.mem_of_getElem? (i := 719) (by decide +kernel), List.mem_of_getElem? (i := 1149) (by decide +kernel), List.mem_of_getElem? (i := 1150) (by decide +kernel)⟩
theorem lw_p71 : lw_okq (⟨"BoatNamesModel", "askOf", "(II)I"⟩, 43) := ⟨⟨by decide +kernel, by decide +kernel⟩, List.mem_of_getElem? (i := 719) (by decide +kernel), List.mem_of_getElem? (i := 1157) (by decide +kernel), List.mem_of_getElem? (i := 1158) (by decide +kernel)⟩
theorem lw_p72 : lw_okq (⟨"BoatNamesModel", "chanceOf", "(III)J"⟩, 43) := ⟨⟨by decide +kernel, by decide +kernel⟩, List.mem_of_getElem? (i := 719) (by decide +kernel), List.mem_of_getElem? (i := 1165) (by decide +kernel), List.mem_of_getElem? (i := 1166) (by decide +kernel)⟩
theorem lw_p73 : lw_okq (⟨"BoatNamesModel", "decadesOf", "(III)I"⟩, 43) := ⟨⟨by decide +kernel, by decide +kernel⟩, List.mem_of_getElem? (i := 719) (by decide +kernel), List.mem_of_getElem? (i := 1180) (by decide +kernel), List.mem_of_getElem? (i := 1181) (by decide +kernel)⟩
theorem lw_p74 : lw_okq (⟨"BoatNamesModel", "lacks", "(III)I"⟩, 43) := ⟨⟨by decide +kernel, by decide +kernel⟩, List.mem_of_getElem? (i := 719) (by decide +kernel), List.mem_of_getElem? (i := 1197) (by decide +kernel), List.mem_of_getElem? (i := 1198) (by decide +kernel)⟩
theorem lw_p75 : lw_okq (⟨"BoatNamesModel", "keep", "(III)V"⟩, 43) := ⟨⟨by decide +kernel, by decide +kernel⟩, List.mem_of_getElem? (i := 719) (by decide +kernel), List.mem_of_getElem? (i := 1201) (by decide +kernel), List.mem_of_getElem? (i := 1202) (by decide +kernel)⟩
theorem lw_p76 : lw_okq (⟨"BoatNamesModel", "sumOf", "(I)I"⟩, 43) := ⟨⟨by decide +kernel, by decide +kernel⟩, List.mem_of_getElem? (i := 719) (by decide +kernel), List.mem_of_getElem? (i := 1222) (by decide +kernel), List.mem_of_getElem? (i := 1223) (by decide +kernel)⟩
theorem lw_p77 : lw_okq (⟨"BoatNamesModel", "boatDigest", "(JI)J"⟩, 43) := ⟨⟨by decide +kernel, by decide +kernel⟩, List.mem_of_getElem? (i := 719) (by decide +kernel), List.mem_of_getElem? (i := 1233) (by decide +kernel), List.mem_of_getElem? (i := 1234) (by decide +kernel)⟩
theorem lw_p78 : lw_okq (⟨"BoatNamesModel", "weekDigest", "(JII)J"⟩, 43) := ⟨⟨by decide +kernel, by decide +kernel⟩, List.mem_of_getElem? (i := 719) (by decide +kernel), List.mem_of_getElem? (i := 1237) (by decide +kernel), List.mem_of_getElem? (i := 1238) (by decide +kernel)⟩
theorem lw_p79 : lw_okq (⟨"BoatNamesModel", "personDigest", "(JI)J"⟩, 43) := ⟨⟨by decide +kernel, by decide +kernel⟩, List.mem_of_getElem? (i := 719) (by decide +kernel), List.mem_of_getElem? (i := 1241) (by decide +kernel), List.mem_of_getElem? (i := 1242) (by decide +kernel)⟩
def lw_privs_5 : List (MethodName × Nat) := [(⟨"BoatNamesModel", "isSpared", "(I)Z"⟩, 43), (⟨"BoatNamesModel", "ofRow", "(II)I"⟩, 43), (⟨"BoatNamesModel", "neverNow", "()I"⟩, 43), (⟨"BoatNamesModel", "isSeen", "()Z"⟩, 43), (⟨"BoatNamesModel", "sortsBy", "(I)I"⟩, 43), (⟨"BoatNamesModel", "hatedBy", "(II)I"⟩, 43), (⟨"BoatNamesModel", "namesAll", "(I)I"⟩, 43), (⟨"BoatNamesModel", "askOf", "(II)I"⟩, 43), (⟨"BoatNamesModel", "chanceOf", "(III)J"⟩, 43), (⟨"BoatNamesModel", "decadesOf", "(III)I"⟩, 43), (⟨"BoatNamesModel", "lacks", "(III)I"⟩, 43), (⟨"BoatNamesModel", "keep", "(III)V"⟩, 43), (⟨"BoatNamesModel", "sumOf", "(I)I"⟩, 43), (⟨"BoatNamesModel", "boatDigest", "(JI)J"⟩, 43), (⟨"BoatNamesModel", "weekDigest", "(JII)J"⟩, 43), (⟨"BoatNamesModel", "personDigest", "(JI)J"⟩, 43)]
theorem lw_r5 : ∀ q ∈ lw_privs_5, lw_okq q := List.forall_mem_cons.mpr ⟨lw_p64, List.forall_mem_cons.mpr ⟨lw_p65, List.forall_mem_cons.mpr ⟨lw_p66, List.forall_mem_cons.mpr ⟨lw_p67, List.forall_mem_cons.mpr ⟨lw_p68, List.forall_mem_cons.mpr ⟨lw_p69, List.forall_mem_cons.mpr ⟨lw_p70, List.forall_mem_cons.mpr ⟨lw_p71, List.forall_mem_cons.mpr ⟨lw_p72, List.forall_mem_cons.mpr ⟨lw_p73, List.forall_mem_cons.mpr ⟨lw_p74, List.forall_mem_cons.mpr ⟨lw_p75, List.forall_mem_cons.mpr ⟨lw_p76, List.forall_mem_cons.mpr ⟨lw_p77, List.forall_mem_cons.mpr ⟨lw_p78, List.forall_mem_cons.mpr ⟨lw_p79, fun _ h => absurd h List.not_mem_nil⟩⟩⟩⟩⟩⟩⟩⟩⟩⟩⟩⟩⟩⟩⟩⟩
def lw_privs : List (MethodName × Nat) := lw_privs_1 ++ (lw_privs_2 ++ (lw_privs_3 ++ (lw_privs_4 ++ (lw_privs_5))))
def lw_tbl : List Cond := k2_sels lw_privs ++ tables_1
theorem lw_privs_ok : ∀ q ∈ lw_privs, lw_okq q := by
  show ∀ q ∈ lw_privs_1 ++ (lw_privs_2 ++ (lw_privs_3 ++ (lw_privs_4 ++ (lw_privs_5)))), lw_okq q
  exact List.forall_mem_append.mpr ⟨lw_r1, List.forall_mem_append.mpr ⟨lw_r2, List.forall_mem_append.mpr ⟨lw_r3, List.forall_mem_append.mpr ⟨lw_r4, lw_r5⟩⟩⟩⟩
end
section
/-! names of classes, their fields, methods; links -/
def tX0 : u_T := fun k => match k with
  | 0 => ("BoatNames$Best", "which", "I", false)
  | _ => ("BoatNames$Best", "score", "I", false)
def yX0 : Nat → FieldType := fun k => match k with
  | 0 => .int
  | _ => .int
theorem nX0 : ∀ a, a < 2 → ∀ b, b < 2 → a ≠ b → (tX0 a).2.1 ≠ (tX0 b).2.1 := by decide +kernel
theorem yX0_ok : ∀ k, k < 2 → parseFieldDescriptor (tX0 k).2.2.1 = some (yX0 k) := by decide +kernel
theorem iX0 : ∀ w ∈ u_ws "BoatNames$Best" tX0 2, w ∈ tables_1 := by decide +kernel
def tX1 : u_T := fun k => match k with
  | 0 => ("BoatNames$Sheet", "items", "[I", true)
  | 1 => ("BoatNames$Sheet", "form", "I", false)
  | 2 => ("BoatNames$Sheet", "size", "I", false)
  | _ => ("BoatNames$Sheet", "lost", "Z", false)
def yX1 : Nat → FieldType := fun k => match k with
  | 0 => .array .int
  | 1 => .int
  | 2 => .int
  | _ => .boolean
theorem nX1 : ∀ a, a < 4 → ∀ b, b < 4 → a ≠ b → (tX1 a).2.1 ≠ (tX1 b).2.1 := by decide +kernel
theorem yX1_ok : ∀ k, k < 4 → parseFieldDescriptor (tX1 k).2.2.1 = some (yX1 k) := by decide +kernel
theorem iX1 : ∀ w ∈ u_ws "BoatNames$Sheet" tX1 4, w ∈ tables_1 := by decide +kernel
def tX2 : u_T := fun k => match k with
  | 0 => ("BoatNames$Sightings", "weeks", "[I", true)
  | 1 => ("BoatNames$Sightings", "boats", "[I", true)
  | 2 => ("BoatNames$Sightings", "people", "[I", true)
  | _ => ("BoatNames$Sightings", "size", "I", false)
def yX2 : Nat → FieldType := fun k => match k with
  | 0 => .array .int
  | 1 => .array .int
  | 2 => .array .int
  | _ => .int
theorem nX2 : ∀ a, a < 4 → ∀ b, b < 4 → a ≠ b → (tX2 a).2.1 ≠ (tX2 b).2.1 := by decide +kernel
theorem yX2_ok : ∀ k, k < 4 → parseFieldDescriptor (tX2 k).2.2.1 = some (yX2 k) := by decide +kernel
theorem iX2 : ∀ w ∈ u_ws "BoatNames$Sightings" tX2 4, w ∈ tables_1 := by decide +kernel
def tX3 : u_T := fun k => match k with
  | 0 => ("BoatNames$Telling", "hate", "[I", true)
  | 1 => ("BoatNames$Telling", "hates", "I", false)
  | 2 => ("BoatNames$Telling", "sorts", "[I", true)
  | 3 => ("BoatNames$Telling", "builders", "[I", true)
  | 4 => ("BoatNames$Telling", "launches", "[I", true)
  | 5 => ("BoatNames$Telling", "strengths", "[I", true)
  | 6 => ("BoatNames$Telling", "boats", "I", false)
  | 7 => ("BoatNames$Telling", "kinds", "[I", true)
  | 8 => ("BoatNames$Telling", "weeks", "[I", true)
  | 9 => ("BoatNames$Telling", "eventBoats", "[I", true)
  | 10 => ("BoatNames$Telling", "events", "I", false)
  | _ => ("BoatNames$Telling", "leftOut", "I", false)
def yX3 : Nat → FieldType := fun k => match k with
  | 0 => .array .int
  | 1 => .int
  | 2 => .array .int
  | 3 => .array .int
  | 4 => .array .int
  | 5 => .array .int
  | 6 => .int
  | 7 => .array .int
  | 8 => .array .int
  | 9 => .array .int
  | 10 => .int
  | _ => .int
theorem nX3 : ∀ a, a < 12 → ∀ b, b < 12 → a ≠ b → (tX3 a).2.1 ≠ (tX3 b).2.1 := by decide +kernel
theorem yX3_ok : ∀ k, k < 12 → parseFieldDescriptor (tX3 k).2.2.1 = some (yX3 k) := by decide +kernel
theorem iX3 : ∀ w ∈ u_ws "BoatNames$Telling" tX3 12, w ∈ tables_1 := by decide +kernel
def tX4 : u_T := fun k => match k with
  | 0 => ("BoatNames$Text", "bytes", "[I", true)
  | 1 => ("BoatNames$Text", "size", "I", false)
  | _ => ("BoatNames$Text", "fault", "I", false)
def yX4 : Nat → FieldType := fun k => match k with
  | 0 => .array .int
  | 1 => .int
  | _ => .int
theorem nX4 : ∀ a, a < 3 → ∀ b, b < 3 → a ≠ b → (tX4 a).2.1 ≠ (tX4 b).2.1 := by decide +kernel
theorem yX4_ok : ∀ k, k < 3 → parseFieldDescriptor (tX4 k).2.2.1 = some (yX4 k) := by decide +kernel
theorem iX4 : ∀ w ∈ u_ws "BoatNames$Text" tX4 3, w ∈ tables_1 := by decide +kernel
def tX5 : u_T := fun k => match k with
  | 0 => ("BoatNames$Voyage", "telling", "LBoatNames$Telling;", false)
  | 1 => ("BoatNames$Voyage", "hate", "[I", true)
  | 2 => ("BoatNames$Voyage", "states", "[I", true)
  | 3 => ("BoatNames$Voyage", "names", "[I", true)
  | 4 => ("BoatNames$Voyage", "grudges", "[I", true)
  | 5 => ("BoatNames$Voyage", "strengths", "[I", true)
  | 6 => ("BoatNames$Voyage", "weeksAtSea", "[I", true)
  | 7 => ("BoatNames$Voyage", "spites", "[I", true)
  | 8 => ("BoatNames$Voyage", "returns", "[I", true)
  | 9 => ("BoatNames$Voyage", "boatsLeft", "I", false)
  | 10 => ("BoatNames$Voyage", "firstWeek", "I", false)
  | _ => ("BoatNames$Voyage", "firstBoat", "I", false)
def yX5 : Nat → FieldType := fun k => match k with
  | 0 => .object "BoatNames$Telling"
  | 1 => .array .int
  | 2 => .array .int
  | 3 => .array .int
  | 4 => .array .int
  | 5 => .array .int
  | 6 => .array .int
  | 7 => .array .int
  | 8 => .array .int
  | 9 => .int
  | 10 => .int
  | _ => .int
theorem nX5 : ∀ a, a < 12 → ∀ b, b < 12 → a ≠ b → (tX5 a).2.1 ≠ (tX5 b).2.1 := by decide +kernel
theorem yX5_ok : ∀ k, k < 12 → parseFieldDescriptor (tX5 k).2.2.1 = some (yX5 k) := by decide +kernel
theorem iX5 : ∀ w ∈ u_ws "BoatNames$Voyage" tX5 12, w ∈ tables_1 := by decide +kernel
def tX6 : u_T := fun k => match k with
  | 0 => ("BoatNames", "hatesText", "LBoatNames$Text;", true)
  | 1 => ("BoatNames", "boatsText", "LBoatNames$Text;", true)
  | 2 => ("BoatNames", "told", "LBoatNames$Telling;", true)
  | 3 => ("BoatNames", "trial", "LBoatNames$Telling;", true)
  | 4 => ("BoatNames", "voyage", "LBoatNames$Voyage;", true)
  | 5 => ("BoatNames", "sightings", "LBoatNames$Sightings;", true)
  | 6 => ("BoatNames", "best", "LBoatNames$Best;", true)
  | 7 => ("BoatNames", "sheets", "[LBoatNames$Sheet;", true)
  | 8 => ("BoatNames", "sunkWeights", "[J", true)
  | 9 => ("BoatNames", "nameRows", "[I", true)
  | _ => ("BoatNames", "finding", "I", false)
def yX6 : Nat → FieldType := fun k => match k with
  | 0 => .object "BoatNames$Text"
  | 1 => .object "BoatNames$Text"
  | 2 => .object "BoatNames$Telling"
  | 3 => .object "BoatNames$Telling"
  | 4 => .object "BoatNames$Voyage"
  | 5 => .object "BoatNames$Sightings"
  | 6 => .object "BoatNames$Best"
  | 7 => .array (.object "BoatNames$Sheet")
  | 8 => .array .long
  | 9 => .array .int
  | _ => .int
theorem nX6 : ∀ a, a < 11 → ∀ b, b < 11 → a ≠ b → (tX6 a).2.1 ≠ (tX6 b).2.1 := by decide +kernel
theorem yX6_ok : ∀ k, k < 11 → parseFieldDescriptor (tX6 k).2.2.1 = some (yX6 k) := by decide +kernel
theorem iX6 : ∀ w ∈ u_ws "BoatNames" tX6 11, w ∈ tables_1 := by decide +kernel
def tX7 : u_T := fun k => match k with
  | 0 => ("BoatNamesModel", "typed", "[I", true)
  | 1 => ("BoatNamesModel", "texts", "[I", true)
  | 2 => ("BoatNamesModel", "hatesTold", "I", false)
  | 3 => ("BoatNamesModel", "hateRow", "[I", true)
  | 4 => ("BoatNamesModel", "hateTold", "[I", true)
  | 5 => ("BoatNamesModel", "boats", "I", false)
  | 6 => ("BoatNamesModel", "sorts", "[I", true)
  | 7 => ("BoatNamesModel", "builders", "[I", true)
  | 8 => ("BoatNamesModel", "weeks", "[I", true)
  | 9 => ("BoatNamesModel", "strengths", "[I", true)
  | 10 => ("BoatNamesModel", "events", "I", false)
  | 11 => ("BoatNamesModel", "eventKind", "[I", true)
  | 12 => ("BoatNamesModel", "eventWeek", "[I", true)
  | 13 => ("BoatNamesModel", "eventBoat", "[I", true)
  | 14 => ("BoatNamesModel", "eventsNow", "I", false)
  | 15 => ("BoatNamesModel", "kindNow", "[I", true)
  | 16 => ("BoatNamesModel", "weekNow", "[I", true)
  | 17 => ("BoatNamesModel", "boatNow", "[I", true)
  | 18 => ("BoatNamesModel", "notEvents", "I", false)
  | 19 => ("BoatNamesModel", "hate", "[I", true)
  | 20 => ("BoatNamesModel", "is", "[I", true)
  | 21 => ("BoatNamesModel", "names", "[I", true)
  | 22 => ("BoatNamesModel", "grudges", "[I", true)
  | 23 => ("BoatNamesModel", "holds", "[I", true)
  | 24 => ("BoatNamesModel", "firstWeek", "I", false)
  | 25 => ("BoatNamesModel", "firstBoat", "I", false)
  | 26 => ("BoatNamesModel", "isAt", "[I", true)
  | 27 => ("BoatNamesModel", "nameAt", "[I", true)
  | 28 => ("BoatNamesModel", "grudgeAt", "[I", true)
  | 29 => ("BoatNamesModel", "holdAt", "[I", true)
  | 30 => ("BoatNamesModel", "hateAt", "[I", true)
  | 31 => ("BoatNamesModel", "planRow", "[I", true)
  | 32 => ("BoatNamesModel", "seens", "I", false)
  | 33 => ("BoatNamesModel", "seenWeek", "[I", true)
  | 34 => ("BoatNamesModel", "seenBoat", "[I", true)
  | 35 => ("BoatNamesModel", "seenName", "[I", true)
  | 36 => ("BoatNamesModel", "namesBy", "[I", true)
  | 37 => ("BoatNamesModel", "isThere", "[Z", true)
  | 38 => ("BoatNamesModel", "forms", "[I", true)
  | 39 => ("BoatNamesModel", "sizes", "[I", true)
  | 40 => ("BoatNamesModel", "items", "[I", true)
  | 41 => ("BoatNamesModel", "moved", "[I", true)
  | _ => ("BoatNamesModel", "finding", "I", false)
def yX7 : Nat → FieldType := fun k => match k with
  | 0 => .array .int
  | 1 => .array .int
  | 2 => .int
  | 3 => .array .int
  | 4 => .array .int
  | 5 => .int
  | 6 => .array .int
  | 7 => .array .int
  | 8 => .array .int
  | 9 => .array .int
  | 10 => .int
  | 11 => .array .int
  | 12 => .array .int
  | 13 => .array .int
  | 14 => .int
  | 15 => .array .int
  | 16 => .array .int
  | 17 => .array .int
  | 18 => .int
  | 19 => .array .int
  | 20 => .array .int
  | 21 => .array .int
  | 22 => .array .int
  | 23 => .array .int
  | 24 => .int
  | 25 => .int
  | 26 => .array .int
  | 27 => .array .int
  | 28 => .array .int
  | 29 => .array .int
  | 30 => .array .int
  | 31 => .array .int
  | 32 => .int
  | 33 => .array .int
  | 34 => .array .int
  | 35 => .array .int
  | 36 => .array .int
  | 37 => .array .boolean
  | 38 => .array .int
  | 39 => .array .int
  | 40 => .array .int
  | 41 => .array .int
  | _ => .int
theorem nX7 : ∀ a, a < 43 → ∀ b, b < 43 → a ≠ b → (tX7 a).2.1 ≠ (tX7 b).2.1 := by decide +kernel
theorem yX7_ok : ∀ k, k < 43 → parseFieldDescriptor (tX7 k).2.2.1 = some (yX7 k) := by decide +kernel
theorem iX7 : ∀ w ∈ u_ws "BoatNamesModel" tX7 43, w ∈ tables_1 := by decide +kernel
abbrev clss : List vw_C := [("BoatNames$Best", tX0, 2), ("BoatNames$Sheet", tX1, 4), ("BoatNames$Sightings", tX2, 4), ("BoatNames$Telling", tX3, 12), ("BoatNames$Text", tX4, 3), ("BoatNames$Voyage", tX5, 12), ("BoatNames", tX6, 11), ("BoatNamesModel", tX7, 43)]
def cnm : List String := ["BoatNames$Best", "BoatNames$Sheet", "BoatNames$Sightings", "BoatNames$Telling", "BoatNames$Text", "BoatNames$Voyage", "BoatNames", "BoatNamesModel", "BoatNamesLaw", "java/lang/Integer", "java/lang/Math", "java/util/Arrays"]
/-- field links: per class (index, class, slot) -/
def ftb : List (List (Nat × Nat × Nat)) := [
  [(9, 0, 0), (15, 0, 1)],
  [(9, 1, 0), (15, 1, 1), (19, 1, 2), (22, 1, 3)],
  [(31, 3, 6), (25, 5, 0), (9, 2, 0), (15, 2, 1), (18, 2, 2), (21, 2, 3)],
  [(83, 4, 0), (69, 4, 1), (66, 4, 2), (9, 3, 0), (15, 3, 1), (19, 3, 2), (22, 3, 3), (25, 3, 4), (28, 3, 5), (31, 3, 6), (34, 3, 7), (37, 3, 8), (40, 3, 9), (43, 3, 10), (46, 3, 11)],
  [(9, 4, 0), (15, 4, 1), (19, 4, 2)],
  [(58, 3, 0), (106, 3, 2), (115, 3, 3), (97, 3, 4), (67, 3, 5), (74, 3, 6), (84, 3, 7), (90, 3, 9), (77, 3, 10), (9, 5, 0), (15, 5, 1), (19, 5, 2), (22, 5, 3), (25, 5, 4), (28, 5, 5), (31, 5, 6), (34, 5, 7), (37, 5, 8), (40, 5, 9), (44, 5, 10), (47, 5, 11)],
  [(91, 4, 1), (94, 4, 2), (100, 3, 0), (285, 3, 1), (111, 3, 2), (114, 3, 3), (117, 3, 4), (120, 3, 5), (288, 3, 6), (123, 3, 10), (223, 3, 11), (150, 5, 1), (151, 5, 2), (154, 5, 3), (157, 5, 4), (160, 5, 5), (190, 5, 6), (168, 5, 10), (171, 5, 11), (217, 2, 3), (187, 0, 0), (196, 0, 1), (139, 1, 0), (262, 1, 1), (138, 1, 2), (130, 1, 3), (14, 6, 0), (18, 6, 1), (24, 6, 2), (28, 6, 3), (36, 6, 4), (43, 6, 5), (50, 6, 6), (56, 6, 7), (61, 6, 8), (65, 6, 9), (69, 6, 10)],
  [(7, 7, 0), (13, 7, 1), (133, 7, 2), (16, 7, 3), (19, 7, 4), (137, 7, 5), (22, 7, 6), (25, 7, 7), (28, 7, 8), (31, 7, 9), (169, 7, 10), (34, 7, 11), (37, 7, 12), (40, 7, 13), (182, 7, 14), (43, 7, 15), (46, 7, 16), (49, 7, 17), (185, 7, 18), (52, 7, 19), (55, 7, 20), (58, 7, 21), (61, 7, 22), (64, 7, 23), (198, 7, 24), (201, 7, 25), (67, 7, 26), (70, 7, 27), (73, 7, 28), (76, 7, 29), (79, 7, 30), (82, 7, 31), (284, 7, 32), (85, 7, 33), (88, 7, 34), (91, 7, 35), (94, 7, 36), (97, 7, 37), (101, 7, 38), (104, 7, 39), (107, 7, 40), (110, 7, 41), (322, 7, 42)],
  [],
  [],
  [],
  []
  ]
def fld (o i : Nat) : Option (Nat × Nat) := match ftb[o]? with
  | some l => l.lookup i
  | none => none
def fpl : List (List Nat) := [[183, 185], [199, 201, 203, 205], [67, 112, 163, 164, 165, 166], [28, 31, 33, 49, 52, 54, 57, 60, 63, 66, 70, 72, 73, 75, 78], [27, 29, 32], [50, 55, 58, 61, 64, 68, 71, 74, 76, 111, 113, 115, 117, 119, 121, 123, 125, 126, 127, 128, 130], [30, 34, 51, 53, 56, 59, 62, 65, 69, 77, 79, 114, 116, 118, 120, 122, 124, 129, 131, 167, 184, 186, 200, 202, 204, 206, 216, 217, 218, 219, 220, 221, 222, 223, 224, 225, 226], [724, 725, 726, 727, 728, 729, 730, 731, 732, 733, 734, 735, 736, 737, 738, 739, 740, 741, 742, 743, 744, 745, 746, 747, 748, 749, 750, 751, 752, 753, 754, 755, 756, 757, 758, 759, 760, 761, 762, 763, 764, 765, 766], [], [], [], []]
def fchk (own : String) (e : Nat × Nat × Nat) (n : Nat) : Bool := match clss[e.2.1]? with
  | some q => decide (e.2.2 < q.2.2) && decide (tables_1[n]? = some (Cond.fieldLink own e.1 (q.2.1 e.2.2).1 (q.2.1 e.2.2).2.1 (q.2.1 e.2.2).2.2.1))
  | none => false
def fchl (own : String) : List (Nat × Nat × Nat) → List Nat → Bool
  | [], [] => true
  | e :: l, n :: r => fchk own e n && fchl own l r
  | _, _ => false
theorem fck0 : fchl "BoatNames$Best" [(9, 0, 0), (15, 0, 1)] [183, 185] = true := by decide +kernel
theorem fck1 : fchl "BoatNames$Sheet" [(9, 1, 0), (15, 1, 1), (19, 1, 2), (22, 1, 3)] [199, 201, 203, 205] = true := by decide +kernel
theorem fck2 : fchl "BoatNames$Sightings" [(31, 3, 6), (25, 5, 0), (9, 2, 0), (15, 2, 1), (18, 2, 2), (21, 2, 3)] [67, 112, 163, 164, 165, 166] = true := by decide +kernel
theorem fck3 : fchl "BoatNames$Telling" [(83, 4, 0), (69, 4, 1), (66, 4, 2), (9, 3, 0), (15, 3, 1), (19, 3, 2), (22, 3, 3), (25, 3, 4), (28, 3, 5), (31, 3, 6), (34, 3, 7), (37, 3, 8), (40, 3, 9), (43, 3, 10), (46, 3, 11)] [28, 31, 33, 49, 52, 54, 57, 60, 63, 66, 70, 72, 73, 75, 78] = true := by decide +kernel
theorem fck4 : fchl "BoatNames$Text" [(9, 4, 0), (15, 4, 1), (19, 4, 2)] [27, 29, 32] = true := by decide +kernel
theorem fck5 : fchl "BoatNames$Voyage" [(58, 3, 0), (106, 3, 2), (115, 3, 3), (97, 3, 4), (67, 3, 5), (74, 3, 6), (84, 3, 7), (90, 3, 9), (77, 3, 10), (9, 5, 0), (15, 5, 1), (19, 5, 2), (22, 5, 3), (25, 5, 4), (28, 5, 5), (31, 5, 6), (34, 5, 7), (37, 5, 8), (40, 5, 9), (44, 5, 10), (47, 5, 11)] [50, 55, 58, 61, 64, 68, 71, 74, 76, 111, 113, 115, 117, 119, 121, 123, 125, 126, 127, 128, 130] = true := by decide +kernel
theorem fck6 : fchl "BoatNames" [(91, 4, 1), (94, 4, 2), (100, 3, 0), (285, 3, 1), (111, 3, 2), (114, 3, 3), (117, 3, 4), (120, 3, 5), (288, 3, 6), (123, 3, 10), (223, 3, 11), (150, 5, 1), (151, 5, 2), (154, 5, 3), (157, 5, 4), (160, 5, 5), (190, 5, 6), (168, 5, 10), (171, 5, 11), (217, 2, 3), (187, 0, 0), (196, 0, 1), (139, 1, 0), (262, 1, 1), (138, 1, 2), (130, 1, 3), (14, 6, 0), (18, 6, 1), (24, 6, 2), (28, 6, 3), (36, 6, 4), (43, 6, 5), (50, 6, 6), (56, 6, 7), (61, 6, 8), (65, 6, 9), (69, 6, 10)] [30, 34, 51, 53, 56, 59, 62, 65, 69, 77, 79, 114, 116, 118, 120, 122, 124, 129, 131, 167, 184, 186, 200, 202, 204, 206, 216, 217, 218, 219, 220, 221, 222, 223, 224, 225, 226] = true := by decide +kernel
theorem fck7 : fchl "BoatNamesModel" [(7, 7, 0), (13, 7, 1), (133, 7, 2), (16, 7, 3), (19, 7, 4), (137, 7, 5), (22, 7, 6), (25, 7, 7), (28, 7, 8), (31, 7, 9), (169, 7, 10), (34, 7, 11), (37, 7, 12), (40, 7, 13), (182, 7, 14), (43, 7, 15), (46, 7, 16), (49, 7, 17), (185, 7, 18), (52, 7, 19), (55, 7, 20), (58, 7, 21), (61, 7, 22), (64, 7, 23), (198, 7, 24), (201, 7, 25), (67, 7, 26), (70, 7, 27), (73, 7, 28), (76, 7, 29), (79, 7, 30), (82, 7, 31), (284, 7, 32), (85, 7, 33), (88, 7, 34), (91, 7, 35), (94, 7, 36), (97, 7, 37), (101, 7, 38), (104, 7, 39), (107, 7, 40), (110, 7, 41), (322, 7, 42)] [724, 725, 726, 727, 728, 729, 730, 731, 732, 733, 734, 735, 736, 737, 738, 739, 740, 741, 742, 743, 744, 745, 746, 747, 748, 749, 750, 751, 752, 753, 754, 755, 756, 757, 758, 759, 760, 761, 762, 763, 764, 765, 766] = true := by decide +kernel
def kon (o i : Nat) : Option Int32 := List.lookup (1000 * o + i) [(9265, 1431655765), (9266, 858993459), (9267, 252645135), (3096, 1103515245), (6261, (-2147483648)), (7318, 1103515245), (7332, (-2147483648))]
def kol (o i : Nat) : Option Int64 := List.lookup (1000 * o + i) [(6237, (-9223372036854775806)), (6294, 17), (6296, 31), (7113, (-9223372036854775808)), (7342, 17), (7336, 31)]
theorem kck_9_265 : Cond.constant "java/lang/Integer" 265 1431655765 ∈ tables_1 := List.mem_of_getElem? (i := 514) (by decide +kernel)
theorem kck_9_266 : Cond.constant "java/lang/Integer" 266 858993459 ∈ tables_1 := List.mem_of_getElem? (i := 515) (by decide +kernel)
theorem kck_9_267 : Cond.constant "java/lang/Integer" 267 252645135 ∈ tables_1 := List.mem_of_getElem? (i := 516) (by decide +kernel)
theorem kck_3_96 : Cond.constant "BoatNames$Telling" 96 1103515245 ∈ tables_1 := List.mem_of_getElem? (i := 625) (by decide +kernel)
theorem kck_6_261 : Cond.constant "BoatNames" 261 (-2147483648) ∈ tables_1 := List.mem_of_getElem? (i := 657) (by decide +kernel)
theorem kck_7_318 : Cond.constant "BoatNamesModel" 318 1103515245 ∈ tables_1 := List.mem_of_getElem? (i := 1183) (by decide +kernel)
theorem kck_7_332 : Cond.constant "BoatNamesModel" 332 (-2147483648) ∈ tables_1 := List.mem_of_getElem? (i := 1208) (by decide +kernel)
theorem kcl_6_237 : Cond.constantLong "BoatNames" 237 (-9223372036854775806) ∈ tables_1 := List.mem_of_getElem? (i := 586) (by decide +kernel)
theorem kcl_6_294 : Cond.constantLong "BoatNames" 294 17 ∈ tables_1 := List.mem_of_getElem? (i := 689) (by decide +kernel)
theorem kcl_6_296 : Cond.constantLong "BoatNames" 296 31 ∈ tables_1 := List.mem_of_getElem? (i := 690) (by decide +kernel)
theorem kcl_7_113 : Cond.constantLong "BoatNamesModel" 113 (-9223372036854775808) ∈ tables_1 := List.mem_of_getElem? (i := 1174) (by decide +kernel)
theorem kcl_7_342 : Cond.constantLong "BoatNamesModel" 342 17 ∈ tables_1 := List.mem_of_getElem? (i := 1229) (by decide +kernel)
theorem kcl_7_336 : Cond.constantLong "BoatNamesModel" 336 31 ∈ tables_1 := List.mem_of_getElem? (i := 1230) (by decide +kernel)
end
section
abbrev MI : Type := MethodName × ByteArray × Nat × Option FieldType × Nat × List (List (Nat × Instr))
abbrev mnm (M : MI) : MethodName := M.1
abbrev mcd (M : MI) : ByteArray := M.2.1
abbrev mml (M : MI) : Nat := M.2.2.1
abbrev mrt (M : MI) : Option FieldType := M.2.2.2.1
abbrev mow (M : MI) : Nat := M.2.2.2.2.1
abbrev mtb (M : MI) : List (List (Nat × Instr)) := M.2.2.2.2.2
def ilen : Instr → Nat
  | .iload _ => 2 | .istore _ => 2 | .lload _ => 2 | .lstore _ => 2 | .aload _ => 2 | .astore _ => 2 | .bipush _ => 2 | .ldc _ => 2 | .newarray _ => 2
  | .sipush _ => 3 | .getfield _ => 3 | .putfield _ => 3 | .goto _ => 3 | .if_icmp _ _ => 3 | .ifCond _ _ => 3 | .iinc _ _ => 3 | .ldc_w _ => 3 | .ldc2_w _ => 3
  | .invokevirtual _ => 3 | .invokestatic _ => 3 | .invokespecial _ => 3 | .new _ => 3 | .anewarray _ => 3
  | .tableswitch _ _ _ _ => 0 | .lookupswitch _ _ => 0
  | _ => 1
def tchk (M : MI) : Bool := (mtb M).all fun r => r.all fun e => match decode (mcd M) e.1 with
  | .ok (i, n) => decide (i = e.2) && (decide (ilen e.2 = n) || decide (ilen e.2 = 0))
  | _ => false
def fet (M : MI) (pc : Nat) : Option Instr := match (mtb M)[pc / 16]? with
  | some r => r.lookup pc
  | none => none
/-- what the tables say of a method: its code, its class, its parameters -/
def MOK (M : MI) (n : Nat) : Prop := Cond.code (mnm M) (mcd M) (mml M) (mrt M) ∈ tables_1 ∧ Cond.initialized (mnm M).cls ∈ tables_1 ∧ (plainName (mnm M).cls = true ∧ (mnm M).cls ≠ "java/lang/invoke/MethodHandle" ∧ (mnm M).cls ≠ "java/lang/invoke/VarHandle" ∧ (parseMethodDescriptor (mnm M).desc).map (fun d => d.parameters.length) = some n) ∧ tchk M = true ∧ cnm[mow M]? = some (mnm M).cls
def me_B_clear : MI := (⟨"BoatNames$Best", "clear", "()V"⟩, prog_2_method_2_code, 1, none, 0, [
  [(0, .aload_n 0), (1, .iconst (-1)), (2, .putfield 9), (5, .aload_n 0), (6, .iconst 0), (7, .putfield 15), (10, .return_)]])
theorem mok_B_clear : MOK me_B_clear 0 := ⟨List.mem_of_getElem? (i := 457) (by decide +kernel), List.mem_of_getElem? (i := 6) (by decide +kernel), by decide +kernel, by decide +kernel, rfl⟩
def me_B_offer : MI := (⟨"BoatNames$Best", "offer", "(II)V"⟩, prog_2_method_3_code, 3, none, 0, [
  [(0, .aload_n 0), (1, .getfield 9), (4, .iconst (-1)), (5, .if_icmp .eq 11), (8, .iload_n 2), (9, .aload_n 0), (10, .getfield 15), (13, .if_icmp .le 13)],
  [(16, .aload_n 0), (17, .iload_n 1), (18, .putfield 9), (21, .aload_n 0), (22, .iload_n 2), (23, .putfield 15), (26, .return_)]])
theorem mok_B_offer : MOK me_B_offer 2 := ⟨List.mem_of_getElem? (i := 465) (by decide +kernel), List.mem_of_getElem? (i := 6) (by decide +kernel), by decide +kernel, by decide +kernel, rfl⟩
def me_H_renew : MI := (⟨"BoatNames$Sheet", "renew", "(II)V"⟩, prog_3_method_2_code, 3, none, 1, [
  [(0, .aload_n 0), (1, .getfield 9), (4, .iconst 0), (5, .invokestatic 26), (8, .aload_n 0), (9, .iload_n 1), (10, .putfield 15), (13, .aload_n 0), (14, .iload_n 2), (15, .putfield 19)],
  [(18, .aload_n 0), (19, .iconst 0), (20, .putfield 22), (23, .return_)]])
theorem mok_H_renew : MOK me_H_renew 2 := ⟨List.mem_of_getElem? (i := 634) (by decide +kernel), List.mem_of_getElem? (i := 7) (by decide +kernel), by decide +kernel, by decide +kernel, rfl⟩
def me_H_findingAt : MI := (⟨"BoatNames$Sheet", "findingAt", "(II)I"⟩, prog_3_method_3_code, 3, (some .int), 1, [
  [(0, .aload_n 0), (1, .getfield 22), (4, .ifCond .eq 5), (7, .iconst 1), (8, .ireturn), (9, .aload_n 0), (10, .getfield 15), (13, .iload_n 1), (14, .if_icmp .eq 5)],
  [(17, .iconst 3), (18, .ireturn), (19, .iload_n 2), (20, .aload_n 0), (21, .getfield 19), (24, .invokestatic 32), (27, .ifCond .eq 7), (30, .iconst 0), (31, .goto 4)],
  [(34, .iconst 2), (35, .ireturn)]])
theorem mok_H_findingAt : MOK me_H_findingAt 2 := ⟨List.mem_of_getElem? (i := 647) (by decide +kernel), List.mem_of_getElem? (i := 7) (by decide +kernel), by decide +kernel, by decide +kernel, rfl⟩
def me_H_hasItems : MI := (⟨"BoatNames$Sheet", "hasItems", "(II)Z"⟩, prog_3_method_4_code, 3, (some .boolean), 1, [
  [(0, .iload_n 1), (1, .ifCond .lt 29), (4, .iload_n 2), (5, .ifCond .lt 25), (8, .iload_n 2), (9, .aload_n 0), (10, .getfield 19), (13, .if_icmp .gt 17)],
  [(16, .iload_n 1), (17, .aload_n 0), (18, .getfield 19), (21, .iload_n 2), (22, .isub), (23, .if_icmp .gt 7), (26, .iconst 1), (27, .goto 4), (30, .iconst 0), (31, .ireturn)]])
theorem mok_H_hasItems : MOK me_H_hasItems 2 := ⟨List.mem_of_getElem? (i := 665) (by decide +kernel), List.mem_of_getElem? (i := 7) (by decide +kernel), by decide +kernel, by decide +kernel, rfl⟩
def me_H_set : MI := (⟨"BoatNames$Sheet", "set", "(II)V"⟩, prog_3_method_5_code, 3, none, 1, [
  [(0, .aload_n 0), (1, .getfield 9), (4, .iload_n 1), (5, .aload_n 0), (6, .getfield 15), (9, .ifCond .ne 8), (12, .iload_n 2), (13, .i2b), (14, .goto 17)],
  [(17, .aload_n 0), (18, .getfield 15), (21, .iconst 1), (22, .if_icmp .ne 8), (25, .iload_n 2), (26, .i2s), (27, .goto 4), (30, .iload_n 2), (31, .iastore)],
  [(32, .return_)]])
theorem mok_H_set : MOK me_H_set 2 := ⟨List.mem_of_getElem? (i := 652) (by decide +kernel), List.mem_of_getElem? (i := 7) (by decide +kernel), by decide +kernel, by decide +kernel, rfl⟩
def me_G_append : MI := (⟨"BoatNames$Sightings", "append", "(III)V"⟩, prog_4_method_2_code, 4, none, 2, [
  [(0, .aload_n 0), (1, .getfield 9), (4, .aload_n 0), (5, .getfield 21), (8, .iload_n 1), (9, .iastore), (10, .aload_n 0), (11, .getfield 15), (14, .aload_n 0), (15, .getfield 21)],
  [(18, .iload_n 2), (19, .iastore), (20, .aload_n 0), (21, .getfield 18), (24, .aload_n 0), (25, .getfield 21), (28, .iload_n 3), (29, .iastore), (30, .aload_n 0), (31, .dup)],
  [(32, .getfield 21), (35, .iconst 1), (36, .iadd), (37, .putfield 21), (40, .return_)]])
theorem mok_G_append : MOK me_G_append 3 := ⟨List.mem_of_getElem? (i := 527) (by decide +kernel), List.mem_of_getElem? (i := 5) (by decide +kernel), by decide +kernel, by decide +kernel, rfl⟩
def me_G_fit : MI := (⟨"BoatNames$Sightings", "fit", "(LBoatNames$Voyage;)Z"⟩, prog_4_method_3_code, 4, (some .boolean), 2, [
  [(0, .iconst 0), (1, .istore_n 2), (2, .iload_n 2), (3, .aload_n 0), (4, .getfield 21), (7, .if_icmp .ge 62), (10, .aload_n 0), (11, .getfield 15), (14, .iload_n 2), (15, .iaload)],
  [(16, .aload_n 1), (17, .getfield 25), (20, .getfield 31), (23, .if_icmp .ge 7), (26, .iconst 1), (27, .goto 4), (30, .iconst 0), (31, .istore_n 3)],
  [(32, .iload_n 3), (33, .ifCond .eq 28), (36, .aload_n 1), (37, .aload_n 0), (38, .getfield 9), (41, .iload_n 2), (42, .iaload), (43, .aload_n 0), (44, .getfield 15), (47, .iload_n 2)],
  [(48, .iaload), (49, .invokevirtual 35), (52, .aload_n 0), (53, .getfield 18), (56, .iload_n 2), (57, .iaload), (58, .if_icmp .eq 5), (61, .iconst 0), (62, .ireturn), (63, .iinc 2 1)],
  [(66, .goto (-64)), (69, .iconst 1), (70, .ireturn)]])
theorem mok_G_fit : MOK me_G_fit 1 := ⟨List.mem_of_getElem? (i := 543) (by decide +kernel), List.mem_of_getElem? (i := 5) (by decide +kernel), by decide +kernel, by decide +kernel, rfl⟩
def me_T_become : MI := (⟨"BoatNames$Telling", "become", "(LBoatNames$Telling;)V"⟩, prog_5_method_2_code, 2, none, 3, [
  [(0, .aload_n 1), (1, .getfield 9), (4, .iconst 0), (5, .aload_n 0), (6, .getfield 9), (9, .iconst 0), (10, .bipush 64), (12, .invokestatic 49), (15, .aload_n 1)],
  [(16, .getfield 19), (19, .iconst 0), (20, .aload_n 0), (21, .getfield 19), (24, .iconst 0), (25, .bipush 8), (27, .invokestatic 49), (30, .aload_n 1), (31, .getfield 22)],
  [(34, .iconst 0), (35, .aload_n 0), (36, .getfield 22), (39, .iconst 0), (40, .bipush 8), (42, .invokestatic 49), (45, .aload_n 1), (46, .getfield 25)],
  [(49, .iconst 0), (50, .aload_n 0), (51, .getfield 25), (54, .iconst 0), (55, .bipush 8), (57, .invokestatic 49), (60, .aload_n 1), (61, .getfield 28)],
  [(64, .iconst 0), (65, .aload_n 0), (66, .getfield 28), (69, .iconst 0), (70, .bipush 8), (72, .invokestatic 49), (75, .aload_n 0), (76, .aload_n 1), (77, .getfield 31)],
  [(80, .putfield 31), (83, .aload_n 1), (84, .getfield 34), (87, .iconst 0), (88, .aload_n 0), (89, .getfield 34), (92, .iconst 0), (93, .bipush 8), (95, .invokestatic 49)],
  [(98, .aload_n 1), (99, .getfield 37), (102, .iconst 0), (103, .aload_n 0), (104, .getfield 37), (107, .iconst 0), (108, .bipush 8), (110, .invokestatic 49)],
  [(113, .aload_n 1), (114, .getfield 40), (117, .iconst 0), (118, .aload_n 0), (119, .getfield 40), (122, .iconst 0), (123, .bipush 8), (125, .invokestatic 49)],
  [(128, .aload_n 0), (129, .aload_n 1), (130, .getfield 43), (133, .putfield 43), (136, .aload_n 0), (137, .aload_n 1), (138, .getfield 46), (141, .putfield 46)],
  [(144, .return_)]])
theorem mok_T_become : MOK me_T_become 1 := ⟨List.mem_of_getElem? (i := 481) (by decide +kernel), List.mem_of_getElem? (i := 3) (by decide +kernel), by decide +kernel, by decide +kernel, rfl⟩
def me_T_hearHates : MI := (⟨"BoatNames$Telling", "hearHates", "(LBoatNames$Text;)V"⟩, prog_5_method_3_code, 4, none, 3, [
  [(0, .aload_n 1), (1, .invokevirtual 55), (4, .aload_n 0), (5, .getfield 9), (8, .iconst 0), (9, .invokestatic 60), (12, .aload_n 0), (13, .aload_n 1), (14, .getfield 66)],
  [(17, .iconst (-1)), (18, .if_icmp .ne 14), (21, .aload_n 1), (22, .getfield 69), (25, .iconst 1), (26, .iadd), (27, .iconst 4), (28, .idiv), (29, .goto 4)],
  [(32, .iconst 0), (33, .putfield 15), (36, .iconst 0), (37, .istore_n 2), (38, .iload_n 2), (39, .aload_n 0), (40, .getfield 15), (43, .if_icmp .ge 40), (46, .iconst 4), (47, .iload_n 2)],
  [(48, .imul), (49, .istore_n 3), (50, .aload_n 0), (51, .getfield 9), (54, .aload_n 1), (55, .iload_n 3), (56, .invokevirtual 72), (59, .aload_n 1), (60, .iload_n 3), (61, .iconst 1), (62, .iadd), (63, .invokevirtual 72)],
  [(66, .invokestatic 76), (69, .aload_n 1), (70, .iload_n 3), (71, .iconst 2), (72, .iadd), (73, .invokevirtual 72), (76, .iastore), (77, .iinc 2 1)],
  [(80, .goto (-42)), (83, .return_)]])
theorem mok_T_hearHates : MOK me_T_hearHates 1 := ⟨List.mem_of_getElem? (i := 277) (by decide +kernel), List.mem_of_getElem? (i := 3) (by decide +kernel), by decide +kernel, by decide +kernel, rfl⟩
def me_T_hearBoats : MI := (⟨"BoatNames$Telling", "hearBoats", "(LBoatNames$Text;)V"⟩, prog_5_method_4_code, 4, none, 3, [
  [(0, .aload_n 1), (1, .invokevirtual 80), (4, .aload_n 0), (5, .aload_n 1), (6, .getfield 66), (9, .iconst (-1)), (10, .if_icmp .ne 14), (13, .aload_n 1), (14, .getfield 69)],
  [(17, .iconst 1), (18, .iadd), (19, .iconst 5), (20, .idiv), (21, .goto 4), (24, .iconst 0), (25, .putfield 31), (28, .iconst 0), (29, .istore_n 2), (30, .iload_n 2), (31, .aload_n 0)],
  [(32, .getfield 31), (35, .if_icmp .ge 71), (38, .iconst 5), (39, .iload_n 2), (40, .imul), (41, .istore_n 3), (42, .aload_n 0), (43, .getfield 19), (46, .iload_n 2), (47, .aload_n 1)],
  [(48, .getfield 83), (51, .iload_n 3), (52, .iaload), (53, .invokestatic 86), (56, .iastore), (57, .aload_n 0), (58, .getfield 22), (61, .iload_n 2), (62, .aload_n 1), (63, .iload_n 3)],
  [(64, .iconst 1), (65, .iadd), (66, .invokevirtual 72), (69, .iastore), (70, .aload_n 0), (71, .getfield 25), (74, .iload_n 2), (75, .aload_n 1), (76, .getfield 83), (79, .iload_n 3)],
  [(80, .iconst 2), (81, .iadd), (82, .iaload), (83, .bipush 97), (85, .isub), (86, .iastore), (87, .aload_n 0), (88, .getfield 28), (91, .iload_n 2), (92, .aload_n 1), (93, .iload_n 3), (94, .iconst 3), (95, .iadd)],
  [(96, .invokevirtual 72), (99, .iastore), (100, .iinc 2 1), (103, .goto (-73)), (106, .return_)]])
theorem mok_T_hearBoats : MOK me_T_hearBoats 1 := ⟨List.mem_of_getElem? (i := 307) (by decide +kernel), List.mem_of_getElem? (i := 3) (by decide +kernel), by decide +kernel, by decide +kernel, rfl⟩
def me_T_addEvent : MI := (⟨"BoatNames$Telling", "addEvent", "(III)V"⟩, prog_5_method_5_code, 4, none, 3, [
  [(0, .aload_n 0), (1, .getfield 43), (4, .bipush 8), (6, .if_icmp .gt 43), (9, .aload_n 0), (10, .getfield 34), (13, .aload_n 0), (14, .getfield 43)],
  [(17, .iload_n 1), (18, .iastore), (19, .aload_n 0), (20, .getfield 37), (23, .aload_n 0), (24, .getfield 43), (27, .iload_n 2), (28, .iastore), (29, .aload_n 0), (30, .getfield 40)],
  [(33, .aload_n 0), (34, .getfield 43), (37, .iload_n 3), (38, .iastore), (39, .aload_n 0), (40, .dup), (41, .getfield 43), (44, .iconst 1), (45, .iadd), (46, .putfield 43)],
  [(49, .return_)]])
theorem mok_T_addEvent : MOK me_T_addEvent 3 := ⟨List.mem_of_getElem? (i := 355) (by decide +kernel), List.mem_of_getElem? (i := 3) (by decide +kernel), by decide +kernel, by decide +kernel, rfl⟩
def me_T_drawEvents : MI := (⟨"BoatNames$Telling", "drawEvents", "(II)V"⟩, prog_5_method_6_code, 7, none, 3, [
  [(0, .aload_n 0), (1, .iconst 0), (2, .putfield 43), (5, .iload_n 1), (6, .istore_n 3), (7, .iconst 0), (8, .istore 4), (10, .iload 4), (12, .iload_n 2), (13, .if_icmp .ge 63)],
  [(16, .aload_n 0), (17, .getfield 31), (20, .ifCond .le 56), (23, .iload_n 3), (24, .invokestatic 89), (27, .istore 5), (29, .iload 5), (31, .invokestatic 89)],
  [(34, .istore 6), (36, .iload 6), (38, .invokestatic 89), (41, .istore_n 3), (42, .aload_n 0), (43, .iload 5), (45, .bipush 16), (47, .iushr)],
  [(48, .iconst 3), (49, .irem), (50, .iload 6), (52, .bipush 16), (54, .iushr), (55, .bipush 24), (57, .irem), (58, .iload_n 3), (59, .bipush 16), (61, .iushr), (62, .aload_n 0), (63, .getfield 31)],
  [(66, .irem), (67, .invokevirtual 92), (70, .iinc 4 1), (73, .goto (-63)), (76, .return_)]])
theorem mok_T_drawEvents : MOK me_T_drawEvents 2 := ⟨List.mem_of_getElem? (i := 621) (by decide +kernel), List.mem_of_getElem? (i := 3) (by decide +kernel), by decide +kernel, by decide +kernel, rfl⟩
def me_T_nextSeed : MI := (⟨"BoatNames$Telling", "nextSeed", "(I)I"⟩, prog_5_method_7_code, 1, (some .int), 3, [
  [(0, .ldc 96), (2, .iload_n 0), (3, .imul), (4, .sipush 12345), (7, .iadd), (8, .ireturn)]])
theorem mok_T_nextSeed : MOK me_T_nextSeed 1 := ⟨List.mem_of_getElem? (i := 624) (by decide +kernel), List.mem_of_getElem? (i := 3) (by decide +kernel), by decide +kernel, by decide +kernel, rfl⟩
def me_T_isEventOf : MI := (⟨"BoatNames$Telling", "isEventOf", "(II)Z"⟩, prog_5_method_8_code, 3, (some .boolean), 3, [
  [(0, .aload_n 0), (1, .getfield 37), (4, .iload_n 1), (5, .iaload), (6, .iload_n 2), (7, .if_icmp .ne 18), (10, .aload_n 0), (11, .getfield 46), (14, .iload_n 1), (15, .ishr)],
  [(16, .iconst 1), (17, .iand), (18, .ifCond .ne 7), (21, .iconst 1), (22, .goto 4), (25, .iconst 0), (26, .ireturn)]])
theorem mok_T_isEventOf : MOK me_T_isEventOf 2 := ⟨List.mem_of_getElem? (i := 392) (by decide +kernel), List.mem_of_getElem? (i := 3) (by decide +kernel), by decide +kernel, by decide +kernel, rfl⟩
def me_T_weight : MI := (⟨"BoatNames$Telling", "weight", "(I)J"⟩, prog_5_method_9_code, 5, (some .long), 3, [
  [(0, .lconst 1), (1, .lstore_n 2), (2, .iconst 0), (3, .istore 4), (5, .iload 4), (7, .aload_n 0), (8, .getfield 43), (11, .if_icmp .ge 34), (14, .lload_n 2), (15, .aload_n 0)],
  [(16, .getfield 46), (19, .iload 4), (21, .ishr), (22, .iconst 1), (23, .iand), (24, .ifCond .ne 8), (27, .iload_n 1), (28, .i2l), (29, .goto 8)],
  [(32, .bipush 16), (34, .iload_n 1), (35, .isub), (36, .i2l), (37, .lmul), (38, .lstore_n 2), (39, .iinc 4 1), (42, .goto (-37)), (45, .lload_n 2), (46, .lreturn)]])
theorem mok_T_weight : MOK me_T_weight 1 := ⟨List.mem_of_getElem? (i := 597) (by decide +kernel), List.mem_of_getElem? (i := 3) (by decide +kernel), by decide +kernel, by decide +kernel, rfl⟩
def me_T_rowMask : MI := (⟨"BoatNames$Telling", "rowMask", "(I)I"⟩, prog_5_method_10_code, 4, (some .int), 3, [
  [(0, .iconst 0), (1, .istore_n 2), (2, .iconst 0), (3, .istore_n 3), (4, .iload_n 3), (5, .aload_n 0), (6, .getfield 31), (9, .if_icmp .ge 28), (12, .aload_n 0), (13, .getfield 25)],
  [(16, .iload_n 3), (17, .iaload), (18, .iload_n 1), (19, .if_icmp .gt 12), (22, .iload_n 2), (23, .bipush 15), (25, .iconst 4), (26, .iload_n 3), (27, .imul), (28, .ishl), (29, .ior), (30, .istore_n 2), (31, .iinc 3 1)],
  [(34, .goto (-30)), (37, .iload_n 2), (38, .ireturn)]])
theorem mok_T_rowMask : MOK me_T_rowMask 1 := ⟨List.mem_of_getElem? (i := 576) (by decide +kernel), List.mem_of_getElem? (i := 3) (by decide +kernel), by decide +kernel, by decide +kernel, rfl⟩
def me_X_isFull : MI := (⟨"BoatNames$Text", "isFull", "()Z"⟩, prog_6_method_2_code, 1, (some .boolean), 4, [
  [(0, .aload_n 0), (1, .getfield 15), (4, .aload_n 0), (5, .getfield 9), (8, .arraylength), (9, .if_icmp .lt 7), (12, .iconst 1), (13, .goto 4)],
  [(16, .iconst 0), (17, .ireturn)]])
theorem mok_X_isFull : MOK me_X_isFull 0 := ⟨List.mem_of_getElem? (i := 265) (by decide +kernel), List.mem_of_getElem? (i := 2) (by decide +kernel), by decide +kernel, by decide +kernel, rfl⟩
def me_X_append : MI := (⟨"BoatNames$Text", "append", "(I)V"⟩, prog_6_method_3_code, 2, none, 4, [
  [(0, .aload_n 0), (1, .getfield 9), (4, .aload_n 0), (5, .getfield 15), (8, .iload_n 1), (9, .iastore), (10, .aload_n 0), (11, .dup), (12, .getfield 15), (15, .iconst 1)],
  [(16, .iadd), (17, .putfield 15), (20, .return_)]])
theorem mok_X_append : MOK me_X_append 1 := ⟨List.mem_of_getElem? (i := 269) (by decide +kernel), List.mem_of_getElem? (i := 2) (by decide +kernel), by decide +kernel, by decide +kernel, rfl⟩
def me_X_has : MI := (⟨"BoatNames$Text", "has", "(III)Z"⟩, prog_6_method_4_code, 4, (some .boolean), 4, [
  [(0, .aload_n 0), (1, .getfield 9), (4, .iload_n 1), (5, .iaload), (6, .iload_n 2), (7, .if_icmp .lt 17), (10, .aload_n 0), (11, .getfield 9), (14, .iload_n 1), (15, .iaload)],
  [(16, .iload_n 3), (17, .if_icmp .gt 7), (20, .iconst 1), (21, .goto 4), (24, .iconst 0), (25, .ireturn)]])
theorem mok_X_has : MOK me_X_has 3 := ⟨List.mem_of_getElem? (i := 289) (by decide +kernel), List.mem_of_getElem? (i := 2) (by decide +kernel), by decide +kernel, by decide +kernel, rfl⟩
def me_X_figure : MI := (⟨"BoatNames$Text", "figure", "(I)I"⟩, prog_6_method_5_code, 2, (some .int), 4, [
  [(0, .aload_n 0), (1, .getfield 9), (4, .iload_n 1), (5, .iaload), (6, .bipush 48), (8, .isub), (9, .ireturn)]])
theorem mok_X_figure : MOK me_X_figure 1 := ⟨List.mem_of_getElem? (i := 300) (by decide +kernel), List.mem_of_getElem? (i := 2) (by decide +kernel), by decide +kernel, by decide +kernel, rfl⟩
def me_X_findHatesFault : MI := (⟨"BoatNames$Text", "findHatesFault", "()V"⟩, prog_6_method_6_code, 2, none, 4, [
  [(0, .iconst 0), (1, .istore_n 1), (2, .iload_n 1), (3, .aload_n 0), (4, .getfield 15), (7, .if_icmp .ge 23), (10, .aload_n 0), (11, .iload_n 1), (12, .invokevirtual 22), (15, .ifCond .ne 9)],
  [(18, .aload_n 0), (19, .iload_n 1), (20, .putfield 19), (23, .return_), (24, .iinc 1 1), (27, .goto (-25)), (30, .aload_n 0), (31, .aload_n 0)],
  [(32, .iconst 4), (33, .invokevirtual 26), (36, .putfield 19), (39, .return_)]])
theorem mok_X_findHatesFault : MOK me_X_findHatesFault 0 := ⟨List.mem_of_getElem? (i := 281) (by decide +kernel), List.mem_of_getElem? (i := 2) (by decide +kernel), by decide +kernel, by decide +kernel, rfl⟩
def me_X_findBoatsFault : MI := (⟨"BoatNames$Text", "findBoatsFault", "()V"⟩, prog_6_method_7_code, 2, none, 4, [
  [(0, .iconst 0), (1, .istore_n 1), (2, .iload_n 1), (3, .aload_n 0), (4, .getfield 15), (7, .if_icmp .ge 23), (10, .aload_n 0), (11, .iload_n 1), (12, .invokevirtual 30), (15, .ifCond .ne 9)],
  [(18, .aload_n 0), (19, .iload_n 1), (20, .putfield 19), (23, .return_), (24, .iinc 1 1), (27, .goto (-25)), (30, .aload_n 0), (31, .aload_n 0)],
  [(32, .iconst 5), (33, .invokevirtual 26), (36, .putfield 19), (39, .return_)]])
theorem mok_X_findBoatsFault : MOK me_X_findBoatsFault 0 := ⟨List.mem_of_getElem? (i := 311) (by decide +kernel), List.mem_of_getElem? (i := 2) (by decide +kernel), by decide +kernel, by decide +kernel, rfl⟩
def me_X_faultOfEnd : MI := (⟨"BoatNames$Text", "faultOfEnd", "(I)I"⟩, prog_6_method_8_code, 2, (some .int), 4, [
  [(0, .aload_n 0), (1, .getfield 15), (4, .ifCond .eq 15), (7, .aload_n 0), (8, .getfield 15), (11, .iload_n 1), (12, .irem), (13, .iload_n 1), (14, .iconst 1), (15, .isub)],
  [(16, .if_icmp .ne 7), (19, .iconst (-1)), (20, .goto 7), (23, .aload_n 0), (24, .getfield 15), (27, .ireturn)]])
theorem mok_X_faultOfEnd : MOK me_X_faultOfEnd 1 := ⟨List.mem_of_getElem? (i := 293) (by decide +kernel), List.mem_of_getElem? (i := 2) (by decide +kernel), by decide +kernel, by decide +kernel, rfl⟩
def me_X_isHateByte : MI := (⟨"BoatNames$Text", "isHateByte", "(I)Z"⟩, prog_6_method_9_code, 2, (some .boolean), 4, [
  [(0, .iload_n 1), (1, .iconst 4), (2, .irem), (3, .tableswitch 80 0 2 #[25, 35, 70])],
  [(28, .aload_n 0), (29, .iload_n 1), (30, .bipush 48)],
  [(32, .bipush 55), (34, .invokevirtual 33), (37, .ireturn), (38, .aload_n 0), (39, .iload_n 1), (40, .bipush 48), (42, .bipush 55), (44, .invokevirtual 33), (47, .ifCond .eq 24)],
  [(50, .aload_n 0), (51, .getfield 9), (54, .iload_n 1), (55, .iaload), (56, .aload_n 0), (57, .getfield 9), (60, .iload_n 1), (61, .iconst 1), (62, .isub), (63, .iaload)],
  [(64, .if_icmp .eq 7), (67, .iconst 1), (68, .goto 4), (71, .iconst 0), (72, .ireturn), (73, .aload_n 0), (74, .iload_n 1), (75, .bipush 49), (77, .bipush 57), (79, .invokevirtual 33)],
  [(82, .ireturn), (83, .aload_n 0), (84, .getfield 9), (87, .iload_n 1), (88, .iaload), (89, .bipush 59), (91, .if_icmp .ne 7), (94, .iconst 1), (95, .goto 4)],
  [(98, .iconst 0), (99, .ireturn)]])
theorem mok_X_isHateByte : MOK me_X_isHateByte 1 := ⟨List.mem_of_getElem? (i := 285) (by decide +kernel), List.mem_of_getElem? (i := 2) (by decide +kernel), by decide +kernel, by decide +kernel, rfl⟩
def me_X_isBoatByte : MI := (⟨"BoatNames$Text", "isBoatByte", "(I)Z"⟩, prog_6_method_10_code, 2, (some .boolean), 4, [
  [(0, .iload_n 1), (1, .iconst 5), (2, .irem), (3, .tableswitch 78 0 3 #[29, 48, 58, 68])],
  [],
  [(32, .aload_n 0), (33, .getfield 9), (36, .iload_n 1), (37, .iaload), (38, .invokestatic 37), (41, .iconst (-1)), (42, .if_icmp .eq 7), (45, .iconst 1), (46, .goto 4)],
  [(49, .iconst 0), (50, .ireturn), (51, .aload_n 0), (52, .iload_n 1), (53, .bipush 48), (55, .bipush 55), (57, .invokevirtual 33), (60, .ireturn), (61, .aload_n 0), (62, .iload_n 1), (63, .bipush 97)],
  [(65, .bipush 120), (67, .invokevirtual 33), (70, .ireturn), (71, .aload_n 0), (72, .iload_n 1), (73, .bipush 49), (75, .bipush 57), (77, .invokevirtual 33)],
  [(80, .ireturn), (81, .aload_n 0), (82, .getfield 9), (85, .iload_n 1), (86, .iaload), (87, .bipush 59), (89, .if_icmp .ne 7), (92, .iconst 1), (93, .goto 4)],
  [(96, .iconst 0), (97, .ireturn)]])
theorem mok_X_isBoatByte : MOK me_X_isBoatByte 1 := ⟨List.mem_of_getElem? (i := 315) (by decide +kernel), List.mem_of_getElem? (i := 2) (by decide +kernel), by decide +kernel, by decide +kernel, rfl⟩
def me_X_sortOf : MI := (⟨"BoatNames$Text", "sortOf", "(I)I"⟩, prog_6_method_11_code, 1, (some .int), 4, [
  [(0, .iload_n 0), (1, .lookupswitch 41 #[(108, 35), (115, 37), (116, 39)])],
  [],
  [(36, .iconst 0), (37, .ireturn), (38, .iconst 1), (39, .ireturn), (40, .iconst 2), (41, .ireturn), (42, .iconst (-1)), (43, .ireturn)]])
theorem mok_X_sortOf : MOK me_X_sortOf 1 := ⟨List.mem_of_getElem? (i := 318) (by decide +kernel), List.mem_of_getElem? (i := 2) (by decide +kernel), by decide +kernel, by decide +kernel, rfl⟩
def me_V_run : MI := (⟨"BoatNames$Voyage", "run", "(LBoatNames$Telling;I)V"⟩, prog_7_method_2_code, 4, none, 5, [
  [(0, .aload_n 0), (1, .aload_n 1), (2, .invokevirtual 50), (5, .iconst 0), (6, .istore_n 3), (7, .iload_n 3), (8, .iload_n 2), (9, .if_icmp .gt 21), (12, .aload_n 0), (13, .getfield 40)],
  [(16, .ifCond .le 14), (19, .aload_n 0), (20, .iload_n 3), (21, .invokevirtual 54), (24, .iinc 3 1), (27, .goto (-20)), (30, .return_)]])
theorem mok_V_run : MOK me_V_run 2 := ⟨List.mem_of_getElem? (i := 376) (by decide +kernel), List.mem_of_getElem? (i := 4) (by decide +kernel), by decide +kernel, by decide +kernel, rfl⟩
def me_V_begin : MI := (⟨"BoatNames$Voyage", "begin", "(LBoatNames$Telling;)V"⟩, prog_7_method_3_code, 2, none, 5, [
  [(0, .aload_n 0), (1, .aload_n 1), (2, .putfield 9), (5, .aload_n 1), (6, .getfield 58), (9, .iconst 0), (10, .aload_n 0), (11, .getfield 15), (14, .iconst 0), (15, .bipush 64)],
  [(17, .invokestatic 61), (20, .aload_n 1), (21, .getfield 67), (24, .iconst 0), (25, .aload_n 0), (26, .getfield 28), (29, .iconst 0), (30, .bipush 8)],
  [(32, .invokestatic 61), (35, .aload_n 0), (36, .getfield 19), (39, .iconst 0), (40, .invokestatic 68), (43, .aload_n 0), (44, .getfield 22), (47, .iconst (-1))],
  [(48, .invokestatic 68), (51, .aload_n 0), (52, .getfield 25), (55, .iconst 0), (56, .invokestatic 68), (59, .aload_n 0), (60, .getfield 31), (63, .iconst 0)],
  [(64, .invokestatic 68), (67, .aload_n 0), (68, .aload_n 1), (69, .getfield 74), (72, .putfield 40), (75, .aload_n 0), (76, .iconst (-1)), (77, .putfield 44)],
  [(80, .aload_n 0), (81, .iconst (-1)), (82, .putfield 47), (85, .return_)]])
theorem mok_V_begin : MOK me_V_begin 1 := ⟨List.mem_of_getElem? (i := 380) (by decide +kernel), List.mem_of_getElem? (i := 4) (by decide +kernel), by decide +kernel, by decide +kernel, rfl⟩
def me_V_sail : MI := (⟨"BoatNames$Voyage", "sail", "(I)V"⟩, prog_7_method_4_code, 3, none, 5, [
  [(0, .iconst 0), (1, .istore_n 2), (2, .iload_n 2), (3, .aload_n 0), (4, .getfield 9), (7, .getfield 77), (10, .if_icmp .ge 62), (13, .aload_n 0), (14, .getfield 9)],
  [(17, .iload_n 2), (18, .iload_n 1), (19, .invokevirtual 80), (22, .ifCond .eq 44), (25, .aload_n 0), (26, .getfield 9), (29, .getfield 84)],
  [(32, .iload_n 2), (33, .iaload), (34, .ifCond .ne 10), (37, .aload_n 0), (38, .invokevirtual 87), (41, .goto 25), (44, .aload_n 0), (45, .aload_n 0), (46, .getfield 9)],
  [(49, .getfield 84), (52, .iload_n 2), (53, .iaload), (54, .aload_n 0), (55, .getfield 9), (58, .getfield 90), (61, .iload_n 2), (62, .iaload), (63, .invokevirtual 93)],
  [(66, .iinc 2 1), (69, .goto (-67)), (72, .iconst 0), (73, .istore_n 2), (74, .iload_n 2), (75, .aload_n 0), (76, .getfield 9), (79, .getfield 74)],
  [(82, .if_icmp .ge 27), (85, .aload_n 0), (86, .getfield 9), (89, .getfield 97), (92, .iload_n 2), (93, .iaload), (94, .iload_n 1), (95, .if_icmp .ne 8)],
  [(98, .aload_n 0), (99, .iload_n 2), (100, .invokevirtual 100), (103, .iinc 2 1), (106, .goto (-32)), (109, .iconst 0), (110, .istore_n 2), (111, .iload_n 2)],
  [(112, .aload_n 0), (113, .getfield 9), (116, .getfield 74), (119, .if_icmp .ge 25), (122, .aload_n 0), (123, .getfield 19), (126, .iload_n 2), (127, .iaload)],
  [(128, .iconst 1), (129, .if_icmp .ne 9), (132, .aload_n 0), (133, .iload_n 2), (134, .iload_n 1), (135, .invokevirtual 103), (138, .iinc 2 1), (141, .goto (-30))],
  [(144, .return_)]])
theorem mok_V_sail : MOK me_V_sail 1 := ⟨List.mem_of_getElem? (i := 388) (by decide +kernel), List.mem_of_getElem? (i := 4) (by decide +kernel), by decide +kernel, by decide +kernel, rfl⟩
def me_V_storm : MI := (⟨"BoatNames$Voyage", "storm", "()V"⟩, prog_7_method_5_code, 3, none, 5, [
  [(0, .iconst 0), (1, .istore_n 1), (2, .iload_n 1), (3, .aload_n 0), (4, .getfield 9), (7, .getfield 74), (10, .if_icmp .ge 56), (13, .aload_n 0), (14, .getfield 19)],
  [(17, .iload_n 1), (18, .iaload), (19, .iconst 1), (20, .if_icmp .ne 40), (23, .aload_n 0), (24, .getfield 9), (27, .getfield 106), (30, .iload_n 1), (31, .iaload)],
  [(32, .iconst 2), (33, .if_icmp .ne 7), (36, .iconst 2), (37, .goto 4), (40, .iconst 1), (41, .istore_n 2), (42, .aload_n 0), (43, .getfield 28), (46, .iload_n 1), (47, .iconst 0)],
  [(48, .aload_n 0), (49, .getfield 28), (52, .iload_n 1), (53, .iaload), (54, .iload_n 2), (55, .isub), (56, .invokestatic 109), (59, .iastore), (60, .iinc 1 1), (63, .goto (-61))],
  [(66, .return_)]])
theorem mok_V_storm : MOK me_V_storm 0 := ⟨List.mem_of_getElem? (i := 396) (by decide +kernel), List.mem_of_getElem? (i := 4) (by decide +kernel), by decide +kernel, by decide +kernel, rfl⟩
def me_V_settle : MI := (⟨"BoatNames$Voyage", "settle", "(II)V"⟩, prog_7_method_6_code, 4, none, 5, [
  [(0, .aload_n 0), (1, .getfield 19), (4, .iload_n 2), (5, .iaload), (6, .iconst 1), (7, .if_icmp .eq 4), (10, .return_), (11, .aload_n 0), (12, .getfield 34), (15, .iload_n 2)],
  [(16, .iaload), (17, .istore_n 3), (18, .iload_n 1), (19, .iconst 1), (20, .if_icmp .ne 31), (23, .aload_n 0), (24, .getfield 25), (27, .iload_n 2), (28, .iconst 0), (29, .iastore), (30, .aload_n 0), (31, .getfield 15)],
  [(34, .iload_n 3), (35, .iconst 0), (36, .aload_n 0), (37, .getfield 15), (40, .iload_n 3), (41, .iaload), (42, .iconst 1), (43, .isub), (44, .invokestatic 109), (47, .iastore)],
  [(48, .goto 22), (51, .aload_n 0), (52, .getfield 15), (55, .iload_n 3), (56, .iconst 0), (57, .iastore), (58, .aload_n 0), (59, .getfield 15), (62, .aload_n 0), (63, .getfield 37)],
  [(66, .iload_n 2), (67, .iaload), (68, .iconst 0), (69, .iastore), (70, .return_)]])
theorem mok_V_settle : MOK me_V_settle 2 := ⟨List.mem_of_getElem? (i := 403) (by decide +kernel), List.mem_of_getElem? (i := 4) (by decide +kernel), by decide +kernel, by decide +kernel, rfl⟩
def me_V_launch : MI := (⟨"BoatNames$Voyage", "launch", "(I)V"⟩, prog_7_method_7_code, 4, none, 5, [
  [(0, .aload_n 0), (1, .getfield 9), (4, .getfield 115), (7, .iload_n 1), (8, .iaload), (9, .istore_n 2), (10, .aload_n 0), (11, .iload_n 2), (12, .invokevirtual 118), (15, .istore_n 3)],
  [(16, .iload_n 3), (17, .iconst (-1)), (18, .if_icmp .ne 23), (21, .aload_n 0), (22, .getfield 19), (25, .iload_n 1), (26, .iconst 3), (27, .iastore), (28, .aload_n 0), (29, .dup), (30, .getfield 40)],
  [(33, .iconst 1), (34, .isub), (35, .putfield 40), (38, .goto 39), (41, .aload_n 0), (42, .getfield 19), (45, .iload_n 1), (46, .iconst 1), (47, .iastore)],
  [(48, .aload_n 0), (49, .getfield 22), (52, .iload_n 1), (53, .iload_n 3), (54, .iastore), (55, .aload_n 0), (56, .getfield 34), (59, .iload_n 1), (60, .iload_n 3), (61, .iload_n 2), (62, .invokestatic 122)],
  [(65, .iastore), (66, .aload_n 0), (67, .getfield 37), (70, .iload_n 1), (71, .iload_n 2), (72, .iload_n 3), (73, .invokestatic 122), (76, .iastore), (77, .return_)]])
theorem mok_V_launch : MOK me_V_launch 1 := ⟨List.mem_of_getElem? (i := 407) (by decide +kernel), List.mem_of_getElem? (i := 4) (by decide +kernel), by decide +kernel, by decide +kernel, rfl⟩
def me_V_bear : MI := (⟨"BoatNames$Voyage", "bear", "(II)V"⟩, prog_7_method_8_code, 4, none, 5, [
  [(0, .aload_n 0), (1, .getfield 15), (4, .aload_n 0), (5, .getfield 34), (8, .iload_n 1), (9, .iaload), (10, .iaload), (11, .istore_n 3), (12, .aload_n 0), (13, .getfield 25)],
  [(16, .iload_n 1), (17, .dup2), (18, .iaload), (19, .aload_n 0), (20, .getfield 9), (23, .getfield 106), (26, .iload_n 1), (27, .iaload), (28, .iconst 1), (29, .if_icmp .ne 9)],
  [(32, .iload_n 3), (33, .iconst 2), (34, .idiv), (35, .goto 4), (38, .iload_n 3), (39, .iadd), (40, .iastore), (41, .aload_n 0), (42, .getfield 28), (45, .iload_n 1), (46, .iaload), (47, .ifCond .eq 20)],
  [(50, .aload_n 0), (51, .getfield 25), (54, .iload_n 1), (55, .iaload), (56, .iconst 3), (57, .aload_n 0), (58, .getfield 28), (61, .iload_n 1), (62, .iaload), (63, .imul)],
  [(64, .if_icmp .le 12), (67, .aload_n 0), (68, .iload_n 1), (69, .iload_n 2), (70, .invokevirtual 125), (73, .goto 13), (76, .aload_n 0), (77, .getfield 31)],
  [(80, .iload_n 1), (81, .dup2), (82, .iaload), (83, .iconst 1), (84, .iadd), (85, .iastore), (86, .return_)]])
theorem mok_V_bear : MOK me_V_bear 2 := ⟨List.mem_of_getElem? (i := 416) (by decide +kernel), List.mem_of_getElem? (i := 4) (by decide +kernel), by decide +kernel, by decide +kernel, rfl⟩
def me_V_sink : MI := (⟨"BoatNames$Voyage", "sink", "(II)V"⟩, prog_7_method_9_code, 3, none, 5, [
  [(0, .aload_n 0), (1, .getfield 19), (4, .iload_n 1), (5, .iconst 2), (6, .iastore), (7, .aload_n 0), (8, .dup), (9, .getfield 40), (12, .iconst 1), (13, .isub), (14, .putfield 40)],
  [(17, .aload_n 0), (18, .getfield 15), (21, .aload_n 0), (22, .getfield 37), (25, .iload_n 1), (26, .iaload), (27, .iaload), (28, .bipush 9), (30, .if_icmp .ge 18)],
  [(33, .aload_n 0), (34, .getfield 15), (37, .aload_n 0), (38, .getfield 37), (41, .iload_n 1), (42, .iaload), (43, .dup2), (44, .iaload), (45, .iconst 1), (46, .iadd), (47, .iastore)],
  [(48, .aload_n 0), (49, .getfield 44), (52, .iconst (-1)), (53, .if_icmp .ne 13), (56, .aload_n 0), (57, .iload_n 2), (58, .putfield 44), (61, .aload_n 0), (62, .iload_n 1), (63, .putfield 47)],
  [(66, .return_)]])
theorem mok_V_sink : MOK me_V_sink 2 := ⟨List.mem_of_getElem? (i := 420) (by decide +kernel), List.mem_of_getElem? (i := 4) (by decide +kernel), by decide +kernel, by decide +kernel, rfl⟩
def me_V_worstEnemy : MI := (⟨"BoatNames$Voyage", "worstEnemy", "(I)I"⟩, prog_7_method_10_code, 6, (some .int), 5, [
  [(0, .iconst (-1)), (1, .istore_n 2), (2, .iconst 0), (3, .istore_n 3), (4, .iconst 0), (5, .istore 4), (7, .iload 4), (9, .bipush 8), (11, .if_icmp .ge 35), (14, .aload_n 0), (15, .getfield 15)],
  [(18, .iload 4), (20, .bipush 8), (22, .imul), (23, .iload_n 1), (24, .iadd), (25, .iaload), (26, .istore 5), (28, .iload 5), (30, .iload_n 3), (31, .if_icmp .le 9)],
  [(34, .iload 5), (36, .istore_n 3), (37, .iload 4), (39, .istore_n 2), (40, .iinc 4 1), (43, .goto (-36)), (46, .iload_n 2), (47, .ireturn)]])
theorem mok_V_worstEnemy : MOK me_V_worstEnemy 1 := ⟨List.mem_of_getElem? (i := 411) (by decide +kernel), List.mem_of_getElem? (i := 4) (by decide +kernel), by decide +kernel, by decide +kernel, rfl⟩
def me_V_hatredOf : MI := (⟨"BoatNames$Voyage", "hatredOf", "(I)I"⟩, prog_7_method_11_code, 4, (some .int), 5, [
  [(0, .iconst 0), (1, .istore_n 2), (2, .iconst 0), (3, .istore_n 3), (4, .iload_n 3), (5, .bipush 8), (7, .if_icmp .ge 22), (10, .iload_n 2), (11, .aload_n 0), (12, .getfield 15), (15, .iload_n 1)],
  [(16, .iload_n 3), (17, .invokestatic 122), (20, .iaload), (21, .iadd), (22, .istore_n 2), (23, .iinc 3 1), (26, .goto (-22)), (29, .iload_n 2), (30, .ireturn)]])
theorem mok_V_hatredOf : MOK me_V_hatredOf 1 := ⟨List.mem_of_getElem? (i := 461) (by decide +kernel), List.mem_of_getElem? (i := 4) (by decide +kernel), by decide +kernel, by decide +kernel, rfl⟩
def me_V_allHatred : MI := (⟨"BoatNames$Voyage", "allHatred", "()I"⟩, prog_7_method_12_code, 3, (some .int), 5, [
  [(0, .iconst 0), (1, .istore_n 1), (2, .iconst 0), (3, .istore_n 2), (4, .iload_n 2), (5, .bipush 8), (7, .if_icmp .ge 17), (10, .iload_n 1), (11, .aload_n 0), (12, .iload_n 2), (13, .invokevirtual 128)],
  [(16, .iadd), (17, .istore_n 1), (18, .iinc 2 1), (21, .goto (-17)), (24, .iload_n 1), (25, .ireturn)]])
theorem mok_V_allHatred : MOK me_V_allHatred 0 := ⟨List.mem_of_getElem? (i := 683) (by decide +kernel), List.mem_of_getElem? (i := 4) (by decide +kernel), by decide +kernel, by decide +kernel, rfl⟩
def me_V_howMany : MI := (⟨"BoatNames$Voyage", "howMany", "(I)I"⟩, prog_7_method_13_code, 4, (some .int), 5, [
  [(0, .iconst 0), (1, .istore_n 2), (2, .iconst 0), (3, .istore_n 3), (4, .iload_n 3), (5, .aload_n 0), (6, .getfield 9), (9, .getfield 74), (12, .if_icmp .ge 22), (15, .aload_n 0)],
  [(16, .getfield 19), (19, .iload_n 3), (20, .iaload), (21, .iload_n 1), (22, .if_icmp .ne 6), (25, .iinc 2 1), (28, .iinc 3 1), (31, .goto (-27))],
  [(34, .iload_n 2), (35, .ireturn)]])
theorem mok_V_howMany : MOK me_V_howMany 1 := ⟨List.mem_of_getElem? (i := 432) (by decide +kernel), List.mem_of_getElem? (i := 4) (by decide +kernel), by decide +kernel, by decide +kernel, rfl⟩
def me_V_namesakes : MI := (⟨"BoatNames$Voyage", "namesakes", "(IZ)I"⟩, prog_7_method_14_code, 5, (some .int), 5, [
  [(0, .iconst 0), (1, .istore_n 3), (2, .iconst 0), (3, .istore 4), (5, .iload 4), (7, .aload_n 0), (8, .getfield 9), (11, .getfield 74), (14, .if_icmp .ge 38)],
  [(17, .aload_n 0), (18, .getfield 22), (21, .iload 4), (23, .iaload), (24, .iload_n 1), (25, .if_icmp .ne 21), (28, .iload_n 2), (29, .ifCond .eq 14)],
  [(32, .aload_n 0), (33, .getfield 19), (36, .iload 4), (38, .iaload), (39, .iconst 2), (40, .if_icmp .ne 6), (43, .iinc 3 1), (46, .iinc 4 1)],
  [(49, .goto (-44)), (52, .iload_n 3), (53, .ireturn)]])
theorem mok_V_namesakes : MOK me_V_namesakes 2 := ⟨List.mem_of_getElem? (i := 440) (by decide +kernel), List.mem_of_getElem? (i := 4) (by decide +kernel), by decide +kernel, by decide +kernel, rfl⟩
def me_V_nameBehind : MI := (⟨"BoatNames$Voyage", "nameBehind", "(II)I"⟩, prog_7_method_15_code, 4, (some .int), 5, [
  [(0, .aload_n 0), (1, .getfield 9), (4, .getfield 97), (7, .iload_n 2), (8, .iaload), (9, .iload_n 1), (10, .if_icmp .gt 17), (13, .aload_n 0), (14, .getfield 22)],
  [(17, .iload_n 2), (18, .iaload), (19, .iconst (-1)), (20, .if_icmp .eq 7), (23, .iconst 1), (24, .goto 4), (27, .iconst 0), (28, .istore_n 3), (29, .iload_n 3), (30, .ifCond .eq 12)],
  [(33, .aload_n 0), (34, .getfield 22), (37, .iload_n 2), (38, .iaload), (39, .goto 5), (42, .bipush 8), (44, .ireturn)]])
theorem mok_V_nameBehind : MOK me_V_nameBehind 2 := ⟨List.mem_of_getElem? (i := 547) (by decide +kernel), List.mem_of_getElem? (i := 4) (by decide +kernel), by decide +kernel, by decide +kernel, rfl⟩
def me_V_nameRow : MI := (⟨"BoatNames$Voyage", "nameRow", "()I"⟩, prog_7_method_16_code, 3, (some .int), 5, [
  [(0, .iconst 0), (1, .istore_n 1), (2, .iconst 0), (3, .istore_n 2), (4, .iload_n 2), (5, .aload_n 0), (6, .getfield 9), (9, .getfield 74), (12, .if_icmp .ge 23), (15, .iload_n 1)],
  [(16, .aload_n 0), (17, .bipush 23), (19, .iload_n 2), (20, .invokevirtual 131), (23, .iconst 4), (24, .iload_n 2), (25, .imul), (26, .ishl), (27, .ior), (28, .istore_n 1), (29, .iinc 2 1)],
  [(32, .goto (-28)), (35, .iload_n 1), (36, .ireturn)]])
theorem mok_V_nameRow : MOK me_V_nameRow 0 := ⟨List.mem_of_getElem? (i := 563) (by decide +kernel), List.mem_of_getElem? (i := 4) (by decide +kernel), by decide +kernel, by decide +kernel, rfl⟩
def me_N_type : MI := (⟨"BoatNames", "type", "(II)I"⟩, prog_1_method_2_code, 4, (some .int), 6, [
  [(0, .iload_n 1), (1, .iconst 2), (2, .invokestatic 73), (5, .ifCond .eq 13), (8, .iload_n 2), (9, .sipush 256), (12, .invokestatic 73), (15, .ifCond .ne 6)],
  [(18, .bipush (-2)), (20, .ireturn), (21, .aload_n 0), (22, .iload_n 1), (23, .invokevirtual 77), (26, .astore_n 3), (27, .aload_n 3), (28, .invokevirtual 81), (31, .ifCond .eq 6)],
  [(34, .bipush (-4)), (36, .ireturn), (37, .aload_n 3), (38, .iload_n 2), (39, .invokevirtual 85), (42, .aload_n 0), (43, .iload_n 1), (44, .invokevirtual 88), (47, .aload_n 3)],
  [(48, .getfield 91), (51, .ireturn)]])
theorem mok_N_type : MOK me_N_type 2 := ⟨List.mem_of_getElem? (i := 254) (by decide +kernel), List.mem_of_getElem? (i := 1) (by decide +kernel), by decide +kernel, by decide +kernel, rfl⟩
def me_N_wipe : MI := (⟨"BoatNames", "wipe", "(I)I"⟩, prog_1_method_3_code, 4, (some .int), 6, [
  [(0, .iload_n 1), (1, .iconst 2), (2, .invokestatic 73), (5, .ifCond .ne 6), (8, .bipush (-2)), (10, .ireturn), (11, .aload_n 0), (12, .iload_n 1), (13, .invokevirtual 77)],
  [(16, .astore_n 2), (17, .aload_n 2), (18, .getfield 91), (21, .istore_n 3), (22, .aload_n 2), (23, .iconst 0), (24, .putfield 91), (27, .aload_n 0), (28, .iload_n 1), (29, .invokevirtual 88)],
  [(32, .iload_n 3), (33, .ireturn)]])
theorem mok_N_wipe : MOK me_N_wipe 1 := ⟨List.mem_of_getElem? (i := 323) (by decide +kernel), List.mem_of_getElem? (i := 1) (by decide +kernel), by decide +kernel, by decide +kernel, rfl⟩
def me_N_undo : MI := (⟨"BoatNames", "undo", "(I)I"⟩, prog_1_method_4_code, 3, (some .int), 6, [
  [(0, .iload_n 1), (1, .iconst 2), (2, .invokestatic 73), (5, .ifCond .ne 6), (8, .bipush (-2)), (10, .ireturn), (11, .aload_n 0), (12, .iload_n 1), (13, .invokevirtual 77)],
  [(16, .astore_n 2), (17, .aload_n 2), (18, .getfield 91), (21, .ifCond .ne 6), (24, .bipush (-3)), (26, .ireturn), (27, .aload_n 2), (28, .dup), (29, .getfield 91)],
  [(32, .iconst 1), (33, .isub), (34, .putfield 91), (37, .aload_n 0), (38, .iload_n 1), (39, .invokevirtual 88), (42, .aload_n 2), (43, .getfield 91), (46, .ireturn)]])
theorem mok_N_undo : MOK me_N_undo 1 := ⟨List.mem_of_getElem? (i := 327) (by decide +kernel), List.mem_of_getElem? (i := 1) (by decide +kernel), by decide +kernel, by decide +kernel, rfl⟩
def me_N_fault : MI := (⟨"BoatNames", "fault", "(I)I"⟩, prog_1_method_5_code, 2, (some .int), 6, [
  [(0, .iload_n 1), (1, .iconst 2), (2, .invokestatic 73), (5, .ifCond .eq 14), (8, .aload_n 0), (9, .iload_n 1), (10, .invokevirtual 77), (13, .getfield 94)],
  [(16, .goto 5), (19, .bipush (-2)), (21, .ireturn)]])
theorem mok_N_fault : MOK me_N_fault 1 := ⟨List.mem_of_getElem? (i := 331) (by decide +kernel), List.mem_of_getElem? (i := 1) (by decide +kernel), by decide +kernel, by decide +kernel, rfl⟩
def me_N_told : MI := (⟨"BoatNames", "told", "(II)I"⟩, prog_1_method_6_code, 3, (some .int), 6, [
  [(0, .iload_n 1), (1, .iload_n 2), (2, .invokestatic 97), (5, .ifCond .eq 19), (8, .aload_n 0), (9, .getfield 24), (12, .getfield 100), (15, .iload_n 1)],
  [(16, .iload_n 2), (17, .invokestatic 103), (20, .iaload), (21, .goto 5), (24, .bipush (-2)), (26, .ireturn)]])
theorem mok_N_told : MOK me_N_told 2 := ⟨List.mem_of_getElem? (i := 335) (by decide +kernel), List.mem_of_getElem? (i := 1) (by decide +kernel), by decide +kernel, by decide +kernel, rfl⟩
def me_N_boat : MI := (⟨"BoatNames", "boat", "(II)I"⟩, prog_1_method_7_code, 3, (some .int), 6, [
  [(0, .aload_n 0), (1, .iload_n 1), (2, .invokevirtual 107), (5, .ifCond .ne 6), (8, .bipush (-2)), (10, .ireturn), (11, .iload_n 2), (12, .tableswitch 72 0 3 #[32, 42, 52, 62])],
  [],
  [(44, .aload_n 0), (45, .getfield 24)],
  [(48, .getfield 111), (51, .iload_n 1), (52, .iaload), (53, .ireturn), (54, .aload_n 0), (55, .getfield 24), (58, .getfield 114), (61, .iload_n 1), (62, .iaload), (63, .ireturn)],
  [(64, .aload_n 0), (65, .getfield 24), (68, .getfield 117), (71, .iload_n 1), (72, .iaload), (73, .ireturn), (74, .aload_n 0), (75, .getfield 24), (78, .getfield 120)],
  [(81, .iload_n 1), (82, .iaload), (83, .ireturn), (84, .bipush (-2)), (86, .ireturn)]])
theorem mok_N_boat : MOK me_N_boat 2 := ⟨List.mem_of_getElem? (i := 343) (by decide +kernel), List.mem_of_getElem? (i := 1) (by decide +kernel), by decide +kernel, by decide +kernel, rfl⟩
def me_N_event : MI := (⟨"BoatNames", "event", "(III)I"⟩, prog_1_method_8_code, 4, (some .int), 6, [
  [(0, .iload_n 1), (1, .iconst 3), (2, .invokestatic 73), (5, .ifCond .eq 21), (8, .iload_n 2), (9, .bipush 24), (11, .invokestatic 73), (14, .ifCond .eq 12)],
  [(17, .iload_n 3), (18, .bipush 8), (20, .invokestatic 73), (23, .ifCond .ne 6), (26, .bipush (-2)), (28, .ireturn), (29, .aload_n 0), (30, .getfield 24)],
  [(33, .getfield 123), (36, .bipush 8), (38, .if_icmp .lt 6), (41, .bipush (-4)), (43, .ireturn), (44, .aload_n 0), (45, .getfield 24)],
  [(48, .iload_n 1), (49, .iload_n 2), (50, .iload_n 3), (51, .invokevirtual 126), (54, .aload_n 0), (55, .getfield 24), (58, .getfield 123), (61, .ireturn)]])
theorem mok_N_event : MOK me_N_event 3 := ⟨List.mem_of_getElem? (i := 351) (by decide +kernel), List.mem_of_getElem? (i := 1) (by decide +kernel), by decide +kernel, by decide +kernel, rfl⟩
def me_N_back : MI := (⟨"BoatNames", "back", "()I"⟩, prog_1_method_9_code, 1, (some .int), 6, [
  [(0, .aload_n 0), (1, .getfield 24), (4, .getfield 123), (7, .ifCond .ne 6), (10, .bipush (-3)), (12, .ireturn), (13, .aload_n 0), (14, .getfield 24)],
  [(17, .dup), (18, .getfield 123), (21, .iconst 1), (22, .isub), (23, .putfield 123), (26, .aload_n 0), (27, .getfield 24), (30, .getfield 123)],
  [(33, .ireturn)]])
theorem mok_N_back : MOK me_N_back 0 := ⟨List.mem_of_getElem? (i := 359) (by decide +kernel), List.mem_of_getElem? (i := 1) (by decide +kernel), by decide +kernel, by decide +kernel, rfl⟩
def me_N_read : MI := (⟨"BoatNames", "read", "(I)I"⟩, prog_1_method_10_code, 6, (some .int), 6, [
  [(0, .iload_n 1), (1, .iconst 4), (2, .invokestatic 73), (5, .ifCond .ne 6), (8, .bipush (-2)), (10, .ireturn), (11, .aload_n 0), (12, .getfield 56), (15, .iload_n 1)],
  [(16, .aaload), (17, .astore_n 2), (18, .aload_n 2), (19, .getfield 130), (22, .ifCond .eq 9), (25, .aload_n 0), (26, .iconst 1), (27, .invokevirtual 134), (30, .ireturn), (31, .aload_n 2)],
  [(32, .getfield 138), (35, .iconst 3), (36, .idiv), (37, .istore_n 3), (38, .iconst 0), (39, .istore 4), (41, .iload 4), (43, .iload_n 3), (44, .if_icmp .ge 50), (47, .iconst 3)],
  [(48, .iload 4), (50, .imul), (51, .istore 5), (53, .aload_n 0), (54, .aload_n 2), (55, .getfield 139), (58, .iload 5), (60, .iaload), (61, .aload_n 2), (62, .getfield 139)],
  [(65, .iload 5), (67, .iconst 1), (68, .iadd), (69, .iaload), (70, .aload_n 2), (71, .getfield 139), (74, .iload 5), (76, .iconst 2), (77, .iadd), (78, .iaload), (79, .invokevirtual 142)],
  [(82, .ifCond .ge 6), (85, .iload 4), (87, .ireturn), (88, .iinc 4 1), (91, .goto (-50)), (94, .iload_n 3), (95, .ireturn)]])
theorem mok_N_read : MOK me_N_read 1 := ⟨List.mem_of_getElem? (i := 363) (by decide +kernel), List.mem_of_getElem? (i := 1) (by decide +kernel), by decide +kernel, by decide +kernel, rfl⟩
def me_N_hates : MI := (⟨"BoatNames", "hates", "(III)I"⟩, prog_1_method_11_code, 4, (some .int), 6, [
  [(0, .iload_n 1), (1, .bipush 24), (3, .invokestatic 73), (6, .ifCond .eq 11), (9, .iload_n 2), (10, .iload_n 3), (11, .invokestatic 97), (14, .ifCond .ne 6)],
  [(17, .bipush (-2)), (19, .ireturn), (20, .aload_n 0), (21, .getfield 36), (24, .aload_n 0), (25, .getfield 24), (28, .iload_n 1), (29, .invokevirtual 146)],
  [(32, .aload_n 0), (33, .getfield 36), (36, .getfield 150), (39, .iload_n 2), (40, .iload_n 3), (41, .invokestatic 103), (44, .iaload), (45, .ireturn)]])
theorem mok_N_hates : MOK me_N_hates 3 := ⟨List.mem_of_getElem? (i := 372) (by decide +kernel), List.mem_of_getElem? (i := 1) (by decide +kernel), by decide +kernel, by decide +kernel, rfl⟩
def me_N_at : MI := (⟨"BoatNames", "at", "(III)I"⟩, prog_1_method_12_code, 4, (some .int), 6, [
  [(0, .iload_n 1), (1, .bipush 24), (3, .invokestatic 73), (6, .ifCond .eq 19), (9, .aload_n 0), (10, .iload_n 2), (11, .invokevirtual 107), (14, .ifCond .eq 11)],
  [(17, .iload_n 3), (18, .iconst 4), (19, .invokestatic 73), (22, .ifCond .ne 6), (25, .bipush (-2)), (27, .ireturn), (28, .aload_n 0), (29, .getfield 36)],
  [(32, .aload_n 0), (33, .getfield 24), (36, .iload_n 1), (37, .invokevirtual 146), (40, .iload_n 3), (41, .tableswitch 57 0 2 #[27, 37, 47])],
  [],
  [(68, .aload_n 0), (69, .getfield 36), (72, .getfield 151), (75, .iload_n 2), (76, .iaload), (77, .ireturn), (78, .aload_n 0), (79, .getfield 36)],
  [(82, .getfield 154), (85, .iload_n 2), (86, .iaload), (87, .ireturn), (88, .aload_n 0), (89, .getfield 36), (92, .getfield 157), (95, .iload_n 2)],
  [(96, .iaload), (97, .ireturn), (98, .aload_n 0), (99, .getfield 36), (102, .getfield 160), (105, .iload_n 2), (106, .iaload), (107, .ireturn)]])
theorem mok_N_at : MOK me_N_at 3 := ⟨List.mem_of_getElem? (i := 424) (by decide +kernel), List.mem_of_getElem? (i := 1) (by decide +kernel), by decide +kernel, by decide +kernel, rfl⟩
def me_N_afloat : MI := (⟨"BoatNames", "afloat", "(I)I"⟩, prog_1_method_13_code, 2, (some .int), 6, [
  [(0, .iload_n 1), (1, .bipush 24), (3, .invokestatic 73), (6, .ifCond .ne 6), (9, .bipush (-2)), (11, .ireturn), (12, .aload_n 0), (13, .getfield 36)],
  [(16, .aload_n 0), (17, .getfield 24), (20, .iload_n 1), (21, .invokevirtual 146), (24, .aload_n 0), (25, .getfield 36), (28, .iconst 1), (29, .invokevirtual 161)],
  [(32, .ireturn)]])
theorem mok_N_afloat : MOK me_N_afloat 1 := ⟨List.mem_of_getElem? (i := 428) (by decide +kernel), List.mem_of_getElem? (i := 1) (by decide +kernel), by decide +kernel, by decide +kernel, rfl⟩
def me_N_named : MI := (⟨"BoatNames", "named", "(II)I"⟩, prog_1_method_14_code, 3, (some .int), 6, [
  [(0, .iload_n 1), (1, .bipush 8), (3, .invokestatic 73), (6, .ifCond .eq 11), (9, .iload_n 2), (10, .iconst 2), (11, .invokestatic 73), (14, .ifCond .ne 6)],
  [(17, .bipush (-2)), (19, .ireturn), (20, .aload_n 0), (21, .getfield 36), (24, .aload_n 0), (25, .getfield 24), (28, .bipush 23), (30, .invokevirtual 146)],
  [(33, .aload_n 0), (34, .getfield 36), (37, .iload_n 1), (38, .iload_n 2), (39, .iconst 1), (40, .if_icmp .ne 7), (43, .iconst 1), (44, .goto 4), (47, .iconst 0)],
  [(48, .invokevirtual 164), (51, .ireturn)]])
theorem mok_N_named : MOK me_N_named 2 := ⟨List.mem_of_getElem? (i := 436) (by decide +kernel), List.mem_of_getElem? (i := 1) (by decide +kernel), by decide +kernel, by decide +kernel, rfl⟩
def me_N_first : MI := (⟨"BoatNames", "first", "(I)I"⟩, prog_1_method_15_code, 2, (some .int), 6, [
  [(0, .iload_n 1), (1, .iconst 2), (2, .invokestatic 73), (5, .ifCond .ne 6), (8, .bipush (-2)), (10, .ireturn), (11, .aload_n 0), (12, .getfield 36), (15, .aload_n 0)],
  [(16, .getfield 24), (19, .bipush 23), (21, .invokevirtual 146), (24, .iload_n 1), (25, .ifCond .ne 13), (28, .aload_n 0), (29, .getfield 36)],
  [(32, .getfield 168), (35, .goto 10), (38, .aload_n 0), (39, .getfield 36), (42, .getfield 171), (45, .ireturn)]])
theorem mok_N_first : MOK me_N_first 1 := ⟨List.mem_of_getElem? (i := 444) (by decide +kernel), List.mem_of_getElem? (i := 1) (by decide +kernel), by decide +kernel, by decide +kernel, rfl⟩
def me_N_loved : MI := (⟨"BoatNames", "loved", "()I"⟩, prog_1_method_16_code, 3, (some .int), 6, [
  [(0, .aload_n 0), (1, .getfield 36), (4, .aload_n 0), (5, .getfield 24), (8, .bipush 23), (10, .invokevirtual 146), (13, .iconst 0), (14, .istore_n 1), (15, .iconst 0)],
  [(16, .istore_n 2), (17, .iload_n 2), (18, .bipush 8), (20, .if_icmp .ge 27), (23, .aload_n 0), (24, .getfield 36), (27, .iload_n 2), (28, .invokevirtual 174), (31, .iconst (-1))],
  [(32, .if_icmp .ne 9), (35, .iload_n 1), (36, .iconst 1), (37, .iload_n 2), (38, .ishl), (39, .ior), (40, .istore_n 1), (41, .iinc 2 1), (44, .goto (-27)), (47, .iload_n 1)],
  [(48, .ireturn)]])
theorem mok_N_loved : MOK me_N_loved 0 := ⟨List.mem_of_getElem? (i := 448) (by decide +kernel), List.mem_of_getElem? (i := 1) (by decide +kernel), by decide +kernel, by decide +kernel, rfl⟩
def me_N_bitter : MI := (⟨"BoatNames", "bitter", "()I"⟩, prog_1_method_17_code, 2, (some .int), 6, [
  [(0, .aload_n 0), (1, .getfield 36), (4, .aload_n 0), (5, .getfield 24), (8, .bipush 23), (10, .invokevirtual 146), (13, .aload_n 0), (14, .getfield 50)],
  [(17, .invokevirtual 177), (20, .iconst 0), (21, .istore_n 1), (22, .iload_n 1), (23, .bipush 8), (25, .if_icmp .ge 25), (28, .aload_n 0), (29, .getfield 50)],
  [(32, .iload_n 1), (33, .aload_n 0), (34, .getfield 36), (37, .iload_n 1), (38, .invokevirtual 180), (41, .invokevirtual 183), (44, .iinc 1 1), (47, .goto (-25))],
  [(50, .aload_n 0), (51, .getfield 50), (54, .getfield 187), (57, .ireturn)]])
theorem mok_N_bitter : MOK me_N_bitter 0 := ⟨List.mem_of_getElem? (i := 453) (by decide +kernel), List.mem_of_getElem? (i := 1) (by decide +kernel), by decide +kernel, by decide +kernel, rfl⟩
def me_N_longs : MI := (⟨"BoatNames", "longs", "(I)I"⟩, prog_1_method_18_code, 2, (some .int), 6, [
  [(0, .aload_n 0), (1, .iload_n 1), (2, .invokevirtual 107), (5, .ifCond .ne 6), (8, .bipush (-2)), (10, .ireturn), (11, .aload_n 0), (12, .getfield 36), (15, .aload_n 0)],
  [(16, .getfield 24), (19, .bipush 23), (21, .invokevirtual 146), (24, .aload_n 0), (25, .getfield 36), (28, .getfield 190), (31, .iload_n 1)],
  [(32, .iaload), (33, .ireturn)]])
theorem mok_N_longs : MOK me_N_longs 1 := ⟨List.mem_of_getElem? (i := 469) (by decide +kernel), List.mem_of_getElem? (i := 1) (by decide +kernel), by decide +kernel, by decide +kernel, rfl⟩
def me_N_wrong : MI := (⟨"BoatNames", "wrong", "(II)I"⟩, prog_1_method_19_code, 3, (some .int), 6, [
  [(0, .aload_n 0), (1, .iload_n 1), (2, .invokevirtual 107), (5, .ifCond .eq 11), (8, .iload_n 2), (9, .iconst 2), (10, .invokestatic 73), (13, .ifCond .ne 6)],
  [(16, .bipush (-2)), (18, .ireturn), (19, .aload_n 0), (20, .iload_n 1), (21, .invokevirtual 193), (24, .iload_n 2), (25, .ifCond .ne 13), (28, .aload_n 0), (29, .getfield 50)],
  [(32, .getfield 187), (35, .goto 10), (38, .aload_n 0), (39, .getfield 50), (42, .getfield 196), (45, .ireturn)]])
theorem mok_N_wrong : MOK me_N_wrong 2 := ⟨List.mem_of_getElem? (i := 473) (by decide +kernel), List.mem_of_getElem? (i := 1) (by decide +kernel), by decide +kernel, by decide +kernel, rfl⟩
def me_N_pay : MI := (⟨"BoatNames", "pay", "(II)I"⟩, prog_1_method_20_code, 3, (some .int), 6, [
  [(0, .aload_n 0), (1, .iload_n 1), (2, .invokevirtual 107), (5, .ifCond .eq 11), (8, .iload_n 2), (9, .iconst 2), (10, .invokestatic 73), (13, .ifCond .ne 6)],
  [(16, .bipush (-2)), (18, .ireturn), (19, .aload_n 0), (20, .iload_n 1), (21, .invokevirtual 199), (24, .iload_n 2), (25, .ifCond .ne 13), (28, .aload_n 0), (29, .getfield 50)],
  [(32, .getfield 187), (35, .goto 10), (38, .aload_n 0), (39, .getfield 50), (42, .getfield 196), (45, .ireturn)]])
theorem mok_N_pay : MOK me_N_pay 2 := ⟨List.mem_of_getElem? (i := 486) (by decide +kernel), List.mem_of_getElem? (i := 1) (by decide +kernel), by decide +kernel, by decide +kernel, rfl⟩
def me_N_waits : MI := (⟨"BoatNames", "waits", "(II)I"⟩, prog_1_method_21_code, 3, (some .int), 6, [
  [(0, .aload_n 0), (1, .iload_n 1), (2, .invokevirtual 107), (5, .ifCond .eq 11), (8, .iload_n 2), (9, .iconst 2), (10, .invokestatic 73), (13, .ifCond .ne 6)],
  [(16, .bipush (-2)), (18, .ireturn), (19, .aload_n 0), (20, .iload_n 1), (21, .invokevirtual 202), (24, .iload_n 2), (25, .ifCond .ne 13), (28, .aload_n 0), (29, .getfield 50)],
  [(32, .getfield 187), (35, .goto 11), (38, .aload_n 0), (39, .getfield 50), (42, .getfield 196), (45, .ineg), (46, .ireturn)]])
theorem mok_N_waits : MOK me_N_waits 2 := ⟨List.mem_of_getElem? (i := 494) (by decide +kernel), List.mem_of_getElem? (i := 1) (by decide +kernel), by decide +kernel, by decide +kernel, rfl⟩
def me_N_spare : MI := (⟨"BoatNames", "spare", "(I)I"⟩, prog_1_method_22_code, 3, (some .int), 6, [
  [(0, .iload_n 1), (1, .iconst (-1)), (2, .if_icmp .lt 8), (5, .iload_n 1), (6, .iconst 1), (7, .if_icmp .le 6), (10, .bipush (-2)), (12, .ireturn), (13, .aload_n 0), (14, .invokevirtual 205)],
  [(17, .istore_n 2), (18, .iload_n 2), (19, .iconst (-1)), (20, .if_icmp .ne 5), (23, .iconst (-1)), (24, .ireturn), (25, .iload_n 1), (26, .iconst (-1)), (27, .if_icmp .ne 10), (30, .iload_n 2), (31, .invokestatic 209)],
  [(34, .goto 8), (37, .iload_n 2), (38, .iload_n 1), (39, .invokestatic 214), (42, .ireturn)]])
theorem mok_N_spare : MOK me_N_spare 1 := ⟨List.mem_of_getElem? (i := 502) (by decide +kernel), List.mem_of_getElem? (i := 1) (by decide +kernel), by decide +kernel, by decide +kernel, rfl⟩
def me_N_seen : MI := (⟨"BoatNames", "seen", "(III)I"⟩, prog_1_method_23_code, 4, (some .int), 6, [
  [(0, .iload_n 1), (1, .bipush 24), (3, .invokestatic 73), (6, .ifCond .eq 21), (9, .iload_n 2), (10, .bipush 8), (12, .invokestatic 73), (15, .ifCond .eq 12)],
  [(18, .iload_n 3), (19, .bipush 9), (21, .invokestatic 73), (24, .ifCond .ne 6), (27, .bipush (-2)), (29, .ireturn), (30, .aload_n 0), (31, .getfield 43)],
  [(34, .getfield 217), (37, .bipush 8), (39, .if_icmp .lt 6), (42, .bipush (-4)), (44, .ireturn), (45, .aload_n 0), (46, .getfield 43)],
  [(49, .iload_n 1), (50, .iload_n 2), (51, .iload_n 3), (52, .invokevirtual 218), (55, .aload_n 0), (56, .getfield 43), (59, .getfield 217), (62, .ireturn)]])
theorem mok_N_seen : MOK me_N_seen 3 := ⟨List.mem_of_getElem? (i := 523) (by decide +kernel), List.mem_of_getElem? (i := 1) (by decide +kernel), by decide +kernel, by decide +kernel, rfl⟩
def me_N_forget : MI := (⟨"BoatNames", "forget", "()I"⟩, prog_1_method_24_code, 2, (some .int), 6, [
  [(0, .aload_n 0), (1, .getfield 43), (4, .getfield 217), (7, .istore_n 1), (8, .aload_n 0), (9, .getfield 43), (12, .iconst 0), (13, .putfield 217)],
  [(16, .iload_n 1), (17, .ireturn)]])
theorem mok_N_forget : MOK me_N_forget 0 := ⟨List.mem_of_getElem? (i := 531) (by decide +kernel), List.mem_of_getElem? (i := 1) (by decide +kernel), by decide +kernel, by decide +kernel, rfl⟩
def me_N_never : MI := (⟨"BoatNames", "never", "()I"⟩, prog_1_method_25_code, 3, (some .int), 6, [
  [(0, .aload_n 0), (1, .getfield 28), (4, .aload_n 0), (5, .getfield 24), (8, .invokevirtual 220), (11, .iconst 0), (12, .istore_n 1), (13, .iconst 0), (14, .istore_n 2), (15, .iload_n 2)],
  [(16, .aload_n 0), (17, .getfield 24), (20, .getfield 123), (23, .if_icmp .ge 32), (26, .aload_n 0), (27, .getfield 28), (30, .iconst 1), (31, .iload_n 2)],
  [(32, .ishl), (33, .putfield 223), (36, .aload_n 0), (37, .invokevirtual 226), (40, .ifCond .eq 9), (43, .iload_n 1), (44, .iconst 1), (45, .iload_n 2), (46, .ishl), (47, .ior)],
  [(48, .istore_n 1), (49, .iinc 2 1), (52, .goto (-37)), (55, .iload_n 1), (56, .ireturn)]])
theorem mok_N_never : MOK me_N_never 0 := ⟨List.mem_of_getElem? (i := 535) (by decide +kernel), List.mem_of_getElem? (i := 1) (by decide +kernel), by decide +kernel, by decide +kernel, rfl⟩
def me_N_sort : MI := (⟨"BoatNames", "sort", "(I)I"⟩, prog_1_method_26_code, 4, (some .int), 6, [
  [(0, .aload_n 0), (1, .iload_n 1), (2, .invokevirtual 107), (5, .ifCond .ne 6), (8, .bipush (-2)), (10, .ireturn), (11, .aload_n 0), (12, .getfield 28), (15, .aload_n 0)],
  [(16, .getfield 24), (19, .invokevirtual 220), (22, .iconst 0), (23, .istore_n 2), (24, .iconst 0), (25, .istore_n 3), (26, .iload_n 3), (27, .iconst 3), (28, .if_icmp .ge 32), (31, .aload_n 0)],
  [(32, .getfield 28), (35, .getfield 111), (38, .iload_n 1), (39, .iload_n 3), (40, .iastore), (41, .aload_n 0), (42, .invokevirtual 226), (45, .ifCond .eq 9)],
  [(48, .iload_n 2), (49, .iconst 1), (50, .iload_n 3), (51, .ishl), (52, .ior), (53, .istore_n 2), (54, .iinc 3 1), (57, .goto (-31)), (60, .iload_n 2), (61, .ireturn)]])
theorem mok_N_sort : MOK me_N_sort 1 := ⟨List.mem_of_getElem? (i := 551) (by decide +kernel), List.mem_of_getElem? (i := 1) (by decide +kernel), by decide +kernel, by decide +kernel, rfl⟩
def me_N_hated : MI := (⟨"BoatNames", "hated", "(II)I"⟩, prog_1_method_27_code, 3, (some .int), 6, [
  [(0, .iload_n 1), (1, .iload_n 2), (2, .invokestatic 97), (5, .ifCond .eq 12), (8, .aload_n 0), (9, .iload_n 1), (10, .iload_n 2), (11, .invokevirtual 229), (14, .goto 5)],
  [(17, .bipush (-2)), (19, .ireturn)]])
theorem mok_N_hated : MOK me_N_hated 2 := ⟨List.mem_of_getElem? (i := 555) (by decide +kernel), List.mem_of_getElem? (i := 1) (by decide +kernel), by decide +kernel, by decide +kernel, rfl⟩
def me_N_ask : MI := (⟨"BoatNames", "ask", "(II)I"⟩, prog_1_method_28_code, 3, (some .int), 6, [
  [(0, .iload_n 1), (1, .iload_n 2), (2, .invokestatic 97), (5, .ifCond .ne 6), (8, .bipush (-2)), (10, .ireturn), (11, .aload_n 0), (12, .aload_n 0), (13, .iload_n 1), (14, .iload_n 2), (15, .invokevirtual 229)],
  [(18, .invokevirtual 232), (21, .ireturn)]])
theorem mok_N_ask : MOK me_N_ask 2 := ⟨List.mem_of_getElem? (i := 568) (by decide +kernel), List.mem_of_getElem? (i := 1) (by decide +kernel), by decide +kernel, by decide +kernel, rfl⟩
def me_N_chance : MI := (⟨"BoatNames", "chance", "(III)J"⟩, prog_1_method_29_code, 4, (some .long), 6, [
  [(0, .iload_n 1), (1, .bipush 17), (3, .invokestatic 73), (6, .ifCond .eq 19), (9, .aload_n 0), (10, .iload_n 2), (11, .invokevirtual 107), (14, .ifCond .eq 11)],
  [(17, .iload_n 3), (18, .iconst 2), (19, .invokestatic 73), (22, .ifCond .ne 7), (25, .ldc2_w 237), (28, .lreturn), (29, .aload_n 0), (30, .iload_n 1), (31, .invokevirtual 239)],
  [(34, .iload_n 3), (35, .ifCond .ne 11), (38, .aload_n 0), (39, .iload_n 2), (40, .invokevirtual 242), (43, .goto 8), (46, .aload_n 0), (47, .iload_n 2)],
  [(48, .invokevirtual 246), (51, .lreturn)]])
theorem mok_N_chance : MOK me_N_chance 3 := ⟨List.mem_of_getElem? (i := 585) (by decide +kernel), List.mem_of_getElem? (i := 1) (by decide +kernel), by decide +kernel, by decide +kernel, rfl⟩
def me_N_decades : MI := (⟨"BoatNames", "decades", "(III)I"⟩, prog_1_method_30_code, 4, (some .int), 6, [
  [(0, .iload_n 2), (1, .bipush 9), (3, .invokestatic 73), (6, .ifCond .eq 11), (9, .iload_n 3), (10, .iconst 2), (11, .invokestatic 73), (14, .ifCond .ne 6)],
  [(17, .bipush (-2)), (19, .ireturn), (20, .aload_n 0), (21, .getfield 28), (24, .aload_n 0), (25, .getfield 24), (28, .invokevirtual 220), (31, .aload_n 0)],
  [(32, .getfield 28), (35, .iload_n 1), (36, .iload_n 2), (37, .invokevirtual 249), (40, .aload_n 0), (41, .getfield 36), (44, .aload_n 0), (45, .getfield 28)],
  [(48, .bipush 23), (50, .invokevirtual 146), (53, .aload_n 0), (54, .getfield 36), (57, .iload_n 3), (58, .ifCond .ne 7), (61, .iconst 2), (62, .goto 4)],
  [(65, .iconst 1), (66, .invokevirtual 161), (69, .ireturn)]])
theorem mok_N_decades : MOK me_N_decades 3 := ⟨List.mem_of_getElem? (i := 617) (by decide +kernel), List.mem_of_getElem? (i := 1) (by decide +kernel), by decide +kernel, by decide +kernel, rfl⟩
def me_N_sheet : MI := (⟨"BoatNames", "sheet", "(III)I"⟩, prog_1_method_31_code, 4, (some .int), 6, [
  [(0, .iload_n 1), (1, .iconst 4), (2, .invokestatic 73), (5, .ifCond .eq 17), (8, .iload_n 2), (9, .iconst 3), (10, .invokestatic 73), (13, .ifCond .eq 9)],
  [(16, .iload_n 3), (17, .bipush 60), (19, .if_icmp .le 6), (22, .bipush (-2)), (24, .ireturn), (25, .iload_n 3), (26, .ifCond .ge 9), (29, .aload_n 0), (30, .iconst 5), (31, .invokevirtual 134)],
  [(34, .ireturn), (35, .aload_n 0), (36, .getfield 56), (39, .iload_n 1), (40, .aaload), (41, .iload_n 2), (42, .iload_n 3), (43, .invokevirtual 252), (46, .iload_n 3), (47, .ireturn)]])
theorem mok_N_sheet : MOK me_N_sheet 3 := ⟨List.mem_of_getElem? (i := 630) (by decide +kernel), List.mem_of_getElem? (i := 1) (by decide +kernel), by decide +kernel, by decide +kernel, rfl⟩
def me_N_lose : MI := (⟨"BoatNames", "lose", "(I)I"⟩, prog_1_method_32_code, 3, (some .int), 6, [
  [(0, .iload_n 1), (1, .iconst 4), (2, .invokestatic 73), (5, .ifCond .ne 6), (8, .bipush (-2)), (10, .ireturn), (11, .aload_n 0), (12, .getfield 56), (15, .iload_n 1)],
  [(16, .aaload), (17, .astore_n 2), (18, .aload_n 2), (19, .getfield 130), (22, .ifCond .eq 9), (25, .aload_n 0), (26, .iconst 1), (27, .invokevirtual 134), (30, .ireturn), (31, .aload_n 2)],
  [(32, .iconst 1), (33, .putfield 130), (36, .aload_n 2), (37, .getfield 138), (40, .ireturn)]])
theorem mok_N_lose : MOK me_N_lose 1 := ⟨List.mem_of_getElem? (i := 639) (by decide +kernel), List.mem_of_getElem? (i := 1) (by decide +kernel), by decide +kernel, by decide +kernel, rfl⟩
def me_N_put : MI := (⟨"BoatNames", "put", "(IIII)I"⟩, prog_1_method_33_code, 6, (some .int), 6, [
  [(0, .iload_n 1), (1, .iconst 4), (2, .invokestatic 73), (5, .ifCond .eq 11), (8, .iload_n 2), (9, .iconst 3), (10, .invokestatic 73), (13, .ifCond .ne 6)],
  [(16, .bipush (-2)), (18, .ireturn), (19, .aload_n 0), (20, .getfield 56), (23, .iload_n 1), (24, .aaload), (25, .iload_n 2), (26, .iload_n 3), (27, .invokevirtual 255), (30, .istore 5)],
  [(32, .iload 5), (34, .ifCond .eq 10), (37, .aload_n 0), (38, .iload 5), (40, .invokevirtual 134), (43, .ireturn), (44, .aload_n 0), (45, .getfield 56)],
  [(48, .iload_n 1), (49, .aaload), (50, .iload_n 3), (51, .iload 4), (53, .invokevirtual 258), (56, .iconst 1), (57, .ireturn)]])
theorem mok_N_put : MOK me_N_put 4 := ⟨List.mem_of_getElem? (i := 643) (by decide +kernel), List.mem_of_getElem? (i := 1) (by decide +kernel), by decide +kernel, by decide +kernel, rfl⟩
def me_N_get : MI := (⟨"BoatNames", "get", "(III)I"⟩, prog_1_method_34_code, 5, (some .int), 6, [
  [(0, .iload_n 1), (1, .iconst 4), (2, .invokestatic 73), (5, .ifCond .eq 11), (8, .iload_n 2), (9, .iconst 3), (10, .invokestatic 73), (13, .ifCond .ne 7)],
  [(16, .ldc_w 261), (19, .ireturn), (20, .aload_n 0), (21, .getfield 56), (24, .iload_n 1), (25, .aaload), (26, .iload_n 2), (27, .iload_n 3), (28, .invokevirtual 255), (31, .istore 4)],
  [(33, .iload 4), (35, .ifCond .eq 13), (38, .aload_n 0), (39, .iload 4), (41, .putfield 69), (44, .ldc_w 261), (47, .ireturn)],
  [(48, .aload_n 0), (49, .getfield 56), (52, .iload_n 1), (53, .aaload), (54, .getfield 139), (57, .iload_n 3), (58, .iaload), (59, .ireturn)]])
theorem mok_N_get : MOK me_N_get 3 := ⟨List.mem_of_getElem? (i := 656) (by decide +kernel), List.mem_of_getElem? (i := 1) (by decide +kernel), by decide +kernel, by decide +kernel, rfl⟩
def me_N_copy : MI := (⟨"BoatNames", "copy", "(IIIII)I"⟩, prog_1_method_35_code, 8, (some .int), 6, [
  [(0, .iload_n 1), (1, .iconst 4), (2, .invokestatic 73), (5, .ifCond .eq 11), (8, .iload_n 3), (9, .iconst 4), (10, .invokestatic 73), (13, .ifCond .ne 6)],
  [(16, .bipush (-2)), (18, .ireturn), (19, .aload_n 0), (20, .getfield 56), (23, .iload_n 1), (24, .aaload), (25, .astore 6), (27, .aload_n 0), (28, .getfield 56), (31, .iload_n 3)],
  [(32, .aaload), (33, .astore 7), (35, .aload 6), (37, .getfield 130), (40, .ifCond .ne 11), (43, .aload 7), (45, .getfield 130)],
  [(48, .ifCond .eq 9), (51, .aload_n 0), (52, .iconst 1), (53, .invokevirtual 134), (56, .ireturn), (57, .aload 6), (59, .getfield 262), (62, .aload 7)],
  [(64, .getfield 262), (67, .if_icmp .eq 9), (70, .aload_n 0), (71, .iconst 4), (72, .invokevirtual 134), (75, .ireturn), (76, .aload 6), (78, .iload_n 2), (79, .iload 5)],
  [(81, .invokevirtual 265), (84, .ifCond .eq 15), (87, .aload 7), (89, .iload 4), (91, .iload 5), (93, .invokevirtual 265)],
  [(96, .ifCond .ne 9), (99, .aload_n 0), (100, .iconst 2), (101, .invokevirtual 134), (104, .ireturn), (105, .aload 6), (107, .getfield 139), (110, .iload_n 2), (111, .aload 7)],
  [(113, .getfield 139), (116, .iload 4), (118, .iload 5), (120, .invokestatic 268), (123, .iconst 1), (124, .ireturn)]])
theorem mok_N_copy : MOK me_N_copy 5 := ⟨List.mem_of_getElem? (i := 661) (by decide +kernel), List.mem_of_getElem? (i := 1) (by decide +kernel), by decide +kernel, by decide +kernel, rfl⟩
def me_N_write : MI := (⟨"BoatNames", "write", "(II)I"⟩, prog_1_method_36_code, 6, (some .int), 6, [
  [(0, .aload_n 0), (1, .iload_n 1), (2, .invokevirtual 107), (5, .ifCond .eq 11), (8, .iload_n 2), (9, .iconst 4), (10, .invokestatic 73), (13, .ifCond .ne 6)],
  [(16, .bipush (-2)), (18, .ireturn), (19, .aload_n 0), (20, .getfield 56), (23, .iload_n 2), (24, .aaload), (25, .astore_n 3), (26, .aload_n 3), (27, .getfield 130), (30, .ifCond .eq 9)],
  [(33, .aload_n 0), (34, .iconst 1), (35, .invokevirtual 134), (38, .ireturn), (39, .aload_n 3), (40, .getfield 138), (43, .bipush 24), (45, .invokestatic 274)],
  [(48, .istore 4), (50, .aload_n 0), (51, .getfield 36), (54, .aload_n 0), (55, .getfield 24), (58, .invokevirtual 279), (61, .iconst 0), (62, .istore 5)],
  [(64, .iload 5), (66, .iload 4), (68, .if_icmp .ge 33), (71, .aload_n 0), (72, .getfield 36), (75, .iload 5), (77, .invokevirtual 282)],
  [(80, .aload_n 3), (81, .iload 5), (83, .aload_n 0), (84, .getfield 36), (87, .getfield 157), (90, .iload_n 1), (91, .iaload), (92, .invokevirtual 258), (95, .iinc 5 1)],
  [(98, .goto (-34)), (101, .iload 4), (103, .ireturn)]])
theorem mok_N_write : MOK me_N_write 2 := ⟨List.mem_of_getElem? (i := 670) (by decide +kernel), List.mem_of_getElem? (i := 1) (by decide +kernel), by decide +kernel, by decide +kernel, rfl⟩
def me_N_count : MI := (⟨"BoatNames", "count", "(I)I"⟩, prog_1_method_37_code, 2, (some .int), 6, [
  [(0, .iload_n 1), (1, .tableswitch 147 0 8 #[51, 59, 67, 75, 83, 91, 113, 134, 142])],
  [],
  [],
  [(52, .aload_n 0), (53, .getfield 24), (56, .getfield 285), (59, .ireturn), (60, .aload_n 0), (61, .getfield 24)],
  [(64, .getfield 288), (67, .ireturn), (68, .aload_n 0), (69, .getfield 14), (72, .getfield 91), (75, .ireturn), (76, .aload_n 0), (77, .getfield 18)],
  [(80, .getfield 91), (83, .ireturn), (84, .aload_n 0), (85, .getfield 24), (88, .getfield 123), (91, .ireturn), (92, .aload_n 0), (93, .getfield 36)],
  [(96, .aload_n 0), (97, .getfield 24), (100, .bipush 23), (102, .invokevirtual 146), (105, .aload_n 0), (106, .getfield 36), (109, .iconst 2), (110, .invokevirtual 161)],
  [(113, .ireturn), (114, .aload_n 0), (115, .getfield 36), (118, .aload_n 0), (119, .getfield 24), (122, .bipush 23), (124, .invokevirtual 146), (127, .aload_n 0)],
  [(128, .getfield 36), (131, .invokevirtual 291), (134, .ireturn), (135, .aload_n 0), (136, .getfield 43), (139, .getfield 217), (142, .ireturn), (143, .aload_n 0)],
  [(144, .getfield 69), (147, .ireturn), (148, .bipush (-2)), (150, .ireturn)]])
theorem mok_N_count : MOK me_N_count 1 := ⟨List.mem_of_getElem? (i := 679) (by decide +kernel), List.mem_of_getElem? (i := 1) (by decide +kernel), by decide +kernel, by decide +kernel, rfl⟩
def me_N_digest : MI := (⟨"BoatNames", "digest", "()J"⟩, prog_1_method_38_code, 4, (some .long), 6, [
  [(0, .ldc2_w 294), (3, .lstore_n 1), (4, .iconst 0), (5, .istore_n 3), (6, .iload_n 3), (7, .bipush 8), (9, .if_icmp .ge 22), (12, .ldc2_w 296), (15, .lload_n 1)],
  [(16, .lmul), (17, .aload_n 0), (18, .iload_n 3), (19, .invokevirtual 298), (22, .i2l), (23, .ladd), (24, .lstore_n 1), (25, .iinc 3 1), (28, .goto (-22)), (31, .ldc2_w 296)],
  [(34, .lload_n 1), (35, .lmul), (36, .aload_n 0), (37, .iconst 0), (38, .invokevirtual 301), (41, .i2l), (42, .ladd), (43, .lstore_n 1), (44, .ldc2_w 296), (47, .lload_n 1)],
  [(48, .lmul), (49, .aload_n 0), (50, .iconst 1), (51, .invokevirtual 301), (54, .i2l), (55, .ladd), (56, .lstore_n 1), (57, .aload_n 0), (58, .iconst 5), (59, .invokevirtual 239), (62, .iconst 0), (63, .istore_n 3)],
  [(64, .iload_n 3), (65, .aload_n 0), (66, .getfield 24), (69, .getfield 288), (72, .if_icmp .ge 16), (75, .aload_n 0), (76, .lload_n 1), (77, .iload_n 3), (78, .invokevirtual 303)],
  [(81, .lstore_n 1), (82, .iinc 3 1), (85, .goto (-21)), (88, .iconst 0), (89, .istore_n 3), (90, .iload_n 3), (91, .bipush 8), (93, .if_icmp .ge 16)],
  [(96, .aload_n 0), (97, .lload_n 1), (98, .iload_n 3), (99, .invokevirtual 307), (102, .lstore_n 1), (103, .iinc 3 1), (106, .goto (-16)), (109, .iconst 0), (110, .istore_n 3), (111, .iload_n 3)],
  [(112, .bipush 24), (114, .if_icmp .ge 22), (117, .ldc2_w 296), (120, .lload_n 1), (121, .lmul), (122, .aload_n 0), (123, .iload_n 3), (124, .invokevirtual 310), (127, .i2l)],
  [(128, .ladd), (129, .lstore_n 1), (130, .iinc 3 1), (133, .goto (-22)), (136, .ldc2_w 296), (139, .lload_n 1), (140, .lmul), (141, .aload_n 0), (142, .iconst 0), (143, .invokevirtual 313)],
  [(146, .i2l), (147, .ladd), (148, .lstore_n 1), (149, .ldc2_w 296), (152, .lload_n 1), (153, .lmul), (154, .aload_n 0), (155, .iconst 1), (156, .invokevirtual 313), (159, .i2l)],
  [(160, .ladd), (161, .lstore_n 1), (162, .ldc2_w 296), (165, .lload_n 1), (166, .lmul), (167, .aload_n 0), (168, .invokevirtual 316), (171, .i2l), (172, .ladd), (173, .lstore_n 1), (174, .ldc2_w 296)],
  [(177, .lload_n 1), (178, .lmul), (179, .aload_n 0), (180, .invokevirtual 319), (183, .i2l), (184, .ladd), (185, .lstore_n 1), (186, .ldc2_w 296), (189, .lload_n 1), (190, .lmul), (191, .aload_n 0)],
  [(192, .iconst (-1)), (193, .invokevirtual 322), (196, .i2l), (197, .ladd), (198, .lstore_n 1), (199, .ldc2_w 296), (202, .lload_n 1), (203, .lmul), (204, .aload_n 0), (205, .iconst 0), (206, .invokevirtual 322)],
  [(209, .i2l), (210, .ladd), (211, .lstore_n 1), (212, .ldc2_w 296), (215, .lload_n 1), (216, .lmul), (217, .aload_n 0), (218, .invokevirtual 325), (221, .i2l), (222, .ladd), (223, .lstore_n 1)],
  [(224, .ldc2_w 296), (227, .lload_n 1), (228, .lmul), (229, .aload_n 0), (230, .bipush 7), (232, .bipush 6), (234, .iconst 0), (235, .invokevirtual 328), (238, .i2l), (239, .ladd)],
  [(240, .lstore_n 1), (241, .ldc2_w 296), (244, .lload_n 1), (245, .lmul), (246, .aload_n 0), (247, .bipush 7), (249, .bipush 6), (251, .iconst 1), (252, .invokevirtual 328), (255, .i2l)],
  [(256, .ladd), (257, .lreturn)]])
theorem mok_N_digest : MOK me_N_digest 0 := ⟨List.mem_of_getElem? (i := 688) (by decide +kernel), List.mem_of_getElem? (i := 1) (by decide +kernel), by decide +kernel, by decide +kernel, rfl⟩
def me_N_digestBoat : MI := (⟨"BoatNames", "digestBoat", "(JI)J"⟩, prog_1_method_39_code, 7, (some .long), 6, [
  [(0, .lload_n 1), (1, .lstore 4), (3, .iconst 0), (4, .istore 6), (6, .iload 6), (8, .iconst 4), (9, .if_icmp .ge 26), (12, .ldc2_w 296), (15, .lload 4)],
  [(17, .lmul), (18, .aload_n 0), (19, .iload_n 3), (20, .iload 6), (22, .invokevirtual 331), (25, .i2l), (26, .ladd), (27, .lstore 4), (29, .iinc 6 1)],
  [(32, .goto (-26)), (35, .aload_n 0), (36, .lload 4), (38, .iload_n 3), (39, .iconst 0), (40, .invokevirtual 334), (43, .lstore 4), (45, .aload_n 0), (46, .lload 4)],
  [(48, .iload_n 3), (49, .bipush 7), (51, .invokevirtual 334), (54, .lstore 4), (56, .aload_n 0), (57, .lload 4), (59, .iload_n 3), (60, .bipush 15), (62, .invokevirtual 334)],
  [(65, .lstore 4), (67, .aload_n 0), (68, .lload 4), (70, .iload_n 3), (71, .bipush 23), (73, .invokevirtual 334), (76, .lstore 4), (78, .ldc2_w 296)],
  [(81, .lload 4), (83, .lmul), (84, .aload_n 0), (85, .iload_n 3), (86, .invokevirtual 338), (89, .i2l), (90, .ladd), (91, .lstore 4), (93, .aload_n 0), (94, .iload_n 3), (95, .invokevirtual 193)],
  [(98, .ldc2_w 296), (101, .lload 4), (103, .lmul), (104, .aload_n 0), (105, .getfield 50), (108, .getfield 187), (111, .i2l)],
  [(112, .ladd), (113, .lstore 4), (115, .ldc2_w 296), (118, .lload 4), (120, .lmul), (121, .aload_n 0), (122, .getfield 50), (125, .getfield 196)],
  [(128, .i2l), (129, .ladd), (130, .lstore 4), (132, .aload_n 0), (133, .iload_n 3), (134, .invokevirtual 199), (137, .ldc2_w 296), (140, .lload 4), (142, .lmul), (143, .aload_n 0)],
  [(144, .getfield 50), (147, .getfield 187), (150, .i2l), (151, .ladd), (152, .lstore 4), (154, .ldc2_w 296), (157, .lload 4), (159, .lmul)],
  [(160, .aload_n 0), (161, .getfield 50), (164, .getfield 196), (167, .i2l), (168, .ladd), (169, .lstore 4), (171, .aload_n 0), (172, .iload_n 3), (173, .invokevirtual 202)],
  [(176, .ldc2_w 296), (179, .lload 4), (181, .lmul), (182, .aload_n 0), (183, .getfield 50), (186, .getfield 187), (189, .i2l), (190, .ladd), (191, .lstore 4)],
  [(193, .ldc2_w 296), (196, .lload 4), (198, .lmul), (199, .aload_n 0), (200, .getfield 50), (203, .getfield 196), (206, .i2l), (207, .lsub)],
  [(208, .lstore 4), (210, .ldc2_w 296), (213, .lload 4), (215, .lmul), (216, .aload_n 0), (217, .iload_n 3), (218, .invokevirtual 341), (221, .i2l), (222, .ladd), (223, .lstore 4)],
  [(225, .ldc2_w 296), (228, .lload 4), (230, .lmul), (231, .aload_n 0), (232, .iload_n 3), (233, .invokevirtual 242), (236, .ladd), (237, .lstore 4), (239, .ldc2_w 296)],
  [(242, .lload 4), (244, .lmul), (245, .aload_n 0), (246, .iload_n 3), (247, .invokevirtual 246), (250, .ladd), (251, .lreturn)]])
theorem mok_N_digestBoat : MOK me_N_digestBoat 2 := ⟨List.mem_of_getElem? (i := 696) (by decide +kernel), List.mem_of_getElem? (i := 1) (by decide +kernel), by decide +kernel, by decide +kernel, rfl⟩
def me_N_digestWeek : MI := (⟨"BoatNames", "digestWeek", "(JII)J"⟩, prog_1_method_40_code, 8, (some .long), 6, [
  [(0, .lload_n 1), (1, .lstore 5), (3, .iconst 0), (4, .istore 7), (6, .iload 7), (8, .iconst 4), (9, .if_icmp .ge 28), (12, .ldc2_w 296), (15, .lload 5)],
  [(17, .lmul), (18, .aload_n 0), (19, .iload 4), (21, .iload_n 3), (22, .iload 7), (24, .invokevirtual 344), (27, .i2l), (28, .ladd), (29, .lstore 5), (31, .iinc 7 1)],
  [(34, .goto (-28)), (37, .lload 5), (39, .lreturn)]])
theorem mok_N_digestWeek : MOK me_N_digestWeek 3 := ⟨List.mem_of_getElem? (i := 701) (by decide +kernel), List.mem_of_getElem? (i := 1) (by decide +kernel), by decide +kernel, by decide +kernel, rfl⟩
def me_N_digestPerson : MI := (⟨"BoatNames", "digestPerson", "(JI)J"⟩, prog_1_method_41_code, 8, (some .long), 6, [
  [(0, .iload_n 3), (1, .iconst 1), (2, .iadd), (3, .bipush 8), (5, .irem), (6, .istore 4), (8, .ldc2_w 296), (11, .lload_n 1), (12, .lmul), (13, .aload_n 0), (14, .iload_n 3), (15, .iconst 0)],
  [(16, .invokevirtual 347), (19, .i2l), (20, .ladd), (21, .lstore 5), (23, .ldc2_w 296), (26, .lload 5), (28, .lmul), (29, .aload_n 0), (30, .iload_n 3), (31, .iconst 1)],
  [(32, .invokevirtual 347), (35, .i2l), (36, .ladd), (37, .lstore 5), (39, .ldc2_w 296), (42, .lload 5), (44, .lmul), (45, .aload_n 0), (46, .bipush 23)],
  [(48, .iload_n 3), (49, .iload 4), (51, .invokevirtual 350), (54, .i2l), (55, .ladd), (56, .lstore 5), (58, .aload_n 0), (59, .iload_n 3), (60, .iload 4), (62, .invokevirtual 229)],
  [(65, .istore 7), (67, .ldc2_w 296), (70, .lload 5), (72, .lmul), (73, .iload 7), (75, .i2l), (76, .ladd), (77, .lstore 5), (79, .ldc2_w 296)],
  [(82, .lload 5), (84, .lmul), (85, .aload_n 0), (86, .iload 7), (88, .invokevirtual 232), (91, .i2l), (92, .ladd), (93, .lreturn)]])
theorem mok_N_digestPerson : MOK me_N_digestPerson 2 := ⟨List.mem_of_getElem? (i := 708) (by decide +kernel), List.mem_of_getElem? (i := 1) (by decide +kernel), by decide +kernel, by decide +kernel, rfl⟩
def me_N_isBelow : MI := (⟨"BoatNames", "isBelow", "(II)Z"⟩, prog_1_method_42_code, 2, (some .boolean), 6, [
  [(0, .iload_n 0), (1, .ifCond .lt 12), (4, .iload_n 0), (5, .iload_n 1), (6, .if_icmp .ge 7), (9, .iconst 1), (10, .goto 4), (13, .iconst 0), (14, .ireturn)]])
theorem mok_N_isBelow : MOK me_N_isBelow 2 := ⟨List.mem_of_getElem? (i := 257) (by decide +kernel), List.mem_of_getElem? (i := 1) (by decide +kernel), by decide +kernel, by decide +kernel, rfl⟩
def me_N_areTwo : MI := (⟨"BoatNames", "areTwo", "(II)Z"⟩, prog_1_method_43_code, 2, (some .boolean), 6, [
  [(0, .iload_n 0), (1, .bipush 8), (3, .invokestatic 73), (6, .ifCond .eq 21), (9, .iload_n 1), (10, .bipush 8), (12, .invokestatic 73), (15, .ifCond .eq 12)],
  [(18, .iload_n 0), (19, .iload_n 1), (20, .if_icmp .eq 7), (23, .iconst 1), (24, .goto 4), (27, .iconst 0), (28, .ireturn)]])
theorem mok_N_areTwo : MOK me_N_areTwo 2 := ⟨List.mem_of_getElem? (i := 338) (by decide +kernel), List.mem_of_getElem? (i := 1) (by decide +kernel), by decide +kernel, by decide +kernel, rfl⟩
def me_N_pair : MI := (⟨"BoatNames", "pair", "(II)I"⟩, prog_1_method_44_code, 2, (some .int), 6, [
  [(0, .iload_n 0), (1, .bipush 8), (3, .imul), (4, .iload_n 1), (5, .iadd), (6, .ireturn)]])
theorem mok_N_pair : MOK me_N_pair 2 := ⟨List.mem_of_getElem? (i := 303) (by decide +kernel), List.mem_of_getElem? (i := 1) (by decide +kernel), by decide +kernel, by decide +kernel, rfl⟩
def me_N_isBoat : MI := (⟨"BoatNames", "isBoat", "(I)Z"⟩, prog_1_method_45_code, 2, (some .boolean), 6, [
  [(0, .iload_n 1), (1, .aload_n 0), (2, .getfield 24), (5, .getfield 288), (8, .invokestatic 73), (11, .ireturn)]])
theorem mok_N_isBoat : MOK me_N_isBoat 1 := ⟨List.mem_of_getElem? (i := 347) (by decide +kernel), List.mem_of_getElem? (i := 1) (by decide +kernel), by decide +kernel, by decide +kernel, rfl⟩
def me_N_textOf : MI := (⟨"BoatNames", "textOf", "(I)LBoatNames$Text;"⟩, prog_1_method_46_code, 2, (some (.object "BoatNames$Text")), 6, [
  [(0, .iload_n 1), (1, .ifCond .ne 10), (4, .aload_n 0), (5, .getfield 14), (8, .goto 7), (11, .aload_n 0), (12, .getfield 18), (15, .areturn)]])
theorem mok_N_textOf : MOK me_N_textOf 1 := ⟨List.mem_of_getElem? (i := 261) (by decide +kernel), List.mem_of_getElem? (i := 1) (by decide +kernel), by decide +kernel, by decide +kernel, rfl⟩
def me_N_hear : MI := (⟨"BoatNames", "hear", "(I)V"⟩, prog_1_method_47_code, 2, none, 6, [
  [(0, .iload_n 1), (1, .ifCond .ne 17), (4, .aload_n 0), (5, .getfield 24), (8, .aload_n 0), (9, .getfield 14), (12, .invokevirtual 352), (15, .goto 14)],
  [(18, .aload_n 0), (19, .getfield 24), (22, .aload_n 0), (23, .getfield 18), (26, .invokevirtual 356), (29, .return_)]])
theorem mok_N_hear : MOK me_N_hear 1 := ⟨List.mem_of_getElem? (i := 273) (by decide +kernel), List.mem_of_getElem? (i := 1) (by decide +kernel), by decide +kernel, by decide +kernel, rfl⟩
def me_N_find : MI := (⟨"BoatNames", "find", "(I)I"⟩, prog_1_method_48_code, 2, (some .int), 6, [
  [(0, .aload_n 0), (1, .iload_n 1), (2, .putfield 69), (5, .bipush (-10)), (7, .iload_n 1), (8, .isub), (9, .ireturn)]])
theorem mok_N_find : MOK me_N_find 1 := ⟨List.mem_of_getElem? (i := 367) (by decide +kernel), List.mem_of_getElem? (i := 1) (by decide +kernel), by decide +kernel, by decide +kernel, rfl⟩
def me_N_seekWrong : MI := (⟨"BoatNames", "seekWrong", "(I)V"⟩, prog_1_method_49_code, 4, none, 6, [
  [(0, .aload_n 0), (1, .getfield 24), (4, .getfield 114), (7, .iload_n 1), (8, .iaload), (9, .istore_n 2), (10, .aload_n 0), (11, .getfield 50), (14, .invokevirtual 177)],
  [(17, .iconst 0), (18, .istore_n 3), (19, .iload_n 3), (20, .bipush 8), (22, .if_icmp .ge 69), (25, .iload_n 3), (26, .iload_n 2), (27, .if_icmp .eq 58), (30, .aload_n 0), (31, .getfield 28)],
  [(34, .aload_n 0), (35, .getfield 24), (38, .invokevirtual 220), (41, .aload_n 0), (42, .getfield 28), (45, .getfield 100)],
  [(48, .iload_n 3), (49, .iload_n 2), (50, .invokestatic 103), (53, .iconst 5), (54, .iastore), (55, .aload_n 0), (56, .getfield 36), (59, .aload_n 0), (60, .getfield 28), (63, .bipush 23)],
  [(65, .invokevirtual 146), (68, .aload_n 0), (69, .getfield 50), (72, .iload_n 3), (73, .aload_n 0), (74, .getfield 36), (77, .getfield 190)],
  [(80, .iload_n 1), (81, .iaload), (82, .invokevirtual 183), (85, .iinc 3 1), (88, .goto (-69)), (91, .return_)]])
theorem mok_N_seekWrong : MOK me_N_seekWrong 1 := ⟨List.mem_of_getElem? (i := 477) (by decide +kernel), List.mem_of_getElem? (i := 1) (by decide +kernel), by decide +kernel, by decide +kernel, rfl⟩
def me_N_seekPay : MI := (⟨"BoatNames", "seekPay", "(I)V"⟩, prog_1_method_50_code, 3, none, 6, [
  [(0, .aload_n 0), (1, .getfield 50), (4, .invokevirtual 177), (7, .iconst 0), (8, .istore_n 2), (9, .iload_n 2), (10, .bipush 24), (12, .if_icmp .ge 60), (15, .aload_n 0)],
  [(16, .getfield 28), (19, .aload_n 0), (20, .getfield 24), (23, .invokevirtual 220), (26, .aload_n 0), (27, .getfield 28), (30, .iconst 1), (31, .iload_n 2)],
  [(32, .iload_n 1), (33, .invokevirtual 126), (36, .aload_n 0), (37, .getfield 36), (40, .aload_n 0), (41, .getfield 28), (44, .bipush 23), (46, .invokevirtual 146)],
  [(49, .aload_n 0), (50, .getfield 50), (53, .iload_n 2), (54, .aload_n 0), (55, .getfield 36), (58, .getfield 190), (61, .iload_n 1), (62, .iaload), (63, .invokevirtual 183)],
  [(66, .iinc 2 1), (69, .goto (-60)), (72, .return_)]])
theorem mok_N_seekPay : MOK me_N_seekPay 1 := ⟨List.mem_of_getElem? (i := 490) (by decide +kernel), List.mem_of_getElem? (i := 1) (by decide +kernel), by decide +kernel, by decide +kernel, rfl⟩
def me_N_seekWait : MI := (⟨"BoatNames", "seekWait", "(I)V"⟩, prog_1_method_51_code, 3, none, 6, [
  [(0, .aload_n 0), (1, .getfield 28), (4, .aload_n 0), (5, .getfield 24), (8, .invokevirtual 220), (11, .aload_n 0), (12, .getfield 50), (15, .invokevirtual 177)],
  [(18, .iconst 0), (19, .istore_n 2), (20, .iload_n 2), (21, .bipush 24), (23, .if_icmp .ge 49), (26, .aload_n 0), (27, .getfield 28), (30, .getfield 117)],
  [(33, .iload_n 1), (34, .iload_n 2), (35, .iastore), (36, .aload_n 0), (37, .getfield 36), (40, .aload_n 0), (41, .getfield 28), (44, .bipush 23), (46, .invokevirtual 146)],
  [(49, .aload_n 0), (50, .getfield 50), (53, .iload_n 2), (54, .aload_n 0), (55, .getfield 36), (58, .iconst 2), (59, .invokevirtual 161), (62, .ineg), (63, .invokevirtual 183)],
  [(66, .iinc 2 1), (69, .goto (-49)), (72, .return_)]])
theorem mok_N_seekWait : MOK me_N_seekWait 1 := ⟨List.mem_of_getElem? (i := 498) (by decide +kernel), List.mem_of_getElem? (i := 1) (by decide +kernel), by decide +kernel, by decide +kernel, rfl⟩
def me_N_spareBits : MI := (⟨"BoatNames", "spareBits", "()I"⟩, prog_1_method_52_code, 3, (some .int), 6, [
  [(0, .aload_n 0), (1, .getfield 28), (4, .aload_n 0), (5, .getfield 24), (8, .invokevirtual 220), (11, .aload_n 0), (12, .iconst 0), (13, .invokevirtual 359)],
  [(16, .ifCond .eq 5), (19, .iconst 0), (20, .ireturn), (21, .iconst 0), (22, .istore_n 1), (23, .iload_n 1), (24, .aload_n 0), (25, .getfield 24), (28, .getfield 123), (31, .if_icmp .ge 23)],
  [(34, .aload_n 0), (35, .iconst 1), (36, .iload_n 1), (37, .ishl), (38, .invokevirtual 359), (41, .ifCond .eq 7), (44, .iconst 1), (45, .iload_n 1), (46, .ishl), (47, .ireturn)],
  [(48, .iinc 1 1), (51, .goto (-28)), (54, .iconst 0), (55, .istore_n 1), (56, .iload_n 1), (57, .aload_n 0), (58, .getfield 24), (61, .getfield 123)],
  [(64, .if_icmp .ge 52), (67, .iload_n 1), (68, .iconst 1), (69, .iadd), (70, .istore_n 2), (71, .iload_n 2), (72, .aload_n 0), (73, .getfield 24), (76, .getfield 123), (79, .if_icmp .ge 31)],
  [(82, .aload_n 0), (83, .iconst 1), (84, .iload_n 1), (85, .ishl), (86, .iconst 1), (87, .iload_n 2), (88, .ishl), (89, .ior), (90, .invokevirtual 359), (93, .ifCond .eq 11)],
  [(96, .iconst 1), (97, .iload_n 1), (98, .ishl), (99, .iconst 1), (100, .iload_n 2), (101, .ishl), (102, .ior), (103, .ireturn), (104, .iinc 2 1), (107, .goto (-36)), (110, .iinc 1 1)],
  [(113, .goto (-57)), (116, .iconst (-1)), (117, .ireturn)]])
theorem mok_N_spareBits : MOK me_N_spareBits 0 := ⟨List.mem_of_getElem? (i := 506) (by decide +kernel), List.mem_of_getElem? (i := 1) (by decide +kernel), by decide +kernel, by decide +kernel, rfl⟩
def me_N_isSafeWithout : MI := (⟨"BoatNames", "isSafeWithout", "(I)Z"⟩, prog_1_method_53_code, 2, (some .boolean), 6, [
  [(0, .aload_n 0), (1, .getfield 28), (4, .iload_n 1), (5, .putfield 223), (8, .aload_n 0), (9, .getfield 36), (12, .aload_n 0), (13, .getfield 28)],
  [(16, .bipush 23), (18, .invokevirtual 146), (21, .aload_n 0), (22, .getfield 36), (25, .getfield 168), (28, .iconst (-1)), (29, .if_icmp .ne 7)],
  [(32, .iconst 1), (33, .goto 4), (36, .iconst 0), (37, .ireturn)]])
theorem mok_N_isSafeWithout : MOK me_N_isSafeWithout 1 := ⟨List.mem_of_getElem? (i := 510) (by decide +kernel), List.mem_of_getElem? (i := 1) (by decide +kernel), by decide +kernel, by decide +kernel, rfl⟩
def me_N_placeOfBit : MI := (⟨"BoatNames", "placeOfBit", "(II)I"⟩, prog_1_method_54_code, 4, (some .int), 6, [
  [(0, .iconst 0), (1, .istore_n 2), (2, .iconst 0), (3, .istore_n 3), (4, .iload_n 3), (5, .bipush 8), (7, .if_icmp .ge 28), (10, .iload_n 0), (11, .iload_n 3), (12, .ishr), (13, .iconst 1), (14, .iand), (15, .iconst 1)],
  [(16, .if_icmp .ne 13), (19, .iload_n 2), (20, .iload_n 1), (21, .if_icmp .ne 5), (24, .iload_n 3), (25, .ireturn), (26, .iinc 2 1), (29, .iinc 3 1)],
  [(32, .goto (-28)), (35, .iconst (-1)), (36, .ireturn)]])
theorem mok_N_placeOfBit : MOK me_N_placeOfBit 2 := ⟨List.mem_of_getElem? (i := 519) (by decide +kernel), List.mem_of_getElem? (i := 1) (by decide +kernel), by decide +kernel, by decide +kernel, rfl⟩
def me_N_trialComesOutSo : MI := (⟨"BoatNames", "trialComesOutSo", "()Z"⟩, prog_1_method_55_code, 1, (some .boolean), 6, [
  [(0, .aload_n 0), (1, .getfield 36), (4, .aload_n 0), (5, .getfield 28), (8, .bipush 23), (10, .invokevirtual 146), (13, .aload_n 0), (14, .getfield 43)],
  [(17, .aload_n 0), (18, .getfield 36), (21, .invokevirtual 362), (24, .ireturn)]])
theorem mok_N_trialComesOutSo : MOK me_N_trialComesOutSo 0 := ⟨List.mem_of_getElem? (i := 539) (by decide +kernel), List.mem_of_getElem? (i := 1) (by decide +kernel), by decide +kernel, by decide +kernel, rfl⟩
def me_N_seekHated : MI := (⟨"BoatNames", "seekHated", "(II)I"⟩, prog_1_method_56_code, 5, (some .int), 6, [
  [(0, .aload_n 0), (1, .getfield 28), (4, .aload_n 0), (5, .getfield 24), (8, .invokevirtual 220), (11, .iconst 0), (12, .istore_n 3), (13, .iconst 0), (14, .istore 4)],
  [(16, .iload 4), (18, .bipush 9), (20, .if_icmp .gt 52), (23, .aload_n 0), (24, .getfield 28), (27, .getfield 100), (30, .iload_n 1), (31, .iload_n 2)],
  [(32, .invokestatic 103), (35, .iload 4), (37, .iastore), (38, .aload_n 0), (39, .invokevirtual 226), (42, .ifCond .eq 10), (45, .iload_n 3), (46, .iconst 1), (47, .iload 4)],
  [(49, .ishl), (50, .ior), (51, .istore_n 3), (52, .aload_n 0), (53, .getfield 65), (56, .iload 4), (58, .aload_n 0), (59, .getfield 36), (62, .invokevirtual 366)],
  [(65, .iastore), (66, .iinc 4 1), (69, .goto (-53)), (72, .iload_n 3), (73, .ireturn)]])
theorem mok_N_seekHated : MOK me_N_seekHated 2 := ⟨List.mem_of_getElem? (i := 559) (by decide +kernel), List.mem_of_getElem? (i := 1) (by decide +kernel), by decide +kernel, by decide +kernel, rfl⟩
def me_N_weekToAsk : MI := (⟨"BoatNames", "weekToAsk", "(I)I"⟩, prog_1_method_57_code, 3, (some .int), 6, [
  [(0, .aload_n 0), (1, .getfield 50), (4, .invokevirtual 177), (7, .iconst 0), (8, .istore_n 2), (9, .iload_n 2), (10, .bipush 24), (12, .if_icmp .ge 31), (15, .aload_n 0)],
  [(16, .getfield 50), (19, .iload_n 2), (20, .aload_n 0), (21, .iload_n 1), (22, .aload_n 0), (23, .getfield 24), (26, .iload_n 2), (27, .invokevirtual 369), (30, .invokevirtual 372)],
  [(33, .ineg), (34, .invokevirtual 183), (37, .iinc 2 1), (40, .goto (-31)), (43, .aload_n 0), (44, .getfield 50), (47, .getfield 187)],
  [(50, .ireturn)]])
theorem mok_N_weekToAsk : MOK me_N_weekToAsk 1 := ⟨List.mem_of_getElem? (i := 572) (by decide +kernel), List.mem_of_getElem? (i := 1) (by decide +kernel), by decide +kernel, by decide +kernel, rfl⟩
def me_N_greatestGroup : MI := (⟨"BoatNames", "greatestGroup", "(II)I"⟩, prog_1_method_58_code, 8, (some .int), 6, [
  [(0, .iconst 0), (1, .istore_n 3), (2, .iconst 0), (3, .istore 4), (5, .iload 4), (7, .bipush 9), (9, .if_icmp .gt 85), (12, .iconst 0), (13, .istore 5), (15, .iconst 0)],
  [(16, .istore 6), (18, .iload 6), (20, .bipush 9), (22, .if_icmp .gt 59), (25, .iload_n 1), (26, .iload 4), (28, .ishr), (29, .iload_n 1), (30, .iload 6)],
  [(32, .ishr), (33, .iand), (34, .iconst 1), (35, .iand), (36, .iconst 1), (37, .if_icmp .ne 7), (40, .iconst 1), (41, .goto 4), (44, .iconst 0), (45, .istore 7), (47, .iload 7)],
  [(49, .ifCond .eq 26), (52, .aload_n 0), (53, .getfield 65), (56, .iload 4), (58, .iaload), (59, .aload_n 0), (60, .getfield 65), (63, .iload 6)],
  [(65, .iaload), (66, .ixor), (67, .iload_n 2), (68, .iand), (69, .ifCond .ne 6), (72, .iinc 5 1), (75, .iinc 6 1), (78, .goto (-60))],
  [(81, .iload_n 3), (82, .iload 5), (84, .invokestatic 375), (87, .istore_n 3), (88, .iinc 4 1), (91, .goto (-86)), (94, .iload_n 3), (95, .ireturn)]])
theorem mok_N_greatestGroup : MOK me_N_greatestGroup 2 := ⟨List.mem_of_getElem? (i := 580) (by decide +kernel), List.mem_of_getElem? (i := 1) (by decide +kernel), by decide +kernel, by decide +kernel, rfl⟩
def me_N_weighSunk : MI := (⟨"BoatNames", "weighSunk", "(I)V"⟩, prog_1_method_59_code, 6, none, 6, [
  [(0, .aload_n 0), (1, .getfield 61), (4, .lconst 0), (5, .invokestatic 378), (8, .aload_n 0), (9, .getfield 28), (12, .aload_n 0), (13, .getfield 24)],
  [(16, .invokevirtual 220), (19, .iconst 1), (20, .aload_n 0), (21, .getfield 24), (24, .getfield 123), (27, .ishl), (28, .istore_n 2), (29, .iconst 0), (30, .istore_n 3), (31, .iload_n 3)],
  [(32, .iload_n 2), (33, .if_icmp .ge 53), (36, .aload_n 0), (37, .getfield 28), (40, .iload_n 3), (41, .putfield 223), (44, .aload_n 0), (45, .getfield 28)],
  [(48, .iload_n 1), (49, .invokevirtual 384), (52, .lstore 4), (54, .lload 4), (56, .lconst 0), (57, .lcmp), (58, .ifCond .le 22), (61, .aload_n 0), (62, .getfield 36)],
  [(65, .aload_n 0), (66, .getfield 28), (69, .bipush 23), (71, .invokevirtual 146), (74, .aload_n 0), (75, .lload 4), (77, .invokevirtual 387)],
  [(80, .iinc 3 1), (83, .goto (-52)), (86, .return_)]])
theorem mok_N_weighSunk : MOK me_N_weighSunk 1 := ⟨List.mem_of_getElem? (i := 590) (by decide +kernel), List.mem_of_getElem? (i := 1) (by decide +kernel), by decide +kernel, by decide +kernel, rfl⟩
def me_N_addWeight : MI := (⟨"BoatNames", "addWeight", "(J)V"⟩, prog_1_method_60_code, 4, none, 6, [
  [(0, .iconst 0), (1, .istore_n 3), (2, .iload_n 3), (3, .aload_n 0), (4, .getfield 24), (7, .getfield 288), (10, .if_icmp .ge 32), (13, .aload_n 0), (14, .getfield 36)],
  [(17, .getfield 151), (20, .iload_n 3), (21, .iaload), (22, .iconst 2), (23, .if_icmp .ne 13), (26, .aload_n 0), (27, .getfield 61), (30, .iload_n 3), (31, .dup2)],
  [(32, .laload), (33, .lload_n 1), (34, .ladd), (35, .lastore), (36, .iinc 3 1), (39, .goto (-37)), (42, .return_)]])
theorem mok_N_addWeight : MOK me_N_addWeight 1 := ⟨List.mem_of_getElem? (i := 601) (by decide +kernel), List.mem_of_getElem? (i := 1) (by decide +kernel), by decide +kernel, by decide +kernel, rfl⟩
def me_N_chanceAbove : MI := (⟨"BoatNames", "chanceAbove", "(I)J"⟩, prog_1_method_61_code, 2, (some .long), 6, [
  [(0, .aload_n 0), (1, .getfield 61), (4, .iload_n 1), (5, .laload), (6, .aload_n 0), (7, .iload_n 1), (8, .invokevirtual 391), (11, .lshr), (12, .lreturn)]])
theorem mok_N_chanceAbove : MOK me_N_chanceAbove 1 := ⟨List.mem_of_getElem? (i := 605) (by decide +kernel), List.mem_of_getElem? (i := 1) (by decide +kernel), by decide +kernel, by decide +kernel, rfl⟩
def me_N_chanceBelow : MI := (⟨"BoatNames", "chanceBelow", "(I)J"⟩, prog_1_method_62_code, 2, (some .long), 6, [
  [(0, .lconst 1), (1, .iconst 4), (2, .aload_n 0), (3, .getfield 24), (6, .getfield 123), (9, .imul), (10, .aload_n 0), (11, .iload_n 1), (12, .invokevirtual 391), (15, .isub)],
  [(16, .lshl), (17, .lreturn)]])
theorem mok_N_chanceBelow : MOK me_N_chanceBelow 1 := ⟨List.mem_of_getElem? (i := 613) (by decide +kernel), List.mem_of_getElem? (i := 1) (by decide +kernel), by decide +kernel, by decide +kernel, rfl⟩
def me_N_sharedHalvings : MI := (⟨"BoatNames", "sharedHalvings", "(I)I"⟩, prog_1_method_63_code, 4, (some .int), 6, [
  [(0, .iconst 4), (1, .aload_n 0), (2, .getfield 24), (5, .getfield 123), (8, .imul), (9, .istore_n 2), (10, .iconst 0), (11, .istore_n 3), (12, .iload_n 3), (13, .iload_n 2), (14, .if_icmp .ge 24)],
  [(17, .aload_n 0), (18, .getfield 61), (21, .iload_n 1), (22, .laload), (23, .iload_n 3), (24, .lshr), (25, .lconst 1), (26, .land), (27, .lconst 0), (28, .lcmp), (29, .ifCond .ne 9)],
  [(32, .iinc 3 1), (35, .goto (-23)), (38, .iload_n 3), (39, .ireturn)]])
theorem mok_N_sharedHalvings : MOK me_N_sharedHalvings 1 := ⟨List.mem_of_getElem? (i := 609) (by decide +kernel), List.mem_of_getElem? (i := 1) (by decide +kernel), by decide +kernel, by decide +kernel, rfl⟩
end
section
def me_R_in : MI := (⟨"BoatNamesModel", "in", "(III)Z"⟩, prog_9_method_3_code, 3, (some .boolean), 7, [
  [(0, .iload_n 0), (1, .iload_n 1), (2, .if_icmp .lt 12), (5, .iload_n 0), (6, .iload_n 2), (7, .if_icmp .gt 7), (10, .iconst 1), (11, .goto 4), (14, .iconst 0), (15, .ireturn)]])
theorem mok_R_in : MOK me_R_in 3 := ⟨List.mem_of_getElem? (i := 864) (by decide +kernel), List.mem_of_getElem? (i := 8) (by decide +kernel), by decide +kernel, by decide +kernel, rfl⟩
def me_R_isIn : MI := (⟨"BoatNamesModel", "isIn", "(II)Z"⟩, prog_9_method_4_code, 2, (some .boolean), 7, [
  [(0, .iload_n 0), (1, .iload_n 1), (2, .ishr), (3, .iconst 1), (4, .iand), (5, .iconst 1), (6, .if_icmp .ne 7), (9, .iconst 1), (10, .goto 4), (13, .iconst 0), (14, .ireturn)]])
theorem mok_R_isIn : MOK me_R_isIn 2 := ⟨List.mem_of_getElem? (i := 976) (by decide +kernel), List.mem_of_getElem? (i := 8) (by decide +kernel), by decide +kernel, by decide +kernel, rfl⟩
def me_R_no : MI := (⟨"BoatNamesModel", "no", "(I)J"⟩, prog_9_method_5_code, 1, (some .long), 7, [
  [(0, .ldc2_w 113), (3, .iload_n 0), (4, .i2l), (5, .lsub), (6, .lreturn)]])
theorem mok_R_no : MOK me_R_no 1 := ⟨List.mem_of_getElem? (i := 1173) (by decide +kernel), List.mem_of_getElem? (i := 8) (by decide +kernel), by decide +kernel, by decide +kernel, rfl⟩
def me_R_lowest : MI := (⟨"BoatNamesModel", "lowest", "(JJI)J"⟩, prog_9_method_6_code, 11, (some .long), 7, [
  [(0, .lload_n 0), (1, .lstore 5), (3, .lload_n 2), (4, .lstore 7), (6, .lload 7), (8, .lconst 0), (9, .lcmp), (10, .ifCond .eq 21), (13, .lload 5), (15, .lload 7)],
  [(17, .lrem), (18, .lstore 9), (20, .lload 7), (22, .lstore 5), (24, .lload 9), (26, .lstore 7), (28, .goto (-22)), (31, .iload 4)],
  [(33, .ifCond .ne 10), (36, .lload_n 0), (37, .lload 5), (39, .ldiv), (40, .goto 7), (43, .lload_n 2), (44, .lload 5), (46, .ldiv), (47, .lreturn)]])
theorem mok_R_lowest : MOK me_R_lowest 3 := ⟨List.mem_of_getElem? (i := 1170) (by decide +kernel), List.mem_of_getElem? (i := 8) (by decide +kernel), by decide +kernel, by decide +kernel, rfl⟩
def me_R_isText : MI := (⟨"BoatNamesModel", "isText", "(I)Z"⟩, prog_9_method_7_code, 1, (some .boolean), 7, [
  [(0, .iload_n 0), (1, .iconst 0), (2, .iconst 1), (3, .invokestatic 115), (6, .ireturn)]])
theorem mok_R_isText : MOK me_R_isText 1 := ⟨List.mem_of_getElem? (i := 861) (by decide +kernel), List.mem_of_getElem? (i := 8) (by decide +kernel), by decide +kernel, by decide +kernel, rfl⟩
def me_R_isWeek : MI := (⟨"BoatNamesModel", "isWeek", "(I)Z"⟩, prog_9_method_8_code, 1, (some .boolean), 7, [
  [(0, .iload_n 0), (1, .iconst 0), (2, .bipush 23), (4, .invokestatic 115), (7, .ireturn)]])
theorem mok_R_isWeek : MOK me_R_isWeek 1 := ⟨List.mem_of_getElem? (i := 902) (by decide +kernel), List.mem_of_getElem? (i := 8) (by decide +kernel), by decide +kernel, by decide +kernel, rfl⟩
def me_R_isTwo : MI := (⟨"BoatNamesModel", "isTwo", "(I)Z"⟩, prog_9_method_9_code, 1, (some .boolean), 7, [
  [(0, .iload_n 0), (1, .iconst 0), (2, .iconst 1), (3, .invokestatic 115), (6, .ireturn)]])
theorem mok_R_isTwo : MOK me_R_isTwo 1 := ⟨List.mem_of_getElem? (i := 1027) (by decide +kernel), List.mem_of_getElem? (i := 8) (by decide +kernel), by decide +kernel, by decide +kernel, rfl⟩
def me_R_isEight : MI := (⟨"BoatNamesModel", "isEight", "(I)Z"⟩, prog_9_method_10_code, 1, (some .boolean), 7, [
  [(0, .iload_n 0), (1, .iconst 0), (2, .bipush 7), (4, .invokestatic 115), (7, .ireturn)]])
theorem mok_R_isEight : MOK me_R_isEight 1 := ⟨List.mem_of_getElem? (i := 895) (by decide +kernel), List.mem_of_getElem? (i := 8) (by decide +kernel), by decide +kernel, by decide +kernel, rfl⟩
def me_R_areTwo : MI := (⟨"BoatNamesModel", "areTwo", "(II)Z"⟩, prog_9_method_11_code, 2, (some .boolean), 7, [
  [(0, .iload_n 0), (1, .invokestatic 119), (4, .ifCond .eq 19), (7, .iload_n 1), (8, .invokestatic 119), (11, .ifCond .eq 12), (14, .iload_n 0), (15, .iload_n 1)],
  [(16, .if_icmp .eq 7), (19, .iconst 1), (20, .goto 4), (23, .iconst 0), (24, .ireturn)]])
theorem mok_R_areTwo : MOK me_R_areTwo 2 := ⟨List.mem_of_getElem? (i := 909) (by decide +kernel), List.mem_of_getElem? (i := 8) (by decide +kernel), by decide +kernel, by decide +kernel, rfl⟩
def me_R_type : MI := (⟨"BoatNamesModel", "type", "(II)I"⟩, prog_9_method_12_code, 3, (some .int), 7, [
  [(0, .iload_n 1), (1, .invokestatic 123), (4, .ifCond .eq 14), (7, .iload_n 2), (8, .iconst 0), (9, .sipush 255), (12, .invokestatic 115), (15, .ifCond .ne 6)],
  [(18, .bipush (-2)), (20, .ireturn), (21, .aload_n 0), (22, .getfield 7), (25, .iload_n 1), (26, .iaload), (27, .iload_n 1), (28, .ifCond .ne 8), (31, .bipush 47)],
  [(33, .goto 5), (36, .bipush 39), (38, .if_icmp .ne 6), (41, .bipush (-4)), (43, .ireturn), (44, .aload_n 0), (45, .getfield 13)],
  [(48, .bipush 47), (50, .iload_n 1), (51, .imul), (52, .aload_n 0), (53, .getfield 7), (56, .iload_n 1), (57, .iaload), (58, .iadd), (59, .iload_n 2), (60, .iastore), (61, .aload_n 0), (62, .getfield 7)],
  [(65, .iload_n 1), (66, .dup2), (67, .iaload), (68, .iconst 1), (69, .iadd), (70, .iastore), (71, .aload_n 0), (72, .getfield 7), (75, .iload_n 1), (76, .iaload), (77, .ireturn)]])
theorem mok_R_type : MOK me_R_type 2 := ⟨List.mem_of_getElem? (i := 858) (by decide +kernel), List.mem_of_getElem? (i := 8) (by decide +kernel), by decide +kernel, by decide +kernel, rfl⟩
def me_R_wipe : MI := (⟨"BoatNamesModel", "wipe", "(I)I"⟩, prog_9_method_13_code, 3, (some .int), 7, [
  [(0, .iload_n 1), (1, .invokestatic 123), (4, .ifCond .ne 6), (7, .bipush (-2)), (9, .ireturn), (10, .aload_n 0), (11, .getfield 7), (14, .iload_n 1), (15, .iaload)],
  [(16, .istore_n 2), (17, .aload_n 0), (18, .getfield 7), (21, .iload_n 1), (22, .iconst 0), (23, .iastore), (24, .iload_n 2), (25, .ireturn)]])
theorem mok_R_wipe : MOK me_R_wipe 1 := ⟨List.mem_of_getElem? (i := 868) (by decide +kernel), List.mem_of_getElem? (i := 8) (by decide +kernel), by decide +kernel, by decide +kernel, rfl⟩
def me_R_undo : MI := (⟨"BoatNamesModel", "undo", "(I)I"⟩, prog_9_method_14_code, 2, (some .int), 7, [
  [(0, .iload_n 1), (1, .invokestatic 123), (4, .ifCond .ne 6), (7, .bipush (-2)), (9, .ireturn), (10, .aload_n 0), (11, .getfield 7), (14, .iload_n 1), (15, .iaload)],
  [(16, .ifCond .ne 6), (19, .bipush (-3)), (21, .ireturn), (22, .aload_n 0), (23, .getfield 7), (26, .iload_n 1), (27, .dup2), (28, .iaload), (29, .iconst 1), (30, .isub), (31, .iastore)],
  [(32, .aload_n 0), (33, .getfield 7), (36, .iload_n 1), (37, .iaload), (38, .ireturn)]])
theorem mok_R_undo : MOK me_R_undo 1 := ⟨List.mem_of_getElem? (i := 872) (by decide +kernel), List.mem_of_getElem? (i := 8) (by decide +kernel), by decide +kernel, by decide +kernel, rfl⟩
def me_R_byteAt : MI := (⟨"BoatNamesModel", "byteAt", "(II)I"⟩, prog_9_method_15_code, 3, (some .int), 7, [
  [(0, .iload_n 2), (1, .aload_n 0), (2, .getfield 7), (5, .iload_n 1), (6, .iaload), (7, .if_icmp .ge 17), (10, .aload_n 0), (11, .getfield 13), (14, .bipush 47)],
  [(16, .iload_n 1), (17, .imul), (18, .iload_n 2), (19, .iadd), (20, .iaload), (21, .goto 4), (24, .iconst (-1)), (25, .ireturn)]])
theorem mok_R_byteAt : MOK me_R_byteAt 2 := ⟨List.mem_of_getElem? (i := 892) (by decide +kernel), List.mem_of_getElem? (i := 8) (by decide +kernel), by decide +kernel, by decide +kernel, rfl⟩
def me_R_readsHate : MI := (⟨"BoatNamesModel", "readsHate", "(II)I"⟩, prog_9_method_16_code, 6, (some .int), 7, [
  [(0, .aload_n 0), (1, .iconst 0), (2, .iload_n 2), (3, .invokevirtual 126), (6, .bipush 48), (8, .isub), (9, .istore_n 3), (10, .aload_n 0), (11, .iconst 0), (12, .iload_n 2), (13, .iconst 1), (14, .iadd), (15, .invokevirtual 126)],
  [(18, .bipush 48), (20, .isub), (21, .istore 4), (23, .aload_n 0), (24, .iconst 0), (25, .iload_n 2), (26, .iconst 2), (27, .iadd), (28, .invokevirtual 126), (31, .bipush 48)],
  [(33, .isub), (34, .istore 5), (36, .iload_n 1), (37, .bipush 12), (39, .if_icmp .eq 10), (42, .iload_n 3), (43, .invokestatic 119), (46, .ifCond .ne 5)],
  [(49, .iconst 0), (50, .ireturn), (51, .iload 4), (53, .invokestatic 119), (56, .ifCond .eq 9), (59, .iload 4), (61, .iload_n 3), (62, .if_icmp .ne 5)],
  [(65, .iconst 1), (66, .ireturn), (67, .iload 5), (69, .iconst 1), (70, .bipush 9), (72, .invokestatic 115), (75, .ifCond .ne 5), (78, .iconst 2), (79, .ireturn)],
  [(80, .aload_n 0), (81, .getfield 16), (84, .iconst 3), (85, .iload_n 1), (86, .imul), (87, .iload_n 3), (88, .iastore), (89, .aload_n 0), (90, .getfield 16), (93, .iconst 3), (94, .iload_n 1), (95, .imul)],
  [(96, .iconst 1), (97, .iadd), (98, .iload 4), (100, .iastore), (101, .aload_n 0), (102, .getfield 16), (105, .iconst 3), (106, .iload_n 1), (107, .imul), (108, .iconst 2), (109, .iadd), (110, .iload 5)],
  [(112, .iastore), (113, .iconst 3), (114, .ireturn)]])
theorem mok_R_readsHate : MOK me_R_readsHate 2 := ⟨List.mem_of_getElem? (i := 888) (by decide +kernel), List.mem_of_getElem? (i := 8) (by decide +kernel), by decide +kernel, by decide +kernel, rfl⟩
def me_R_readsBoat : MI := (⟨"BoatNamesModel", "readsBoat", "(II)I"⟩, prog_9_method_17_code, 8, (some .int), 7, [
  [(0, .aload_n 0), (1, .iconst 1), (2, .iload_n 2), (3, .invokevirtual 126), (6, .istore_n 3), (7, .iload_n 3), (8, .bipush 108), (10, .if_icmp .ne 7), (13, .iconst 0), (14, .goto 24)],
  [(17, .iload_n 3), (18, .bipush 115), (20, .if_icmp .ne 7), (23, .iconst 1), (24, .goto 14), (27, .iload_n 3), (28, .bipush 116), (30, .if_icmp .ne 7)],
  [(33, .iconst 2), (34, .goto 4), (37, .iconst (-1)), (38, .istore 4), (40, .aload_n 0), (41, .iconst 1), (42, .iload_n 2), (43, .iconst 1), (44, .iadd), (45, .invokevirtual 126)],
  [(48, .bipush 48), (50, .isub), (51, .istore 5), (53, .aload_n 0), (54, .iconst 1), (55, .iload_n 2), (56, .iconst 2), (57, .iadd), (58, .invokevirtual 126), (61, .bipush 97), (63, .isub)],
  [(64, .istore 6), (66, .aload_n 0), (67, .iconst 1), (68, .iload_n 2), (69, .iconst 3), (70, .iadd), (71, .invokevirtual 126), (74, .bipush 48), (76, .isub), (77, .istore 7), (79, .iload_n 1)],
  [(80, .bipush 8), (82, .if_icmp .eq 9), (85, .iload 4), (87, .iconst (-1)), (88, .if_icmp .ne 5), (91, .iconst 0), (92, .ireturn), (93, .iload 5), (95, .invokestatic 119)],
  [(98, .ifCond .ne 5), (101, .iconst 1), (102, .ireturn), (103, .iload 6), (105, .invokestatic 130), (108, .ifCond .ne 5), (111, .iconst 2)],
  [(112, .ireturn), (113, .iload 7), (115, .iconst 1), (116, .bipush 9), (118, .invokestatic 115), (121, .ifCond .ne 5), (124, .iconst 3), (125, .ireturn), (126, .aload_n 0), (127, .getfield 22)],
  [(130, .iload_n 1), (131, .iload 4), (133, .iastore), (134, .aload_n 0), (135, .getfield 25), (138, .iload_n 1), (139, .iload 5), (141, .iastore), (142, .aload_n 0), (143, .getfield 28)],
  [(146, .iload_n 1), (147, .iload 6), (149, .iastore), (150, .aload_n 0), (151, .getfield 31), (154, .iload_n 1), (155, .iload 7), (157, .iastore), (158, .iconst 4), (159, .ireturn)]])
theorem mok_R_readsBoat : MOK me_R_readsBoat 2 := ⟨List.mem_of_getElem? (i := 899) (by decide +kernel), List.mem_of_getElem? (i := 8) (by decide +kernel), by decide +kernel, by decide +kernel, rfl⟩
def me_R_readsParts : MI := (⟨"BoatNamesModel", "readsParts", "(I)I"⟩, prog_9_method_18_code, 6, (some .int), 7, [
  [(0, .iload_n 1), (1, .ifCond .ne 7), (4, .iconst 3), (5, .goto 4), (8, .iconst 4), (9, .istore_n 2), (10, .iconst 0), (11, .istore_n 3), (12, .iconst 0), (13, .istore 4), (15, .aload_n 0)],
  [(16, .iload_n 1), (17, .ifCond .ne 7), (20, .iconst 0), (21, .goto 7), (24, .aload_n 0), (25, .getfield 133), (28, .putfield 133), (31, .aload_n 0)],
  [(32, .iload_n 1), (33, .iconst 1), (34, .if_icmp .ne 7), (37, .iconst 0), (38, .goto 7), (41, .aload_n 0), (42, .getfield 137), (45, .putfield 137)],
  [(48, .iload 4), (50, .aload_n 0), (51, .getfield 7), (54, .iload_n 1), (55, .iaload), (56, .if_icmp .lt 8), (59, .iload 4), (61, .ifCond .le 114)],
  [(64, .iload_n 1), (65, .ifCond .ne 13), (68, .aload_n 0), (69, .iload_n 3), (70, .iload 4), (72, .invokevirtual 140), (75, .goto 10), (78, .aload_n 0), (79, .iload_n 3)],
  [(80, .iload 4), (82, .invokevirtual 143), (85, .istore 5), (87, .iload 5), (89, .iload_n 2), (90, .if_icmp .ge 9), (93, .iload 4), (95, .iload 5)],
  [(97, .iadd), (98, .ireturn), (99, .iinc 3 1), (102, .iload 4), (104, .iload_n 2), (105, .iadd), (106, .istore 4), (108, .iload 4), (110, .aload_n 0), (111, .getfield 7)],
  [(114, .iload_n 1), (115, .iaload), (116, .if_icmp .ne 38), (119, .aload_n 0), (120, .iload_n 1), (121, .ifCond .ne 7), (124, .iload_n 3), (125, .goto 7)],
  [(128, .aload_n 0), (129, .getfield 133), (132, .putfield 133), (135, .aload_n 0), (136, .iload_n 1), (137, .iconst 1), (138, .if_icmp .ne 7), (141, .iload_n 3), (142, .goto 7)],
  [(145, .aload_n 0), (146, .getfield 137), (149, .putfield 137), (152, .iconst (-1)), (153, .ireturn), (154, .aload_n 0), (155, .iload_n 1), (156, .iload 4), (158, .invokevirtual 126)],
  [(161, .bipush 59), (163, .if_icmp .eq 6), (166, .iload 4), (168, .ireturn), (169, .iinc 4 1), (172, .goto (-124)), (175, .iconst (-1))],
  [(176, .ireturn)]])
theorem mok_R_readsParts : MOK me_R_readsParts 1 := ⟨List.mem_of_getElem? (i := 884) (by decide +kernel), List.mem_of_getElem? (i := 8) (by decide +kernel), by decide +kernel, by decide +kernel, rfl⟩
def me_R_faultOf : MI := (⟨"BoatNamesModel", "faultOf", "(I)I"⟩, prog_9_method_19_code, 4, (some .int), 7, [
  [(0, .aload_n 0), (1, .iconst 0), (2, .invokevirtual 146), (5, .istore_n 2), (6, .aload_n 0), (7, .iconst 1), (8, .invokevirtual 146), (11, .istore_n 3), (12, .iload_n 1), (13, .ifCond .ne 7)],
  [(16, .iload_n 2), (17, .goto 4), (20, .iload_n 3), (21, .ireturn)]])
theorem mok_R_faultOf : MOK me_R_faultOf 1 := ⟨List.mem_of_getElem? (i := 880) (by decide +kernel), List.mem_of_getElem? (i := 8) (by decide +kernel), by decide +kernel, by decide +kernel, rfl⟩
def me_R_reads : MI := (⟨"BoatNamesModel", "reads", "()V"⟩, prog_9_method_20_code, 3, none, 7, [
  [(0, .aload_n 0), (1, .iconst 0), (2, .invokevirtual 150), (5, .istore_n 1), (6, .iconst 0), (7, .istore_n 2), (8, .iload_n 2), (9, .bipush 64), (11, .if_icmp .ge 16), (14, .aload_n 0), (15, .getfield 19)],
  [(18, .iload_n 2), (19, .iconst 0), (20, .iastore), (21, .iinc 2 1), (24, .goto (-16)), (27, .iconst 0), (28, .istore_n 2), (29, .iload_n 2), (30, .aload_n 0), (31, .getfield 133)],
  [(34, .if_icmp .ge 46), (37, .aload_n 0), (38, .getfield 19), (41, .bipush 8), (43, .aload_n 0), (44, .getfield 16), (47, .iconst 3)],
  [(48, .iload_n 2), (49, .imul), (50, .iaload), (51, .imul), (52, .aload_n 0), (53, .getfield 16), (56, .iconst 3), (57, .iload_n 2), (58, .imul), (59, .iconst 1), (60, .iadd), (61, .iaload), (62, .iadd), (63, .aload_n 0)],
  [(64, .getfield 16), (67, .iconst 3), (68, .iload_n 2), (69, .imul), (70, .iconst 2), (71, .iadd), (72, .iaload), (73, .iastore), (74, .iinc 2 1), (77, .goto (-48))],
  [(80, .return_)]])
theorem mok_R_reads : MOK me_R_reads 0 := ⟨List.mem_of_getElem? (i := 917) (by decide +kernel), List.mem_of_getElem? (i := 8) (by decide +kernel), by decide +kernel, by decide +kernel, rfl⟩
def me_R_fault : MI := (⟨"BoatNamesModel", "fault", "(I)I"⟩, prog_9_method_21_code, 2, (some .int), 7, [
  [(0, .iload_n 1), (1, .invokestatic 123), (4, .ifCond .eq 11), (7, .aload_n 0), (8, .iload_n 1), (9, .invokevirtual 150), (12, .goto 5), (15, .bipush (-2))],
  [(17, .ireturn)]])
theorem mok_R_fault : MOK me_R_fault 1 := ⟨List.mem_of_getElem? (i := 876) (by decide +kernel), List.mem_of_getElem? (i := 8) (by decide +kernel), by decide +kernel, by decide +kernel, rfl⟩
def me_R_isBoat : MI := (⟨"BoatNamesModel", "isBoat", "(I)Z"⟩, prog_9_method_22_code, 2, (some .boolean), 7, [
  [(0, .aload_n 0), (1, .invokevirtual 153), (4, .iload_n 1), (5, .iconst 0), (6, .aload_n 0), (7, .getfield 137), (10, .iconst 1), (11, .isub), (12, .invokestatic 115), (15, .ireturn)]])
theorem mok_R_isBoat : MOK me_R_isBoat 1 := ⟨List.mem_of_getElem? (i := 925) (by decide +kernel), List.mem_of_getElem? (i := 8) (by decide +kernel), by decide +kernel, by decide +kernel, rfl⟩
def me_R_toldOf : MI := (⟨"BoatNamesModel", "toldOf", "(II)I"⟩, prog_9_method_23_code, 3, (some .int), 7, [
  [(0, .aload_n 0), (1, .invokevirtual 153), (4, .aload_n 0), (5, .getfield 19), (8, .bipush 8), (10, .iload_n 1), (11, .imul), (12, .iload_n 2), (13, .iadd), (14, .iaload), (15, .ireturn)]])
theorem mok_R_toldOf : MOK me_R_toldOf 2 := ⟨List.mem_of_getElem? (i := 913) (by decide +kernel), List.mem_of_getElem? (i := 8) (by decide +kernel), by decide +kernel, by decide +kernel, rfl⟩
def me_R_told : MI := (⟨"BoatNamesModel", "told", "(II)I"⟩, prog_9_method_24_code, 3, (some .int), 7, [
  [(0, .iload_n 1), (1, .iload_n 2), (2, .invokestatic 156), (5, .ifCond .eq 12), (8, .aload_n 0), (9, .iload_n 1), (10, .iload_n 2), (11, .invokevirtual 160), (14, .goto 5)],
  [(17, .bipush (-2)), (19, .ireturn)]])
theorem mok_R_told : MOK me_R_told 2 := ⟨List.mem_of_getElem? (i := 906) (by decide +kernel), List.mem_of_getElem? (i := 8) (by decide +kernel), by decide +kernel, by decide +kernel, rfl⟩
def me_R_boatOf : MI := (⟨"BoatNamesModel", "boatOf", "(II)I"⟩, prog_9_method_25_code, 3, (some .int), 7, [
  [(0, .iload_n 2), (1, .ifCond .ne 12), (4, .aload_n 0), (5, .getfield 22), (8, .iload_n 1), (9, .iaload), (10, .goto 37), (13, .iload_n 2), (14, .iconst 1), (15, .if_icmp .ne 12)],
  [(18, .aload_n 0), (19, .getfield 25), (22, .iload_n 1), (23, .iaload), (24, .goto 23), (27, .iload_n 2), (28, .iconst 2), (29, .if_icmp .ne 12)],
  [(32, .aload_n 0), (33, .getfield 28), (36, .iload_n 1), (37, .iaload), (38, .goto 9), (41, .aload_n 0), (42, .getfield 31), (45, .iload_n 1), (46, .iaload), (47, .ireturn)]])
theorem mok_R_boatOf : MOK me_R_boatOf 2 := ⟨List.mem_of_getElem? (i := 929) (by decide +kernel), List.mem_of_getElem? (i := 8) (by decide +kernel), by decide +kernel, by decide +kernel, rfl⟩
def me_R_boat : MI := (⟨"BoatNamesModel", "boat", "(II)I"⟩, prog_9_method_26_code, 3, (some .int), 7, [
  [(0, .aload_n 0), (1, .iload_n 1), (2, .invokevirtual 163), (5, .ifCond .eq 21), (8, .iload_n 2), (9, .iconst 0), (10, .iconst 3), (11, .invokestatic 115), (14, .ifCond .eq 12)],
  [(17, .aload_n 0), (18, .iload_n 1), (19, .iload_n 2), (20, .invokevirtual 166), (23, .goto 5), (26, .bipush (-2)), (28, .ireturn)]])
theorem mok_R_boat : MOK me_R_boat 2 := ⟨List.mem_of_getElem? (i := 921) (by decide +kernel), List.mem_of_getElem? (i := 8) (by decide +kernel), by decide +kernel, by decide +kernel, rfl⟩
def me_R_event : MI := (⟨"BoatNamesModel", "event", "(III)I"⟩, prog_9_method_27_code, 4, (some .int), 7, [
  [(0, .iload_n 1), (1, .iconst 0), (2, .iconst 2), (3, .invokestatic 115), (6, .ifCond .eq 17), (9, .iload_n 2), (10, .invokestatic 130), (13, .ifCond .eq 10)],
  [(16, .iload_n 3), (17, .invokestatic 119), (20, .ifCond .ne 6), (23, .bipush (-2)), (25, .ireturn), (26, .aload_n 0), (27, .getfield 169), (30, .bipush 8)],
  [(32, .if_icmp .ne 6), (35, .bipush (-4)), (37, .ireturn), (38, .aload_n 0), (39, .getfield 34), (42, .aload_n 0), (43, .getfield 169), (46, .iload_n 1), (47, .iastore)],
  [(48, .aload_n 0), (49, .getfield 37), (52, .aload_n 0), (53, .getfield 169), (56, .iload_n 2), (57, .iastore), (58, .aload_n 0), (59, .getfield 40), (62, .aload_n 0), (63, .getfield 169)],
  [(66, .iload_n 3), (67, .iastore), (68, .aload_n 0), (69, .dup), (70, .getfield 169), (73, .iconst 1), (74, .iadd), (75, .putfield 169), (78, .aload_n 0), (79, .getfield 169)],
  [(82, .ireturn)]])
theorem mok_R_event : MOK me_R_event 3 := ⟨List.mem_of_getElem? (i := 933) (by decide +kernel), List.mem_of_getElem? (i := 8) (by decide +kernel), by decide +kernel, by decide +kernel, rfl⟩
def me_R_back : MI := (⟨"BoatNamesModel", "back", "()I"⟩, prog_9_method_28_code, 1, (some .int), 7, [
  [(0, .aload_n 0), (1, .getfield 169), (4, .ifCond .ne 6), (7, .bipush (-3)), (9, .ireturn), (10, .aload_n 0), (11, .dup), (12, .getfield 169), (15, .iconst 1)],
  [(16, .isub), (17, .putfield 169), (20, .aload_n 0), (21, .getfield 169), (24, .ireturn)]])
theorem mok_R_back : MOK me_R_back 0 := ⟨List.mem_of_getElem? (i := 937) (by decide +kernel), List.mem_of_getElem? (i := 8) (by decide +kernel), by decide +kernel, by decide +kernel, rfl⟩
def me_R_read : MI := (⟨"BoatNamesModel", "read", "(I)I"⟩, prog_9_method_29_code, 4, (some .int), 7, [
  [(0, .iload_n 1), (1, .invokestatic 172), (4, .ifCond .ne 6), (7, .bipush (-2)), (9, .ireturn), (10, .aload_n 0), (11, .getfield 97), (14, .iload_n 1), (15, .baload)],
  [(16, .ifCond .ne 9), (19, .aload_n 0), (20, .iconst 1), (21, .invokevirtual 175), (24, .ireturn), (25, .iconst 0), (26, .istore_n 2), (27, .bipush 60), (29, .iload_n 1), (30, .imul), (31, .istore_n 3)],
  [(32, .iconst 3), (33, .iload_n 2), (34, .imul), (35, .iconst 2), (36, .iadd), (37, .aload_n 0), (38, .getfield 104), (41, .iload_n 1), (42, .iaload), (43, .if_icmp .ge 50), (46, .aload_n 0), (47, .aload_n 0)],
  [(48, .getfield 107), (51, .iload_n 3), (52, .iconst 3), (53, .iload_n 2), (54, .imul), (55, .iadd), (56, .iaload), (57, .aload_n 0), (58, .getfield 107), (61, .iload_n 3), (62, .iconst 3), (63, .iload_n 2)],
  [(64, .imul), (65, .iadd), (66, .iconst 1), (67, .iadd), (68, .iaload), (69, .aload_n 0), (70, .getfield 107), (73, .iload_n 3), (74, .iconst 3), (75, .iload_n 2), (76, .imul), (77, .iadd), (78, .iconst 2), (79, .iadd)],
  [(80, .iaload), (81, .invokevirtual 178), (84, .ifCond .le 9), (87, .iinc 2 1), (90, .goto (-58)), (93, .iload_n 2), (94, .ireturn)]])
theorem mok_R_read : MOK me_R_read 1 := ⟨List.mem_of_getElem? (i := 941) (by decide +kernel), List.mem_of_getElem? (i := 8) (by decide +kernel), by decide +kernel, by decide +kernel, rfl⟩
def me_R_asTold : MI := (⟨"BoatNamesModel", "asTold", "()V"⟩, prog_9_method_30_code, 2, none, 7, [
  [(0, .aload_n 0), (1, .invokevirtual 153), (4, .aload_n 0), (5, .aload_n 0), (6, .getfield 169), (9, .putfield 182), (12, .iconst 0), (13, .istore_n 1), (14, .iload_n 1), (15, .aload_n 0)],
  [(16, .getfield 169), (19, .if_icmp .ge 45), (22, .aload_n 0), (23, .getfield 43), (26, .iload_n 1), (27, .aload_n 0), (28, .getfield 34), (31, .iload_n 1)],
  [(32, .iaload), (33, .iastore), (34, .aload_n 0), (35, .getfield 46), (38, .iload_n 1), (39, .aload_n 0), (40, .getfield 37), (43, .iload_n 1), (44, .iaload), (45, .iastore), (46, .aload_n 0), (47, .getfield 49)],
  [(50, .iload_n 1), (51, .aload_n 0), (52, .getfield 40), (55, .iload_n 1), (56, .iaload), (57, .iastore), (58, .iinc 1 1), (61, .goto (-47))],
  [(64, .aload_n 0), (65, .iconst 0), (66, .putfield 185), (69, .return_)]])
theorem mok_R_asTold : MOK me_R_asTold 0 := ⟨List.mem_of_getElem? (i := 965) (by decide +kernel), List.mem_of_getElem? (i := 8) (by decide +kernel), by decide +kernel, by decide +kernel, rfl⟩
def me_R_storms : MI := (⟨"BoatNamesModel", "storms", "()V"⟩, prog_9_method_31_code, 3, none, 7, [
  [(0, .iconst 0), (1, .istore_n 1), (2, .iload_n 1), (3, .aload_n 0), (4, .getfield 137), (7, .if_icmp .ge 63), (10, .aload_n 0), (11, .getfield 22), (14, .iload_n 1), (15, .iaload)],
  [(16, .iconst 2), (17, .if_icmp .ne 7), (20, .iconst 2), (21, .goto 4), (24, .iconst 1), (25, .istore_n 2), (26, .aload_n 0), (27, .getfield 55), (30, .iload_n 1), (31, .iaload)],
  [(32, .iconst 1), (33, .if_icmp .ne 31), (36, .aload_n 0), (37, .getfield 64), (40, .iload_n 1), (41, .aload_n 0), (42, .getfield 64), (45, .iload_n 1), (46, .iaload), (47, .iload_n 2)],
  [(48, .if_icmp .le 14), (51, .aload_n 0), (52, .getfield 64), (55, .iload_n 1), (56, .iaload), (57, .iload_n 2), (58, .isub), (59, .goto 4), (62, .iconst 0), (63, .iastore)],
  [(64, .iinc 1 1), (67, .goto (-65)), (70, .return_)]])
theorem mok_R_storms : MOK me_R_storms 0 := ⟨List.mem_of_getElem? (i := 984) (by decide +kernel), List.mem_of_getElem? (i := 8) (by decide +kernel), by decide +kernel, by decide +kernel, rfl⟩
def me_R_shares : MI := (⟨"BoatNamesModel", "shares", "(I)V"⟩, prog_9_method_32_code, 3, none, 7, [
  [(0, .bipush 8), (2, .aload_n 0), (3, .getfield 58), (6, .iload_n 1), (7, .iaload), (8, .imul), (9, .aload_n 0), (10, .getfield 25), (13, .iload_n 1), (14, .iaload), (15, .iadd)],
  [(16, .istore_n 2), (17, .aload_n 0), (18, .getfield 61), (21, .iload_n 1), (22, .iconst 0), (23, .iastore), (24, .aload_n 0), (25, .getfield 52), (28, .iload_n 2), (29, .dup2), (30, .iaload), (31, .aload_n 0)],
  [(32, .getfield 52), (35, .iload_n 2), (36, .iaload), (37, .ifCond .le 7), (40, .iconst 1), (41, .goto 4), (44, .iconst 0), (45, .isub), (46, .iastore), (47, .return_)]])
theorem mok_R_shares : MOK me_R_shares 1 := ⟨List.mem_of_getElem? (i := 988) (by decide +kernel), List.mem_of_getElem? (i := 8) (by decide +kernel), by decide +kernel, by decide +kernel, rfl⟩
def me_R_makesUp : MI := (⟨"BoatNamesModel", "makesUp", "(I)V"⟩, prog_9_method_33_code, 2, none, 7, [
  [(0, .aload_n 0), (1, .getfield 52), (4, .bipush 8), (6, .aload_n 0), (7, .getfield 58), (10, .iload_n 1), (11, .iaload), (12, .imul), (13, .aload_n 0), (14, .getfield 25)],
  [(17, .iload_n 1), (18, .iaload), (19, .iadd), (20, .iconst 0), (21, .iastore), (22, .aload_n 0), (23, .getfield 52), (26, .bipush 8), (28, .aload_n 0), (29, .getfield 25)],
  [(32, .iload_n 1), (33, .iaload), (34, .imul), (35, .aload_n 0), (36, .getfield 58), (39, .iload_n 1), (40, .iaload), (41, .iadd), (42, .iconst 0), (43, .iastore), (44, .return_)]])
theorem mok_R_makesUp : MOK me_R_makesUp 1 := ⟨List.mem_of_getElem? (i := 992) (by decide +kernel), List.mem_of_getElem? (i := 8) (by decide +kernel), by decide +kernel, by decide +kernel, rfl⟩
def me_R_befalls : MI := (⟨"BoatNamesModel", "befalls", "(I)V"⟩, prog_9_method_34_code, 4, none, 7, [
  [(0, .aload_n 0), (1, .getfield 49), (4, .iload_n 1), (5, .iaload), (6, .istore_n 2), (7, .iload_n 2), (8, .aload_n 0), (9, .getfield 137), (12, .if_icmp .ge 17), (15, .aload_n 0)],
  [(16, .getfield 55), (19, .iload_n 2), (20, .iaload), (21, .iconst 1), (22, .if_icmp .ne 7), (25, .iconst 1), (26, .goto 4), (29, .iconst 0), (30, .istore_n 3), (31, .aload_n 0)],
  [(32, .getfield 43), (35, .iload_n 1), (36, .iaload), (37, .ifCond .ne 7), (40, .aload_n 0), (41, .invokevirtual 188), (44, .aload_n 0), (45, .getfield 43)],
  [(48, .iload_n 1), (49, .iaload), (50, .iconst 1), (51, .if_icmp .ne 12), (54, .iload_n 3), (55, .ifCond .eq 8), (58, .aload_n 0), (59, .iload_n 2), (60, .invokevirtual 191), (63, .aload_n 0)],
  [(64, .getfield 43), (67, .iload_n 1), (68, .iaload), (69, .iconst 2), (70, .if_icmp .ne 12), (73, .iload_n 3), (74, .ifCond .eq 8), (77, .aload_n 0), (78, .iload_n 2), (79, .invokevirtual 195)],
  [(82, .return_)]])
theorem mok_R_befalls : MOK me_R_befalls 1 := ⟨List.mem_of_getElem? (i := 980) (by decide +kernel), List.mem_of_getElem? (i := 8) (by decide +kernel), by decide +kernel, by decide +kernel, rfl⟩
def me_R_launches : MI := (⟨"BoatNamesModel", "launches", "(I)V"⟩, prog_9_method_35_code, 6, none, 7, [
  [(0, .iconst (-1)), (1, .istore_n 2), (2, .iconst 0), (3, .istore_n 3), (4, .iconst 0), (5, .istore 4), (7, .iload 4), (9, .bipush 8), (11, .if_icmp .ge 54), (14, .aload_n 0), (15, .getfield 52)],
  [(18, .bipush 8), (20, .iload 4), (22, .imul), (23, .aload_n 0), (24, .getfield 25), (27, .iload_n 1), (28, .iaload), (29, .iadd), (30, .iaload), (31, .istore 5)],
  [(33, .iload 5), (35, .iload_n 3), (36, .if_icmp .le 8), (39, .iload 4), (41, .goto 4), (44, .iload_n 2), (45, .istore_n 2), (46, .iload 5)],
  [(48, .iload_n 3), (49, .if_icmp .le 8), (52, .iload 5), (54, .goto 4), (57, .iload_n 3), (58, .istore_n 3), (59, .iinc 4 1), (62, .goto (-55))],
  [(65, .aload_n 0), (66, .getfield 58), (69, .iload_n 1), (70, .iload_n 2), (71, .iastore), (72, .aload_n 0), (73, .getfield 55), (76, .iload_n 1), (77, .iload_n 2), (78, .iconst (-1)), (79, .if_icmp .ne 7)],
  [(82, .iconst 3), (83, .goto 4), (86, .iconst 1), (87, .iastore), (88, .return_)]])
theorem mok_R_launches : MOK me_R_launches 1 := ⟨List.mem_of_getElem? (i := 996) (by decide +kernel), List.mem_of_getElem? (i := 8) (by decide +kernel), by decide +kernel, by decide +kernel, rfl⟩
def me_R_sails : MI := (⟨"BoatNamesModel", "sails", "(II)V"⟩, prog_9_method_36_code, 5, none, 7, [
  [(0, .aload_n 0), (1, .getfield 52), (4, .bipush 8), (6, .aload_n 0), (7, .getfield 58), (10, .iload_n 1), (11, .iaload), (12, .imul), (13, .aload_n 0), (14, .getfield 25)],
  [(17, .iload_n 1), (18, .iaload), (19, .iadd), (20, .iaload), (21, .istore_n 3), (22, .aload_n 0), (23, .getfield 61), (26, .iload_n 1), (27, .dup2), (28, .iaload), (29, .aload_n 0), (30, .getfield 22)],
  [(33, .iload_n 1), (34, .iaload), (35, .iconst 1), (36, .if_icmp .ne 9), (39, .iload_n 3), (40, .iconst 2), (41, .idiv), (42, .goto 4), (45, .iload_n 3), (46, .iadd), (47, .iastore)],
  [(48, .aload_n 0), (49, .getfield 61), (52, .iload_n 1), (53, .iaload), (54, .iconst 3), (55, .aload_n 0), (56, .getfield 64), (59, .iload_n 1), (60, .iaload), (61, .imul), (62, .if_icmp .gt 12)],
  [(65, .aload_n 0), (66, .getfield 64), (69, .iload_n 1), (70, .iaload), (71, .ifCond .ne 95), (74, .bipush 8), (76, .aload_n 0), (77, .getfield 25)],
  [(80, .iload_n 1), (81, .iaload), (82, .imul), (83, .aload_n 0), (84, .getfield 58), (87, .iload_n 1), (88, .iaload), (89, .iadd), (90, .istore 4), (92, .aload_n 0), (93, .getfield 55)],
  [(96, .iload_n 1), (97, .iconst 2), (98, .iastore), (99, .aload_n 0), (100, .getfield 52), (103, .iload 4), (105, .dup2), (106, .iaload), (107, .aload_n 0), (108, .getfield 52), (111, .iload 4)],
  [(113, .iaload), (114, .bipush 9), (116, .if_icmp .ge 7), (119, .iconst 1), (120, .goto 4), (123, .iconst 0), (124, .iadd), (125, .iastore), (126, .aload_n 0), (127, .aload_n 0)],
  [(128, .getfield 198), (131, .iconst (-1)), (132, .if_icmp .ne 7), (135, .iload_n 1), (136, .goto 7), (139, .aload_n 0), (140, .getfield 201), (143, .putfield 201)],
  [(146, .aload_n 0), (147, .aload_n 0), (148, .getfield 198), (151, .iconst (-1)), (152, .if_icmp .ne 7), (155, .iload_n 2), (156, .goto 7), (159, .aload_n 0)],
  [(160, .getfield 198), (163, .putfield 198), (166, .return_)]])
theorem mok_R_sails : MOK me_R_sails 2 := ⟨List.mem_of_getElem? (i := 1000) (by decide +kernel), List.mem_of_getElem? (i := 8) (by decide +kernel), by decide +kernel, by decide +kernel, rfl⟩
def me_R_goesBy : MI := (⟨"BoatNamesModel", "goesBy", "(I)V"⟩, prog_9_method_37_code, 4, none, 7, [
  [(0, .iconst 0), (1, .istore_n 2), (2, .iload_n 2), (3, .aload_n 0), (4, .getfield 182), (7, .if_icmp .ge 35), (10, .aload_n 0), (11, .getfield 46), (14, .iload_n 2), (15, .iaload)],
  [(16, .iload_n 1), (17, .if_icmp .ne 19), (20, .aload_n 0), (21, .getfield 185), (24, .iload_n 2), (25, .invokestatic 204), (28, .ifCond .ne 8), (31, .aload_n 0)],
  [(32, .iload_n 2), (33, .invokevirtual 207), (36, .iinc 2 1), (39, .goto (-37)), (42, .iconst 0), (43, .istore_n 2), (44, .iload_n 2), (45, .aload_n 0), (46, .getfield 137)],
  [(49, .if_icmp .ge 24), (52, .aload_n 0), (53, .getfield 28), (56, .iload_n 2), (57, .iaload), (58, .iload_n 1), (59, .if_icmp .ne 8), (62, .aload_n 0), (63, .iload_n 2)],
  [(64, .invokevirtual 210), (67, .iinc 2 1), (70, .goto (-26)), (73, .iconst 0), (74, .istore_n 2), (75, .iload_n 2), (76, .aload_n 0), (77, .getfield 137)],
  [(80, .if_icmp .ge 25), (83, .aload_n 0), (84, .getfield 55), (87, .iload_n 2), (88, .iaload), (89, .iconst 1), (90, .if_icmp .ne 9), (93, .aload_n 0), (94, .iload_n 2), (95, .iload_n 1)],
  [(96, .invokevirtual 213), (99, .iinc 2 1), (102, .goto (-27)), (105, .iconst 0), (106, .istore_n 2), (107, .iload_n 2), (108, .aload_n 0), (109, .getfield 137)],
  [(112, .if_icmp .ge 64), (115, .bipush 8), (117, .iload_n 1), (118, .imul), (119, .iload_n 2), (120, .iadd), (121, .istore_n 3), (122, .aload_n 0), (123, .getfield 67), (126, .iload_n 3), (127, .aload_n 0)],
  [(128, .getfield 55), (131, .iload_n 2), (132, .iaload), (133, .iastore), (134, .aload_n 0), (135, .getfield 70), (138, .iload_n 3), (139, .aload_n 0), (140, .getfield 58), (143, .iload_n 2)],
  [(144, .iaload), (145, .iastore), (146, .aload_n 0), (147, .getfield 73), (150, .iload_n 3), (151, .aload_n 0), (152, .getfield 61), (155, .iload_n 2), (156, .iaload), (157, .iastore), (158, .aload_n 0), (159, .getfield 76)],
  [(162, .iload_n 3), (163, .aload_n 0), (164, .getfield 64), (167, .iload_n 2), (168, .iaload), (169, .iastore), (170, .iinc 2 1), (173, .goto (-66))],
  [(176, .iconst 0), (177, .istore_n 2), (178, .iload_n 2), (179, .bipush 64), (181, .if_icmp .ge 26), (184, .aload_n 0), (185, .getfield 79), (188, .bipush 64), (190, .iload_n 1), (191, .imul)],
  [(192, .iload_n 2), (193, .iadd), (194, .aload_n 0), (195, .getfield 52), (198, .iload_n 2), (199, .iaload), (200, .iastore), (201, .iinc 2 1), (204, .goto (-26)), (207, .return_)]])
theorem mok_R_goesBy : MOK me_R_goesBy 1 := ⟨List.mem_of_getElem? (i := 973) (by decide +kernel), List.mem_of_getElem? (i := 8) (by decide +kernel), by decide +kernel, by decide +kernel, rfl⟩
def me_R_runs : MI := (⟨"BoatNamesModel", "runs", "()V"⟩, prog_9_method_38_code, 2, none, 7, [
  [(0, .iconst 0), (1, .istore_n 1), (2, .iload_n 1), (3, .bipush 64), (5, .if_icmp .ge 21), (8, .aload_n 0), (9, .getfield 52), (12, .iload_n 1), (13, .aload_n 0), (14, .getfield 19)],
  [(17, .iload_n 1), (18, .iaload), (19, .iastore), (20, .iinc 1 1), (23, .goto (-21)), (26, .iconst 0), (27, .istore_n 1), (28, .iload_n 1), (29, .aload_n 0), (30, .getfield 137)],
  [(33, .if_icmp .ge 42), (36, .aload_n 0), (37, .getfield 55), (40, .iload_n 1), (41, .iconst 0), (42, .iastore), (43, .aload_n 0), (44, .getfield 58), (47, .iload_n 1)],
  [(48, .iconst (-1)), (49, .iastore), (50, .aload_n 0), (51, .getfield 61), (54, .iload_n 1), (55, .iconst 0), (56, .iastore), (57, .aload_n 0), (58, .getfield 64), (61, .iload_n 1), (62, .aload_n 0), (63, .getfield 31)],
  [(66, .iload_n 1), (67, .iaload), (68, .iastore), (69, .iinc 1 1), (72, .goto (-44)), (75, .aload_n 0), (76, .iconst (-1)), (77, .putfield 198)],
  [(80, .aload_n 0), (81, .iconst (-1)), (82, .putfield 201), (85, .iconst 0), (86, .istore_n 1), (87, .iload_n 1), (88, .bipush 24), (90, .if_icmp .ge 14), (93, .aload_n 0), (94, .iload_n 1), (95, .invokevirtual 217)],
  [(98, .iinc 1 1), (101, .goto (-14)), (104, .return_)]])
theorem mok_R_runs : MOK me_R_runs 0 := ⟨List.mem_of_getElem? (i := 969) (by decide +kernel), List.mem_of_getElem? (i := 8) (by decide +kernel), by decide +kernel, by decide +kernel, rfl⟩
def me_R_runsTold : MI := (⟨"BoatNamesModel", "runsTold", "()V"⟩, prog_9_method_39_code, 1, none, 7, [
  [(0, .aload_n 0), (1, .invokevirtual 220), (4, .aload_n 0), (5, .invokevirtual 223), (8, .return_)]])
theorem mok_R_runsTold : MOK me_R_runsTold 0 := ⟨List.mem_of_getElem? (i := 961) (by decide +kernel), List.mem_of_getElem? (i := 8) (by decide +kernel), by decide +kernel, by decide +kernel, rfl⟩
def me_R_hatesOf : MI := (⟨"BoatNamesModel", "hatesOf", "(III)I"⟩, prog_9_method_40_code, 4, (some .int), 7, [
  [(0, .aload_n 0), (1, .invokevirtual 226), (4, .aload_n 0), (5, .getfield 79), (8, .bipush 64), (10, .iload_n 1), (11, .imul), (12, .bipush 8), (14, .iload_n 2), (15, .imul)],
  [(16, .iadd), (17, .iload_n 3), (18, .iadd), (19, .iaload), (20, .ireturn)]])
theorem mok_R_hatesOf : MOK me_R_hatesOf 3 := ⟨List.mem_of_getElem? (i := 957) (by decide +kernel), List.mem_of_getElem? (i := 8) (by decide +kernel), by decide +kernel, by decide +kernel, rfl⟩
def me_R_hates : MI := (⟨"BoatNamesModel", "hates", "(III)I"⟩, prog_9_method_41_code, 4, (some .int), 7, [
  [(0, .iload_n 1), (1, .invokestatic 130), (4, .ifCond .eq 21), (7, .iload_n 2), (8, .iload_n 3), (9, .invokestatic 156), (12, .ifCond .eq 13), (15, .aload_n 0)],
  [(16, .iload_n 1), (17, .iload_n 2), (18, .iload_n 3), (19, .invokevirtual 229), (22, .goto 5), (25, .bipush (-2)), (27, .ireturn)]])
theorem mok_R_hates : MOK me_R_hates 3 := ⟨List.mem_of_getElem? (i := 953) (by decide +kernel), List.mem_of_getElem? (i := 8) (by decide +kernel), by decide +kernel, by decide +kernel, rfl⟩
def me_R_atOf : MI := (⟨"BoatNamesModel", "atOf", "(III)I"⟩, prog_9_method_42_code, 5, (some .int), 7, [
  [(0, .aload_n 0), (1, .invokevirtual 226), (4, .bipush 8), (6, .iload_n 1), (7, .imul), (8, .iload_n 2), (9, .iadd), (10, .istore 4), (12, .iload_n 3), (13, .ifCond .ne 13)],
  [(16, .aload_n 0), (17, .getfield 67), (20, .iload 4), (22, .iaload), (23, .goto 40), (26, .iload_n 3), (27, .iconst 1), (28, .if_icmp .ne 13), (31, .aload_n 0)],
  [(32, .getfield 70), (35, .iload 4), (37, .iaload), (38, .goto 25), (41, .iload_n 3), (42, .iconst 2), (43, .if_icmp .ne 13), (46, .aload_n 0), (47, .getfield 73)],
  [(50, .iload 4), (52, .iaload), (53, .goto 10), (56, .aload_n 0), (57, .getfield 76), (60, .iload 4), (62, .iaload), (63, .ireturn)]])
theorem mok_R_atOf : MOK me_R_atOf 3 := ⟨List.mem_of_getElem? (i := 1008) (by decide +kernel), List.mem_of_getElem? (i := 8) (by decide +kernel), by decide +kernel, by decide +kernel, rfl⟩
def me_R_at : MI := (⟨"BoatNamesModel", "at", "(III)I"⟩, prog_9_method_43_code, 4, (some .int), 7, [
  [(0, .iload_n 1), (1, .invokestatic 130), (4, .ifCond .eq 30), (7, .aload_n 0), (8, .iload_n 2), (9, .invokevirtual 163), (12, .ifCond .eq 22), (15, .iload_n 3)],
  [(16, .iconst 0), (17, .iconst 3), (18, .invokestatic 115), (21, .ifCond .eq 13), (24, .aload_n 0), (25, .iload_n 1), (26, .iload_n 2), (27, .iload_n 3), (28, .invokevirtual 232), (31, .goto 5)],
  [(34, .bipush (-2)), (36, .ireturn)]])
theorem mok_R_at : MOK me_R_at 3 := ⟨List.mem_of_getElem? (i := 1004) (by decide +kernel), List.mem_of_getElem? (i := 8) (by decide +kernel), by decide +kernel, by decide +kernel, rfl⟩
def me_R_manyAt : MI := (⟨"BoatNamesModel", "manyAt", "(II)I"⟩, prog_9_method_44_code, 5, (some .int), 7, [
  [(0, .iconst 0), (1, .istore_n 3), (2, .iconst 0), (3, .istore 4), (5, .iload 4), (7, .aload_n 0), (8, .getfield 137), (11, .if_icmp .ge 33), (14, .iload_n 3), (15, .aload_n 0)],
  [(16, .getfield 67), (19, .bipush 8), (21, .iload_n 1), (22, .imul), (23, .iload 4), (25, .iadd), (26, .iaload), (27, .iload_n 2), (28, .if_icmp .ne 7), (31, .iconst 1)],
  [(32, .goto 4), (35, .iconst 0), (36, .iadd), (37, .istore_n 3), (38, .iinc 4 1), (41, .goto (-36)), (44, .iload_n 3), (45, .ireturn)]])
theorem mok_R_manyAt : MOK me_R_manyAt 2 := ⟨List.mem_of_getElem? (i := 1020) (by decide +kernel), List.mem_of_getElem? (i := 8) (by decide +kernel), by decide +kernel, by decide +kernel, rfl⟩
def me_R_afloatOf : MI := (⟨"BoatNamesModel", "afloatOf", "(I)I"⟩, prog_9_method_45_code, 2, (some .int), 7, [
  [(0, .aload_n 0), (1, .invokevirtual 226), (4, .aload_n 0), (5, .iload_n 1), (6, .iconst 1), (7, .invokevirtual 235), (10, .ireturn)]])
theorem mok_R_afloatOf : MOK me_R_afloatOf 1 := ⟨List.mem_of_getElem? (i := 1016) (by decide +kernel), List.mem_of_getElem? (i := 8) (by decide +kernel), by decide +kernel, by decide +kernel, rfl⟩
def me_R_afloat : MI := (⟨"BoatNamesModel", "afloat", "(I)I"⟩, prog_9_method_46_code, 2, (some .int), 7, [
  [(0, .iload_n 1), (1, .invokestatic 130), (4, .ifCond .eq 11), (7, .aload_n 0), (8, .iload_n 1), (9, .invokevirtual 238), (12, .goto 5), (15, .bipush (-2))],
  [(17, .ireturn)]])
theorem mok_R_afloat : MOK me_R_afloat 1 := ⟨List.mem_of_getElem? (i := 1012) (by decide +kernel), List.mem_of_getElem? (i := 8) (by decide +kernel), by decide +kernel, by decide +kernel, rfl⟩
def me_R_namedOf : MI := (⟨"BoatNamesModel", "namedOf", "(II)I"⟩, prog_9_method_47_code, 5, (some .int), 7, [
  [(0, .aload_n 0), (1, .invokevirtual 226), (4, .iconst 0), (5, .istore_n 3), (6, .iconst 0), (7, .istore 4), (9, .iload 4), (11, .aload_n 0), (12, .getfield 137), (15, .if_icmp .ge 43)],
  [(18, .iload_n 3), (19, .aload_n 0), (20, .getfield 58), (23, .iload 4), (25, .iaload), (26, .iload_n 1), (27, .if_icmp .ne 22), (30, .iload_n 2), (31, .ifCond .eq 14)],
  [(34, .aload_n 0), (35, .getfield 55), (38, .iload 4), (40, .iaload), (41, .iconst 2), (42, .if_icmp .ne 7), (45, .iconst 1), (46, .goto 4)],
  [(49, .iconst 0), (50, .iadd), (51, .istore_n 3), (52, .iinc 4 1), (55, .goto (-46)), (58, .iload_n 3), (59, .ireturn)]])
theorem mok_R_namedOf : MOK me_R_namedOf 2 := ⟨List.mem_of_getElem? (i := 1031) (by decide +kernel), List.mem_of_getElem? (i := 8) (by decide +kernel), by decide +kernel, by decide +kernel, rfl⟩
def me_R_named : MI := (⟨"BoatNamesModel", "named", "(II)I"⟩, prog_9_method_48_code, 3, (some .int), 7, [
  [(0, .iload_n 1), (1, .invokestatic 119), (4, .ifCond .eq 19), (7, .iload_n 2), (8, .invokestatic 241), (11, .ifCond .eq 12), (14, .aload_n 0), (15, .iload_n 1)],
  [(16, .iload_n 2), (17, .invokevirtual 244), (20, .goto 5), (23, .bipush (-2)), (25, .ireturn)]])
theorem mok_R_named : MOK me_R_named 2 := ⟨List.mem_of_getElem? (i := 1024) (by decide +kernel), List.mem_of_getElem? (i := 8) (by decide +kernel), by decide +kernel, by decide +kernel, rfl⟩
def me_R_firstOf : MI := (⟨"BoatNamesModel", "firstOf", "(I)I"⟩, prog_9_method_49_code, 2, (some .int), 7, [
  [(0, .aload_n 0), (1, .invokevirtual 226), (4, .iload_n 1), (5, .ifCond .ne 10), (8, .aload_n 0), (9, .getfield 198), (12, .goto 7), (15, .aload_n 0)],
  [(16, .getfield 201), (19, .ireturn)]])
theorem mok_R_firstOf : MOK me_R_firstOf 1 := ⟨List.mem_of_getElem? (i := 1039) (by decide +kernel), List.mem_of_getElem? (i := 8) (by decide +kernel), by decide +kernel, by decide +kernel, rfl⟩
def me_R_first : MI := (⟨"BoatNamesModel", "first", "(I)I"⟩, prog_9_method_50_code, 2, (some .int), 7, [
  [(0, .iload_n 1), (1, .invokestatic 241), (4, .ifCond .eq 11), (7, .aload_n 0), (8, .iload_n 1), (9, .invokevirtual 247), (12, .goto 5), (15, .bipush (-2))],
  [(17, .ireturn)]])
theorem mok_R_first : MOK me_R_first 1 := ⟨List.mem_of_getElem? (i := 1035) (by decide +kernel), List.mem_of_getElem? (i := 8) (by decide +kernel), by decide +kernel, by decide +kernel, rfl⟩
def me_R_lovedOf : MI := (⟨"BoatNamesModel", "lovedOf", "()I"⟩, prog_9_method_51_code, 3, (some .int), 7, [
  [(0, .aload_n 0), (1, .invokevirtual 226), (4, .sipush 255), (7, .istore_n 1), (8, .iconst 0), (9, .istore_n 2), (10, .iload_n 2), (11, .bipush 64), (13, .if_icmp .ge 33)],
  [(16, .iload_n 1), (17, .aload_n 0), (18, .getfield 52), (21, .iload_n 2), (22, .iaload), (23, .ifCond .le 14), (26, .iconst 1), (27, .iload_n 2), (28, .bipush 8), (30, .irem), (31, .ishl)],
  [(32, .iconst (-1)), (33, .ixor), (34, .goto 4), (37, .iconst (-1)), (38, .iand), (39, .istore_n 1), (40, .iinc 2 1), (43, .goto (-33)), (46, .iload_n 1), (47, .ireturn)]])
theorem mok_R_lovedOf : MOK me_R_lovedOf 0 := ⟨List.mem_of_getElem? (i := 1047) (by decide +kernel), List.mem_of_getElem? (i := 8) (by decide +kernel), by decide +kernel, by decide +kernel, rfl⟩
def me_R_loved : MI := (⟨"BoatNamesModel", "loved", "()I"⟩, prog_9_method_52_code, 1, (some .int), 7, [
  [(0, .aload_n 0), (1, .invokevirtual 250), (4, .ireturn)]])
theorem mok_R_loved : MOK me_R_loved 0 := ⟨List.mem_of_getElem? (i := 1043) (by decide +kernel), List.mem_of_getElem? (i := 8) (by decide +kernel), by decide +kernel, by decide +kernel, rfl⟩
def me_R_hatesAll : MI := (⟨"BoatNamesModel", "hatesAll", "(I)I"⟩, prog_9_method_53_code, 4, (some .int), 7, [
  [(0, .iconst 0), (1, .istore_n 2), (2, .iconst 0), (3, .istore_n 3), (4, .iload_n 3), (5, .bipush 8), (7, .if_icmp .ge 23), (10, .iload_n 2), (11, .aload_n 0), (12, .getfield 52), (15, .bipush 8)],
  [(17, .iload_n 1), (18, .imul), (19, .iload_n 3), (20, .iadd), (21, .iaload), (22, .iadd), (23, .istore_n 2), (24, .iinc 3 1), (27, .goto (-23)), (30, .iload_n 2), (31, .ireturn)]])
theorem mok_R_hatesAll : MOK me_R_hatesAll 1 := ⟨List.mem_of_getElem? (i := 1059) (by decide +kernel), List.mem_of_getElem? (i := 8) (by decide +kernel), by decide +kernel, by decide +kernel, rfl⟩
def me_R_bitterOf : MI := (⟨"BoatNamesModel", "bitterOf", "()I"⟩, prog_9_method_54_code, 3, (some .int), 7, [
  [(0, .aload_n 0), (1, .invokevirtual 226), (4, .iconst 0), (5, .istore_n 1), (6, .iconst 1), (7, .istore_n 2), (8, .iload_n 2), (9, .bipush 8), (11, .if_icmp .ge 28), (14, .aload_n 0), (15, .iload_n 2)],
  [(16, .invokevirtual 254), (19, .aload_n 0), (20, .iload_n 1), (21, .invokevirtual 254), (24, .if_icmp .le 7), (27, .iload_n 2), (28, .goto 4), (31, .iload_n 1)],
  [(32, .istore_n 1), (33, .iinc 2 1), (36, .goto (-28)), (39, .iload_n 1), (40, .ireturn)]])
theorem mok_R_bitterOf : MOK me_R_bitterOf 0 := ⟨List.mem_of_getElem? (i := 1055) (by decide +kernel), List.mem_of_getElem? (i := 8) (by decide +kernel), by decide +kernel, by decide +kernel, rfl⟩
def me_R_bitter : MI := (⟨"BoatNamesModel", "bitter", "()I"⟩, prog_9_method_55_code, 1, (some .int), 7, [
  [(0, .aload_n 0), (1, .invokevirtual 257), (4, .ireturn)]])
theorem mok_R_bitter : MOK me_R_bitter 0 := ⟨List.mem_of_getElem? (i := 1051) (by decide +kernel), List.mem_of_getElem? (i := 8) (by decide +kernel), by decide +kernel, by decide +kernel, rfl⟩
def me_R_longNow : MI := (⟨"BoatNamesModel", "longNow", "(I)I"⟩, prog_9_method_56_code, 4, (some .int), 7, [
  [(0, .iconst 0), (1, .istore_n 2), (2, .iconst 0), (3, .istore_n 3), (4, .iload_n 3), (5, .bipush 24), (7, .if_icmp .ge 32), (10, .iload_n 2), (11, .aload_n 0), (12, .getfield 67), (15, .bipush 8)],
  [(17, .iload_n 3), (18, .imul), (19, .iload_n 1), (20, .iadd), (21, .iaload), (22, .iconst 1), (23, .if_icmp .ne 7), (26, .iconst 1), (27, .goto 4), (30, .iconst 0), (31, .iadd)],
  [(32, .istore_n 2), (33, .iinc 3 1), (36, .goto (-32)), (39, .iload_n 2), (40, .ireturn)]])
theorem mok_R_longNow : MOK me_R_longNow 1 := ⟨List.mem_of_getElem? (i := 1071) (by decide +kernel), List.mem_of_getElem? (i := 8) (by decide +kernel), by decide +kernel, by decide +kernel, rfl⟩
def me_R_longOf : MI := (⟨"BoatNamesModel", "longOf", "(I)I"⟩, prog_9_method_57_code, 2, (some .int), 7, [
  [(0, .aload_n 0), (1, .invokevirtual 226), (4, .aload_n 0), (5, .iload_n 1), (6, .invokevirtual 260), (9, .ireturn)]])
theorem mok_R_longOf : MOK me_R_longOf 1 := ⟨List.mem_of_getElem? (i := 1067) (by decide +kernel), List.mem_of_getElem? (i := 8) (by decide +kernel), by decide +kernel, by decide +kernel, rfl⟩
def me_R_longs : MI := (⟨"BoatNamesModel", "longs", "(I)I"⟩, prog_9_method_58_code, 2, (some .int), 7, [
  [(0, .aload_n 0), (1, .iload_n 1), (2, .invokevirtual 163), (5, .ifCond .eq 11), (8, .aload_n 0), (9, .iload_n 1), (10, .invokevirtual 263), (13, .goto 5)],
  [(16, .bipush (-2)), (18, .ireturn)]])
theorem mok_R_longs : MOK me_R_longs 1 := ⟨List.mem_of_getElem? (i := 1063) (by decide +kernel), List.mem_of_getElem? (i := 8) (by decide +kernel), by decide +kernel, by decide +kernel, rfl⟩
def me_R_wrongOf : MI := (⟨"BoatNamesModel", "wrongOf", "(II)I"⟩, prog_9_method_59_code, 9, (some .int), 7, [
  [(0, .aload_n 0), (1, .invokevirtual 220), (4, .iconst (-1)), (5, .istore_n 3), (6, .iconst (-1)), (7, .istore 4), (9, .iconst 0), (10, .istore 5), (12, .iload 5), (14, .bipush 8)],
  [(16, .if_icmp .ge 101), (19, .iload 5), (21, .aload_n 0), (22, .getfield 25), (25, .iload_n 1), (26, .iaload), (27, .if_icmp .eq 84), (30, .bipush 8)],
  [(32, .iload 5), (34, .imul), (35, .aload_n 0), (36, .getfield 25), (39, .iload_n 1), (40, .iaload), (41, .iadd), (42, .istore 6), (44, .aload_n 0), (45, .getfield 19)],
  [(48, .iload 6), (50, .iaload), (51, .istore 7), (53, .aload_n 0), (54, .getfield 19), (57, .iload 6), (59, .iconst 5), (60, .iastore), (61, .aload_n 0), (62, .invokevirtual 223)],
  [(65, .aload_n 0), (66, .getfield 19), (69, .iload 6), (71, .iload 7), (73, .iastore), (74, .aload_n 0), (75, .iload_n 1), (76, .invokevirtual 260), (79, .istore 8)],
  [(81, .iload 8), (83, .iload 4), (85, .if_icmp .le 8), (88, .iload 5), (90, .goto 4), (93, .iload_n 3), (94, .istore_n 3), (95, .iload 8)],
  [(97, .iload 4), (99, .if_icmp .le 8), (102, .iload 8), (104, .goto 5), (107, .iload 4), (109, .istore 4), (111, .iinc 5 1)],
  [(114, .goto (-102)), (117, .iload_n 2), (118, .ifCond .ne 7), (121, .iload_n 3), (122, .goto 5), (125, .iload 4), (127, .ireturn)]])
theorem mok_R_wrongOf : MOK me_R_wrongOf 2 := ⟨List.mem_of_getElem? (i := 1079) (by decide +kernel), List.mem_of_getElem? (i := 8) (by decide +kernel), by decide +kernel, by decide +kernel, rfl⟩
def me_R_wrong : MI := (⟨"BoatNamesModel", "wrong", "(II)I"⟩, prog_9_method_60_code, 3, (some .int), 7, [
  [(0, .aload_n 0), (1, .iload_n 1), (2, .invokevirtual 163), (5, .ifCond .eq 19), (8, .iload_n 2), (9, .invokestatic 241), (12, .ifCond .eq 12), (15, .aload_n 0)],
  [(16, .iload_n 1), (17, .iload_n 2), (18, .invokevirtual 266), (21, .goto 5), (24, .bipush (-2)), (26, .ireturn)]])
theorem mok_R_wrong : MOK me_R_wrong 2 := ⟨List.mem_of_getElem? (i := 1075) (by decide +kernel), List.mem_of_getElem? (i := 8) (by decide +kernel), by decide +kernel, by decide +kernel, rfl⟩
def me_R_payOf : MI := (⟨"BoatNamesModel", "payOf", "(II)I"⟩, prog_9_method_61_code, 7, (some .int), 7, [
  [(0, .aload_n 0), (1, .invokevirtual 220), (4, .iconst (-1)), (5, .istore_n 3), (6, .iconst (-1)), (7, .istore 4), (9, .aload_n 0), (10, .aload_n 0), (11, .getfield 169), (14, .iconst 1), (15, .iadd)],
  [(16, .putfield 182), (19, .aload_n 0), (20, .getfield 43), (23, .aload_n 0), (24, .getfield 169), (27, .iconst 1), (28, .iastore), (29, .aload_n 0), (30, .getfield 49)],
  [(33, .aload_n 0), (34, .getfield 169), (37, .iload_n 1), (38, .iastore), (39, .iconst 0), (40, .istore 5), (42, .iload 5), (44, .bipush 24), (46, .if_icmp .ge 61)],
  [(49, .aload_n 0), (50, .getfield 46), (53, .aload_n 0), (54, .getfield 169), (57, .iload 5), (59, .iastore), (60, .aload_n 0), (61, .invokevirtual 223)],
  [(64, .aload_n 0), (65, .iload_n 1), (66, .invokevirtual 260), (69, .istore 6), (71, .iload 6), (73, .iload 4), (75, .if_icmp .le 8), (78, .iload 5)],
  [(80, .goto 4), (83, .iload_n 3), (84, .istore_n 3), (85, .iload 6), (87, .iload 4), (89, .if_icmp .le 8), (92, .iload 6), (94, .goto 5)],
  [(97, .iload 4), (99, .istore 4), (101, .iinc 5 1), (104, .goto (-62)), (107, .iload_n 2), (108, .ifCond .ne 7), (111, .iload_n 3)],
  [(112, .goto 5), (115, .iload 4), (117, .ireturn)]])
theorem mok_R_payOf : MOK me_R_payOf 2 := ⟨List.mem_of_getElem? (i := 1087) (by decide +kernel), List.mem_of_getElem? (i := 8) (by decide +kernel), by decide +kernel, by decide +kernel, rfl⟩
def me_R_pay : MI := (⟨"BoatNamesModel", "pay", "(II)I"⟩, prog_9_method_62_code, 3, (some .int), 7, [
  [(0, .aload_n 0), (1, .iload_n 1), (2, .invokevirtual 163), (5, .ifCond .eq 19), (8, .iload_n 2), (9, .invokestatic 241), (12, .ifCond .eq 12), (15, .aload_n 0)],
  [(16, .iload_n 1), (17, .iload_n 2), (18, .invokevirtual 269), (21, .goto 5), (24, .bipush (-2)), (26, .ireturn)]])
theorem mok_R_pay : MOK me_R_pay 2 := ⟨List.mem_of_getElem? (i := 1083) (by decide +kernel), List.mem_of_getElem? (i := 8) (by decide +kernel), by decide +kernel, by decide +kernel, rfl⟩
def me_R_waitsOf : MI := (⟨"BoatNamesModel", "waitsOf", "(II)I"⟩, prog_9_method_63_code, 9, (some .int), 7, [
  [(0, .aload_n 0), (1, .invokevirtual 220), (4, .aload_n 0), (5, .getfield 28), (8, .iload_n 1), (9, .iaload), (10, .istore_n 3), (11, .iconst (-1)), (12, .istore 4), (14, .iconst 0), (15, .istore 5)],
  [(17, .iconst 0), (18, .istore 6), (20, .iload 6), (22, .bipush 24), (24, .if_icmp .ge 78), (27, .aload_n 0), (28, .getfield 28), (31, .iload_n 1)],
  [(32, .iload 6), (34, .iastore), (35, .aload_n 0), (36, .invokevirtual 223), (39, .aload_n 0), (40, .bipush 23), (42, .iconst 2), (43, .invokevirtual 235), (46, .istore 7)],
  [(48, .iload 4), (50, .iconst (-1)), (51, .if_icmp .eq 10), (54, .iload 7), (56, .iload 5), (58, .if_icmp .ge 7), (61, .iconst 1), (62, .goto 4)],
  [(65, .iconst 0), (66, .istore 8), (68, .iload 8), (70, .ifCond .eq 8), (73, .iload 6), (75, .goto 5), (78, .iload 4)],
  [(80, .istore 4), (82, .iload 8), (84, .ifCond .eq 8), (87, .iload 7), (89, .goto 5), (92, .iload 5), (94, .istore 5)],
  [(96, .iinc 6 1), (99, .goto (-79)), (102, .aload_n 0), (103, .getfield 28), (106, .iload_n 1), (107, .iload_n 3), (108, .iastore), (109, .iload_n 2), (110, .ifCond .ne 8)],
  [(113, .iload 4), (115, .goto 5), (118, .iload 5), (120, .ireturn)]])
theorem mok_R_waitsOf : MOK me_R_waitsOf 2 := ⟨List.mem_of_getElem? (i := 1095) (by decide +kernel), List.mem_of_getElem? (i := 8) (by decide +kernel), by decide +kernel, by decide +kernel, rfl⟩
def me_R_waits : MI := (⟨"BoatNamesModel", "waits", "(II)I"⟩, prog_9_method_64_code, 3, (some .int), 7, [
  [(0, .aload_n 0), (1, .iload_n 1), (2, .invokevirtual 163), (5, .ifCond .eq 19), (8, .iload_n 2), (9, .invokestatic 241), (12, .ifCond .eq 12), (15, .aload_n 0)],
  [(16, .iload_n 1), (17, .iload_n 2), (18, .invokevirtual 272), (21, .goto 5), (24, .bipush (-2)), (26, .ireturn)]])
theorem mok_R_waits : MOK me_R_waits 2 := ⟨List.mem_of_getElem? (i := 1091) (by decide +kernel), List.mem_of_getElem? (i := 8) (by decide +kernel), by decide +kernel, by decide +kernel, rfl⟩
def me_R_isSpared : MI := (⟨"BoatNamesModel", "isSpared", "(I)Z"⟩, prog_9_method_65_code, 2, (some .boolean), 7, [
  [(0, .aload_n 0), (1, .iload_n 1), (2, .putfield 185), (5, .aload_n 0), (6, .invokevirtual 223), (9, .aload_n 0), (10, .bipush 23), (12, .iconst 2), (13, .invokevirtual 235)],
  [(16, .ifCond .ne 7), (19, .iconst 1), (20, .goto 4), (23, .iconst 0), (24, .ireturn)]])
theorem mok_R_isSpared : MOK me_R_isSpared 1 := ⟨List.mem_of_getElem? (i := 1107) (by decide +kernel), List.mem_of_getElem? (i := 8) (by decide +kernel), by decide +kernel, by decide +kernel, rfl⟩
def me_R_spareBy : MI := (⟨"BoatNamesModel", "spareBy", "()I"⟩, prog_9_method_66_code, 3, (some .int), 7, [
  [(0, .aload_n 0), (1, .invokevirtual 220), (4, .aload_n 0), (5, .iconst 0), (6, .invokevirtual 275), (9, .ifCond .eq 5), (12, .iconst 0), (13, .ireturn), (14, .iconst 0), (15, .istore_n 1)],
  [(16, .iload_n 1), (17, .aload_n 0), (18, .getfield 169), (21, .if_icmp .ge 28), (24, .aload_n 0), (25, .getfield 82), (28, .iconst 0), (29, .iload_n 1), (30, .iastore), (31, .aload_n 0)],
  [(32, .iconst 1), (33, .iload_n 1), (34, .ishl), (35, .invokevirtual 275), (38, .ifCond .eq 5), (41, .iconst 1), (42, .ireturn), (43, .iinc 1 1), (46, .goto (-30))],
  [(49, .iconst 0), (50, .istore_n 1), (51, .iload_n 1), (52, .aload_n 0), (53, .getfield 169), (56, .if_icmp .ge 57), (59, .iload_n 1), (60, .iconst 1), (61, .iadd), (62, .istore_n 2), (63, .iload_n 2)],
  [(64, .aload_n 0), (65, .getfield 169), (68, .if_icmp .ge 39), (71, .aload_n 0), (72, .getfield 82), (75, .iconst 0), (76, .iload_n 1), (77, .iastore), (78, .aload_n 0), (79, .getfield 82)],
  [(82, .iconst 1), (83, .iload_n 2), (84, .iastore), (85, .aload_n 0), (86, .iconst 1), (87, .iload_n 1), (88, .ishl), (89, .iconst 1), (90, .iload_n 2), (91, .ishl), (92, .ior), (93, .invokevirtual 275)],
  [(96, .ifCond .eq 5), (99, .iconst 2), (100, .ireturn), (101, .iinc 2 1), (104, .goto (-41)), (107, .iinc 1 1), (110, .goto (-59))],
  [(113, .iconst (-1)), (114, .ireturn)]])
theorem mok_R_spareBy : MOK me_R_spareBy 0 := ⟨List.mem_of_getElem? (i := 1103) (by decide +kernel), List.mem_of_getElem? (i := 8) (by decide +kernel), by decide +kernel, by decide +kernel, rfl⟩
def me_R_ofRow : MI := (⟨"BoatNamesModel", "ofRow", "(II)I"⟩, prog_9_method_67_code, 3, (some .int), 7, [
  [(0, .iload_n 2), (1, .iconst (-1)), (2, .if_icmp .ne 7), (5, .iload_n 1), (6, .goto 18), (9, .iload_n 2), (10, .iload_n 1), (11, .if_icmp .ge 12), (14, .aload_n 0), (15, .getfield 82)],
  [(18, .iload_n 2), (19, .iaload), (20, .goto 4), (23, .iconst (-1)), (24, .ireturn)]])
theorem mok_R_ofRow : MOK me_R_ofRow 2 := ⟨List.mem_of_getElem? (i := 1111) (by decide +kernel), List.mem_of_getElem? (i := 8) (by decide +kernel), by decide +kernel, by decide +kernel, rfl⟩
def me_R_spare : MI := (⟨"BoatNamesModel", "spare", "(I)I"⟩, prog_9_method_68_code, 2, (some .int), 7, [
  [(0, .iload_n 1), (1, .iconst (-1)), (2, .iconst 1), (3, .invokestatic 115), (6, .ifCond .eq 15), (9, .aload_n 0), (10, .aload_n 0), (11, .invokevirtual 278), (14, .iload_n 1), (15, .invokevirtual 281)],
  [(18, .goto 5), (21, .bipush (-2)), (23, .ireturn)]])
theorem mok_R_spare : MOK me_R_spare 1 := ⟨List.mem_of_getElem? (i := 1099) (by decide +kernel), List.mem_of_getElem? (i := 8) (by decide +kernel), by decide +kernel, by decide +kernel, rfl⟩
def me_R_seen : MI := (⟨"BoatNamesModel", "seen", "(III)I"⟩, prog_9_method_69_code, 4, (some .int), 7, [
  [(0, .iload_n 1), (1, .invokestatic 130), (4, .ifCond .eq 20), (7, .iload_n 2), (8, .invokestatic 119), (11, .ifCond .eq 13), (14, .iload_n 3), (15, .iconst 0)],
  [(16, .bipush 8), (18, .invokestatic 115), (21, .ifCond .ne 6), (24, .bipush (-2)), (26, .ireturn), (27, .aload_n 0), (28, .getfield 284), (31, .bipush 8)],
  [(33, .if_icmp .ne 6), (36, .bipush (-4)), (38, .ireturn), (39, .aload_n 0), (40, .getfield 85), (43, .aload_n 0), (44, .getfield 284), (47, .iload_n 1)],
  [(48, .iastore), (49, .aload_n 0), (50, .getfield 88), (53, .aload_n 0), (54, .getfield 284), (57, .iload_n 2), (58, .iastore), (59, .aload_n 0), (60, .getfield 91), (63, .aload_n 0)],
  [(64, .getfield 284), (67, .iload_n 3), (68, .iastore), (69, .aload_n 0), (70, .dup), (71, .getfield 284), (74, .iconst 1), (75, .iadd), (76, .putfield 284), (79, .aload_n 0)],
  [(80, .getfield 284), (83, .ireturn)]])
theorem mok_R_seen : MOK me_R_seen 3 := ⟨List.mem_of_getElem? (i := 1115) (by decide +kernel), List.mem_of_getElem? (i := 8) (by decide +kernel), by decide +kernel, by decide +kernel, rfl⟩
def me_R_forget : MI := (⟨"BoatNamesModel", "forget", "()I"⟩, prog_9_method_70_code, 2, (some .int), 7, [
  [(0, .aload_n 0), (1, .getfield 284), (4, .istore_n 1), (5, .aload_n 0), (6, .iconst 0), (7, .putfield 284), (10, .iload_n 1), (11, .ireturn)]])
theorem mok_R_forget : MOK me_R_forget 0 := ⟨List.mem_of_getElem? (i := 1119) (by decide +kernel), List.mem_of_getElem? (i := 8) (by decide +kernel), by decide +kernel, by decide +kernel, rfl⟩
def me_R_isSeen : MI := (⟨"BoatNamesModel", "isSeen", "()Z"⟩, prog_9_method_71_code, 4, (some .boolean), 7, [
  [(0, .aload_n 0), (1, .invokevirtual 223), (4, .iconst 1), (5, .istore_n 1), (6, .iconst 0), (7, .istore_n 2), (8, .iload_n 2), (9, .aload_n 0), (10, .getfield 284), (13, .if_icmp .ge 79)],
  [(16, .iload_n 1), (17, .ifCond .eq 75), (20, .aload_n 0), (21, .getfield 88), (24, .iload_n 2), (25, .iaload), (26, .aload_n 0), (27, .getfield 137), (30, .if_icmp .ge 27)],
  [(33, .aload_n 0), (34, .getfield 70), (37, .bipush 8), (39, .aload_n 0), (40, .getfield 85), (43, .iload_n 2), (44, .iaload), (45, .imul), (46, .aload_n 0), (47, .getfield 88)],
  [(50, .iload_n 2), (51, .iaload), (52, .iadd), (53, .iaload), (54, .goto 5), (57, .bipush 9), (59, .istore_n 3), (60, .iload_n 3), (61, .iconst (-1)), (62, .if_icmp .ne 8)],
  [(65, .bipush 8), (67, .goto 4), (70, .iload_n 3), (71, .aload_n 0), (72, .getfield 91), (75, .iload_n 2), (76, .iaload), (77, .if_icmp .ne 7)],
  [(80, .iconst 1), (81, .goto 4), (84, .iconst 0), (85, .istore_n 1), (86, .iinc 2 1), (89, .goto (-81)), (92, .iload_n 1), (93, .ireturn)]])
theorem mok_R_isSeen : MOK me_R_isSeen 0 := ⟨List.mem_of_getElem? (i := 1131) (by decide +kernel), List.mem_of_getElem? (i := 8) (by decide +kernel), by decide +kernel, by decide +kernel, rfl⟩
def me_R_neverNow : MI := (⟨"BoatNamesModel", "neverNow", "()I"⟩, prog_9_method_72_code, 3, (some .int), 7, [
  [(0, .aload_n 0), (1, .invokevirtual 220), (4, .iconst 0), (5, .istore_n 1), (6, .iconst 0), (7, .istore_n 2), (8, .iload_n 2), (9, .aload_n 0), (10, .getfield 169), (13, .if_icmp .ge 33)],
  [(16, .aload_n 0), (17, .iconst 1), (18, .iload_n 2), (19, .ishl), (20, .putfield 185), (23, .iload_n 1), (24, .aload_n 0), (25, .invokevirtual 287), (28, .ifCond .eq 9), (31, .iconst 1)],
  [(32, .iload_n 2), (33, .ishl), (34, .goto 4), (37, .iconst 0), (38, .ior), (39, .istore_n 1), (40, .iinc 2 1), (43, .goto (-35)), (46, .iload_n 1), (47, .ireturn)]])
theorem mok_R_neverNow : MOK me_R_neverNow 0 := ⟨List.mem_of_getElem? (i := 1127) (by decide +kernel), List.mem_of_getElem? (i := 8) (by decide +kernel), by decide +kernel, by decide +kernel, rfl⟩
def me_R_never : MI := (⟨"BoatNamesModel", "never", "()I"⟩, prog_9_method_73_code, 1, (some .int), 7, [
  [(0, .aload_n 0), (1, .invokevirtual 291), (4, .ireturn)]])
theorem mok_R_never : MOK me_R_never 0 := ⟨List.mem_of_getElem? (i := 1123) (by decide +kernel), List.mem_of_getElem? (i := 8) (by decide +kernel), by decide +kernel, by decide +kernel, rfl⟩
def me_R_sortsBy : MI := (⟨"BoatNamesModel", "sortsBy", "(I)I"⟩, prog_9_method_74_code, 5, (some .int), 7, [
  [(0, .aload_n 0), (1, .invokevirtual 220), (4, .aload_n 0), (5, .getfield 22), (8, .iload_n 1), (9, .iaload), (10, .istore_n 2), (11, .iconst 0), (12, .istore_n 3), (13, .iconst 0), (14, .istore 4)],
  [(16, .iload 4), (18, .iconst 3), (19, .if_icmp .ge 35), (22, .aload_n 0), (23, .getfield 22), (26, .iload_n 1), (27, .iload 4), (29, .iastore), (30, .iload_n 3), (31, .aload_n 0)],
  [(32, .invokevirtual 287), (35, .ifCond .eq 10), (38, .iconst 1), (39, .iload 4), (41, .ishl), (42, .goto 4), (45, .iconst 0), (46, .ior), (47, .istore_n 3)],
  [(48, .iinc 4 1), (51, .goto (-35)), (54, .aload_n 0), (55, .getfield 22), (58, .iload_n 1), (59, .iload_n 2), (60, .iastore), (61, .iload_n 3), (62, .ireturn)]])
theorem mok_R_sortsBy : MOK me_R_sortsBy 1 := ⟨List.mem_of_getElem? (i := 1139) (by decide +kernel), List.mem_of_getElem? (i := 8) (by decide +kernel), by decide +kernel, by decide +kernel, rfl⟩
def me_R_sort : MI := (⟨"BoatNamesModel", "sort", "(I)I"⟩, prog_9_method_75_code, 2, (some .int), 7, [
  [(0, .aload_n 0), (1, .iload_n 1), (2, .invokevirtual 163), (5, .ifCond .eq 11), (8, .aload_n 0), (9, .iload_n 1), (10, .invokevirtual 294), (13, .goto 5)],
  [(16, .bipush (-2)), (18, .ireturn)]])
theorem mok_R_sort : MOK me_R_sort 1 := ⟨List.mem_of_getElem? (i := 1135) (by decide +kernel), List.mem_of_getElem? (i := 8) (by decide +kernel), by decide +kernel, by decide +kernel, rfl⟩
def me_R_namesAll : MI := (⟨"BoatNamesModel", "namesAll", "(I)I"⟩, prog_9_method_76_code, 4, (some .int), 7, [
  [(0, .iconst 0), (1, .istore_n 2), (2, .iconst 0), (3, .istore_n 3), (4, .iload_n 3), (5, .aload_n 0), (6, .getfield 137), (9, .if_icmp .ge 29), (12, .iload_n 2), (13, .aload_n 0), (14, .getfield 70)],
  [(17, .bipush 8), (19, .iload_n 1), (20, .imul), (21, .iload_n 3), (22, .iadd), (23, .iaload), (24, .iconst 1), (25, .iadd), (26, .iconst 4), (27, .iload_n 3), (28, .imul), (29, .ishl), (30, .ior), (31, .istore_n 2)],
  [(32, .iinc 3 1), (35, .goto (-31)), (38, .iload_n 2), (39, .ireturn)]])
theorem mok_R_namesAll : MOK me_R_namesAll 1 := ⟨List.mem_of_getElem? (i := 1151) (by decide +kernel), List.mem_of_getElem? (i := 8) (by decide +kernel), by decide +kernel, by decide +kernel, rfl⟩
def me_R_hatedBy : MI := (⟨"BoatNamesModel", "hatedBy", "(II)I"⟩, prog_9_method_77_code, 8, (some .int), 7, [
  [(0, .aload_n 0), (1, .invokevirtual 220), (4, .bipush 8), (6, .iload_n 1), (7, .imul), (8, .iload_n 2), (9, .iadd), (10, .istore_n 3), (11, .aload_n 0), (12, .getfield 19), (15, .iload_n 3)],
  [(16, .iaload), (17, .istore 4), (19, .iconst 0), (20, .istore 5), (22, .iconst 0), (23, .istore 6), (25, .iload 6), (27, .bipush 10), (29, .if_icmp .ge 72)],
  [(32, .aload_n 0), (33, .getfield 19), (36, .iload_n 3), (37, .iload 6), (39, .iastore), (40, .iload 5), (42, .aload_n 0), (43, .invokevirtual 287), (46, .ifCond .eq 10)],
  [(49, .iconst 1), (50, .iload 6), (52, .ishl), (53, .goto 4), (56, .iconst 0), (57, .ior), (58, .istore 5), (60, .iconst 0), (61, .istore 7), (63, .iload 7)],
  [(65, .bipush 24), (67, .if_icmp .ge 28), (70, .aload_n 0), (71, .getfield 94), (74, .bipush 24), (76, .iload 6), (78, .imul), (79, .iload 7)],
  [(81, .iadd), (82, .aload_n 0), (83, .iload 7), (85, .invokevirtual 297), (88, .iastore), (89, .iinc 7 1), (92, .goto (-29)), (95, .iinc 6 1)],
  [(98, .goto (-73)), (101, .aload_n 0), (102, .getfield 19), (105, .iload_n 3), (106, .iload 4), (108, .iastore), (109, .iload 5), (111, .ireturn)]])
theorem mok_R_hatedBy : MOK me_R_hatedBy 2 := ⟨List.mem_of_getElem? (i := 1147) (by decide +kernel), List.mem_of_getElem? (i := 8) (by decide +kernel), by decide +kernel, by decide +kernel, rfl⟩
def me_R_hated : MI := (⟨"BoatNamesModel", "hated", "(II)I"⟩, prog_9_method_78_code, 3, (some .int), 7, [
  [(0, .iload_n 1), (1, .iload_n 2), (2, .invokestatic 156), (5, .ifCond .eq 12), (8, .aload_n 0), (9, .iload_n 1), (10, .iload_n 2), (11, .invokevirtual 300), (14, .goto 5)],
  [(17, .bipush (-2)), (19, .ireturn)]])
theorem mok_R_hated : MOK me_R_hated 2 := ⟨List.mem_of_getElem? (i := 1143) (by decide +kernel), List.mem_of_getElem? (i := 8) (by decide +kernel), by decide +kernel, by decide +kernel, rfl⟩
def me_R_askOf : MI := (⟨"BoatNamesModel", "askOf", "(II)I"⟩, prog_9_method_79_code, 11, (some .int), 7, [
  [(0, .aload_n 0), (1, .iload_n 1), (2, .iload_n 2), (3, .invokevirtual 300), (6, .istore_n 3), (7, .iconst (-1)), (8, .istore 4), (10, .iconst 0), (11, .istore 5), (13, .iconst 0), (14, .istore 6)],
  [(16, .iload 6), (18, .bipush 24), (20, .if_icmp .ge 168), (23, .iconst 0), (24, .istore 7), (26, .iconst 0), (27, .istore 8), (29, .iload 8), (31, .bipush 10)],
  [(33, .if_icmp .ge 101), (36, .iconst 0), (37, .istore 9), (39, .iconst 0), (40, .istore 10), (42, .iload 10), (44, .bipush 10), (46, .if_icmp .ge 66)],
  [(49, .iload 9), (51, .iload_n 3), (52, .iload 8), (54, .invokestatic 204), (57, .ifCond .eq 45), (60, .iload_n 3), (61, .iload 10), (63, .invokestatic 204)],
  [(66, .ifCond .eq 36), (69, .aload_n 0), (70, .getfield 94), (73, .bipush 24), (75, .iload 8), (77, .imul), (78, .iload 6)],
  [(80, .iadd), (81, .iaload), (82, .aload_n 0), (83, .getfield 94), (86, .bipush 24), (88, .iload 10), (90, .imul), (91, .iload 6), (93, .iadd), (94, .iaload), (95, .if_icmp .ne 7)],
  [(98, .iconst 1), (99, .goto 4), (102, .iconst 0), (103, .iadd), (104, .istore 9), (106, .iinc 10 1), (109, .goto (-67))],
  [(112, .iload 9), (114, .iload 7), (116, .if_icmp .le 8), (119, .iload 9), (121, .goto 5), (124, .iload 7), (126, .istore 7)],
  [(128, .iinc 8 1), (131, .goto (-102)), (134, .iload 4), (136, .iconst (-1)), (137, .if_icmp .eq 10), (140, .iload 7), (142, .iload 5)],
  [(144, .if_icmp .ge 7), (147, .iconst 1), (148, .goto 4), (151, .iconst 0), (152, .istore 8), (154, .iload 8), (156, .ifCond .eq 8), (159, .iload 6)],
  [(161, .goto 5), (164, .iload 4), (166, .istore 4), (168, .iload 8), (170, .ifCond .eq 8), (173, .iload 7), (175, .goto 5)],
  [(178, .iload 5), (180, .istore 5), (182, .iinc 6 1), (185, .goto (-169)), (188, .iload 4), (190, .ireturn)]])
theorem mok_R_askOf : MOK me_R_askOf 2 := ⟨List.mem_of_getElem? (i := 1159) (by decide +kernel), List.mem_of_getElem? (i := 8) (by decide +kernel), by decide +kernel, by decide +kernel, rfl⟩
def me_R_ask : MI := (⟨"BoatNamesModel", "ask", "(II)I"⟩, prog_9_method_80_code, 3, (some .int), 7, [
  [(0, .iload_n 1), (1, .iload_n 2), (2, .invokestatic 156), (5, .ifCond .eq 12), (8, .aload_n 0), (9, .iload_n 1), (10, .iload_n 2), (11, .invokevirtual 303), (14, .goto 5)],
  [(17, .bipush (-2)), (19, .ireturn)]])
theorem mok_R_ask : MOK me_R_ask 2 := ⟨List.mem_of_getElem? (i := 1155) (by decide +kernel), List.mem_of_getElem? (i := 8) (by decide +kernel), by decide +kernel, by decide +kernel, rfl⟩
def me_R_chanceOf : MI := (⟨"BoatNamesModel", "chanceOf", "(III)J"⟩, prog_9_method_81_code, 10, (some .long), 7, [
  [(0, .aload_n 0), (1, .invokevirtual 220), (4, .lconst 0), (5, .lstore 4), (7, .iconst 0), (8, .istore 6), (10, .iload 6), (12, .iconst 1), (13, .aload_n 0), (14, .getfield 169)],
  [(17, .ishl), (18, .if_icmp .ge 93), (21, .lconst 1), (22, .lstore 7), (24, .iconst 0), (25, .istore 9), (27, .iload 9), (29, .aload_n 0), (30, .getfield 169)],
  [(33, .if_icmp .ge 34), (36, .lload 7), (38, .iload 6), (40, .iload 9), (42, .invokestatic 204), (45, .ifCond .eq 11)],
  [(48, .bipush 16), (50, .iload_n 1), (51, .isub), (52, .i2l), (53, .goto 5), (56, .iload_n 1), (57, .i2l), (58, .lmul), (59, .lstore 7), (61, .iinc 9 1)],
  [(64, .goto (-37)), (67, .lload 7), (69, .lconst 0), (70, .lcmp), (71, .ifCond .le 34), (74, .aload_n 0), (75, .iload 6), (77, .putfield 185)],
  [(80, .aload_n 0), (81, .invokevirtual 223), (84, .lload 4), (86, .aload_n 0), (87, .getfield 55), (90, .iload_n 2), (91, .iaload), (92, .iconst 2), (93, .if_icmp .ne 8)],
  [(96, .lload 7), (98, .goto 4), (101, .lconst 0), (102, .ladd), (103, .lstore 4), (105, .iinc 6 1), (108, .goto (-98)), (111, .lload 4)],
  [(113, .lconst 1), (114, .iconst 4), (115, .aload_n 0), (116, .getfield 169), (119, .imul), (120, .lshl), (121, .iload_n 3), (122, .invokestatic 306), (125, .lreturn)]])
theorem mok_R_chanceOf : MOK me_R_chanceOf 3 := ⟨List.mem_of_getElem? (i := 1167) (by decide +kernel), List.mem_of_getElem? (i := 8) (by decide +kernel), by decide +kernel, by decide +kernel, rfl⟩
def me_R_chance : MI := (⟨"BoatNamesModel", "chance", "(III)J"⟩, prog_9_method_82_code, 4, (some .long), 7, [
  [(0, .iload_n 1), (1, .iconst 0), (2, .bipush 16), (4, .invokestatic 115), (7, .ifCond .eq 28), (10, .aload_n 0), (11, .iload_n 2), (12, .invokevirtual 163), (15, .ifCond .eq 20)],
  [(18, .iload_n 3), (19, .invokestatic 241), (22, .ifCond .eq 13), (25, .aload_n 0), (26, .iload_n 1), (27, .iload_n 2), (28, .iload_n 3), (29, .invokevirtual 310)],
  [(32, .goto 8), (35, .bipush (-2)), (37, .invokestatic 314), (40, .lreturn)]])
theorem mok_R_chance : MOK me_R_chance 3 := ⟨List.mem_of_getElem? (i := 1163) (by decide +kernel), List.mem_of_getElem? (i := 8) (by decide +kernel), by decide +kernel, by decide +kernel, rfl⟩
def me_R_decadesOf : MI := (⟨"BoatNamesModel", "decadesOf", "(III)I"⟩, prog_9_method_83_code, 6, (some .int), 7, [
  [(0, .aload_n 0), (1, .invokevirtual 220), (4, .iload_n 1), (5, .istore 4), (7, .aload_n 0), (8, .aload_n 0), (9, .getfield 137), (12, .ifCond .ne 7), (15, .iconst 0)],
  [(16, .goto 4), (19, .iload_n 2), (20, .putfield 182), (23, .iconst 0), (24, .istore 5), (26, .iload 5), (28, .aload_n 0), (29, .getfield 182)],
  [(32, .if_icmp .ge 91), (35, .ldc_w 318), (38, .iload 4), (40, .imul), (41, .sipush 12345), (44, .iadd), (45, .istore 4), (47, .aload_n 0)],
  [(48, .getfield 43), (51, .iload 5), (53, .iload 4), (55, .bipush 16), (57, .iushr), (58, .iconst 3), (59, .irem), (60, .iastore), (61, .ldc_w 318)],
  [(64, .iload 4), (66, .imul), (67, .sipush 12345), (70, .iadd), (71, .istore 4), (73, .aload_n 0), (74, .getfield 46), (77, .iload 5), (79, .iload 4)],
  [(81, .bipush 16), (83, .iushr), (84, .bipush 24), (86, .irem), (87, .iastore), (88, .ldc_w 318), (91, .iload 4), (93, .imul), (94, .sipush 12345)],
  [(97, .iadd), (98, .istore 4), (100, .aload_n 0), (101, .getfield 49), (104, .iload 5), (106, .iload 4), (108, .bipush 16), (110, .iushr), (111, .aload_n 0)],
  [(112, .getfield 137), (115, .irem), (116, .iastore), (117, .iinc 5 1), (120, .goto (-94)), (123, .aload_n 0), (124, .invokevirtual 223), (127, .aload_n 0)],
  [(128, .bipush 23), (130, .iload_n 3), (131, .ifCond .ne 7), (134, .iconst 2), (135, .goto 4), (138, .iconst 1), (139, .invokevirtual 235), (142, .ireturn)]])
theorem mok_R_decadesOf : MOK me_R_decadesOf 3 := ⟨List.mem_of_getElem? (i := 1182) (by decide +kernel), List.mem_of_getElem? (i := 8) (by decide +kernel), by decide +kernel, by decide +kernel, rfl⟩
def me_R_decades : MI := (⟨"BoatNamesModel", "decades", "(III)I"⟩, prog_9_method_84_code, 4, (some .int), 7, [
  [(0, .iload_n 2), (1, .iconst 0), (2, .bipush 8), (4, .invokestatic 115), (7, .ifCond .eq 20), (10, .iload_n 3), (11, .invokestatic 241), (14, .ifCond .eq 13)],
  [(17, .aload_n 0), (18, .iload_n 1), (19, .iload_n 2), (20, .iload_n 3), (21, .invokevirtual 319), (24, .goto 5), (27, .bipush (-2)), (29, .ireturn)]])
theorem mok_R_decades : MOK me_R_decades 3 := ⟨List.mem_of_getElem? (i := 1178) (by decide +kernel), List.mem_of_getElem? (i := 8) (by decide +kernel), by decide +kernel, by decide +kernel, rfl⟩
def me_R_meets : MI := (⟨"BoatNamesModel", "meets", "(I)I"⟩, prog_9_method_85_code, 2, (some .int), 7, [
  [(0, .aload_n 0), (1, .iload_n 1), (2, .putfield 322), (5, .bipush (-10)), (7, .iload_n 1), (8, .isub), (9, .ireturn)]])
theorem mok_R_meets : MOK me_R_meets 1 := ⟨List.mem_of_getElem? (i := 948) (by decide +kernel), List.mem_of_getElem? (i := 8) (by decide +kernel), by decide +kernel, by decide +kernel, rfl⟩
def me_R_isSheet : MI := (⟨"BoatNamesModel", "isSheet", "(I)Z"⟩, prog_9_method_86_code, 1, (some .boolean), 7, [
  [(0, .iload_n 0), (1, .iconst 0), (2, .iconst 3), (3, .invokestatic 115), (6, .ireturn)]])
theorem mok_R_isSheet : MOK me_R_isSheet 1 := ⟨List.mem_of_getElem? (i := 944) (by decide +kernel), List.mem_of_getElem? (i := 8) (by decide +kernel), by decide +kernel, by decide +kernel, rfl⟩
def me_R_sheet : MI := (⟨"BoatNamesModel", "sheet", "(III)I"⟩, prog_9_method_87_code, 5, (some .int), 7, [
  [(0, .iload_n 1), (1, .invokestatic 172), (4, .ifCond .eq 18), (7, .iload_n 2), (8, .iconst 0), (9, .iconst 2), (10, .invokestatic 115), (13, .ifCond .eq 9)],
  [(16, .iload_n 3), (17, .bipush 60), (19, .if_icmp .le 6), (22, .bipush (-2)), (24, .ireturn), (25, .iload_n 3), (26, .ifCond .ge 9), (29, .aload_n 0), (30, .iconst 5), (31, .invokevirtual 175)],
  [(34, .ireturn), (35, .aload_n 0), (36, .getfield 97), (39, .iload_n 1), (40, .iconst 1), (41, .bastore), (42, .aload_n 0), (43, .getfield 101), (46, .iload_n 1), (47, .iload_n 2)],
  [(48, .iastore), (49, .aload_n 0), (50, .getfield 104), (53, .iload_n 1), (54, .iload_n 3), (55, .iastore), (56, .iconst 0), (57, .istore 4), (59, .iload 4), (61, .bipush 60), (63, .if_icmp .ge 22)],
  [(66, .aload_n 0), (67, .getfield 107), (70, .bipush 60), (72, .iload_n 1), (73, .imul), (74, .iload 4), (76, .iadd), (77, .iconst 0), (78, .iastore), (79, .iinc 4 1)],
  [(82, .goto (-23)), (85, .iload_n 3), (86, .ireturn)]])
theorem mok_R_sheet : MOK me_R_sheet 3 := ⟨List.mem_of_getElem? (i := 1187) (by decide +kernel), List.mem_of_getElem? (i := 8) (by decide +kernel), by decide +kernel, by decide +kernel, rfl⟩
def me_R_lose : MI := (⟨"BoatNamesModel", "lose", "(I)I"⟩, prog_9_method_88_code, 2, (some .int), 7, [
  [(0, .iload_n 1), (1, .invokestatic 172), (4, .ifCond .ne 6), (7, .bipush (-2)), (9, .ireturn), (10, .aload_n 0), (11, .getfield 97), (14, .iload_n 1), (15, .baload)],
  [(16, .ifCond .ne 9), (19, .aload_n 0), (20, .iconst 1), (21, .invokevirtual 175), (24, .ireturn), (25, .aload_n 0), (26, .getfield 97), (29, .iload_n 1), (30, .iconst 0), (31, .bastore)],
  [(32, .aload_n 0), (33, .getfield 104), (36, .iload_n 1), (37, .iaload), (38, .ireturn)]])
theorem mok_R_lose : MOK me_R_lose 1 := ⟨List.mem_of_getElem? (i := 1191) (by decide +kernel), List.mem_of_getElem? (i := 8) (by decide +kernel), by decide +kernel, by decide +kernel, rfl⟩
def me_R_lacks : MI := (⟨"BoatNamesModel", "lacks", "(III)I"⟩, prog_9_method_89_code, 4, (some .int), 7, [
  [(0, .aload_n 0), (1, .getfield 97), (4, .iload_n 1), (5, .baload), (6, .ifCond .ne 7), (9, .iconst 1), (10, .goto 38), (13, .aload_n 0), (14, .getfield 101)],
  [(17, .iload_n 1), (18, .iaload), (19, .iload_n 2), (20, .if_icmp .eq 7), (23, .iconst 3), (24, .goto 24), (27, .iload_n 3), (28, .iconst 0), (29, .aload_n 0), (30, .getfield 104)],
  [(33, .iload_n 1), (34, .iaload), (35, .iconst 1), (36, .isub), (37, .invokestatic 115), (40, .ifCond .eq 7), (43, .iconst 0), (44, .goto 4), (47, .iconst 2)],
  [(48, .ireturn)]])
theorem mok_R_lacks : MOK me_R_lacks 3 := ⟨List.mem_of_getElem? (i := 1199) (by decide +kernel), List.mem_of_getElem? (i := 8) (by decide +kernel), by decide +kernel, by decide +kernel, rfl⟩
def me_R_keep : MI := (⟨"BoatNamesModel", "keep", "(III)V"⟩, prog_9_method_90_code, 4, none, 7, [
  [(0, .aload_n 0), (1, .getfield 107), (4, .bipush 60), (6, .iload_n 1), (7, .imul), (8, .iload_n 2), (9, .iadd), (10, .aload_n 0), (11, .getfield 101), (14, .iload_n 1), (15, .iaload)],
  [(16, .ifCond .ne 8), (19, .iload_n 3), (20, .i2b), (21, .goto 19), (24, .aload_n 0), (25, .getfield 101), (28, .iload_n 1), (29, .iaload), (30, .iconst 1), (31, .if_icmp .ne 8)],
  [(34, .iload_n 3), (35, .i2s), (36, .goto 4), (39, .iload_n 3), (40, .iastore), (41, .return_)]])
theorem mok_R_keep : MOK me_R_keep 3 := ⟨List.mem_of_getElem? (i := 1203) (by decide +kernel), List.mem_of_getElem? (i := 8) (by decide +kernel), by decide +kernel, by decide +kernel, rfl⟩
def me_R_put : MI := (⟨"BoatNamesModel", "put", "(IIII)I"⟩, prog_9_method_91_code, 6, (some .int), 7, [
  [(0, .iload_n 1), (1, .invokestatic 172), (4, .ifCond .eq 12), (7, .iload_n 2), (8, .iconst 0), (9, .iconst 2), (10, .invokestatic 115), (13, .ifCond .ne 6)],
  [(16, .bipush (-2)), (18, .ireturn), (19, .aload_n 0), (20, .iload_n 1), (21, .iload_n 2), (22, .iload_n 3), (23, .invokevirtual 325), (26, .istore 5), (28, .iload 5), (30, .ifCond .le 10)],
  [(33, .aload_n 0), (34, .iload 5), (36, .invokevirtual 175), (39, .ireturn), (40, .aload_n 0), (41, .iload_n 1), (42, .iload_n 3), (43, .iload 4), (45, .invokevirtual 328)],
  [(48, .iconst 1), (49, .ireturn)]])
theorem mok_R_put : MOK me_R_put 4 := ⟨List.mem_of_getElem? (i := 1195) (by decide +kernel), List.mem_of_getElem? (i := 8) (by decide +kernel), by decide +kernel, by decide +kernel, rfl⟩
def me_R_get : MI := (⟨"BoatNamesModel", "get", "(III)I"⟩, prog_9_method_92_code, 5, (some .int), 7, [
  [(0, .iload_n 1), (1, .invokestatic 172), (4, .ifCond .eq 12), (7, .iload_n 2), (8, .iconst 0), (9, .iconst 2), (10, .invokestatic 115), (13, .ifCond .ne 7)],
  [(16, .ldc_w 332), (19, .ireturn), (20, .aload_n 0), (21, .iload_n 1), (22, .iload_n 2), (23, .iload_n 3), (24, .invokevirtual 325), (27, .istore 4), (29, .iload 4), (31, .ifCond .le 13)],
  [(34, .aload_n 0), (35, .iload 4), (37, .putfield 322), (40, .ldc_w 332), (43, .ireturn), (44, .aload_n 0), (45, .getfield 107)],
  [(48, .bipush 60), (50, .iload_n 1), (51, .imul), (52, .iload_n 3), (53, .iadd), (54, .iaload), (55, .ireturn)]])
theorem mok_R_get : MOK me_R_get 3 := ⟨List.mem_of_getElem? (i := 1207) (by decide +kernel), List.mem_of_getElem? (i := 8) (by decide +kernel), by decide +kernel, by decide +kernel, rfl⟩
def me_R_copy : MI := (⟨"BoatNamesModel", "copy", "(IIIII)I"⟩, prog_9_method_93_code, 7, (some .int), 7, [
  [(0, .iload_n 1), (1, .invokestatic 172), (4, .ifCond .eq 10), (7, .iload_n 3), (8, .invokestatic 172), (11, .ifCond .ne 6), (14, .bipush (-2))],
  [(16, .ireturn), (17, .aload_n 0), (18, .getfield 97), (21, .iload_n 1), (22, .baload), (23, .ifCond .eq 12), (26, .aload_n 0), (27, .getfield 97), (30, .iload_n 3), (31, .baload)],
  [(32, .ifCond .ne 9), (35, .aload_n 0), (36, .iconst 1), (37, .invokevirtual 175), (40, .ireturn), (41, .aload_n 0), (42, .getfield 101), (45, .iload_n 1), (46, .iaload), (47, .aload_n 0)],
  [(48, .getfield 101), (51, .iload_n 3), (52, .iaload), (53, .if_icmp .eq 9), (56, .aload_n 0), (57, .iconst 4), (58, .invokevirtual 175), (61, .ireturn), (62, .iload_n 2), (63, .ifCond .lt 48)],
  [(66, .iload 4), (68, .ifCond .lt 43), (71, .iload 5), (73, .ifCond .lt 38), (76, .iload_n 2), (77, .i2l), (78, .iload 5)],
  [(80, .i2l), (81, .ladd), (82, .aload_n 0), (83, .getfield 104), (86, .iload_n 1), (87, .iaload), (88, .i2l), (89, .lcmp), (90, .ifCond .gt 21), (93, .iload 4), (95, .i2l)],
  [(96, .iload 5), (98, .i2l), (99, .ladd), (100, .aload_n 0), (101, .getfield 104), (104, .iload_n 3), (105, .iaload), (106, .i2l), (107, .lcmp), (108, .ifCond .le 9), (111, .aload_n 0)],
  [(112, .iconst 2), (113, .invokevirtual 175), (116, .ireturn), (117, .iconst 0), (118, .istore 6), (120, .iload 6), (122, .iload 5), (124, .if_icmp .ge 30), (127, .aload_n 0)],
  [(128, .getfield 110), (131, .iload 6), (133, .aload_n 0), (134, .getfield 107), (137, .bipush 60), (139, .iload_n 1), (140, .imul), (141, .iload_n 2), (142, .iadd), (143, .iload 6)],
  [(145, .iadd), (146, .iaload), (147, .iastore), (148, .iinc 6 1), (151, .goto (-31)), (154, .iconst 0), (155, .istore 6), (157, .iload 6), (159, .iload 5)],
  [(161, .if_icmp .ge 31), (164, .aload_n 0), (165, .getfield 107), (168, .bipush 60), (170, .iload_n 3), (171, .imul), (172, .iload 4), (174, .iadd), (175, .iload 6)],
  [(177, .iadd), (178, .aload_n 0), (179, .getfield 110), (182, .iload 6), (184, .iaload), (185, .iastore), (186, .iinc 6 1), (189, .goto (-32))],
  [(192, .iconst 1), (193, .ireturn)]])
theorem mok_R_copy : MOK me_R_copy 5 := ⟨List.mem_of_getElem? (i := 1212) (by decide +kernel), List.mem_of_getElem? (i := 8) (by decide +kernel), by decide +kernel, by decide +kernel, rfl⟩
def me_R_write : MI := (⟨"BoatNamesModel", "write", "(II)I"⟩, prog_9_method_94_code, 4, (some .int), 7, [
  [(0, .aload_n 0), (1, .iload_n 1), (2, .invokevirtual 163), (5, .ifCond .eq 10), (8, .iload_n 2), (9, .invokestatic 172), (12, .ifCond .ne 6), (15, .bipush (-2))],
  [(17, .ireturn), (18, .aload_n 0), (19, .getfield 97), (22, .iload_n 2), (23, .baload), (24, .ifCond .ne 9), (27, .aload_n 0), (28, .iconst 1), (29, .invokevirtual 175)],
  [(32, .ireturn), (33, .aload_n 0), (34, .invokevirtual 226), (37, .iconst 0), (38, .istore_n 3), (39, .iload_n 3), (40, .aload_n 0), (41, .getfield 104), (44, .iload_n 2), (45, .iaload), (46, .if_icmp .ge 32)],
  [(49, .iload_n 3), (50, .bipush 24), (52, .if_icmp .ge 26), (55, .aload_n 0), (56, .iload_n 2), (57, .iload_n 3), (58, .aload_n 0), (59, .getfield 73), (62, .bipush 8)],
  [(64, .iload_n 3), (65, .imul), (66, .iload_n 1), (67, .iadd), (68, .iaload), (69, .invokevirtual 328), (72, .iinc 3 1), (75, .goto (-36)), (78, .iload_n 3), (79, .ireturn)]])
theorem mok_R_write : MOK me_R_write 2 := ⟨List.mem_of_getElem? (i := 1216) (by decide +kernel), List.mem_of_getElem? (i := 8) (by decide +kernel), by decide +kernel, by decide +kernel, rfl⟩
def me_R_sumOf : MI := (⟨"BoatNamesModel", "sumOf", "(I)I"⟩, prog_9_method_95_code, 4, (some .int), 7, [
  [(0, .aload_n 0), (1, .invokevirtual 226), (4, .iconst 0), (5, .istore_n 2), (6, .iconst 0), (7, .istore_n 3), (8, .iload_n 3), (9, .bipush 8), (11, .if_icmp .ge 17), (14, .iload_n 2), (15, .aload_n 0)],
  [(16, .iload_n 3), (17, .invokevirtual 254), (20, .iadd), (21, .istore_n 2), (22, .iinc 3 1), (25, .goto (-17)), (28, .iload_n 1), (29, .ifCond .ne 10)],
  [(32, .aload_n 0), (33, .getfield 133), (36, .goto 31), (39, .iload_n 1), (40, .iconst 1), (41, .if_icmp .ne 10), (44, .aload_n 0), (45, .getfield 137)],
  [(48, .goto 19), (51, .iload_n 1), (52, .iconst 5), (53, .if_icmp .ne 13), (56, .aload_n 0), (57, .bipush 23), (59, .iconst 2), (60, .invokevirtual 235), (63, .goto 4)],
  [(66, .iload_n 2), (67, .ireturn)]])
theorem mok_R_sumOf : MOK me_R_sumOf 1 := ⟨List.mem_of_getElem? (i := 1224) (by decide +kernel), List.mem_of_getElem? (i := 8) (by decide +kernel), by decide +kernel, by decide +kernel, rfl⟩
def me_R_count : MI := (⟨"BoatNamesModel", "count", "(I)I"⟩, prog_9_method_96_code, 2, (some .int), 7, [
  [(0, .iload_n 1), (1, .tableswitch 81 0 8 #[51, 51, 57, 57, 66, 51, 51, 71, 76])],
  [],
  [],
  [(52, .aload_n 0), (53, .iload_n 1), (54, .invokevirtual 333), (57, .ireturn), (58, .aload_n 0), (59, .getfield 7), (62, .iload_n 1), (63, .iconst 2)],
  [(64, .isub), (65, .iaload), (66, .ireturn), (67, .aload_n 0), (68, .getfield 169), (71, .ireturn), (72, .aload_n 0), (73, .getfield 284), (76, .ireturn), (77, .aload_n 0), (78, .getfield 322)],
  [(81, .ireturn), (82, .bipush (-2)), (84, .ireturn)]])
theorem mok_R_count : MOK me_R_count 1 := ⟨List.mem_of_getElem? (i := 1220) (by decide +kernel), List.mem_of_getElem? (i := 8) (by decide +kernel), by decide +kernel, by decide +kernel, rfl⟩
def me_R_weekDigest : MI := (⟨"BoatNamesModel", "weekDigest", "(JII)J"⟩, prog_9_method_97_code, 8, (some .long), 7, [
  [(0, .lload_n 1), (1, .lstore 5), (3, .iconst 0), (4, .istore 7), (6, .iload 7), (8, .iconst 4), (9, .if_icmp .ge 28), (12, .ldc2_w 336), (15, .lload 5)],
  [(17, .lmul), (18, .aload_n 0), (19, .iload_n 3), (20, .iload 4), (22, .iload 7), (24, .invokevirtual 232), (27, .i2l), (28, .ladd), (29, .lstore 5), (31, .iinc 7 1)],
  [(34, .goto (-28)), (37, .lload 5), (39, .lreturn)]])
theorem mok_R_weekDigest : MOK me_R_weekDigest 3 := ⟨List.mem_of_getElem? (i := 1239) (by decide +kernel), List.mem_of_getElem? (i := 8) (by decide +kernel), by decide +kernel, by decide +kernel, rfl⟩
def me_R_boatDigest : MI := (⟨"BoatNamesModel", "boatDigest", "(JI)J"⟩, prog_9_method_98_code, 7, (some .long), 7, [
  [(0, .lload_n 1), (1, .lstore 4), (3, .iconst 0), (4, .istore 6), (6, .iload 6), (8, .iconst 4), (9, .if_icmp .ge 26), (12, .ldc2_w 336), (15, .lload 4)],
  [(17, .lmul), (18, .aload_n 0), (19, .iload_n 3), (20, .iload 6), (22, .invokevirtual 166), (25, .i2l), (26, .ladd), (27, .lstore 4), (29, .iinc 6 1)],
  [(32, .goto (-26)), (35, .aload_n 0), (36, .lload 4), (38, .iconst 0), (39, .iload_n 3), (40, .invokevirtual 338), (43, .lstore 4), (45, .aload_n 0), (46, .lload 4)],
  [(48, .bipush 7), (50, .iload_n 3), (51, .invokevirtual 338), (54, .lstore 4), (56, .aload_n 0), (57, .lload 4), (59, .bipush 15), (61, .iload_n 3), (62, .invokevirtual 338)],
  [(65, .lstore 4), (67, .aload_n 0), (68, .lload 4), (70, .bipush 23), (72, .iload_n 3), (73, .invokevirtual 338), (76, .lstore 4), (78, .ldc2_w 336)],
  [(81, .lload 4), (83, .lmul), (84, .aload_n 0), (85, .iload_n 3), (86, .invokevirtual 263), (89, .i2l), (90, .ladd), (91, .lstore 4), (93, .ldc2_w 336)],
  [(96, .lload 4), (98, .lmul), (99, .aload_n 0), (100, .iload_n 3), (101, .iconst 0), (102, .invokevirtual 266), (105, .i2l), (106, .ladd), (107, .lstore 4), (109, .ldc2_w 336)],
  [(112, .lload 4), (114, .lmul), (115, .aload_n 0), (116, .iload_n 3), (117, .iconst 1), (118, .invokevirtual 266), (121, .i2l), (122, .ladd), (123, .lstore 4), (125, .ldc2_w 336)],
  [(128, .lload 4), (130, .lmul), (131, .aload_n 0), (132, .iload_n 3), (133, .iconst 0), (134, .invokevirtual 269), (137, .i2l), (138, .ladd), (139, .lstore 4), (141, .ldc2_w 336)],
  [(144, .lload 4), (146, .lmul), (147, .aload_n 0), (148, .iload_n 3), (149, .iconst 1), (150, .invokevirtual 269), (153, .i2l), (154, .ladd), (155, .lstore 4), (157, .ldc2_w 336)],
  [(160, .lload 4), (162, .lmul), (163, .aload_n 0), (164, .iload_n 3), (165, .iconst 0), (166, .invokevirtual 272), (169, .i2l), (170, .ladd), (171, .lstore 4), (173, .ldc2_w 336)],
  [(176, .lload 4), (178, .lmul), (179, .aload_n 0), (180, .iload_n 3), (181, .iconst 1), (182, .invokevirtual 272), (185, .i2l), (186, .ladd), (187, .lstore 4), (189, .ldc2_w 336)],
  [(192, .lload 4), (194, .lmul), (195, .aload_n 0), (196, .iload_n 3), (197, .invokevirtual 294), (200, .i2l), (201, .ladd), (202, .lstore 4), (204, .ldc2_w 336), (207, .lload 4)],
  [(209, .lmul), (210, .aload_n 0), (211, .iconst 5), (212, .iload_n 3), (213, .iconst 0), (214, .invokevirtual 310), (217, .ladd), (218, .lstore 4), (220, .ldc2_w 336), (223, .lload 4)],
  [(225, .lmul), (226, .aload_n 0), (227, .iconst 5), (228, .iload_n 3), (229, .iconst 1), (230, .invokevirtual 310), (233, .ladd), (234, .lreturn)]])
theorem mok_R_boatDigest : MOK me_R_boatDigest 2 := ⟨List.mem_of_getElem? (i := 1235) (by decide +kernel), List.mem_of_getElem? (i := 8) (by decide +kernel), by decide +kernel, by decide +kernel, rfl⟩
def me_R_personDigest : MI := (⟨"BoatNamesModel", "personDigest", "(JI)J"⟩, prog_9_method_99_code, 7, (some .long), 7, [
  [(0, .iload_n 3), (1, .iconst 1), (2, .iadd), (3, .bipush 8), (5, .irem), (6, .istore 4), (8, .ldc2_w 336), (11, .lload_n 1), (12, .lmul), (13, .aload_n 0), (14, .iload_n 3), (15, .iconst 0)],
  [(16, .invokevirtual 244), (19, .i2l), (20, .ladd), (21, .lstore 5), (23, .ldc2_w 336), (26, .lload 5), (28, .lmul), (29, .aload_n 0), (30, .iload_n 3), (31, .iconst 1)],
  [(32, .invokevirtual 244), (35, .i2l), (36, .ladd), (37, .lstore 5), (39, .ldc2_w 336), (42, .lload 5), (44, .lmul), (45, .aload_n 0), (46, .bipush 23)],
  [(48, .iload_n 3), (49, .iload 4), (51, .invokevirtual 229), (54, .i2l), (55, .ladd), (56, .lstore 5), (58, .ldc2_w 336), (61, .lload 5), (63, .lmul)],
  [(64, .aload_n 0), (65, .iload_n 3), (66, .iload 4), (68, .invokevirtual 300), (71, .i2l), (72, .ladd), (73, .lstore 5), (75, .ldc2_w 336), (78, .lload 5)],
  [(80, .lmul), (81, .aload_n 0), (82, .iload_n 3), (83, .iload 4), (85, .invokevirtual 303), (88, .i2l), (89, .ladd), (90, .lreturn)]])
theorem mok_R_personDigest : MOK me_R_personDigest 2 := ⟨List.mem_of_getElem? (i := 1243) (by decide +kernel), List.mem_of_getElem? (i := 8) (by decide +kernel), by decide +kernel, by decide +kernel, rfl⟩
def me_R_digest : MI := (⟨"BoatNamesModel", "digest", "()J"⟩, prog_9_method_100_code, 4, (some .long), 7, [
  [(0, .ldc2_w 342), (3, .lstore_n 1), (4, .iconst 0), (5, .istore_n 3), (6, .iload_n 3), (7, .bipush 8), (9, .if_icmp .ge 22), (12, .ldc2_w 336), (15, .lload_n 1)],
  [(16, .lmul), (17, .aload_n 0), (18, .iload_n 3), (19, .invokevirtual 344), (22, .i2l), (23, .ladd), (24, .lstore_n 1), (25, .iinc 3 1), (28, .goto (-22)), (31, .ldc2_w 336)],
  [(34, .lload_n 1), (35, .lmul), (36, .aload_n 0), (37, .iconst 0), (38, .invokevirtual 150), (41, .i2l), (42, .ladd), (43, .lstore_n 1), (44, .ldc2_w 336), (47, .lload_n 1)],
  [(48, .lmul), (49, .aload_n 0), (50, .iconst 1), (51, .invokevirtual 150), (54, .i2l), (55, .ladd), (56, .lstore_n 1), (57, .iconst 0), (58, .istore_n 3), (59, .iload_n 3), (60, .aload_n 0), (61, .getfield 137)],
  [(64, .if_icmp .ge 16), (67, .aload_n 0), (68, .lload_n 1), (69, .iload_n 3), (70, .invokevirtual 347), (73, .lstore_n 1), (74, .iinc 3 1), (77, .goto (-18))],
  [(80, .iconst 0), (81, .istore_n 3), (82, .iload_n 3), (83, .bipush 8), (85, .if_icmp .ge 16), (88, .aload_n 0), (89, .lload_n 1), (90, .iload_n 3), (91, .invokevirtual 351), (94, .lstore_n 1), (95, .iinc 3 1)],
  [(98, .goto (-16)), (101, .iconst 0), (102, .istore_n 3), (103, .iload_n 3), (104, .bipush 24), (106, .if_icmp .ge 22), (109, .ldc2_w 336)],
  [(112, .lload_n 1), (113, .lmul), (114, .aload_n 0), (115, .iload_n 3), (116, .invokevirtual 238), (119, .i2l), (120, .ladd), (121, .lstore_n 1), (122, .iinc 3 1), (125, .goto (-22))],
  [(128, .ldc2_w 336), (131, .lload_n 1), (132, .lmul), (133, .aload_n 0), (134, .iconst 0), (135, .invokevirtual 247), (138, .i2l), (139, .ladd), (140, .lstore_n 1), (141, .ldc2_w 336)],
  [(144, .lload_n 1), (145, .lmul), (146, .aload_n 0), (147, .iconst 1), (148, .invokevirtual 247), (151, .i2l), (152, .ladd), (153, .lstore_n 1), (154, .ldc2_w 336), (157, .lload_n 1), (158, .lmul), (159, .aload_n 0)],
  [(160, .invokevirtual 250), (163, .i2l), (164, .ladd), (165, .lstore_n 1), (166, .ldc2_w 336), (169, .lload_n 1), (170, .lmul), (171, .aload_n 0), (172, .invokevirtual 257), (175, .i2l)],
  [(176, .ladd), (177, .lstore_n 1), (178, .aload_n 0), (179, .invokevirtual 278), (182, .istore_n 3), (183, .ldc2_w 336), (186, .lload_n 1), (187, .lmul), (188, .iload_n 3), (189, .i2l), (190, .ladd), (191, .lstore_n 1)],
  [(192, .ldc2_w 336), (195, .lload_n 1), (196, .lmul), (197, .aload_n 0), (198, .iload_n 3), (199, .iconst 0), (200, .invokevirtual 281), (203, .i2l), (204, .ladd), (205, .lstore_n 1), (206, .ldc2_w 336)],
  [(209, .lload_n 1), (210, .lmul), (211, .aload_n 0), (212, .invokevirtual 291), (215, .i2l), (216, .ladd), (217, .lstore_n 1), (218, .ldc2_w 336), (221, .lload_n 1), (222, .lmul), (223, .aload_n 0)],
  [(224, .bipush 7), (226, .bipush 6), (228, .iconst 0), (229, .invokevirtual 319), (232, .i2l), (233, .ladd), (234, .lstore_n 1), (235, .ldc2_w 336), (238, .lload_n 1), (239, .lmul)],
  [(240, .aload_n 0), (241, .bipush 7), (243, .bipush 6), (245, .iconst 1), (246, .invokevirtual 319), (249, .i2l), (250, .ladd), (251, .lreturn)]])
theorem mok_R_digest : MOK me_R_digest 0 := ⟨List.mem_of_getElem? (i := 1228) (by decide +kernel), List.mem_of_getElem? (i := 8) (by decide +kernel), by decide +kernel, by decide +kernel, rfl⟩
def me_J_bitCount : MI := (⟨"java/lang/Integer", "bitCount", "(I)I"⟩, prog_10_method_49_code, 1, (some .int), 9, [
  [(0, .iload_n 0), (1, .iload_n 0), (2, .iconst 1), (3, .iushr), (4, .ldc_w 265), (7, .iand), (8, .isub), (9, .istore_n 0), (10, .iload_n 0), (11, .ldc_w 266), (14, .iand), (15, .iload_n 0)],
  [(16, .iconst 2), (17, .iushr), (18, .ldc_w 266), (21, .iand), (22, .iadd), (23, .istore_n 0), (24, .iload_n 0), (25, .iload_n 0), (26, .iconst 4), (27, .iushr), (28, .iadd), (29, .ldc_w 267)],
  [(32, .iand), (33, .istore_n 0), (34, .iload_n 0), (35, .iload_n 0), (36, .bipush 8), (38, .iushr), (39, .iadd), (40, .istore_n 0), (41, .iload_n 0), (42, .iload_n 0), (43, .bipush 16), (45, .iushr), (46, .iadd), (47, .istore_n 0)],
  [(48, .iload_n 0), (49, .bipush 63), (51, .iand), (52, .ireturn)]])
theorem mok_J_bitCount : MOK me_J_bitCount 1 := ⟨List.mem_of_getElem? (i := 513) (by decide +kernel), List.mem_of_getElem? (i := 12) (by decide +kernel), by decide +kernel, by decide +kernel, rfl⟩
def me_J_fillj : MI := (⟨"java/util/Arrays", "fill", "([JJ)V"⟩, prog_13_method_101_code, 5, none, 11, [
  [(0, .iconst 0), (1, .istore_n 3), (2, .aload_n 0), (3, .arraylength), (4, .istore 4), (6, .iload_n 3), (7, .iload 4), (9, .if_icmp .ge 13), (12, .aload_n 0), (13, .iload_n 3), (14, .lload_n 1), (15, .lastore)],
  [(16, .iinc 3 1), (19, .goto (-13)), (22, .return_)]])
theorem mok_J_fillj : MOK me_J_fillj 2 := ⟨List.mem_of_getElem? (i := 593) (by decide +kernel), List.mem_of_getElem? (i := 9) (by decide +kernel), by decide +kernel, by decide +kernel, rfl⟩
def me_J_filli : MI := (⟨"java/util/Arrays", "fill", "([II)V"⟩, prog_13_method_103_code, 4, none, 11, [
  [(0, .iconst 0), (1, .istore_n 2), (2, .aload_n 0), (3, .arraylength), (4, .istore_n 3), (5, .iload_n 2), (6, .iload_n 3), (7, .if_icmp .ge 13), (10, .aload_n 0), (11, .iload_n 2), (12, .iload_n 1), (13, .iastore), (14, .iinc 2 1)],
  [(17, .goto (-12)), (20, .return_)]])
theorem mok_J_filli : MOK me_J_filli 2 := ⟨List.mem_of_getElem? (i := 296) (by decide +kernel), List.mem_of_getElem? (i := 9) (by decide +kernel), by decide +kernel, by decide +kernel, rfl⟩
end
section
/-! the little machine: a state of the whole world, its cells, its picture on the heap -/
abbrev ST : Type := (Nat → Nat → Int32) × (Nat → Int64) × Nat
abbrev CFG : Type := Nat × List (Nat × Value) × List Value × ST
abbrev SH : Type := Nat × Nat × List (Option Nat)
def shp : List SH := [
  (10, 11, [some 1, some 3, some 5, some 14, some 23, some 32, some 36, some 37, some 46, some 47, none]),
  (8, 3, [some 2, none, none]),
  (0, 47, []),
  (8, 3, [some 4, none, none]),
  (0, 39, []),
  (7, 12, [some 6, none, some 7, some 8, some 9, some 10, none, some 11, some 12, some 13, none, none]),
  (0, 64, []),
  (0, 8, []),
  (0, 8, []),
  (0, 8, []),
  (0, 8, []),
  (0, 9, []),
  (0, 9, []),
  (0, 9, []),
  (7, 12, [some 15, none, some 16, some 17, some 18, some 19, none, some 20, some 21, some 22, none, none]),
  (0, 64, []),
  (0, 8, []),
  (0, 8, []),
  (0, 8, []),
  (0, 8, []),
  (0, 9, []),
  (0, 9, []),
  (0, 9, []),
  (9, 12, [some 1000, some 24, some 25, some 26, some 27, some 28, some 29, some 30, some 31, none, none, none]),
  (0, 64, []),
  (0, 8, []),
  (0, 8, []),
  (0, 8, []),
  (0, 8, []),
  (0, 8, []),
  (0, 8, []),
  (0, 8, []),
  (6, 4, [some 33, some 34, some 35, none]),
  (0, 8, []),
  (0, 8, []),
  (0, 8, []),
  (4, 2, [none, none]),
  (3, 4, [some 38, some 40, some 42, some 44]),
  (5, 4, [some 39, none, none, none]),
  (0, 60, []),
  (5, 4, [some 41, none, none, none]),
  (0, 60, []),
  (5, 4, [some 43, none, none, none]),
  (0, 60, []),
  (5, 4, [some 45, none, none, none]),
  (0, 60, []),
  (1, 8, []),
  (0, 10, []),
  (11, 43, [some 49, some 50, none, some 51, some 52, none, some 53, some 54, some 55, some 56, none, some 57, some 58, some 59, none, some 60, some 61, some 62, none, some 63, some 64, some 65, some 66, some 67, none, none, some 68, some 69, some 70, some 71, some 72, some 73, none, some 74, some 75, some 76, some 77, some 78, some 79, some 80, some 81, some 82, none]),
  (0, 2, []),
  (0, 94, []),
  (0, 39, []),
  (0, 64, []),
  (0, 9, []),
  (0, 9, []),
  (0, 9, []),
  (0, 9, []),
  (0, 9, []),
  (0, 9, []),
  (0, 9, []),
  (0, 9, []),
  (0, 9, []),
  (0, 9, []),
  (0, 64, []),
  (0, 8, []),
  (0, 8, []),
  (0, 8, []),
  (0, 8, []),
  (0, 192, []),
  (0, 192, []),
  (0, 192, []),
  (0, 192, []),
  (0, 1536, []),
  (0, 2, []),
  (0, 8, []),
  (0, 8, []),
  (0, 8, []),
  (0, 240, []),
  (2, 4, []),
  (0, 4, []),
  (0, 4, []),
  (0, 240, []),
  (0, 60, [])]
def em (ad : Nat → Nat) : Value → Value
  | .ref k => .ref (ad k)
  | .int x => .int x
  | .long x => .long x
  | v => v
def lem (ad : Nat → Nat) (lv : List (Nat × Value)) : List (Nat × Value) := lv.map (fun q => (q.1, em ad q.2))
theorem em_cat (ad : Nat → Nat) (v : Value) : (em ad v).category = v.category := by cases v <;> rfl
def gv (S : ST) (k j : Nat) : Option Nat → Value
  | none => .int (S.1 k j)
  | some t => .ref (if t = 1000 then S.2.2 else t)
def fv (ad : Nat → Nat) (S : ST) (k j : Nat) (o : Option Nat) : Value := em ad (gv S k j o)
def cel (ad : Nat → Nat) (tc : Nat → ClassId) (S : ST) (k : Nat) (h : SH) : va_E := match h.1 with
  | 0 => .inl (tc 0, h.2.1, .inl (S.1 k))
  | 1 => .inl (tc 1, h.2.1, .inr (.inl S.2.1))
  | 2 => .inl (tc 2, h.2.1, .inl (S.1 k))
  | 3 => .inl (tc 3, h.2.1, .inr (.inr (.inr (.inr (fun j => (h.2.2.getD j none).map ad)))))
  | c + 4 => .inr (c, h.2.2.mapIdx (fv ad S k))
def wld (ad : Nat → Nat) (tc : Nat → ClassId) (S : ST) : va_W := shp.mapIdx (fun k h => (ad k, cel ad tc S k h))
def tyl (tc : Nat → ClassId) : List (ClassId × FieldType) := [(tc 0, .int), (tc 1, .long), (tc 2, .boolean), (tc 3, .object "BoatNames$Sheet")]
def rwr (S : ST) (k : Nat) (f : Nat → Int32) : ST := (fun a => if a = k then f else S.1 a, S.2)
def pt (S : ST) (k j : Nat) (v : Int32) : ST := rwr S k (upd (S.1 k) j v)
def ptl (S : ST) (j : Nat) (v : Int64) : ST := (S.1, vp_updL S.2.1 j v, S.2.2)
def ptt (S : ST) (t : Nat) : ST := (S.1, S.2.1, t)
theorem fv_congr {ad : Nat → Nat} {S S' : ST} {k : Nat} (h1 : S.1 k = S'.1 k) (h2 : S.2 = S'.2) : fv ad S k = fv ad S' k := by
  funext j o
  cases o <;> simp only [fv, gv, h1, h2]
theorem cel_congr {ad : Nat → Nat} {tc : Nat → ClassId} {S S' : ST} {k : Nat} {h : SH} (h1 : S.1 k = S'.1 k) (h2 : S.2 = S'.2) : cel ad tc S k h = cel ad tc S' k h := by
  unfold cel
  rw [fv_congr h1 h2, h1, h2]
theorem wld_at {ad : Nat → Nat} {tc : Nat → ClassId} (S : ST) {k : Nat} {h : SH} (hk : shp[k]? = some h) : (wld ad tc S)[k]? = some (ad k, cel ad tc S k h) := by
  simp only [wld, List.getElem?_mapIdx, hk, Option.map_some]
theorem wld_set {ad : Nat → Nat} {tc : Nat → ClassId} {S S' : ST} {k : Nat} {h : SH} {e : va_E} (hk : shp[k]? = some h) (he : cel ad tc S' k h = e) (ho : ∀ k' h', k' ≠ k → shp[k']? = some h' → cel ad tc S' k' h' = cel ad tc S k' h') : (wld ad tc S).set k (ad k, e) = wld ad tc S' := by
  have hlt : k < shp.length := (List.getElem?_eq_some_iff.mp hk).1
  apply List.ext_getElem?
  intro i
  rw [List.getElem?_set]
  by_cases hi : k = i
  · subst hi
    rw [if_pos rfl, if_pos (by simpa [wld] using hlt), wld_at S' hk, he]
  · rw [if_neg hi]
    cases h2 : shp[i]? with
    | none => simp only [wld, List.getElem?_mapIdx, h2, Option.map_none]
    | some h' => rw [wld_at S h2, wld_at S' h2, ho i h' (fun e => hi e.symm) h2]
theorem wld_pt {ad : Nat → Nat} {tc : Nat → ClassId} {S : ST} {k j : Nat} {h : SH} {e : va_E} {v : Int32} (hk : shp[k]? = some h) (he : cel ad tc (pt S k j v) k h = e) : (wld ad tc S).set k (ad k, e) = wld ad tc (pt S k j v) :=
  wld_set hk he (fun k' h' hne _ => cel_congr (by simp only [pt, rwr, if_neg hne]) rfl)
theorem pt_at (S : ST) (k j : Nat) (v : Int32) : (pt S k j v).1 k = upd (S.1 k) j v := by simp only [pt, rwr, if_pos]
theorem wld_rwr {ad : Nat → Nat} {tc : Nat → ClassId} {S : ST} {k : Nat} {h : SH} {e : va_E} {f : Nat → Int32} (hk : shp[k]? = some h) (he : cel ad tc (rwr S k f) k h = e) : (wld ad tc S).set k (ad k, e) = wld ad tc (rwr S k f) :=
  wld_set hk he (fun k' h' hne _ => cel_congr (by simp only [rwr, if_neg hne]) rfl)
theorem shp_long : ∀ k h, shp[k]? = some h → h.1 = 1 → k = 46 := by
  have hb : (List.range 90).all (fun k => match shp[k]? with
    | some h => decide (h.1 = 1 → k = 46)
    | none => true) = true := by decide +kernel
  intro k h hk h1
  have hlt : k < shp.length := (List.getElem?_eq_some_iff.mp hk).1
  have hl : shp.length ≤ 90 := by decide +kernel
  have h2 := List.all_eq_true.mp hb k (List.mem_range.mpr (by omega))
  rw [hk] at h2
  exact of_decide_eq_true h2 h1
theorem wld_ptl {ad : Nat → Nat} {tc : Nat → ClassId} {S : ST} {j : Nat} {h : SH} {e : va_E} {v : Int64} (hk : shp[46]? = some h) (he : cel ad tc (ptl S j v) 46 h = e) : (wld ad tc S).set 46 (ad 46, e) = wld ad tc (ptl S j v) :=
  wld_set hk he (fun k' h' hne h2 => by
    have hn : h'.1 ≠ 1 := fun e1 => hne (shp_long k' h' h2 e1)
    have e1 : fv ad (ptl S j v) k' = fv ad S k' := by
      funext j o
      cases o <;> rfl
    unfold cel
    rw [e1]
    split <;> first | rfl | (exfalso; apply hn; assumption))
theorem shp_tl : ∀ k h, shp[k]? = some h → 4 ≤ h.1 → some 1000 ∈ h.2.2 → k = 23 := by
  have hb : (List.range 90).all (fun k => match shp[k]? with
    | some h => decide (4 ≤ h.1 → some 1000 ∈ h.2.2 → k = 23)
    | none => true) = true := by decide +kernel
  intro k h hk h0 h1
  have hlt : k < shp.length := (List.getElem?_eq_some_iff.mp hk).1
  have hl : shp.length ≤ 90 := by decide +kernel
  have h2 := List.all_eq_true.mp hb k (List.mem_range.mpr (by omega))
  rw [hk] at h2
  exact of_decide_eq_true h2 h0 h1
theorem wld_ptt {ad : Nat → Nat} {tc : Nat → ClassId} {S : ST} {t : Nat} {h : SH} {e : va_E} (hk : shp[23]? = some h) (he : cel ad tc (ptt S t) 23 h = e) : (wld ad tc S).set 23 (ad 23, e) = wld ad tc (ptt S t) :=
  wld_set hk he (fun k' h' hne h2 => by
    have hn : 4 ≤ h'.1 → some 1000 ∉ h'.2.2 := fun e0 e1 => hne (shp_tl k' h' h2 e0 e1)
    unfold cel
    split
    · rfl
    · rfl
    · rfl
    · rfl
    · rename_i c hc
      have h3 := hn (by omega)
      have e1 : h'.2.2.mapIdx (fv ad (ptt S t) k') = h'.2.2.mapIdx (fv ad S k') := by
        apply List.ext_getElem?
        intro i
        rw [List.getElem?_mapIdx, List.getElem?_mapIdx]
        cases hi : h'.2.2[i]? with
        | none => rfl
        | some o =>
          cases o with
          | none => rfl
          | some t' =>
            have : t' ≠ 1000 := fun e => h3 (by rw [← e]; exact List.mem_of_getElem? hi)
            simp only [Option.map_some, fv, gv, if_neg this]
      rw [e1])
def sub_tbl : ∀ w ∈ tables_1, w ∈ lw_tbl := fun _ h => List.mem_append_right _ h
def tbl : List Cond := lw_tbl.filter goodWord
theorem tbl_in {w : Cond} (h : w ∈ tables_1) (hg : goodWord w = true) : w ∈ tbl := List.mem_filter.mpr ⟨sub_tbl w h, hg⟩
theorem tbl_sel {q : MethodName × Nat} (h : q ∈ lw_privs) : Cond.selects q.1.cls q.1 q.1 ∈ tbl := List.mem_filter.mpr ⟨List.mem_append_left _ (List.mem_map.mpr ⟨q, h, rfl⟩), rfl⟩
theorem gd_all : GoodIn tbl tbl := fun w h => ⟨h, good_of_word (List.mem_filter.mp h).2⟩
theorem gd_lw : ∀ w ∈ tbl, w ∈ lw_tbl := fun w h => (List.mem_filter.mp h).1
def nw1 : Cond := .methodLinkNest "BoatNames$Telling" 76 ⟨"BoatNames", "pair", "(II)I"⟩ "BoatNames"
def nw2 : Cond := .methodLinkNest "BoatNames$Voyage" 122 ⟨"BoatNames", "pair", "(II)I"⟩ "BoatNames"
def nw3 : Cond := .methodLinkNest "BoatNames$Sheet" 32 ⟨"BoatNames", "isBelow", "(II)Z"⟩ "BoatNames"
def NW (U : State) : Prop := va_Nw nw1 U ∧ va_Nw nw2 U ∧ va_Nw nw3 U
theorem NW.warm {s U : State} (hW : s.WarmedH U.vm) (h : NW s) : NW U := ⟨va_Nw.warmM hW h.1, va_Nw.warmM hW h.2.1, va_Nw.warmM hW h.2.2⟩
theorem NW.same {s U : State} (hW : s.vm = U.vm) (h : NW s) : NW U := ⟨va_Nw.same rfl hW h.1, va_Nw.same rfl hW h.2.1, va_Nw.same rfl hW h.2.2⟩
theorem cls_good {C : String} {T : u_T} {N : Nat} (h1 : ∀ w ∈ u_ws C T N, w ∈ tables_1) (h2 : (u_ws C T N).all goodWord = true) : ∀ w ∈ u_ws C T N, w ∈ tbl := fun w h => tbl_in (h1 w h) (List.all_eq_true.mp h2 w h)
/-- each class of the worlds: its words, its fields' types, its fields' names -/
theorem cls_ok : ∀ (ci : Nat) (q : vw_C), clss[ci]? = some q → (∀ w ∈ u_ws q.1 q.2.1 q.2.2, w ∈ tbl) ∧ (∃ ty0 : Nat → FieldType, ∀ k, k < q.2.2 → parseFieldDescriptor (q.2.1 k).2.2.1 = some (ty0 k)) ∧ ∀ a, a < q.2.2 → ∀ b, b < q.2.2 → a ≠ b → (q.2.1 a).2.1 ≠ (q.2.1 b).2.1 := by
  intro ci q hq
  match ci, hq with
  | 0, hq => cases hq; exact ⟨cls_good iX0 (by decide +kernel), ⟨yX0, yX0_ok⟩, nX0⟩
  | 1, hq => cases hq; exact ⟨cls_good iX1 (by decide +kernel), ⟨yX1, yX1_ok⟩, nX1⟩
  | 2, hq => cases hq; exact ⟨cls_good iX2 (by decide +kernel), ⟨yX2, yX2_ok⟩, nX2⟩
  | 3, hq => cases hq; exact ⟨cls_good iX3 (by decide +kernel), ⟨yX3, yX3_ok⟩, nX3⟩
  | 4, hq => cases hq; exact ⟨cls_good iX4 (by decide +kernel), ⟨yX4, yX4_ok⟩, nX4⟩
  | 5, hq => cases hq; exact ⟨cls_good iX5 (by decide +kernel), ⟨yX5, yX5_ok⟩, nX5⟩
  | 6, hq => cases hq; exact ⟨cls_good iX6 (by decide +kernel), ⟨yX6, yX6_ok⟩, nX6⟩
  | 7, hq => cases hq; exact ⟨cls_good iX7 (by decide +kernel), ⟨yX7, yX7_ok⟩, nX7⟩
  | k + 8, hq => simp [clss] at hq
theorem fchl_ok {own : String} : ∀ (l : List (Nat × Nat × Nat)) (r : List Nat), fchl own l r = true → ∀ i ci j, l.lookup i = some (ci, j) → ∃ q, clss[ci]? = some q ∧ j < q.2.2 ∧ Cond.fieldLink own i (q.2.1 j).1 (q.2.1 j).2.1 (q.2.1 j).2.2.1 ∈ tbl := by
  intro l
  induction l with
  | nil => intro r _ i ci j h; simp at h
  | cons e l ih =>
    intro r h i ci j hl
    cases r with
    | nil => simp [fchl] at h
    | cons n r =>
      simp only [fchl, Bool.and_eq_true] at h
      rw [show e :: l = (e.1, e.2) :: l from rfl, List.lookup_cons] at hl
      by_cases he : (i == e.1) = true
      · rw [he] at hl
        have h3 : e.2 = (ci, j) := Option.some.inj hl
        have hi : i = e.1 := by simpa using he
        have h4 := h.1
        unfold fchk at h4
        cases hc : clss[e.2.1]? with
        | none => rw [hc] at h4; simp at h4
        | some q =>
          rw [hc] at h4
          simp only [Bool.and_eq_true, decide_eq_true_eq] at h4
          rw [h3] at hc h4
          exact ⟨q, hc, h4.1, by rw [hi]; exact tbl_in (List.mem_of_getElem? h4.2) rfl⟩
      · have he' : (i == e.1) = false := by simpa using he
        rw [he'] at hl
        exact ih r h.2 i ci j hl
/-- a field's link -/
theorem fld_ok {o : Nat} {own : String} {i ci j : Nat} (ho : cnm[o]? = some own) (h : fld o i = some (ci, j)) : ∃ q, clss[ci]? = some q ∧ j < q.2.2 ∧ Cond.fieldLink own i (q.2.1 j).1 (q.2.1 j).2.1 (q.2.1 j).2.2.1 ∈ tbl := by
  unfold fld at h
  match o, ho, h with
  | 0, ho, h => cases ho; exact fchl_ok _ _ fck0 i ci j h
  | 1, ho, h => cases ho; exact fchl_ok _ _ fck1 i ci j h
  | 2, ho, h => cases ho; exact fchl_ok _ _ fck2 i ci j h
  | 3, ho, h => cases ho; exact fchl_ok _ _ fck3 i ci j h
  | 4, ho, h => cases ho; exact fchl_ok _ _ fck4 i ci j h
  | 5, ho, h => cases ho; exact fchl_ok _ _ fck5 i ci j h
  | 6, ho, h => cases ho; exact fchl_ok _ _ fck6 i ci j h
  | 7, ho, h => cases ho; exact fchl_ok _ _ fck7 i ci j h
  | 8, ho, h => simp [ftb] at h
  | 9, ho, h => simp [ftb] at h
  | 10, ho, h => simp [ftb] at h
  | 11, ho, h => simp [ftb] at h
  | k + 12, ho, h => simp [cnm] at ho
/-! judgements -/
def rins : Option Value → Instr
  | none => .return_
  | some (.int _) => .ireturn
  | some (.long _) => .lreturn
  | some (.ref _) => .areturn
  | _ => .nop
def rfit : Option FieldType → Option Value → Prop
  | none, none => True
  | some .int, some (.int _) => True
  | some .boolean, some (.int v) => v = 0 ∨ v = 1
  | some .long, some (.long _) => True
  | some (.object _), some (.ref _) => True
  | _, _ => False
def CX (M : MI) (D : Nat) (sc : Option (Nat × (Nat → Int32))) (p : Program) (R : Room) (s : State) (m : MethodId) (args : Array Value) (c : Code) (ad : Nat → Nat) (tc : Nat → ClassId) (dC : Nat → ClassId) (dI : Nat → Nat → Nat) (A : Nat → Prop) (cells slots : Nat) : Prop :=
  p.tables.exec = Jvm.exec ∧ c.code = mcd M ∧ c.maxLocals = mml M ∧ s.vm.findClass (mnm M).cls = some m.cls ∧ (∀ w ∈ tbl, w.before args s = true) ∧ va_K (dC, dI) clss (tyl tc) s ∧ (∀ q : Nat, s.heap.size ≤ q → A q) ∧ (D ≤ R.frames ∧ 40 * D ≤ R.locals ∧ cells ≤ R.cells ∧ slots ≤ R.slots) ∧ (cnm[mow M]? = some (mnm M).cls ∧ tchk M = true ∧ NW s) ∧ (∀ L xs, sc = some (L, xs) → va_X (ad 999) L xs s s.heap ∧ ad 999 < s.heap.size ∧ ¬ A (ad 999))
def RT (M : MI) (Q : Option Value → ST → Prop) (p : Program) (l : Launch) (e : Env) (R : Room) (s : State) (m : MethodId) (args : Array Value) (below : List Frame) (meth : Method) (c : Code) (ad : Nat → Nat) (tc : Nat → ClassId) (dC : Nat → ClassId) (dI : Nat → Nat → Nat) (A : Nat → Prop) (cells slots : Nat) (Qw : State → Prop) : Prop :=
  ∀ (pc : Nat) (r : Option Value) (S' : ST) (H' : Heap) (locs' : List Loc) (ls' : Array Slot), Q r S' → rfit (mrt M) r → decode (mcd M) pc = .ok (rins r, 1) → va_P (dC, dI) clss (wld ad tc S') H' → va_D A (wld ad tc S') → va_S A s.heap H' locs' → W p l e R s m args below meth c H' locs' cells slots Qw (F0 m pc ls' (r.map (em ad)).toList)
def BX (M : MI) (D : Nat) (sc : Option (Nat × (Nat → Int32))) (Q : Option Value → ST → Prop) (c0 : CFG) : Prop :=
  ∀ (p : Program) (l : Launch) (e : Env) (R : Room) (s : State) (m : MethodId) (args : Array Value) (below : List Frame) (meth : Method) (c : Code) (ad : Nat → Nat) (tc : Nat → ClassId) (dC : Nat → ClassId) (dI : Nat → Nat → Nat) (A : Nat → Prop) (H : Heap) (locs : List Loc) (cells slots : Nat) (Qw : State → Prop) (ls : Array Slot),
    CX M D sc p R s m args c ad tc dC dI A cells slots → RT M Q p l e R s m args below meth c ad tc dC dI A cells slots Qw →
    va_P (dC, dI) clss (wld ad tc c0.2.2.2) H → va_D A (wld ad tc c0.2.2.2) → va_S A s.heap H locs → lv_has ls (mml M) (lem ad c0.2.1) →
    W p l e R s m args below meth c H locs cells slots Qw (F0 m c0.1 ls (c0.2.2.1.map (em ad)))
def PE (dC : Nat → ClassId) (dI : Nat → Nat → Nat) (ad : Nat → Nat) (tc : Nat → ClassId) (sz : Nat) (av : List Value) (S : ST) : Array Value → State → Prop := va_Pc (av.map (em ad)) (fun U => U.heap.size = sz ∧ va_P (dC, dI) clss (wld ad tc S) U.heap ∧ va_K (dC, dI) clss (tyl tc) U ∧ va_D (fun _ => True) (wld ad tc S) ∧ NW U)
def QE (dC : Nat → ClassId) (dI : Nat → Nat → Nat) (ad : Nat → Nat) (tc : Nat → ClassId) (sz : Nat) (Q : Option Value → ST → Prop) (S : ST) : Array Value → State → Outcome → State → Prop := fun _ st oc t => (∃ (r : Option Value) (u : ST), oc = .returned (r.map (em ad)) ∧ Q r u ∧ va_P (dC, dI) clss (wld ad tc u) t.heap ∧ va_K (dC, dI) clss (tyl tc) t ∧ va_D (va_A (wld ad tc S) sz) (wld ad tc u)) ∧ va_F (va_A (wld ad tc S) sz) st t
def rmD (D : Nat) : Room := { frames := D, cells := 0, slots := 0, locals := 40 * D }
def wsM (M : MI) : List Cond := Cond.code (mnm M) (mcd M) (mml M) (mrt M) :: tbl
/-- the method's contract, over the whole world: from S with these arguments it returns r and leaves u, with Q r u -/
def EX (M : MI) (D : Nat) (av : List Value) (S : ST) (Q : Option Value → ST → Prop) : Prop :=
  ∀ (l : Launch) (dC : Nat → ClassId) (dI : Nat → Nat → Nat) (ad : Nat → Nat) (tc : Nat → ClassId) (sz : Nat), Met l (mnm M) (wsM M) (rmD D) (PE dC dI ad tc sz av S) (QE dC dI ad tc sz Q S) 0 0 (va_A (wld ad tc S) sz)
theorem lem_args (ad : Nat → Nat) (av : List Value) : ∀ i, lv_args i (av.map (em ad)) = lem ad (lv_args i av) := by
  induction av with
  | nil => intro i; rfl
  | cons v t ih => intro i; simp only [List.map_cons, lv_args, lem, em_cat] at ih ⊢; rw [ih]
theorem sl_len (ad : Nat → Nat) (av : List Value) : (lg_sl (av.map (em ad))).length = (lg_sl av).length := by
  induction av with
  | nil => rfl
  | cons v t ih =>
    simp only [lg_sl, List.map_cons, List.flatMap_cons, List.length_append, em_cat] at ih ⊢
    rw [ih]
    split <;> rfl
theorem EX.of {M : MI} {D n : Nat} {av : List Value} {S : ST} {Q : Option Value → ST → Prop} (hm : MOK M n) (ha : (lg_sl av).length ≤ mml M) (h : BX M D none Q (0, lv_args 0 av, [], S)) : EX M D av S Q := by
  intro l dC dI ad tc sz
  refine Met.ofW (cc := mcd M) (maxL := mml M) (ret := mrt M) hm.2.2.1.1 rfl ?_
  intro p e s m args below meth c s₁ B hml hv
  obtain ⟨rfl, hsz, hP, hK, hD0, hN⟩ := hv
  have hts := atoms_spec (ws := wsM M) B.pre
  subst hsz
  have hD := hD0.self (sz := s.heap.size)
  have hl := lv_entry (av.map (em ad)) (n := mml M) (by rw [sl_len]; exact ha)
  have hlocks := B.notSynchronized
  have hr := B.returns
  rw [lg_entry_eq]
  rw [lem_args] at hl
  refine h p l e _ s m _ below meth c ad tc dC dI (va_A (wld ad tc S) s.heap.size) s.heap [] 0 0 _ _ ⟨B.exec, B.bytes, hml, findClass_of_methodNamed B.named, fun w hw => hts w (List.mem_cons_of_mem _ hw), hK, fun q hq => Or.inr hq, ⟨Nat.le_refl _, Nat.le_refl _, Nat.le_refl _, Nat.le_refl _⟩, ⟨hm.2.2.2.2, hm.2.2.2.1, hN⟩, fun _ _ hsc => by cases hsc⟩ ?_ hP hD va_S.rf hl
  intro pc r S' H' locs' ls' hQ hfit hdec hP' hD' hS'
  have hq : ∀ t : State, t.heap = H' → s.WarmedH t.vm → QE dC dI ad tc s.heap.size Q S (List.map (em ad) av).toArray s (.returned (r.map (em ad))) t := fun t ht hW => ⟨⟨r, S', rfl, hQ, by rw [ht]; exact hP', va_K.moved hW.alike hK, hD'⟩, hS'.F ht⟩
  cases hrt : mrt M with
  | none =>
    rw [hrt] at hfit hr
    cases r with
    | none => exact W.vret B.exec B.bytes hr hq hS'.2.2 hdec
    | some v => cases v <;> exact absurd hfit (fun h => h)
  | some ty =>
    rw [hrt] at hfit hr
    cases r with
    | none => cases ty <;> exact absurd hfit (fun h => h)
    | some v =>
      cases v with
      | int x =>
        cases ty with
        | int => exact W.iret (v := x) B.exec B.bytes hr hq hS'.2.2 hdec
        | boolean =>
          refine W.zret (v := x) (ty := .boolean) B.exec B.bytes hr ?_ hq hS'.2.2 hdec
          rcases hfit with rfl | rfl <;> rfl
        | _ => exact absurd hfit (fun h => h)
      | long x =>
        cases ty with
        | long => exact W.lret (v := x) B.exec B.bytes hr hq hS'.2.2 hdec
        | _ => exact absurd hfit (fun h => h)
      | ref x =>
        cases ty with
        | object nm => exact W.aret (v := .ref (ad x)) (rt := .object nm) B.exec B.bytes hr (Or.inl ⟨nm, rfl⟩) (Or.inr ⟨_, rfl⟩) hq hS'.2.2 hdec
        | _ => exact absurd hfit (fun h => h)
      | _ => cases ty <;> exact absurd hfit (fun h => h)
end
section
/-! one step of the little machine, and that the great one does it too -/
theorem fet_ok {M : MI} {pc : Nat} {i : Instr} (hc : tchk M = true) (h : fet M pc = some i) : ∃ n, decode (mcd M) pc = .ok (i, n) ∧ (ilen i = n ∨ ilen i = 0) := by
  unfold fet at h
  cases hr : (mtb M)[pc / 16]? with
  | none => rw [hr] at h; cases h
  | some r =>
    rw [hr] at h
    dsimp only at h
    have hm : (pc, i) ∈ r := by
      clear hr
      induction r with
      | nil => simp at h
      | cons q r ih =>
        rw [show q :: r = (q.1, q.2) :: r from rfl, List.lookup_cons] at h
        by_cases he : (pc == q.1) = true
        · rw [he] at h
          have : q.2 = i := Option.some.inj h
          have h1 : pc = q.1 := by simpa using he
          rw [← this, h1]
          exact List.mem_cons_self
        · have he' : (pc == q.1) = false := by simpa using he
          rw [he'] at h
          exact List.mem_cons_of_mem _ (ih h)
    have h1 := List.all_eq_true.mp hc r (List.mem_of_getElem? hr)
    have h2 := List.all_eq_true.mp h1 (pc, i) hm
    dsimp only at h2
    split at h2
    · rename_i i' n hd
      simp only [Bool.and_eq_true, decide_eq_true_eq, Bool.or_eq_true] at h2
      exact ⟨n, by rw [hd, h2.1], h2.2⟩
    · cases h2
theorem fet_1 {M : MI} {pc : Nat} {i : Instr} (hc : tchk M = true) (h : fet M pc = some i) (h0 : ilen i ≠ 0) : decode (mcd M) pc = .ok (i, ilen i) := by
  obtain ⟨n, h1, h2⟩ := fet_ok hc h
  rcases h2 with rfl | h2
  · exact h1
  · exact absurd h2 h0
def sto (i : Nat) (v : Value) (lv : List (Nat × Value)) : List (Nat × Value) := lv.filter (fun q => decide (q.1 < i) && !(q.1 + 1 == i && q.2.category == 2)) ++ (i, v) :: lv.filter (fun q => decide (i + (v.category - 1) < q.1))
theorem sto_1 {ad : Nat → Nat} {i : Nat} {v : Value} {lv : List (Nat × Value)} (hc : v.category = 1) : ∀ q ∈ lem ad (sto i v lv), q ∈ (i, em ad v) :: (lem ad lv).filter (fun q => !(q.1 == i) && !(q.1 + 1 == i && q.2.category == 2)) := by
  intro q hq
  obtain ⟨q0, h0, rfl⟩ := List.mem_map.mp hq
  rcases List.mem_append.mp h0 with h | h
  · obtain ⟨h1, h2⟩ := List.mem_filter.mp h
    simp only [Bool.and_eq_true, decide_eq_true_eq] at h2
    refine List.mem_cons_of_mem _ (List.mem_filter.mpr ⟨List.mem_map.mpr ⟨q0, h1, rfl⟩, ?_⟩)
    dsimp only
    rw [em_cat, h2.2]
    have : (q0.1 == i) = false := by simp; omega
    rw [this]
    rfl
  · rcases List.mem_cons.mp h with rfl | h
    · exact List.mem_cons_self
    · obtain ⟨h1, h2⟩ := List.mem_filter.mp h
      simp only [decide_eq_true_eq] at h2
      refine List.mem_cons_of_mem _ (List.mem_filter.mpr ⟨List.mem_map.mpr ⟨q0, h1, rfl⟩, ?_⟩)
      dsimp only
      have e1 : (q0.1 == i) = false := by simp; omega
      have e2 : (q0.1 + 1 == i) = false := by simp; omega
      rw [e1, e2]
      rfl
theorem sto_2 {ad : Nat → Nat} {i : Nat} {v : Value} {lv : List (Nat × Value)} (hc : v.category = 2) : ∀ q ∈ lem ad (sto i v lv), q ∈ (i, em ad v) :: (lem ad lv).filter (fun q => !(q.1 == i) && (!(q.1 == i + 1) && !(q.1 + 1 == i && q.2.category == 2))) := by
  intro q hq
  obtain ⟨q0, h0, rfl⟩ := List.mem_map.mp hq
  rcases List.mem_append.mp h0 with h | h
  · obtain ⟨h1, h2⟩ := List.mem_filter.mp h
    simp only [Bool.and_eq_true, decide_eq_true_eq] at h2
    refine List.mem_cons_of_mem _ (List.mem_filter.mpr ⟨List.mem_map.mpr ⟨q0, h1, rfl⟩, ?_⟩)
    dsimp only
    rw [em_cat, h2.2]
    have e1 : (q0.1 == i) = false := by simp; omega
    have e2 : (q0.1 == i + 1) = false := by simp; omega
    rw [e1, e2]
    rfl
  · rcases List.mem_cons.mp h with rfl | h
    · exact List.mem_cons_self
    · obtain ⟨h1, h2⟩ := List.mem_filter.mp h
      simp only [decide_eq_true_eq, hc] at h2
      refine List.mem_cons_of_mem _ (List.mem_filter.mpr ⟨List.mem_map.mpr ⟨q0, h1, rfl⟩, ?_⟩)
      dsimp only
      have e1 : (q0.1 == i) = false := by simp; omega
      have e2 : (q0.1 + 1 == i) = false := by simp; omega
      have e3 : (q0.1 == i + 1) = false := by simp; omega
      rw [e1, e2, e3]
      rfl
theorem lv_less {ls : Array Slot} {n : Nat} {l l' : List (Nat × Value)} (h : lv_has ls n l) (hs : ∀ q ∈ l', q ∈ l) : lv_has ls n l' := ⟨h.1, h.2.1, fun q hq => h.2.2 q (hs q hq)⟩
theorem lv_look {ls : Array Slot} {n : Nat} {lv : List (Nat × Value)} {ad : Nat → Nat} {k : Nat} {v : Value} (h : lv_has ls n (lem ad lv)) (hk : lv.lookup k = some v) : ls[k]? = some (.val (em ad v)) := by
  refine h.2.2 (k, em ad v) (List.mem_map.mpr ⟨(k, v), ?_, rfl⟩)
  clear h
  induction lv with
  | nil => simp at hk
  | cons q r ih =>
    rw [show q :: r = (q.1, q.2) :: r from rfl, List.lookup_cons] at hk
    by_cases he : (k == q.1) = true
    · rw [he] at hk
      have : q.2 = v := Option.some.inj hk
      have h1 : k = q.1 := by simpa using he
      rw [← this, h1]
      exact List.mem_cons_self
    · have he' : (k == q.1) = false := by simpa using he
      rw [he'] at hk
      exact List.mem_cons_of_mem _ (ih hk)
def o1 (f : Int32 → Int32) (pc : Nat) (lv : List (Nat × Value)) (st : List Value) (S : ST) : Option CFG := match st with
  | .int x :: r => some (pc + 1, lv, .int (f x) :: r, S)
  | _ => none
theorem o1_inv {f : Int32 → Int32} {pc : Nat} {lv : List (Nat × Value)} {st : List Value} {S : ST} {c' : CFG} (h : o1 f pc lv st S = some c') : ∃ x r, st = .int x :: r ∧ c' = (pc + 1, lv, .int (f x) :: r, S) := by
  unfold o1 at h
  split at h
  · rename_i x r
    exact ⟨x, r, rfl, (Option.some.inj h).symm⟩
  · cases h
def o2 (f : Int32 → Int32 → Int32) (pc : Nat) (lv : List (Nat × Value)) (st : List Value) (S : ST) : Option CFG := match st with
  | .int y :: .int x :: r => some (pc + 1, lv, .int (f x y) :: r, S)
  | _ => none
theorem o2_inv {f : Int32 → Int32 → Int32} {pc : Nat} {lv : List (Nat × Value)} {st : List Value} {S : ST} {c' : CFG} (h : o2 f pc lv st S = some c') : ∃ x y r, st = .int y :: .int x :: r ∧ c' = (pc + 1, lv, .int (f x y) :: r, S) := by
  unfold o2 at h
  split at h
  · rename_i y x r
    exact ⟨x, y, r, rfl, (Option.some.inj h).symm⟩
  · cases h
def l2 (f : Int64 → Int64 → Int64) (pc : Nat) (lv : List (Nat × Value)) (st : List Value) (S : ST) : Option CFG := match st with
  | .long y :: .long x :: r => some (pc + 1, lv, .long (f x y) :: r, S)
  | _ => none
theorem l2_inv {f : Int64 → Int64 → Int64} {pc : Nat} {lv : List (Nat × Value)} {st : List Value} {S : ST} {c' : CFG} (h : l2 f pc lv st S = some c') : ∃ x y r, st = .long y :: .long x :: r ∧ c' = (pc + 1, lv, .long (f x y) :: r, S) := by
  unfold l2 at h
  split at h
  · rename_i y x r
    exact ⟨x, y, r, rfl, (Option.some.inj h).symm⟩
  · cases h
def s2 (f : Int64 → Int32 → Int64) (pc : Nat) (lv : List (Nat × Value)) (st : List Value) (S : ST) : Option CFG := match st with
  | .int y :: .long x :: r => some (pc + 1, lv, .long (f x y) :: r, S)
  | _ => none
theorem s2_inv {f : Int64 → Int32 → Int64} {pc : Nat} {lv : List (Nat × Value)} {st : List Value} {S : ST} {c' : CFG} (h : s2 f pc lv st S = some c') : ∃ x y r, st = .int y :: .long x :: r ∧ c' = (pc + 1, lv, .long (f x y) :: r, S) := by
  unfold s2 at h
  split at h
  · rename_i y x r
    exact ⟨x, y, r, rfl, (Option.some.inj h).symm⟩
  · cases h
def ldi (k d pc : Nat) (lv : List (Nat × Value)) (st : List Value) (S : ST) : Option CFG := match lv.lookup k with
  | some (.int x) => some (pc + d, lv, .int x :: st, S)
  | _ => none
theorem ldi_inv {k d pc : Nat} {lv : List (Nat × Value)} {st : List Value} {S : ST} {c' : CFG} (h : ldi k d pc lv st S = some c') : ∃ x, lv.lookup k = some (.int x) ∧ c' = (pc + d, lv, .int x :: st, S) := by
  unfold ldi at h
  split at h
  · rename_i x hx
    exact ⟨x, hx, (Option.some.inj h).symm⟩
  · cases h
def ldl (k d pc : Nat) (lv : List (Nat × Value)) (st : List Value) (S : ST) : Option CFG := match lv.lookup k with
  | some (.long x) => some (pc + d, lv, .long x :: st, S)
  | _ => none
theorem ldl_inv {k d pc : Nat} {lv : List (Nat × Value)} {st : List Value} {S : ST} {c' : CFG} (h : ldl k d pc lv st S = some c') : ∃ x, lv.lookup k = some (.long x) ∧ c' = (pc + d, lv, .long x :: st, S) := by
  unfold ldl at h
  split at h
  · rename_i x hx
    exact ⟨x, hx, (Option.some.inj h).symm⟩
  · cases h
def lda (k d pc : Nat) (lv : List (Nat × Value)) (st : List Value) (S : ST) : Option CFG := match lv.lookup k with
  | some (.ref x) => some (pc + d, lv, .ref x :: st, S)
  | _ => none
theorem lda_inv {k d pc : Nat} {lv : List (Nat × Value)} {st : List Value} {S : ST} {c' : CFG} (h : lda k d pc lv st S = some c') : ∃ x, lv.lookup k = some (.ref x) ∧ c' = (pc + d, lv, .ref x :: st, S) := by
  unfold lda at h
  split at h
  · rename_i x hx
    exact ⟨x, hx, (Option.some.inj h).symm⟩
  · cases h
def sti (ml k d pc : Nat) (lv : List (Nat × Value)) (st : List Value) (S : ST) : Option CFG := match st with
  | .int x :: r => if k < ml then some (pc + d, sto k (.int x) lv, r, S) else none
  | _ => none
theorem sti_inv {ml k d pc : Nat} {lv : List (Nat × Value)} {st : List Value} {S : ST} {c' : CFG} (h : sti ml k d pc lv st S = some c') : ∃ x r, st = .int x :: r ∧ k < ml ∧ c' = (pc + d, sto k (.int x) lv, r, S) := by
  unfold sti at h
  split at h
  · rename_i x r
    split at h
    · rename_i hk
      exact ⟨x, r, rfl, hk, (Option.some.inj h).symm⟩
    · cases h
  · cases h
def stl (ml k d pc : Nat) (lv : List (Nat × Value)) (st : List Value) (S : ST) : Option CFG := match st with
  | .long x :: r => if k + 1 < ml then some (pc + d, sto k (.long x) lv, r, S) else none
  | _ => none
theorem stl_inv {ml k d pc : Nat} {lv : List (Nat × Value)} {st : List Value} {S : ST} {c' : CFG} (h : stl ml k d pc lv st S = some c') : ∃ x r, st = .long x :: r ∧ k + 1 < ml ∧ c' = (pc + d, sto k (.long x) lv, r, S) := by
  unfold stl at h
  split at h
  · rename_i x r
    split at h
    · rename_i hk
      exact ⟨x, r, rfl, hk, (Option.some.inj h).symm⟩
    · cases h
  · cases h
def sta (ml k d pc : Nat) (lv : List (Nat × Value)) (st : List Value) (S : ST) : Option CFG := match st with
  | .ref x :: r => if k < ml then some (pc + d, sto k (.ref x) lv, r, S) else none
  | _ => none
theorem sta_inv {ml k d pc : Nat} {lv : List (Nat × Value)} {st : List Value} {S : ST} {c' : CFG} (h : sta ml k d pc lv st S = some c') : ∃ x r, st = .ref x :: r ∧ k < ml ∧ c' = (pc + d, sto k (.ref x) lv, r, S) := by
  unfold sta at h
  split at h
  · rename_i x r
    split at h
    · rename_i hk
      exact ⟨x, r, rfl, hk, (Option.some.inj h).symm⟩
    · cases h
  · cases h
def iic (ml k : Nat) (n : Int) (pc : Nat) (lv : List (Nat × Value)) (st : List Value) (S : ST) : Option CFG := match lv.lookup k with
  | some (.int x) => if k < ml then some (pc + 3, sto k (.int (x + Int32.ofInt n)) lv, st, S) else none
  | _ => none
theorem iic_inv {ml k pc : Nat} {n : Int} {lv : List (Nat × Value)} {st : List Value} {S : ST} {c' : CFG} (h : iic ml k n pc lv st S = some c') : ∃ x, lv.lookup k = some (.int x) ∧ k < ml ∧ c' = (pc + 3, sto k (.int (x + Int32.ofInt n)) lv, st, S) := by
  unfold iic at h
  split at h
  · rename_i x hx
    split at h
    · rename_i hk
      exact ⟨x, hx, hk, (Option.some.inj h).symm⟩
    · cases h
  · cases h
def gtf (o i pc : Nat) (lv : List (Nat × Value)) (st : List Value) (S : ST) : Option CFG := match st with
  | .ref k :: r => match fld o i, shp[k]? with
    | some f, some h => if h.1 = f.1 + 4 then (match h.2.2[f.2]? with
      | some w => some (pc + 3, lv, gv S k f.2 w :: r, S)
      | none => none) else none
    | _, _ => none
  | _ => none
theorem gtf_inv {o i pc : Nat} {lv : List (Nat × Value)} {st : List Value} {S : ST} {c' : CFG} (h : gtf o i pc lv st S = some c') : ∃ k r ci j n fl w, st = .ref k :: r ∧ fld o i = some (ci, j) ∧ shp[k]? = some (ci + 4, n, fl) ∧ fl[j]? = some w ∧ c' = (pc + 3, lv, gv S k j w :: r, S) := by
  unfold gtf at h
  split at h
  · rename_i k r
    split at h
    · rename_i f h' hf hs
      split at h
      · rename_i he
        split at h
        · rename_i w hw
          obtain ⟨a, n, fl⟩ := h'
          obtain ⟨ci, j⟩ := f
          dsimp only at he hw
          subst he
          exact ⟨k, r, ci, j, n, fl, w, rfl, hf, hs, hw, (Option.some.inj h).symm⟩
        · cases h
      · cases h
    · cases h
  · cases h
/-- an int goes to a field; 'lost' takes 0 and 1 alone -/
def ptf (o i pc : Nat) (lv : List (Nat × Value)) (st : List Value) (S : ST) : Option CFG := match st with
  | .int v :: .ref k :: r => match fld o i, shp[k]? with
    | some f, some h => if h.1 = f.1 + 4 then (match h.2.2[f.2]? with
      | some none => if f.1 = 1 ∧ f.2 = 3 then (if v = 0 ∨ v = 1 then some (pc + 3, lv, r, pt S k f.2 v) else none) else some (pc + 3, lv, r, pt S k f.2 v)
      | _ => none) else none
    | _, _ => none
  | .ref t :: .ref k :: r => match fld o i with
    | some f => if k = 23 ∧ f.1 = 5 ∧ f.2 = 0 then some (pc + 3, lv, r, ptt S t) else none
    | none => none
  | _ => none
def ptf1 (o i pc : Nat) (lv : List (Nat × Value)) (st : List Value) (S : ST) (c' : CFG) : Prop := ∃ v k r ci j n fl, st = .int v :: .ref k :: r ∧ fld o i = some (ci, j) ∧ shp[k]? = some (ci + 4, n, fl) ∧ fl[j]? = some none ∧ ((ci = 1 ∧ j = 3) → v = 0 ∨ v = 1) ∧ c' = (pc + 3, lv, r, pt S k j v)
def ptf2 (o i pc : Nat) (lv : List (Nat × Value)) (st : List Value) (S : ST) (c' : CFG) : Prop := ∃ t r, st = .ref t :: .ref 23 :: r ∧ fld o i = some (5, 0) ∧ c' = (pc + 3, lv, r, ptt S t)
theorem ptf_inv {o i pc : Nat} {lv : List (Nat × Value)} {st : List Value} {S : ST} {c' : CFG} (h : ptf o i pc lv st S = some c') : ptf1 o i pc lv st S c' ∨ ptf2 o i pc lv st S c' := by
  unfold ptf at h
  split at h
  · rename_i v k r
    left
    split at h
    · rename_i f h' hf hs
      split at h
      · rename_i he
        split at h
        · rename_i hw
          obtain ⟨a, n, fl⟩ := h'
          obtain ⟨ci, j⟩ := f
          dsimp only at he hw
          subst he
          split at h
          · split at h
            · rename_i hv
              exact ⟨v, k, r, ci, j, n, fl, rfl, hf, hs, hw, fun _ => hv, (Option.some.inj h).symm⟩
            · cases h
          · rename_i hn
            exact ⟨v, k, r, ci, j, n, fl, rfl, hf, hs, hw, fun h1 => absurd h1 hn, (Option.some.inj h).symm⟩
        · cases h
      · cases h
    · cases h
  · rename_i t k r
    right
    split at h
    · rename_i f hf
      split at h
      · rename_i he
        obtain ⟨ci, j⟩ := f
        obtain ⟨rfl, h1, h2⟩ := he
        dsimp only at h1 h2
        subst h1
        subst h2
        exact ⟨t, r, rfl, hf, (Option.some.inj h).symm⟩
      · cases h
    · cases h
  · cases h
def gto (off : Int) (pc : Nat) (lv : List (Nat × Value)) (st : List Value) (S : ST) : Option CFG := if 0 ≤ (pc : Int) + off then some (((pc : Int) + off).toNat, lv, st, S) else none
def dp1 (pc : Nat) (lv : List (Nat × Value)) (st : List Value) (S : ST) : Option CFG := match st with
  | v :: r => if v.category = 1 then some (pc + 1, lv, v :: v :: r, S) else none
  | _ => none
theorem dp1_inv {pc : Nat} {lv : List (Nat × Value)} {st : List Value} {S : ST} {c' : CFG} (h : dp1 pc lv st S = some c') : ∃ v r, st = v :: r ∧ v.category = 1 ∧ c' = (pc + 1, lv, v :: v :: r, S) := by
  unfold dp1 at h
  split at h
  · rename_i v r
    split at h
    · rename_i hk
      exact ⟨v, r, rfl, hk, (Option.some.inj h).symm⟩
    · cases h
  · cases h
def dp2 (pc : Nat) (lv : List (Nat × Value)) (st : List Value) (S : ST) : Option CFG := match st with
  | v :: w :: r => if v.category = 1 ∧ w.category = 1 then some (pc + 1, lv, v :: w :: v :: w :: r, S) else none
  | _ => none
theorem dp2_inv {pc : Nat} {lv : List (Nat × Value)} {st : List Value} {S : ST} {c' : CFG} (h : dp2 pc lv st S = some c') : ∃ v w r, st = v :: w :: r ∧ (v.category = 1 ∧ w.category = 1) ∧ c' = (pc + 1, lv, v :: w :: v :: w :: r, S) := by
  unfold dp2 at h
  split at h
  · rename_i v w r
    split at h
    · rename_i hk
      exact ⟨v, w, r, rfl, hk, (Option.some.inj h).symm⟩
    · cases h
  · cases h
def wid (pc : Nat) (lv : List (Nat × Value)) (st : List Value) (S : ST) : Option CFG := match st with
  | .int x :: r => some (pc + 1, lv, .long x.toInt64 :: r, S)
  | _ => none
theorem wid_inv {pc : Nat} {lv : List (Nat × Value)} {st : List Value} {S : ST} {c' : CFG} (h : wid pc lv st S = some c') : ∃ x r, st = .int x :: r ∧ c' = (pc + 1, lv, .long x.toInt64 :: r, S) := by
  unfold wid at h
  split at h
  · rename_i x r
    exact ⟨x, r, rfl, (Option.some.inj h).symm⟩
  · cases h
def lcm_ (pc : Nat) (lv : List (Nat × Value)) (st : List Value) (S : ST) : Option CFG := match st with
  | .long y :: .long x :: r => some (pc + 1, lv, .int (lg_cmp x y) :: r, S)
  | _ => none
theorem lcm_inv {pc : Nat} {lv : List (Nat × Value)} {st : List Value} {S : ST} {c' : CFG} (h : lcm_ pc lv st S = some c') : ∃ x y r, st = .long y :: .long x :: r ∧ c' = (pc + 1, lv, .int (lg_cmp x y) :: r, S) := by
  unfold lcm_ at h
  split at h
  · rename_i y x r
    exact ⟨x, y, r, rfl, (Option.some.inj h).symm⟩
  · cases h
def knI (o i : Nat) : Option Int32 := match o, i with
  | 9, 265 => some 1431655765
  | 9, 266 => some 858993459
  | 9, 267 => some 252645135
  | 3, 96 => some 1103515245
  | 6, 261 => some (-2147483648)
  | 7, 318 => some 1103515245
  | 7, 332 => some (-2147483648)
  | _, _ => none
def knL (o i : Nat) : Option Int64 := match o, i with
  | 6, 237 => some (-9223372036854775806)
  | 6, 294 => some 17
  | 6, 296 => some 31
  | 7, 113 => some (-9223372036854775808)
  | 7, 342 => some 17
  | 7, 336 => some 31
  | _, _ => none
theorem knI_ok {o i : Nat} {v : Int32} {own : String} (ho : cnm[o]? = some own) (h : knI o i = some v) : Cond.constant own i v ∈ tbl := by
  unfold knI at h
  split at h
  · cases h; cases ho; exact tbl_in kck_9_265 rfl
  · cases h; cases ho; exact tbl_in kck_9_266 rfl
  · cases h; cases ho; exact tbl_in kck_9_267 rfl
  · cases h; cases ho; exact tbl_in kck_3_96 rfl
  · cases h; cases ho; exact tbl_in kck_6_261 rfl
  · cases h; cases ho; exact tbl_in kck_7_318 rfl
  · cases h; cases ho; exact tbl_in kck_7_332 rfl
  · cases h
theorem knL_ok {o i : Nat} {v : Int64} {own : String} (ho : cnm[o]? = some own) (h : knL o i = some v) : Cond.constantLong own i v ∈ tbl := by
  unfold knL at h
  split at h
  · cases h; cases ho; exact tbl_in kcl_6_237 rfl
  · cases h; cases ho; exact tbl_in kcl_6_294 rfl
  · cases h; cases ho; exact tbl_in kcl_6_296 rfl
  · cases h; cases ho; exact tbl_in kcl_7_113 rfl
  · cases h; cases ho; exact tbl_in kcl_7_342 rfl
  · cases h; cases ho; exact tbl_in kcl_7_336 rfl
  · cases h
def kci (o k d pc : Nat) (lv : List (Nat × Value)) (st : List Value) (S : ST) : Option CFG := match knI o k with
  | some v => some (pc + d, lv, .int v :: st, S)
  | none => none
theorem kci_inv {o k d pc : Nat} {lv : List (Nat × Value)} {st : List Value} {S : ST} {c' : CFG} (h : kci o k d pc lv st S = some c') : ∃ v, knI o k = some v ∧ c' = (pc + d, lv, .int v :: st, S) := by
  unfold kci at h
  split at h
  · rename_i v hv
    exact ⟨v, hv, (Option.some.inj h).symm⟩
  · cases h
def kcl (o k pc : Nat) (lv : List (Nat × Value)) (st : List Value) (S : ST) : Option CFG := match knL o k with
  | some v => some (pc + 3, lv, .long v :: st, S)
  | none => none
theorem kcl_inv {o k pc : Nat} {lv : List (Nat × Value)} {st : List Value} {S : ST} {c' : CFG} (h : kcl o k pc lv st S = some c') : ∃ v, knL o k = some v ∧ c' = (pc + 3, lv, .long v :: st, S) := by
  unfold kcl at h
  split at h
  · rename_i v hv
    exact ⟨v, hv, (Option.some.inj h).symm⟩
  · cases h
def ex1 (M : MI) (i : Instr) (pc : Nat) (lv : List (Nat × Value)) (st : List Value) (S : ST) : Option CFG := match i with
  | .iconst v => some (pc + 1, lv, .int (Int32.ofInt v) :: st, S)
  | .bipush v => some (pc + 2, lv, .int (Int8.ofInt v).toInt32 :: st, S)
  | .sipush v => some (pc + 3, lv, .int (Int16.ofInt v).toInt32 :: st, S)
  | .lconst v => some (pc + 1, lv, .long (Int64.ofNat v.val) :: st, S)
  | .iload_n k => ldi k.val 1 pc lv st S
  | .iload k => ldi k 2 pc lv st S
  | .lload_n k => ldl k.val 1 pc lv st S
  | .lload k => ldl k 2 pc lv st S
  | .aload_n k => lda k.val 1 pc lv st S
  | .aload k => lda k 2 pc lv st S
  | .istore_n k => sti (mml M) k.val 1 pc lv st S
  | .istore k => sti (mml M) k 2 pc lv st S
  | .lstore_n k => stl (mml M) k.val 1 pc lv st S
  | .lstore k => stl (mml M) k 2 pc lv st S
  | .astore_n k => sta (mml M) k.val 1 pc lv st S
  | .astore k => sta (mml M) k 2 pc lv st S
  | .iinc k n => iic (mml M) k n pc lv st S
  | .iadd => o2 (fun x y => x + y) pc lv st S
  | .isub => o2 (fun x y => x - y) pc lv st S
  | .imul => o2 (fun x y => x * y) pc lv st S
  | .iand => o2 (fun x y => x &&& y) pc lv st S
  | .ior => o2 (fun x y => x ||| y) pc lv st S
  | .ixor => o2 (fun x y => x ^^^ y) pc lv st S
  | .ishl => o2 (fun x y => x <<< (y &&& 31)) pc lv st S
  | .ishr => o2 (fun x y => x >>> (y &&& 31)) pc lv st S
  | .iushr => o2 (fun x y => (x.toUInt32 >>> (y.toUInt32 &&& Int32.toUInt32 31)).toInt32) pc lv st S
  | .ineg => o1 (fun x => -x) pc lv st S
  | .i2b => o1 (fun x => x.toInt8.toInt32) pc lv st S
  | .i2s => o1 (fun x => x.toInt16.toInt32) pc lv st S
  | .ladd => l2 (fun x y => x + y) pc lv st S
  | .lsub => l2 (fun x y => x - y) pc lv st S
  | .lmul => l2 (fun x y => x * y) pc lv st S
  | .land => l2 (fun x y => x &&& y) pc lv st S
  | .lshl => s2 (fun x y => x <<< (y.toInt64 &&& 63)) pc lv st S
  | .lshr => s2 (fun x y => x >>> (y.toInt64 &&& 63)) pc lv st S
  | .getfield i => gtf (mow M) i pc lv st S
  | .putfield i => ptf (mow M) i pc lv st S
  | .goto off => gto off pc lv st S
  | .dup => dp1 pc lv st S
  | .dup2 => dp2 pc lv st S
  | .i2l => wid pc lv st S
  | .lcmp => lcm_ pc lv st S
  | .ldc k => kci (mow M) k 2 pc lv st S
  | .ldc_w k => kci (mow M) k 3 pc lv st S
  | .ldc2_w k => kcl (mow M) k pc lv st S
  | _ => none
theorem cel_obj (ad : Nat → Nat) (tc : Nat → ClassId) (S : ST) (k ci n : Nat) (fl : List (Option Nat)) : cel ad tc S k (ci + 4, n, fl) = .inr (ci, fl.mapIdx (fv ad S k)) := rfl
theorem shp_int : ∀ (k ci n : Nat) (fl : List (Option Nat)) (j : Nat) (q : vw_C), shp[k]? = some (ci + 4, n, fl) → fl[j]? = some none → clss[ci]? = some q → (q.2.1 j).2.2.2 = false ∧ parseFieldDescriptor (q.2.1 j).2.2.1 = some (if ci = 1 ∧ j = 3 then .boolean else .int) := by
  have hb : (List.range 90).all (fun k => match shp[k]? with
    | some h => (match clss[h.1 - 4]? with
      | some q => (List.range h.2.2.length).all (fun j => match h.2.2[j]? with
        | some none => decide (4 ≤ h.1 → (q.2.1 j).2.2.2 = false ∧ parseFieldDescriptor (q.2.1 j).2.2.1 = some (if h.1 - 4 = 1 ∧ j = 3 then .boolean else .int))
        | _ => true)
      | none => true)
    | none => true) = true := by decide +kernel
  intro k ci n fl j q hk hj hq
  have hlt : k < shp.length := (List.getElem?_eq_some_iff.mp hk).1
  have hl : shp.length ≤ 90 := by decide +kernel
  have h2 := List.all_eq_true.mp hb k (List.mem_range.mpr (by omega))
  rw [hk] at h2
  dsimp only at h2
  rw [Nat.add_sub_cancel, hq] at h2
  dsimp only at h2
  have h3 := List.all_eq_true.mp h2 j (List.mem_range.mpr (List.getElem?_eq_some_iff.mp hj).1)
  rw [hj] at h3
  exact of_decide_eq_true h3 (by omega)
theorem fv_pt {ad : Nat → Nat} {S : ST} {k j : Nat} {v : Int32} {fl : List (Option Nat)} (hj : fl[j]? = some none) : fl.mapIdx (fv ad (pt S k j v) k) = (fl.mapIdx (fv ad S k)).set j (.int v) := by
  have hlt := (List.getElem?_eq_some_iff.mp hj).1
  apply List.ext_getElem?
  intro i
  rw [List.getElem?_set, List.getElem?_mapIdx, List.getElem?_mapIdx, List.length_mapIdx]
  by_cases hi : j = i
  · subst hi
    rw [if_pos rfl, if_pos hlt, hj]
    simp only [Option.map_some, fv, gv, pt_at, upd, if_pos, em]
  · rw [if_neg hi]
    cases fl[i]? with
    | none => rfl
    | some o =>
      cases o with
      | none => simp only [Option.map_some, fv, gv, pt_at, upd, if_neg (fun e => hi (Eq.symm e))]
      | some t => rfl
theorem fv_ptt {ad : Nat → Nat} {S : ST} {t : Nat} {fl : List (Option Nat)} (h0 : fl[0]? = some (some 1000)) (ho : ∀ i, i ≠ 0 → fl[i]? ≠ some (some 1000)) : fl.mapIdx (fv ad (ptt S t) 23) = (fl.mapIdx (fv ad S 23)).set 0 (.ref (ad t)) := by
  have hlt := (List.getElem?_eq_some_iff.mp h0).1
  apply List.ext_getElem?
  intro i
  rw [List.getElem?_set, List.getElem?_mapIdx, List.getElem?_mapIdx, List.length_mapIdx]
  by_cases hi : 0 = i
  · subst hi
    rw [if_pos rfl, if_pos hlt, h0]
    rfl
  · rw [if_neg hi]
    cases he : fl[i]? with
    | none => rfl
    | some o =>
      cases o with
      | none => rfl
      | some t' =>
        have : t' ≠ 1000 := fun e => ho i (fun e => hi e.symm) (by rw [he, e])
        simp only [Option.map_some, fv, gv, if_neg this]
theorem shp23 : shp[23]? = some (9, 12, [some 1000, some 24, some 25, some 26, some 27, some 28, some 29, some 30, some 31, none, none, none]) := by decide +kernel
set_option maxHeartbeats 1000000 in
theorem x_getfield {M : MI} {D : Nat} {sc : Option (Nat × (Nat → Int32))} {Q : Option Value → ST → Prop} {i : Nat} {pc : Nat} {lv : List (Nat × Value)} {st : List Value} {S : ST} {c' : CFG} (hf : fet M pc = some (.getfield i)) (h : gtf (mow M) i pc lv st S = some c') (kk0 : BX M D sc Q c') : BX M D sc Q (pc, lv, st, S) := by
  intro p l e R s m args below meth c ad tc dC dI A H locs cells slots Qw ls C T hP hD hS hl
  have K := kk0 p l e R s m args below meth c ad tc dC dI A
  obtain ⟨hx, hb, hml, hown, hts, hK, hA, hR, ⟨hcn, hck, hN⟩, hsc⟩ := id C
  have hd := fet_1 hck hf (Nat.succ_ne_zero _)
  obtain ⟨k, r, ci, j, n, fl, w, rfl, hfl, hsh, hw, rfl⟩ := gtf_inv h
  obtain ⟨q, hq, hj, hlk⟩ := fld_ok hcn hfl
  have hat := wld_at (ad := ad) (tc := tc) S hsh
  rw [cel_obj] at hat
  exact va_get hx hb hts (cls_ok ci q hq).1 hown hK hP k hat hq j hj (hts _ hlk) (fun _ h9 => h9) (v := fv ad S k j w) (by rw [List.getElem?_mapIdx, hw]; rfl) hd (K H locs cells slots Qw ls C T hP hD hS hl)
set_option maxHeartbeats 1000000 in
theorem x_putfield {M : MI} {D : Nat} {sc : Option (Nat × (Nat → Int32))} {Q : Option Value → ST → Prop} {i : Nat} {pc : Nat} {lv : List (Nat × Value)} {st : List Value} {S : ST} {c' : CFG} (hf : fet M pc = some (.putfield i)) (h : ptf (mow M) i pc lv st S = some c') (kk0 : BX M D sc Q c') : BX M D sc Q (pc, lv, st, S) := by
  intro p l e R s m args below meth c ad tc dC dI A H locs cells slots Qw ls C T hP hD hS hl
  have K := kk0 p l e R s m args below meth c ad tc dC dI A
  obtain ⟨hx, hb, hml, hown, hts, hK, hA, hR, ⟨hcn, hck, hN⟩, hsc⟩ := id C
  have hd := fet_1 hck hf (Nat.succ_ne_zero _)
  rcases ptf_inv h with ⟨v, k, r, ci, j, n, fl, rfl, hfl, hsh, hw, hz, rfl⟩ | ⟨t, r, rfl, hfl, rfl⟩
  · obtain ⟨q, hq, hj, hlk⟩ := fld_ok hcn hfl
    have hat := wld_at (ad := ad) (tc := tc) S hsh
    rw [cel_obj] at hat
    obtain ⟨hin, ⟨ty0, hty⟩, hnm⟩ := cls_ok ci q hq
    obtain ⟨hfin, hpd⟩ := shp_int k ci n fl j q hsh hw hq
    have hn : narrow (if ci = 1 ∧ j = 3 then .boolean else .int) (.int v) = .int v := by
      split
      · rename_i h1
        rcases hz h1 with rfl | rfl <;> rfl
      · rfl
    have hfit : fits (if ci = 1 ∧ j = 3 then .boolean else .int) (.int v) = true := by
      split
      · rename_i h1
        rcases hz h1 with rfl | rfl <;> rfl
      · rfl
    have he : (wld ad tc S).set k (ad k, .inr (ci, (fl.mapIdx (fv ad S k)).set j (.int v))) = wld ad tc (pt S k j v) := wld_pt hsh (by rw [cel_obj, fv_pt hw])
    refine va_put hx hb hts hin ty0 hty hnm hown hK hP hD hS k hat hq j hj (hts _ hlk) (fun _ h9 => h9) hfin hpd hn hfit (by rw [List.length_mapIdx]; exact (List.getElem?_eq_some_iff.mp hw).1) hd (fun H1 locs1 hP1 hD1 hS1 => ?_)
    have hP2 : va_P (dC, dI) clss (wld ad tc (pt S k j v)) H1 := by rw [← he]; exact hP1
    have hD2 : va_D A (wld ad tc (pt S k j v)) := by rw [← he]; exact hD1
    exact K H1 locs1 cells slots Qw ls C T hP2 hD2 hS1 hl
  · obtain ⟨q, hq, hj, hlk⟩ := fld_ok hcn hfl
    have hat := wld_at (ad := ad) (tc := tc) S shp23
    rw [show (9 : Nat) = 5 + 4 from rfl, cel_obj] at hat
    obtain ⟨hin, ⟨ty0, hty⟩, hnm⟩ := cls_ok 5 q hq
    have he : (wld ad tc S).set 23 (ad 23, .inr (5, (([some 1000, some 24, some 25, some 26, some 27, some 28, some 29, some 30, some 31, none, none, none] : List (Option Nat)).mapIdx (fv ad S 23)).set 0 (.ref (ad t)))) = wld ad tc (ptt S t) := wld_ptt shp23 (by
      rw [show (9 : Nat) = 5 + 4 from rfl, cel_obj, fv_ptt rfl]
      intro i hi
      match i, hi with
      | 1, _ | 2, _ | 3, _ | 4, _ | 5, _ | 6, _ | 7, _ | 8, _ | 9, _ | 10, _ | 11, _ => decide
      | k + 12, _ => simp)
    cases hq
    refine va_put (ty := .object "BoatNames$Telling") hx hb hts hin ty0 hty hnm hown hK hP hD hS 23 hat rfl 0 hj (hts _ hlk) (fun _ h9 => h9) rfl (by decide +kernel) rfl rfl (by rw [List.length_mapIdx]; decide) hd (fun H1 locs1 hP1 hD1 hS1 => ?_)
    have hP2 : va_P (dC, dI) clss (wld ad tc (ptt S t)) H1 := by rw [← he]; exact hP1
    have hD2 : va_D A (wld ad tc (ptt S t)) := by rw [← he]; exact hD1
    exact K H1 locs1 cells slots Qw ls C T hP2 hD2 hS1 hl
end
section
set_option maxHeartbeats 4000000 in
theorem ex1_ok {M : MI} {D : Nat} {sc : Option (Nat × (Nat → Int32))} {Q : Option Value → ST → Prop} {i : Instr} {pc : Nat} {lv : List (Nat × Value)} {st : List Value} {S : ST} {c' : CFG} (hf : fet M pc = some i) (h : ex1 M i pc lv st S = some c') (kk0 : BX M D sc Q c') : BX M D sc Q (pc, lv, st, S) := by
  intro p l e R s m args below meth c ad tc dC dI A H locs cells slots Qw ls C T hP hD hS hl
  have K := kk0 p l e R s m args below meth c ad tc dC dI A
  obtain ⟨hx, hb, hml, hown, hts, hK, hA, hR, ⟨hcn, hck, hN⟩, hsc⟩ := id C
  have hd := fet_1 hck hf
  cases i with
  | iconst v => cases h; exact lv_iconst hx hb (hd (Nat.succ_ne_zero _)) rfl (K H locs cells slots Qw ls C T hP hD hS hl)
  | bipush v => cases h; exact lv_bipush hx hb (hd (Nat.succ_ne_zero _)) rfl (K H locs cells slots Qw ls C T hP hD hS hl)
  | sipush v => cases h; exact lv_sipush hx hb (hd (Nat.succ_ne_zero _)) rfl (K H locs cells slots Qw ls C T hP hD hS hl)
  | lconst v => cases h; exact lv_lconst hx hb (hd (Nat.succ_ne_zero _)) rfl (K H locs cells slots Qw ls C T hP hD hS hl)
  | iload_n k =>
    obtain ⟨x, hk, rfl⟩ := ldi_inv h
    exact lv_iload_n hx hb (hd (Nat.succ_ne_zero _)) rfl (lv_look hl hk) (K H locs cells slots Qw ls C T hP hD hS hl)
  | iload k =>
    obtain ⟨x, hk, rfl⟩ := ldi_inv h
    exact lv_iload hx hb (hd (Nat.succ_ne_zero _)) (lv_look hl hk) (K H locs cells slots Qw ls C T hP hD hS hl)
  | lload_n k =>
    obtain ⟨x, hk, rfl⟩ := ldl_inv h
    exact lv_lload_n hx hb (hd (Nat.succ_ne_zero _)) rfl (lv_look hl hk) (K H locs cells slots Qw ls C T hP hD hS hl)
  | lload k =>
    obtain ⟨x, hk, rfl⟩ := ldl_inv h
    exact lv_lload hx hb (hd (Nat.succ_ne_zero _)) (lv_look hl hk) (K H locs cells slots Qw ls C T hP hD hS hl)
  | aload_n k =>
    obtain ⟨x, hk, rfl⟩ := lda_inv h
    exact lv_aload_n hx hb (hd (Nat.succ_ne_zero _)) rfl (lv_look hl hk) (K H locs cells slots Qw ls C T hP hD hS hl)
  | aload k =>
    obtain ⟨x, hk, rfl⟩ := lda_inv h
    exact lv_aload hx hb (hd (Nat.succ_ne_zero _)) (lv_look hl hk) (K H locs cells slots Qw ls C T hP hD hS hl)
  | istore_n k =>
    obtain ⟨x, r, rfl, hk, rfl⟩ := sti_inv h
    exact lv_istore_n hx hb (hd (Nat.succ_ne_zero _)) rfl hl hk rfl (fun ls' hl' => K H locs cells slots Qw ls' C T hP hD hS (lv_less hl' (sto_1 rfl)))
  | istore k =>
    obtain ⟨x, r, rfl, hk, rfl⟩ := sti_inv h
    exact lv_istore hx hb (hd (Nat.succ_ne_zero _)) hl hk rfl (fun ls' hl' => K H locs cells slots Qw ls' C T hP hD hS (lv_less hl' (sto_1 rfl)))
  | lstore_n k =>
    obtain ⟨x, r, rfl, hk, rfl⟩ := stl_inv h
    exact lv_lstore_n hx hb (hd (Nat.succ_ne_zero _)) rfl hl hk rfl (fun ls' hl' => K H locs cells slots Qw ls' C T hP hD hS (lv_less hl' (sto_2 rfl)))
  | lstore k =>
    obtain ⟨x, r, rfl, hk, rfl⟩ := stl_inv h
    exact lv_lstore hx hb (hd (Nat.succ_ne_zero _)) hl hk rfl (fun ls' hl' => K H locs cells slots Qw ls' C T hP hD hS (lv_less hl' (sto_2 rfl)))
  | astore_n k =>
    obtain ⟨x, r, rfl, hk, rfl⟩ := sta_inv h
    exact lv_astore_n hx hb (hd (Nat.succ_ne_zero _)) rfl hl hk rfl (fun ls' hl' => K H locs cells slots Qw ls' C T hP hD hS (lv_less hl' (sto_1 rfl)))
  | astore k =>
    obtain ⟨x, r, rfl, hk, rfl⟩ := sta_inv h
    exact lv_astore hx hb (hd (Nat.succ_ne_zero _)) hl hk rfl (fun ls' hl' => K H locs cells slots Qw ls' C T hP hD hS (lv_less hl' (sto_1 rfl)))
  | iinc k n =>
    obtain ⟨x, hk, hn, rfl⟩ := iic_inv h
    have hi := lv_look hl hk
    have h' : lv_has ls (mml M) ((k, Value.int x) :: lem ad lv) := ⟨hl.1, hl.2.1, fun q hq => by
      rcases List.mem_cons.mp hq with rfl | hq
      · exact hi
      · exact hl.2.2 q hq⟩
    refine lv_iinc (k := 0) hx hb (hd (Nat.succ_ne_zero _)) h' rfl rfl hn rfl (fun ls' hl' => K H locs cells slots Qw ls' C T hP hD hS ?_)
    refine lv_less hl' (fun q hq => ?_)
    rcases List.mem_cons.mp (sto_1 rfl q hq) with rfl | hq
    · exact List.mem_cons_self
    · obtain ⟨h1, h2⟩ := List.mem_filter.mp hq
      exact List.mem_cons_of_mem _ (List.mem_filter.mpr ⟨List.mem_cons_of_mem _ h1, h2⟩)
  | iadd =>
    obtain ⟨x, y, r, rfl, rfl⟩ := o2_inv h
    exact lv_iadd hx hb (hd (Nat.succ_ne_zero _)) (K H locs cells slots Qw ls C T hP hD hS hl)
  | isub =>
    obtain ⟨x, y, r, rfl, rfl⟩ := o2_inv h
    exact lv_isub hx hb (hd (Nat.succ_ne_zero _)) (K H locs cells slots Qw ls C T hP hD hS hl)
  | imul =>
    obtain ⟨x, y, r, rfl, rfl⟩ := o2_inv h
    exact lv_imul hx hb (hd (Nat.succ_ne_zero _)) (K H locs cells slots Qw ls C T hP hD hS hl)
  | iand =>
    obtain ⟨x, y, r, rfl, rfl⟩ := o2_inv h
    exact lv_iand hx hb (hd (Nat.succ_ne_zero _)) (K H locs cells slots Qw ls C T hP hD hS hl)
  | ior =>
    obtain ⟨x, y, r, rfl, rfl⟩ := o2_inv h
    exact lv_ior hx hb (hd (Nat.succ_ne_zero _)) (K H locs cells slots Qw ls C T hP hD hS hl)
  | ixor =>
    obtain ⟨x, y, r, rfl, rfl⟩ := o2_inv h
    exact lv_ixor hx hb (hd (Nat.succ_ne_zero _)) (K H locs cells slots Qw ls C T hP hD hS hl)
  | ishl =>
    obtain ⟨x, y, r, rfl, rfl⟩ := o2_inv h
    exact lv_ishl hx hb (hd (Nat.succ_ne_zero _)) (K H locs cells slots Qw ls C T hP hD hS hl)
  | ishr =>
    obtain ⟨x, y, r, rfl, rfl⟩ := o2_inv h
    exact lv_ishr hx hb (hd (Nat.succ_ne_zero _)) (K H locs cells slots Qw ls C T hP hD hS hl)
  | iushr =>
    obtain ⟨x, y, r, rfl, rfl⟩ := o2_inv h
    exact lv_iushr hx hb (hd (Nat.succ_ne_zero _)) rfl (K H locs cells slots Qw ls C T hP hD hS hl)
  | ineg =>
    obtain ⟨x, r, rfl, rfl⟩ := o1_inv h
    exact lv_ineg hx hb (hd (Nat.succ_ne_zero _)) (K H locs cells slots Qw ls C T hP hD hS hl)
  | i2b =>
    obtain ⟨x, r, rfl, rfl⟩ := o1_inv h
    exact lv_i2b hx hb (hd (Nat.succ_ne_zero _)) rfl (K H locs cells slots Qw ls C T hP hD hS hl)
  | i2s =>
    obtain ⟨x, r, rfl, rfl⟩ := o1_inv h
    exact lv_i2s hx hb (hd (Nat.succ_ne_zero _)) rfl (K H locs cells slots Qw ls C T hP hD hS hl)
  | ladd =>
    obtain ⟨x, y, r, rfl, rfl⟩ := l2_inv h
    exact lv_ladd hx hb (hd (Nat.succ_ne_zero _)) (K H locs cells slots Qw ls C T hP hD hS hl)
  | lsub =>
    obtain ⟨x, y, r, rfl, rfl⟩ := l2_inv h
    exact lv_lsub hx hb (hd (Nat.succ_ne_zero _)) (K H locs cells slots Qw ls C T hP hD hS hl)
  | lmul =>
    obtain ⟨x, y, r, rfl, rfl⟩ := l2_inv h
    exact lv_lmul hx hb (hd (Nat.succ_ne_zero _)) (K H locs cells slots Qw ls C T hP hD hS hl)
  | land =>
    obtain ⟨x, y, r, rfl, rfl⟩ := l2_inv h
    exact lv_land hx hb (hd (Nat.succ_ne_zero _)) (K H locs cells slots Qw ls C T hP hD hS hl)
  | lshl =>
    obtain ⟨x, y, r, rfl, rfl⟩ := s2_inv h
    exact lv_lshl hx hb (hd (Nat.succ_ne_zero _)) rfl (K H locs cells slots Qw ls C T hP hD hS hl)
  | lshr =>
    obtain ⟨x, y, r, rfl, rfl⟩ := s2_inv h
    exact lv_lshr hx hb (hd (Nat.succ_ne_zero _)) rfl (K H locs cells slots Qw ls C T hP hD hS hl)
  | getfield i => exact x_getfield hf h kk0 p l e R s m args below meth c ad tc dC dI A H locs cells slots Qw ls C T hP hD hS hl
  | putfield i => exact x_putfield hf h kk0 p l e R s m args below meth c ad tc dC dI A H locs cells slots Qw ls C T hP hD hS hl
  | goto off =>
    change gto off pc lv st S = some c' at h
    unfold gto at h
    split at h
    · rename_i h0
      cases h
      exact lv_goto hx hb (hd (Nat.succ_ne_zero _)) (Int.toNat_of_nonneg h0).symm (K H locs cells slots Qw ls C T hP hD hS hl)
    · cases h
  | dup =>
    obtain ⟨v, r, rfl, hv, rfl⟩ := dp1_inv h
    exact lv_dup hx hb (hd (Nat.succ_ne_zero _)) (by rw [em_cat]; exact hv) (K H locs cells slots Qw ls C T hP hD hS hl)
  | dup2 =>
    obtain ⟨v, w, r, rfl, hv, rfl⟩ := dp2_inv h
    exact lv_dup2_11 hx hb (hd (Nat.succ_ne_zero _)) (by rw [em_cat]; exact hv.1) (by rw [em_cat]; exact hv.2) (K H locs cells slots Qw ls C T hP hD hS hl)
  | i2l =>
    obtain ⟨x, r, rfl, rfl⟩ := wid_inv h
    exact lv_i2l hx hb (hd (Nat.succ_ne_zero _)) rfl (K H locs cells slots Qw ls C T hP hD hS hl)
  | lcmp =>
    obtain ⟨x, y, r, rfl, rfl⟩ := lcm_inv h
    exact W.lcmp hx hb (hd (Nat.succ_ne_zero _)) (K H locs cells slots Qw ls C T hP hD hS hl)
  | ldc k =>
    obtain ⟨v, hv, rfl⟩ := kci_inv h
    exact lv_ldc hx hb hown (hts _ (knI_ok hcn hv)) (hd (Nat.succ_ne_zero _)) (K H locs cells slots Qw ls C T hP hD hS hl)
  | ldc_w k =>
    obtain ⟨v, hv, rfl⟩ := kci_inv h
    exact lv_ldcw hx hb hown (hts _ (knI_ok hcn hv)) (hd (Nat.succ_ne_zero _)) (K H locs cells slots Qw ls C T hP hD hS hl)
  | ldc2_w k =>
    obtain ⟨v, hv, rfl⟩ := kcl_inv h
    exact lv_ldc2 hx hb hown (hts _ (knL_ok hcn hv)) (hd (Nat.succ_ne_zero _)) (K H locs cells slots Qw ls C T hP hD hS hl)
  | _ => cases h
/-- n simple steps in a row -/
def run (M : MI) : Nat → CFG → Option CFG
  | 0, c => some c
  | n + 1, (pc, lv, st, S) => match fet M pc with
    | some i => (match ex1 M i pc lv st S with
      | some c' => run M n c'
      | none => none)
    | none => none
theorem run_ok {M : MI} {D : Nat} {sc : Option (Nat × (Nat → Int32))} {Q : Option Value → ST → Prop} : ∀ (n : Nat) {c c' : CFG}, run M n c = some c' → BX M D sc Q c' → BX M D sc Q c := by
  intro n
  induction n with
  | zero => intro c c' h k; cases h; exact k
  | succ n ih =>
    intro c c' h k
    obtain ⟨pc, lv, st, S⟩ := c
    unfold run at h
    cases hf : fet M pc with
    | none => rw [hf] at h; cases h
    | some i =>
      rw [hf] at h
      dsimp only at h
      cases he : ex1 M i pc lv st S with
      | none => rw [he] at h; cases h
      | some c1 =>
        rw [he] at h
        exact ex1_ok hf he (ih h k)
end
section
/-! rows: branches, arrays, calls, returns -/
theorem x_icmp_lt {M : MI} {D : Nat} {sc : Option (Nat × (Nat → Int32))} {Q : Option Value → ST → Prop} {pc : Nat} {lv : List (Nat × Value)} {st : List Value} {S : ST} {x y : Int32} {off : Int} (tgt : Nat) (hf : fet M pc = some (.if_icmp .lt off)) (ht : (pc : Int) + off = (tgt : Int)) (kt : x < y → BX M D sc Q (tgt, lv, st, S)) (kf : ¬ x < y → BX M D sc Q (pc + 3, lv, st, S)) : BX M D sc Q (pc, lv, .int y :: .int x :: st, S) := by
  intro p l e R s m args below meth c ad tc dC dI A H locs cells slots Qw ls C T hP hD hS hl
  obtain ⟨hx, hb, hml, hown, hts, hK, hA, hR, ⟨hcn, hck, hN⟩, hsc⟩ := id C
  have hd := fet_1 hck hf (Nat.succ_ne_zero _)
  exact lv_icmp_lt hx hb hd ht (fun q => kt q p l e R s m args below meth c ad tc dC dI A H locs cells slots Qw ls C T hP hD hS hl) (fun q => kf q p l e R s m args below meth c ad tc dC dI A H locs cells slots Qw ls C T hP hD hS hl)
theorem x_icmp_ge {M : MI} {D : Nat} {sc : Option (Nat × (Nat → Int32))} {Q : Option Value → ST → Prop} {pc : Nat} {lv : List (Nat × Value)} {st : List Value} {S : ST} {x y : Int32} {off : Int} (tgt : Nat) (hf : fet M pc = some (.if_icmp .ge off)) (ht : (pc : Int) + off = (tgt : Int)) (kt : y ≤ x → BX M D sc Q (tgt, lv, st, S)) (kf : ¬ y ≤ x → BX M D sc Q (pc + 3, lv, st, S)) : BX M D sc Q (pc, lv, .int y :: .int x :: st, S) := by
  intro p l e R s m args below meth c ad tc dC dI A H locs cells slots Qw ls C T hP hD hS hl
  obtain ⟨hx, hb, hml, hown, hts, hK, hA, hR, ⟨hcn, hck, hN⟩, hsc⟩ := id C
  have hd := fet_1 hck hf (Nat.succ_ne_zero _)
  exact lv_icmp_ge hx hb hd ht (fun q => kt q p l e R s m args below meth c ad tc dC dI A H locs cells slots Qw ls C T hP hD hS hl) (fun q => kf q p l e R s m args below meth c ad tc dC dI A H locs cells slots Qw ls C T hP hD hS hl)
theorem x_icmp_gt {M : MI} {D : Nat} {sc : Option (Nat × (Nat → Int32))} {Q : Option Value → ST → Prop} {pc : Nat} {lv : List (Nat × Value)} {st : List Value} {S : ST} {x y : Int32} {off : Int} (tgt : Nat) (hf : fet M pc = some (.if_icmp .gt off)) (ht : (pc : Int) + off = (tgt : Int)) (kt : y < x → BX M D sc Q (tgt, lv, st, S)) (kf : ¬ y < x → BX M D sc Q (pc + 3, lv, st, S)) : BX M D sc Q (pc, lv, .int y :: .int x :: st, S) := by
  intro p l e R s m args below meth c ad tc dC dI A H locs cells slots Qw ls C T hP hD hS hl
  obtain ⟨hx, hb, hml, hown, hts, hK, hA, hR, ⟨hcn, hck, hN⟩, hsc⟩ := id C
  have hd := fet_1 hck hf (Nat.succ_ne_zero _)
  exact lv_icmp_gt hx hb hd ht (fun q => kt q p l e R s m args below meth c ad tc dC dI A H locs cells slots Qw ls C T hP hD hS hl) (fun q => kf q p l e R s m args below meth c ad tc dC dI A H locs cells slots Qw ls C T hP hD hS hl)
theorem x_icmp_le {M : MI} {D : Nat} {sc : Option (Nat × (Nat → Int32))} {Q : Option Value → ST → Prop} {pc : Nat} {lv : List (Nat × Value)} {st : List Value} {S : ST} {x y : Int32} {off : Int} (tgt : Nat) (hf : fet M pc = some (.if_icmp .le off)) (ht : (pc : Int) + off = (tgt : Int)) (kt : x ≤ y → BX M D sc Q (tgt, lv, st, S)) (kf : ¬ x ≤ y → BX M D sc Q (pc + 3, lv, st, S)) : BX M D sc Q (pc, lv, .int y :: .int x :: st, S) := by
  intro p l e R s m args below meth c ad tc dC dI A H locs cells slots Qw ls C T hP hD hS hl
  obtain ⟨hx, hb, hml, hown, hts, hK, hA, hR, ⟨hcn, hck, hN⟩, hsc⟩ := id C
  have hd := fet_1 hck hf (Nat.succ_ne_zero _)
  exact lv_icmp_le hx hb hd ht (fun q => kt q p l e R s m args below meth c ad tc dC dI A H locs cells slots Qw ls C T hP hD hS hl) (fun q => kf q p l e R s m args below meth c ad tc dC dI A H locs cells slots Qw ls C T hP hD hS hl)
theorem x_icmp_eq {M : MI} {D : Nat} {sc : Option (Nat × (Nat → Int32))} {Q : Option Value → ST → Prop} {pc : Nat} {lv : List (Nat × Value)} {st : List Value} {S : ST} {x y : Int32} {off : Int} (tgt : Nat) (hf : fet M pc = some (.if_icmp .eq off)) (ht : (pc : Int) + off = (tgt : Int)) (kt : x = y → BX M D sc Q (tgt, lv, st, S)) (kf : ¬ x = y → BX M D sc Q (pc + 3, lv, st, S)) : BX M D sc Q (pc, lv, .int y :: .int x :: st, S) := by
  intro p l e R s m args below meth c ad tc dC dI A H locs cells slots Qw ls C T hP hD hS hl
  obtain ⟨hx, hb, hml, hown, hts, hK, hA, hR, ⟨hcn, hck, hN⟩, hsc⟩ := id C
  have hd := fet_1 hck hf (Nat.succ_ne_zero _)
  exact lv_icmp_eq hx hb hd ht (fun q => kt q p l e R s m args below meth c ad tc dC dI A H locs cells slots Qw ls C T hP hD hS hl) (fun q => kf q p l e R s m args below meth c ad tc dC dI A H locs cells slots Qw ls C T hP hD hS hl)
theorem x_icmp_ne {M : MI} {D : Nat} {sc : Option (Nat × (Nat → Int32))} {Q : Option Value → ST → Prop} {pc : Nat} {lv : List (Nat × Value)} {st : List Value} {S : ST} {x y : Int32} {off : Int} (tgt : Nat) (hf : fet M pc = some (.if_icmp .ne off)) (ht : (pc : Int) + off = (tgt : Int)) (kt : ¬ x = y → BX M D sc Q (tgt, lv, st, S)) (kf : x = y → BX M D sc Q (pc + 3, lv, st, S)) : BX M D sc Q (pc, lv, .int y :: .int x :: st, S) := by
  intro p l e R s m args below meth c ad tc dC dI A H locs cells slots Qw ls C T hP hD hS hl
  obtain ⟨hx, hb, hml, hown, hts, hK, hA, hR, ⟨hcn, hck, hN⟩, hsc⟩ := id C
  have hd := fet_1 hck hf (Nat.succ_ne_zero _)
  exact lv_icmp_ne hx hb hd ht (fun q => kt q p l e R s m args below meth c ad tc dC dI A H locs cells slots Qw ls C T hP hD hS hl) (fun q => kf q p l e R s m args below meth c ad tc dC dI A H locs cells slots Qw ls C T hP hD hS hl)
theorem x_if_lt {M : MI} {D : Nat} {sc : Option (Nat × (Nat → Int32))} {Q : Option Value → ST → Prop} {pc : Nat} {lv : List (Nat × Value)} {st : List Value} {S : ST} {x : Int32} {off : Int} (tgt : Nat) (hf : fet M pc = some (.ifCond .lt off)) (ht : (pc : Int) + off = (tgt : Int)) (kt : x < 0 → BX M D sc Q (tgt, lv, st, S)) (kf : ¬ x < 0 → BX M D sc Q (pc + 3, lv, st, S)) : BX M D sc Q (pc, lv, .int x :: st, S) := by
  intro p l e R s m args below meth c ad tc dC dI A H locs cells slots Qw ls C T hP hD hS hl
  obtain ⟨hx, hb, hml, hown, hts, hK, hA, hR, ⟨hcn, hck, hN⟩, hsc⟩ := id C
  have hd := fet_1 hck hf (Nat.succ_ne_zero _)
  exact lv_if_lt hx hb hd ht (fun q => kt q p l e R s m args below meth c ad tc dC dI A H locs cells slots Qw ls C T hP hD hS hl) (fun q => kf q p l e R s m args below meth c ad tc dC dI A H locs cells slots Qw ls C T hP hD hS hl)
theorem x_if_ge {M : MI} {D : Nat} {sc : Option (Nat × (Nat → Int32))} {Q : Option Value → ST → Prop} {pc : Nat} {lv : List (Nat × Value)} {st : List Value} {S : ST} {x : Int32} {off : Int} (tgt : Nat) (hf : fet M pc = some (.ifCond .ge off)) (ht : (pc : Int) + off = (tgt : Int)) (kt : 0 ≤ x → BX M D sc Q (tgt, lv, st, S)) (kf : ¬ 0 ≤ x → BX M D sc Q (pc + 3, lv, st, S)) : BX M D sc Q (pc, lv, .int x :: st, S) := by
  intro p l e R s m args below meth c ad tc dC dI A H locs cells slots Qw ls C T hP hD hS hl
  obtain ⟨hx, hb, hml, hown, hts, hK, hA, hR, ⟨hcn, hck, hN⟩, hsc⟩ := id C
  have hd := fet_1 hck hf (Nat.succ_ne_zero _)
  exact lv_if_ge hx hb hd ht (fun q => kt q p l e R s m args below meth c ad tc dC dI A H locs cells slots Qw ls C T hP hD hS hl) (fun q => kf q p l e R s m args below meth c ad tc dC dI A H locs cells slots Qw ls C T hP hD hS hl)
theorem x_if_gt {M : MI} {D : Nat} {sc : Option (Nat × (Nat → Int32))} {Q : Option Value → ST → Prop} {pc : Nat} {lv : List (Nat × Value)} {st : List Value} {S : ST} {x : Int32} {off : Int} (tgt : Nat) (hf : fet M pc = some (.ifCond .gt off)) (ht : (pc : Int) + off = (tgt : Int)) (kt : 0 < x → BX M D sc Q (tgt, lv, st, S)) (kf : ¬ 0 < x → BX M D sc Q (pc + 3, lv, st, S)) : BX M D sc Q (pc, lv, .int x :: st, S) := by
  intro p l e R s m args below meth c ad tc dC dI A H locs cells slots Qw ls C T hP hD hS hl
  obtain ⟨hx, hb, hml, hown, hts, hK, hA, hR, ⟨hcn, hck, hN⟩, hsc⟩ := id C
  have hd := fet_1 hck hf (Nat.succ_ne_zero _)
  exact lv_if_gt hx hb hd ht (fun q => kt q p l e R s m args below meth c ad tc dC dI A H locs cells slots Qw ls C T hP hD hS hl) (fun q => kf q p l e R s m args below meth c ad tc dC dI A H locs cells slots Qw ls C T hP hD hS hl)
theorem x_if_le {M : MI} {D : Nat} {sc : Option (Nat × (Nat → Int32))} {Q : Option Value → ST → Prop} {pc : Nat} {lv : List (Nat × Value)} {st : List Value} {S : ST} {x : Int32} {off : Int} (tgt : Nat) (hf : fet M pc = some (.ifCond .le off)) (ht : (pc : Int) + off = (tgt : Int)) (kt : x ≤ 0 → BX M D sc Q (tgt, lv, st, S)) (kf : ¬ x ≤ 0 → BX M D sc Q (pc + 3, lv, st, S)) : BX M D sc Q (pc, lv, .int x :: st, S) := by
  intro p l e R s m args below meth c ad tc dC dI A H locs cells slots Qw ls C T hP hD hS hl
  obtain ⟨hx, hb, hml, hown, hts, hK, hA, hR, ⟨hcn, hck, hN⟩, hsc⟩ := id C
  have hd := fet_1 hck hf (Nat.succ_ne_zero _)
  exact lv_if_le hx hb hd ht (fun q => kt q p l e R s m args below meth c ad tc dC dI A H locs cells slots Qw ls C T hP hD hS hl) (fun q => kf q p l e R s m args below meth c ad tc dC dI A H locs cells slots Qw ls C T hP hD hS hl)
theorem x_if_eq {M : MI} {D : Nat} {sc : Option (Nat × (Nat → Int32))} {Q : Option Value → ST → Prop} {pc : Nat} {lv : List (Nat × Value)} {st : List Value} {S : ST} {x : Int32} {off : Int} (tgt : Nat) (hf : fet M pc = some (.ifCond .eq off)) (ht : (pc : Int) + off = (tgt : Int)) (kt : x = 0 → BX M D sc Q (tgt, lv, st, S)) (kf : ¬ x = 0 → BX M D sc Q (pc + 3, lv, st, S)) : BX M D sc Q (pc, lv, .int x :: st, S) := by
  intro p l e R s m args below meth c ad tc dC dI A H locs cells slots Qw ls C T hP hD hS hl
  obtain ⟨hx, hb, hml, hown, hts, hK, hA, hR, ⟨hcn, hck, hN⟩, hsc⟩ := id C
  have hd := fet_1 hck hf (Nat.succ_ne_zero _)
  exact lv_if_eq hx hb hd ht (fun q => kt q p l e R s m args below meth c ad tc dC dI A H locs cells slots Qw ls C T hP hD hS hl) (fun q => kf q p l e R s m args below meth c ad tc dC dI A H locs cells slots Qw ls C T hP hD hS hl)
theorem x_if_ne {M : MI} {D : Nat} {sc : Option (Nat × (Nat → Int32))} {Q : Option Value → ST → Prop} {pc : Nat} {lv : List (Nat × Value)} {st : List Value} {S : ST} {x : Int32} {off : Int} (tgt : Nat) (hf : fet M pc = some (.ifCond .ne off)) (ht : (pc : Int) + off = (tgt : Int)) (kt : ¬ x = 0 → BX M D sc Q (tgt, lv, st, S)) (kf : x = 0 → BX M D sc Q (pc + 3, lv, st, S)) : BX M D sc Q (pc, lv, .int x :: st, S) := by
  intro p l e R s m args below meth c ad tc dC dI A H locs cells slots Qw ls C T hP hD hS hl
  obtain ⟨hx, hb, hml, hown, hts, hK, hA, hR, ⟨hcn, hck, hN⟩, hsc⟩ := id C
  have hd := fet_1 hck hf (Nat.succ_ne_zero _)
  exact lv_if_ne hx hb hd ht (fun q => kt q p l e R s m args below meth c ad tc dC dI A H locs cells slots Qw ls C T hP hD hS hl) (fun q => kf q p l e R s m args below meth c ad tc dC dI A H locs cells slots Qw ls C T hP hD hS hl)
theorem x_iald {M : MI} {D : Nat} {sc : Option (Nat × (Nat → Int32))} {Q : Option Value → ST → Prop} {pc : Nat} {lv : List (Nat × Value)} {st : List Value} {S : ST} {k n : Nat} {fl : List (Option Nat)} {x : Int32} (hf : fet M pc = some .iaload) (hk : shp[k]? = some (0, n, fl)) (hin : vp_in x n) (kk : BX M D sc Q (pc + 1, lv, .int (S.1 k x.toNatClampNeg) :: st, S)) : BX M D sc Q (pc, lv, .int x :: .ref k :: st, S) := by
  intro p l e R s m args below meth c ad tc dC dI A H locs cells slots Qw ls C T hP hD hS hl
  obtain ⟨hx, hb, hml, hown, hts, hK, hA, hR, ⟨hcn, hck, hN⟩, hsc⟩ := id C
  have hd := fet_1 hck hf (Nat.succ_ne_zero _)
  exact va_iald hx hb hK hP k 0 (wld_at (ad := ad) (tc := tc) S hk) rfl hin hd (kk p l e R s m args below meth c ad tc dC dI A H locs cells slots Qw ls C T hP hD hS hl)
theorem x_zald {M : MI} {D : Nat} {sc : Option (Nat × (Nat → Int32))} {Q : Option Value → ST → Prop} {pc : Nat} {lv : List (Nat × Value)} {st : List Value} {S : ST} {k n : Nat} {fl : List (Option Nat)} {x : Int32} (hf : fet M pc = some .baload) (hk : shp[k]? = some (2, n, fl)) (hin : vp_in x n) (kk : BX M D sc Q (pc + 1, lv, .int (S.1 k x.toNatClampNeg) :: st, S)) : BX M D sc Q (pc, lv, .int x :: .ref k :: st, S) := by
  intro p l e R s m args below meth c ad tc dC dI A H locs cells slots Qw ls C T hP hD hS hl
  obtain ⟨hx, hb, hml, hown, hts, hK, hA, hR, ⟨hcn, hck, hN⟩, hsc⟩ := id C
  have hd := fet_1 hck hf (Nat.succ_ne_zero _)
  exact va_zald hx hb hK hP k 2 (wld_at (ad := ad) (tc := tc) S hk) rfl hin hd (kk p l e R s m args below meth c ad tc dC dI A H locs cells slots Qw ls C T hP hD hS hl)
theorem x_lald {M : MI} {D : Nat} {sc : Option (Nat × (Nat → Int32))} {Q : Option Value → ST → Prop} {pc : Nat} {lv : List (Nat × Value)} {st : List Value} {S : ST} {n : Nat} {fl : List (Option Nat)} {x : Int32} (hf : fet M pc = some .laload) (hk : shp[46]? = some (1, n, fl)) (hin : vp_in x n) (kk : BX M D sc Q (pc + 1, lv, .long (S.2.1 x.toNatClampNeg) :: st, S)) : BX M D sc Q (pc, lv, .int x :: .ref 46 :: st, S) := by
  intro p l e R s m args below meth c ad tc dC dI A H locs cells slots Qw ls C T hP hD hS hl
  obtain ⟨hx, hb, hml, hown, hts, hK, hA, hR, ⟨hcn, hck, hN⟩, hsc⟩ := id C
  have hd := fet_1 hck hf (Nat.succ_ne_zero _)
  exact va_lald hx hb hK hP 46 1 (wld_at (ad := ad) (tc := tc) S hk) rfl hin hd (kk p l e R s m args below meth c ad tc dC dI A H locs cells slots Qw ls C T hP hD hS hl)
theorem x_aald {M : MI} {D : Nat} {sc : Option (Nat × (Nat → Int32))} {Q : Option Value → ST → Prop} {pc : Nat} {lv : List (Nat × Value)} {st : List Value} {S : ST} {k n t : Nat} {fl : List (Option Nat)} {x : Int32} (hf : fet M pc = some .aaload) (hk : shp[k]? = some (3, n, fl)) (hin : vp_in x n) (hv : fl.getD x.toNatClampNeg none = some t) (kk : BX M D sc Q (pc + 1, lv, .ref t :: st, S)) : BX M D sc Q (pc, lv, .int x :: .ref k :: st, S) := by
  intro p l e R s m args below meth c ad tc dC dI A H locs cells slots Qw ls C T hP hD hS hl
  obtain ⟨hx, hb, hml, hown, hts, hK, hA, hR, ⟨hcn, hck, hN⟩, hsc⟩ := id C
  have hd := fet_1 hck hf (Nat.succ_ne_zero _)
  refine va_aldq hx hb hK hP k 3 (wld_at (ad := ad) (tc := tc) S hk) rfl hin hd ?_
  dsimp only
  rw [hv]
  exact kk p l e R s m args below meth c ad tc dC dI A H locs cells slots Qw ls C T hP hD hS hl
theorem x_iast {M : MI} {D : Nat} {sc : Option (Nat × (Nat → Int32))} {Q : Option Value → ST → Prop} {pc : Nat} {lv : List (Nat × Value)} {st : List Value} {S : ST} {k n : Nat} {fl : List (Option Nat)} {x v : Int32} (hf : fet M pc = some .iastore) (hk : shp[k]? = some (0, n, fl)) (hin : vp_in x n) (kk : BX M D sc Q (pc + 1, lv, st, pt S k x.toNatClampNeg v)) : BX M D sc Q (pc, lv, .int v :: .int x :: .ref k :: st, S) := by
  intro p l e R s m args below meth c ad tc dC dI A H locs cells slots Qw ls C T hP hD hS hl
  obtain ⟨hx, hb, hml, hown, hts, hK, hA, hR, ⟨hcn, hck, hN⟩, hsc⟩ := id C
  have hd := fet_1 hck hf (Nat.succ_ne_zero _)
  have he : (wld ad tc S).set k (ad k, .inl (tc 0, n, .inl (upd (S.1 k) x.toNatClampNeg v))) = wld ad tc (pt S k x.toNatClampNeg v) := wld_pt hk (by show (Sum.inl (tc 0, n, Sum.inl ((pt S k x.toNatClampNeg v).1 k)) : va_E) = _; rw [pt_at])
  refine va_iast hx hb hK hP hD hS k 0 (wld_at (ad := ad) (tc := tc) S hk) rfl hin hd (fun H1 locs1 hP1 hD1 hS1 => ?_)
  have hP2 : va_P (dC, dI) clss (wld ad tc (pt S k x.toNatClampNeg v)) H1 := by rw [← he]; exact hP1
  have hD2 : va_D A (wld ad tc (pt S k x.toNatClampNeg v)) := by rw [← he]; exact hD1
  exact kk p l e R s m args below meth c ad tc dC dI A H1 locs1 cells slots Qw ls C T hP2 hD2 hS1 hl
theorem x_zast {M : MI} {D : Nat} {sc : Option (Nat × (Nat → Int32))} {Q : Option Value → ST → Prop} {pc : Nat} {lv : List (Nat × Value)} {st : List Value} {S : ST} {k n : Nat} {fl : List (Option Nat)} {x v : Int32} (hf : fet M pc = some .bastore) (hk : shp[k]? = some (2, n, fl)) (hin : vp_in x n) (hz : vp_nar .boolean v = v) (kk : BX M D sc Q (pc + 1, lv, st, pt S k x.toNatClampNeg v)) : BX M D sc Q (pc, lv, .int v :: .int x :: .ref k :: st, S) := by
  intro p l e R s m args below meth c ad tc dC dI A H locs cells slots Qw ls C T hP hD hS hl
  obtain ⟨hx, hb, hml, hown, hts, hK, hA, hR, ⟨hcn, hck, hN⟩, hsc⟩ := id C
  have hd := fet_1 hck hf (Nat.succ_ne_zero _)
  have he : (wld ad tc S).set k (ad k, .inl (tc 2, n, .inl (upd (S.1 k) x.toNatClampNeg v))) = wld ad tc (pt S k x.toNatClampNeg v) := wld_pt hk (by show (Sum.inl (tc 2, n, Sum.inl ((pt S k x.toNatClampNeg v).1 k)) : va_E) = _; rw [pt_at])
  refine va_zast hx hb hK hP hD hS k 2 (wld_at (ad := ad) (tc := tc) S hk) rfl hin hd (fun H1 locs1 hP1 hD1 hS1 => ?_)
  rw [hz] at hP1 hD1
  have hP2 : va_P (dC, dI) clss (wld ad tc (pt S k x.toNatClampNeg v)) H1 := by rw [← he]; exact hP1
  have hD2 : va_D A (wld ad tc (pt S k x.toNatClampNeg v)) := by rw [← he]; exact hD1
  exact kk p l e R s m args below meth c ad tc dC dI A H1 locs1 cells slots Qw ls C T hP2 hD2 hS1 hl
theorem x_last {M : MI} {D : Nat} {sc : Option (Nat × (Nat → Int32))} {Q : Option Value → ST → Prop} {pc : Nat} {lv : List (Nat × Value)} {st : List Value} {S : ST} {n : Nat} {fl : List (Option Nat)} {x : Int32} {v : Int64} (hf : fet M pc = some .lastore) (hk : shp[46]? = some (1, n, fl)) (hin : vp_in x n) (kk : BX M D sc Q (pc + 1, lv, st, ptl S x.toNatClampNeg v)) : BX M D sc Q (pc, lv, .long v :: .int x :: .ref 46 :: st, S) := by
  intro p l e R s m args below meth c ad tc dC dI A H locs cells slots Qw ls C T hP hD hS hl
  obtain ⟨hx, hb, hml, hown, hts, hK, hA, hR, ⟨hcn, hck, hN⟩, hsc⟩ := id C
  have hd := fet_1 hck hf (Nat.succ_ne_zero _)
  have he : (wld ad tc S).set 46 (ad 46, .inl (tc 1, n, .inr (.inl (vp_updL S.2.1 x.toNatClampNeg v)))) = wld ad tc (ptl S x.toNatClampNeg v) := wld_ptl hk rfl
  refine va_last hx hb hK hP hD hS 46 1 (wld_at (ad := ad) (tc := tc) S hk) rfl hin hd (fun H1 locs1 hP1 hD1 hS1 => ?_)
  have hP2 : va_P (dC, dI) clss (wld ad tc (ptl S x.toNatClampNeg v)) H1 := by rw [← he]; exact hP1
  have hD2 : va_D A (wld ad tc (ptl S x.toNatClampNeg v)) := by rw [← he]; exact hD1
  exact kk p l e R s m args below meth c ad tc dC dI A H1 locs1 cells slots Qw ls C T hP2 hD2 hS1 hl
theorem x_alen0 {M : MI} {D : Nat} {sc : Option (Nat × (Nat → Int32))} {Q : Option Value → ST → Prop} {pc : Nat} {lv : List (Nat × Value)} {st : List Value} {S : ST} {k n : Nat} {fl : List (Option Nat)} (hf : fet M pc = some .arraylength) (hk : shp[k]? = some (0, n, fl)) (kk : BX M D sc Q (pc + 1, lv, .int (nI n) :: st, S)) : BX M D sc Q (pc, lv, .ref k :: st, S) := by
  intro p l e R s m args below meth c ad tc dC dI A H locs cells slots Qw ls C T hP hD hS hl
  obtain ⟨hx, hb, hml, hown, hts, hK, hA, hR, ⟨hcn, hck, hN⟩, hsc⟩ := id C
  have hd := fet_1 hck hf (Nat.succ_ne_zero _)
  exact va_alen hx hb hK hP k 0 (wld_at (ad := ad) (tc := tc) S hk) rfl rfl hd (kk p l e R s m args below meth c ad tc dC dI A H locs cells slots Qw ls C T hP hD hS hl)
theorem x_alen1 {M : MI} {D : Nat} {sc : Option (Nat × (Nat → Int32))} {Q : Option Value → ST → Prop} {pc : Nat} {lv : List (Nat × Value)} {st : List Value} {S : ST} {k n : Nat} {fl : List (Option Nat)} (hf : fet M pc = some .arraylength) (hk : shp[k]? = some (1, n, fl)) (kk : BX M D sc Q (pc + 1, lv, .int (nI n) :: st, S)) : BX M D sc Q (pc, lv, .ref k :: st, S) := by
  intro p l e R s m args below meth c ad tc dC dI A H locs cells slots Qw ls C T hP hD hS hl
  obtain ⟨hx, hb, hml, hown, hts, hK, hA, hR, ⟨hcn, hck, hN⟩, hsc⟩ := id C
  have hd := fet_1 hck hf (Nat.succ_ne_zero _)
  exact va_alen hx hb hK hP k 1 (wld_at (ad := ad) (tc := tc) S hk) rfl rfl hd (kk p l e R s m args below meth c ad tc dC dI A H locs cells slots Qw ls C T hP hD hS hl)
theorem x_sld {M : MI} {D : Nat} {L : Nat} {xs : Nat → Int32} {Q : Option Value → ST → Prop} {pc : Nat} {lv : List (Nat × Value)} {st : List Value} {S : ST} {x : Int32} (hf : fet M pc = some .iaload) (hin : vp_in x L) (kk : BX M D (some (L, xs)) Q (pc + 1, lv, .int (xs x.toNatClampNeg) :: st, S)) : BX M D (some (L, xs)) Q (pc, lv, .int x :: .ref 999 :: st, S) := by
  intro p l e R s m args below meth c ad tc dC dI A H locs cells slots Qw ls C T hP hD hS hl
  obtain ⟨hx, hb, hml, hown, hts, hK, hA, hR, ⟨hcn, hck, hN⟩, hsc⟩ := id C
  have hd := fet_1 hck hf (Nat.succ_ne_zero _)
  obtain ⟨hX, hbl, hbA⟩ := hsc L xs rfl
  exact va_sld hx hb hX hbl hbA hS hin hd (kk p l e R s m args below meth c ad tc dC dI A H locs cells slots Qw ls C T hP hD hS hl)
theorem x_slen {M : MI} {D : Nat} {L : Nat} {xs : Nat → Int32} {Q : Option Value → ST → Prop} {pc : Nat} {lv : List (Nat × Value)} {st : List Value} {S : ST} (hf : fet M pc = some .arraylength) (kk : BX M D (some (L, xs)) Q (pc + 1, lv, .int (nI L) :: st, S)) : BX M D (some (L, xs)) Q (pc, lv, .ref 999 :: st, S) := by
  intro p l e R s m args below meth c ad tc dC dI A H locs cells slots Qw ls C T hP hD hS hl
  obtain ⟨hx, hb, hml, hown, hts, hK, hA, hR, ⟨hcn, hck, hN⟩, hsc⟩ := id C
  have hd := fet_1 hck hf (Nat.succ_ne_zero _)
  obtain ⟨hX, hbl, hbA⟩ := hsc L xs rfl
  exact va_slen hx hb hX hbl hbA hS hd (kk p l e R s m args below meth c ad tc dC dI A H locs cells slots Qw ls C T hP hD hS hl)
theorem x_idiv {M : MI} {D : Nat} {sc : Option (Nat × (Nat → Int32))} {Q : Option Value → ST → Prop} {pc : Nat} {lv : List (Nat × Value)} {st : List Value} {S : ST} {x y : Int32} (hf : fet M pc = some .idiv) (hne : ¬ y = 0) (kk : BX M D sc Q (pc + 1, lv, .int (x / y) :: st, S)) : BX M D sc Q (pc, lv, .int y :: .int x :: st, S) := by
  intro p l e R s m args below meth c ad tc dC dI A H locs cells slots Qw ls C T hP hD hS hl
  obtain ⟨hx, hb, hml, hown, hts, hK, hA, hR, ⟨hcn, hck, hN⟩, hsc⟩ := id C
  have hd := fet_1 hck hf (Nat.succ_ne_zero _)
  exact lv_idiv hx hb hd hne (kk p l e R s m args below meth c ad tc dC dI A H locs cells slots Qw ls C T hP hD hS hl)
theorem x_irem {M : MI} {D : Nat} {sc : Option (Nat × (Nat → Int32))} {Q : Option Value → ST → Prop} {pc : Nat} {lv : List (Nat × Value)} {st : List Value} {S : ST} {x y : Int32} (hf : fet M pc = some .irem) (hne : ¬ y = 0) (kk : BX M D sc Q (pc + 1, lv, .int (x - x / y * y) :: st, S)) : BX M D sc Q (pc, lv, .int y :: .int x :: st, S) := by
  intro p l e R s m args below meth c ad tc dC dI A H locs cells slots Qw ls C T hP hD hS hl
  obtain ⟨hx, hb, hml, hown, hts, hK, hA, hR, ⟨hcn, hck, hN⟩, hsc⟩ := id C
  have hd := fet_1 hck hf (Nat.succ_ne_zero _)
  exact lv_irem hx hb hd hne (kk p l e R s m args below meth c ad tc dC dI A H locs cells slots Qw ls C T hP hD hS hl)
theorem x_ldiv {M : MI} {D : Nat} {sc : Option (Nat × (Nat → Int32))} {Q : Option Value → ST → Prop} {pc : Nat} {lv : List (Nat × Value)} {st : List Value} {S : ST} {x y : Int64} (hf : fet M pc = some .ldiv) (hne : ¬ y = 0) (kk : BX M D sc Q (pc + 1, lv, .long (x / y) :: st, S)) : BX M D sc Q (pc, lv, .long y :: .long x :: st, S) := by
  intro p l e R s m args below meth c ad tc dC dI A H locs cells slots Qw ls C T hP hD hS hl
  obtain ⟨hx, hb, hml, hown, hts, hK, hA, hR, ⟨hcn, hck, hN⟩, hsc⟩ := id C
  have hd := fet_1 hck hf (Nat.succ_ne_zero _)
  exact lv_ldiv hx hb hd hne (kk p l e R s m args below meth c ad tc dC dI A H locs cells slots Qw ls C T hP hD hS hl)
theorem x_lrem {M : MI} {D : Nat} {sc : Option (Nat × (Nat → Int32))} {Q : Option Value → ST → Prop} {pc : Nat} {lv : List (Nat × Value)} {st : List Value} {S : ST} {x y : Int64} (hf : fet M pc = some .lrem) (hne : ¬ y = 0) (kk : BX M D sc Q (pc + 1, lv, .long (x - x / y * y) :: st, S)) : BX M D sc Q (pc, lv, .long y :: .long x :: st, S) := by
  intro p l e R s m args below meth c ad tc dC dI A H locs cells slots Qw ls C T hP hD hS hl
  obtain ⟨hx, hb, hml, hown, hts, hK, hA, hR, ⟨hcn, hck, hN⟩, hsc⟩ := id C
  have hd := fet_1 hck hf (Nat.succ_ne_zero _)
  exact lv_lrem hx hb hd hne (kk p l e R s m args below meth c ad tc dC dI A H locs cells slots Qw ls C T hP hD hS hl)
theorem x_tabIn {M : MI} {D : Nat} {sc : Option (Nat × (Nat → Int32))} {Q : Option Value → ST → Prop} {pc : Nat} {lv : List (Nat × Value)} {st : List Value} {S : ST} {dflt lo hi : Int} {offs : Array Int} {x : Int32} {off : Int} (tgt : Nat) (hf : fet M pc = some (.tableswitch dflt lo hi offs)) (h1 : ¬ x.toInt < lo) (h2 : ¬ hi < x.toInt) (ho : offs[(x.toInt - lo).toNat]? = some off) (ht : (pc : Int) + off = (tgt : Int)) (kk : BX M D sc Q (tgt, lv, st, S)) : BX M D sc Q (pc, lv, .int x :: st, S) := by
  intro p l e R s m args below meth c ad tc dC dI A H locs cells slots Qw ls C T hP hD hS hl
  obtain ⟨hx, hb, hml, hown, hts, hK, hA, hR, ⟨hcn, hck, hN⟩, hsc⟩ := id C
  obtain ⟨n, hd, -⟩ := fet_ok hck hf
  exact lv_tableIn hx hb hd h1 h2 ho ht (kk p l e R s m args below meth c ad tc dC dI A H locs cells slots Qw ls C T hP hD hS hl)
theorem x_tabOut {M : MI} {D : Nat} {sc : Option (Nat × (Nat → Int32))} {Q : Option Value → ST → Prop} {pc : Nat} {lv : List (Nat × Value)} {st : List Value} {S : ST} {dflt lo hi : Int} {offs : Array Int} {x : Int32} (tgt : Nat) (hf : fet M pc = some (.tableswitch dflt lo hi offs)) (h1 : x.toInt < lo ∨ hi < x.toInt) (ht : (pc : Int) + dflt = (tgt : Int)) (kk : BX M D sc Q (tgt, lv, st, S)) : BX M D sc Q (pc, lv, .int x :: st, S) := by
  intro p l e R s m args below meth c ad tc dC dI A H locs cells slots Qw ls C T hP hD hS hl
  obtain ⟨hx, hb, hml, hown, hts, hK, hA, hR, ⟨hcn, hck, hN⟩, hsc⟩ := id C
  obtain ⟨n, hd, -⟩ := fet_ok hck hf
  exact lv_tableOut hx hb hd h1 ht (kk p l e R s m args below meth c ad tc dC dI A H locs cells slots Qw ls C T hP hD hS hl)
theorem x_lookup {M : MI} {D : Nat} {sc : Option (Nat × (Nat → Int32))} {Q : Option Value → ST → Prop} {pc : Nat} {lv : List (Nat × Value)} {st : List Value} {S : ST} {dflt : Int} {ps : Array (Int × Int)} {x : Int32} {off : Int} (tgt : Nat) (hf : fet M pc = some (.lookupswitch dflt ps)) (hp : (ps.toList.zip (ps.toList.drop 1)).all (fun (a, next) => a.1 < next.1) = true) (ho : Op.lookupswitch.offset ps.toList dflt x.toInt = off) (ht : (pc : Int) + off = (tgt : Int)) (kk : BX M D sc Q (tgt, lv, st, S)) : BX M D sc Q (pc, lv, .int x :: st, S) := by
  intro p l e R s m args below meth c ad tc dC dI A H locs cells slots Qw ls C T hP hD hS hl
  obtain ⟨hx, hb, hml, hown, hts, hK, hA, hR, ⟨hcn, hck, hN⟩, hsc⟩ := id C
  obtain ⟨n, hd, -⟩ := fet_ok hck hf
  exact lv_lookup hx hb hd hp ho ht (kk p l e R s m args below meth c ad tc dC dI A H locs cells slots Qw ls C T hP hD hS hl)
theorem x_less {M : MI} {D : Nat} {sc : Option (Nat × (Nat → Int32))} {Q : Option Value → ST → Prop} {pc : Nat} {lv : List (Nat × Value)} {st : List Value} {S : ST} {lv' : List (Nat × Value)} (ks : List Nat) (h : lv_pick lv ks = lv') (kk : BX M D sc Q (pc, lv', st, S)) : BX M D sc Q (pc, lv, st, S) := by
  intro p l e R s m args below meth c ad tc dC dI A H locs cells slots Qw ls C T hP hD hS hl
  refine kk p l e R s m args below meth c ad tc dC dI A H locs cells slots Qw ls C T hP hD hS (lv_less hl (fun q hq => ?_))
  obtain ⟨q0, h0, rfl⟩ := List.mem_map.mp hq
  dsimp only at h0
  rw [← h] at h0
  obtain ⟨k, -, hk⟩ := List.mem_filterMap.mp h0
  exact List.mem_map.mpr ⟨q0, List.mem_of_getElem? hk, rfl⟩
theorem x_ret {M : MI} {D : Nat} {sc : Option (Nat × (Nat → Int32))} {Q : Option Value → ST → Prop} {pc : Nat} {lv : List (Nat × Value)} {st : List Value} {S : ST} {r : Option Value} (hf : fet M pc = some (rins r)) (h0 : ilen (rins r) = 1) (hr : rfit (mrt M) r) (hq : Q r S) (hst : st = r.toList) : BX M D sc Q (pc, lv, st, S) := by
  intro p l e R s m args below meth c ad tc dC dI A H locs cells slots Qw ls C T hP hD hS hl
  obtain ⟨hx, hb, hml, hown, hts, hK, hA, hR, ⟨hcn, hck, hN⟩, hsc⟩ := id C
  have hd := fet_1 hck hf (by rw [h0]; exact Nat.one_ne_zero)
  rw [h0] at hd
  subst hst
  have hW := T pc r S H locs ls hq hr hd hP hD hS
  cases r <;> exact hW
theorem BX.mono {M : MI} {D : Nat} {sc : Option (Nat × (Nat → Int32))} {Q Q' : Option Value → ST → Prop} {c0 : CFG} (h : BX M D sc Q c0) (hq : ∀ r u, Q r u → Q' r u) : BX M D sc Q' c0 := by
  intro p l e R s m args below meth c ad tc dC dI A H locs cells slots Qw ls C T hP hD hS hl
  exact h p l e R s m args below meth c ad tc dC dI A H locs cells slots Qw ls C (fun pc r S' H' locs' ls' hQ => T pc r S' H' locs' ls' (hq r S' hQ)) hP hD hS hl
theorem pe_blind {dC : Nat → ClassId} {dI : Nat → Nat → Nat} {ad : Nat → Nat} {tc : Nat → ClassId} {sz : Nat} {av : List Value} {S : ST} : FrameBlind (PE dC dI ad tc sz av S) := fun a U g mk q => by
  obtain ⟨q0, q1, qP, qK, qD, qN⟩ := q
  exact ⟨q0, q1, qP, va_K.moved (u := U) (U := U.calling g mk a) (Vm.Alike.refl U.vm) qK, qD, NW.same (s := U) (U := U.calling g mk a) rfl qN⟩
theorem cat_map (ad : Nat → Nat) (r : List Value) : ((r.map (em ad)).map fun v => v.category).sum = (r.map fun v => v.category).sum := by
  rw [List.map_map]
  congr 1
  exact List.map_congr_left (fun v _ => em_cat ad v)
theorem x_after {p : Program} {l : Launch} {e : Env} {R : Room} {s : State} {m : MethodId} {args : Array Value} {below : List Frame} {meth : Method} {c : Code} {ad : Nat → Nat} {tc : Nat → ClassId} {dC : Nat → ClassId} {dI : Nat → Nat → Nat} {A : Nat → Prop} {H : Heap} {locs : List Loc} {cells slots pc : Nat} {Qw : State → Prop} {ls : Array Slot} {st0 rest : List Value} {S : ST} {Q' : Option Value → ST → Prop} {a : Array Value}
    (hr : va_Run p l e R s m args below meth c H locs cells slots 0 0 (F0 m pc ls st0) (rest.map (em ad)) (QE dC dI ad tc H.size Q' S a) (va_A (wld ad tc S) H.size)) (hD : va_D A (wld ad tc S)) (hS : va_S A s.heap H locs) (hA : ∀ q : Nat, s.heap.size ≤ q → A q)
    (kk : ∀ (r : Option Value) (u : ST) (H1 : Heap) (locs1 : List Loc), Q' r u → va_P (dC, dI) clss (wld ad tc u) H1 → va_D A (wld ad tc u) → va_S A s.heap H1 locs1 → W p l e R s m args below meth c H1 locs1 cells slots Qw (F0 m (pc + 3) ls ((r.toList ++ rest).map (em ad)))) : W p l e R s m args below meth c H locs cells slots Qw (F0 m pc ls st0) := by
  have hF : ∀ q, va_A (wld ad tc S) H.size q → A q := by
    intro q hq
    rcases hq with ⟨k, e, h⟩ | h
    · exact hD.2 k _ h
    · exact hA q (Nat.le_trans hS.1 h)
  intro T hT X
  obtain ⟨v, st₀, t, T', L, h0, X', hL, e1, e2, ⟨⟨r, u, hv, hq, hP1, hK1, hD1⟩, hz, hk⟩, st⟩ := hr T hT X
  have hv : v = r.map (em ad) := by
    injection hv
  subst hv
  rw [h0] at hz hk
  obtain ⟨t2, a1, b1⟩ := kk r u T'.heap (locs ++ L) hq (by rw [e1]; exact hP1) (hD1.weaken (fun _ q _ h => hF q.1 h))
    ⟨Nat.le_trans hS.1 (by rw [e1]; exact hz), fun q h1 h2 => by rw [e1, hk q (Nat.lt_of_lt_of_le h1 hS.1) (fun z => h2 (hF q z))]; exact hS.2.1 q h1 h2, fun q hq => by
      rcases List.mem_append.mp hq with h | h
      · exact hS.2.2 q h
      · exact hF _ (hL q h)⟩ T' rfl X'
  refine ⟨t2, st t2 ?_, b1⟩
  rw [List.map_append] at a1
  cases r <;> exact a1
theorem good_ws {M : MI} {n : Nat} (hm : MOK M n) : GoodIn tbl (wsM M) := fun w hw => by
  rcases List.mem_cons.mp hw with rfl | hw
  · exact gd_all _ (tbl_in hm.1 rfl)
  · exact gd_all w hw
/-- a call of an object's method -/
theorem x_callV {M M' : MI} {D D' n k ci nn idx : Nat} {fl : List (Option Nat)} {sc : Option (Nat × (Nat → Int32))} {Q Q' : Option Value → ST → Prop} {pc : Nat} {lv : List (Nat × Value)} {st rest : List Value} {S : ST} (As : List Value) (hf : fet M pc = some (.invokevirtual idx)) (hm : MOK M' n) (hl : Cond.methodLink (mnm M).cls idx (mnm M') ∈ tbl) (hin : Cond.instanceMethod (mnm M') ∈ tbl) (hse : Cond.selects (mnm M').cls (mnm M') (mnm M') ∈ tbl) (hk : shp[k]? = some (ci + 4, nn, fl)) (hc : (clss[ci]?).map (fun q => q.1) = some (mnm M').cls) (hst : st = As.reverse ++ .ref k :: rest) (hn : As.length = n) (hrest : (rest.map fun v => v.category).sum ≤ 8) (hD' : D' + 1 ≤ D) (hml' : mml M' ≤ 21) (E : EX M' D' (.ref k :: As) S Q') (kk : ∀ r u, Q' r u → BX M D sc Q (pc + 3, lv, r.toList ++ rest, u)) : BX M D sc Q (pc, lv, st, S) := by
  intro p l e R s m args below meth c ad tc dC dI A H locs cells slots Qw ls C T hP hD hS hl'
  obtain ⟨hx, hb, hml, hown, hts, hK, hA, hR, ⟨hcn, hck, hN⟩, hsc⟩ := id C
  have hd := fet_1 hck hf (Nat.succ_ne_zero _)
  subst hst
  obtain ⟨q, hq, hq1⟩ : ∃ q, clss[ci]? = some q ∧ q.1 = (mnm M').cls := by
    cases h : clss[ci]? with
    | none => rw [h] at hc; cases hc
    | some q => rw [h] at hc; exact ⟨q, rfl, Option.some.inj hc⟩
  have hat := wld_at (ad := ad) (tc := tc) S hk
  rw [cel_obj] at hat
  have hrv := va_recv hK hP hq hat
  rw [hq1] at hrv
  refine x_after (rest := rest) (a := (Value.ref (ad k) :: As.map (em ad)).toArray) (va_runV (As := As.map (em ad)) (C := (mnm M').cls) (n := n) ⟨hx, hb, hml, hown, hts⟩ (E l dC dI ad tc H.size) ⟨callB_of n hts (good_ws hm) rfl rfl rfl (hts _ (tbl_in hm.2.1 rfl)) (hts _ hl) hm.2.2.1.2 ⟨Nat.le_trans hD' hR.1, ?_⟩, hts _ hin, hts _ hse⟩ ⟨pe_blind, hrv, fun U hU hW => ⟨rfl, by rw [hU], by rw [hU]; exact hP, va_K.moved hW.alike hK, hD.weaken (fun _ _ _ _ => trivial), NW.warm hW hN⟩⟩ rfl (by rw [List.length_map]; exact hn) hl'.1 ?_ (lv_room (by rw [cat_map]; exact hrest)) hd ⟨hR.2.2.1, hR.2.2.2⟩) hD hS hA (fun r u H1 locs1 hq hP1 hD1 hS1 => kk r u hq p l e R s m args below meth c ad tc dC dI A H1 locs1 cells slots Qw ls C T hP1 hD1 hS1 hl')
  · have h2 := hR.2.1
    show 8 + (mml M' + 11) + 40 * D' ≤ R.locals
    omega
  · show (As.reverse ++ .ref k :: rest).map (em ad) = _
    rw [List.map_append, List.map_reverse]
    rfl
/-- a call of a static method -/
theorem x_callS {M M' : MI} {D D' n idx : Nat} {sc : Option (Nat × (Nat → Int32))} {Q Q' : Option Value → ST → Prop} {pc : Nat} {lv : List (Nat × Value)} {st rest : List Value} {S : ST} (As : List Value) (hf : fet M pc = some (.invokestatic idx)) (hm : MOK M' n) (hl : Cond.methodLink (mnm M).cls idx (mnm M') ∈ tbl) (hin : Cond.static (mnm M') ∈ tbl) (hst : st = As.reverse ++ rest) (hn : As.length = n) (hrest : (rest.map fun v => v.category).sum ≤ 8) (hD' : D' + 1 ≤ D) (hml' : mml M' ≤ 21) (E : EX M' D' As S Q') (kk : ∀ r u, Q' r u → BX M D sc Q (pc + 3, lv, r.toList ++ rest, u)) : BX M D sc Q (pc, lv, st, S) := by
  intro p l e R s m args below meth c ad tc dC dI A H locs cells slots Qw ls C T hP hD hS hl'
  obtain ⟨hx, hb, hml, hown, hts, hK, hA, hR, ⟨hcn, hck, hN⟩, hsc⟩ := id C
  have hd := fet_1 hck hf (Nat.succ_ne_zero _)
  subst hst
  refine x_after (rest := rest) (a := (As.map (em ad)).toArray) (va_runS (As := As.map (em ad)) (n := n) ⟨hx, hb, hml, hown, hts⟩ (E l dC dI ad tc H.size) ⟨callB_of n hts (good_ws hm) rfl rfl rfl (hts _ (tbl_in hm.2.1 rfl)) (hts _ hl) hm.2.2.1.2 ⟨Nat.le_trans hD' hR.1, ?_⟩, hts _ hin⟩ ⟨pe_blind, fun U hU hW => ⟨rfl, by rw [hU], by rw [hU]; exact hP, va_K.moved hW.alike hK, hD.weaken (fun _ _ _ _ => trivial), NW.warm hW hN⟩⟩ rfl (by rw [List.length_map]; exact hn) hl'.1 ?_ (lv_room (by rw [cat_map]; exact hrest)) hd ⟨hR.2.2.1, hR.2.2.2⟩) hD hS hA (fun r u H1 locs1 hq hP1 hD1 hS1 => kk r u hq p l e R s m args below meth c ad tc dC dI A H1 locs1 cells slots Qw ls C T hP1 hD1 hS1 hl')
  · have h2 := hR.2.1
    show 8 + (mml M' + 11) + 40 * D' ≤ R.locals
    omega
  · show (As.reverse ++ rest).map (em ad) = _
    rw [List.map_append, List.map_reverse]
/-- a call of a private static method of the nest -/
theorem x_callN {M M' : MI} {D D' n idx : Nat} {host : String} {sc : Option (Nat × (Nat → Int32))} {Q Q' : Option Value → ST → Prop} {pc : Nat} {lv : List (Nat × Value)} {st rest : List Value} {S : ST} (As : List Value) (hf : fet M pc = some (.invokestatic idx)) (hm : MOK M' n) (hl : ∀ U, NW U → va_Nw (.methodLinkNest (mnm M).cls idx (mnm M') host) U) (hin : Cond.static (mnm M') ∈ tbl) (hst : st = As.reverse ++ rest) (hn : As.length = n) (hrest : (rest.map fun v => v.category).sum ≤ 8) (hD' : D' + 1 ≤ D) (hml' : mml M' ≤ 21) (E : EX M' D' As S Q') (kk : ∀ r u, Q' r u → BX M D sc Q (pc + 3, lv, r.toList ++ rest, u)) : BX M D sc Q (pc, lv, st, S) := by
  intro p l e R s m args below meth c ad tc dC dI A H locs cells slots Qw ls C T hP hD hS hl'
  obtain ⟨hx, hb, hml, hown, hts, hK, hA, hR, ⟨hcn, hck, hN⟩, hsc⟩ := id C
  have hd := fet_1 hck hf (Nat.succ_ne_zero _)
  subst hst
  refine x_after (rest := rest) (a := (As.map (em ad)).toArray) (va_runSN (As := As.map (em ad)) (n := n) ⟨hx, hb, hml, hown, hts⟩ (E l dC dI ad tc H.size) ⟨va_cnB n hts (good_ws hm) rfl rfl rfl (hl s hN) (hts _ (tbl_in hm.2.1 rfl)) hm.2.2.1.2 ⟨Nat.le_trans hD' hR.1, ?_⟩, hts _ hin, trivial⟩ ⟨pe_blind, fun U hU hW => ⟨rfl, by rw [hU], by rw [hU]; exact hP, va_K.moved hW.alike hK, hD.weaken (fun _ _ _ _ => trivial), NW.warm hW hN⟩⟩ rfl (by rw [List.length_map]; exact hn) hl'.1 ?_ (lv_room (by rw [cat_map]; exact hrest)) hd ⟨hR.2.2.1, hR.2.2.2⟩) hD hS hA (fun r u H1 locs1 hq hP1 hD1 hS1 => kk r u hq p l e R s m args below meth c ad tc dC dI A H1 locs1 cells slots Qw ls C T hP1 hD1 hS1 hl')
  · have h2 := hR.2.1
    show 8 + (mml M' + 11) + 40 * D' ≤ R.locals
    omega
  · show (As.reverse ++ rest).map (em ad) = _
    rw [List.map_append, List.map_reverse]
theorem x_mmax {M : MI} {D : Nat} {sc : Option (Nat × (Nat → Int32))} {Q : Option Value → ST → Prop} {pc : Nat} {lv : List (Nat × Value)} {st : List Value} {S : ST} {x y : Int32} {idx : Nat} (hf : fet M pc = some (.invokestatic idx)) (hl : Cond.methodLink (mnm M).cls idx Lib.Math.max.name ∈ tbl) (h1 : Cond.static Lib.Math.max.name ∈ tbl) (h2 : Cond.initialized "java/lang/Math" ∈ tbl) (h3 : Cond.code Lib.Math.max.name Lib.Math.max.code 2 (some .int) ∈ tbl) (hrest : (st.map fun v => v.category).sum ≤ 8) (hD : 1 ≤ D) (kk : BX M D sc Q (pc + 3, lv, .int (if x < y then y else x) :: st, S)) : BX M D sc Q (pc, lv, .int y :: .int x :: st, S) := by
  intro p l e R s m args below meth c ad tc dC dI A H locs cells slots Qw ls C T hP hDD hS hl0
  obtain ⟨hx, hb, hml, hown, hts, hK, hA, hR, ⟨hcn, hck, hN⟩, hsc⟩ := id C
  have hd := fet_1 hck hf (Nat.succ_ne_zero _)
  refine va_mmax hx hb (hml.trans hl0.1.symm) hown (hts _ hl) (hts _ h1) (hts _ h2) (hts _ h3) (Nat.le_trans hD hR.1) ?_ hR.2.2.1 hR.2.2.2 hd (kk p l e R s m args below meth c ad tc dC dI A H locs cells slots Qw ls C T hP hDD hS hl0)
  have := hR.2.1
  rw [cat_map]
  omega
theorem x_mmin {M : MI} {D : Nat} {sc : Option (Nat × (Nat → Int32))} {Q : Option Value → ST → Prop} {pc : Nat} {lv : List (Nat × Value)} {st : List Value} {S : ST} {x y : Int32} {idx : Nat} (hf : fet M pc = some (.invokestatic idx)) (hl : Cond.methodLink (mnm M).cls idx Lib.Math.min.name ∈ tbl) (h1 : Cond.static Lib.Math.min.name ∈ tbl) (h2 : Cond.initialized "java/lang/Math" ∈ tbl) (h3 : Cond.code Lib.Math.min.name Lib.Math.min.code 2 (some .int) ∈ tbl) (hrest : (st.map fun v => v.category).sum ≤ 8) (hD : 1 ≤ D) (kk : BX M D sc Q (pc + 3, lv, .int (if y < x then y else x) :: st, S)) : BX M D sc Q (pc, lv, .int y :: .int x :: st, S) := by
  intro p l e R s m args below meth c ad tc dC dI A H locs cells slots Qw ls C T hP hDD hS hl0
  obtain ⟨hx, hb, hml, hown, hts, hK, hA, hR, ⟨hcn, hck, hN⟩, hsc⟩ := id C
  have hd := fet_1 hck hf (Nat.succ_ne_zero _)
  refine va_mmin hx hb (hml.trans hl0.1.symm) hown (hts _ hl) (hts _ h1) (hts _ h2) (hts _ h3) (Nat.le_trans hD hR.1) ?_ hR.2.2.1 hR.2.2.2 hd (kk p l e R s m args below meth c ad tc dC dI A H locs cells slots Qw ls C T hP hDD hS hl0)
  have := hR.2.1
  rw [cat_map]
  omega
theorem x_copy {M : MI} {D : Nat} {sc : Option (Nat × (Nat → Int32))} {Q : Option Value → ST → Prop} {pc : Nat} {lv : List (Nat × Value)} {st : List Value} {S : ST} {x y z : Int32} {idx k0 k1 n0 n1 : Nat} {f0 f1 : List (Option Nat)} (hf : fet M pc = some (.invokestatic idx)) (hl : Cond.methodLink (mnm M).cls idx arraycopyName ∈ tbl) (h1 : Cond.native arraycopyName ∈ tbl) (h2 : Cond.static arraycopyName ∈ tbl) (h3 : Cond.initialized "java/lang/System" ∈ tbl) (hk0 : shp[k0]? = some (0, n0, f0)) (hk1 : shp[k1]? = some (0, n1, f1)) (g1 : ¬ x < 0) (g2 : ¬ y < 0) (g3 : ¬ z < 0) (g4 : x.toNatClampNeg + z.toNatClampNeg ≤ n0) (g5 : y.toNatClampNeg + z.toNatClampNeg ≤ n1) (hrest : (st.map fun v => v.category).sum ≤ 8) (hD : 1 ≤ D) (kk : BX M D sc Q (pc + 3, lv, st, rwr S k1 (va_cpy (S.1 k0) (S.1 k1) x.toNatClampNeg y.toNatClampNeg z.toNatClampNeg))) : BX M D sc Q (pc, lv, .int z :: .int y :: .ref k1 :: .int x :: .ref k0 :: st, S) := by
  intro p l e R s m args below meth c ad tc dC dI A H locs cells slots Qw ls C T hP hDD hS hl0
  obtain ⟨hx, hb, hml, hown, hts, hK, hA, hR, ⟨hcn, hck, hN⟩, hsc⟩ := id C
  have hd := fet_1 hck hf (Nat.succ_ne_zero _)
  have he : (wld ad tc S).set k1 (ad k1, .inl (tc 0, n1, .inl (va_cpy (S.1 k0) (S.1 k1) x.toNatClampNeg y.toNatClampNeg z.toNatClampNeg))) = wld ad tc (rwr S k1 (va_cpy (S.1 k0) (S.1 k1) x.toNatClampNeg y.toNatClampNeg z.toNatClampNeg)) := wld_rwr hk1 (by show (Sum.inl (tc 0, n1, Sum.inl ((rwr S k1 _).1 k1)) : va_E) = _; simp only [rwr, if_pos])
  refine va_copyi hx hb (hml.trans hl0.1.symm) hown (hts _ hl) (hts _ h1) (hts _ h2) (hts _ h3) hK hP hDD hS k0 k1 0 0 (wld_at (ad := ad) (tc := tc) S hk0) (wld_at (ad := ad) (tc := tc) S hk1) rfl rfl rfl g1 g2 g3 g4 g5 (fun _ _ => rfl) (Nat.le_trans hD hR.1) ?_ hd (fun H1 locs1 hP1 hD1 hS1 => ?_)
  · have := hR.2.1
    rw [cat_map]
    have h9 : nativeFrameWords "java/lang/System" "arraycopy" 5 = 7 := by decide +kernel
    rw [h9]
    omega
  · have hP2 : va_P (dC, dI) clss (wld ad tc (rwr S k1 (va_cpy (S.1 k0) (S.1 k1) x.toNatClampNeg y.toNatClampNeg z.toNatClampNeg))) H1 := by rw [← he]; exact hP1
    have hD2 : va_D A (wld ad tc (rwr S k1 (va_cpy (S.1 k0) (S.1 k1) x.toNatClampNeg y.toNatClampNeg z.toNatClampNeg))) := by rw [← he]; exact hD1
    exact kk p l e R s m args below meth c ad tc dC dI A H1 locs1 cells slots Qw ls C T hP2 hD2 hS1 hl0
end
section
/-! links, short rows -/
def CV (M' : MI) (n ci : Nat) : Prop := MOK M' n ∧ Cond.instanceMethod (mnm M') ∈ tbl ∧ Cond.selects (mnm M').cls (mnm M') (mnm M') ∈ tbl ∧ (clss[ci]?).map (fun q => q.1) = some (mnm M').cls ∧ mml M' ≤ 21
def CS (M' : MI) (n : Nat) : Prop := MOK M' n ∧ Cond.static (mnm M') ∈ tbl ∧ mml M' ≤ 21
theorem cv_B_clear : CV me_B_clear 0 0 := ⟨mok_B_clear, tbl_in (List.mem_of_getElem? (i := 455) (by decide +kernel)) rfl, tbl_in (List.mem_of_getElem? (i := 456) (by decide +kernel)) rfl, rfl, by decide⟩
theorem cv_B_offer : CV me_B_offer 2 0 := ⟨mok_B_offer, tbl_in (List.mem_of_getElem? (i := 463) (by decide +kernel)) rfl, tbl_in (List.mem_of_getElem? (i := 464) (by decide +kernel)) rfl, rfl, by decide⟩
theorem cv_H_renew : CV me_H_renew 2 1 := ⟨mok_H_renew, tbl_in (List.mem_of_getElem? (i := 632) (by decide +kernel)) rfl, tbl_in (List.mem_of_getElem? (i := 633) (by decide +kernel)) rfl, rfl, by decide⟩
theorem cv_H_findingAt : CV me_H_findingAt 2 1 := ⟨mok_H_findingAt, tbl_in (List.mem_of_getElem? (i := 645) (by decide +kernel)) rfl, tbl_in (List.mem_of_getElem? (i := 646) (by decide +kernel)) rfl, rfl, by decide⟩
theorem cv_H_hasItems : CV me_H_hasItems 2 1 := ⟨mok_H_hasItems, tbl_in (List.mem_of_getElem? (i := 663) (by decide +kernel)) rfl, tbl_in (List.mem_of_getElem? (i := 664) (by decide +kernel)) rfl, rfl, by decide⟩
theorem cv_H_set : CV me_H_set 2 1 := ⟨mok_H_set, tbl_in (List.mem_of_getElem? (i := 650) (by decide +kernel)) rfl, tbl_in (List.mem_of_getElem? (i := 651) (by decide +kernel)) rfl, rfl, by decide⟩
theorem cv_G_append : CV me_G_append 3 2 := ⟨mok_G_append, tbl_in (List.mem_of_getElem? (i := 525) (by decide +kernel)) rfl, tbl_in (List.mem_of_getElem? (i := 526) (by decide +kernel)) rfl, rfl, by decide⟩
theorem cv_G_fit : CV me_G_fit 1 2 := ⟨mok_G_fit, tbl_in (List.mem_of_getElem? (i := 541) (by decide +kernel)) rfl, tbl_in (List.mem_of_getElem? (i := 542) (by decide +kernel)) rfl, rfl, by decide⟩
theorem cv_T_become : CV me_T_become 1 3 := ⟨mok_T_become, tbl_in (List.mem_of_getElem? (i := 479) (by decide +kernel)) rfl, tbl_in (List.mem_of_getElem? (i := 480) (by decide +kernel)) rfl, rfl, by decide⟩
theorem cv_T_hearHates : CV me_T_hearHates 1 3 := ⟨mok_T_hearHates, tbl_in (List.mem_of_getElem? (i := 275) (by decide +kernel)) rfl, tbl_in (List.mem_of_getElem? (i := 276) (by decide +kernel)) rfl, rfl, by decide⟩
theorem cv_T_hearBoats : CV me_T_hearBoats 1 3 := ⟨mok_T_hearBoats, tbl_in (List.mem_of_getElem? (i := 305) (by decide +kernel)) rfl, tbl_in (List.mem_of_getElem? (i := 306) (by decide +kernel)) rfl, rfl, by decide⟩
theorem cv_T_addEvent : CV me_T_addEvent 3 3 := ⟨mok_T_addEvent, tbl_in (List.mem_of_getElem? (i := 353) (by decide +kernel)) rfl, tbl_in (List.mem_of_getElem? (i := 354) (by decide +kernel)) rfl, rfl, by decide⟩
theorem cv_T_drawEvents : CV me_T_drawEvents 2 3 := ⟨mok_T_drawEvents, tbl_in (List.mem_of_getElem? (i := 619) (by decide +kernel)) rfl, tbl_in (List.mem_of_getElem? (i := 620) (by decide +kernel)) rfl, rfl, by decide⟩
theorem cs_T_nextSeed : CS me_T_nextSeed 1 := ⟨mok_T_nextSeed, tbl_in (List.mem_of_getElem? (i := 623) (by decide +kernel)) rfl, by decide⟩
theorem cv_T_isEventOf : CV me_T_isEventOf 2 3 := ⟨mok_T_isEventOf, tbl_in (List.mem_of_getElem? (i := 390) (by decide +kernel)) rfl, tbl_in (List.mem_of_getElem? (i := 391) (by decide +kernel)) rfl, rfl, by decide⟩
theorem cv_T_weight : CV me_T_weight 1 3 := ⟨mok_T_weight, tbl_in (List.mem_of_getElem? (i := 595) (by decide +kernel)) rfl, tbl_in (List.mem_of_getElem? (i := 596) (by decide +kernel)) rfl, rfl, by decide⟩
theorem cv_T_rowMask : CV me_T_rowMask 1 3 := ⟨mok_T_rowMask, tbl_in (List.mem_of_getElem? (i := 574) (by decide +kernel)) rfl, tbl_in (List.mem_of_getElem? (i := 575) (by decide +kernel)) rfl, rfl, by decide⟩
theorem cv_X_isFull : CV me_X_isFull 0 4 := ⟨mok_X_isFull, tbl_in (List.mem_of_getElem? (i := 263) (by decide +kernel)) rfl, tbl_in (List.mem_of_getElem? (i := 264) (by decide +kernel)) rfl, rfl, by decide⟩
theorem cv_X_append : CV me_X_append 1 4 := ⟨mok_X_append, tbl_in (List.mem_of_getElem? (i := 267) (by decide +kernel)) rfl, tbl_in (List.mem_of_getElem? (i := 268) (by decide +kernel)) rfl, rfl, by decide⟩
theorem cv_X_has : CV me_X_has 3 4 := ⟨mok_X_has, tbl_in (List.mem_of_getElem? (i := 287) (by decide +kernel)) rfl, tbl_in (List.mem_of_getElem? (i := 288) (by decide +kernel)) rfl, rfl, by decide⟩
theorem cv_X_figure : CV me_X_figure 1 4 := ⟨mok_X_figure, tbl_in (List.mem_of_getElem? (i := 298) (by decide +kernel)) rfl, tbl_in (List.mem_of_getElem? (i := 299) (by decide +kernel)) rfl, rfl, by decide⟩
theorem cv_X_findHatesFault : CV me_X_findHatesFault 0 4 := ⟨mok_X_findHatesFault, tbl_in (List.mem_of_getElem? (i := 279) (by decide +kernel)) rfl, tbl_in (List.mem_of_getElem? (i := 280) (by decide +kernel)) rfl, rfl, by decide⟩
theorem cv_X_findBoatsFault : CV me_X_findBoatsFault 0 4 := ⟨mok_X_findBoatsFault, tbl_in (List.mem_of_getElem? (i := 309) (by decide +kernel)) rfl, tbl_in (List.mem_of_getElem? (i := 310) (by decide +kernel)) rfl, rfl, by decide⟩
theorem cv_X_faultOfEnd : CV me_X_faultOfEnd 1 4 := ⟨mok_X_faultOfEnd, tbl_in (List.mem_of_getElem? (i := 292) (by decide +kernel)) rfl, tbl_sel (q := (⟨"BoatNames$Text", "faultOfEnd", "(I)I"⟩, 3)) (List.mem_of_getElem? (i := 3) (by decide +kernel)), rfl, by decide⟩
theorem cv_X_isHateByte : CV me_X_isHateByte 1 4 := ⟨mok_X_isHateByte, tbl_in (List.mem_of_getElem? (i := 284) (by decide +kernel)) rfl, tbl_sel (q := (⟨"BoatNames$Text", "isHateByte", "(I)Z"⟩, 3)) (List.mem_of_getElem? (i := 2) (by decide +kernel)), rfl, by decide⟩
theorem cv_X_isBoatByte : CV me_X_isBoatByte 1 4 := ⟨mok_X_isBoatByte, tbl_in (List.mem_of_getElem? (i := 314) (by decide +kernel)) rfl, tbl_sel (q := (⟨"BoatNames$Text", "isBoatByte", "(I)Z"⟩, 3)) (List.mem_of_getElem? (i := 4) (by decide +kernel)), rfl, by decide⟩
theorem cs_X_sortOf : CS me_X_sortOf 1 := ⟨mok_X_sortOf, tbl_in (List.mem_of_getElem? (i := 317) (by decide +kernel)) rfl, by decide⟩
theorem cv_V_run : CV me_V_run 2 5 := ⟨mok_V_run, tbl_in (List.mem_of_getElem? (i := 374) (by decide +kernel)) rfl, tbl_in (List.mem_of_getElem? (i := 375) (by decide +kernel)) rfl, rfl, by decide⟩
theorem cv_V_begin : CV me_V_begin 1 5 := ⟨mok_V_begin, tbl_in (List.mem_of_getElem? (i := 378) (by decide +kernel)) rfl, tbl_in (List.mem_of_getElem? (i := 379) (by decide +kernel)) rfl, rfl, by decide⟩
theorem cv_V_sail : CV me_V_sail 1 5 := ⟨mok_V_sail, tbl_in (List.mem_of_getElem? (i := 386) (by decide +kernel)) rfl, tbl_in (List.mem_of_getElem? (i := 387) (by decide +kernel)) rfl, rfl, by decide⟩
theorem cv_V_storm : CV me_V_storm 0 5 := ⟨mok_V_storm, tbl_in (List.mem_of_getElem? (i := 395) (by decide +kernel)) rfl, tbl_sel (q := (⟨"BoatNames$Voyage", "storm", "()V"⟩, 12)) (List.mem_of_getElem? (i := 7) (by decide +kernel)), rfl, by decide⟩
theorem cv_V_settle : CV me_V_settle 2 5 := ⟨mok_V_settle, tbl_in (List.mem_of_getElem? (i := 402) (by decide +kernel)) rfl, tbl_sel (q := (⟨"BoatNames$Voyage", "settle", "(II)V"⟩, 12)) (List.mem_of_getElem? (i := 8) (by decide +kernel)), rfl, by decide⟩
theorem cv_V_launch : CV me_V_launch 1 5 := ⟨mok_V_launch, tbl_in (List.mem_of_getElem? (i := 406) (by decide +kernel)) rfl, tbl_sel (q := (⟨"BoatNames$Voyage", "launch", "(I)V"⟩, 12)) (List.mem_of_getElem? (i := 9) (by decide +kernel)), rfl, by decide⟩
theorem cv_V_bear : CV me_V_bear 2 5 := ⟨mok_V_bear, tbl_in (List.mem_of_getElem? (i := 415) (by decide +kernel)) rfl, tbl_sel (q := (⟨"BoatNames$Voyage", "bear", "(II)V"⟩, 12)) (List.mem_of_getElem? (i := 10) (by decide +kernel)), rfl, by decide⟩
theorem cv_V_sink : CV me_V_sink 2 5 := ⟨mok_V_sink, tbl_in (List.mem_of_getElem? (i := 419) (by decide +kernel)) rfl, tbl_sel (q := (⟨"BoatNames$Voyage", "sink", "(II)V"⟩, 12)) (List.mem_of_getElem? (i := 11) (by decide +kernel)), rfl, by decide⟩
theorem cv_V_worstEnemy : CV me_V_worstEnemy 1 5 := ⟨mok_V_worstEnemy, tbl_in (List.mem_of_getElem? (i := 409) (by decide +kernel)) rfl, tbl_in (List.mem_of_getElem? (i := 410) (by decide +kernel)) rfl, rfl, by decide⟩
theorem cv_V_hatredOf : CV me_V_hatredOf 1 5 := ⟨mok_V_hatredOf, tbl_in (List.mem_of_getElem? (i := 459) (by decide +kernel)) rfl, tbl_in (List.mem_of_getElem? (i := 460) (by decide +kernel)) rfl, rfl, by decide⟩
theorem cv_V_allHatred : CV me_V_allHatred 0 5 := ⟨mok_V_allHatred, tbl_in (List.mem_of_getElem? (i := 681) (by decide +kernel)) rfl, tbl_in (List.mem_of_getElem? (i := 682) (by decide +kernel)) rfl, rfl, by decide⟩
theorem cv_V_howMany : CV me_V_howMany 1 5 := ⟨mok_V_howMany, tbl_in (List.mem_of_getElem? (i := 430) (by decide +kernel)) rfl, tbl_in (List.mem_of_getElem? (i := 431) (by decide +kernel)) rfl, rfl, by decide⟩
theorem cv_V_namesakes : CV me_V_namesakes 2 5 := ⟨mok_V_namesakes, tbl_in (List.mem_of_getElem? (i := 438) (by decide +kernel)) rfl, tbl_in (List.mem_of_getElem? (i := 439) (by decide +kernel)) rfl, rfl, by decide⟩
theorem cv_V_nameBehind : CV me_V_nameBehind 2 5 := ⟨mok_V_nameBehind, tbl_in (List.mem_of_getElem? (i := 545) (by decide +kernel)) rfl, tbl_in (List.mem_of_getElem? (i := 546) (by decide +kernel)) rfl, rfl, by decide⟩
theorem cv_V_nameRow : CV me_V_nameRow 0 5 := ⟨mok_V_nameRow, tbl_in (List.mem_of_getElem? (i := 561) (by decide +kernel)) rfl, tbl_in (List.mem_of_getElem? (i := 562) (by decide +kernel)) rfl, rfl, by decide⟩
theorem cv_N_type : CV me_N_type 2 6 := ⟨mok_N_type, tbl_in (List.mem_of_getElem? (i := 252) (by decide +kernel)) rfl, tbl_in (List.mem_of_getElem? (i := 253) (by decide +kernel)) rfl, rfl, by decide⟩
theorem cv_N_wipe : CV me_N_wipe 1 6 := ⟨mok_N_wipe, tbl_in (List.mem_of_getElem? (i := 321) (by decide +kernel)) rfl, tbl_in (List.mem_of_getElem? (i := 322) (by decide +kernel)) rfl, rfl, by decide⟩
theorem cv_N_undo : CV me_N_undo 1 6 := ⟨mok_N_undo, tbl_in (List.mem_of_getElem? (i := 325) (by decide +kernel)) rfl, tbl_in (List.mem_of_getElem? (i := 326) (by decide +kernel)) rfl, rfl, by decide⟩
theorem cv_N_fault : CV me_N_fault 1 6 := ⟨mok_N_fault, tbl_in (List.mem_of_getElem? (i := 329) (by decide +kernel)) rfl, tbl_in (List.mem_of_getElem? (i := 330) (by decide +kernel)) rfl, rfl, by decide⟩
theorem cv_N_told : CV me_N_told 2 6 := ⟨mok_N_told, tbl_in (List.mem_of_getElem? (i := 333) (by decide +kernel)) rfl, tbl_in (List.mem_of_getElem? (i := 334) (by decide +kernel)) rfl, rfl, by decide⟩
theorem cv_N_boat : CV me_N_boat 2 6 := ⟨mok_N_boat, tbl_in (List.mem_of_getElem? (i := 341) (by decide +kernel)) rfl, tbl_in (List.mem_of_getElem? (i := 342) (by decide +kernel)) rfl, rfl, by decide⟩
theorem cv_N_event : CV me_N_event 3 6 := ⟨mok_N_event, tbl_in (List.mem_of_getElem? (i := 349) (by decide +kernel)) rfl, tbl_in (List.mem_of_getElem? (i := 350) (by decide +kernel)) rfl, rfl, by decide⟩
theorem cv_N_back : CV me_N_back 0 6 := ⟨mok_N_back, tbl_in (List.mem_of_getElem? (i := 357) (by decide +kernel)) rfl, tbl_in (List.mem_of_getElem? (i := 358) (by decide +kernel)) rfl, rfl, by decide⟩
theorem cv_N_read : CV me_N_read 1 6 := ⟨mok_N_read, tbl_in (List.mem_of_getElem? (i := 361) (by decide +kernel)) rfl, tbl_in (List.mem_of_getElem? (i := 362) (by decide +kernel)) rfl, rfl, by decide⟩
theorem cv_N_hates : CV me_N_hates 3 6 := ⟨mok_N_hates, tbl_in (List.mem_of_getElem? (i := 370) (by decide +kernel)) rfl, tbl_in (List.mem_of_getElem? (i := 371) (by decide +kernel)) rfl, rfl, by decide⟩
theorem cv_N_at : CV me_N_at 3 6 := ⟨mok_N_at, tbl_in (List.mem_of_getElem? (i := 422) (by decide +kernel)) rfl, tbl_in (List.mem_of_getElem? (i := 423) (by decide +kernel)) rfl, rfl, by decide⟩
theorem cv_N_afloat : CV me_N_afloat 1 6 := ⟨mok_N_afloat, tbl_in (List.mem_of_getElem? (i := 426) (by decide +kernel)) rfl, tbl_in (List.mem_of_getElem? (i := 427) (by decide +kernel)) rfl, rfl, by decide⟩
theorem cv_N_named : CV me_N_named 2 6 := ⟨mok_N_named, tbl_in (List.mem_of_getElem? (i := 434) (by decide +kernel)) rfl, tbl_in (List.mem_of_getElem? (i := 435) (by decide +kernel)) rfl, rfl, by decide⟩
theorem cv_N_first : CV me_N_first 1 6 := ⟨mok_N_first, tbl_in (List.mem_of_getElem? (i := 442) (by decide +kernel)) rfl, tbl_in (List.mem_of_getElem? (i := 443) (by decide +kernel)) rfl, rfl, by decide⟩
theorem cv_N_loved : CV me_N_loved 0 6 := ⟨mok_N_loved, tbl_in (List.mem_of_getElem? (i := 446) (by decide +kernel)) rfl, tbl_in (List.mem_of_getElem? (i := 447) (by decide +kernel)) rfl, rfl, by decide⟩
theorem cv_N_bitter : CV me_N_bitter 0 6 := ⟨mok_N_bitter, tbl_in (List.mem_of_getElem? (i := 451) (by decide +kernel)) rfl, tbl_in (List.mem_of_getElem? (i := 452) (by decide +kernel)) rfl, rfl, by decide⟩
theorem cv_N_longs : CV me_N_longs 1 6 := ⟨mok_N_longs, tbl_in (List.mem_of_getElem? (i := 467) (by decide +kernel)) rfl, tbl_in (List.mem_of_getElem? (i := 468) (by decide +kernel)) rfl, rfl, by decide⟩
theorem cv_N_wrong : CV me_N_wrong 2 6 := ⟨mok_N_wrong, tbl_in (List.mem_of_getElem? (i := 471) (by decide +kernel)) rfl, tbl_in (List.mem_of_getElem? (i := 472) (by decide +kernel)) rfl, rfl, by decide⟩
theorem cv_N_pay : CV me_N_pay 2 6 := ⟨mok_N_pay, tbl_in (List.mem_of_getElem? (i := 484) (by decide +kernel)) rfl, tbl_in (List.mem_of_getElem? (i := 485) (by decide +kernel)) rfl, rfl, by decide⟩
theorem cv_N_waits : CV me_N_waits 2 6 := ⟨mok_N_waits, tbl_in (List.mem_of_getElem? (i := 492) (by decide +kernel)) rfl, tbl_in (List.mem_of_getElem? (i := 493) (by decide +kernel)) rfl, rfl, by decide⟩
theorem cv_N_spare : CV me_N_spare 1 6 := ⟨mok_N_spare, tbl_in (List.mem_of_getElem? (i := 500) (by decide +kernel)) rfl, tbl_in (List.mem_of_getElem? (i := 501) (by decide +kernel)) rfl, rfl, by decide⟩
theorem cv_N_seen : CV me_N_seen 3 6 := ⟨mok_N_seen, tbl_in (List.mem_of_getElem? (i := 521) (by decide +kernel)) rfl, tbl_in (List.mem_of_getElem? (i := 522) (by decide +kernel)) rfl, rfl, by decide⟩
theorem cv_N_forget : CV me_N_forget 0 6 := ⟨mok_N_forget, tbl_in (List.mem_of_getElem? (i := 529) (by decide +kernel)) rfl, tbl_in (List.mem_of_getElem? (i := 530) (by decide +kernel)) rfl, rfl, by decide⟩
theorem cv_N_never : CV me_N_never 0 6 := ⟨mok_N_never, tbl_in (List.mem_of_getElem? (i := 533) (by decide +kernel)) rfl, tbl_in (List.mem_of_getElem? (i := 534) (by decide +kernel)) rfl, rfl, by decide⟩
theorem cv_N_sort : CV me_N_sort 1 6 := ⟨mok_N_sort, tbl_in (List.mem_of_getElem? (i := 549) (by decide +kernel)) rfl, tbl_in (List.mem_of_getElem? (i := 550) (by decide +kernel)) rfl, rfl, by decide⟩
theorem cv_N_hated : CV me_N_hated 2 6 := ⟨mok_N_hated, tbl_in (List.mem_of_getElem? (i := 553) (by decide +kernel)) rfl, tbl_in (List.mem_of_getElem? (i := 554) (by decide +kernel)) rfl, rfl, by decide⟩
theorem cv_N_ask : CV me_N_ask 2 6 := ⟨mok_N_ask, tbl_in (List.mem_of_getElem? (i := 566) (by decide +kernel)) rfl, tbl_in (List.mem_of_getElem? (i := 567) (by decide +kernel)) rfl, rfl, by decide⟩
theorem cv_N_chance : CV me_N_chance 3 6 := ⟨mok_N_chance, tbl_in (List.mem_of_getElem? (i := 583) (by decide +kernel)) rfl, tbl_in (List.mem_of_getElem? (i := 584) (by decide +kernel)) rfl, rfl, by decide⟩
theorem cv_N_decades : CV me_N_decades 3 6 := ⟨mok_N_decades, tbl_in (List.mem_of_getElem? (i := 615) (by decide +kernel)) rfl, tbl_in (List.mem_of_getElem? (i := 616) (by decide +kernel)) rfl, rfl, by decide⟩
theorem cv_N_sheet : CV me_N_sheet 3 6 := ⟨mok_N_sheet, tbl_in (List.mem_of_getElem? (i := 628) (by decide +kernel)) rfl, tbl_in (List.mem_of_getElem? (i := 629) (by decide +kernel)) rfl, rfl, by decide⟩
theorem cv_N_lose : CV me_N_lose 1 6 := ⟨mok_N_lose, tbl_in (List.mem_of_getElem? (i := 637) (by decide +kernel)) rfl, tbl_in (List.mem_of_getElem? (i := 638) (by decide +kernel)) rfl, rfl, by decide⟩
theorem cv_N_put : CV me_N_put 4 6 := ⟨mok_N_put, tbl_in (List.mem_of_getElem? (i := 641) (by decide +kernel)) rfl, tbl_in (List.mem_of_getElem? (i := 642) (by decide +kernel)) rfl, rfl, by decide⟩
theorem cv_N_get : CV me_N_get 3 6 := ⟨mok_N_get, tbl_in (List.mem_of_getElem? (i := 654) (by decide +kernel)) rfl, tbl_in (List.mem_of_getElem? (i := 655) (by decide +kernel)) rfl, rfl, by decide⟩
theorem cv_N_copy : CV me_N_copy 5 6 := ⟨mok_N_copy, tbl_in (List.mem_of_getElem? (i := 659) (by decide +kernel)) rfl, tbl_in (List.mem_of_getElem? (i := 660) (by decide +kernel)) rfl, rfl, by decide⟩
theorem cv_N_write : CV me_N_write 2 6 := ⟨mok_N_write, tbl_in (List.mem_of_getElem? (i := 668) (by decide +kernel)) rfl, tbl_in (List.mem_of_getElem? (i := 669) (by decide +kernel)) rfl, rfl, by decide⟩
theorem cv_N_count : CV me_N_count 1 6 := ⟨mok_N_count, tbl_in (List.mem_of_getElem? (i := 677) (by decide +kernel)) rfl, tbl_in (List.mem_of_getElem? (i := 678) (by decide +kernel)) rfl, rfl, by decide⟩
theorem cv_N_digest : CV me_N_digest 0 6 := ⟨mok_N_digest, tbl_in (List.mem_of_getElem? (i := 686) (by decide +kernel)) rfl, tbl_in (List.mem_of_getElem? (i := 687) (by decide +kernel)) rfl, rfl, by decide⟩
theorem cv_N_digestBoat : CV me_N_digestBoat 2 6 := ⟨mok_N_digestBoat, tbl_in (List.mem_of_getElem? (i := 695) (by decide +kernel)) rfl, tbl_sel (q := (⟨"BoatNames", "digestBoat", "(JI)J"⟩, 11)) (List.mem_of_getElem? (i := 26) (by decide +kernel)), rfl, by decide⟩
theorem cv_N_digestWeek : CV me_N_digestWeek 3 6 := ⟨mok_N_digestWeek, tbl_in (List.mem_of_getElem? (i := 700) (by decide +kernel)) rfl, tbl_sel (q := (⟨"BoatNames", "digestWeek", "(JII)J"⟩, 11)) (List.mem_of_getElem? (i := 27) (by decide +kernel)), rfl, by decide⟩
theorem cv_N_digestPerson : CV me_N_digestPerson 2 6 := ⟨mok_N_digestPerson, tbl_in (List.mem_of_getElem? (i := 707) (by decide +kernel)) rfl, tbl_sel (q := (⟨"BoatNames", "digestPerson", "(JI)J"⟩, 11)) (List.mem_of_getElem? (i := 28) (by decide +kernel)), rfl, by decide⟩
theorem cs_N_isBelow : CS me_N_isBelow 2 := ⟨mok_N_isBelow, tbl_in (List.mem_of_getElem? (i := 256) (by decide +kernel)) rfl, by decide⟩
theorem cs_N_areTwo : CS me_N_areTwo 2 := ⟨mok_N_areTwo, tbl_in (List.mem_of_getElem? (i := 337) (by decide +kernel)) rfl, by decide⟩
theorem cs_N_pair : CS me_N_pair 2 := ⟨mok_N_pair, tbl_in (List.mem_of_getElem? (i := 302) (by decide +kernel)) rfl, by decide⟩
theorem cv_N_isBoat : CV me_N_isBoat 1 6 := ⟨mok_N_isBoat, tbl_in (List.mem_of_getElem? (i := 346) (by decide +kernel)) rfl, tbl_sel (q := (⟨"BoatNames", "isBoat", "(I)Z"⟩, 11)) (List.mem_of_getElem? (i := 5) (by decide +kernel)), rfl, by decide⟩
theorem cv_N_textOf : CV me_N_textOf 1 6 := ⟨mok_N_textOf, tbl_in (List.mem_of_getElem? (i := 260) (by decide +kernel)) rfl, tbl_sel (q := (⟨"BoatNames", "textOf", "(I)LBoatNames$Text;"⟩, 11)) (List.mem_of_getElem? (i := 0) (by decide +kernel)), rfl, by decide⟩
theorem cv_N_hear : CV me_N_hear 1 6 := ⟨mok_N_hear, tbl_in (List.mem_of_getElem? (i := 272) (by decide +kernel)) rfl, tbl_sel (q := (⟨"BoatNames", "hear", "(I)V"⟩, 11)) (List.mem_of_getElem? (i := 1) (by decide +kernel)), rfl, by decide⟩
theorem cv_N_find : CV me_N_find 1 6 := ⟨mok_N_find, tbl_in (List.mem_of_getElem? (i := 366) (by decide +kernel)) rfl, tbl_sel (q := (⟨"BoatNames", "find", "(I)I"⟩, 11)) (List.mem_of_getElem? (i := 6) (by decide +kernel)), rfl, by decide⟩
theorem cv_N_seekWrong : CV me_N_seekWrong 1 6 := ⟨mok_N_seekWrong, tbl_in (List.mem_of_getElem? (i := 476) (by decide +kernel)) rfl, tbl_sel (q := (⟨"BoatNames", "seekWrong", "(I)V"⟩, 11)) (List.mem_of_getElem? (i := 12) (by decide +kernel)), rfl, by decide⟩
theorem cv_N_seekPay : CV me_N_seekPay 1 6 := ⟨mok_N_seekPay, tbl_in (List.mem_of_getElem? (i := 489) (by decide +kernel)) rfl, tbl_sel (q := (⟨"BoatNames", "seekPay", "(I)V"⟩, 11)) (List.mem_of_getElem? (i := 13) (by decide +kernel)), rfl, by decide⟩
theorem cv_N_seekWait : CV me_N_seekWait 1 6 := ⟨mok_N_seekWait, tbl_in (List.mem_of_getElem? (i := 497) (by decide +kernel)) rfl, tbl_sel (q := (⟨"BoatNames", "seekWait", "(I)V"⟩, 11)) (List.mem_of_getElem? (i := 14) (by decide +kernel)), rfl, by decide⟩
theorem cv_N_spareBits : CV me_N_spareBits 0 6 := ⟨mok_N_spareBits, tbl_in (List.mem_of_getElem? (i := 505) (by decide +kernel)) rfl, tbl_sel (q := (⟨"BoatNames", "spareBits", "()I"⟩, 11)) (List.mem_of_getElem? (i := 15) (by decide +kernel)), rfl, by decide⟩
theorem cv_N_isSafeWithout : CV me_N_isSafeWithout 1 6 := ⟨mok_N_isSafeWithout, tbl_in (List.mem_of_getElem? (i := 509) (by decide +kernel)) rfl, tbl_sel (q := (⟨"BoatNames", "isSafeWithout", "(I)Z"⟩, 11)) (List.mem_of_getElem? (i := 16) (by decide +kernel)), rfl, by decide⟩
theorem cs_N_placeOfBit : CS me_N_placeOfBit 2 := ⟨mok_N_placeOfBit, tbl_in (List.mem_of_getElem? (i := 518) (by decide +kernel)) rfl, by decide⟩
theorem cv_N_trialComesOutSo : CV me_N_trialComesOutSo 0 6 := ⟨mok_N_trialComesOutSo, tbl_in (List.mem_of_getElem? (i := 538) (by decide +kernel)) rfl, tbl_sel (q := (⟨"BoatNames", "trialComesOutSo", "()Z"⟩, 11)) (List.mem_of_getElem? (i := 17) (by decide +kernel)), rfl, by decide⟩
theorem cv_N_seekHated : CV me_N_seekHated 2 6 := ⟨mok_N_seekHated, tbl_in (List.mem_of_getElem? (i := 558) (by decide +kernel)) rfl, tbl_sel (q := (⟨"BoatNames", "seekHated", "(II)I"⟩, 11)) (List.mem_of_getElem? (i := 18) (by decide +kernel)), rfl, by decide⟩
theorem cv_N_weekToAsk : CV me_N_weekToAsk 1 6 := ⟨mok_N_weekToAsk, tbl_in (List.mem_of_getElem? (i := 571) (by decide +kernel)) rfl, tbl_sel (q := (⟨"BoatNames", "weekToAsk", "(I)I"⟩, 11)) (List.mem_of_getElem? (i := 19) (by decide +kernel)), rfl, by decide⟩
theorem cv_N_greatestGroup : CV me_N_greatestGroup 2 6 := ⟨mok_N_greatestGroup, tbl_in (List.mem_of_getElem? (i := 579) (by decide +kernel)) rfl, tbl_sel (q := (⟨"BoatNames", "greatestGroup", "(II)I"⟩, 11)) (List.mem_of_getElem? (i := 20) (by decide +kernel)), rfl, by decide⟩
theorem cv_N_weighSunk : CV me_N_weighSunk 1 6 := ⟨mok_N_weighSunk, tbl_in (List.mem_of_getElem? (i := 589) (by decide +kernel)) rfl, tbl_sel (q := (⟨"BoatNames", "weighSunk", "(I)V"⟩, 11)) (List.mem_of_getElem? (i := 21) (by decide +kernel)), rfl, by decide⟩
theorem cv_N_addWeight : CV me_N_addWeight 1 6 := ⟨mok_N_addWeight, tbl_in (List.mem_of_getElem? (i := 600) (by decide +kernel)) rfl, tbl_sel (q := (⟨"BoatNames", "addWeight", "(J)V"⟩, 11)) (List.mem_of_getElem? (i := 22) (by decide +kernel)), rfl, by decide⟩
theorem cv_N_chanceAbove : CV me_N_chanceAbove 1 6 := ⟨mok_N_chanceAbove, tbl_in (List.mem_of_getElem? (i := 604) (by decide +kernel)) rfl, tbl_sel (q := (⟨"BoatNames", "chanceAbove", "(I)J"⟩, 11)) (List.mem_of_getElem? (i := 23) (by decide +kernel)), rfl, by decide⟩
theorem cv_N_chanceBelow : CV me_N_chanceBelow 1 6 := ⟨mok_N_chanceBelow, tbl_in (List.mem_of_getElem? (i := 612) (by decide +kernel)) rfl, tbl_sel (q := (⟨"BoatNames", "chanceBelow", "(I)J"⟩, 11)) (List.mem_of_getElem? (i := 25) (by decide +kernel)), rfl, by decide⟩
theorem cv_N_sharedHalvings : CV me_N_sharedHalvings 1 6 := ⟨mok_N_sharedHalvings, tbl_in (List.mem_of_getElem? (i := 608) (by decide +kernel)) rfl, tbl_sel (q := (⟨"BoatNames", "sharedHalvings", "(I)I"⟩, 11)) (List.mem_of_getElem? (i := 24) (by decide +kernel)), rfl, by decide⟩
theorem cs_R_in : CS me_R_in 3 := ⟨mok_R_in, tbl_in (List.mem_of_getElem? (i := 863) (by decide +kernel)) rfl, by decide⟩
theorem cs_R_isIn : CS me_R_isIn 2 := ⟨mok_R_isIn, tbl_in (List.mem_of_getElem? (i := 975) (by decide +kernel)) rfl, by decide⟩
theorem cs_R_no : CS me_R_no 1 := ⟨mok_R_no, tbl_in (List.mem_of_getElem? (i := 1172) (by decide +kernel)) rfl, by decide⟩
theorem cs_R_lowest : CS me_R_lowest 3 := ⟨mok_R_lowest, tbl_in (List.mem_of_getElem? (i := 1169) (by decide +kernel)) rfl, by decide⟩
theorem cs_R_isText : CS me_R_isText 1 := ⟨mok_R_isText, tbl_in (List.mem_of_getElem? (i := 860) (by decide +kernel)) rfl, by decide⟩
theorem cs_R_isWeek : CS me_R_isWeek 1 := ⟨mok_R_isWeek, tbl_in (List.mem_of_getElem? (i := 901) (by decide +kernel)) rfl, by decide⟩
theorem cs_R_isTwo : CS me_R_isTwo 1 := ⟨mok_R_isTwo, tbl_in (List.mem_of_getElem? (i := 1026) (by decide +kernel)) rfl, by decide⟩
theorem cs_R_isEight : CS me_R_isEight 1 := ⟨mok_R_isEight, tbl_in (List.mem_of_getElem? (i := 894) (by decide +kernel)) rfl, by decide⟩
theorem cs_R_areTwo : CS me_R_areTwo 2 := ⟨mok_R_areTwo, tbl_in (List.mem_of_getElem? (i := 908) (by decide +kernel)) rfl, by decide⟩
theorem cv_R_type : CV me_R_type 2 7 := ⟨mok_R_type, tbl_in (List.mem_of_getElem? (i := 856) (by decide +kernel)) rfl, tbl_in (List.mem_of_getElem? (i := 857) (by decide +kernel)) rfl, rfl, by decide⟩
theorem cv_R_wipe : CV me_R_wipe 1 7 := ⟨mok_R_wipe, tbl_in (List.mem_of_getElem? (i := 866) (by decide +kernel)) rfl, tbl_in (List.mem_of_getElem? (i := 867) (by decide +kernel)) rfl, rfl, by decide⟩
theorem cv_R_undo : CV me_R_undo 1 7 := ⟨mok_R_undo, tbl_in (List.mem_of_getElem? (i := 870) (by decide +kernel)) rfl, tbl_in (List.mem_of_getElem? (i := 871) (by decide +kernel)) rfl, rfl, by decide⟩
theorem cv_R_byteAt : CV me_R_byteAt 2 7 := ⟨mok_R_byteAt, tbl_in (List.mem_of_getElem? (i := 891) (by decide +kernel)) rfl, tbl_sel (q := (⟨"BoatNamesModel", "byteAt", "(II)I"⟩, 43)) (List.mem_of_getElem? (i := 32) (by decide +kernel)), rfl, by decide⟩
theorem cv_R_readsHate : CV me_R_readsHate 2 7 := ⟨mok_R_readsHate, tbl_in (List.mem_of_getElem? (i := 887) (by decide +kernel)) rfl, tbl_sel (q := (⟨"BoatNamesModel", "readsHate", "(II)I"⟩, 43)) (List.mem_of_getElem? (i := 31) (by decide +kernel)), rfl, by decide⟩
theorem cv_R_readsBoat : CV me_R_readsBoat 2 7 := ⟨mok_R_readsBoat, tbl_in (List.mem_of_getElem? (i := 898) (by decide +kernel)) rfl, tbl_sel (q := (⟨"BoatNamesModel", "readsBoat", "(II)I"⟩, 43)) (List.mem_of_getElem? (i := 33) (by decide +kernel)), rfl, by decide⟩
theorem cv_R_readsParts : CV me_R_readsParts 1 7 := ⟨mok_R_readsParts, tbl_in (List.mem_of_getElem? (i := 883) (by decide +kernel)) rfl, tbl_sel (q := (⟨"BoatNamesModel", "readsParts", "(I)I"⟩, 43)) (List.mem_of_getElem? (i := 30) (by decide +kernel)), rfl, by decide⟩
theorem cv_R_faultOf : CV me_R_faultOf 1 7 := ⟨mok_R_faultOf, tbl_in (List.mem_of_getElem? (i := 879) (by decide +kernel)) rfl, tbl_sel (q := (⟨"BoatNamesModel", "faultOf", "(I)I"⟩, 43)) (List.mem_of_getElem? (i := 29) (by decide +kernel)), rfl, by decide⟩
theorem cv_R_reads : CV me_R_reads 0 7 := ⟨mok_R_reads, tbl_in (List.mem_of_getElem? (i := 916) (by decide +kernel)) rfl, tbl_sel (q := (⟨"BoatNamesModel", "reads", "()V"⟩, 43)) (List.mem_of_getElem? (i := 35) (by decide +kernel)), rfl, by decide⟩
theorem cv_R_fault : CV me_R_fault 1 7 := ⟨mok_R_fault, tbl_in (List.mem_of_getElem? (i := 874) (by decide +kernel)) rfl, tbl_in (List.mem_of_getElem? (i := 875) (by decide +kernel)) rfl, rfl, by decide⟩
theorem cv_R_isBoat : CV me_R_isBoat 1 7 := ⟨mok_R_isBoat, tbl_in (List.mem_of_getElem? (i := 924) (by decide +kernel)) rfl, tbl_sel (q := (⟨"BoatNamesModel", "isBoat", "(I)Z"⟩, 43)) (List.mem_of_getElem? (i := 36) (by decide +kernel)), rfl, by decide⟩
theorem cv_R_toldOf : CV me_R_toldOf 2 7 := ⟨mok_R_toldOf, tbl_in (List.mem_of_getElem? (i := 912) (by decide +kernel)) rfl, tbl_sel (q := (⟨"BoatNamesModel", "toldOf", "(II)I"⟩, 43)) (List.mem_of_getElem? (i := 34) (by decide +kernel)), rfl, by decide⟩
theorem cv_R_told : CV me_R_told 2 7 := ⟨mok_R_told, tbl_in (List.mem_of_getElem? (i := 904) (by decide +kernel)) rfl, tbl_in (List.mem_of_getElem? (i := 905) (by decide +kernel)) rfl, rfl, by decide⟩
theorem cv_R_boatOf : CV me_R_boatOf 2 7 := ⟨mok_R_boatOf, tbl_in (List.mem_of_getElem? (i := 928) (by decide +kernel)) rfl, tbl_sel (q := (⟨"BoatNamesModel", "boatOf", "(II)I"⟩, 43)) (List.mem_of_getElem? (i := 37) (by decide +kernel)), rfl, by decide⟩
theorem cv_R_boat : CV me_R_boat 2 7 := ⟨mok_R_boat, tbl_in (List.mem_of_getElem? (i := 919) (by decide +kernel)) rfl, tbl_in (List.mem_of_getElem? (i := 920) (by decide +kernel)) rfl, rfl, by decide⟩
theorem cv_R_event : CV me_R_event 3 7 := ⟨mok_R_event, tbl_in (List.mem_of_getElem? (i := 931) (by decide +kernel)) rfl, tbl_in (List.mem_of_getElem? (i := 932) (by decide +kernel)) rfl, rfl, by decide⟩
theorem cv_R_back : CV me_R_back 0 7 := ⟨mok_R_back, tbl_in (List.mem_of_getElem? (i := 935) (by decide +kernel)) rfl, tbl_in (List.mem_of_getElem? (i := 936) (by decide +kernel)) rfl, rfl, by decide⟩
theorem cv_R_read : CV me_R_read 1 7 := ⟨mok_R_read, tbl_in (List.mem_of_getElem? (i := 939) (by decide +kernel)) rfl, tbl_in (List.mem_of_getElem? (i := 940) (by decide +kernel)) rfl, rfl, by decide⟩
theorem cv_R_asTold : CV me_R_asTold 0 7 := ⟨mok_R_asTold, tbl_in (List.mem_of_getElem? (i := 964) (by decide +kernel)) rfl, tbl_sel (q := (⟨"BoatNamesModel", "asTold", "()V"⟩, 43)) (List.mem_of_getElem? (i := 41) (by decide +kernel)), rfl, by decide⟩
theorem cv_R_storms : CV me_R_storms 0 7 := ⟨mok_R_storms, tbl_in (List.mem_of_getElem? (i := 983) (by decide +kernel)) rfl, tbl_sel (q := (⟨"BoatNamesModel", "storms", "()V"⟩, 43)) (List.mem_of_getElem? (i := 45) (by decide +kernel)), rfl, by decide⟩
theorem cv_R_shares : CV me_R_shares 1 7 := ⟨mok_R_shares, tbl_in (List.mem_of_getElem? (i := 987) (by decide +kernel)) rfl, tbl_sel (q := (⟨"BoatNamesModel", "shares", "(I)V"⟩, 43)) (List.mem_of_getElem? (i := 46) (by decide +kernel)), rfl, by decide⟩
theorem cv_R_makesUp : CV me_R_makesUp 1 7 := ⟨mok_R_makesUp, tbl_in (List.mem_of_getElem? (i := 991) (by decide +kernel)) rfl, tbl_sel (q := (⟨"BoatNamesModel", "makesUp", "(I)V"⟩, 43)) (List.mem_of_getElem? (i := 47) (by decide +kernel)), rfl, by decide⟩
theorem cv_R_befalls : CV me_R_befalls 1 7 := ⟨mok_R_befalls, tbl_in (List.mem_of_getElem? (i := 979) (by decide +kernel)) rfl, tbl_sel (q := (⟨"BoatNamesModel", "befalls", "(I)V"⟩, 43)) (List.mem_of_getElem? (i := 44) (by decide +kernel)), rfl, by decide⟩
theorem cv_R_launches : CV me_R_launches 1 7 := ⟨mok_R_launches, tbl_in (List.mem_of_getElem? (i := 995) (by decide +kernel)) rfl, tbl_sel (q := (⟨"BoatNamesModel", "launches", "(I)V"⟩, 43)) (List.mem_of_getElem? (i := 48) (by decide +kernel)), rfl, by decide⟩
theorem cv_R_sails : CV me_R_sails 2 7 := ⟨mok_R_sails, tbl_in (List.mem_of_getElem? (i := 999) (by decide +kernel)) rfl, tbl_sel (q := (⟨"BoatNamesModel", "sails", "(II)V"⟩, 43)) (List.mem_of_getElem? (i := 49) (by decide +kernel)), rfl, by decide⟩
theorem cv_R_goesBy : CV me_R_goesBy 1 7 := ⟨mok_R_goesBy, tbl_in (List.mem_of_getElem? (i := 972) (by decide +kernel)) rfl, tbl_sel (q := (⟨"BoatNamesModel", "goesBy", "(I)V"⟩, 43)) (List.mem_of_getElem? (i := 43) (by decide +kernel)), rfl, by decide⟩
theorem cv_R_runs : CV me_R_runs 0 7 := ⟨mok_R_runs, tbl_in (List.mem_of_getElem? (i := 968) (by decide +kernel)) rfl, tbl_sel (q := (⟨"BoatNamesModel", "runs", "()V"⟩, 43)) (List.mem_of_getElem? (i := 42) (by decide +kernel)), rfl, by decide⟩
theorem cv_R_runsTold : CV me_R_runsTold 0 7 := ⟨mok_R_runsTold, tbl_in (List.mem_of_getElem? (i := 960) (by decide +kernel)) rfl, tbl_sel (q := (⟨"BoatNamesModel", "runsTold", "()V"⟩, 43)) (List.mem_of_getElem? (i := 40) (by decide +kernel)), rfl, by decide⟩
theorem cv_R_hatesOf : CV me_R_hatesOf 3 7 := ⟨mok_R_hatesOf, tbl_in (List.mem_of_getElem? (i := 956) (by decide +kernel)) rfl, tbl_sel (q := (⟨"BoatNamesModel", "hatesOf", "(III)I"⟩, 43)) (List.mem_of_getElem? (i := 39) (by decide +kernel)), rfl, by decide⟩
theorem cv_R_hates : CV me_R_hates 3 7 := ⟨mok_R_hates, tbl_in (List.mem_of_getElem? (i := 951) (by decide +kernel)) rfl, tbl_in (List.mem_of_getElem? (i := 952) (by decide +kernel)) rfl, rfl, by decide⟩
theorem cv_R_atOf : CV me_R_atOf 3 7 := ⟨mok_R_atOf, tbl_in (List.mem_of_getElem? (i := 1007) (by decide +kernel)) rfl, tbl_sel (q := (⟨"BoatNamesModel", "atOf", "(III)I"⟩, 43)) (List.mem_of_getElem? (i := 50) (by decide +kernel)), rfl, by decide⟩
theorem cv_R_at : CV me_R_at 3 7 := ⟨mok_R_at, tbl_in (List.mem_of_getElem? (i := 1002) (by decide +kernel)) rfl, tbl_in (List.mem_of_getElem? (i := 1003) (by decide +kernel)) rfl, rfl, by decide⟩
theorem cv_R_manyAt : CV me_R_manyAt 2 7 := ⟨mok_R_manyAt, tbl_in (List.mem_of_getElem? (i := 1019) (by decide +kernel)) rfl, tbl_sel (q := (⟨"BoatNamesModel", "manyAt", "(II)I"⟩, 43)) (List.mem_of_getElem? (i := 52) (by decide +kernel)), rfl, by decide⟩
theorem cv_R_afloatOf : CV me_R_afloatOf 1 7 := ⟨mok_R_afloatOf, tbl_in (List.mem_of_getElem? (i := 1015) (by decide +kernel)) rfl, tbl_sel (q := (⟨"BoatNamesModel", "afloatOf", "(I)I"⟩, 43)) (List.mem_of_getElem? (i := 51) (by decide +kernel)), rfl, by decide⟩
theorem cv_R_afloat : CV me_R_afloat 1 7 := ⟨mok_R_afloat, tbl_in (List.mem_of_getElem? (i := 1010) (by decide +kernel)) rfl, tbl_in (List.mem_of_getElem? (i := 1011) (by decide +kernel)) rfl, rfl, by decide⟩
theorem cv_R_namedOf : CV me_R_namedOf 2 7 := ⟨mok_R_namedOf, tbl_in (List.mem_of_getElem? (i := 1030) (by decide +kernel)) rfl, tbl_sel (q := (⟨"BoatNamesModel", "namedOf", "(II)I"⟩, 43)) (List.mem_of_getElem? (i := 53) (by decide +kernel)), rfl, by decide⟩
theorem cv_R_named : CV me_R_named 2 7 := ⟨mok_R_named, tbl_in (List.mem_of_getElem? (i := 1022) (by decide +kernel)) rfl, tbl_in (List.mem_of_getElem? (i := 1023) (by decide +kernel)) rfl, rfl, by decide⟩
theorem cv_R_firstOf : CV me_R_firstOf 1 7 := ⟨mok_R_firstOf, tbl_in (List.mem_of_getElem? (i := 1038) (by decide +kernel)) rfl, tbl_sel (q := (⟨"BoatNamesModel", "firstOf", "(I)I"⟩, 43)) (List.mem_of_getElem? (i := 54) (by decide +kernel)), rfl, by decide⟩
theorem cv_R_first : CV me_R_first 1 7 := ⟨mok_R_first, tbl_in (List.mem_of_getElem? (i := 1033) (by decide +kernel)) rfl, tbl_in (List.mem_of_getElem? (i := 1034) (by decide +kernel)) rfl, rfl, by decide⟩
theorem cv_R_lovedOf : CV me_R_lovedOf 0 7 := ⟨mok_R_lovedOf, tbl_in (List.mem_of_getElem? (i := 1046) (by decide +kernel)) rfl, tbl_sel (q := (⟨"BoatNamesModel", "lovedOf", "()I"⟩, 43)) (List.mem_of_getElem? (i := 55) (by decide +kernel)), rfl, by decide⟩
theorem cv_R_loved : CV me_R_loved 0 7 := ⟨mok_R_loved, tbl_in (List.mem_of_getElem? (i := 1041) (by decide +kernel)) rfl, tbl_in (List.mem_of_getElem? (i := 1042) (by decide +kernel)) rfl, rfl, by decide⟩
theorem cv_R_hatesAll : CV me_R_hatesAll 1 7 := ⟨mok_R_hatesAll, tbl_in (List.mem_of_getElem? (i := 1058) (by decide +kernel)) rfl, tbl_sel (q := (⟨"BoatNamesModel", "hatesAll", "(I)I"⟩, 43)) (List.mem_of_getElem? (i := 57) (by decide +kernel)), rfl, by decide⟩
theorem cv_R_bitterOf : CV me_R_bitterOf 0 7 := ⟨mok_R_bitterOf, tbl_in (List.mem_of_getElem? (i := 1054) (by decide +kernel)) rfl, tbl_sel (q := (⟨"BoatNamesModel", "bitterOf", "()I"⟩, 43)) (List.mem_of_getElem? (i := 56) (by decide +kernel)), rfl, by decide⟩
theorem cv_R_bitter : CV me_R_bitter 0 7 := ⟨mok_R_bitter, tbl_in (List.mem_of_getElem? (i := 1049) (by decide +kernel)) rfl, tbl_in (List.mem_of_getElem? (i := 1050) (by decide +kernel)) rfl, rfl, by decide⟩
theorem cv_R_longNow : CV me_R_longNow 1 7 := ⟨mok_R_longNow, tbl_in (List.mem_of_getElem? (i := 1070) (by decide +kernel)) rfl, tbl_sel (q := (⟨"BoatNamesModel", "longNow", "(I)I"⟩, 43)) (List.mem_of_getElem? (i := 59) (by decide +kernel)), rfl, by decide⟩
theorem cv_R_longOf : CV me_R_longOf 1 7 := ⟨mok_R_longOf, tbl_in (List.mem_of_getElem? (i := 1066) (by decide +kernel)) rfl, tbl_sel (q := (⟨"BoatNamesModel", "longOf", "(I)I"⟩, 43)) (List.mem_of_getElem? (i := 58) (by decide +kernel)), rfl, by decide⟩
theorem cv_R_longs : CV me_R_longs 1 7 := ⟨mok_R_longs, tbl_in (List.mem_of_getElem? (i := 1061) (by decide +kernel)) rfl, tbl_in (List.mem_of_getElem? (i := 1062) (by decide +kernel)) rfl, rfl, by decide⟩
theorem cv_R_wrongOf : CV me_R_wrongOf 2 7 := ⟨mok_R_wrongOf, tbl_in (List.mem_of_getElem? (i := 1078) (by decide +kernel)) rfl, tbl_sel (q := (⟨"BoatNamesModel", "wrongOf", "(II)I"⟩, 43)) (List.mem_of_getElem? (i := 60) (by decide +kernel)), rfl, by decide⟩
theorem cv_R_wrong : CV me_R_wrong 2 7 := ⟨mok_R_wrong, tbl_in (List.mem_of_getElem? (i := 1073) (by decide +kernel)) rfl, tbl_in (List.mem_of_getElem? (i := 1074) (by decide +kernel)) rfl, rfl, by decide⟩
theorem cv_R_payOf : CV me_R_payOf 2 7 := ⟨mok_R_payOf, tbl_in (List.mem_of_getElem? (i := 1086) (by decide +kernel)) rfl, tbl_sel (q := (⟨"BoatNamesModel", "payOf", "(II)I"⟩, 43)) (List.mem_of_getElem? (i := 61) (by decide +kernel)), rfl, by decide⟩
theorem cv_R_pay : CV me_R_pay 2 7 := ⟨mok_R_pay, tbl_in (List.mem_of_getElem? (i := 1081) (by decide +kernel)) rfl, tbl_in (List.mem_of_getElem? (i := 1082) (by decide +kernel)) rfl, rfl, by decide⟩
theorem cv_R_waitsOf : CV me_R_waitsOf 2 7 := ⟨mok_R_waitsOf, tbl_in (List.mem_of_getElem? (i := 1094) (by decide +kernel)) rfl, tbl_sel (q := (⟨"BoatNamesModel", "waitsOf", "(II)I"⟩, 43)) (List.mem_of_getElem? (i := 62) (by decide +kernel)), rfl, by decide⟩
theorem cv_R_waits : CV me_R_waits 2 7 := ⟨mok_R_waits, tbl_in (List.mem_of_getElem? (i := 1089) (by decide +kernel)) rfl, tbl_in (List.mem_of_getElem? (i := 1090) (by decide +kernel)) rfl, rfl, by decide⟩
theorem cv_R_isSpared : CV me_R_isSpared 1 7 := ⟨mok_R_isSpared, tbl_in (List.mem_of_getElem? (i := 1106) (by decide +kernel)) rfl, tbl_sel (q := (⟨"BoatNamesModel", "isSpared", "(I)Z"⟩, 43)) (List.mem_of_getElem? (i := 64) (by decide +kernel)), rfl, by decide⟩
theorem cv_R_spareBy : CV me_R_spareBy 0 7 := ⟨mok_R_spareBy, tbl_in (List.mem_of_getElem? (i := 1102) (by decide +kernel)) rfl, tbl_sel (q := (⟨"BoatNamesModel", "spareBy", "()I"⟩, 43)) (List.mem_of_getElem? (i := 63) (by decide +kernel)), rfl, by decide⟩
theorem cv_R_ofRow : CV me_R_ofRow 2 7 := ⟨mok_R_ofRow, tbl_in (List.mem_of_getElem? (i := 1110) (by decide +kernel)) rfl, tbl_sel (q := (⟨"BoatNamesModel", "ofRow", "(II)I"⟩, 43)) (List.mem_of_getElem? (i := 65) (by decide +kernel)), rfl, by decide⟩
theorem cv_R_spare : CV me_R_spare 1 7 := ⟨mok_R_spare, tbl_in (List.mem_of_getElem? (i := 1097) (by decide +kernel)) rfl, tbl_in (List.mem_of_getElem? (i := 1098) (by decide +kernel)) rfl, rfl, by decide⟩
theorem cv_R_seen : CV me_R_seen 3 7 := ⟨mok_R_seen, tbl_in (List.mem_of_getElem? (i := 1113) (by decide +kernel)) rfl, tbl_in (List.mem_of_getElem? (i := 1114) (by decide +kernel)) rfl, rfl, by decide⟩
theorem cv_R_forget : CV me_R_forget 0 7 := ⟨mok_R_forget, tbl_in (List.mem_of_getElem? (i := 1117) (by decide +kernel)) rfl, tbl_in (List.mem_of_getElem? (i := 1118) (by decide +kernel)) rfl, rfl, by decide⟩
theorem cv_R_isSeen : CV me_R_isSeen 0 7 := ⟨mok_R_isSeen, tbl_in (List.mem_of_getElem? (i := 1130) (by decide +kernel)) rfl, tbl_sel (q := (⟨"BoatNamesModel", "isSeen", "()Z"⟩, 43)) (List.mem_of_getElem? (i := 67) (by decide +kernel)), rfl, by decide⟩
theorem cv_R_neverNow : CV me_R_neverNow 0 7 := ⟨mok_R_neverNow, tbl_in (List.mem_of_getElem? (i := 1126) (by decide +kernel)) rfl, tbl_sel (q := (⟨"BoatNamesModel", "neverNow", "()I"⟩, 43)) (List.mem_of_getElem? (i := 66) (by decide +kernel)), rfl, by decide⟩
theorem cv_R_never : CV me_R_never 0 7 := ⟨mok_R_never, tbl_in (List.mem_of_getElem? (i := 1121) (by decide +kernel)) rfl, tbl_in (List.mem_of_getElem? (i := 1122) (by decide +kernel)) rfl, rfl, by decide⟩
theorem cv_R_sortsBy : CV me_R_sortsBy 1 7 := ⟨mok_R_sortsBy, tbl_in (List.mem_of_getElem? (i := 1138) (by decide +kernel)) rfl, tbl_sel (q := (⟨"BoatNamesModel", "sortsBy", "(I)I"⟩, 43)) (List.mem_of_getElem? (i := 68) (by decide +kernel)), rfl, by decide⟩
theorem cv_R_sort : CV me_R_sort 1 7 := ⟨mok_R_sort, tbl_in (List.mem_of_getElem? (i := 1133) (by decide +kernel)) rfl, tbl_in (List.mem_of_getElem? (i := 1134) (by decide +kernel)) rfl, rfl, by decide⟩
theorem cv_R_namesAll : CV me_R_namesAll 1 7 := ⟨mok_R_namesAll, tbl_in (List.mem_of_getElem? (i := 1150) (by decide +kernel)) rfl, tbl_sel (q := (⟨"BoatNamesModel", "namesAll", "(I)I"⟩, 43)) (List.mem_of_getElem? (i := 70) (by decide +kernel)), rfl, by decide⟩
theorem cv_R_hatedBy : CV me_R_hatedBy 2 7 := ⟨mok_R_hatedBy, tbl_in (List.mem_of_getElem? (i := 1146) (by decide +kernel)) rfl, tbl_sel (q := (⟨"BoatNamesModel", "hatedBy", "(II)I"⟩, 43)) (List.mem_of_getElem? (i := 69) (by decide +kernel)), rfl, by decide⟩
theorem cv_R_hated : CV me_R_hated 2 7 := ⟨mok_R_hated, tbl_in (List.mem_of_getElem? (i := 1141) (by decide +kernel)) rfl, tbl_in (List.mem_of_getElem? (i := 1142) (by decide +kernel)) rfl, rfl, by decide⟩
theorem cv_R_askOf : CV me_R_askOf 2 7 := ⟨mok_R_askOf, tbl_in (List.mem_of_getElem? (i := 1158) (by decide +kernel)) rfl, tbl_sel (q := (⟨"BoatNamesModel", "askOf", "(II)I"⟩, 43)) (List.mem_of_getElem? (i := 71) (by decide +kernel)), rfl, by decide⟩
theorem cv_R_ask : CV me_R_ask 2 7 := ⟨mok_R_ask, tbl_in (List.mem_of_getElem? (i := 1153) (by decide +kernel)) rfl, tbl_in (List.mem_of_getElem? (i := 1154) (by decide +kernel)) rfl, rfl, by decide⟩
theorem cv_R_chanceOf : CV me_R_chanceOf 3 7 := ⟨mok_R_chanceOf, tbl_in (List.mem_of_getElem? (i := 1166) (by decide +kernel)) rfl, tbl_sel (q := (⟨"BoatNamesModel", "chanceOf", "(III)J"⟩, 43)) (List.mem_of_getElem? (i := 72) (by decide +kernel)), rfl, by decide⟩
theorem cv_R_chance : CV me_R_chance 3 7 := ⟨mok_R_chance, tbl_in (List.mem_of_getElem? (i := 1161) (by decide +kernel)) rfl, tbl_in (List.mem_of_getElem? (i := 1162) (by decide +kernel)) rfl, rfl, by decide⟩
theorem cv_R_decadesOf : CV me_R_decadesOf 3 7 := ⟨mok_R_decadesOf, tbl_in (List.mem_of_getElem? (i := 1181) (by decide +kernel)) rfl, tbl_sel (q := (⟨"BoatNamesModel", "decadesOf", "(III)I"⟩, 43)) (List.mem_of_getElem? (i := 73) (by decide +kernel)), rfl, by decide⟩
theorem cv_R_decades : CV me_R_decades 3 7 := ⟨mok_R_decades, tbl_in (List.mem_of_getElem? (i := 1176) (by decide +kernel)) rfl, tbl_in (List.mem_of_getElem? (i := 1177) (by decide +kernel)) rfl, rfl, by decide⟩
theorem cv_R_meets : CV me_R_meets 1 7 := ⟨mok_R_meets, tbl_in (List.mem_of_getElem? (i := 947) (by decide +kernel)) rfl, tbl_sel (q := (⟨"BoatNamesModel", "meets", "(I)I"⟩, 43)) (List.mem_of_getElem? (i := 38) (by decide +kernel)), rfl, by decide⟩
theorem cs_R_isSheet : CS me_R_isSheet 1 := ⟨mok_R_isSheet, tbl_in (List.mem_of_getElem? (i := 943) (by decide +kernel)) rfl, by decide⟩
theorem cv_R_sheet : CV me_R_sheet 3 7 := ⟨mok_R_sheet, tbl_in (List.mem_of_getElem? (i := 1185) (by decide +kernel)) rfl, tbl_in (List.mem_of_getElem? (i := 1186) (by decide +kernel)) rfl, rfl, by decide⟩
theorem cv_R_lose : CV me_R_lose 1 7 := ⟨mok_R_lose, tbl_in (List.mem_of_getElem? (i := 1189) (by decide +kernel)) rfl, tbl_in (List.mem_of_getElem? (i := 1190) (by decide +kernel)) rfl, rfl, by decide⟩
theorem cv_R_lacks : CV me_R_lacks 3 7 := ⟨mok_R_lacks, tbl_in (List.mem_of_getElem? (i := 1198) (by decide +kernel)) rfl, tbl_sel (q := (⟨"BoatNamesModel", "lacks", "(III)I"⟩, 43)) (List.mem_of_getElem? (i := 74) (by decide +kernel)), rfl, by decide⟩
theorem cv_R_keep : CV me_R_keep 3 7 := ⟨mok_R_keep, tbl_in (List.mem_of_getElem? (i := 1202) (by decide +kernel)) rfl, tbl_sel (q := (⟨"BoatNamesModel", "keep", "(III)V"⟩, 43)) (List.mem_of_getElem? (i := 75) (by decide +kernel)), rfl, by decide⟩
theorem cv_R_put : CV me_R_put 4 7 := ⟨mok_R_put, tbl_in (List.mem_of_getElem? (i := 1193) (by decide +kernel)) rfl, tbl_in (List.mem_of_getElem? (i := 1194) (by decide +kernel)) rfl, rfl, by decide⟩
theorem cv_R_get : CV me_R_get 3 7 := ⟨mok_R_get, tbl_in (List.mem_of_getElem? (i := 1205) (by decide +kernel)) rfl, tbl_in (List.mem_of_getElem? (i := 1206) (by decide +kernel)) rfl, rfl, by decide⟩
theorem cv_R_copy : CV me_R_copy 5 7 := ⟨mok_R_copy, tbl_in (List.mem_of_getElem? (i := 1210) (by decide +kernel)) rfl, tbl_in (List.mem_of_getElem? (i := 1211) (by decide +kernel)) rfl, rfl, by decide⟩
theorem cv_R_write : CV me_R_write 2 7 := ⟨mok_R_write, tbl_in (List.mem_of_getElem? (i := 1214) (by decide +kernel)) rfl, tbl_in (List.mem_of_getElem? (i := 1215) (by decide +kernel)) rfl, rfl, by decide⟩
theorem cv_R_sumOf : CV me_R_sumOf 1 7 := ⟨mok_R_sumOf, tbl_in (List.mem_of_getElem? (i := 1223) (by decide +kernel)) rfl, tbl_sel (q := (⟨"BoatNamesModel", "sumOf", "(I)I"⟩, 43)) (List.mem_of_getElem? (i := 76) (by decide +kernel)), rfl, by decide⟩
theorem cv_R_count : CV me_R_count 1 7 := ⟨mok_R_count, tbl_in (List.mem_of_getElem? (i := 1218) (by decide +kernel)) rfl, tbl_in (List.mem_of_getElem? (i := 1219) (by decide +kernel)) rfl, rfl, by decide⟩
theorem cv_R_weekDigest : CV me_R_weekDigest 3 7 := ⟨mok_R_weekDigest, tbl_in (List.mem_of_getElem? (i := 1238) (by decide +kernel)) rfl, tbl_sel (q := (⟨"BoatNamesModel", "weekDigest", "(JII)J"⟩, 43)) (List.mem_of_getElem? (i := 78) (by decide +kernel)), rfl, by decide⟩
theorem cv_R_boatDigest : CV me_R_boatDigest 2 7 := ⟨mok_R_boatDigest, tbl_in (List.mem_of_getElem? (i := 1234) (by decide +kernel)) rfl, tbl_sel (q := (⟨"BoatNamesModel", "boatDigest", "(JI)J"⟩, 43)) (List.mem_of_getElem? (i := 77) (by decide +kernel)), rfl, by decide⟩
theorem cv_R_personDigest : CV me_R_personDigest 2 7 := ⟨mok_R_personDigest, tbl_in (List.mem_of_getElem? (i := 1242) (by decide +kernel)) rfl, tbl_sel (q := (⟨"BoatNamesModel", "personDigest", "(JI)J"⟩, 43)) (List.mem_of_getElem? (i := 79) (by decide +kernel)), rfl, by decide⟩
theorem cv_R_digest : CV me_R_digest 0 7 := ⟨mok_R_digest, tbl_in (List.mem_of_getElem? (i := 1226) (by decide +kernel)) rfl, tbl_in (List.mem_of_getElem? (i := 1227) (by decide +kernel)) rfl, rfl, by decide⟩
theorem cs_J_bitCount : CS me_J_bitCount 1 := ⟨mok_J_bitCount, tbl_in (List.mem_of_getElem? (i := 512) (by decide +kernel)) rfl, by decide⟩
theorem cs_J_fillj : CS me_J_fillj 2 := ⟨mok_J_fillj, tbl_in (List.mem_of_getElem? (i := 592) (by decide +kernel)) rfl, by decide⟩
theorem cs_J_filli : CS me_J_filli 2 := ⟨mok_J_filli, tbl_in (List.mem_of_getElem? (i := 295) (by decide +kernel)) rfl, by decide⟩
theorem lk_8_13 : Cond.methodLink "BoatNamesLaw" 13 (mnm me_N_type) ∈ tbl := tbl_in (List.mem_of_getElem? (i := 251) (by decide +kernel)) rfl
theorem lk_6_73 : Cond.methodLink "BoatNames" 73 (mnm me_N_isBelow) ∈ tbl := tbl_in (List.mem_of_getElem? (i := 255) (by decide +kernel)) rfl
theorem lk_6_77 : Cond.methodLink "BoatNames" 77 (mnm me_N_textOf) ∈ tbl := tbl_in (List.mem_of_getElem? (i := 258) (by decide +kernel)) rfl
theorem lk_6_81 : Cond.methodLink "BoatNames" 81 (mnm me_X_isFull) ∈ tbl := tbl_in (List.mem_of_getElem? (i := 262) (by decide +kernel)) rfl
theorem lk_6_85 : Cond.methodLink "BoatNames" 85 (mnm me_X_append) ∈ tbl := tbl_in (List.mem_of_getElem? (i := 266) (by decide +kernel)) rfl
theorem lk_6_88 : Cond.methodLink "BoatNames" 88 (mnm me_N_hear) ∈ tbl := tbl_in (List.mem_of_getElem? (i := 270) (by decide +kernel)) rfl
theorem lk_6_352 : Cond.methodLink "BoatNames" 352 (mnm me_T_hearHates) ∈ tbl := tbl_in (List.mem_of_getElem? (i := 274) (by decide +kernel)) rfl
theorem lk_3_55 : Cond.methodLink "BoatNames$Telling" 55 (mnm me_X_findHatesFault) ∈ tbl := tbl_in (List.mem_of_getElem? (i := 278) (by decide +kernel)) rfl
theorem lk_4_22 : Cond.methodLink "BoatNames$Text" 22 (mnm me_X_isHateByte) ∈ tbl := tbl_in (List.mem_of_getElem? (i := 282) (by decide +kernel)) rfl
theorem lk_4_33 : Cond.methodLink "BoatNames$Text" 33 (mnm me_X_has) ∈ tbl := tbl_in (List.mem_of_getElem? (i := 286) (by decide +kernel)) rfl
theorem lk_4_26 : Cond.methodLink "BoatNames$Text" 26 (mnm me_X_faultOfEnd) ∈ tbl := tbl_in (List.mem_of_getElem? (i := 290) (by decide +kernel)) rfl
theorem lk_3_60 : Cond.methodLink "BoatNames$Telling" 60 (mnm me_J_filli) ∈ tbl := tbl_in (List.mem_of_getElem? (i := 294) (by decide +kernel)) rfl
theorem lk_3_72 : Cond.methodLink "BoatNames$Telling" 72 (mnm me_X_figure) ∈ tbl := tbl_in (List.mem_of_getElem? (i := 297) (by decide +kernel)) rfl
theorem lk_6_356 : Cond.methodLink "BoatNames" 356 (mnm me_T_hearBoats) ∈ tbl := tbl_in (List.mem_of_getElem? (i := 304) (by decide +kernel)) rfl
theorem lk_3_80 : Cond.methodLink "BoatNames$Telling" 80 (mnm me_X_findBoatsFault) ∈ tbl := tbl_in (List.mem_of_getElem? (i := 308) (by decide +kernel)) rfl
theorem lk_4_30 : Cond.methodLink "BoatNames$Text" 30 (mnm me_X_isBoatByte) ∈ tbl := tbl_in (List.mem_of_getElem? (i := 312) (by decide +kernel)) rfl
theorem lk_4_37 : Cond.methodLink "BoatNames$Text" 37 (mnm me_X_sortOf) ∈ tbl := tbl_in (List.mem_of_getElem? (i := 316) (by decide +kernel)) rfl
theorem lk_3_86 : Cond.methodLink "BoatNames$Telling" 86 (mnm me_X_sortOf) ∈ tbl := tbl_in (List.mem_of_getElem? (i := 319) (by decide +kernel)) rfl
theorem lk_8_18 : Cond.methodLink "BoatNamesLaw" 18 (mnm me_N_wipe) ∈ tbl := tbl_in (List.mem_of_getElem? (i := 320) (by decide +kernel)) rfl
theorem lk_8_23 : Cond.methodLink "BoatNamesLaw" 23 (mnm me_N_undo) ∈ tbl := tbl_in (List.mem_of_getElem? (i := 324) (by decide +kernel)) rfl
theorem lk_8_27 : Cond.methodLink "BoatNamesLaw" 27 (mnm me_N_fault) ∈ tbl := tbl_in (List.mem_of_getElem? (i := 328) (by decide +kernel)) rfl
theorem lk_8_31 : Cond.methodLink "BoatNamesLaw" 31 (mnm me_N_told) ∈ tbl := tbl_in (List.mem_of_getElem? (i := 332) (by decide +kernel)) rfl
theorem lk_6_97 : Cond.methodLink "BoatNames" 97 (mnm me_N_areTwo) ∈ tbl := tbl_in (List.mem_of_getElem? (i := 336) (by decide +kernel)) rfl
theorem lk_6_103 : Cond.methodLink "BoatNames" 103 (mnm me_N_pair) ∈ tbl := tbl_in (List.mem_of_getElem? (i := 339) (by decide +kernel)) rfl
theorem lk_8_35 : Cond.methodLink "BoatNamesLaw" 35 (mnm me_N_boat) ∈ tbl := tbl_in (List.mem_of_getElem? (i := 340) (by decide +kernel)) rfl
theorem lk_6_107 : Cond.methodLink "BoatNames" 107 (mnm me_N_isBoat) ∈ tbl := tbl_in (List.mem_of_getElem? (i := 344) (by decide +kernel)) rfl
theorem lk_8_39 : Cond.methodLink "BoatNamesLaw" 39 (mnm me_N_event) ∈ tbl := tbl_in (List.mem_of_getElem? (i := 348) (by decide +kernel)) rfl
theorem lk_6_126 : Cond.methodLink "BoatNames" 126 (mnm me_T_addEvent) ∈ tbl := tbl_in (List.mem_of_getElem? (i := 352) (by decide +kernel)) rfl
theorem lk_8_44 : Cond.methodLink "BoatNamesLaw" 44 (mnm me_N_back) ∈ tbl := tbl_in (List.mem_of_getElem? (i := 356) (by decide +kernel)) rfl
theorem lk_8_49 : Cond.methodLink "BoatNamesLaw" 49 (mnm me_N_read) ∈ tbl := tbl_in (List.mem_of_getElem? (i := 360) (by decide +kernel)) rfl
theorem lk_6_134 : Cond.methodLink "BoatNames" 134 (mnm me_N_find) ∈ tbl := tbl_in (List.mem_of_getElem? (i := 364) (by decide +kernel)) rfl
theorem lk_6_142 : Cond.methodLink "BoatNames" 142 (mnm me_N_event) ∈ tbl := tbl_in (List.mem_of_getElem? (i := 368) (by decide +kernel)) rfl
theorem lk_8_53 : Cond.methodLink "BoatNamesLaw" 53 (mnm me_N_hates) ∈ tbl := tbl_in (List.mem_of_getElem? (i := 369) (by decide +kernel)) rfl
theorem lk_6_146 : Cond.methodLink "BoatNames" 146 (mnm me_V_run) ∈ tbl := tbl_in (List.mem_of_getElem? (i := 373) (by decide +kernel)) rfl
theorem lk_5_50 : Cond.methodLink "BoatNames$Voyage" 50 (mnm me_V_begin) ∈ tbl := tbl_in (List.mem_of_getElem? (i := 377) (by decide +kernel)) rfl
theorem lk_5_61 : Cond.methodLink "BoatNames$Voyage" 61 arraycopyName ∈ tbl := tbl_in (List.mem_of_getElem? (i := 381) (by decide +kernel)) rfl
theorem lk_5_68 : Cond.methodLink "BoatNames$Voyage" 68 (mnm me_J_filli) ∈ tbl := tbl_in (List.mem_of_getElem? (i := 384) (by decide +kernel)) rfl
theorem lk_5_54 : Cond.methodLink "BoatNames$Voyage" 54 (mnm me_V_sail) ∈ tbl := tbl_in (List.mem_of_getElem? (i := 385) (by decide +kernel)) rfl
theorem lk_5_80 : Cond.methodLink "BoatNames$Voyage" 80 (mnm me_T_isEventOf) ∈ tbl := tbl_in (List.mem_of_getElem? (i := 389) (by decide +kernel)) rfl
theorem lk_5_87 : Cond.methodLink "BoatNames$Voyage" 87 (mnm me_V_storm) ∈ tbl := tbl_in (List.mem_of_getElem? (i := 393) (by decide +kernel)) rfl
theorem lk_5_109 : Cond.methodLink "BoatNames$Voyage" 109 Lib.Math.max.name ∈ tbl := tbl_in (List.mem_of_getElem? (i := 397) (by decide +kernel)) rfl
theorem lk_5_93 : Cond.methodLink "BoatNames$Voyage" 93 (mnm me_V_settle) ∈ tbl := tbl_in (List.mem_of_getElem? (i := 400) (by decide +kernel)) rfl
theorem lk_5_100 : Cond.methodLink "BoatNames$Voyage" 100 (mnm me_V_launch) ∈ tbl := tbl_in (List.mem_of_getElem? (i := 404) (by decide +kernel)) rfl
theorem lk_5_118 : Cond.methodLink "BoatNames$Voyage" 118 (mnm me_V_worstEnemy) ∈ tbl := tbl_in (List.mem_of_getElem? (i := 408) (by decide +kernel)) rfl
theorem lk_5_103 : Cond.methodLink "BoatNames$Voyage" 103 (mnm me_V_bear) ∈ tbl := tbl_in (List.mem_of_getElem? (i := 413) (by decide +kernel)) rfl
theorem lk_5_125 : Cond.methodLink "BoatNames$Voyage" 125 (mnm me_V_sink) ∈ tbl := tbl_in (List.mem_of_getElem? (i := 417) (by decide +kernel)) rfl
theorem lk_8_57 : Cond.methodLink "BoatNamesLaw" 57 (mnm me_N_at) ∈ tbl := tbl_in (List.mem_of_getElem? (i := 421) (by decide +kernel)) rfl
theorem lk_8_61 : Cond.methodLink "BoatNamesLaw" 61 (mnm me_N_afloat) ∈ tbl := tbl_in (List.mem_of_getElem? (i := 425) (by decide +kernel)) rfl
theorem lk_6_161 : Cond.methodLink "BoatNames" 161 (mnm me_V_howMany) ∈ tbl := tbl_in (List.mem_of_getElem? (i := 429) (by decide +kernel)) rfl
theorem lk_8_65 : Cond.methodLink "BoatNamesLaw" 65 (mnm me_N_named) ∈ tbl := tbl_in (List.mem_of_getElem? (i := 433) (by decide +kernel)) rfl
theorem lk_6_164 : Cond.methodLink "BoatNames" 164 (mnm me_V_namesakes) ∈ tbl := tbl_in (List.mem_of_getElem? (i := 437) (by decide +kernel)) rfl
theorem lk_8_69 : Cond.methodLink "BoatNamesLaw" 69 (mnm me_N_first) ∈ tbl := tbl_in (List.mem_of_getElem? (i := 441) (by decide +kernel)) rfl
theorem lk_8_73 : Cond.methodLink "BoatNamesLaw" 73 (mnm me_N_loved) ∈ tbl := tbl_in (List.mem_of_getElem? (i := 445) (by decide +kernel)) rfl
theorem lk_6_174 : Cond.methodLink "BoatNames" 174 (mnm me_V_worstEnemy) ∈ tbl := tbl_in (List.mem_of_getElem? (i := 449) (by decide +kernel)) rfl
theorem lk_8_77 : Cond.methodLink "BoatNamesLaw" 77 (mnm me_N_bitter) ∈ tbl := tbl_in (List.mem_of_getElem? (i := 450) (by decide +kernel)) rfl
theorem lk_6_177 : Cond.methodLink "BoatNames" 177 (mnm me_B_clear) ∈ tbl := tbl_in (List.mem_of_getElem? (i := 454) (by decide +kernel)) rfl
theorem lk_6_180 : Cond.methodLink "BoatNames" 180 (mnm me_V_hatredOf) ∈ tbl := tbl_in (List.mem_of_getElem? (i := 458) (by decide +kernel)) rfl
theorem lk_6_183 : Cond.methodLink "BoatNames" 183 (mnm me_B_offer) ∈ tbl := tbl_in (List.mem_of_getElem? (i := 462) (by decide +kernel)) rfl
theorem lk_8_81 : Cond.methodLink "BoatNamesLaw" 81 (mnm me_N_longs) ∈ tbl := tbl_in (List.mem_of_getElem? (i := 466) (by decide +kernel)) rfl
theorem lk_8_85 : Cond.methodLink "BoatNamesLaw" 85 (mnm me_N_wrong) ∈ tbl := tbl_in (List.mem_of_getElem? (i := 470) (by decide +kernel)) rfl
theorem lk_6_193 : Cond.methodLink "BoatNames" 193 (mnm me_N_seekWrong) ∈ tbl := tbl_in (List.mem_of_getElem? (i := 474) (by decide +kernel)) rfl
theorem lk_6_220 : Cond.methodLink "BoatNames" 220 (mnm me_T_become) ∈ tbl := tbl_in (List.mem_of_getElem? (i := 478) (by decide +kernel)) rfl
theorem lk_3_49 : Cond.methodLink "BoatNames$Telling" 49 arraycopyName ∈ tbl := tbl_in (List.mem_of_getElem? (i := 482) (by decide +kernel)) rfl
theorem lk_8_89 : Cond.methodLink "BoatNamesLaw" 89 (mnm me_N_pay) ∈ tbl := tbl_in (List.mem_of_getElem? (i := 483) (by decide +kernel)) rfl
theorem lk_6_199 : Cond.methodLink "BoatNames" 199 (mnm me_N_seekPay) ∈ tbl := tbl_in (List.mem_of_getElem? (i := 487) (by decide +kernel)) rfl
theorem lk_8_93 : Cond.methodLink "BoatNamesLaw" 93 (mnm me_N_waits) ∈ tbl := tbl_in (List.mem_of_getElem? (i := 491) (by decide +kernel)) rfl
theorem lk_6_202 : Cond.methodLink "BoatNames" 202 (mnm me_N_seekWait) ∈ tbl := tbl_in (List.mem_of_getElem? (i := 495) (by decide +kernel)) rfl
theorem lk_8_97 : Cond.methodLink "BoatNamesLaw" 97 (mnm me_N_spare) ∈ tbl := tbl_in (List.mem_of_getElem? (i := 499) (by decide +kernel)) rfl
theorem lk_6_205 : Cond.methodLink "BoatNames" 205 (mnm me_N_spareBits) ∈ tbl := tbl_in (List.mem_of_getElem? (i := 503) (by decide +kernel)) rfl
theorem lk_6_359 : Cond.methodLink "BoatNames" 359 (mnm me_N_isSafeWithout) ∈ tbl := tbl_in (List.mem_of_getElem? (i := 507) (by decide +kernel)) rfl
theorem lk_6_209 : Cond.methodLink "BoatNames" 209 (mnm me_J_bitCount) ∈ tbl := tbl_in (List.mem_of_getElem? (i := 511) (by decide +kernel)) rfl
theorem lk_6_214 : Cond.methodLink "BoatNames" 214 (mnm me_N_placeOfBit) ∈ tbl := tbl_in (List.mem_of_getElem? (i := 517) (by decide +kernel)) rfl
theorem lk_8_101 : Cond.methodLink "BoatNamesLaw" 101 (mnm me_N_seen) ∈ tbl := tbl_in (List.mem_of_getElem? (i := 520) (by decide +kernel)) rfl
theorem lk_6_218 : Cond.methodLink "BoatNames" 218 (mnm me_G_append) ∈ tbl := tbl_in (List.mem_of_getElem? (i := 524) (by decide +kernel)) rfl
theorem lk_8_105 : Cond.methodLink "BoatNamesLaw" 105 (mnm me_N_forget) ∈ tbl := tbl_in (List.mem_of_getElem? (i := 528) (by decide +kernel)) rfl
theorem lk_8_109 : Cond.methodLink "BoatNamesLaw" 109 (mnm me_N_never) ∈ tbl := tbl_in (List.mem_of_getElem? (i := 532) (by decide +kernel)) rfl
theorem lk_6_226 : Cond.methodLink "BoatNames" 226 (mnm me_N_trialComesOutSo) ∈ tbl := tbl_in (List.mem_of_getElem? (i := 536) (by decide +kernel)) rfl
theorem lk_6_362 : Cond.methodLink "BoatNames" 362 (mnm me_G_fit) ∈ tbl := tbl_in (List.mem_of_getElem? (i := 540) (by decide +kernel)) rfl
theorem lk_2_35 : Cond.methodLink "BoatNames$Sightings" 35 (mnm me_V_nameBehind) ∈ tbl := tbl_in (List.mem_of_getElem? (i := 544) (by decide +kernel)) rfl
theorem lk_8_113 : Cond.methodLink "BoatNamesLaw" 113 (mnm me_N_sort) ∈ tbl := tbl_in (List.mem_of_getElem? (i := 548) (by decide +kernel)) rfl
theorem lk_8_117 : Cond.methodLink "BoatNamesLaw" 117 (mnm me_N_hated) ∈ tbl := tbl_in (List.mem_of_getElem? (i := 552) (by decide +kernel)) rfl
theorem lk_6_229 : Cond.methodLink "BoatNames" 229 (mnm me_N_seekHated) ∈ tbl := tbl_in (List.mem_of_getElem? (i := 556) (by decide +kernel)) rfl
theorem lk_6_366 : Cond.methodLink "BoatNames" 366 (mnm me_V_nameRow) ∈ tbl := tbl_in (List.mem_of_getElem? (i := 560) (by decide +kernel)) rfl
theorem lk_5_131 : Cond.methodLink "BoatNames$Voyage" 131 (mnm me_V_nameBehind) ∈ tbl := tbl_in (List.mem_of_getElem? (i := 564) (by decide +kernel)) rfl
theorem lk_8_121 : Cond.methodLink "BoatNamesLaw" 121 (mnm me_N_ask) ∈ tbl := tbl_in (List.mem_of_getElem? (i := 565) (by decide +kernel)) rfl
theorem lk_6_232 : Cond.methodLink "BoatNames" 232 (mnm me_N_weekToAsk) ∈ tbl := tbl_in (List.mem_of_getElem? (i := 569) (by decide +kernel)) rfl
theorem lk_6_369 : Cond.methodLink "BoatNames" 369 (mnm me_T_rowMask) ∈ tbl := tbl_in (List.mem_of_getElem? (i := 573) (by decide +kernel)) rfl
theorem lk_6_372 : Cond.methodLink "BoatNames" 372 (mnm me_N_greatestGroup) ∈ tbl := tbl_in (List.mem_of_getElem? (i := 577) (by decide +kernel)) rfl
theorem lk_6_375 : Cond.methodLink "BoatNames" 375 Lib.Math.max.name ∈ tbl := tbl_in (List.mem_of_getElem? (i := 581) (by decide +kernel)) rfl
theorem lk_8_125 : Cond.methodLink "BoatNamesLaw" 125 (mnm me_N_chance) ∈ tbl := tbl_in (List.mem_of_getElem? (i := 582) (by decide +kernel)) rfl
theorem lk_6_239 : Cond.methodLink "BoatNames" 239 (mnm me_N_weighSunk) ∈ tbl := tbl_in (List.mem_of_getElem? (i := 587) (by decide +kernel)) rfl
theorem lk_6_378 : Cond.methodLink "BoatNames" 378 (mnm me_J_fillj) ∈ tbl := tbl_in (List.mem_of_getElem? (i := 591) (by decide +kernel)) rfl
theorem lk_6_384 : Cond.methodLink "BoatNames" 384 (mnm me_T_weight) ∈ tbl := tbl_in (List.mem_of_getElem? (i := 594) (by decide +kernel)) rfl
theorem lk_6_387 : Cond.methodLink "BoatNames" 387 (mnm me_N_addWeight) ∈ tbl := tbl_in (List.mem_of_getElem? (i := 598) (by decide +kernel)) rfl
theorem lk_6_242 : Cond.methodLink "BoatNames" 242 (mnm me_N_chanceAbove) ∈ tbl := tbl_in (List.mem_of_getElem? (i := 602) (by decide +kernel)) rfl
theorem lk_6_391 : Cond.methodLink "BoatNames" 391 (mnm me_N_sharedHalvings) ∈ tbl := tbl_in (List.mem_of_getElem? (i := 606) (by decide +kernel)) rfl
theorem lk_6_246 : Cond.methodLink "BoatNames" 246 (mnm me_N_chanceBelow) ∈ tbl := tbl_in (List.mem_of_getElem? (i := 610) (by decide +kernel)) rfl
theorem lk_8_130 : Cond.methodLink "BoatNamesLaw" 130 (mnm me_N_decades) ∈ tbl := tbl_in (List.mem_of_getElem? (i := 614) (by decide +kernel)) rfl
theorem lk_6_249 : Cond.methodLink "BoatNames" 249 (mnm me_T_drawEvents) ∈ tbl := tbl_in (List.mem_of_getElem? (i := 618) (by decide +kernel)) rfl
theorem lk_3_89 : Cond.methodLink "BoatNames$Telling" 89 (mnm me_T_nextSeed) ∈ tbl := tbl_in (List.mem_of_getElem? (i := 622) (by decide +kernel)) rfl
theorem lk_3_92 : Cond.methodLink "BoatNames$Telling" 92 (mnm me_T_addEvent) ∈ tbl := tbl_in (List.mem_of_getElem? (i := 626) (by decide +kernel)) rfl
theorem lk_8_134 : Cond.methodLink "BoatNamesLaw" 134 (mnm me_N_sheet) ∈ tbl := tbl_in (List.mem_of_getElem? (i := 627) (by decide +kernel)) rfl
theorem lk_6_252 : Cond.methodLink "BoatNames" 252 (mnm me_H_renew) ∈ tbl := tbl_in (List.mem_of_getElem? (i := 631) (by decide +kernel)) rfl
theorem lk_1_26 : Cond.methodLink "BoatNames$Sheet" 26 (mnm me_J_filli) ∈ tbl := tbl_in (List.mem_of_getElem? (i := 635) (by decide +kernel)) rfl
theorem lk_8_138 : Cond.methodLink "BoatNamesLaw" 138 (mnm me_N_lose) ∈ tbl := tbl_in (List.mem_of_getElem? (i := 636) (by decide +kernel)) rfl
theorem lk_8_142 : Cond.methodLink "BoatNamesLaw" 142 (mnm me_N_put) ∈ tbl := tbl_in (List.mem_of_getElem? (i := 640) (by decide +kernel)) rfl
theorem lk_6_255 : Cond.methodLink "BoatNames" 255 (mnm me_H_findingAt) ∈ tbl := tbl_in (List.mem_of_getElem? (i := 644) (by decide +kernel)) rfl
theorem lk_6_258 : Cond.methodLink "BoatNames" 258 (mnm me_H_set) ∈ tbl := tbl_in (List.mem_of_getElem? (i := 649) (by decide +kernel)) rfl
theorem lk_8_147 : Cond.methodLink "BoatNamesLaw" 147 (mnm me_N_get) ∈ tbl := tbl_in (List.mem_of_getElem? (i := 653) (by decide +kernel)) rfl
theorem lk_8_151 : Cond.methodLink "BoatNamesLaw" 151 (mnm me_N_copy) ∈ tbl := tbl_in (List.mem_of_getElem? (i := 658) (by decide +kernel)) rfl
theorem lk_6_265 : Cond.methodLink "BoatNames" 265 (mnm me_H_hasItems) ∈ tbl := tbl_in (List.mem_of_getElem? (i := 662) (by decide +kernel)) rfl
theorem lk_6_268 : Cond.methodLink "BoatNames" 268 arraycopyName ∈ tbl := tbl_in (List.mem_of_getElem? (i := 666) (by decide +kernel)) rfl
theorem lk_8_156 : Cond.methodLink "BoatNamesLaw" 156 (mnm me_N_write) ∈ tbl := tbl_in (List.mem_of_getElem? (i := 667) (by decide +kernel)) rfl
theorem lk_6_274 : Cond.methodLink "BoatNames" 274 Lib.Math.min.name ∈ tbl := tbl_in (List.mem_of_getElem? (i := 671) (by decide +kernel)) rfl
theorem lk_6_279 : Cond.methodLink "BoatNames" 279 (mnm me_V_begin) ∈ tbl := tbl_in (List.mem_of_getElem? (i := 674) (by decide +kernel)) rfl
theorem lk_6_282 : Cond.methodLink "BoatNames" 282 (mnm me_V_sail) ∈ tbl := tbl_in (List.mem_of_getElem? (i := 675) (by decide +kernel)) rfl
theorem lk_8_160 : Cond.methodLink "BoatNamesLaw" 160 (mnm me_N_count) ∈ tbl := tbl_in (List.mem_of_getElem? (i := 676) (by decide +kernel)) rfl
theorem lk_6_291 : Cond.methodLink "BoatNames" 291 (mnm me_V_allHatred) ∈ tbl := tbl_in (List.mem_of_getElem? (i := 680) (by decide +kernel)) rfl
theorem lk_5_128 : Cond.methodLink "BoatNames$Voyage" 128 (mnm me_V_hatredOf) ∈ tbl := tbl_in (List.mem_of_getElem? (i := 684) (by decide +kernel)) rfl
theorem lk_8_164 : Cond.methodLink "BoatNamesLaw" 164 (mnm me_N_digest) ∈ tbl := tbl_in (List.mem_of_getElem? (i := 685) (by decide +kernel)) rfl
theorem lk_6_298 : Cond.methodLink "BoatNames" 298 (mnm me_N_count) ∈ tbl := tbl_in (List.mem_of_getElem? (i := 691) (by decide +kernel)) rfl
theorem lk_6_301 : Cond.methodLink "BoatNames" 301 (mnm me_N_fault) ∈ tbl := tbl_in (List.mem_of_getElem? (i := 692) (by decide +kernel)) rfl
theorem lk_6_303 : Cond.methodLink "BoatNames" 303 (mnm me_N_digestBoat) ∈ tbl := tbl_in (List.mem_of_getElem? (i := 693) (by decide +kernel)) rfl
theorem lk_6_331 : Cond.methodLink "BoatNames" 331 (mnm me_N_boat) ∈ tbl := tbl_in (List.mem_of_getElem? (i := 697) (by decide +kernel)) rfl
theorem lk_6_334 : Cond.methodLink "BoatNames" 334 (mnm me_N_digestWeek) ∈ tbl := tbl_in (List.mem_of_getElem? (i := 698) (by decide +kernel)) rfl
theorem lk_6_344 : Cond.methodLink "BoatNames" 344 (mnm me_N_at) ∈ tbl := tbl_in (List.mem_of_getElem? (i := 702) (by decide +kernel)) rfl
theorem lk_6_338 : Cond.methodLink "BoatNames" 338 (mnm me_N_longs) ∈ tbl := tbl_in (List.mem_of_getElem? (i := 703) (by decide +kernel)) rfl
theorem lk_6_341 : Cond.methodLink "BoatNames" 341 (mnm me_N_sort) ∈ tbl := tbl_in (List.mem_of_getElem? (i := 704) (by decide +kernel)) rfl
theorem lk_6_307 : Cond.methodLink "BoatNames" 307 (mnm me_N_digestPerson) ∈ tbl := tbl_in (List.mem_of_getElem? (i := 705) (by decide +kernel)) rfl
theorem lk_6_347 : Cond.methodLink "BoatNames" 347 (mnm me_N_named) ∈ tbl := tbl_in (List.mem_of_getElem? (i := 709) (by decide +kernel)) rfl
theorem lk_6_350 : Cond.methodLink "BoatNames" 350 (mnm me_N_hates) ∈ tbl := tbl_in (List.mem_of_getElem? (i := 710) (by decide +kernel)) rfl
theorem lk_6_310 : Cond.methodLink "BoatNames" 310 (mnm me_N_afloat) ∈ tbl := tbl_in (List.mem_of_getElem? (i := 711) (by decide +kernel)) rfl
theorem lk_6_313 : Cond.methodLink "BoatNames" 313 (mnm me_N_first) ∈ tbl := tbl_in (List.mem_of_getElem? (i := 712) (by decide +kernel)) rfl
theorem lk_6_316 : Cond.methodLink "BoatNames" 316 (mnm me_N_loved) ∈ tbl := tbl_in (List.mem_of_getElem? (i := 713) (by decide +kernel)) rfl
theorem lk_6_319 : Cond.methodLink "BoatNames" 319 (mnm me_N_bitter) ∈ tbl := tbl_in (List.mem_of_getElem? (i := 714) (by decide +kernel)) rfl
theorem lk_6_322 : Cond.methodLink "BoatNames" 322 (mnm me_N_spare) ∈ tbl := tbl_in (List.mem_of_getElem? (i := 715) (by decide +kernel)) rfl
theorem lk_6_325 : Cond.methodLink "BoatNames" 325 (mnm me_N_never) ∈ tbl := tbl_in (List.mem_of_getElem? (i := 716) (by decide +kernel)) rfl
theorem lk_6_328 : Cond.methodLink "BoatNames" 328 (mnm me_N_decades) ∈ tbl := tbl_in (List.mem_of_getElem? (i := 717) (by decide +kernel)) rfl
theorem lk_8_17 : Cond.methodLink "BoatNamesLaw" 17 (mnm me_R_type) ∈ tbl := tbl_in (List.mem_of_getElem? (i := 855) (by decide +kernel)) rfl
theorem lk_7_123 : Cond.methodLink "BoatNamesModel" 123 (mnm me_R_isText) ∈ tbl := tbl_in (List.mem_of_getElem? (i := 859) (by decide +kernel)) rfl
theorem lk_7_115 : Cond.methodLink "BoatNamesModel" 115 (mnm me_R_in) ∈ tbl := tbl_in (List.mem_of_getElem? (i := 862) (by decide +kernel)) rfl
theorem lk_8_22 : Cond.methodLink "BoatNamesLaw" 22 (mnm me_R_wipe) ∈ tbl := tbl_in (List.mem_of_getElem? (i := 865) (by decide +kernel)) rfl
theorem lk_8_26 : Cond.methodLink "BoatNamesLaw" 26 (mnm me_R_undo) ∈ tbl := tbl_in (List.mem_of_getElem? (i := 869) (by decide +kernel)) rfl
theorem lk_8_30 : Cond.methodLink "BoatNamesLaw" 30 (mnm me_R_fault) ∈ tbl := tbl_in (List.mem_of_getElem? (i := 873) (by decide +kernel)) rfl
theorem lk_7_150 : Cond.methodLink "BoatNamesModel" 150 (mnm me_R_faultOf) ∈ tbl := tbl_in (List.mem_of_getElem? (i := 877) (by decide +kernel)) rfl
theorem lk_7_146 : Cond.methodLink "BoatNamesModel" 146 (mnm me_R_readsParts) ∈ tbl := tbl_in (List.mem_of_getElem? (i := 881) (by decide +kernel)) rfl
theorem lk_7_140 : Cond.methodLink "BoatNamesModel" 140 (mnm me_R_readsHate) ∈ tbl := tbl_in (List.mem_of_getElem? (i := 885) (by decide +kernel)) rfl
theorem lk_7_126 : Cond.methodLink "BoatNamesModel" 126 (mnm me_R_byteAt) ∈ tbl := tbl_in (List.mem_of_getElem? (i := 889) (by decide +kernel)) rfl
theorem lk_7_119 : Cond.methodLink "BoatNamesModel" 119 (mnm me_R_isEight) ∈ tbl := tbl_in (List.mem_of_getElem? (i := 893) (by decide +kernel)) rfl
theorem lk_7_143 : Cond.methodLink "BoatNamesModel" 143 (mnm me_R_readsBoat) ∈ tbl := tbl_in (List.mem_of_getElem? (i := 896) (by decide +kernel)) rfl
theorem lk_7_130 : Cond.methodLink "BoatNamesModel" 130 (mnm me_R_isWeek) ∈ tbl := tbl_in (List.mem_of_getElem? (i := 900) (by decide +kernel)) rfl
theorem lk_8_34 : Cond.methodLink "BoatNamesLaw" 34 (mnm me_R_told) ∈ tbl := tbl_in (List.mem_of_getElem? (i := 903) (by decide +kernel)) rfl
theorem lk_7_156 : Cond.methodLink "BoatNamesModel" 156 (mnm me_R_areTwo) ∈ tbl := tbl_in (List.mem_of_getElem? (i := 907) (by decide +kernel)) rfl
theorem lk_7_160 : Cond.methodLink "BoatNamesModel" 160 (mnm me_R_toldOf) ∈ tbl := tbl_in (List.mem_of_getElem? (i := 910) (by decide +kernel)) rfl
theorem lk_7_153 : Cond.methodLink "BoatNamesModel" 153 (mnm me_R_reads) ∈ tbl := tbl_in (List.mem_of_getElem? (i := 914) (by decide +kernel)) rfl
theorem lk_8_38 : Cond.methodLink "BoatNamesLaw" 38 (mnm me_R_boat) ∈ tbl := tbl_in (List.mem_of_getElem? (i := 918) (by decide +kernel)) rfl
theorem lk_7_163 : Cond.methodLink "BoatNamesModel" 163 (mnm me_R_isBoat) ∈ tbl := tbl_in (List.mem_of_getElem? (i := 922) (by decide +kernel)) rfl
theorem lk_7_166 : Cond.methodLink "BoatNamesModel" 166 (mnm me_R_boatOf) ∈ tbl := tbl_in (List.mem_of_getElem? (i := 926) (by decide +kernel)) rfl
theorem lk_8_43 : Cond.methodLink "BoatNamesLaw" 43 (mnm me_R_event) ∈ tbl := tbl_in (List.mem_of_getElem? (i := 930) (by decide +kernel)) rfl
theorem lk_8_48 : Cond.methodLink "BoatNamesLaw" 48 (mnm me_R_back) ∈ tbl := tbl_in (List.mem_of_getElem? (i := 934) (by decide +kernel)) rfl
theorem lk_8_52 : Cond.methodLink "BoatNamesLaw" 52 (mnm me_R_read) ∈ tbl := tbl_in (List.mem_of_getElem? (i := 938) (by decide +kernel)) rfl
theorem lk_7_172 : Cond.methodLink "BoatNamesModel" 172 (mnm me_R_isSheet) ∈ tbl := tbl_in (List.mem_of_getElem? (i := 942) (by decide +kernel)) rfl
theorem lk_7_175 : Cond.methodLink "BoatNamesModel" 175 (mnm me_R_meets) ∈ tbl := tbl_in (List.mem_of_getElem? (i := 945) (by decide +kernel)) rfl
theorem lk_7_178 : Cond.methodLink "BoatNamesModel" 178 (mnm me_R_event) ∈ tbl := tbl_in (List.mem_of_getElem? (i := 949) (by decide +kernel)) rfl
theorem lk_8_56 : Cond.methodLink "BoatNamesLaw" 56 (mnm me_R_hates) ∈ tbl := tbl_in (List.mem_of_getElem? (i := 950) (by decide +kernel)) rfl
theorem lk_7_229 : Cond.methodLink "BoatNamesModel" 229 (mnm me_R_hatesOf) ∈ tbl := tbl_in (List.mem_of_getElem? (i := 954) (by decide +kernel)) rfl
theorem lk_7_226 : Cond.methodLink "BoatNamesModel" 226 (mnm me_R_runsTold) ∈ tbl := tbl_in (List.mem_of_getElem? (i := 958) (by decide +kernel)) rfl
theorem lk_7_220 : Cond.methodLink "BoatNamesModel" 220 (mnm me_R_asTold) ∈ tbl := tbl_in (List.mem_of_getElem? (i := 962) (by decide +kernel)) rfl
theorem lk_7_223 : Cond.methodLink "BoatNamesModel" 223 (mnm me_R_runs) ∈ tbl := tbl_in (List.mem_of_getElem? (i := 966) (by decide +kernel)) rfl
theorem lk_7_217 : Cond.methodLink "BoatNamesModel" 217 (mnm me_R_goesBy) ∈ tbl := tbl_in (List.mem_of_getElem? (i := 970) (by decide +kernel)) rfl
theorem lk_7_204 : Cond.methodLink "BoatNamesModel" 204 (mnm me_R_isIn) ∈ tbl := tbl_in (List.mem_of_getElem? (i := 974) (by decide +kernel)) rfl
theorem lk_7_207 : Cond.methodLink "BoatNamesModel" 207 (mnm me_R_befalls) ∈ tbl := tbl_in (List.mem_of_getElem? (i := 977) (by decide +kernel)) rfl
theorem lk_7_188 : Cond.methodLink "BoatNamesModel" 188 (mnm me_R_storms) ∈ tbl := tbl_in (List.mem_of_getElem? (i := 981) (by decide +kernel)) rfl
theorem lk_7_191 : Cond.methodLink "BoatNamesModel" 191 (mnm me_R_shares) ∈ tbl := tbl_in (List.mem_of_getElem? (i := 985) (by decide +kernel)) rfl
theorem lk_7_195 : Cond.methodLink "BoatNamesModel" 195 (mnm me_R_makesUp) ∈ tbl := tbl_in (List.mem_of_getElem? (i := 989) (by decide +kernel)) rfl
theorem lk_7_210 : Cond.methodLink "BoatNamesModel" 210 (mnm me_R_launches) ∈ tbl := tbl_in (List.mem_of_getElem? (i := 993) (by decide +kernel)) rfl
theorem lk_7_213 : Cond.methodLink "BoatNamesModel" 213 (mnm me_R_sails) ∈ tbl := tbl_in (List.mem_of_getElem? (i := 997) (by decide +kernel)) rfl
theorem lk_8_60 : Cond.methodLink "BoatNamesLaw" 60 (mnm me_R_at) ∈ tbl := tbl_in (List.mem_of_getElem? (i := 1001) (by decide +kernel)) rfl
theorem lk_7_232 : Cond.methodLink "BoatNamesModel" 232 (mnm me_R_atOf) ∈ tbl := tbl_in (List.mem_of_getElem? (i := 1005) (by decide +kernel)) rfl
theorem lk_8_64 : Cond.methodLink "BoatNamesLaw" 64 (mnm me_R_afloat) ∈ tbl := tbl_in (List.mem_of_getElem? (i := 1009) (by decide +kernel)) rfl
theorem lk_7_238 : Cond.methodLink "BoatNamesModel" 238 (mnm me_R_afloatOf) ∈ tbl := tbl_in (List.mem_of_getElem? (i := 1013) (by decide +kernel)) rfl
theorem lk_7_235 : Cond.methodLink "BoatNamesModel" 235 (mnm me_R_manyAt) ∈ tbl := tbl_in (List.mem_of_getElem? (i := 1017) (by decide +kernel)) rfl
theorem lk_8_68 : Cond.methodLink "BoatNamesLaw" 68 (mnm me_R_named) ∈ tbl := tbl_in (List.mem_of_getElem? (i := 1021) (by decide +kernel)) rfl
theorem lk_7_241 : Cond.methodLink "BoatNamesModel" 241 (mnm me_R_isTwo) ∈ tbl := tbl_in (List.mem_of_getElem? (i := 1025) (by decide +kernel)) rfl
theorem lk_7_244 : Cond.methodLink "BoatNamesModel" 244 (mnm me_R_namedOf) ∈ tbl := tbl_in (List.mem_of_getElem? (i := 1028) (by decide +kernel)) rfl
theorem lk_8_72 : Cond.methodLink "BoatNamesLaw" 72 (mnm me_R_first) ∈ tbl := tbl_in (List.mem_of_getElem? (i := 1032) (by decide +kernel)) rfl
theorem lk_7_247 : Cond.methodLink "BoatNamesModel" 247 (mnm me_R_firstOf) ∈ tbl := tbl_in (List.mem_of_getElem? (i := 1036) (by decide +kernel)) rfl
theorem lk_8_76 : Cond.methodLink "BoatNamesLaw" 76 (mnm me_R_loved) ∈ tbl := tbl_in (List.mem_of_getElem? (i := 1040) (by decide +kernel)) rfl
theorem lk_7_250 : Cond.methodLink "BoatNamesModel" 250 (mnm me_R_lovedOf) ∈ tbl := tbl_in (List.mem_of_getElem? (i := 1044) (by decide +kernel)) rfl
theorem lk_8_80 : Cond.methodLink "BoatNamesLaw" 80 (mnm me_R_bitter) ∈ tbl := tbl_in (List.mem_of_getElem? (i := 1048) (by decide +kernel)) rfl
theorem lk_7_257 : Cond.methodLink "BoatNamesModel" 257 (mnm me_R_bitterOf) ∈ tbl := tbl_in (List.mem_of_getElem? (i := 1052) (by decide +kernel)) rfl
theorem lk_7_254 : Cond.methodLink "BoatNamesModel" 254 (mnm me_R_hatesAll) ∈ tbl := tbl_in (List.mem_of_getElem? (i := 1056) (by decide +kernel)) rfl
theorem lk_8_84 : Cond.methodLink "BoatNamesLaw" 84 (mnm me_R_longs) ∈ tbl := tbl_in (List.mem_of_getElem? (i := 1060) (by decide +kernel)) rfl
theorem lk_7_263 : Cond.methodLink "BoatNamesModel" 263 (mnm me_R_longOf) ∈ tbl := tbl_in (List.mem_of_getElem? (i := 1064) (by decide +kernel)) rfl
theorem lk_7_260 : Cond.methodLink "BoatNamesModel" 260 (mnm me_R_longNow) ∈ tbl := tbl_in (List.mem_of_getElem? (i := 1068) (by decide +kernel)) rfl
theorem lk_8_88 : Cond.methodLink "BoatNamesLaw" 88 (mnm me_R_wrong) ∈ tbl := tbl_in (List.mem_of_getElem? (i := 1072) (by decide +kernel)) rfl
theorem lk_7_266 : Cond.methodLink "BoatNamesModel" 266 (mnm me_R_wrongOf) ∈ tbl := tbl_in (List.mem_of_getElem? (i := 1076) (by decide +kernel)) rfl
theorem lk_8_92 : Cond.methodLink "BoatNamesLaw" 92 (mnm me_R_pay) ∈ tbl := tbl_in (List.mem_of_getElem? (i := 1080) (by decide +kernel)) rfl
theorem lk_7_269 : Cond.methodLink "BoatNamesModel" 269 (mnm me_R_payOf) ∈ tbl := tbl_in (List.mem_of_getElem? (i := 1084) (by decide +kernel)) rfl
theorem lk_8_96 : Cond.methodLink "BoatNamesLaw" 96 (mnm me_R_waits) ∈ tbl := tbl_in (List.mem_of_getElem? (i := 1088) (by decide +kernel)) rfl
theorem lk_7_272 : Cond.methodLink "BoatNamesModel" 272 (mnm me_R_waitsOf) ∈ tbl := tbl_in (List.mem_of_getElem? (i := 1092) (by decide +kernel)) rfl
theorem lk_8_100 : Cond.methodLink "BoatNamesLaw" 100 (mnm me_R_spare) ∈ tbl := tbl_in (List.mem_of_getElem? (i := 1096) (by decide +kernel)) rfl
theorem lk_7_278 : Cond.methodLink "BoatNamesModel" 278 (mnm me_R_spareBy) ∈ tbl := tbl_in (List.mem_of_getElem? (i := 1100) (by decide +kernel)) rfl
theorem lk_7_275 : Cond.methodLink "BoatNamesModel" 275 (mnm me_R_isSpared) ∈ tbl := tbl_in (List.mem_of_getElem? (i := 1104) (by decide +kernel)) rfl
theorem lk_7_281 : Cond.methodLink "BoatNamesModel" 281 (mnm me_R_ofRow) ∈ tbl := tbl_in (List.mem_of_getElem? (i := 1108) (by decide +kernel)) rfl
theorem lk_8_104 : Cond.methodLink "BoatNamesLaw" 104 (mnm me_R_seen) ∈ tbl := tbl_in (List.mem_of_getElem? (i := 1112) (by decide +kernel)) rfl
theorem lk_8_108 : Cond.methodLink "BoatNamesLaw" 108 (mnm me_R_forget) ∈ tbl := tbl_in (List.mem_of_getElem? (i := 1116) (by decide +kernel)) rfl
theorem lk_8_112 : Cond.methodLink "BoatNamesLaw" 112 (mnm me_R_never) ∈ tbl := tbl_in (List.mem_of_getElem? (i := 1120) (by decide +kernel)) rfl
theorem lk_7_291 : Cond.methodLink "BoatNamesModel" 291 (mnm me_R_neverNow) ∈ tbl := tbl_in (List.mem_of_getElem? (i := 1124) (by decide +kernel)) rfl
theorem lk_7_287 : Cond.methodLink "BoatNamesModel" 287 (mnm me_R_isSeen) ∈ tbl := tbl_in (List.mem_of_getElem? (i := 1128) (by decide +kernel)) rfl
theorem lk_8_116 : Cond.methodLink "BoatNamesLaw" 116 (mnm me_R_sort) ∈ tbl := tbl_in (List.mem_of_getElem? (i := 1132) (by decide +kernel)) rfl
theorem lk_7_294 : Cond.methodLink "BoatNamesModel" 294 (mnm me_R_sortsBy) ∈ tbl := tbl_in (List.mem_of_getElem? (i := 1136) (by decide +kernel)) rfl
theorem lk_8_120 : Cond.methodLink "BoatNamesLaw" 120 (mnm me_R_hated) ∈ tbl := tbl_in (List.mem_of_getElem? (i := 1140) (by decide +kernel)) rfl
theorem lk_7_300 : Cond.methodLink "BoatNamesModel" 300 (mnm me_R_hatedBy) ∈ tbl := tbl_in (List.mem_of_getElem? (i := 1144) (by decide +kernel)) rfl
theorem lk_7_297 : Cond.methodLink "BoatNamesModel" 297 (mnm me_R_namesAll) ∈ tbl := tbl_in (List.mem_of_getElem? (i := 1148) (by decide +kernel)) rfl
theorem lk_8_124 : Cond.methodLink "BoatNamesLaw" 124 (mnm me_R_ask) ∈ tbl := tbl_in (List.mem_of_getElem? (i := 1152) (by decide +kernel)) rfl
theorem lk_7_303 : Cond.methodLink "BoatNamesModel" 303 (mnm me_R_askOf) ∈ tbl := tbl_in (List.mem_of_getElem? (i := 1156) (by decide +kernel)) rfl
theorem lk_8_129 : Cond.methodLink "BoatNamesLaw" 129 (mnm me_R_chance) ∈ tbl := tbl_in (List.mem_of_getElem? (i := 1160) (by decide +kernel)) rfl
theorem lk_7_310 : Cond.methodLink "BoatNamesModel" 310 (mnm me_R_chanceOf) ∈ tbl := tbl_in (List.mem_of_getElem? (i := 1164) (by decide +kernel)) rfl
theorem lk_7_306 : Cond.methodLink "BoatNamesModel" 306 (mnm me_R_lowest) ∈ tbl := tbl_in (List.mem_of_getElem? (i := 1168) (by decide +kernel)) rfl
theorem lk_7_314 : Cond.methodLink "BoatNamesModel" 314 (mnm me_R_no) ∈ tbl := tbl_in (List.mem_of_getElem? (i := 1171) (by decide +kernel)) rfl
theorem lk_8_133 : Cond.methodLink "BoatNamesLaw" 133 (mnm me_R_decades) ∈ tbl := tbl_in (List.mem_of_getElem? (i := 1175) (by decide +kernel)) rfl
theorem lk_7_319 : Cond.methodLink "BoatNamesModel" 319 (mnm me_R_decadesOf) ∈ tbl := tbl_in (List.mem_of_getElem? (i := 1179) (by decide +kernel)) rfl
theorem lk_8_137 : Cond.methodLink "BoatNamesLaw" 137 (mnm me_R_sheet) ∈ tbl := tbl_in (List.mem_of_getElem? (i := 1184) (by decide +kernel)) rfl
theorem lk_8_141 : Cond.methodLink "BoatNamesLaw" 141 (mnm me_R_lose) ∈ tbl := tbl_in (List.mem_of_getElem? (i := 1188) (by decide +kernel)) rfl
theorem lk_8_146 : Cond.methodLink "BoatNamesLaw" 146 (mnm me_R_put) ∈ tbl := tbl_in (List.mem_of_getElem? (i := 1192) (by decide +kernel)) rfl
theorem lk_7_325 : Cond.methodLink "BoatNamesModel" 325 (mnm me_R_lacks) ∈ tbl := tbl_in (List.mem_of_getElem? (i := 1196) (by decide +kernel)) rfl
theorem lk_7_328 : Cond.methodLink "BoatNamesModel" 328 (mnm me_R_keep) ∈ tbl := tbl_in (List.mem_of_getElem? (i := 1200) (by decide +kernel)) rfl
theorem lk_8_150 : Cond.methodLink "BoatNamesLaw" 150 (mnm me_R_get) ∈ tbl := tbl_in (List.mem_of_getElem? (i := 1204) (by decide +kernel)) rfl
theorem lk_8_155 : Cond.methodLink "BoatNamesLaw" 155 (mnm me_R_copy) ∈ tbl := tbl_in (List.mem_of_getElem? (i := 1209) (by decide +kernel)) rfl
theorem lk_8_159 : Cond.methodLink "BoatNamesLaw" 159 (mnm me_R_write) ∈ tbl := tbl_in (List.mem_of_getElem? (i := 1213) (by decide +kernel)) rfl
theorem lk_8_163 : Cond.methodLink "BoatNamesLaw" 163 (mnm me_R_count) ∈ tbl := tbl_in (List.mem_of_getElem? (i := 1217) (by decide +kernel)) rfl
theorem lk_7_333 : Cond.methodLink "BoatNamesModel" 333 (mnm me_R_sumOf) ∈ tbl := tbl_in (List.mem_of_getElem? (i := 1221) (by decide +kernel)) rfl
theorem lk_8_168 : Cond.methodLink "BoatNamesLaw" 168 (mnm me_R_digest) ∈ tbl := tbl_in (List.mem_of_getElem? (i := 1225) (by decide +kernel)) rfl
theorem lk_7_344 : Cond.methodLink "BoatNamesModel" 344 (mnm me_R_count) ∈ tbl := tbl_in (List.mem_of_getElem? (i := 1231) (by decide +kernel)) rfl
theorem lk_7_347 : Cond.methodLink "BoatNamesModel" 347 (mnm me_R_boatDigest) ∈ tbl := tbl_in (List.mem_of_getElem? (i := 1232) (by decide +kernel)) rfl
theorem lk_7_338 : Cond.methodLink "BoatNamesModel" 338 (mnm me_R_weekDigest) ∈ tbl := tbl_in (List.mem_of_getElem? (i := 1236) (by decide +kernel)) rfl
theorem lk_7_351 : Cond.methodLink "BoatNamesModel" 351 (mnm me_R_personDigest) ∈ tbl := tbl_in (List.mem_of_getElem? (i := 1240) (by decide +kernel)) rfl
theorem wm_max : Cond.static Lib.Math.max.name ∈ tbl ∧ Cond.initialized "java/lang/Math" ∈ tbl ∧ Cond.code Lib.Math.max.name Lib.Math.max.code 2 (some .int) ∈ tbl := ⟨tbl_in (List.mem_of_getElem? (i := 398) (by decide +kernel)) rfl, tbl_in (List.mem_of_getElem? (i := 11) (by decide +kernel)) rfl, tbl_in (List.mem_of_getElem? (i := 399) (by decide +kernel)) rfl⟩
theorem wm_min : Cond.static Lib.Math.min.name ∈ tbl ∧ Cond.initialized "java/lang/Math" ∈ tbl ∧ Cond.code Lib.Math.min.name Lib.Math.min.code 2 (some .int) ∈ tbl := ⟨tbl_in (List.mem_of_getElem? (i := 672) (by decide +kernel)) rfl, tbl_in (List.mem_of_getElem? (i := 11) (by decide +kernel)) rfl, tbl_in (List.mem_of_getElem? (i := 673) (by decide +kernel)) rfl⟩
theorem wm_copy : Cond.native arraycopyName ∈ tbl ∧ Cond.static arraycopyName ∈ tbl ∧ Cond.initialized "java/lang/System" ∈ tbl := ⟨tbl_in (List.mem_of_getElem? (i := 383) (by decide +kernel)) rfl, tbl_in (List.mem_of_getElem? (i := 382) (by decide +kernel)) rfl, tbl_in (List.mem_of_getElem? (i := 10) (by decide +kernel)) rfl⟩
theorem x_top {M : MI} {D : Nat} {sc : Option (Nat × (Nat → Int32))} {Q : Option Value → ST → Prop} {pc : Nat} {lv : List (Nat × Value)} {st : List Value} {S : ST} {v v' : Int32} (h : v = v') (kk : BX M D sc Q (pc, lv, .int v' :: st, S)) : BX M D sc Q (pc, lv, .int v :: st, S) := by rw [h]; exact kk
theorem x_topl {M : MI} {D : Nat} {sc : Option (Nat × (Nat → Int32))} {Q : Option Value → ST → Prop} {pc : Nat} {lv : List (Nat × Value)} {st : List Value} {S : ST} {v v' : Int64} (h : v = v') (kk : BX M D sc Q (pc, lv, .long v' :: st, S)) : BX M D sc Q (pc, lv, .long v :: st, S) := by rw [h]; exact kk
theorem x_iaN {M : MI} {D : Nat} {sc : Option (Nat × (Nat → Int32))} {Q : Option Value → ST → Prop} {pc : Nat} {lv : List (Nat × Value)} {st : List Value} {S : ST} {k n e : Nat} {fl : List (Option Nat)} (v : Int32) (hf : fet M pc = some .iaload) (hk : shp[k]? = some (0, n, fl)) (hn : n < 2 ^ 31) (hin : e < n) (hv : S.1 k e = v) (kk : BX M D sc Q (pc + 1, lv, .int v :: st, S)) : BX M D sc Q (pc, lv, .int (nI e) :: .ref k :: st, S) := by
  refine x_iald hf hk (vp_in_nI hin hn) ?_
  rw [nI_clamp (by omega), hv]
  exact kk
theorem x_zaN {M : MI} {D : Nat} {sc : Option (Nat × (Nat → Int32))} {Q : Option Value → ST → Prop} {pc : Nat} {lv : List (Nat × Value)} {st : List Value} {S : ST} {k n e : Nat} {fl : List (Option Nat)} (v : Int32) (hf : fet M pc = some .baload) (hk : shp[k]? = some (2, n, fl)) (hn : n < 2 ^ 31) (hin : e < n) (hv : S.1 k e = v) (kk : BX M D sc Q (pc + 1, lv, .int v :: st, S)) : BX M D sc Q (pc, lv, .int (nI e) :: .ref k :: st, S) := by
  refine x_zald hf hk (vp_in_nI hin hn) ?_
  rw [nI_clamp (by omega), hv]
  exact kk
theorem x_laN {M : MI} {D : Nat} {sc : Option (Nat × (Nat → Int32))} {Q : Option Value → ST → Prop} {pc : Nat} {lv : List (Nat × Value)} {st : List Value} {S : ST} {n e : Nat} {fl : List (Option Nat)} (v : Int64) (hf : fet M pc = some .laload) (hk : shp[46]? = some (1, n, fl)) (hn : n < 2 ^ 31) (hin : e < n) (hv : S.2.1 e = v) (kk : BX M D sc Q (pc + 1, lv, .long v :: st, S)) : BX M D sc Q (pc, lv, .int (nI e) :: .ref 46 :: st, S) := by
  refine x_lald hf hk (vp_in_nI hin hn) ?_
  rw [nI_clamp (by omega), hv]
  exact kk
theorem x_isN {M : MI} {D : Nat} {sc : Option (Nat × (Nat → Int32))} {Q : Option Value → ST → Prop} {pc : Nat} {lv : List (Nat × Value)} {st : List Value} {S : ST} {k n e : Nat} {fl : List (Option Nat)} {v : Int32} (hf : fet M pc = some .iastore) (hk : shp[k]? = some (0, n, fl)) (hn : n < 2 ^ 31) (hin : e < n) (kk : BX M D sc Q (pc + 1, lv, st, pt S k e v)) : BX M D sc Q (pc, lv, .int v :: .int (nI e) :: .ref k :: st, S) := by
  refine x_iast hf hk (vp_in_nI hin hn) ?_
  rw [nI_clamp (by omega)]
  exact kk
theorem x_zsN {M : MI} {D : Nat} {sc : Option (Nat × (Nat → Int32))} {Q : Option Value → ST → Prop} {pc : Nat} {lv : List (Nat × Value)} {st : List Value} {S : ST} {k n e : Nat} {fl : List (Option Nat)} {v : Int32} (hf : fet M pc = some .bastore) (hk : shp[k]? = some (2, n, fl)) (hn : n < 2 ^ 31) (hin : e < n) (hz : vp_nar .boolean v = v) (kk : BX M D sc Q (pc + 1, lv, st, pt S k e v)) : BX M D sc Q (pc, lv, .int v :: .int (nI e) :: .ref k :: st, S) := by
  refine x_zast hf hk (vp_in_nI hin hn) hz ?_
  rw [nI_clamp (by omega)]
  exact kk
theorem x_lsN {M : MI} {D : Nat} {sc : Option (Nat × (Nat → Int32))} {Q : Option Value → ST → Prop} {pc : Nat} {lv : List (Nat × Value)} {st : List Value} {S : ST} {n e : Nat} {fl : List (Option Nat)} {v : Int64} (hf : fet M pc = some .lastore) (hk : shp[46]? = some (1, n, fl)) (hn : n < 2 ^ 31) (hin : e < n) (kk : BX M D sc Q (pc + 1, lv, st, ptl S e v)) : BX M D sc Q (pc, lv, .long v :: .int (nI e) :: .ref 46 :: st, S) := by
  refine x_last hf hk (vp_in_nI hin hn) ?_
  rw [nI_clamp (by omega)]
  exact kk
theorem loop_up {P : Nat → Prop} (N : Nat) (hN : P N) (hs : ∀ i, i < N → P (i + 1) → P i) : ∀ i, i ≤ N → P i := by
  have key : ∀ n i, N - i = n → i ≤ N → P i := by
    intro n
    induction n with
    | zero => intro i h1 h2; have : i = N := by omega
              rw [this]; exact hN
    | succ n ih => intro i h1 h2; exact hs i (by omega) (ih (i + 1) (by omega) (by omega))
  exact fun i hi => key (N - i) i rfl hi
/-- all rows but these are as they were -/
def fr (ks : List Nat) (S u : ST) : Prop := ∀ k, k ∉ ks → u.1 k = S.1 k
theorem fr.rf {ks : List Nat} {S : ST} : fr ks S S := fun _ _ => rfl
theorem fr.tr {ks : List Nat} {S u v : ST} (h : fr ks S u) (h2 : fr ks u v) : fr ks S v := fun k hk => (h2 k hk).trans (h k hk)
theorem fr.sub {ks ks' : List Nat} {S u : ST} (h : fr ks S u) (hs : ∀ k ∈ ks, k ∈ ks') : fr ks' S u := fun k hk => h k (fun z => hk (hs k z))
theorem fr.pt {ks : List Nat} {S u : ST} {k j : Nat} {v : Int32} (h : fr ks S u) (hk : k ∈ ks) : fr ks S (pt u k j v) := fun a ha => by
  have : a ≠ k := fun e => ha (e ▸ hk)
  show (if a = k then _ else u.1 a) = _
  rw [if_neg this]
  exact h a ha
theorem fr.rwr {ks : List Nat} {S u : ST} {k : Nat} {f : Nat → Int32} (h : fr ks S u) (hk : k ∈ ks) : fr ks S (rwr u k f) := fun a ha => by
  have : a ≠ k := fun e => ha (e ▸ hk)
  show (if a = k then _ else u.1 a) = _
  rw [if_neg this]
  exact h a ha
theorem fr.ptl {ks : List Nat} {S u : ST} {j : Nat} {v : Int64} (h : fr ks S u) : fr ks S (ptl u j v) := h
theorem fr.ptt {ks : List Nat} {S u : ST} {t : Nat} (h : fr ks S u) : fr ks S (ptt u t) := h
end
section
/-! rows for natural numbers and truth values -/
def b2 (p : Prop) [Decidable p] : Int32 := if p then 1 else 0
theorem b2_01 (p : Prop) [Decidable p] : b2 p = 0 ∨ b2 p = 1 := by unfold b2; split; exact Or.inr rfl; exact Or.inl rfl
theorem b2_t {p : Prop} [Decidable p] (h : p) : b2 p = 1 := if_pos h
theorem b2_f {p : Prop} [Decidable p] (h : ¬ p) : b2 p = 0 := if_neg h
theorem b2_0 (p : Prop) [Decidable p] : b2 p = 0 ↔ ¬ p := by
  unfold b2
  split
  · rename_i h
    exact ⟨fun e => absurd e (by decide), fun e => absurd h e⟩
  · rename_i h
    exact ⟨fun _ => h, fun _ => rfl⟩
theorem b2_1 (p : Prop) [Decidable p] : b2 p = 1 ↔ p := by
  unfold b2
  split
  · rename_i h
    exact ⟨fun _ => h, fun _ => rfl⟩
  · rename_i h
    exact ⟨fun e => absurd e (by decide), fun e => absurd e h⟩
theorem b2_c {p q : Prop} [Decidable p] [Decidable q] (h : p ↔ q) : b2 p = b2 q := by
  unfold b2
  by_cases hp : p
  · rw [if_pos hp, if_pos (h.mp hp)]
  · rw [if_neg hp, if_neg (fun z => hp (h.mpr z))]
theorem nI_eqI {a b : Nat} (ha : a < 2147483648) (hb : b < 2147483648) : nI a = nI b ↔ a = b := nI_eq ha hb
theorem x_icmpN_lt {M : MI} {D : Nat} {sc : Option (Nat × (Nat → Int32))} {Q : Option Value → ST → Prop} {pc : Nat} {lv : List (Nat × Value)} {st : List Value} {S : ST} {a b : Nat} {off : Int} (tgt : Nat) (hf : fet M pc = some (.if_icmp .lt off)) (ht : (pc : Int) + off = (tgt : Int)) (ha : a < 2147483648) (hb : b < 2147483648) (kt : a < b → BX M D sc Q (tgt, lv, st, S)) (kf : ¬ a < b → BX M D sc Q (pc + 3, lv, st, S)) : BX M D sc Q (pc, lv, .int (nI b) :: .int (nI a) :: st, S) :=
  x_icmp_lt tgt hf ht (fun q => kt ((nI_ltI ha hb).mp q)) (fun q => kf (fun z => q ((nI_ltI ha hb).mpr z)))
theorem x_icmpN_ge {M : MI} {D : Nat} {sc : Option (Nat × (Nat → Int32))} {Q : Option Value → ST → Prop} {pc : Nat} {lv : List (Nat × Value)} {st : List Value} {S : ST} {a b : Nat} {off : Int} (tgt : Nat) (hf : fet M pc = some (.if_icmp .ge off)) (ht : (pc : Int) + off = (tgt : Int)) (ha : a < 2147483648) (hb : b < 2147483648) (kt : b ≤ a → BX M D sc Q (tgt, lv, st, S)) (kf : ¬ b ≤ a → BX M D sc Q (pc + 3, lv, st, S)) : BX M D sc Q (pc, lv, .int (nI b) :: .int (nI a) :: st, S) :=
  x_icmp_ge tgt hf ht (fun q => kt ((nI_leI hb ha).mp q)) (fun q => kf (fun z => q ((nI_leI hb ha).mpr z)))
theorem x_icmpN_gt {M : MI} {D : Nat} {sc : Option (Nat × (Nat → Int32))} {Q : Option Value → ST → Prop} {pc : Nat} {lv : List (Nat × Value)} {st : List Value} {S : ST} {a b : Nat} {off : Int} (tgt : Nat) (hf : fet M pc = some (.if_icmp .gt off)) (ht : (pc : Int) + off = (tgt : Int)) (ha : a < 2147483648) (hb : b < 2147483648) (kt : b < a → BX M D sc Q (tgt, lv, st, S)) (kf : ¬ b < a → BX M D sc Q (pc + 3, lv, st, S)) : BX M D sc Q (pc, lv, .int (nI b) :: .int (nI a) :: st, S) :=
  x_icmp_gt tgt hf ht (fun q => kt ((nI_ltI hb ha).mp q)) (fun q => kf (fun z => q ((nI_ltI hb ha).mpr z)))
theorem x_icmpN_le {M : MI} {D : Nat} {sc : Option (Nat × (Nat → Int32))} {Q : Option Value → ST → Prop} {pc : Nat} {lv : List (Nat × Value)} {st : List Value} {S : ST} {a b : Nat} {off : Int} (tgt : Nat) (hf : fet M pc = some (.if_icmp .le off)) (ht : (pc : Int) + off = (tgt : Int)) (ha : a < 2147483648) (hb : b < 2147483648) (kt : a ≤ b → BX M D sc Q (tgt, lv, st, S)) (kf : ¬ a ≤ b → BX M D sc Q (pc + 3, lv, st, S)) : BX M D sc Q (pc, lv, .int (nI b) :: .int (nI a) :: st, S) :=
  x_icmp_le tgt hf ht (fun q => kt ((nI_leI ha hb).mp q)) (fun q => kf (fun z => q ((nI_leI ha hb).mpr z)))
theorem x_icmpN_eq {M : MI} {D : Nat} {sc : Option (Nat × (Nat → Int32))} {Q : Option Value → ST → Prop} {pc : Nat} {lv : List (Nat × Value)} {st : List Value} {S : ST} {a b : Nat} {off : Int} (tgt : Nat) (hf : fet M pc = some (.if_icmp .eq off)) (ht : (pc : Int) + off = (tgt : Int)) (ha : a < 2147483648) (hb : b < 2147483648) (kt : a = b → BX M D sc Q (tgt, lv, st, S)) (kf : ¬ a = b → BX M D sc Q (pc + 3, lv, st, S)) : BX M D sc Q (pc, lv, .int (nI b) :: .int (nI a) :: st, S) :=
  x_icmp_eq tgt hf ht (fun q => kt ((nI_eqI ha hb).mp q)) (fun q => kf (fun z => q ((nI_eqI ha hb).mpr z)))
theorem x_icmpN_ne {M : MI} {D : Nat} {sc : Option (Nat × (Nat → Int32))} {Q : Option Value → ST → Prop} {pc : Nat} {lv : List (Nat × Value)} {st : List Value} {S : ST} {a b : Nat} {off : Int} (tgt : Nat) (hf : fet M pc = some (.if_icmp .ne off)) (ht : (pc : Int) + off = (tgt : Int)) (ha : a < 2147483648) (hb : b < 2147483648) (kt : ¬ a = b → BX M D sc Q (tgt, lv, st, S)) (kf : a = b → BX M D sc Q (pc + 3, lv, st, S)) : BX M D sc Q (pc, lv, .int (nI b) :: .int (nI a) :: st, S) :=
  x_icmp_ne tgt hf ht (fun q => kt (fun z => q ((nI_eqI ha hb).mpr z))) (fun q => kf ((nI_eqI ha hb).mp q))
theorem x_ifN_lt {M : MI} {D : Nat} {sc : Option (Nat × (Nat → Int32))} {Q : Option Value → ST → Prop} {pc : Nat} {lv : List (Nat × Value)} {st : List Value} {S : ST} {a : Nat} {off : Int} (tgt : Nat) (hf : fet M pc = some (.ifCond .lt off)) (ht : (pc : Int) + off = (tgt : Int)) (ha : a < 2147483648) (kt : a < 0 → BX M D sc Q (tgt, lv, st, S)) (kf : ¬ a < 0 → BX M D sc Q (pc + 3, lv, st, S)) : BX M D sc Q (pc, lv, .int (nI a) :: st, S) :=
  x_if_lt tgt hf ht (fun q => kt ((nI_ltI ha (by decide : (0 : Nat) < 2147483648)).mp q)) (fun q => kf (fun z => q ((nI_ltI ha (by decide : (0 : Nat) < 2147483648)).mpr z)))
theorem x_ifN_ge {M : MI} {D : Nat} {sc : Option (Nat × (Nat → Int32))} {Q : Option Value → ST → Prop} {pc : Nat} {lv : List (Nat × Value)} {st : List Value} {S : ST} {a : Nat} {off : Int} (tgt : Nat) (hf : fet M pc = some (.ifCond .ge off)) (ht : (pc : Int) + off = (tgt : Int)) (ha : a < 2147483648) (kt : 0 ≤ a → BX M D sc Q (tgt, lv, st, S)) (kf : ¬ 0 ≤ a → BX M D sc Q (pc + 3, lv, st, S)) : BX M D sc Q (pc, lv, .int (nI a) :: st, S) :=
  x_if_ge tgt hf ht (fun q => kt ((nI_leI (by decide : (0 : Nat) < 2147483648) ha).mp q)) (fun q => kf (fun z => q ((nI_leI (by decide : (0 : Nat) < 2147483648) ha).mpr z)))
theorem x_ifN_gt {M : MI} {D : Nat} {sc : Option (Nat × (Nat → Int32))} {Q : Option Value → ST → Prop} {pc : Nat} {lv : List (Nat × Value)} {st : List Value} {S : ST} {a : Nat} {off : Int} (tgt : Nat) (hf : fet M pc = some (.ifCond .gt off)) (ht : (pc : Int) + off = (tgt : Int)) (ha : a < 2147483648) (kt : 0 < a → BX M D sc Q (tgt, lv, st, S)) (kf : ¬ 0 < a → BX M D sc Q (pc + 3, lv, st, S)) : BX M D sc Q (pc, lv, .int (nI a) :: st, S) :=
  x_if_gt tgt hf ht (fun q => kt ((nI_ltI (by decide : (0 : Nat) < 2147483648) ha).mp q)) (fun q => kf (fun z => q ((nI_ltI (by decide : (0 : Nat) < 2147483648) ha).mpr z)))
theorem x_ifN_le {M : MI} {D : Nat} {sc : Option (Nat × (Nat → Int32))} {Q : Option Value → ST → Prop} {pc : Nat} {lv : List (Nat × Value)} {st : List Value} {S : ST} {a : Nat} {off : Int} (tgt : Nat) (hf : fet M pc = some (.ifCond .le off)) (ht : (pc : Int) + off = (tgt : Int)) (ha : a < 2147483648) (kt : a ≤ 0 → BX M D sc Q (tgt, lv, st, S)) (kf : ¬ a ≤ 0 → BX M D sc Q (pc + 3, lv, st, S)) : BX M D sc Q (pc, lv, .int (nI a) :: st, S) :=
  x_if_le tgt hf ht (fun q => kt ((nI_leI ha (by decide : (0 : Nat) < 2147483648)).mp q)) (fun q => kf (fun z => q ((nI_leI ha (by decide : (0 : Nat) < 2147483648)).mpr z)))
theorem x_ifN_eq {M : MI} {D : Nat} {sc : Option (Nat × (Nat → Int32))} {Q : Option Value → ST → Prop} {pc : Nat} {lv : List (Nat × Value)} {st : List Value} {S : ST} {a : Nat} {off : Int} (tgt : Nat) (hf : fet M pc = some (.ifCond .eq off)) (ht : (pc : Int) + off = (tgt : Int)) (ha : a < 2147483648) (kt : a = 0 → BX M D sc Q (tgt, lv, st, S)) (kf : ¬ a = 0 → BX M D sc Q (pc + 3, lv, st, S)) : BX M D sc Q (pc, lv, .int (nI a) :: st, S) :=
  x_if_eq tgt hf ht (fun q => kt ((nI_eqI ha (by decide : (0 : Nat) < 2147483648)).mp q)) (fun q => kf (fun z => q ((nI_eqI ha (by decide : (0 : Nat) < 2147483648)).mpr z)))
theorem x_ifN_ne {M : MI} {D : Nat} {sc : Option (Nat × (Nat → Int32))} {Q : Option Value → ST → Prop} {pc : Nat} {lv : List (Nat × Value)} {st : List Value} {S : ST} {a : Nat} {off : Int} (tgt : Nat) (hf : fet M pc = some (.ifCond .ne off)) (ht : (pc : Int) + off = (tgt : Int)) (ha : a < 2147483648) (kt : ¬ a = 0 → BX M D sc Q (tgt, lv, st, S)) (kf : a = 0 → BX M D sc Q (pc + 3, lv, st, S)) : BX M D sc Q (pc, lv, .int (nI a) :: st, S) :=
  x_if_ne tgt hf ht (fun q => kt (fun z => q ((nI_eqI ha (by decide : (0 : Nat) < 2147483648)).mpr z))) (fun q => kf ((nI_eqI ha (by decide : (0 : Nat) < 2147483648)).mp q))
theorem x_ifB_eq {M : MI} {D : Nat} {sc : Option (Nat × (Nat → Int32))} {Q : Option Value → ST → Prop} {pc : Nat} {lv : List (Nat × Value)} {st : List Value} {S : ST} {p : Prop} [Decidable p] {off : Int} (tgt : Nat) (hf : fet M pc = some (.ifCond .eq off)) (ht : (pc : Int) + off = (tgt : Int)) (kt : ¬ p → BX M D sc Q (tgt, lv, st, S)) (kf : p → BX M D sc Q (pc + 3, lv, st, S)) : BX M D sc Q (pc, lv, .int (b2 p) :: st, S) :=
  x_if_eq tgt hf ht (fun q => kt ((b2_0 p).mp q)) (fun q => kf (Decidable.not_not.mp (fun z => q ((b2_0 p).mpr z))))
theorem x_ifB_ne {M : MI} {D : Nat} {sc : Option (Nat × (Nat → Int32))} {Q : Option Value → ST → Prop} {pc : Nat} {lv : List (Nat × Value)} {st : List Value} {S : ST} {p : Prop} [Decidable p] {off : Int} (tgt : Nat) (hf : fet M pc = some (.ifCond .ne off)) (ht : (pc : Int) + off = (tgt : Int)) (kt : p → BX M D sc Q (tgt, lv, st, S)) (kf : ¬ p → BX M D sc Q (pc + 3, lv, st, S)) : BX M D sc Q (pc, lv, .int (b2 p) :: st, S) :=
  x_if_ne tgt hf ht (fun q => kt (Decidable.not_not.mp (fun z => q ((b2_0 p).mpr z)))) (fun q => kf ((b2_0 p).mp q))
theorem x_copyN {M : MI} {D : Nat} {sc : Option (Nat × (Nat → Int32))} {Q : Option Value → ST → Prop} {pc : Nat} {lv : List (Nat × Value)} {st : List Value} {S : ST} {x y z idx k0 k1 n0 n1 : Nat} {f0 f1 : List (Option Nat)} (hf : fet M pc = some (.invokestatic idx)) (hl : Cond.methodLink (mnm M).cls idx arraycopyName ∈ tbl) (hk0 : shp[k0]? = some (0, n0, f0)) (hk1 : shp[k1]? = some (0, n1, f1)) (b0 : n0 < 2147483648) (b1 : n1 < 2147483648) (g4 : x + z ≤ n0) (g5 : y + z ≤ n1) (hrest : (st.map fun v => v.category).sum ≤ 8) (hD : 1 ≤ D) (kk : BX M D sc Q (pc + 3, lv, st, rwr S k1 (va_cpy (S.1 k0) (S.1 k1) x y z))) : BX M D sc Q (pc, lv, .int (nI z) :: .int (nI y) :: .ref k1 :: .int (nI x) :: .ref k0 :: st, S) := by
  have ex : (nI x).toNatClampNeg = x := nI_clamp (by omega)
  have ey : (nI y).toNatClampNeg = y := nI_clamp (by omega)
  have ez : (nI z).toNatClampNeg = z := nI_clamp (by omega)
  refine x_copy hf hl wm_copy.1 wm_copy.2.1 wm_copy.2.2 hk0 hk1 (nI_pos (by omega)) (nI_pos (by omega)) (nI_pos (by omega)) (by rw [ex, ez]; exact g4) (by rw [ey, ez]; exact g5) hrest hD ?_
  rw [ex, ey, ez]
  exact kk
end
section
/-! contracts: small static methods -/
theorem c_isBelow (S : ST) (x n : Int32) : EX me_N_isBelow 0 [.int x, .int n] S (fun r u => r = some (.int (b2 (0 ≤ x ∧ x < n))) ∧ u = S) := by
  refine EX.of mok_N_isBelow (Nat.le_of_ble_eq_true rfl) ?_
  refine run_ok 1 (c' := (1, [(0, .int x), (1, .int n)], [.int x], S)) rfl ?_
  refine x_if_lt 13 rfl rfl (fun h1 => ?_) (fun h1 => ?_)
  · refine run_ok 1 (c' := (14, [(0, .int x), (1, .int n)], [.int (nI 0)], S)) rfl ?_
    exact x_ret (r := some (.int (nI 0))) rfl rfl (Or.inl rfl) ⟨congrArg (fun z => some (Value.int z)) (b2_f (fun z => by first | exact absurd h6 (Int32.not_le.mpr z.2) | exact absurd h1 (Int32.not_lt.mpr z.1))).symm, rfl⟩ rfl
  · refine run_ok 2 (c' := (6, [(0, .int x), (1, .int n)], [.int n, .int x], S)) rfl ?_
    refine x_icmp_ge 13 rfl rfl (fun h6 => ?_) (fun h6 => ?_)
    · refine run_ok 1 (c' := (14, [(0, .int x), (1, .int n)], [.int (nI 0)], S)) rfl ?_
      exact x_ret (r := some (.int (nI 0))) rfl rfl (Or.inl rfl) ⟨congrArg (fun z => some (Value.int z)) (b2_f (fun z => by first | exact absurd h6 (Int32.not_le.mpr z.2) | exact absurd h1 (Int32.not_lt.mpr z.1))).symm, rfl⟩ rfl
    · refine run_ok 2 (c' := (14, [(0, .int x), (1, .int n)], [.int (nI 1)], S)) rfl ?_
      exact x_ret (r := some (.int (nI 1))) rfl rfl (Or.inr rfl) ⟨congrArg (fun z => some (Value.int z)) (b2_t ⟨Int32.not_lt.mp h1, Int32.not_le.mp h6⟩).symm, rfl⟩ rfl

theorem c_pair (S : ST) (x y : Int32) : EX me_N_pair 0 [.int x, .int y] S (fun r u => r = some (.int (x * nI 8 + y)) ∧ u = S) := by
  refine EX.of mok_N_pair (Nat.le_of_ble_eq_true rfl) ?_
  refine run_ok 5 (c' := (6, [(0, .int x), (1, .int y)], [.int ((x * (nI 8)) + y)], S)) rfl ?_
  exact x_ret (r := some (.int ((x * (nI 8)) + y))) rfl rfl trivial ⟨rfl, rfl⟩ rfl

theorem c_areTwo (S : ST) (x y : Int32) : EX me_N_areTwo 1 [.int x, .int y] S (fun r u => r = some (.int (b2 ((0 ≤ x ∧ x < nI 8) ∧ (0 ≤ y ∧ y < nI 8) ∧ ¬ x = y))) ∧ u = S) := by
  refine EX.of mok_N_areTwo (Nat.le_of_ble_eq_true rfl) ?_
  refine run_ok 2 (c' := (3, [(0, .int x), (1, .int y)], [.int (nI 8), .int x], S)) rfl ?_
  refine x_callS [.int x, .int (nI 8)] rfl cs_N_isBelow.1 lk_6_73 cs_N_isBelow.2.1 rfl rfl (Nat.le_of_ble_eq_true rfl) (by decide) cs_N_isBelow.2.2 (c_isBelow S x (nI 8)) ?_
  rintro r u ⟨hr, hu⟩
  rw [hr, hu]
  clear hr hu r u
  refine x_ifB_eq 27 rfl rfl (fun h6 => ?_) (fun h6 => ?_)
  · refine run_ok 1 (c' := (28, [(0, .int x), (1, .int y)], [.int (nI 0)], S)) rfl ?_
    exact x_ret (r := some (.int (nI 0))) rfl rfl (Or.inl rfl) ⟨congrArg (fun z => some (Value.int z)) (b2_f (fun z => by first | exact absurd z.1 (by assumption) | exact absurd z.2.1 (by assumption) | exact absurd (by assumption) z.2.2)).symm, rfl⟩ rfl
  · refine run_ok 2 (c' := (12, [(0, .int x), (1, .int y)], [.int (nI 8), .int y], S)) rfl ?_
    refine x_callS [.int y, .int (nI 8)] rfl cs_N_isBelow.1 lk_6_73 cs_N_isBelow.2.1 rfl rfl (Nat.le_of_ble_eq_true rfl) (by decide) cs_N_isBelow.2.2 (c_isBelow S y (nI 8)) ?_
    rintro r u ⟨hr, hu⟩
    rw [hr, hu]
    clear hr hu r u
    refine x_ifB_eq 27 rfl rfl (fun h15 => ?_) (fun h15 => ?_)
    · refine run_ok 1 (c' := (28, [(0, .int x), (1, .int y)], [.int (nI 0)], S)) rfl ?_
      exact x_ret (r := some (.int (nI 0))) rfl rfl (Or.inl rfl) ⟨congrArg (fun z => some (Value.int z)) (b2_f (fun z => by first | exact absurd z.1 (by assumption) | exact absurd z.2.1 (by assumption) | exact absurd (by assumption) z.2.2)).symm, rfl⟩ rfl
    · refine run_ok 2 (c' := (20, [(0, .int x), (1, .int y)], [.int y, .int x], S)) rfl ?_
      refine x_icmp_eq 27 rfl rfl (fun h20 => ?_) (fun h20 => ?_)
      · refine run_ok 1 (c' := (28, [(0, .int x), (1, .int y)], [.int (nI 0)], S)) rfl ?_
        exact x_ret (r := some (.int (nI 0))) rfl rfl (Or.inl rfl) ⟨congrArg (fun z => some (Value.int z)) (b2_f (fun z => by first | exact absurd z.1 (by assumption) | exact absurd z.2.1 (by assumption) | exact absurd (by assumption) z.2.2)).symm, rfl⟩ rfl
      · refine run_ok 2 (c' := (28, [(0, .int x), (1, .int y)], [.int (nI 1)], S)) rfl ?_
        exact x_ret (r := some (.int (nI 1))) rfl rfl (Or.inr rfl) ⟨congrArg (fun z => some (Value.int z)) (b2_t ⟨by assumption, by assumption, by assumption⟩).symm, rfl⟩ rfl
end
section
/-! what comes of a telling: the voyage, in natural numbers -/
def upn (f : Nat → Nat) (k v : Nat) : Nat → Nat := fun j => if j = k then v else f j
/-- told: hates at first; boats: sort, builder, week, strength; events: kind, week, boat; how many boats, events; which events are left out, as bits -/
abbrev TD : Type := (Nat → Nat) × (Nat → Nat) × (Nat → Nat) × (Nat → Nat) × (Nat → Nat) × (Nat → Nat) × (Nat → Nat) × (Nat → Nat) × Nat × Nat × Nat
abbrev th (T : TD) : Nat → Nat := T.1
abbrev tso (T : TD) : Nat → Nat := T.2.1
abbrev tbu (T : TD) : Nat → Nat := T.2.2.1
abbrev tla (T : TD) : Nat → Nat := T.2.2.2.1
abbrev tst (T : TD) : Nat → Nat := T.2.2.2.2.1
abbrev tek (T : TD) : Nat → Nat := T.2.2.2.2.2.1
abbrev tew (T : TD) : Nat → Nat := T.2.2.2.2.2.2.1
abbrev teb (T : TD) : Nat → Nat := T.2.2.2.2.2.2.2.1
abbrev tnb (T : TD) : Nat := T.2.2.2.2.2.2.2.2.1
abbrev tne (T : TD) : Nat := T.2.2.2.2.2.2.2.2.2.1
abbrev tlo (T : TD) : Nat := T.2.2.2.2.2.2.2.2.2.2
/-- hates, what each boat is, its name (8: none), grudge, strength; the first week, the first boat (24, 8: none) -/
abbrev VS : Type := (Nat → Nat) × (Nat → Nat) × (Nat → Nat) × (Nat → Nat) × (Nat → Nat) × Nat × Nat
abbrev vh (V : VS) : Nat → Nat := V.1
abbrev vis (V : VS) : Nat → Nat := V.2.1
abbrev vnm (V : VS) : Nat → Nat := V.2.2.1
abbrev vgr (V : VS) : Nat → Nat := V.2.2.2.1
abbrev vho (V : VS) : Nat → Nat := V.2.2.2.2.1
abbrev vfw (V : VS) : Nat := V.2.2.2.2.2.1
abbrev vfb (V : VS) : Nat := V.2.2.2.2.2.2
def tok (T : TD) : Prop := tnb T ≤ 8 ∧ tne T ≤ 9 ∧ (∀ k, k < tnb T → tso T k ≤ 2 ∧ tbu T k < 8 ∧ tla T k < 24 ∧ tst T k ≤ 9) ∧ (∀ e, e < tne T → tek T e < 3 ∧ tew T e < 24 ∧ teb T e < 8) ∧ (∀ j, j < 64 → th T j ≤ 9) ∧ tlo T < 512
def vok (T : TD) (V : VS) (w : Nat) : Prop := (∀ j, j < 64 → vh V j ≤ 9) ∧ (∀ k, k < 8 → vis V k ≤ 3 ∧ vnm V k ≤ 8 ∧ (vis V k = 1 → k < tnb T ∧ vnm V k < 8)) ∧ (∀ k, k < tnb T → vho V k ≤ 9 ∧ vgr V k ≤ 9 * w)
def stm (T : TD) (V : VS) : VS := (vh V, vis V, vnm V, vgr V, (fun k => if k < tnb T ∧ vis V k = 1 then vho V k - (if tso T k = 2 then 2 else 1) else vho V k), vfw V, vfb V)
def shr (T : TD) (V : VS) (k : Nat) : VS := (upn (vh V) (8 * vnm V k + tbu T k) (vh V (8 * vnm V k + tbu T k) - 1), vis V, vnm V, upn (vgr V) k 0, vho V, vfw V, vfb V)
def mku (T : TD) (V : VS) (k : Nat) : VS := (upn (upn (vh V) (8 * vnm V k + tbu T k) 0) (8 * tbu T k + vnm V k) 0, vis V, vnm V, vgr V, vho V, vfw V, vfb V)
def evt (T : TD) (V : VS) (e : Nat) : VS := if tek T e = 0 then stm T V else if vis V (teb T e) = 1 then (if tek T e = 1 then shr T V (teb T e) else mku T V (teb T e)) else V
def evs (T : TD) (w : Nat) : Nat → VS → VS
  | 0, V => V
  | e + 1, V => if tew T e = w ∧ (tlo T).testBit e = false then evt T (evs T w e V) e else evs T w e V
def wst (h : Nat → Nat) (b : Nat) : Nat → Nat × Nat
  | 0 => (8, 0)
  | p + 1 => if (wst h b p).2 < h (8 * p + b) then (p, h (8 * p + b)) else wst h b p
def lau (T : TD) (V : VS) (k : Nat) : VS := (vh V, upn (vis V) k (if (wst (vh V) (tbu T k) 8).1 = 8 then 3 else 1), upn (vnm V) k (wst (vh V) (tbu T k) 8).1, vgr V, vho V, vfw V, vfb V)
def lnc (T : TD) (w : Nat) (V : VS) : Nat → VS
  | 0 => V
  | k + 1 => if tla T k = w then lau T (lnc T w V k) k else lnc T w V k
def bea (T : TD) (w : Nat) (V : VS) (k : Nat) : VS :=
  if 3 * vho V k < vgr V k + (if tso T k = 1 then vh V (8 * vnm V k + tbu T k) / 2 else vh V (8 * vnm V k + tbu T k)) ∨ vho V k = 0 then
    (upn (vh V) (8 * tbu T k + vnm V k) (if vh V (8 * tbu T k + vnm V k) < 9 then vh V (8 * tbu T k + vnm V k) + 1 else vh V (8 * tbu T k + vnm V k)), upn (vis V) k 2, vnm V, upn (vgr V) k (vgr V k + (if tso T k = 1 then vh V (8 * vnm V k + tbu T k) / 2 else vh V (8 * vnm V k + tbu T k))), vho V, (if vfw V = 24 then w else vfw V), (if vfw V = 24 then k else vfb V))
  else (vh V, vis V, vnm V, upn (vgr V) k (vgr V k + (if tso T k = 1 then vh V (8 * vnm V k + tbu T k) / 2 else vh V (8 * vnm V k + tbu T k))), vho V, vfw V, vfb V)
def sls (T : TD) (w : Nat) (V : VS) : Nat → VS
  | 0 => V
  | k + 1 => if vis (sls T w V k) k = 1 then bea T w (sls T w V k) k else sls T w V k
def wkf (T : TD) (w : Nat) (V : VS) : VS := sls T w (lnc T w (evs T w (tne T) V) (tnb T)) (tnb T)
def vz (T : TD) : VS := (th T, (fun _ => 0), (fun _ => 8), (fun _ => 0), tst T, 24, 8)
def vo (T : TD) : Nat → VS
  | 0 => vz T
  | w + 1 => wkf T w (vo T w)
/-- a name as the code has it -/
def nmv (p : Nat) : Int32 := if p = 8 then (-1) else nI p
def fwv (w : Nat) : Int32 := if w = 24 then (-1) else nI w
theorem nmv_lt {p : Nat} (h : p < 8) : nmv p = nI p := if_neg (by omega)
theorem nmv_8 : nmv 8 = (-1) := rfl
theorem nmv_n1 {p : Nat} (h : p ≤ 8) : nmv p = (-1) ↔ p = 8 := by
  unfold nmv
  split
  · rename_i h1; exact ⟨fun _ => h1, fun _ => rfl⟩
  · rename_i h1
    refine ⟨fun e => ?_, fun e => absurd e h1⟩
    have h2 : (nI p).toInt = (p : Int) := nI_toInt (by omega)
    rw [e] at h2
    have h3 : ((-1 : Int32)).toInt = -1 := by decide
    omega
theorem max0 {x b : Nat} (hx : x < 1000000) (hb : b < 1000000) : (if nI 0 < nI x - nI b then nI x - nI b else nI 0) = nI (x - b) := by
  by_cases h : b ≤ x
  · rw [pk_sub h]
    by_cases h0 : 0 < x - b
    · rw [if_pos ((nI_ltI (by decide) (by omega)).mpr h0)]
    · have : x - b = 0 := by omega
      rw [this, if_neg (by decide)]
  · have h1 : nI x - nI b < 0 := pk_sneg (by omega) (by omega)
    have h2 : ¬ nI 0 < nI x - nI b := fun z => by
      have h3 := Int32.lt_trans z h1
      exact absurd h3 (by decide)
    rw [if_neg h2]
    have : x - b = 0 := by omega
    rw [this]
/-- a row of the state holds these numbers -/
def rh (u : ST) (k n : Nat) (f : Nat → Nat) : Prop := ∀ j, j < n → u.1 k j = nI (f j)
theorem rh.put {u : ST} {k n e v : Nat} {f : Nat → Nat} (h : rh u k n f) : rh (pt u k e (nI v)) k n (upn f e v) := by
  intro j hj
  rw [pt_at]
  unfold upd upn
  split
  · rfl
  · exact h j hj
theorem rh.putv {u : ST} {k n e v : Nat} {x : Int32} {f : Nat → Nat} (h : rh u k n f) (hx : x = nI v) : rh (pt u k e x) k n (upn f e v) := by rw [hx]; exact h.put
theorem rh.ne {u : ST} {k k' n e : Nat} {v : Int32} {f : Nat → Nat} (h : rh u k n f) (hk : k ≠ k') : rh (pt u k' e v) k n f := by
  intro j hj
  show (if k = k' then _ else u.1 k) j = _
  rw [if_neg hk]
  exact h j hj
theorem rh.le {u : ST} {k n n' : Nat} {f : Nat → Nat} (h : rh u k n f) (hn : n' ≤ n) : rh u k n' f := fun j hj => h j (by omega)
theorem rh.keep {u v : ST} {k n : Nat} {f : Nat → Nat} {ks : List Nat} (h : rh u k n f) (hf : fr ks u v) (hk : k ∉ ks) : rh v k n f := fun j hj => by rw [hf k hk]; exact h j hj
theorem rh.cg {u : ST} {k n : Nat} {f g : Nat → Nat} (h : rh u k n f) (hg : ∀ j, j < n → g j = f j) : rh u k n g := fun j hj => by rw [hg j hj]; exact h j hj
theorem x_gett {M : MI} {D : Nat} {sc : Option (Nat × (Nat → Int32))} {Q : Option Value → ST → Prop} {pc : Nat} {lv : List (Nat × Value)} {st : List Value} {S : ST} {i t : Nat} (hf : fet M pc = some (.getfield i)) (hi : fld (mow M) i = some (5, 0)) (ht : S.2.2 = t) (kk : BX M D sc Q (pc + 3, lv, .ref t :: st, S)) : BX M D sc Q (pc, lv, .ref 23 :: st, S) := by
  refine x_getfield (c' := (pc + 3, lv, .ref t :: st, S)) hf ?_ kk
  unfold gtf
  dsimp only
  rw [hi, shp23]
  show some (pc + 3, lv, Value.ref (if 1000 = 1000 then S.2.2 else 1000) :: st, S) = _
  rw [if_pos rfl, ht]
/-- the telling t of the class's (5: told, 14: the trial's) holds T -/
def TR (t : Nat) (T : TD) (u : ST) : Prop := rh u (t + 1) 64 (th T) ∧ rh u (t + 2) (tnb T) (tso T) ∧ rh u (t + 3) (tnb T) (tbu T) ∧ rh u (t + 4) (tnb T) (tla T) ∧ rh u (t + 5) (tnb T) (tst T) ∧ rh u (t + 6) (tne T) (tek T) ∧ rh u (t + 7) (tne T) (tew T) ∧ rh u (t + 8) (tne T) (teb T) ∧ u.1 t 6 = nI (tnb T) ∧ u.1 t 10 = nI (tne T) ∧ u.1 t 11 = nI (tlo T)
theorem TR.keep {t : Nat} {T : TD} {u v : ST} {ks : List Nat} (h : TR t T u) (hf : fr ks u v) (hk : ∀ i, i < 9 → t + i ∉ ks) : TR t T v := by
  obtain ⟨h1, h2, h3, h4, h5, h6, h7, h8, h9, h10, h11⟩ := h
  have h0 := hf t (hk 0 (by omega))
  exact ⟨h1.keep hf (hk 1 (by omega)), h2.keep hf (hk 2 (by omega)), h3.keep hf (hk 3 (by omega)), h4.keep hf (hk 4 (by omega)), h5.keep hf (hk 5 (by omega)), h6.keep hf (hk 6 (by omega)), h7.keep hf (hk 7 (by omega)), h8.keep hf (hk 8 (by omega)), by rw [h0]; exact h9, by rw [h0]; exact h10, by rw [h0]; exact h11⟩
/-! the loops' halves -/
def stmk (T : TD) (V : VS) (i k : Nat) : Nat := if k < i ∧ vis V k = 1 then vho V k - (if tso T k = 2 then 2 else 1) else vho V k
theorem stmk_a {T : TD} {V : VS} {i b : Nat} (h1 : vis V i = 1) (h2 : (if tso T i = 2 then 2 else 1) = b) (j : Nat) : stmk T V (i + 1) j = upn (stmk T V i) i (vho V i - b) j := by
  unfold stmk upn
  by_cases hj : j = i
  · subst hj
    rw [if_pos ⟨by omega, h1⟩, if_pos rfl, h2]
  · have e : (j < i + 1 ∧ vis V j = 1) ↔ (j < i ∧ vis V j = 1) := by omega
    simp only [e, hj, if_false]
theorem stmk_b {T : TD} {V : VS} {i : Nat} (h1 : ¬ vis V i = 1) (j : Nat) : stmk T V (i + 1) j = stmk T V i j := by
  unfold stmk
  by_cases hj : j = i
  · subst hj
    rw [if_neg (fun z => h1 z.2), if_neg (fun z => h1 z.2)]
  · have e : (j < i + 1 ∧ vis V j = 1) ↔ (j < i ∧ vis V j = 1) := by omega
    simp only [e]
theorem stmk_c (T : TD) (V : VS) (i : Nat) : stmk T V i i = vho V i := if_neg (fun z => Nat.lt_irrefl _ z.1)
theorem stmk_0 (T : TD) (V : VS) (j : Nat) : stmk T V 0 j = vho V j := if_neg (fun z => Nat.not_lt_zero _ z.1)
theorem stmk_n (T : TD) (V : VS) (j : Nat) : vho (stm T V) j = stmk T V (tnb T) j := rfl
theorem wst_le (h : Nat → Nat) (b : Nat) (hh : ∀ j, j < 64 → h j ≤ 9) (hb : b < 8) : ∀ p, p ≤ 8 → (wst h b p).1 ≤ 8 ∧ (wst h b p).2 ≤ 9 := by
  intro p
  induction p with
  | zero => intro _; exact ⟨Nat.le_refl 8, Nat.zero_le 9⟩
  | succ p ih =>
    intro hp
    unfold wst
    split
    · exact ⟨by omega, hh _ (by omega)⟩
    · exact ih (by omega)
end
section
/-! the voyage of the class: its small methods -/
set_option maxHeartbeats 1000000 in
theorem c_worst (S : ST) (h : Nat → Nat) (b : Nat) (hb : b < 8) (hh : rh S 24 64 h) (h9 : ∀ j, j < 64 → h j ≤ 9) : EX me_V_worstEnemy 0 [.ref 23, .int (nI b)] S (fun r u => r = some (.int (nmv (wst h b 8).1)) ∧ u = S) := by
  refine EX.of mok_V_worstEnemy (Nat.le_of_ble_eq_true rfl) ?_
  refine run_ok 6 (c' := (7, [(0, .ref 23), (1, .int (nI b)), (2, .int (nmv (wst h b 0).1)), (3, .int (nI (wst h b 0).2)), (4, .int (nI 0))], [], S)) rfl ?_
  refine loop_up (P := fun i => BX me_V_worstEnemy 0 none (fun r u => r = some (.int (nmv (wst h b 8).1)) ∧ u = S) (7, [(0, .ref 23), (1, .int (nI b)), (2, .int (nmv (wst h b i).1)), (3, .int (nI (wst h b i).2)), (4, .int (nI i))], [], S)) 8 ?_ ?_ 0 (by omega)
  · skip
    refine run_ok 2 (c' := (11, [(0, .ref 23), (1, .int (nI b)), (2, .int (nmv (wst h b 8).1)), (3, .int (nI ((wst h b 8).2))), (4, .int (nI 8))], [.int (nI 8), .int (nI 8)], S)) rfl ?_
    refine x_icmpN_ge 46 rfl rfl (by omega) (by omega) (fun h11 => ?_) (fun hn => absurd (Nat.le_refl 8) hn)
    refine run_ok 1 (c' := (47, [(0, .ref 23), (1, .int (nI b)), (2, .int (nmv (wst h b 8).1)), (3, .int (nI ((wst h b 8).2))), (4, .int (nI 8))], [.int (nmv (wst h b 8).1)], S)) rfl ?_
    exact x_ret (r := some (.int (nmv (wst h b 8).1))) rfl rfl trivial ⟨rfl, rfl⟩ rfl
  · intro i hi ih
    have hw := wst_le h b h9 hb i (by omega)
    have hq := h9 (8 * i + b) (by omega)
    refine run_ok 2 (c' := (11, [(0, .ref 23), (1, .int (nI b)), (2, .int (nmv (wst h b i).1)), (3, .int (nI ((wst h b i).2))), (4, .int (nI i))], [.int (nI 8), .int (nI i)], S)) rfl ?_
    refine x_icmpN_ge 46 rfl rfl (by omega) (by omega) (fun hn => absurd hn (show ¬ 8 ≤ i by omega)) (fun h11 => ?_)
    refine run_ok 5 (c' := (23, [(0, .ref 23), (1, .int (nI b)), (2, .int (nmv (wst h b i).1)), (3, .int (nI ((wst h b i).2))), (4, .int (nI i))], [.int ((nI i) * (nI 8)), .ref 24], S)) rfl ?_
    refine x_top (v' := nI (i * 8)) (pk_mul _ _) ?_
    refine run_ok 2 (c' := (25, [(0, .ref 23), (1, .int (nI b)), (2, .int (nmv (wst h b i).1)), (3, .int (nI ((wst h b i).2))), (4, .int (nI i))], [.int ((nI (i * 8)) + (nI b)), .ref 24], S)) rfl ?_
    refine x_top (v' := nI ((i * 8) + b)) (nI_add _ _) ?_
    refine x_iaN (nI (h (8 * i + b))) rfl rfl (by decide) (by omega) (by rw [show i * 8 + b = 8 * i + b by omega]; exact hh _ (by omega)) ?_
    refine run_ok 3 (c' := (31, [(0, .ref 23), (1, .int (nI b)), (2, .int (nmv (wst h b i).1)), (3, .int (nI ((wst h b i).2))), (4, .int (nI i)), (5, .int (nI (h (8 * i + b))))], [.int (nI ((wst h b i).2)), .int (nI (h (8 * i + b)))], S)) rfl ?_
    refine x_icmpN_le 40 rfl rfl (by omega) (by omega) (fun h31 => ?_) (fun h31 => ?_)
    · refine run_ok 1 (c' := (43, [(0, .ref 23), (1, .int (nI b)), (2, .int (nmv (wst h b i).1)), (3, .int (nI ((wst h b i).2))), (4, .int (nI i + nI 1)), (5, .int (nI (h (8 * i + b))))], [], S)) rfl ?_
      rw [nI_add i 1]
      refine run_ok 1 (c' := (7, [(0, .ref 23), (1, .int (nI b)), (2, .int (nmv (wst h b i).1)), (3, .int (nI ((wst h b i).2))), (4, .int (nI (i + 1))), (5, .int (nI (h (8 * i + b))))], [], S)) rfl ?_
      refine x_less [0, 1, 2, 3, 4] rfl ?_
      rw [show wst h b (i + 1) = wst h b i from if_neg (show ¬ (wst h b i).2 < h (8 * i + b) by omega)] at ih
      exact ih
    · refine run_ok 5 (c' := (43, [(0, .ref 23), (1, .int (nI b)), (2, .int (nI i)), (3, .int (nI (h (8 * i + b)))), (4, .int (nI i + nI 1)), (5, .int (nI (h (8 * i + b))))], [], S)) rfl ?_
      rw [nI_add i 1]
      refine run_ok 1 (c' := (7, [(0, .ref 23), (1, .int (nI b)), (2, .int (nI i)), (3, .int (nI (h (8 * i + b)))), (4, .int (nI (i + 1))), (5, .int (nI (h (8 * i + b))))], [], S)) rfl ?_
      refine x_less [0, 1, 2, 3, 4] rfl ?_
      rw [show wst h b (i + 1) = (i, h (8 * i + b)) from if_pos (show (wst h b i).2 < h (8 * i + b) by omega)] at ih
      rw [nmv_lt (show i < 8 by omega)] at ih
      exact ih

set_option maxHeartbeats 1000000 in
theorem c_storm5 (S : ST) (T : TD) (V : VS) (hT : TR 5 T S) (htl : S.2.2 = 5) (hto : tok T) (his : rh S 25 8 (vis V)) (hho : rh S 28 (tnb T) (vho V)) (hho9 : ∀ k, k < tnb T → vho V k ≤ 9) (hv3 : ∀ k, k < 8 → vis V k ≤ 3) : EX me_V_storm 1 [.ref 23] S (fun r u => r = none ∧ rh u 28 (tnb T) (vho (stm T V)) ∧ fr [28] S u ∧ u.2 = S.2) := by
  refine EX.of mok_V_storm (Nat.le_of_ble_eq_true rfl) ?_
  obtain ⟨n8, n9, hbt, het, hht, hlo⟩ := id hto
  have H : ∀ i, i ≤ tnb T → ∀ u : ST, rh u 28 (tnb T) (stmk T V i) → fr [28] S u → u.2 = S.2 → BX me_V_storm 1 none (fun r u => r = none ∧ rh u 28 (tnb T) (vho (stm T V)) ∧ fr [28] S u ∧ u.2 = S.2) (2, [(0, .ref 23), (1, .int (nI i))], [], u) := by
    refine loop_up (P := fun i => ∀ u : ST, rh u 28 (tnb T) (stmk T V i) → fr [28] S u → u.2 = S.2 → BX me_V_storm 1 none (fun r u => r = none ∧ rh u 28 (tnb T) (vho (stm T V)) ∧ fr [28] S u ∧ u.2 = S.2) (2, [(0, .ref 23), (1, .int (nI i))], [], u)) (tnb T) ?_ ?_
    · intro u h28 hf h2
      have hTu : TR 5 T u := hT.keep hf (by decide)
      obtain ⟨t1, t2, t3, t4, t5, t6, t7, t8, t9, t10, t11⟩ := hTu
      have htu : u.2.2 = 5 := by rw [h2]; exact htl
      have hiu : rh u 25 8 (vis V) := his.keep hf (by decide)
      refine run_ok 2 (c' := (4, [(0, .ref 23), (1, .int (nI (tnb T)))], [.ref 23, .int (nI (tnb T))], u)) rfl ?_
      refine x_gett (t := 5) rfl rfl htu ?_
      refine run_ok 1 (c' := (10, [(0, .ref 23), (1, .int (nI (tnb T)))], [.int (u.1 5 6), .int (nI (tnb T))], u)) rfl ?_
      refine x_top (v' := nI (tnb T)) t9 ?_
      refine x_icmpN_ge 66 rfl rfl (by omega) (by omega) (fun h10 => ?_) (fun hn => absurd (Nat.le_refl _) hn)
      exact x_ret (r := none) rfl rfl trivial ⟨rfl, h28, hf, h2⟩ rfl
    · intro i hi ih u h28 hf h2
      have q1 := (hv3 i (by omega))
      have q2 := (hbt i hi).1
      have q3 := hho9 i hi
      have hTu : TR 5 T u := hT.keep hf (by decide)
      obtain ⟨t1, t2, t3, t4, t5, t6, t7, t8, t9, t10, t11⟩ := hTu
      have htu : u.2.2 = 5 := by rw [h2]; exact htl
      have hiu : rh u 25 8 (vis V) := his.keep hf (by decide)
      refine run_ok 2 (c' := (4, [(0, .ref 23), (1, .int (nI i))], [.ref 23, .int (nI i)], u)) rfl ?_
      refine x_gett (t := 5) rfl rfl htu ?_
      refine run_ok 1 (c' := (10, [(0, .ref 23), (1, .int (nI i))], [.int (u.1 5 6), .int (nI i)], u)) rfl ?_
      refine x_top (v' := nI (tnb T)) t9 ?_
      refine x_icmpN_ge 66 rfl rfl (by omega) (by omega) (fun hn => absurd hn (show ¬ tnb T ≤ i by omega)) (fun h10 => ?_)
      refine run_ok 3 (c' := (18, [(0, .ref 23), (1, .int (nI i))], [.int (nI i), .ref 25], u)) rfl ?_
      refine x_iaN (nI (vis V i)) rfl rfl (by decide) (by omega) (hiu i (by omega)) ?_
      refine run_ok 1 (c' := (20, [(0, .ref 23), (1, .int (nI i))], [.int (nI 1), .int (nI (vis V i))], u)) rfl ?_
      refine x_icmpN_ne 60 rfl rfl (by omega) (by omega) (fun h20 => ?_) (fun h20 => ?_)
      · refine run_ok 1 (c' := (63, [(0, .ref 23), (1, .int (nI i + nI 1))], [], u)) rfl ?_
        rw [nI_add i 1]
        refine run_ok 1 (c' := (2, [(0, .ref 23), (1, .int (nI (i + 1)))], [], u)) rfl ?_
        exact ih _ (h28.cg (fun j _ => stmk_b h20 j)) hf h2
      · refine run_ok 1 (c' := (24, [(0, .ref 23), (1, .int (nI i))], [.ref 23], u)) rfl ?_
        refine x_gett (t := 5) rfl rfl htu ?_
        refine run_ok 2 (c' := (31, [(0, .ref 23), (1, .int (nI i))], [.int (nI i), .ref 7], u)) rfl ?_
        refine x_iaN (nI (tso T i)) rfl rfl (by decide) (by omega) (t2 i (by omega)) ?_
        refine run_ok 1 (c' := (33, [(0, .ref 23), (1, .int (nI i))], [.int (nI 2), .int (nI (tso T i))], u)) rfl ?_
        refine x_icmpN_ne 40 rfl rfl (by omega) (by omega) (fun h33 => ?_) (fun h33 => ?_)
        · refine run_ok 9 (c' := (53, [(0, .ref 23), (1, .int (nI i)), (2, .int (nI 1))], [.int (nI i), .ref 28, .int (nI 0), .int (nI i), .ref 28], u)) rfl ?_
          refine x_iaN (nI (vho V i)) rfl rfl (by decide) (by omega) (by rw [← stmk_c T V i]; exact h28 i hi) ?_
          refine run_ok 2 (c' := (56, [(0, .ref 23), (1, .int (nI i)), (2, .int (nI 1))], [.int ((nI (vho V i)) - (nI 1)), .int (nI 0), .int (nI i), .ref 28], u)) rfl ?_
          refine x_mmax rfl lk_5_109 wm_max.1 wm_max.2.1 wm_max.2.2 (Nat.le_of_ble_eq_true rfl) (by decide) ?_
          refine x_top (v' := nI (vho V i - 1)) (max0 (by omega) (by decide)) ?_
          refine x_isN rfl rfl (by decide) (by omega) ?_
          refine run_ok 1 (c' := (63, [(0, .ref 23), (1, .int (nI i + nI 1)), (2, .int (nI 1))], [], (pt u 28 i (nI (vho V i - 1))))) rfl ?_
          rw [nI_add i 1]
          refine run_ok 1 (c' := (2, [(0, .ref 23), (1, .int (nI (i + 1))), (2, .int (nI 1))], [], (pt u 28 i (nI (vho V i - 1))))) rfl ?_
          refine x_less [0, 1] rfl ?_
          exact ih _ (h28.put.cg (fun j _ => stmk_a h20 (if_neg h33) j)) (hf.pt (by decide)) h2
        · refine run_ok 10 (c' := (53, [(0, .ref 23), (1, .int (nI i)), (2, .int (nI 2))], [.int (nI i), .ref 28, .int (nI 0), .int (nI i), .ref 28], u)) rfl ?_
          refine x_iaN (nI (vho V i)) rfl rfl (by decide) (by omega) (by rw [← stmk_c T V i]; exact h28 i hi) ?_
          refine run_ok 2 (c' := (56, [(0, .ref 23), (1, .int (nI i)), (2, .int (nI 2))], [.int ((nI (vho V i)) - (nI 2)), .int (nI 0), .int (nI i), .ref 28], u)) rfl ?_
          refine x_mmax rfl lk_5_109 wm_max.1 wm_max.2.1 wm_max.2.2 (Nat.le_of_ble_eq_true rfl) (by decide) ?_
          refine x_top (v' := nI (vho V i - 2)) (max0 (by omega) (by decide)) ?_
          refine x_isN rfl rfl (by decide) (by omega) ?_
          refine run_ok 1 (c' := (63, [(0, .ref 23), (1, .int (nI i + nI 1)), (2, .int (nI 2))], [], (pt u 28 i (nI (vho V i - 2))))) rfl ?_
          rw [nI_add i 1]
          refine run_ok 1 (c' := (2, [(0, .ref 23), (1, .int (nI (i + 1))), (2, .int (nI 2))], [], (pt u 28 i (nI (vho V i - 2))))) rfl ?_
          refine x_less [0, 1] rfl ?_
          exact ih _ (h28.put.cg (fun j _ => stmk_a h20 (if_pos h33) j)) (hf.pt (by decide)) h2
  refine run_ok 2 (c' := (2, [(0, .ref 23), (1, .int (nI 0))], [], S)) rfl ?_
  exact H 0 (Nat.zero_le _) S (hho.cg (fun j _ => stmk_0 T V j)) fr.rf rfl

set_option maxHeartbeats 1000000 in
theorem c_storm14 (S : ST) (T : TD) (V : VS) (hT : TR 14 T S) (htl : S.2.2 = 14) (hto : tok T) (his : rh S 25 8 (vis V)) (hho : rh S 28 (tnb T) (vho V)) (hho9 : ∀ k, k < tnb T → vho V k ≤ 9) (hv3 : ∀ k, k < 8 → vis V k ≤ 3) : EX me_V_storm 1 [.ref 23] S (fun r u => r = none ∧ rh u 28 (tnb T) (vho (stm T V)) ∧ fr [28] S u ∧ u.2 = S.2) := by
  refine EX.of mok_V_storm (Nat.le_of_ble_eq_true rfl) ?_
  obtain ⟨n8, n9, hbt, het, hht, hlo⟩ := id hto
  have H : ∀ i, i ≤ tnb T → ∀ u : ST, rh u 28 (tnb T) (stmk T V i) → fr [28] S u → u.2 = S.2 → BX me_V_storm 1 none (fun r u => r = none ∧ rh u 28 (tnb T) (vho (stm T V)) ∧ fr [28] S u ∧ u.2 = S.2) (2, [(0, .ref 23), (1, .int (nI i))], [], u) := by
    refine loop_up (P := fun i => ∀ u : ST, rh u 28 (tnb T) (stmk T V i) → fr [28] S u → u.2 = S.2 → BX me_V_storm 1 none (fun r u => r = none ∧ rh u 28 (tnb T) (vho (stm T V)) ∧ fr [28] S u ∧ u.2 = S.2) (2, [(0, .ref 23), (1, .int (nI i))], [], u)) (tnb T) ?_ ?_
    · intro u h28 hf h2
      have hTu : TR 14 T u := hT.keep hf (by decide)
      obtain ⟨t1, t2, t3, t4, t5, t6, t7, t8, t9, t10, t11⟩ := hTu
      have htu : u.2.2 = 14 := by rw [h2]; exact htl
      have hiu : rh u 25 8 (vis V) := his.keep hf (by decide)
      refine run_ok 2 (c' := (4, [(0, .ref 23), (1, .int (nI (tnb T)))], [.ref 23, .int (nI (tnb T))], u)) rfl ?_
      refine x_gett (t := 14) rfl rfl htu ?_
      refine run_ok 1 (c' := (10, [(0, .ref 23), (1, .int (nI (tnb T)))], [.int (u.1 14 6), .int (nI (tnb T))], u)) rfl ?_
      refine x_top (v' := nI (tnb T)) t9 ?_
      refine x_icmpN_ge 66 rfl rfl (by omega) (by omega) (fun h10 => ?_) (fun hn => absurd (Nat.le_refl _) hn)
      exact x_ret (r := none) rfl rfl trivial ⟨rfl, h28, hf, h2⟩ rfl
    · intro i hi ih u h28 hf h2
      have q1 := (hv3 i (by omega))
      have q2 := (hbt i hi).1
      have q3 := hho9 i hi
      have hTu : TR 14 T u := hT.keep hf (by decide)
      obtain ⟨t1, t2, t3, t4, t5, t6, t7, t8, t9, t10, t11⟩ := hTu
      have htu : u.2.2 = 14 := by rw [h2]; exact htl
      have hiu : rh u 25 8 (vis V) := his.keep hf (by decide)
      refine run_ok 2 (c' := (4, [(0, .ref 23), (1, .int (nI i))], [.ref 23, .int (nI i)], u)) rfl ?_
      refine x_gett (t := 14) rfl rfl htu ?_
      refine run_ok 1 (c' := (10, [(0, .ref 23), (1, .int (nI i))], [.int (u.1 14 6), .int (nI i)], u)) rfl ?_
      refine x_top (v' := nI (tnb T)) t9 ?_
      refine x_icmpN_ge 66 rfl rfl (by omega) (by omega) (fun hn => absurd hn (show ¬ tnb T ≤ i by omega)) (fun h10 => ?_)
      refine run_ok 3 (c' := (18, [(0, .ref 23), (1, .int (nI i))], [.int (nI i), .ref 25], u)) rfl ?_
      refine x_iaN (nI (vis V i)) rfl rfl (by decide) (by omega) (hiu i (by omega)) ?_
      refine run_ok 1 (c' := (20, [(0, .ref 23), (1, .int (nI i))], [.int (nI 1), .int (nI (vis V i))], u)) rfl ?_
      refine x_icmpN_ne 60 rfl rfl (by omega) (by omega) (fun h20 => ?_) (fun h20 => ?_)
      · refine run_ok 1 (c' := (63, [(0, .ref 23), (1, .int (nI i + nI 1))], [], u)) rfl ?_
        rw [nI_add i 1]
        refine run_ok 1 (c' := (2, [(0, .ref 23), (1, .int (nI (i + 1)))], [], u)) rfl ?_
        exact ih _ (h28.cg (fun j _ => stmk_b h20 j)) hf h2
      · refine run_ok 1 (c' := (24, [(0, .ref 23), (1, .int (nI i))], [.ref 23], u)) rfl ?_
        refine x_gett (t := 14) rfl rfl htu ?_
        refine run_ok 2 (c' := (31, [(0, .ref 23), (1, .int (nI i))], [.int (nI i), .ref 16], u)) rfl ?_
        refine x_iaN (nI (tso T i)) rfl rfl (by decide) (by omega) (t2 i (by omega)) ?_
        refine run_ok 1 (c' := (33, [(0, .ref 23), (1, .int (nI i))], [.int (nI 2), .int (nI (tso T i))], u)) rfl ?_
        refine x_icmpN_ne 40 rfl rfl (by omega) (by omega) (fun h33 => ?_) (fun h33 => ?_)
        · refine run_ok 9 (c' := (53, [(0, .ref 23), (1, .int (nI i)), (2, .int (nI 1))], [.int (nI i), .ref 28, .int (nI 0), .int (nI i), .ref 28], u)) rfl ?_
          refine x_iaN (nI (vho V i)) rfl rfl (by decide) (by omega) (by rw [← stmk_c T V i]; exact h28 i hi) ?_
          refine run_ok 2 (c' := (56, [(0, .ref 23), (1, .int (nI i)), (2, .int (nI 1))], [.int ((nI (vho V i)) - (nI 1)), .int (nI 0), .int (nI i), .ref 28], u)) rfl ?_
          refine x_mmax rfl lk_5_109 wm_max.1 wm_max.2.1 wm_max.2.2 (Nat.le_of_ble_eq_true rfl) (by decide) ?_
          refine x_top (v' := nI (vho V i - 1)) (max0 (by omega) (by decide)) ?_
          refine x_isN rfl rfl (by decide) (by omega) ?_
          refine run_ok 1 (c' := (63, [(0, .ref 23), (1, .int (nI i + nI 1)), (2, .int (nI 1))], [], (pt u 28 i (nI (vho V i - 1))))) rfl ?_
          rw [nI_add i 1]
          refine run_ok 1 (c' := (2, [(0, .ref 23), (1, .int (nI (i + 1))), (2, .int (nI 1))], [], (pt u 28 i (nI (vho V i - 1))))) rfl ?_
          refine x_less [0, 1] rfl ?_
          exact ih _ (h28.put.cg (fun j _ => stmk_a h20 (if_neg h33) j)) (hf.pt (by decide)) h2
        · refine run_ok 10 (c' := (53, [(0, .ref 23), (1, .int (nI i)), (2, .int (nI 2))], [.int (nI i), .ref 28, .int (nI 0), .int (nI i), .ref 28], u)) rfl ?_
          refine x_iaN (nI (vho V i)) rfl rfl (by decide) (by omega) (by rw [← stmk_c T V i]; exact h28 i hi) ?_
          refine run_ok 2 (c' := (56, [(0, .ref 23), (1, .int (nI i)), (2, .int (nI 2))], [.int ((nI (vho V i)) - (nI 2)), .int (nI 0), .int (nI i), .ref 28], u)) rfl ?_
          refine x_mmax rfl lk_5_109 wm_max.1 wm_max.2.1 wm_max.2.2 (Nat.le_of_ble_eq_true rfl) (by decide) ?_
          refine x_top (v' := nI (vho V i - 2)) (max0 (by omega) (by decide)) ?_
          refine x_isN rfl rfl (by decide) (by omega) ?_
          refine run_ok 1 (c' := (63, [(0, .ref 23), (1, .int (nI i + nI 1)), (2, .int (nI 2))], [], (pt u 28 i (nI (vho V i - 2))))) rfl ?_
          rw [nI_add i 1]
          refine run_ok 1 (c' := (2, [(0, .ref 23), (1, .int (nI (i + 1))), (2, .int (nI 2))], [], (pt u 28 i (nI (vho V i - 2))))) rfl ?_
          refine x_less [0, 1] rfl ?_
          exact ih _ (h28.put.cg (fun j _ => stmk_a h20 (if_pos h33) j)) (hf.pt (by decide)) h2
  refine run_ok 2 (c' := (2, [(0, .ref 23), (1, .int (nI 0))], [], S)) rfl ?_
  exact H 0 (Nat.zero_le _) S (hho.cg (fun j _ => stmk_0 T V j)) fr.rf rfl
end
section
/-! the class's voyage beside the voyage's numbers -/
theorem sl32 : ∀ n, n < 32 → ((nI n &&& 31).toBitVec.smod 32).toNat = n := by decide +kernel
theorem bit_t {lo e : Nat} (hl : lo < 2147483648) (he : e < 32) : (nI lo >>> (nI e &&& 31)) &&& nI 1 = nI (if lo.testBit e = true then 1 else 0) := by
  rw [pk_shrN hl _ e (sl32 e he), pk_andN (by have := Nat.div_le_self lo (2 ^ e); omega) 1 (by decide)]
  congr 1
  rw [Nat.testBit_eq_decide_div_mod_eq]
  by_cases h : lo / 2 ^ e % 2 = 1
  · simp only [h, decide_true, if_true]
  · simp only [h, decide_false]
    rw [if_neg (by decide)]
    omega
def cnt (p : Nat → Bool) : Nat → Nat
  | 0 => 0
  | n + 1 => cnt p n + (if p n = true then 1 else 0)
theorem cnt_cg {p q : Nat → Bool} : ∀ {n : Nat}, (∀ k, k < n → p k = q k) → cnt p n = cnt q n := by
  intro n
  induction n with
  | zero => intro _; rfl
  | succ n ih =>
    intro h
    unfold cnt
    rw [ih (fun k hk => h k (by omega)), h n (by omega)]
theorem cnt_le (p : Nat → Bool) : ∀ n : Nat, cnt p n ≤ n := by
  intro n
  induction n with
  | zero => exact Nat.le_refl _
  | succ n ih => unfold cnt; split <;> omega
theorem cnt_down {p q : Nat → Bool} {k : Nat} (hp : p k = true) (hq : q k = false) (ho : ∀ j, j ≠ k → q j = p j) : ∀ {n : Nat}, k < n → cnt p n = cnt q n + 1 := by
  intro n
  induction n with
  | zero => intro h; omega
  | succ n ih =>
    intro h
    unfold cnt
    by_cases hk : k = n
    · subst hk
      rw [hp, hq, cnt_cg (p := p) (q := q) (fun j hj => (ho j (by omega)).symm)]
      simp
    · rw [ih (by omega), ho n (by omega)]
      omega
theorem cnt_0 {p : Nat → Bool} : ∀ {n : Nat}, cnt p n = 0 → ∀ k, k < n → p k = false := by
  intro n
  induction n with
  | zero => intro _ k hk; omega
  | succ n ih =>
    intro h k hk
    unfold cnt at h
    by_cases e : k = n
    · subst e
      cases hp : p k with
      | false => rfl
      | true => rw [hp] at h; simp at h
    · exact ih (by omega) k (by omega)
theorem cnt_1 {p : Nat → Bool} {k : Nat} (hp : p k = true) : ∀ {n : Nat}, k < n → 0 < cnt p n := by
  intro n h
  rcases Nat.eq_zero_or_pos (cnt p n) with h0 | h0
  · have := cnt_0 h0 k h
    rw [hp] at this
    cases this
  · exact h0
/-- how many boats are at sea or not launched yet -/
def lft (T : TD) (V : VS) : Nat := cnt (fun k => decide (vis V k ≤ 1)) (tnb T)
def vk (T : TD) (V : VS) : Prop := (∀ j, j < 64 → vh V j ≤ 9) ∧ (∀ k, k < 8 → vis V k ≤ 3 ∧ vnm V k ≤ 8 ∧ (vis V k = 1 → k < tnb T ∧ vnm V k < 8)) ∧ (∀ k, k < tnb T → vho V k ≤ 9 ∧ vgr V k ≤ 36 ∧ (vis V k ≤ 1 → vgr V k ≤ 27)) ∧ vfw V ≤ 24 ∧ vfb V ≤ 8
def CR (t : Nat) (T : TD) (V : VS) (ls : Nat → Nat) (u : ST) : Prop :=
  rh u 24 64 (vh V) ∧ rh u 25 8 (vis V) ∧ (∀ k, k < 8 → u.1 26 k = nmv (vnm V k)) ∧ rh u 27 (tnb T) (vgr V) ∧ rh u 28 (tnb T) (vho V) ∧ rh u 29 (tnb T) ls ∧ (∀ k, k < 8 → vis V k = 1 → u.1 30 k = nI (8 * vnm V k + tbu T k) ∧ u.1 31 k = nI (8 * tbu T k + vnm V k)) ∧ u.1 23 9 = nI (lft T V) ∧ u.1 23 10 = fwv (vfw V) ∧ u.1 23 11 = nmv (vfb V) ∧ u.2.2 = t
abbrev VL : List Nat := [23, 24, 25, 26, 27, 28, 29, 30, 31]
theorem fwv_n1 {w : Nat} (h : w ≤ 24) : fwv w = (-1) ↔ w = 24 := by
  unfold fwv
  split
  · rename_i h1; exact ⟨fun _ => h1, fun _ => rfl⟩
  · rename_i h1
    refine ⟨fun e => ?_, fun e => absurd e h1⟩
    have h2 : (nI w).toInt = (w : Int) := nI_toInt (by omega)
    rw [e] at h2
    have h3 : ((-1 : Int32)).toInt = -1 := by decide
    omega
theorem fwv_lt {w : Nat} (h : w < 24) : fwv w = nI w := if_neg (by omega)
theorem upn_s (f : Nat → Nat) (k v : Nat) : upn f k v k = v := if_pos rfl
theorem upn_n {f : Nat → Nat} {k v j : Nat} (h : j ≠ k) : upn f k v j = f j := if_neg h
theorem upd_s (f : Nat → Int32) (k : Nat) (v : Int32) : upd f k v k = v := if_pos rfl
theorem upd_n {f : Nat → Int32} {k j : Nat} {v : Int32} (h : j ≠ k) : upd f k v j = f j := if_neg h
theorem lft_dn {T : TD} {V V' : VS} {k : Nat} (hk : k < tnb T) (h1 : vis V k ≤ 1) (h2 : 1 < vis V' k) (ho : ∀ j, j ≠ k → vis V' j = vis V j) : lft T V = lft T V' + 1 :=
  cnt_down (k := k) (by simpa using h1) (by simpa using h2) (fun j hj => by rw [ho j hj]) hk
theorem lft_eq {T : TD} {V V' : VS} (ho : ∀ j, j < tnb T → (vis V' j ≤ 1 ↔ vis V j ≤ 1)) : lft T V = lft T V' :=
  cnt_cg (fun j hj => decide_eq_decide.mpr (ho j hj).symm)
def snk (T : TD) (w : Nat) (V : VS) (k : Nat) : VS := (upn (vh V) (8 * tbu T k + vnm V k) (if vh V (8 * tbu T k + vnm V k) < 9 then vh V (8 * tbu T k + vnm V k) + 1 else vh V (8 * tbu T k + vnm V k)), upn (vis V) k 2, vnm V, vgr V, vho V, (if vfw V = 24 then w else vfw V), (if vfw V = 24 then k else vfb V))
def brn (T : TD) (V : VS) (k : Nat) : Nat := vgr V k + (if tso T k = 1 then vh V (8 * vnm V k + tbu T k) / 2 else vh V (8 * vnm V k + tbu T k))
def bre (T : TD) (V : VS) (k : Nat) : VS := (vh V, vis V, vnm V, upn (vgr V) k (brn T V k), vho V, vfw V, vfb V)
theorem bea_s {T : TD} {w : Nat} {V : VS} {k : Nat} (h : 3 * vho V k < brn T V k ∨ vho V k = 0) : bea T w V k = snk T w (bre T V k) k := if_pos h
theorem bea_n {T : TD} {w : Nat} {V : VS} {k : Nat} (h : ¬ (3 * vho V k < brn T V k ∨ vho V k = 0)) : bea T w V k = bre T V k := if_neg h
theorem brn_le {T : TD} {V : VS} {k : Nat} (hg : vgr V k ≤ 27) (hh : vh V (8 * vnm V k + tbu T k) ≤ 9) : brn T V k ≤ 36 := by
  unfold brn
  split <;> omega
end
section
/-! the voyage of the class: settle, launch, sink, bear, one event's week -/
set_option maxHeartbeats 2000000 in
theorem c_isEv5 (S : ST) (T : TD) (e w : Nat) (hT : TR 5 T S) (hto : tok T) (he : e < tne T) (hw : w < 24) : EX me_T_isEventOf 0 [.ref 5, .int (nI e), .int (nI w)] S (fun r u => r = some (.int (b2 (tew T e = w ∧ (tlo T).testBit e = false))) ∧ u = S) := by
  refine EX.of mok_T_isEventOf (Nat.le_of_ble_eq_true rfl) ?_
  obtain ⟨n8, n9, hbt, het, hht, hlo⟩ := id hto
  obtain ⟨t1, t2, t3, t4, t5, t6, t7, t8, t9, t10, t11⟩ := id hT
  have q1 := (het e he).2.1
  refine run_ok 3 (c' := (5, [(0, .ref 5), (1, .int (nI e)), (2, .int (nI w))], [.int (nI e), .ref 12], S)) rfl ?_
  refine x_iaN (nI (tew T e)) rfl rfl (by decide) (by omega) (t7 e (by omega)) ?_
  refine run_ok 1 (c' := (7, [(0, .ref 5), (1, .int (nI e)), (2, .int (nI w))], [.int (nI w), .int (nI (tew T e))], S)) rfl ?_
  refine x_icmpN_ne 25 rfl rfl (by omega) (by omega) (fun h7 => ?_) (fun h7 => ?_)
  · refine run_ok 1 (c' := (26, [(0, .ref 5), (1, .int (nI e)), (2, .int (nI w))], [.int (nI 0)], S)) rfl ?_
    exact x_ret (r := some (.int (nI 0))) rfl rfl (Or.inl rfl) ⟨congrArg (fun z => some (Value.int z)) (b2_f (fun z => by first | exact h7 z.1 | exact absurd h18 (by rw [z.2]; decide))).symm, rfl⟩ rfl
  · refine run_ok 2 (c' := (14, [(0, .ref 5), (1, .int (nI e)), (2, .int (nI w))], [.int (S.1 5 11)], S)) rfl ?_
    refine x_top (v' := nI (tlo T)) t11 ?_
    refine run_ok 4 (c' := (18, [(0, .ref 5), (1, .int (nI e)), (2, .int (nI w))], [.int (((nI (tlo T)) >>> ((nI e) &&& 31)) &&& (nI 1))], S)) rfl ?_
    refine x_top (v' := b2 ((tlo T).testBit e = true)) (by rw [bit_t (by omega) (by omega)]; unfold b2; split <;> rfl) ?_
    refine x_ifB_ne 25 rfl rfl (fun h18 => ?_) (fun h18 => ?_)
    · refine run_ok 1 (c' := (26, [(0, .ref 5), (1, .int (nI e)), (2, .int (nI w))], [.int (nI 0)], S)) rfl ?_
      exact x_ret (r := some (.int (nI 0))) rfl rfl (Or.inl rfl) ⟨congrArg (fun z => some (Value.int z)) (b2_f (fun z => by first | exact h7 z.1 | exact absurd h18 (by rw [z.2]; decide))).symm, rfl⟩ rfl
    · refine run_ok 2 (c' := (26, [(0, .ref 5), (1, .int (nI e)), (2, .int (nI w))], [.int (nI 1)], S)) rfl ?_
      exact x_ret (r := some (.int (nI 1))) rfl rfl (Or.inr rfl) ⟨congrArg (fun z => some (Value.int z)) (b2_t ⟨by omega, by simpa using h18⟩).symm, rfl⟩ rfl

set_option maxHeartbeats 2000000 in
theorem c_isEv14 (S : ST) (T : TD) (e w : Nat) (hT : TR 14 T S) (hto : tok T) (he : e < tne T) (hw : w < 24) : EX me_T_isEventOf 0 [.ref 14, .int (nI e), .int (nI w)] S (fun r u => r = some (.int (b2 (tew T e = w ∧ (tlo T).testBit e = false))) ∧ u = S) := by
  refine EX.of mok_T_isEventOf (Nat.le_of_ble_eq_true rfl) ?_
  obtain ⟨n8, n9, hbt, het, hht, hlo⟩ := id hto
  obtain ⟨t1, t2, t3, t4, t5, t6, t7, t8, t9, t10, t11⟩ := id hT
  have q1 := (het e he).2.1
  refine run_ok 3 (c' := (5, [(0, .ref 14), (1, .int (nI e)), (2, .int (nI w))], [.int (nI e), .ref 21], S)) rfl ?_
  refine x_iaN (nI (tew T e)) rfl rfl (by decide) (by omega) (t7 e (by omega)) ?_
  refine run_ok 1 (c' := (7, [(0, .ref 14), (1, .int (nI e)), (2, .int (nI w))], [.int (nI w), .int (nI (tew T e))], S)) rfl ?_
  refine x_icmpN_ne 25 rfl rfl (by omega) (by omega) (fun h7 => ?_) (fun h7 => ?_)
  · refine run_ok 1 (c' := (26, [(0, .ref 14), (1, .int (nI e)), (2, .int (nI w))], [.int (nI 0)], S)) rfl ?_
    exact x_ret (r := some (.int (nI 0))) rfl rfl (Or.inl rfl) ⟨congrArg (fun z => some (Value.int z)) (b2_f (fun z => by first | exact h7 z.1 | exact absurd h18 (by rw [z.2]; decide))).symm, rfl⟩ rfl
  · refine run_ok 2 (c' := (14, [(0, .ref 14), (1, .int (nI e)), (2, .int (nI w))], [.int (S.1 14 11)], S)) rfl ?_
    refine x_top (v' := nI (tlo T)) t11 ?_
    refine run_ok 4 (c' := (18, [(0, .ref 14), (1, .int (nI e)), (2, .int (nI w))], [.int (((nI (tlo T)) >>> ((nI e) &&& 31)) &&& (nI 1))], S)) rfl ?_
    refine x_top (v' := b2 ((tlo T).testBit e = true)) (by rw [bit_t (by omega) (by omega)]; unfold b2; split <;> rfl) ?_
    refine x_ifB_ne 25 rfl rfl (fun h18 => ?_) (fun h18 => ?_)
    · refine run_ok 1 (c' := (26, [(0, .ref 14), (1, .int (nI e)), (2, .int (nI w))], [.int (nI 0)], S)) rfl ?_
      exact x_ret (r := some (.int (nI 0))) rfl rfl (Or.inl rfl) ⟨congrArg (fun z => some (Value.int z)) (b2_f (fun z => by first | exact h7 z.1 | exact absurd h18 (by rw [z.2]; decide))).symm, rfl⟩ rfl
    · refine run_ok 2 (c' := (26, [(0, .ref 14), (1, .int (nI e)), (2, .int (nI w))], [.int (nI 1)], S)) rfl ?_
      exact x_ret (r := some (.int (nI 1))) rfl rfl (Or.inr rfl) ⟨congrArg (fun z => some (Value.int z)) (b2_t ⟨by omega, by simpa using h18⟩).symm, rfl⟩ rfl

set_option maxHeartbeats 2000000 in
theorem c_settle5 (S : ST) (T : TD) (V : VS) (ls : Nat → Nat) (kd k : Nat) (hT : TR 5 T S) (hto : tok T) (hC : CR 5 T V ls S) (hV : vk T V) (hk : k < 8) (hkd : kd < 3) : EX me_V_settle 1 [.ref 23, .int (nI kd), .int (nI k)] S (fun r u => r = none ∧ CR 5 T (if vis V k = 1 then (if kd = 1 then shr T V k else mku T V k) else V) ls u ∧ fr VL S u ∧ u.2 = S.2) := by
  refine EX.of mok_V_settle (Nat.le_of_ble_eq_true rfl) ?_
  obtain ⟨n8, n9, hbt, het, hht, hlo⟩ := id hto
  obtain ⟨t1, t2, t3, t4, t5, t6, t7, t8, t9, t10, t11⟩ := id hT
  obtain ⟨h24, h25, h26, h27, h28, h29, hsr, g9, g10, g11, htl⟩ := id hC
  obtain ⟨hh9, hv3, hb9, hfw, hfb⟩ := id hV
  have q0 := (hv3 k hk).1
  refine run_ok 3 (c' := (5, [(0, .ref 23), (1, .int (nI kd)), (2, .int (nI k))], [.int (nI k), .ref 25], S)) rfl ?_
  refine x_iaN (nI (vis V k)) rfl rfl (by decide) (by omega) (h25 k (by omega)) ?_
  refine run_ok 1 (c' := (7, [(0, .ref 23), (1, .int (nI kd)), (2, .int (nI k))], [.int (nI 1), .int (nI (vis V k))], S)) rfl ?_
  refine x_icmpN_eq 11 rfl rfl (by omega) (by omega) (fun h7 => ?_) (fun h7 => ?_)
  · have q1 := (hv3 k hk).2.2 h7
    have q2 := (hbt k q1.1).2.1
    have q3 := hh9 (8 * vnm V k + tbu T k) (by omega)
    obtain ⟨e30, e31⟩ := hsr k hk h7
    refine run_ok 3 (c' := (16, [(0, .ref 23), (1, .int (nI kd)), (2, .int (nI k))], [.int (nI k), .ref 30], S)) rfl ?_
    refine x_iaN (nI (8 * vnm V k + tbu T k)) rfl rfl (by decide) (by omega) e30 ?_
    refine run_ok 3 (c' := (20, [(0, .ref 23), (1, .int (nI kd)), (2, .int (nI k)), (3, .int (nI (8 * vnm V k + tbu T k)))], [.int (nI 1), .int (nI kd)], S)) rfl ?_
    refine x_icmpN_ne 51 rfl rfl (by omega) (by omega) (fun h20 => ?_) (fun h20 => ?_)
    · refine run_ok 4 (c' := (57, [(0, .ref 23), (1, .int (nI kd)), (2, .int (nI k)), (3, .int (nI (8 * vnm V k + tbu T k)))], [.int (nI 0), .int (nI (8 * vnm V k + tbu T k)), .ref 24], S)) rfl ?_
      refine x_isN rfl rfl (by decide) (by omega) ?_
      refine run_ok 5 (c' := (67, [(0, .ref 23), (1, .int (nI kd)), (2, .int (nI k)), (3, .int (nI (8 * vnm V k + tbu T k)))], [.int (nI k), .ref 31, .ref 24], (pt S 24 (8 * vnm V k + tbu T k) (nI 0)))) rfl ?_
      refine x_iaN (nI (8 * tbu T k + vnm V k)) rfl rfl (by decide) (by omega) e31 ?_
      refine run_ok 1 (c' := (69, [(0, .ref 23), (1, .int (nI kd)), (2, .int (nI k)), (3, .int (nI (8 * vnm V k + tbu T k)))], [.int (nI 0), .int (nI (8 * tbu T k + vnm V k)), .ref 24], (pt S 24 (8 * vnm V k + tbu T k) (nI 0)))) rfl ?_
      refine x_isN rfl rfl (by decide) (by omega) ?_
      exact x_ret (r := none) rfl rfl trivial ⟨rfl, by rw [if_pos h7, if_neg h20]; exact ⟨h24.put.put, h25, h26, h27, h28, h29, hsr, g9, g10, g11, htl⟩, (fr.rf.pt (by decide)).pt (by decide), rfl⟩ rfl
    · refine run_ok 4 (c' := (29, [(0, .ref 23), (1, .int (nI kd)), (2, .int (nI k)), (3, .int (nI (8 * vnm V k + tbu T k)))], [.int (nI 0), .int (nI k), .ref 27], S)) rfl ?_
      refine x_isN rfl rfl (by decide) (by omega) ?_
      refine run_ok 7 (c' := (41, [(0, .ref 23), (1, .int (nI kd)), (2, .int (nI k)), (3, .int (nI (8 * vnm V k + tbu T k)))], [.int (nI (8 * vnm V k + tbu T k)), .ref 24, .int (nI 0), .int (nI (8 * vnm V k + tbu T k)), .ref 24], (pt S 27 k (nI 0)))) rfl ?_
      refine x_iaN (nI (vh V (8 * vnm V k + tbu T k))) rfl rfl (by decide) (by omega) (h24 (8 * vnm V k + tbu T k) (by omega)) ?_
      refine run_ok 2 (c' := (44, [(0, .ref 23), (1, .int (nI kd)), (2, .int (nI k)), (3, .int (nI (8 * vnm V k + tbu T k)))], [.int ((nI (vh V (8 * vnm V k + tbu T k))) - (nI 1)), .int (nI 0), .int (nI (8 * vnm V k + tbu T k)), .ref 24], (pt S 27 k (nI 0)))) rfl ?_
      refine x_mmax rfl lk_5_109 wm_max.1 wm_max.2.1 wm_max.2.2 (Nat.le_of_ble_eq_true rfl) (by decide) ?_
      refine x_top (v' := nI (vh V (8 * vnm V k + tbu T k) - 1)) (max0 (by omega) (by decide)) ?_
      refine x_isN rfl rfl (by decide) (by omega) ?_
      refine run_ok 1 (c' := (70, [(0, .ref 23), (1, .int (nI kd)), (2, .int (nI k)), (3, .int (nI (8 * vnm V k + tbu T k)))], [], (pt (pt S 27 k (nI 0)) 24 (8 * vnm V k + tbu T k) (nI (vh V (8 * vnm V k + tbu T k) - 1))))) rfl ?_
      exact x_ret (r := none) rfl rfl trivial ⟨rfl, by rw [if_pos h7, if_pos h20]; exact ⟨(h24.ne (by decide)).put, h25, h26, (h27.put).ne (by decide), h28, h29, hsr, g9, g10, g11, htl⟩, (fr.rf.pt (by decide)).pt (by decide), rfl⟩ rfl
  · exact x_ret (r := none) rfl rfl trivial ⟨rfl, by rw [if_neg h7]; exact hC, fr.rf, rfl⟩ rfl

set_option maxHeartbeats 2000000 in
theorem c_settle14 (S : ST) (T : TD) (V : VS) (ls : Nat → Nat) (kd k : Nat) (hT : TR 14 T S) (hto : tok T) (hC : CR 14 T V ls S) (hV : vk T V) (hk : k < 8) (hkd : kd < 3) : EX me_V_settle 1 [.ref 23, .int (nI kd), .int (nI k)] S (fun r u => r = none ∧ CR 14 T (if vis V k = 1 then (if kd = 1 then shr T V k else mku T V k) else V) ls u ∧ fr VL S u ∧ u.2 = S.2) := by
  refine EX.of mok_V_settle (Nat.le_of_ble_eq_true rfl) ?_
  obtain ⟨n8, n9, hbt, het, hht, hlo⟩ := id hto
  obtain ⟨t1, t2, t3, t4, t5, t6, t7, t8, t9, t10, t11⟩ := id hT
  obtain ⟨h24, h25, h26, h27, h28, h29, hsr, g9, g10, g11, htl⟩ := id hC
  obtain ⟨hh9, hv3, hb9, hfw, hfb⟩ := id hV
  have q0 := (hv3 k hk).1
  refine run_ok 3 (c' := (5, [(0, .ref 23), (1, .int (nI kd)), (2, .int (nI k))], [.int (nI k), .ref 25], S)) rfl ?_
  refine x_iaN (nI (vis V k)) rfl rfl (by decide) (by omega) (h25 k (by omega)) ?_
  refine run_ok 1 (c' := (7, [(0, .ref 23), (1, .int (nI kd)), (2, .int (nI k))], [.int (nI 1), .int (nI (vis V k))], S)) rfl ?_
  refine x_icmpN_eq 11 rfl rfl (by omega) (by omega) (fun h7 => ?_) (fun h7 => ?_)
  · have q1 := (hv3 k hk).2.2 h7
    have q2 := (hbt k q1.1).2.1
    have q3 := hh9 (8 * vnm V k + tbu T k) (by omega)
    obtain ⟨e30, e31⟩ := hsr k hk h7
    refine run_ok 3 (c' := (16, [(0, .ref 23), (1, .int (nI kd)), (2, .int (nI k))], [.int (nI k), .ref 30], S)) rfl ?_
    refine x_iaN (nI (8 * vnm V k + tbu T k)) rfl rfl (by decide) (by omega) e30 ?_
    refine run_ok 3 (c' := (20, [(0, .ref 23), (1, .int (nI kd)), (2, .int (nI k)), (3, .int (nI (8 * vnm V k + tbu T k)))], [.int (nI 1), .int (nI kd)], S)) rfl ?_
    refine x_icmpN_ne 51 rfl rfl (by omega) (by omega) (fun h20 => ?_) (fun h20 => ?_)
    · refine run_ok 4 (c' := (57, [(0, .ref 23), (1, .int (nI kd)), (2, .int (nI k)), (3, .int (nI (8 * vnm V k + tbu T k)))], [.int (nI 0), .int (nI (8 * vnm V k + tbu T k)), .ref 24], S)) rfl ?_
      refine x_isN rfl rfl (by decide) (by omega) ?_
      refine run_ok 5 (c' := (67, [(0, .ref 23), (1, .int (nI kd)), (2, .int (nI k)), (3, .int (nI (8 * vnm V k + tbu T k)))], [.int (nI k), .ref 31, .ref 24], (pt S 24 (8 * vnm V k + tbu T k) (nI 0)))) rfl ?_
      refine x_iaN (nI (8 * tbu T k + vnm V k)) rfl rfl (by decide) (by omega) e31 ?_
      refine run_ok 1 (c' := (69, [(0, .ref 23), (1, .int (nI kd)), (2, .int (nI k)), (3, .int (nI (8 * vnm V k + tbu T k)))], [.int (nI 0), .int (nI (8 * tbu T k + vnm V k)), .ref 24], (pt S 24 (8 * vnm V k + tbu T k) (nI 0)))) rfl ?_
      refine x_isN rfl rfl (by decide) (by omega) ?_
      exact x_ret (r := none) rfl rfl trivial ⟨rfl, by rw [if_pos h7, if_neg h20]; exact ⟨h24.put.put, h25, h26, h27, h28, h29, hsr, g9, g10, g11, htl⟩, (fr.rf.pt (by decide)).pt (by decide), rfl⟩ rfl
    · refine run_ok 4 (c' := (29, [(0, .ref 23), (1, .int (nI kd)), (2, .int (nI k)), (3, .int (nI (8 * vnm V k + tbu T k)))], [.int (nI 0), .int (nI k), .ref 27], S)) rfl ?_
      refine x_isN rfl rfl (by decide) (by omega) ?_
      refine run_ok 7 (c' := (41, [(0, .ref 23), (1, .int (nI kd)), (2, .int (nI k)), (3, .int (nI (8 * vnm V k + tbu T k)))], [.int (nI (8 * vnm V k + tbu T k)), .ref 24, .int (nI 0), .int (nI (8 * vnm V k + tbu T k)), .ref 24], (pt S 27 k (nI 0)))) rfl ?_
      refine x_iaN (nI (vh V (8 * vnm V k + tbu T k))) rfl rfl (by decide) (by omega) (h24 (8 * vnm V k + tbu T k) (by omega)) ?_
      refine run_ok 2 (c' := (44, [(0, .ref 23), (1, .int (nI kd)), (2, .int (nI k)), (3, .int (nI (8 * vnm V k + tbu T k)))], [.int ((nI (vh V (8 * vnm V k + tbu T k))) - (nI 1)), .int (nI 0), .int (nI (8 * vnm V k + tbu T k)), .ref 24], (pt S 27 k (nI 0)))) rfl ?_
      refine x_mmax rfl lk_5_109 wm_max.1 wm_max.2.1 wm_max.2.2 (Nat.le_of_ble_eq_true rfl) (by decide) ?_
      refine x_top (v' := nI (vh V (8 * vnm V k + tbu T k) - 1)) (max0 (by omega) (by decide)) ?_
      refine x_isN rfl rfl (by decide) (by omega) ?_
      refine run_ok 1 (c' := (70, [(0, .ref 23), (1, .int (nI kd)), (2, .int (nI k)), (3, .int (nI (8 * vnm V k + tbu T k)))], [], (pt (pt S 27 k (nI 0)) 24 (8 * vnm V k + tbu T k) (nI (vh V (8 * vnm V k + tbu T k) - 1))))) rfl ?_
      exact x_ret (r := none) rfl rfl trivial ⟨rfl, by rw [if_pos h7, if_pos h20]; exact ⟨(h24.ne (by decide)).put, h25, h26, (h27.put).ne (by decide), h28, h29, hsr, g9, g10, g11, htl⟩, (fr.rf.pt (by decide)).pt (by decide), rfl⟩ rfl
  · exact x_ret (r := none) rfl rfl trivial ⟨rfl, by rw [if_neg h7]; exact hC, fr.rf, rfl⟩ rfl

set_option maxHeartbeats 2000000 in
theorem c_launch5 (S : ST) (T : TD) (V : VS) (ls : Nat → Nat) (k : Nat) (hT : TR 5 T S) (hto : tok T) (hC : CR 5 T V ls S) (hV : vk T V) (hk : k < tnb T) (h0 : vis V k = 0) (hnm : vnm V k = 8) : EX me_V_launch 1 [.ref 23, .int (nI k)] S (fun r u => r = none ∧ CR 5 T (lau T V k) ls u ∧ fr VL S u ∧ u.2 = S.2) := by
  refine EX.of mok_V_launch (Nat.le_of_ble_eq_true rfl) ?_
  obtain ⟨n8, n9, hbt, het, hht, hlo⟩ := id hto
  obtain ⟨t1, t2, t3, t4, t5, t6, t7, t8, t9, t10, t11⟩ := id hT
  obtain ⟨h24, h25, h26, h27, h28, h29, hsr, g9, g10, g11, htl⟩ := id hC
  obtain ⟨hh9, hv3, hb9, hfw, hfb⟩ := id hV
  have q2 := (hbt k hk).2.1
  have hw8 := (wst_le (vh V) (tbu T k) hh9 q2 8 (by omega)).1
  refine run_ok 1 (c' := (1, [(0, .ref 23), (1, .int (nI k))], [.ref 23], S)) rfl ?_
  refine x_gett (t := 5) rfl rfl htl ?_
  refine run_ok 2 (c' := (8, [(0, .ref 23), (1, .int (nI k))], [.int (nI k), .ref 8], S)) rfl ?_
  refine x_iaN (nI (tbu T k)) rfl rfl (by decide) (by omega) (t3 k (by omega)) ?_
  refine run_ok 3 (c' := (12, [(0, .ref 23), (1, .int (nI k)), (2, .int (nI (tbu T k)))], [.int (nI (tbu T k)), .ref 23], S)) rfl ?_
  refine x_callV [.int (nI (tbu T k))] rfl cv_V_worstEnemy.1 lk_5_118 cv_V_worstEnemy.2.1 cv_V_worstEnemy.2.2.1 rfl cv_V_worstEnemy.2.2.2.1 rfl rfl (Nat.le_of_ble_eq_true rfl) (by decide) cv_V_worstEnemy.2.2.2.2 (c_worst S (vh V) (tbu T k) (by omega) h24 hh9) ?_
  rintro r u ⟨hr, hu⟩
  rw [hr, hu]
  clear hr hu r u
  refine run_ok 3 (c' := (18, [(0, .ref 23), (1, .int (nI k)), (2, .int (nI (tbu T k))), (3, .int (nmv (wst (vh V) (tbu T k) 8).1))], [.int (-1), .int (nmv (wst (vh V) (tbu T k) 8).1)], S)) rfl ?_
  refine x_icmp_ne 41 rfl rfl (fun h18 => ?_) (fun h18 => ?_)
  · have he8 : (wst (vh V) (tbu T k) 8).1 < 8 := Nat.lt_of_le_of_ne hw8 (fun z => h18 ((nmv_n1 hw8).mpr z))
    rw [nmv_lt he8]
    refine run_ok 4 (c' := (47, [(0, .ref 23), (1, .int (nI k)), (2, .int (nI (tbu T k))), (3, .int (nI ((wst (vh V) (tbu T k) 8).1)))], [.int (nI 1), .int (nI k), .ref 25], S)) rfl ?_
    refine x_isN rfl rfl (by decide) (by omega) ?_
    refine run_ok 4 (c' := (54, [(0, .ref 23), (1, .int (nI k)), (2, .int (nI (tbu T k))), (3, .int (nI ((wst (vh V) (tbu T k) 8).1)))], [.int (nI ((wst (vh V) (tbu T k) 8).1)), .int (nI k), .ref 26], (pt S 25 k (nI 1)))) rfl ?_
    refine x_isN rfl rfl (by decide) (by omega) ?_
    refine run_ok 5 (c' := (62, [(0, .ref 23), (1, .int (nI k)), (2, .int (nI (tbu T k))), (3, .int (nI ((wst (vh V) (tbu T k) 8).1)))], [.int (nI (tbu T k)), .int (nI ((wst (vh V) (tbu T k) 8).1)), .int (nI k), .ref 30], (pt (pt S 25 k (nI 1)) 26 k (nI ((wst (vh V) (tbu T k) 8).1))))) rfl ?_
    refine x_callN [.int (nI ((wst (vh V) (tbu T k) 8).1)), .int (nI (tbu T k))] rfl cs_N_pair.1 (fun U hU => hU.2.1) cs_N_pair.2.1 rfl rfl (Nat.le_of_ble_eq_true rfl) (by decide) cs_N_pair.2.2 (c_pair (pt (pt S 25 k (nI 1)) 26 k (nI ((wst (vh V) (tbu T k) 8).1))) (nI ((wst (vh V) (tbu T k) 8).1)) (nI (tbu T k))) ?_
    rintro r u ⟨hr, hu⟩
    rw [hr, hu]
    clear hr hu r u
    refine x_top (v' := nI (((wst (vh V) (tbu T k) 8).1) * 8 + (tbu T k))) (by rw [pk_mul, nI_add]) ?_
    refine x_isN rfl rfl (by decide) (by omega) ?_
    refine run_ok 5 (c' := (73, [(0, .ref 23), (1, .int (nI k)), (2, .int (nI (tbu T k))), (3, .int (nI ((wst (vh V) (tbu T k) 8).1)))], [.int (nI ((wst (vh V) (tbu T k) 8).1)), .int (nI (tbu T k)), .int (nI k), .ref 31], (pt (pt (pt S 25 k (nI 1)) 26 k (nI ((wst (vh V) (tbu T k) 8).1))) 30 k (nI (((wst (vh V) (tbu T k) 8).1) * 8 + (tbu T k)))))) rfl ?_
    refine x_callN [.int (nI (tbu T k)), .int (nI ((wst (vh V) (tbu T k) 8).1))] rfl cs_N_pair.1 (fun U hU => hU.2.1) cs_N_pair.2.1 rfl rfl (Nat.le_of_ble_eq_true rfl) (by decide) cs_N_pair.2.2 (c_pair (pt (pt (pt S 25 k (nI 1)) 26 k (nI ((wst (vh V) (tbu T k) 8).1))) 30 k (nI (((wst (vh V) (tbu T k) 8).1) * 8 + (tbu T k)))) (nI (tbu T k)) (nI ((wst (vh V) (tbu T k) 8).1))) ?_
    rintro r u ⟨hr, hu⟩
    rw [hr, hu]
    clear hr hu r u
    refine x_top (v' := nI ((tbu T k) * 8 + ((wst (vh V) (tbu T k) 8).1))) (by rw [pk_mul, nI_add]) ?_
    refine x_isN rfl rfl (by decide) (by omega) ?_
    refine x_ret (r := none) rfl rfl trivial ?_ rfl
    have ei : (if (wst (vh V) (tbu T k) 8).1 = 8 then 3 else 1) = 1 := if_neg (by omega)
    have el : lft T V = lft T (lau T V k) := lft_eq (fun j hj => by
      show upn (vis V) k _ j ≤ 1 ↔ _
      by_cases e : j = k
      · rw [e, upn_s, ei]; omega
      · rw [upn_n e])
    refine ⟨rfl, ⟨h24, ?_, ?_, h27, h28, h29, ?_, by rw [← el]; exact g9, g10, g11, htl⟩, ((((fr.rf.pt (by decide)).pt (by decide)).pt (by decide)).pt (by decide)), rfl⟩
    · exact ((((h25.putv (by rw [ei])).ne (by decide)).ne (by decide)).ne (by decide))
    · intro j hj
      show upd (S.1 26) k _ j = nmv (upn (vnm V) k _ j)
      by_cases e : j = k
      · rw [e, upn_s, upd_s, nmv_lt he8]
      · rw [upn_n e, upd_n e]; exact h26 j hj
    · intro j hj h1
      show upd (S.1 30) k _ j = nI (8 * upn (vnm V) k _ j + tbu T j) ∧ upd (S.1 31) k _ j = nI (8 * tbu T j + upn (vnm V) k _ j)
      by_cases e : j = k
      · rw [e, upn_s, upd_s, upd_s]
        exact ⟨by rw [Nat.mul_comm], by rw [Nat.mul_comm]⟩
      · have h2 : upn (vis V) k (if (wst (vh V) (tbu T k) 8).1 = 8 then 3 else 1) j = 1 := h1
        rw [upn_n e] at h2
        rw [upn_n e, upd_n e, upd_n e]
        exact hsr j hj h2
  · refine run_ok 4 (c' := (27, [(0, .ref 23), (1, .int (nI k)), (2, .int (nI (tbu T k))), (3, .int (nmv (wst (vh V) (tbu T k) 8).1))], [.int (nI 3), .int (nI k), .ref 25], S)) rfl ?_
    refine x_isN rfl rfl (by decide) (by omega) ?_
    refine run_ok 3 (c' := (33, [(0, .ref 23), (1, .int (nI k)), (2, .int (nI (tbu T k))), (3, .int (nmv (wst (vh V) (tbu T k) 8).1))], [.int (S.1 23 9), .ref 23], (pt S 25 k (nI 3)))) rfl ?_
    refine x_top (v' := nI (lft T V)) g9 ?_
    refine run_ok 4 (c' := (77, [(0, .ref 23), (1, .int (nI k)), (2, .int (nI (tbu T k))), (3, .int (nmv (wst (vh V) (tbu T k) 8).1))], [], (pt (pt S 25 k (nI 3)) 23 9 ((nI (lft T V)) - (nI 1))))) rfl ?_
    refine x_ret (r := none) rfl rfl trivial ?_ rfl
    have e8 := (nmv_n1 hw8).mp h18
    have el := lft_dn (T := T) (V := V) (V' := lau T V k) hk (by omega) (by show 1 < upn (vis V) k _ k; rw [upn_s, if_pos e8]; decide) (fun j hj => upn_n hj)
    have ei : (if (wst (vh V) (tbu T k) 8).1 = 8 then 3 else 1) = 3 := if_pos e8
    refine ⟨rfl, ⟨h24, ?_, ?_, h27, h28, h29, ?_, ?_, g10, g11, htl⟩, ((fr.rf.pt (by decide)).pt (by decide)), rfl⟩
    · exact (h25.putv (by rw [ei])).ne (by decide)
    · intro j hj
      show S.1 26 j = nmv (upn (vnm V) k _ j)
      by_cases e : j = k
      · rw [e, upn_s, h26 k (by omega), hnm, e8]
      · rw [upn_n e]; exact h26 j hj
    · intro j hj h1
      have hjk : j ≠ k := fun e => by rw [e] at h1; have h2 : upn (vis V) k (if (wst (vh V) (tbu T k) 8).1 = 8 then 3 else 1) k = 1 := h1; rw [upn_s, ei] at h2; cases h2
      have h2 : upn (vis V) k (if (wst (vh V) (tbu T k) 8).1 = 8 then 3 else 1) j = 1 := h1
      rw [upn_n hjk] at h2
      have h3 := hsr j hj h2
      show S.1 30 j = nI (8 * upn (vnm V) k _ j + tbu T j) ∧ S.1 31 j = nI (8 * tbu T j + upn (vnm V) k _ j)
      rw [upn_n hjk]
      exact h3
    · show nI (lft T V) - nI 1 = nI (lft T (lau T V k))
      rw [pk_sub (by omega), el]; rfl

set_option maxHeartbeats 2000000 in
theorem c_launch14 (S : ST) (T : TD) (V : VS) (ls : Nat → Nat) (k : Nat) (hT : TR 14 T S) (hto : tok T) (hC : CR 14 T V ls S) (hV : vk T V) (hk : k < tnb T) (h0 : vis V k = 0) (hnm : vnm V k = 8) : EX me_V_launch 1 [.ref 23, .int (nI k)] S (fun r u => r = none ∧ CR 14 T (lau T V k) ls u ∧ fr VL S u ∧ u.2 = S.2) := by
  refine EX.of mok_V_launch (Nat.le_of_ble_eq_true rfl) ?_
  obtain ⟨n8, n9, hbt, het, hht, hlo⟩ := id hto
  obtain ⟨t1, t2, t3, t4, t5, t6, t7, t8, t9, t10, t11⟩ := id hT
  obtain ⟨h24, h25, h26, h27, h28, h29, hsr, g9, g10, g11, htl⟩ := id hC
  obtain ⟨hh9, hv3, hb9, hfw, hfb⟩ := id hV
  have q2 := (hbt k hk).2.1
  have hw8 := (wst_le (vh V) (tbu T k) hh9 q2 8 (by omega)).1
  refine run_ok 1 (c' := (1, [(0, .ref 23), (1, .int (nI k))], [.ref 23], S)) rfl ?_
  refine x_gett (t := 14) rfl rfl htl ?_
  refine run_ok 2 (c' := (8, [(0, .ref 23), (1, .int (nI k))], [.int (nI k), .ref 17], S)) rfl ?_
  refine x_iaN (nI (tbu T k)) rfl rfl (by decide) (by omega) (t3 k (by omega)) ?_
  refine run_ok 3 (c' := (12, [(0, .ref 23), (1, .int (nI k)), (2, .int (nI (tbu T k)))], [.int (nI (tbu T k)), .ref 23], S)) rfl ?_
  refine x_callV [.int (nI (tbu T k))] rfl cv_V_worstEnemy.1 lk_5_118 cv_V_worstEnemy.2.1 cv_V_worstEnemy.2.2.1 rfl cv_V_worstEnemy.2.2.2.1 rfl rfl (Nat.le_of_ble_eq_true rfl) (by decide) cv_V_worstEnemy.2.2.2.2 (c_worst S (vh V) (tbu T k) (by omega) h24 hh9) ?_
  rintro r u ⟨hr, hu⟩
  rw [hr, hu]
  clear hr hu r u
  refine run_ok 3 (c' := (18, [(0, .ref 23), (1, .int (nI k)), (2, .int (nI (tbu T k))), (3, .int (nmv (wst (vh V) (tbu T k) 8).1))], [.int (-1), .int (nmv (wst (vh V) (tbu T k) 8).1)], S)) rfl ?_
  refine x_icmp_ne 41 rfl rfl (fun h18 => ?_) (fun h18 => ?_)
  · have he8 : (wst (vh V) (tbu T k) 8).1 < 8 := Nat.lt_of_le_of_ne hw8 (fun z => h18 ((nmv_n1 hw8).mpr z))
    rw [nmv_lt he8]
    refine run_ok 4 (c' := (47, [(0, .ref 23), (1, .int (nI k)), (2, .int (nI (tbu T k))), (3, .int (nI ((wst (vh V) (tbu T k) 8).1)))], [.int (nI 1), .int (nI k), .ref 25], S)) rfl ?_
    refine x_isN rfl rfl (by decide) (by omega) ?_
    refine run_ok 4 (c' := (54, [(0, .ref 23), (1, .int (nI k)), (2, .int (nI (tbu T k))), (3, .int (nI ((wst (vh V) (tbu T k) 8).1)))], [.int (nI ((wst (vh V) (tbu T k) 8).1)), .int (nI k), .ref 26], (pt S 25 k (nI 1)))) rfl ?_
    refine x_isN rfl rfl (by decide) (by omega) ?_
    refine run_ok 5 (c' := (62, [(0, .ref 23), (1, .int (nI k)), (2, .int (nI (tbu T k))), (3, .int (nI ((wst (vh V) (tbu T k) 8).1)))], [.int (nI (tbu T k)), .int (nI ((wst (vh V) (tbu T k) 8).1)), .int (nI k), .ref 30], (pt (pt S 25 k (nI 1)) 26 k (nI ((wst (vh V) (tbu T k) 8).1))))) rfl ?_
    refine x_callN [.int (nI ((wst (vh V) (tbu T k) 8).1)), .int (nI (tbu T k))] rfl cs_N_pair.1 (fun U hU => hU.2.1) cs_N_pair.2.1 rfl rfl (Nat.le_of_ble_eq_true rfl) (by decide) cs_N_pair.2.2 (c_pair (pt (pt S 25 k (nI 1)) 26 k (nI ((wst (vh V) (tbu T k) 8).1))) (nI ((wst (vh V) (tbu T k) 8).1)) (nI (tbu T k))) ?_
    rintro r u ⟨hr, hu⟩
    rw [hr, hu]
    clear hr hu r u
    refine x_top (v' := nI (((wst (vh V) (tbu T k) 8).1) * 8 + (tbu T k))) (by rw [pk_mul, nI_add]) ?_
    refine x_isN rfl rfl (by decide) (by omega) ?_
    refine run_ok 5 (c' := (73, [(0, .ref 23), (1, .int (nI k)), (2, .int (nI (tbu T k))), (3, .int (nI ((wst (vh V) (tbu T k) 8).1)))], [.int (nI ((wst (vh V) (tbu T k) 8).1)), .int (nI (tbu T k)), .int (nI k), .ref 31], (pt (pt (pt S 25 k (nI 1)) 26 k (nI ((wst (vh V) (tbu T k) 8).1))) 30 k (nI (((wst (vh V) (tbu T k) 8).1) * 8 + (tbu T k)))))) rfl ?_
    refine x_callN [.int (nI (tbu T k)), .int (nI ((wst (vh V) (tbu T k) 8).1))] rfl cs_N_pair.1 (fun U hU => hU.2.1) cs_N_pair.2.1 rfl rfl (Nat.le_of_ble_eq_true rfl) (by decide) cs_N_pair.2.2 (c_pair (pt (pt (pt S 25 k (nI 1)) 26 k (nI ((wst (vh V) (tbu T k) 8).1))) 30 k (nI (((wst (vh V) (tbu T k) 8).1) * 8 + (tbu T k)))) (nI (tbu T k)) (nI ((wst (vh V) (tbu T k) 8).1))) ?_
    rintro r u ⟨hr, hu⟩
    rw [hr, hu]
    clear hr hu r u
    refine x_top (v' := nI ((tbu T k) * 8 + ((wst (vh V) (tbu T k) 8).1))) (by rw [pk_mul, nI_add]) ?_
    refine x_isN rfl rfl (by decide) (by omega) ?_
    refine x_ret (r := none) rfl rfl trivial ?_ rfl
    have ei : (if (wst (vh V) (tbu T k) 8).1 = 8 then 3 else 1) = 1 := if_neg (by omega)
    have el : lft T V = lft T (lau T V k) := lft_eq (fun j hj => by
      show upn (vis V) k _ j ≤ 1 ↔ _
      by_cases e : j = k
      · rw [e, upn_s, ei]; omega
      · rw [upn_n e])
    refine ⟨rfl, ⟨h24, ?_, ?_, h27, h28, h29, ?_, by rw [← el]; exact g9, g10, g11, htl⟩, ((((fr.rf.pt (by decide)).pt (by decide)).pt (by decide)).pt (by decide)), rfl⟩
    · exact ((((h25.putv (by rw [ei])).ne (by decide)).ne (by decide)).ne (by decide))
    · intro j hj
      show upd (S.1 26) k _ j = nmv (upn (vnm V) k _ j)
      by_cases e : j = k
      · rw [e, upn_s, upd_s, nmv_lt he8]
      · rw [upn_n e, upd_n e]; exact h26 j hj
    · intro j hj h1
      show upd (S.1 30) k _ j = nI (8 * upn (vnm V) k _ j + tbu T j) ∧ upd (S.1 31) k _ j = nI (8 * tbu T j + upn (vnm V) k _ j)
      by_cases e : j = k
      · rw [e, upn_s, upd_s, upd_s]
        exact ⟨by rw [Nat.mul_comm], by rw [Nat.mul_comm]⟩
      · have h2 : upn (vis V) k (if (wst (vh V) (tbu T k) 8).1 = 8 then 3 else 1) j = 1 := h1
        rw [upn_n e] at h2
        rw [upn_n e, upd_n e, upd_n e]
        exact hsr j hj h2
  · refine run_ok 4 (c' := (27, [(0, .ref 23), (1, .int (nI k)), (2, .int (nI (tbu T k))), (3, .int (nmv (wst (vh V) (tbu T k) 8).1))], [.int (nI 3), .int (nI k), .ref 25], S)) rfl ?_
    refine x_isN rfl rfl (by decide) (by omega) ?_
    refine run_ok 3 (c' := (33, [(0, .ref 23), (1, .int (nI k)), (2, .int (nI (tbu T k))), (3, .int (nmv (wst (vh V) (tbu T k) 8).1))], [.int (S.1 23 9), .ref 23], (pt S 25 k (nI 3)))) rfl ?_
    refine x_top (v' := nI (lft T V)) g9 ?_
    refine run_ok 4 (c' := (77, [(0, .ref 23), (1, .int (nI k)), (2, .int (nI (tbu T k))), (3, .int (nmv (wst (vh V) (tbu T k) 8).1))], [], (pt (pt S 25 k (nI 3)) 23 9 ((nI (lft T V)) - (nI 1))))) rfl ?_
    refine x_ret (r := none) rfl rfl trivial ?_ rfl
    have e8 := (nmv_n1 hw8).mp h18
    have el := lft_dn (T := T) (V := V) (V' := lau T V k) hk (by omega) (by show 1 < upn (vis V) k _ k; rw [upn_s, if_pos e8]; decide) (fun j hj => upn_n hj)
    have ei : (if (wst (vh V) (tbu T k) 8).1 = 8 then 3 else 1) = 3 := if_pos e8
    refine ⟨rfl, ⟨h24, ?_, ?_, h27, h28, h29, ?_, ?_, g10, g11, htl⟩, ((fr.rf.pt (by decide)).pt (by decide)), rfl⟩
    · exact (h25.putv (by rw [ei])).ne (by decide)
    · intro j hj
      show S.1 26 j = nmv (upn (vnm V) k _ j)
      by_cases e : j = k
      · rw [e, upn_s, h26 k (by omega), hnm, e8]
      · rw [upn_n e]; exact h26 j hj
    · intro j hj h1
      have hjk : j ≠ k := fun e => by rw [e] at h1; have h2 : upn (vis V) k (if (wst (vh V) (tbu T k) 8).1 = 8 then 3 else 1) k = 1 := h1; rw [upn_s, ei] at h2; cases h2
      have h2 : upn (vis V) k (if (wst (vh V) (tbu T k) 8).1 = 8 then 3 else 1) j = 1 := h1
      rw [upn_n hjk] at h2
      have h3 := hsr j hj h2
      show S.1 30 j = nI (8 * upn (vnm V) k _ j + tbu T j) ∧ S.1 31 j = nI (8 * tbu T j + upn (vnm V) k _ j)
      rw [upn_n hjk]
      exact h3
    · show nI (lft T V) - nI 1 = nI (lft T (lau T V k))
      rw [pk_sub (by omega), el]; rfl
end
section
/-! the voyage of the class: sink, bear -/
set_option maxHeartbeats 2000000 in
theorem c_sink5 (S : ST) (T : TD) (V : VS) (ls : Nat → Nat) (k w : Nat) (hto : tok T) (hC : CR 5 T V ls S) (hh9 : ∀ j, j < 64 → vh V j ≤ 9) (hfw : vfw V ≤ 24) (hk : k < tnb T) (h1 : vis V k = 1) (hnm : vnm V k < 8) (hw : w < 24) : EX me_V_sink 0 [.ref 23, .int (nI k), .int (nI w)] S (fun r u => r = none ∧ CR 5 T (snk T w V k) ls u ∧ fr VL S u ∧ u.2 = S.2) := by
  refine EX.of mok_V_sink (Nat.le_of_ble_eq_true rfl) ?_
  obtain ⟨n8, n9, hbt, het, hht, hlo⟩ := id hto
  obtain ⟨h24, h25, h26, h27, h28, h29, hsr, g9, g10, g11, htl⟩ := id hC
  have q2 := (hbt k hk).2.1
  have q3 := hh9 (8 * tbu T k + vnm V k) (by omega)
  obtain ⟨e30, e31⟩ := hsr k (by omega) h1
  have ql : 0 < lft T V := cnt_1 (k := k) (by simp [h1]) hk
  have ql2 : lft T V ≤ tnb T := cnt_le _ _
  refine run_ok 4 (c' := (6, [(0, .ref 23), (1, .int (nI k)), (2, .int (nI w))], [.int (nI 2), .int (nI k), .ref 25], S)) rfl ?_
  refine x_isN rfl rfl (by decide) (by omega) ?_
  refine run_ok 3 (c' := (12, [(0, .ref 23), (1, .int (nI k)), (2, .int (nI w))], [.int (S.1 23 9), .ref 23], (pt S 25 k (nI 2)))) rfl ?_
  refine x_top (v' := nI (lft T V)) g9 ?_
  refine run_ok 8 (c' := (26, [(0, .ref 23), (1, .int (nI k)), (2, .int (nI w))], [.int (nI k), .ref 31, .ref 24], (pt (pt S 25 k (nI 2)) 23 9 ((nI (lft T V)) - (nI 1))))) rfl ?_
  refine x_iaN (nI (8 * tbu T k + vnm V k)) rfl rfl (by decide) (by omega) e31 ?_
  refine x_iaN (nI (vh V (8 * tbu T k + vnm V k))) rfl rfl (by decide) (by omega) (h24 (8 * tbu T k + vnm V k) (by omega)) ?_
  refine run_ok 1 (c' := (30, [(0, .ref 23), (1, .int (nI k)), (2, .int (nI w))], [.int (nI 9), .int (nI (vh V (8 * tbu T k + vnm V k)))], (pt (pt S 25 k (nI 2)) 23 9 ((nI (lft T V)) - (nI 1))))) rfl ?_
  refine x_icmpN_ge 48 rfl rfl (by omega) (by omega) (fun h30 => ?_) (fun h30 => ?_)
  · refine run_ok 2 (c' := (52, [(0, .ref 23), (1, .int (nI k)), (2, .int (nI w))], [.int (S.1 23 10)], (pt (pt S 25 k (nI 2)) 23 9 ((nI (lft T V)) - (nI 1))))) rfl ?_
    refine x_top (v' := fwv (vfw V)) g10 ?_
    refine run_ok 1 (c' := (53, [(0, .ref 23), (1, .int (nI k)), (2, .int (nI w))], [.int (-1), .int (fwv (vfw V))], (pt (pt S 25 k (nI 2)) 23 9 ((nI (lft T V)) - (nI 1))))) rfl ?_
    refine x_icmp_ne 66 rfl rfl (fun h53 => ?_) (fun h53 => ?_)
    · refine x_ret (r := none) rfl rfl trivial ?_ rfl
      have el := lft_dn (T := T) (V := V) (V' := snk T w V k) hk (by omega) (by show 1 < upn (vis V) k 2 k; rw [upn_s]; decide) (fun j hj => upn_n hj)
      refine ⟨rfl, ⟨?_, ?_, h26, h27, h28, h29, ?_, ?_, ?_, ?_, htl⟩, ((fr.rf.pt (by decide)).pt (by decide)), rfl⟩
      · intro j hj
        show S.1 24 j = nI (upn (vh V) (8 * tbu T k + vnm V k) (if vh V (8 * tbu T k + vnm V k) < 9 then vh V (8 * tbu T k + vnm V k) + 1 else vh V (8 * tbu T k + vnm V k)) j)
        by_cases e : j = 8 * tbu T k + vnm V k
        · rw [e, upn_s, if_neg (by omega)]; exact h24 _ (by omega)
        · rw [upn_n e]; exact h24 j hj
      · exact (h25.put : rh (pt S 25 k (nI 2)) 25 8 _)
      · intro j hj h1
        have h3 : upn (vis V) k 2 j = 1 := h1
        have e : j ≠ k := fun e => by rw [e, upn_s] at h3; cases h3
        rw [upn_n e] at h3
        exact hsr j hj h3
      · show nI (lft T V) - nI 1 = nI (lft T (snk T w V k))
        rw [pk_sub (by omega), el]; rfl
      · show S.1 23 10 = fwv (if vfw V = 24 then w else vfw V)
        rw [if_neg (fun z => h53 ((fwv_n1 hfw).mpr z))]; exact g10
      · show S.1 23 11 = nmv (if vfw V = 24 then k else vfb V)
        rw [if_neg (fun z => h53 ((fwv_n1 hfw).mpr z))]; exact g11
    · refine run_ok 6 (c' := (66, [(0, .ref 23), (1, .int (nI k)), (2, .int (nI w))], [], (pt (pt (pt (pt S 25 k (nI 2)) 23 9 ((nI (lft T V)) - (nI 1))) 23 10 (nI w)) 23 11 (nI k)))) rfl ?_
      refine x_ret (r := none) rfl rfl trivial ?_ rfl
      have el := lft_dn (T := T) (V := V) (V' := snk T w V k) hk (by omega) (by show 1 < upn (vis V) k 2 k; rw [upn_s]; decide) (fun j hj => upn_n hj)
      refine ⟨rfl, ⟨?_, ?_, h26, h27, h28, h29, ?_, ?_, ?_, ?_, htl⟩, ((((fr.rf.pt (by decide)).pt (by decide)).pt (by decide)).pt (by decide)), rfl⟩
      · intro j hj
        show S.1 24 j = nI (upn (vh V) (8 * tbu T k + vnm V k) (if vh V (8 * tbu T k + vnm V k) < 9 then vh V (8 * tbu T k + vnm V k) + 1 else vh V (8 * tbu T k + vnm V k)) j)
        by_cases e : j = 8 * tbu T k + vnm V k
        · rw [e, upn_s, if_neg (by omega)]; exact h24 _ (by omega)
        · rw [upn_n e]; exact h24 j hj
      · exact (h25.put : rh (pt S 25 k (nI 2)) 25 8 _)
      · intro j hj h1
        have h3 : upn (vis V) k 2 j = 1 := h1
        have e : j ≠ k := fun e => by rw [e, upn_s] at h3; cases h3
        rw [upn_n e] at h3
        exact hsr j hj h3
      · show nI (lft T V) - nI 1 = nI (lft T (snk T w V k))
        rw [pk_sub (by omega), el]; rfl
      · show nI w = fwv (if vfw V = 24 then w else vfw V)
        rw [if_pos ((fwv_n1 hfw).mp h53), fwv_lt hw]
      · show nI k = nmv (if vfw V = 24 then k else vfb V)
        rw [if_pos ((fwv_n1 hfw).mp h53), nmv_lt (by omega)]
  · refine run_ok 5 (c' := (42, [(0, .ref 23), (1, .int (nI k)), (2, .int (nI w))], [.int (nI k), .ref 31, .ref 24], (pt (pt S 25 k (nI 2)) 23 9 ((nI (lft T V)) - (nI 1))))) rfl ?_
    refine x_iaN (nI (8 * tbu T k + vnm V k)) rfl rfl (by decide) (by omega) e31 ?_
    refine run_ok 1 (c' := (44, [(0, .ref 23), (1, .int (nI k)), (2, .int (nI w))], [.int (nI (8 * tbu T k + vnm V k)), .ref 24, .int (nI (8 * tbu T k + vnm V k)), .ref 24], (pt (pt S 25 k (nI 2)) 23 9 ((nI (lft T V)) - (nI 1))))) rfl ?_
    refine x_iaN (nI (vh V (8 * tbu T k + vnm V k))) rfl rfl (by decide) (by omega) (h24 (8 * tbu T k + vnm V k) (by omega)) ?_
    refine run_ok 2 (c' := (47, [(0, .ref 23), (1, .int (nI k)), (2, .int (nI w))], [.int ((nI (vh V (8 * tbu T k + vnm V k))) + (nI 1)), .int (nI (8 * tbu T k + vnm V k)), .ref 24], (pt (pt S 25 k (nI 2)) 23 9 ((nI (lft T V)) - (nI 1))))) rfl ?_
    refine x_top (v' := nI ((vh V (8 * tbu T k + vnm V k)) + 1)) (nI_add _ _) ?_
    refine x_isN rfl rfl (by decide) (by omega) ?_
    refine run_ok 2 (c' := (52, [(0, .ref 23), (1, .int (nI k)), (2, .int (nI w))], [.int (S.1 23 10)], (pt (pt (pt S 25 k (nI 2)) 23 9 ((nI (lft T V)) - (nI 1))) 24 (8 * tbu T k + vnm V k) (nI ((vh V (8 * tbu T k + vnm V k)) + 1))))) rfl ?_
    refine x_top (v' := fwv (vfw V)) g10 ?_
    refine run_ok 1 (c' := (53, [(0, .ref 23), (1, .int (nI k)), (2, .int (nI w))], [.int (-1), .int (fwv (vfw V))], (pt (pt (pt S 25 k (nI 2)) 23 9 ((nI (lft T V)) - (nI 1))) 24 (8 * tbu T k + vnm V k) (nI ((vh V (8 * tbu T k + vnm V k)) + 1))))) rfl ?_
    refine x_icmp_ne 66 rfl rfl (fun h53 => ?_) (fun h53 => ?_)
    · refine x_ret (r := none) rfl rfl trivial ?_ rfl
      have el := lft_dn (T := T) (V := V) (V' := snk T w V k) hk (by omega) (by show 1 < upn (vis V) k 2 k; rw [upn_s]; decide) (fun j hj => upn_n hj)
      refine ⟨rfl, ⟨?_, ?_, h26, h27, h28, h29, ?_, ?_, ?_, ?_, htl⟩, (((fr.rf.pt (by decide)).pt (by decide)).pt (by decide)), rfl⟩
      · have e1 : (if vh V (8 * tbu T k + vnm V k) < 9 then vh V (8 * tbu T k + vnm V k) + 1 else vh V (8 * tbu T k + vnm V k)) = vh V (8 * tbu T k + vnm V k) + 1 := if_pos (by omega)
        show rh _ 24 64 (upn (vh V) (8 * tbu T k + vnm V k) (if vh V (8 * tbu T k + vnm V k) < 9 then vh V (8 * tbu T k + vnm V k) + 1 else vh V (8 * tbu T k + vnm V k)))
        rw [e1]
        exact (h24.put : rh (pt S 24 (8 * tbu T k + vnm V k) (nI (vh V (8 * tbu T k + vnm V k) + 1))) 24 64 _)
      · exact (h25.put : rh (pt S 25 k (nI 2)) 25 8 _)
      · intro j hj h1
        have h3 : upn (vis V) k 2 j = 1 := h1
        have e : j ≠ k := fun e => by rw [e, upn_s] at h3; cases h3
        rw [upn_n e] at h3
        exact hsr j hj h3
      · show nI (lft T V) - nI 1 = nI (lft T (snk T w V k))
        rw [pk_sub (by omega), el]; rfl
      · show S.1 23 10 = fwv (if vfw V = 24 then w else vfw V)
        rw [if_neg (fun z => h53 ((fwv_n1 hfw).mpr z))]; exact g10
      · show S.1 23 11 = nmv (if vfw V = 24 then k else vfb V)
        rw [if_neg (fun z => h53 ((fwv_n1 hfw).mpr z))]; exact g11
    · refine run_ok 6 (c' := (66, [(0, .ref 23), (1, .int (nI k)), (2, .int (nI w))], [], (pt (pt (pt (pt (pt S 25 k (nI 2)) 23 9 ((nI (lft T V)) - (nI 1))) 24 (8 * tbu T k + vnm V k) (nI ((vh V (8 * tbu T k + vnm V k)) + 1))) 23 10 (nI w)) 23 11 (nI k)))) rfl ?_
      refine x_ret (r := none) rfl rfl trivial ?_ rfl
      have el := lft_dn (T := T) (V := V) (V' := snk T w V k) hk (by omega) (by show 1 < upn (vis V) k 2 k; rw [upn_s]; decide) (fun j hj => upn_n hj)
      refine ⟨rfl, ⟨?_, ?_, h26, h27, h28, h29, ?_, ?_, ?_, ?_, htl⟩, (((((fr.rf.pt (by decide)).pt (by decide)).pt (by decide)).pt (by decide)).pt (by decide)), rfl⟩
      · have e1 : (if vh V (8 * tbu T k + vnm V k) < 9 then vh V (8 * tbu T k + vnm V k) + 1 else vh V (8 * tbu T k + vnm V k)) = vh V (8 * tbu T k + vnm V k) + 1 := if_pos (by omega)
        show rh _ 24 64 (upn (vh V) (8 * tbu T k + vnm V k) (if vh V (8 * tbu T k + vnm V k) < 9 then vh V (8 * tbu T k + vnm V k) + 1 else vh V (8 * tbu T k + vnm V k)))
        rw [e1]
        exact (h24.put : rh (pt S 24 (8 * tbu T k + vnm V k) (nI (vh V (8 * tbu T k + vnm V k) + 1))) 24 64 _)
      · exact (h25.put : rh (pt S 25 k (nI 2)) 25 8 _)
      · intro j hj h1
        have h3 : upn (vis V) k 2 j = 1 := h1
        have e : j ≠ k := fun e => by rw [e, upn_s] at h3; cases h3
        rw [upn_n e] at h3
        exact hsr j hj h3
      · show nI (lft T V) - nI 1 = nI (lft T (snk T w V k))
        rw [pk_sub (by omega), el]; rfl
      · show nI w = fwv (if vfw V = 24 then w else vfw V)
        rw [if_pos ((fwv_n1 hfw).mp h53), fwv_lt hw]
      · show nI k = nmv (if vfw V = 24 then k else vfb V)
        rw [if_pos ((fwv_n1 hfw).mp h53), nmv_lt (by omega)]

set_option maxHeartbeats 2000000 in
theorem c_sink14 (S : ST) (T : TD) (V : VS) (ls : Nat → Nat) (k w : Nat) (hto : tok T) (hC : CR 14 T V ls S) (hh9 : ∀ j, j < 64 → vh V j ≤ 9) (hfw : vfw V ≤ 24) (hk : k < tnb T) (h1 : vis V k = 1) (hnm : vnm V k < 8) (hw : w < 24) : EX me_V_sink 0 [.ref 23, .int (nI k), .int (nI w)] S (fun r u => r = none ∧ CR 14 T (snk T w V k) ls u ∧ fr VL S u ∧ u.2 = S.2) := by
  refine EX.of mok_V_sink (Nat.le_of_ble_eq_true rfl) ?_
  obtain ⟨n8, n9, hbt, het, hht, hlo⟩ := id hto
  obtain ⟨h24, h25, h26, h27, h28, h29, hsr, g9, g10, g11, htl⟩ := id hC
  have q2 := (hbt k hk).2.1
  have q3 := hh9 (8 * tbu T k + vnm V k) (by omega)
  obtain ⟨e30, e31⟩ := hsr k (by omega) h1
  have ql : 0 < lft T V := cnt_1 (k := k) (by simp [h1]) hk
  have ql2 : lft T V ≤ tnb T := cnt_le _ _
  refine run_ok 4 (c' := (6, [(0, .ref 23), (1, .int (nI k)), (2, .int (nI w))], [.int (nI 2), .int (nI k), .ref 25], S)) rfl ?_
  refine x_isN rfl rfl (by decide) (by omega) ?_
  refine run_ok 3 (c' := (12, [(0, .ref 23), (1, .int (nI k)), (2, .int (nI w))], [.int (S.1 23 9), .ref 23], (pt S 25 k (nI 2)))) rfl ?_
  refine x_top (v' := nI (lft T V)) g9 ?_
  refine run_ok 8 (c' := (26, [(0, .ref 23), (1, .int (nI k)), (2, .int (nI w))], [.int (nI k), .ref 31, .ref 24], (pt (pt S 25 k (nI 2)) 23 9 ((nI (lft T V)) - (nI 1))))) rfl ?_
  refine x_iaN (nI (8 * tbu T k + vnm V k)) rfl rfl (by decide) (by omega) e31 ?_
  refine x_iaN (nI (vh V (8 * tbu T k + vnm V k))) rfl rfl (by decide) (by omega) (h24 (8 * tbu T k + vnm V k) (by omega)) ?_
  refine run_ok 1 (c' := (30, [(0, .ref 23), (1, .int (nI k)), (2, .int (nI w))], [.int (nI 9), .int (nI (vh V (8 * tbu T k + vnm V k)))], (pt (pt S 25 k (nI 2)) 23 9 ((nI (lft T V)) - (nI 1))))) rfl ?_
  refine x_icmpN_ge 48 rfl rfl (by omega) (by omega) (fun h30 => ?_) (fun h30 => ?_)
  · refine run_ok 2 (c' := (52, [(0, .ref 23), (1, .int (nI k)), (2, .int (nI w))], [.int (S.1 23 10)], (pt (pt S 25 k (nI 2)) 23 9 ((nI (lft T V)) - (nI 1))))) rfl ?_
    refine x_top (v' := fwv (vfw V)) g10 ?_
    refine run_ok 1 (c' := (53, [(0, .ref 23), (1, .int (nI k)), (2, .int (nI w))], [.int (-1), .int (fwv (vfw V))], (pt (pt S 25 k (nI 2)) 23 9 ((nI (lft T V)) - (nI 1))))) rfl ?_
    refine x_icmp_ne 66 rfl rfl (fun h53 => ?_) (fun h53 => ?_)
    · refine x_ret (r := none) rfl rfl trivial ?_ rfl
      have el := lft_dn (T := T) (V := V) (V' := snk T w V k) hk (by omega) (by show 1 < upn (vis V) k 2 k; rw [upn_s]; decide) (fun j hj => upn_n hj)
      refine ⟨rfl, ⟨?_, ?_, h26, h27, h28, h29, ?_, ?_, ?_, ?_, htl⟩, ((fr.rf.pt (by decide)).pt (by decide)), rfl⟩
      · intro j hj
        show S.1 24 j = nI (upn (vh V) (8 * tbu T k + vnm V k) (if vh V (8 * tbu T k + vnm V k) < 9 then vh V (8 * tbu T k + vnm V k) + 1 else vh V (8 * tbu T k + vnm V k)) j)
        by_cases e : j = 8 * tbu T k + vnm V k
        · rw [e, upn_s, if_neg (by omega)]; exact h24 _ (by omega)
        · rw [upn_n e]; exact h24 j hj
      · exact (h25.put : rh (pt S 25 k (nI 2)) 25 8 _)
      · intro j hj h1
        have h3 : upn (vis V) k 2 j = 1 := h1
        have e : j ≠ k := fun e => by rw [e, upn_s] at h3; cases h3
        rw [upn_n e] at h3
        exact hsr j hj h3
      · show nI (lft T V) - nI 1 = nI (lft T (snk T w V k))
        rw [pk_sub (by omega), el]; rfl
      · show S.1 23 10 = fwv (if vfw V = 24 then w else vfw V)
        rw [if_neg (fun z => h53 ((fwv_n1 hfw).mpr z))]; exact g10
      · show S.1 23 11 = nmv (if vfw V = 24 then k else vfb V)
        rw [if_neg (fun z => h53 ((fwv_n1 hfw).mpr z))]; exact g11
    · refine run_ok 6 (c' := (66, [(0, .ref 23), (1, .int (nI k)), (2, .int (nI w))], [], (pt (pt (pt (pt S 25 k (nI 2)) 23 9 ((nI (lft T V)) - (nI 1))) 23 10 (nI w)) 23 11 (nI k)))) rfl ?_
      refine x_ret (r := none) rfl rfl trivial ?_ rfl
      have el := lft_dn (T := T) (V := V) (V' := snk T w V k) hk (by omega) (by show 1 < upn (vis V) k 2 k; rw [upn_s]; decide) (fun j hj => upn_n hj)
      refine ⟨rfl, ⟨?_, ?_, h26, h27, h28, h29, ?_, ?_, ?_, ?_, htl⟩, ((((fr.rf.pt (by decide)).pt (by decide)).pt (by decide)).pt (by decide)), rfl⟩
      · intro j hj
        show S.1 24 j = nI (upn (vh V) (8 * tbu T k + vnm V k) (if vh V (8 * tbu T k + vnm V k) < 9 then vh V (8 * tbu T k + vnm V k) + 1 else vh V (8 * tbu T k + vnm V k)) j)
        by_cases e : j = 8 * tbu T k + vnm V k
        · rw [e, upn_s, if_neg (by omega)]; exact h24 _ (by omega)
        · rw [upn_n e]; exact h24 j hj
      · exact (h25.put : rh (pt S 25 k (nI 2)) 25 8 _)
      · intro j hj h1
        have h3 : upn (vis V) k 2 j = 1 := h1
        have e : j ≠ k := fun e => by rw [e, upn_s] at h3; cases h3
        rw [upn_n e] at h3
        exact hsr j hj h3
      · show nI (lft T V) - nI 1 = nI (lft T (snk T w V k))
        rw [pk_sub (by omega), el]; rfl
      · show nI w = fwv (if vfw V = 24 then w else vfw V)
        rw [if_pos ((fwv_n1 hfw).mp h53), fwv_lt hw]
      · show nI k = nmv (if vfw V = 24 then k else vfb V)
        rw [if_pos ((fwv_n1 hfw).mp h53), nmv_lt (by omega)]
  · refine run_ok 5 (c' := (42, [(0, .ref 23), (1, .int (nI k)), (2, .int (nI w))], [.int (nI k), .ref 31, .ref 24], (pt (pt S 25 k (nI 2)) 23 9 ((nI (lft T V)) - (nI 1))))) rfl ?_
    refine x_iaN (nI (8 * tbu T k + vnm V k)) rfl rfl (by decide) (by omega) e31 ?_
    refine run_ok 1 (c' := (44, [(0, .ref 23), (1, .int (nI k)), (2, .int (nI w))], [.int (nI (8 * tbu T k + vnm V k)), .ref 24, .int (nI (8 * tbu T k + vnm V k)), .ref 24], (pt (pt S 25 k (nI 2)) 23 9 ((nI (lft T V)) - (nI 1))))) rfl ?_
    refine x_iaN (nI (vh V (8 * tbu T k + vnm V k))) rfl rfl (by decide) (by omega) (h24 (8 * tbu T k + vnm V k) (by omega)) ?_
    refine run_ok 2 (c' := (47, [(0, .ref 23), (1, .int (nI k)), (2, .int (nI w))], [.int ((nI (vh V (8 * tbu T k + vnm V k))) + (nI 1)), .int (nI (8 * tbu T k + vnm V k)), .ref 24], (pt (pt S 25 k (nI 2)) 23 9 ((nI (lft T V)) - (nI 1))))) rfl ?_
    refine x_top (v' := nI ((vh V (8 * tbu T k + vnm V k)) + 1)) (nI_add _ _) ?_
    refine x_isN rfl rfl (by decide) (by omega) ?_
    refine run_ok 2 (c' := (52, [(0, .ref 23), (1, .int (nI k)), (2, .int (nI w))], [.int (S.1 23 10)], (pt (pt (pt S 25 k (nI 2)) 23 9 ((nI (lft T V)) - (nI 1))) 24 (8 * tbu T k + vnm V k) (nI ((vh V (8 * tbu T k + vnm V k)) + 1))))) rfl ?_
    refine x_top (v' := fwv (vfw V)) g10 ?_
    refine run_ok 1 (c' := (53, [(0, .ref 23), (1, .int (nI k)), (2, .int (nI w))], [.int (-1), .int (fwv (vfw V))], (pt (pt (pt S 25 k (nI 2)) 23 9 ((nI (lft T V)) - (nI 1))) 24 (8 * tbu T k + vnm V k) (nI ((vh V (8 * tbu T k + vnm V k)) + 1))))) rfl ?_
    refine x_icmp_ne 66 rfl rfl (fun h53 => ?_) (fun h53 => ?_)
    · refine x_ret (r := none) rfl rfl trivial ?_ rfl
      have el := lft_dn (T := T) (V := V) (V' := snk T w V k) hk (by omega) (by show 1 < upn (vis V) k 2 k; rw [upn_s]; decide) (fun j hj => upn_n hj)
      refine ⟨rfl, ⟨?_, ?_, h26, h27, h28, h29, ?_, ?_, ?_, ?_, htl⟩, (((fr.rf.pt (by decide)).pt (by decide)).pt (by decide)), rfl⟩
      · have e1 : (if vh V (8 * tbu T k + vnm V k) < 9 then vh V (8 * tbu T k + vnm V k) + 1 else vh V (8 * tbu T k + vnm V k)) = vh V (8 * tbu T k + vnm V k) + 1 := if_pos (by omega)
        show rh _ 24 64 (upn (vh V) (8 * tbu T k + vnm V k) (if vh V (8 * tbu T k + vnm V k) < 9 then vh V (8 * tbu T k + vnm V k) + 1 else vh V (8 * tbu T k + vnm V k)))
        rw [e1]
        exact (h24.put : rh (pt S 24 (8 * tbu T k + vnm V k) (nI (vh V (8 * tbu T k + vnm V k) + 1))) 24 64 _)
      · exact (h25.put : rh (pt S 25 k (nI 2)) 25 8 _)
      · intro j hj h1
        have h3 : upn (vis V) k 2 j = 1 := h1
        have e : j ≠ k := fun e => by rw [e, upn_s] at h3; cases h3
        rw [upn_n e] at h3
        exact hsr j hj h3
      · show nI (lft T V) - nI 1 = nI (lft T (snk T w V k))
        rw [pk_sub (by omega), el]; rfl
      · show S.1 23 10 = fwv (if vfw V = 24 then w else vfw V)
        rw [if_neg (fun z => h53 ((fwv_n1 hfw).mpr z))]; exact g10
      · show S.1 23 11 = nmv (if vfw V = 24 then k else vfb V)
        rw [if_neg (fun z => h53 ((fwv_n1 hfw).mpr z))]; exact g11
    · refine run_ok 6 (c' := (66, [(0, .ref 23), (1, .int (nI k)), (2, .int (nI w))], [], (pt (pt (pt (pt (pt S 25 k (nI 2)) 23 9 ((nI (lft T V)) - (nI 1))) 24 (8 * tbu T k + vnm V k) (nI ((vh V (8 * tbu T k + vnm V k)) + 1))) 23 10 (nI w)) 23 11 (nI k)))) rfl ?_
      refine x_ret (r := none) rfl rfl trivial ?_ rfl
      have el := lft_dn (T := T) (V := V) (V' := snk T w V k) hk (by omega) (by show 1 < upn (vis V) k 2 k; rw [upn_s]; decide) (fun j hj => upn_n hj)
      refine ⟨rfl, ⟨?_, ?_, h26, h27, h28, h29, ?_, ?_, ?_, ?_, htl⟩, (((((fr.rf.pt (by decide)).pt (by decide)).pt (by decide)).pt (by decide)).pt (by decide)), rfl⟩
      · have e1 : (if vh V (8 * tbu T k + vnm V k) < 9 then vh V (8 * tbu T k + vnm V k) + 1 else vh V (8 * tbu T k + vnm V k)) = vh V (8 * tbu T k + vnm V k) + 1 := if_pos (by omega)
        show rh _ 24 64 (upn (vh V) (8 * tbu T k + vnm V k) (if vh V (8 * tbu T k + vnm V k) < 9 then vh V (8 * tbu T k + vnm V k) + 1 else vh V (8 * tbu T k + vnm V k)))
        rw [e1]
        exact (h24.put : rh (pt S 24 (8 * tbu T k + vnm V k) (nI (vh V (8 * tbu T k + vnm V k) + 1))) 24 64 _)
      · exact (h25.put : rh (pt S 25 k (nI 2)) 25 8 _)
      · intro j hj h1
        have h3 : upn (vis V) k 2 j = 1 := h1
        have e : j ≠ k := fun e => by rw [e, upn_s] at h3; cases h3
        rw [upn_n e] at h3
        exact hsr j hj h3
      · show nI (lft T V) - nI 1 = nI (lft T (snk T w V k))
        rw [pk_sub (by omega), el]; rfl
      · show nI w = fwv (if vfw V = 24 then w else vfw V)
        rw [if_pos ((fwv_n1 hfw).mp h53), fwv_lt hw]
      · show nI k = nmv (if vfw V = 24 then k else vfb V)
        rw [if_pos ((fwv_n1 hfw).mp h53), nmv_lt (by omega)]

set_option maxHeartbeats 2000000 in
theorem c_bear5 (S : ST) (T : TD) (V : VS) (ls : Nat → Nat) (k w : Nat) (hT : TR 5 T S) (hto : tok T) (hC : CR 5 T V ls S) (hV : vk T V) (hk : k < tnb T) (h1 : vis V k = 1) (hw : w < 24) : EX me_V_bear 1 [.ref 23, .int (nI k), .int (nI w)] S (fun r u => r = none ∧ CR 5 T (bea T w V k) (if vis (bea T w V k) k = 1 then upn ls k (ls k + 1) else ls) u ∧ fr VL S u ∧ u.2 = S.2) := by
  refine EX.of mok_V_bear (Nat.le_of_ble_eq_true rfl) ?_
  obtain ⟨n8, n9, hbt, het, hht, hlo⟩ := id hto
  obtain ⟨t1, t2, t3, t4, t5, t6, t7, t8, t9, t10, t11⟩ := id hT
  obtain ⟨h24, h25, h26, h27, h28, h29, hsr, g9, g10, g11, htl⟩ := id hC
  obtain ⟨hh9, hv3, hb9, hfw, hfb⟩ := id hV
  have q1 := (hv3 k (by omega)).2.2 h1
  have q2 := (hbt k hk).2.1
  have q3 := hh9 (8 * vnm V k + tbu T k) (by omega)
  obtain ⟨e30, e31⟩ := hsr k (by omega) h1
  have q4 := hb9 k hk
  have q5 := q4.2.2 (by omega)
  have q6 := (hbt k hk).1
  have q7 := brn_le (T := T) (V := V) (k := k) q5 q3
  refine run_ok 5 (c' := (9, [(0, .ref 23), (1, .int (nI k)), (2, .int (nI w))], [.int (nI k), .ref 30, .ref 24], S)) rfl ?_
  refine x_iaN (nI (8 * vnm V k + tbu T k)) rfl rfl (by decide) (by omega) e30 ?_
  refine x_iaN (nI (vh V (8 * vnm V k + tbu T k))) rfl rfl (by decide) (by omega) (h24 (8 * vnm V k + tbu T k) (by omega)) ?_
  refine run_ok 5 (c' := (18, [(0, .ref 23), (1, .int (nI k)), (2, .int (nI w)), (3, .int (nI (vh V (8 * vnm V k + tbu T k))))], [.int (nI k), .ref 27, .int (nI k), .ref 27], S)) rfl ?_
  refine x_iaN (nI (vgr V k)) rfl rfl (by decide) (by omega) (h27 k (by omega)) ?_
  refine run_ok 1 (c' := (20, [(0, .ref 23), (1, .int (nI k)), (2, .int (nI w)), (3, .int (nI (vh V (8 * vnm V k + tbu T k))))], [.ref 23, .int (nI (vgr V k)), .int (nI k), .ref 27], S)) rfl ?_
  refine x_gett (t := 5) rfl rfl htl ?_
  refine run_ok 2 (c' := (27, [(0, .ref 23), (1, .int (nI k)), (2, .int (nI w)), (3, .int (nI (vh V (8 * vnm V k + tbu T k))))], [.int (nI k), .ref 7, .int (nI (vgr V k)), .int (nI k), .ref 27], S)) rfl ?_
  refine x_iaN (nI (tso T k)) rfl rfl (by decide) (by omega) (t2 k (by omega)) ?_
  refine run_ok 1 (c' := (29, [(0, .ref 23), (1, .int (nI k)), (2, .int (nI w)), (3, .int (nI (vh V (8 * vnm V k + tbu T k))))], [.int (nI 1), .int (nI (tso T k)), .int (nI (vgr V k)), .int (nI k), .ref 27], S)) rfl ?_
  refine x_icmpN_ne 38 rfl rfl (by omega) (by omega) (fun h29x => ?_) (fun h29x => ?_)
  · refine run_ok 2 (c' := (40, [(0, .ref 23), (1, .int (nI k)), (2, .int (nI w)), (3, .int (nI (vh V (8 * vnm V k + tbu T k))))], [.int ((nI (vgr V k)) + (nI (vh V (8 * vnm V k + tbu T k)))), .int (nI k), .ref 27], S)) rfl ?_
    refine x_top (v' := nI ((vgr V k) + (vh V (8 * vnm V k + tbu T k)))) (nI_add _ _) ?_
    refine x_top (v' := nI (brn T V k)) (by unfold brn; rw [if_neg h29x]) ?_
    refine x_isN rfl rfl (by decide) (by omega) ?_
    refine run_ok 3 (c' := (46, [(0, .ref 23), (1, .int (nI k)), (2, .int (nI w)), (3, .int (nI (vh V (8 * vnm V k + tbu T k))))], [.int (nI k), .ref 28], (pt S 27 k (nI (brn T V k))))) rfl ?_
    refine x_iaN (nI (vho V k)) rfl rfl (by decide) (by omega) (h28 k (by omega)) ?_
    refine x_ifN_eq 67 rfl rfl (by omega) (fun h47 => ?_) (fun h47 => ?_)
    · refine run_ok 3 (c' := (70, [(0, .ref 23), (1, .int (nI k)), (2, .int (nI w)), (3, .int (nI (vh V (8 * vnm V k + tbu T k))))], [.int (nI w), .int (nI k), .ref 23], (pt S 27 k (nI (brn T V k))))) rfl ?_
      have hb := bea_s (T := T) (w := w) (V := V) (k := k) (Or.inr h47)
      refine x_callV [.int (nI k), .int (nI w)] rfl cv_V_sink.1 lk_5_125 cv_V_sink.2.1 cv_V_sink.2.2.1 rfl cv_V_sink.2.2.2.1 rfl rfl (Nat.le_of_ble_eq_true rfl) (by decide) cv_V_sink.2.2.2.2 (c_sink5 (pt S 27 k (nI (brn T V k))) T (bre T V k) ls k w hto ⟨h24, h25, h26, h27.put, h28, h29, hsr, g9, g10, g11, htl⟩ hh9 hfw hk h1 q1.2 hw) ?_
      rintro r u ⟨hr, hCu, hfu, h2u⟩
      rw [hr]
      clear hr r
      refine run_ok 1 (c' := (86, [(0, .ref 23), (1, .int (nI k)), (2, .int (nI w)), (3, .int (nI (vh V (8 * vnm V k + tbu T k))))], [], u)) rfl ?_
      refine x_ret (r := none) rfl rfl trivial ?_ rfl
      refine ⟨rfl, ?_, (fr.rf.pt (by decide)).tr hfu, h2u⟩
      rw [hb, if_neg (by show ¬ upn (vis V) k 2 k = 1; rw [upn_s]; decide)]
      exact hCu
    · refine run_ok 3 (c' := (55, [(0, .ref 23), (1, .int (nI k)), (2, .int (nI w)), (3, .int (nI (vh V (8 * vnm V k + tbu T k))))], [.int (nI k), .ref 27], (pt S 27 k (nI (brn T V k))))) rfl ?_
      refine x_iaN (nI (brn T V k)) rfl rfl (by decide) (by omega) (upd_s _ _ _) ?_
      refine run_ok 4 (c' := (62, [(0, .ref 23), (1, .int (nI k)), (2, .int (nI w)), (3, .int (nI (vh V (8 * vnm V k + tbu T k))))], [.int (nI k), .ref 28, .int (nI 3), .int (nI (brn T V k))], (pt S 27 k (nI (brn T V k))))) rfl ?_
      refine x_iaN (nI (vho V k)) rfl rfl (by decide) (by omega) (h28 k (by omega)) ?_
      refine run_ok 1 (c' := (64, [(0, .ref 23), (1, .int (nI k)), (2, .int (nI w)), (3, .int (nI (vh V (8 * vnm V k + tbu T k))))], [.int ((nI 3) * (nI (vho V k))), .int (nI (brn T V k))], (pt S 27 k (nI (brn T V k))))) rfl ?_
      refine x_top (v' := nI (3 * (vho V k))) (pk_mul _ _) ?_
      refine x_icmpN_le 76 rfl rfl (by omega) (by omega) (fun h64 => ?_) (fun h64 => ?_)
      · refine run_ok 4 (c' := (82, [(0, .ref 23), (1, .int (nI k)), (2, .int (nI w)), (3, .int (nI (vh V (8 * vnm V k + tbu T k))))], [.int (nI k), .ref 29, .int (nI k), .ref 29], (pt S 27 k (nI (brn T V k))))) rfl ?_
        refine x_iaN (nI (ls k)) rfl rfl (by decide) (by omega) (h29 k (by omega)) ?_
        refine run_ok 2 (c' := (85, [(0, .ref 23), (1, .int (nI k)), (2, .int (nI w)), (3, .int (nI (vh V (8 * vnm V k + tbu T k))))], [.int ((nI (ls k)) + (nI 1)), .int (nI k), .ref 29], (pt S 27 k (nI (brn T V k))))) rfl ?_
        refine x_top (v' := nI ((ls k) + 1)) (nI_add _ _) ?_
        refine x_isN rfl rfl (by decide) (by omega) ?_
        refine x_ret (r := none) rfl rfl trivial ?_ rfl
        have hb := bea_n (T := T) (w := w) (V := V) (k := k) (by omega)
        refine ⟨rfl, ?_, (fr.rf.pt (by decide)).pt (by decide), rfl⟩
        rw [hb, if_pos (by exact h1)]
        exact ⟨h24, h25, h26, h27.put, h28, (h29.put : rh (pt S 29 k (nI (ls k + 1))) 29 (tnb T) _), hsr, g9, g10, g11, htl⟩
      · refine run_ok 3 (c' := (70, [(0, .ref 23), (1, .int (nI k)), (2, .int (nI w)), (3, .int (nI (vh V (8 * vnm V k + tbu T k))))], [.int (nI w), .int (nI k), .ref 23], (pt S 27 k (nI (brn T V k))))) rfl ?_
        have hb := bea_s (T := T) (w := w) (V := V) (k := k) (Or.inl (by omega))
        refine x_callV [.int (nI k), .int (nI w)] rfl cv_V_sink.1 lk_5_125 cv_V_sink.2.1 cv_V_sink.2.2.1 rfl cv_V_sink.2.2.2.1 rfl rfl (Nat.le_of_ble_eq_true rfl) (by decide) cv_V_sink.2.2.2.2 (c_sink5 (pt S 27 k (nI (brn T V k))) T (bre T V k) ls k w hto ⟨h24, h25, h26, h27.put, h28, h29, hsr, g9, g10, g11, htl⟩ hh9 hfw hk h1 q1.2 hw) ?_
        rintro r u ⟨hr, hCu, hfu, h2u⟩
        rw [hr]
        clear hr r
        refine run_ok 1 (c' := (86, [(0, .ref 23), (1, .int (nI k)), (2, .int (nI w)), (3, .int (nI (vh V (8 * vnm V k + tbu T k))))], [], u)) rfl ?_
        refine x_ret (r := none) rfl rfl trivial ?_ rfl
        refine ⟨rfl, ?_, (fr.rf.pt (by decide)).tr hfu, h2u⟩
        rw [hb, if_neg (by show ¬ upn (vis V) k 2 k = 1; rw [upn_s]; decide)]
        exact hCu
  · refine run_ok 2 (c' := (34, [(0, .ref 23), (1, .int (nI k)), (2, .int (nI w)), (3, .int (nI (vh V (8 * vnm V k + tbu T k))))], [.int (nI 2), .int (nI (vh V (8 * vnm V k + tbu T k))), .int (nI (vgr V k)), .int (nI k), .ref 27], S)) rfl ?_
    refine x_idiv rfl (by decide) ?_
    refine x_top (v' := nI ((vh V (8 * vnm V k + tbu T k)) / 2)) (pk_div (by omega) (by omega) (by omega)) ?_
    refine run_ok 2 (c' := (40, [(0, .ref 23), (1, .int (nI k)), (2, .int (nI w)), (3, .int (nI (vh V (8 * vnm V k + tbu T k))))], [.int ((nI (vgr V k)) + (nI ((vh V (8 * vnm V k + tbu T k)) / 2))), .int (nI k), .ref 27], S)) rfl ?_
    refine x_top (v' := nI ((vgr V k) + ((vh V (8 * vnm V k + tbu T k)) / 2))) (nI_add _ _) ?_
    refine x_top (v' := nI (brn T V k)) (by unfold brn; rw [if_pos h29x]) ?_
    refine x_isN rfl rfl (by decide) (by omega) ?_
    refine run_ok 3 (c' := (46, [(0, .ref 23), (1, .int (nI k)), (2, .int (nI w)), (3, .int (nI (vh V (8 * vnm V k + tbu T k))))], [.int (nI k), .ref 28], (pt S 27 k (nI (brn T V k))))) rfl ?_
    refine x_iaN (nI (vho V k)) rfl rfl (by decide) (by omega) (h28 k (by omega)) ?_
    refine x_ifN_eq 67 rfl rfl (by omega) (fun h47 => ?_) (fun h47 => ?_)
    · refine run_ok 3 (c' := (70, [(0, .ref 23), (1, .int (nI k)), (2, .int (nI w)), (3, .int (nI (vh V (8 * vnm V k + tbu T k))))], [.int (nI w), .int (nI k), .ref 23], (pt S 27 k (nI (brn T V k))))) rfl ?_
      have hb := bea_s (T := T) (w := w) (V := V) (k := k) (Or.inr h47)
      refine x_callV [.int (nI k), .int (nI w)] rfl cv_V_sink.1 lk_5_125 cv_V_sink.2.1 cv_V_sink.2.2.1 rfl cv_V_sink.2.2.2.1 rfl rfl (Nat.le_of_ble_eq_true rfl) (by decide) cv_V_sink.2.2.2.2 (c_sink5 (pt S 27 k (nI (brn T V k))) T (bre T V k) ls k w hto ⟨h24, h25, h26, h27.put, h28, h29, hsr, g9, g10, g11, htl⟩ hh9 hfw hk h1 q1.2 hw) ?_
      rintro r u ⟨hr, hCu, hfu, h2u⟩
      rw [hr]
      clear hr r
      refine run_ok 1 (c' := (86, [(0, .ref 23), (1, .int (nI k)), (2, .int (nI w)), (3, .int (nI (vh V (8 * vnm V k + tbu T k))))], [], u)) rfl ?_
      refine x_ret (r := none) rfl rfl trivial ?_ rfl
      refine ⟨rfl, ?_, (fr.rf.pt (by decide)).tr hfu, h2u⟩
      rw [hb, if_neg (by show ¬ upn (vis V) k 2 k = 1; rw [upn_s]; decide)]
      exact hCu
    · refine run_ok 3 (c' := (55, [(0, .ref 23), (1, .int (nI k)), (2, .int (nI w)), (3, .int (nI (vh V (8 * vnm V k + tbu T k))))], [.int (nI k), .ref 27], (pt S 27 k (nI (brn T V k))))) rfl ?_
      refine x_iaN (nI (brn T V k)) rfl rfl (by decide) (by omega) (upd_s _ _ _) ?_
      refine run_ok 4 (c' := (62, [(0, .ref 23), (1, .int (nI k)), (2, .int (nI w)), (3, .int (nI (vh V (8 * vnm V k + tbu T k))))], [.int (nI k), .ref 28, .int (nI 3), .int (nI (brn T V k))], (pt S 27 k (nI (brn T V k))))) rfl ?_
      refine x_iaN (nI (vho V k)) rfl rfl (by decide) (by omega) (h28 k (by omega)) ?_
      refine run_ok 1 (c' := (64, [(0, .ref 23), (1, .int (nI k)), (2, .int (nI w)), (3, .int (nI (vh V (8 * vnm V k + tbu T k))))], [.int ((nI 3) * (nI (vho V k))), .int (nI (brn T V k))], (pt S 27 k (nI (brn T V k))))) rfl ?_
      refine x_top (v' := nI (3 * (vho V k))) (pk_mul _ _) ?_
      refine x_icmpN_le 76 rfl rfl (by omega) (by omega) (fun h64 => ?_) (fun h64 => ?_)
      · refine run_ok 4 (c' := (82, [(0, .ref 23), (1, .int (nI k)), (2, .int (nI w)), (3, .int (nI (vh V (8 * vnm V k + tbu T k))))], [.int (nI k), .ref 29, .int (nI k), .ref 29], (pt S 27 k (nI (brn T V k))))) rfl ?_
        refine x_iaN (nI (ls k)) rfl rfl (by decide) (by omega) (h29 k (by omega)) ?_
        refine run_ok 2 (c' := (85, [(0, .ref 23), (1, .int (nI k)), (2, .int (nI w)), (3, .int (nI (vh V (8 * vnm V k + tbu T k))))], [.int ((nI (ls k)) + (nI 1)), .int (nI k), .ref 29], (pt S 27 k (nI (brn T V k))))) rfl ?_
        refine x_top (v' := nI ((ls k) + 1)) (nI_add _ _) ?_
        refine x_isN rfl rfl (by decide) (by omega) ?_
        refine x_ret (r := none) rfl rfl trivial ?_ rfl
        have hb := bea_n (T := T) (w := w) (V := V) (k := k) (by omega)
        refine ⟨rfl, ?_, (fr.rf.pt (by decide)).pt (by decide), rfl⟩
        rw [hb, if_pos (by exact h1)]
        exact ⟨h24, h25, h26, h27.put, h28, (h29.put : rh (pt S 29 k (nI (ls k + 1))) 29 (tnb T) _), hsr, g9, g10, g11, htl⟩
      · refine run_ok 3 (c' := (70, [(0, .ref 23), (1, .int (nI k)), (2, .int (nI w)), (3, .int (nI (vh V (8 * vnm V k + tbu T k))))], [.int (nI w), .int (nI k), .ref 23], (pt S 27 k (nI (brn T V k))))) rfl ?_
        have hb := bea_s (T := T) (w := w) (V := V) (k := k) (Or.inl (by omega))
        refine x_callV [.int (nI k), .int (nI w)] rfl cv_V_sink.1 lk_5_125 cv_V_sink.2.1 cv_V_sink.2.2.1 rfl cv_V_sink.2.2.2.1 rfl rfl (Nat.le_of_ble_eq_true rfl) (by decide) cv_V_sink.2.2.2.2 (c_sink5 (pt S 27 k (nI (brn T V k))) T (bre T V k) ls k w hto ⟨h24, h25, h26, h27.put, h28, h29, hsr, g9, g10, g11, htl⟩ hh9 hfw hk h1 q1.2 hw) ?_
        rintro r u ⟨hr, hCu, hfu, h2u⟩
        rw [hr]
        clear hr r
        refine run_ok 1 (c' := (86, [(0, .ref 23), (1, .int (nI k)), (2, .int (nI w)), (3, .int (nI (vh V (8 * vnm V k + tbu T k))))], [], u)) rfl ?_
        refine x_ret (r := none) rfl rfl trivial ?_ rfl
        refine ⟨rfl, ?_, (fr.rf.pt (by decide)).tr hfu, h2u⟩
        rw [hb, if_neg (by show ¬ upn (vis V) k 2 k = 1; rw [upn_s]; decide)]
        exact hCu

set_option maxHeartbeats 2000000 in
theorem c_bear14 (S : ST) (T : TD) (V : VS) (ls : Nat → Nat) (k w : Nat) (hT : TR 14 T S) (hto : tok T) (hC : CR 14 T V ls S) (hV : vk T V) (hk : k < tnb T) (h1 : vis V k = 1) (hw : w < 24) : EX me_V_bear 1 [.ref 23, .int (nI k), .int (nI w)] S (fun r u => r = none ∧ CR 14 T (bea T w V k) (if vis (bea T w V k) k = 1 then upn ls k (ls k + 1) else ls) u ∧ fr VL S u ∧ u.2 = S.2) := by
  refine EX.of mok_V_bear (Nat.le_of_ble_eq_true rfl) ?_
  obtain ⟨n8, n9, hbt, het, hht, hlo⟩ := id hto
  obtain ⟨t1, t2, t3, t4, t5, t6, t7, t8, t9, t10, t11⟩ := id hT
  obtain ⟨h24, h25, h26, h27, h28, h29, hsr, g9, g10, g11, htl⟩ := id hC
  obtain ⟨hh9, hv3, hb9, hfw, hfb⟩ := id hV
  have q1 := (hv3 k (by omega)).2.2 h1
  have q2 := (hbt k hk).2.1
  have q3 := hh9 (8 * vnm V k + tbu T k) (by omega)
  obtain ⟨e30, e31⟩ := hsr k (by omega) h1
  have q4 := hb9 k hk
  have q5 := q4.2.2 (by omega)
  have q6 := (hbt k hk).1
  have q7 := brn_le (T := T) (V := V) (k := k) q5 q3
  refine run_ok 5 (c' := (9, [(0, .ref 23), (1, .int (nI k)), (2, .int (nI w))], [.int (nI k), .ref 30, .ref 24], S)) rfl ?_
  refine x_iaN (nI (8 * vnm V k + tbu T k)) rfl rfl (by decide) (by omega) e30 ?_
  refine x_iaN (nI (vh V (8 * vnm V k + tbu T k))) rfl rfl (by decide) (by omega) (h24 (8 * vnm V k + tbu T k) (by omega)) ?_
  refine run_ok 5 (c' := (18, [(0, .ref 23), (1, .int (nI k)), (2, .int (nI w)), (3, .int (nI (vh V (8 * vnm V k + tbu T k))))], [.int (nI k), .ref 27, .int (nI k), .ref 27], S)) rfl ?_
  refine x_iaN (nI (vgr V k)) rfl rfl (by decide) (by omega) (h27 k (by omega)) ?_
  refine run_ok 1 (c' := (20, [(0, .ref 23), (1, .int (nI k)), (2, .int (nI w)), (3, .int (nI (vh V (8 * vnm V k + tbu T k))))], [.ref 23, .int (nI (vgr V k)), .int (nI k), .ref 27], S)) rfl ?_
  refine x_gett (t := 14) rfl rfl htl ?_
  refine run_ok 2 (c' := (27, [(0, .ref 23), (1, .int (nI k)), (2, .int (nI w)), (3, .int (nI (vh V (8 * vnm V k + tbu T k))))], [.int (nI k), .ref 16, .int (nI (vgr V k)), .int (nI k), .ref 27], S)) rfl ?_
  refine x_iaN (nI (tso T k)) rfl rfl (by decide) (by omega) (t2 k (by omega)) ?_
  refine run_ok 1 (c' := (29, [(0, .ref 23), (1, .int (nI k)), (2, .int (nI w)), (3, .int (nI (vh V (8 * vnm V k + tbu T k))))], [.int (nI 1), .int (nI (tso T k)), .int (nI (vgr V k)), .int (nI k), .ref 27], S)) rfl ?_
  refine x_icmpN_ne 38 rfl rfl (by omega) (by omega) (fun h29x => ?_) (fun h29x => ?_)
  · refine run_ok 2 (c' := (40, [(0, .ref 23), (1, .int (nI k)), (2, .int (nI w)), (3, .int (nI (vh V (8 * vnm V k + tbu T k))))], [.int ((nI (vgr V k)) + (nI (vh V (8 * vnm V k + tbu T k)))), .int (nI k), .ref 27], S)) rfl ?_
    refine x_top (v' := nI ((vgr V k) + (vh V (8 * vnm V k + tbu T k)))) (nI_add _ _) ?_
    refine x_top (v' := nI (brn T V k)) (by unfold brn; rw [if_neg h29x]) ?_
    refine x_isN rfl rfl (by decide) (by omega) ?_
    refine run_ok 3 (c' := (46, [(0, .ref 23), (1, .int (nI k)), (2, .int (nI w)), (3, .int (nI (vh V (8 * vnm V k + tbu T k))))], [.int (nI k), .ref 28], (pt S 27 k (nI (brn T V k))))) rfl ?_
    refine x_iaN (nI (vho V k)) rfl rfl (by decide) (by omega) (h28 k (by omega)) ?_
    refine x_ifN_eq 67 rfl rfl (by omega) (fun h47 => ?_) (fun h47 => ?_)
    · refine run_ok 3 (c' := (70, [(0, .ref 23), (1, .int (nI k)), (2, .int (nI w)), (3, .int (nI (vh V (8 * vnm V k + tbu T k))))], [.int (nI w), .int (nI k), .ref 23], (pt S 27 k (nI (brn T V k))))) rfl ?_
      have hb := bea_s (T := T) (w := w) (V := V) (k := k) (Or.inr h47)
      refine x_callV [.int (nI k), .int (nI w)] rfl cv_V_sink.1 lk_5_125 cv_V_sink.2.1 cv_V_sink.2.2.1 rfl cv_V_sink.2.2.2.1 rfl rfl (Nat.le_of_ble_eq_true rfl) (by decide) cv_V_sink.2.2.2.2 (c_sink14 (pt S 27 k (nI (brn T V k))) T (bre T V k) ls k w hto ⟨h24, h25, h26, h27.put, h28, h29, hsr, g9, g10, g11, htl⟩ hh9 hfw hk h1 q1.2 hw) ?_
      rintro r u ⟨hr, hCu, hfu, h2u⟩
      rw [hr]
      clear hr r
      refine run_ok 1 (c' := (86, [(0, .ref 23), (1, .int (nI k)), (2, .int (nI w)), (3, .int (nI (vh V (8 * vnm V k + tbu T k))))], [], u)) rfl ?_
      refine x_ret (r := none) rfl rfl trivial ?_ rfl
      refine ⟨rfl, ?_, (fr.rf.pt (by decide)).tr hfu, h2u⟩
      rw [hb, if_neg (by show ¬ upn (vis V) k 2 k = 1; rw [upn_s]; decide)]
      exact hCu
    · refine run_ok 3 (c' := (55, [(0, .ref 23), (1, .int (nI k)), (2, .int (nI w)), (3, .int (nI (vh V (8 * vnm V k + tbu T k))))], [.int (nI k), .ref 27], (pt S 27 k (nI (brn T V k))))) rfl ?_
      refine x_iaN (nI (brn T V k)) rfl rfl (by decide) (by omega) (upd_s _ _ _) ?_
      refine run_ok 4 (c' := (62, [(0, .ref 23), (1, .int (nI k)), (2, .int (nI w)), (3, .int (nI (vh V (8 * vnm V k + tbu T k))))], [.int (nI k), .ref 28, .int (nI 3), .int (nI (brn T V k))], (pt S 27 k (nI (brn T V k))))) rfl ?_
      refine x_iaN (nI (vho V k)) rfl rfl (by decide) (by omega) (h28 k (by omega)) ?_
      refine run_ok 1 (c' := (64, [(0, .ref 23), (1, .int (nI k)), (2, .int (nI w)), (3, .int (nI (vh V (8 * vnm V k + tbu T k))))], [.int ((nI 3) * (nI (vho V k))), .int (nI (brn T V k))], (pt S 27 k (nI (brn T V k))))) rfl ?_
      refine x_top (v' := nI (3 * (vho V k))) (pk_mul _ _) ?_
      refine x_icmpN_le 76 rfl rfl (by omega) (by omega) (fun h64 => ?_) (fun h64 => ?_)
      · refine run_ok 4 (c' := (82, [(0, .ref 23), (1, .int (nI k)), (2, .int (nI w)), (3, .int (nI (vh V (8 * vnm V k + tbu T k))))], [.int (nI k), .ref 29, .int (nI k), .ref 29], (pt S 27 k (nI (brn T V k))))) rfl ?_
        refine x_iaN (nI (ls k)) rfl rfl (by decide) (by omega) (h29 k (by omega)) ?_
        refine run_ok 2 (c' := (85, [(0, .ref 23), (1, .int (nI k)), (2, .int (nI w)), (3, .int (nI (vh V (8 * vnm V k + tbu T k))))], [.int ((nI (ls k)) + (nI 1)), .int (nI k), .ref 29], (pt S 27 k (nI (brn T V k))))) rfl ?_
        refine x_top (v' := nI ((ls k) + 1)) (nI_add _ _) ?_
        refine x_isN rfl rfl (by decide) (by omega) ?_
        refine x_ret (r := none) rfl rfl trivial ?_ rfl
        have hb := bea_n (T := T) (w := w) (V := V) (k := k) (by omega)
        refine ⟨rfl, ?_, (fr.rf.pt (by decide)).pt (by decide), rfl⟩
        rw [hb, if_pos (by exact h1)]
        exact ⟨h24, h25, h26, h27.put, h28, (h29.put : rh (pt S 29 k (nI (ls k + 1))) 29 (tnb T) _), hsr, g9, g10, g11, htl⟩
      · refine run_ok 3 (c' := (70, [(0, .ref 23), (1, .int (nI k)), (2, .int (nI w)), (3, .int (nI (vh V (8 * vnm V k + tbu T k))))], [.int (nI w), .int (nI k), .ref 23], (pt S 27 k (nI (brn T V k))))) rfl ?_
        have hb := bea_s (T := T) (w := w) (V := V) (k := k) (Or.inl (by omega))
        refine x_callV [.int (nI k), .int (nI w)] rfl cv_V_sink.1 lk_5_125 cv_V_sink.2.1 cv_V_sink.2.2.1 rfl cv_V_sink.2.2.2.1 rfl rfl (Nat.le_of_ble_eq_true rfl) (by decide) cv_V_sink.2.2.2.2 (c_sink14 (pt S 27 k (nI (brn T V k))) T (bre T V k) ls k w hto ⟨h24, h25, h26, h27.put, h28, h29, hsr, g9, g10, g11, htl⟩ hh9 hfw hk h1 q1.2 hw) ?_
        rintro r u ⟨hr, hCu, hfu, h2u⟩
        rw [hr]
        clear hr r
        refine run_ok 1 (c' := (86, [(0, .ref 23), (1, .int (nI k)), (2, .int (nI w)), (3, .int (nI (vh V (8 * vnm V k + tbu T k))))], [], u)) rfl ?_
        refine x_ret (r := none) rfl rfl trivial ?_ rfl
        refine ⟨rfl, ?_, (fr.rf.pt (by decide)).tr hfu, h2u⟩
        rw [hb, if_neg (by show ¬ upn (vis V) k 2 k = 1; rw [upn_s]; decide)]
        exact hCu
  · refine run_ok 2 (c' := (34, [(0, .ref 23), (1, .int (nI k)), (2, .int (nI w)), (3, .int (nI (vh V (8 * vnm V k + tbu T k))))], [.int (nI 2), .int (nI (vh V (8 * vnm V k + tbu T k))), .int (nI (vgr V k)), .int (nI k), .ref 27], S)) rfl ?_
    refine x_idiv rfl (by decide) ?_
    refine x_top (v' := nI ((vh V (8 * vnm V k + tbu T k)) / 2)) (pk_div (by omega) (by omega) (by omega)) ?_
    refine run_ok 2 (c' := (40, [(0, .ref 23), (1, .int (nI k)), (2, .int (nI w)), (3, .int (nI (vh V (8 * vnm V k + tbu T k))))], [.int ((nI (vgr V k)) + (nI ((vh V (8 * vnm V k + tbu T k)) / 2))), .int (nI k), .ref 27], S)) rfl ?_
    refine x_top (v' := nI ((vgr V k) + ((vh V (8 * vnm V k + tbu T k)) / 2))) (nI_add _ _) ?_
    refine x_top (v' := nI (brn T V k)) (by unfold brn; rw [if_pos h29x]) ?_
    refine x_isN rfl rfl (by decide) (by omega) ?_
    refine run_ok 3 (c' := (46, [(0, .ref 23), (1, .int (nI k)), (2, .int (nI w)), (3, .int (nI (vh V (8 * vnm V k + tbu T k))))], [.int (nI k), .ref 28], (pt S 27 k (nI (brn T V k))))) rfl ?_
    refine x_iaN (nI (vho V k)) rfl rfl (by decide) (by omega) (h28 k (by omega)) ?_
    refine x_ifN_eq 67 rfl rfl (by omega) (fun h47 => ?_) (fun h47 => ?_)
    · refine run_ok 3 (c' := (70, [(0, .ref 23), (1, .int (nI k)), (2, .int (nI w)), (3, .int (nI (vh V (8 * vnm V k + tbu T k))))], [.int (nI w), .int (nI k), .ref 23], (pt S 27 k (nI (brn T V k))))) rfl ?_
      have hb := bea_s (T := T) (w := w) (V := V) (k := k) (Or.inr h47)
      refine x_callV [.int (nI k), .int (nI w)] rfl cv_V_sink.1 lk_5_125 cv_V_sink.2.1 cv_V_sink.2.2.1 rfl cv_V_sink.2.2.2.1 rfl rfl (Nat.le_of_ble_eq_true rfl) (by decide) cv_V_sink.2.2.2.2 (c_sink14 (pt S 27 k (nI (brn T V k))) T (bre T V k) ls k w hto ⟨h24, h25, h26, h27.put, h28, h29, hsr, g9, g10, g11, htl⟩ hh9 hfw hk h1 q1.2 hw) ?_
      rintro r u ⟨hr, hCu, hfu, h2u⟩
      rw [hr]
      clear hr r
      refine run_ok 1 (c' := (86, [(0, .ref 23), (1, .int (nI k)), (2, .int (nI w)), (3, .int (nI (vh V (8 * vnm V k + tbu T k))))], [], u)) rfl ?_
      refine x_ret (r := none) rfl rfl trivial ?_ rfl
      refine ⟨rfl, ?_, (fr.rf.pt (by decide)).tr hfu, h2u⟩
      rw [hb, if_neg (by show ¬ upn (vis V) k 2 k = 1; rw [upn_s]; decide)]
      exact hCu
    · refine run_ok 3 (c' := (55, [(0, .ref 23), (1, .int (nI k)), (2, .int (nI w)), (3, .int (nI (vh V (8 * vnm V k + tbu T k))))], [.int (nI k), .ref 27], (pt S 27 k (nI (brn T V k))))) rfl ?_
      refine x_iaN (nI (brn T V k)) rfl rfl (by decide) (by omega) (upd_s _ _ _) ?_
      refine run_ok 4 (c' := (62, [(0, .ref 23), (1, .int (nI k)), (2, .int (nI w)), (3, .int (nI (vh V (8 * vnm V k + tbu T k))))], [.int (nI k), .ref 28, .int (nI 3), .int (nI (brn T V k))], (pt S 27 k (nI (brn T V k))))) rfl ?_
      refine x_iaN (nI (vho V k)) rfl rfl (by decide) (by omega) (h28 k (by omega)) ?_
      refine run_ok 1 (c' := (64, [(0, .ref 23), (1, .int (nI k)), (2, .int (nI w)), (3, .int (nI (vh V (8 * vnm V k + tbu T k))))], [.int ((nI 3) * (nI (vho V k))), .int (nI (brn T V k))], (pt S 27 k (nI (brn T V k))))) rfl ?_
      refine x_top (v' := nI (3 * (vho V k))) (pk_mul _ _) ?_
      refine x_icmpN_le 76 rfl rfl (by omega) (by omega) (fun h64 => ?_) (fun h64 => ?_)
      · refine run_ok 4 (c' := (82, [(0, .ref 23), (1, .int (nI k)), (2, .int (nI w)), (3, .int (nI (vh V (8 * vnm V k + tbu T k))))], [.int (nI k), .ref 29, .int (nI k), .ref 29], (pt S 27 k (nI (brn T V k))))) rfl ?_
        refine x_iaN (nI (ls k)) rfl rfl (by decide) (by omega) (h29 k (by omega)) ?_
        refine run_ok 2 (c' := (85, [(0, .ref 23), (1, .int (nI k)), (2, .int (nI w)), (3, .int (nI (vh V (8 * vnm V k + tbu T k))))], [.int ((nI (ls k)) + (nI 1)), .int (nI k), .ref 29], (pt S 27 k (nI (brn T V k))))) rfl ?_
        refine x_top (v' := nI ((ls k) + 1)) (nI_add _ _) ?_
        refine x_isN rfl rfl (by decide) (by omega) ?_
        refine x_ret (r := none) rfl rfl trivial ?_ rfl
        have hb := bea_n (T := T) (w := w) (V := V) (k := k) (by omega)
        refine ⟨rfl, ?_, (fr.rf.pt (by decide)).pt (by decide), rfl⟩
        rw [hb, if_pos (by exact h1)]
        exact ⟨h24, h25, h26, h27.put, h28, (h29.put : rh (pt S 29 k (nI (ls k + 1))) 29 (tnb T) _), hsr, g9, g10, g11, htl⟩
      · refine run_ok 3 (c' := (70, [(0, .ref 23), (1, .int (nI k)), (2, .int (nI w)), (3, .int (nI (vh V (8 * vnm V k + tbu T k))))], [.int (nI w), .int (nI k), .ref 23], (pt S 27 k (nI (brn T V k))))) rfl ?_
        have hb := bea_s (T := T) (w := w) (V := V) (k := k) (Or.inl (by omega))
        refine x_callV [.int (nI k), .int (nI w)] rfl cv_V_sink.1 lk_5_125 cv_V_sink.2.1 cv_V_sink.2.2.1 rfl cv_V_sink.2.2.2.1 rfl rfl (Nat.le_of_ble_eq_true rfl) (by decide) cv_V_sink.2.2.2.2 (c_sink14 (pt S 27 k (nI (brn T V k))) T (bre T V k) ls k w hto ⟨h24, h25, h26, h27.put, h28, h29, hsr, g9, g10, g11, htl⟩ hh9 hfw hk h1 q1.2 hw) ?_
        rintro r u ⟨hr, hCu, hfu, h2u⟩
        rw [hr]
        clear hr r
        refine run_ok 1 (c' := (86, [(0, .ref 23), (1, .int (nI k)), (2, .int (nI w)), (3, .int (nI (vh V (8 * vnm V k + tbu T k))))], [], u)) rfl ?_
        refine x_ret (r := none) rfl rfl trivial ?_ rfl
        refine ⟨rfl, ?_, (fr.rf.pt (by decide)).tr hfu, h2u⟩
        rw [hb, if_neg (by show ¬ upn (vis V) k 2 k = 1; rw [upn_s]; decide)]
        exact hCu
end
section
/-! what stays true over a week -/
theorem upn_le {f : Nat → Nat} {k v n : Nat} (hf : ∀ j, j < n → f j ≤ 9) (hv : v ≤ 9) : ∀ j, j < n → upn f k v j ≤ 9 := by
  intro j hj
  unfold upn
  split
  · exact hv
  · exact hf j hj
theorem vk_stm {T : TD} {V : VS} (h : vk T V) : vk T (stm T V) := by
  obtain ⟨h1, h2, h3, h4⟩ := h
  refine ⟨h1, h2, fun k hk => ⟨?_, (h3 k hk).2⟩, h4⟩
  show (if k < tnb T ∧ vis V k = 1 then _ else vho V k) ≤ 9
  have := (h3 k hk).1
  split <;> omega
theorem vk_shr {T : TD} {V : VS} {k : Nat} (h : vk T V) (hk : k < 8) (h1 : vis V k = 1) (hto : tok T) : vk T (shr T V k) := by
  obtain ⟨a1, a2, a3, a4⟩ := h
  have q := (a2 k hk).2.2 h1
  have qb := (hto.2.2.1 k q.1).2.1
  refine ⟨upn_le a1 (by have := a1 (8 * vnm V k + tbu T k) (by omega); omega), a2, fun j hj => ?_, a4⟩
  have q3 := a3 j hj
  refine ⟨q3.1, ?_, fun hv => ?_⟩
  · show upn (vgr V) k 0 j ≤ 36
    unfold upn; split <;> omega
  · show upn (vgr V) k 0 j ≤ 27
    have := q3.2.2 hv
    unfold upn; split <;> omega
theorem vk_mku {T : TD} {V : VS} {k : Nat} (h : vk T V) : vk T (mku T V k) := by
  obtain ⟨a1, a2, a3, a4⟩ := h
  exact ⟨upn_le (upn_le a1 (by omega)) (by omega), a2, a3, a4⟩
theorem vk_evt {T : TD} {V : VS} {e : Nat} (h : vk T V) (hto : tok T) (he : e < tne T) : vk T (evt T V e) ∧ vis (evt T V e) = vis V ∧ vnm (evt T V e) = vnm V := by
  have q := (hto.2.2.2.1 e he).2.2
  unfold evt
  split
  · exact ⟨vk_stm h, rfl, rfl⟩
  · split
    · rename_i h1
      split
      · exact ⟨vk_shr h q h1 hto, rfl, rfl⟩
      · exact ⟨vk_mku h, rfl, rfl⟩
    · exact ⟨h, rfl, rfl⟩
theorem vk_evs {T : TD} {V : VS} {w : Nat} (h : vk T V) (hto : tok T) : ∀ e, e ≤ tne T → vk T (evs T w e V) ∧ vis (evs T w e V) = vis V ∧ vnm (evs T w e V) = vnm V := by
  intro e
  induction e with
  | zero => intro _; exact ⟨h, rfl, rfl⟩
  | succ e ih =>
    intro he
    obtain ⟨i1, i2, i3⟩ := ih (by omega)
    unfold evs
    split
    · obtain ⟨j1, j2, j3⟩ := vk_evt i1 hto (show e < tne T by omega)
      exact ⟨j1, j2.trans i2, j3.trans i3⟩
    · exact ⟨i1, i2, i3⟩
theorem vk_lau {T : TD} {V : VS} {k : Nat} (h : vk T V) (hto : tok T) (hk : k < tnb T) (h0 : vis V k = 0) : vk T (lau T V k) := by
  obtain ⟨a1, a2, a3, a4⟩ := h
  have n8 := hto.1
  have qb := (hto.2.2.1 k hk).2.1
  have hw := (wst_le (vh V) (tbu T k) a1 qb 8 (by omega)).1
  refine ⟨a1, fun j hj => ?_, fun j hj => ?_, a4⟩
  · have q := a2 j hj
    show upn (vis V) k _ j ≤ 3 ∧ upn (vnm V) k _ j ≤ 8 ∧ (upn (vis V) k _ j = 1 → j < tnb T ∧ upn (vnm V) k _ j < 8)
    by_cases e : j = k
    · subst e
      rw [upn_s, upn_s]
      by_cases e8 : (wst (vh V) (tbu T j) 8).1 = 8
      · rw [if_pos e8]; exact ⟨by omega, hw, fun z => by cases z⟩
      · rw [if_neg e8]; exact ⟨by omega, hw, fun _ => ⟨hk, by omega⟩⟩
    · rw [upn_n e, upn_n e]; exact q
  · have q := a3 j hj
    refine ⟨q.1, q.2.1, fun hv => q.2.2 ?_⟩
    have hv' : upn (vis V) k (if (wst (vh V) (tbu T k) 8).1 = 8 then 3 else 1) j ≤ 1 := hv
    by_cases e : j = k
    · rw [e, h0]; omega
    · rw [upn_n e] at hv'; exact hv'
theorem vk_bea {T : TD} {V : VS} {k w : Nat} (h : vk T V) (hto : tok T) (hk : k < tnb T) (h1 : vis V k = 1) (hw : w < 24) : vk T (bea T w V k) := by
  obtain ⟨a1, a2, a3, a4, a5⟩ := h
  have n8 := hto.1
  have qb := (hto.2.2.1 k hk).2.1
  have q1 := (a2 k (by omega)).2.2 h1
  have q3 := a1 (8 * vnm V k + tbu T k) (by omega)
  have q4 := a1 (8 * tbu T k + vnm V k) (by omega)
  have q5 := (a3 k hk).2.2 (by omega)
  have q6 := brn_le (T := T) (V := V) (k := k) q5 q3
  have q7 := (a3 k hk).1
  by_cases hs : 3 * vho V k < brn T V k ∨ vho V k = 0
  · rw [bea_s hs]
    refine ⟨upn_le a1 (by show (if vh V (8 * tbu T k + vnm V k) < 9 then vh V (8 * tbu T k + vnm V k) + 1 else vh V (8 * tbu T k + vnm V k)) ≤ 9; split <;> omega), fun j hj => ?_, fun j hj => ?_, ?_, ?_⟩
    · have q := a2 j hj
      show upn (vis V) k 2 j ≤ 3 ∧ vnm V j ≤ 8 ∧ (upn (vis V) k 2 j = 1 → j < tnb T ∧ vnm V j < 8)
      by_cases e : j = k
      · subst e; rw [upn_s]; exact ⟨by omega, q.2.1, fun z => by cases z⟩
      · rw [upn_n e]; exact q
    · have q := a3 j hj
      show vho V j ≤ 9 ∧ upn (vgr V) k (brn T V k) j ≤ 36 ∧ (upn (vis V) k 2 j ≤ 1 → upn (vgr V) k (brn T V k) j ≤ 27)
      by_cases e : j = k
      · subst e; rw [upn_s, upn_s]; exact ⟨q.1, q6, fun z => by omega⟩
      · rw [upn_n e, upn_n e]; exact q
    · show (if vfw V = 24 then w else vfw V) ≤ 24
      split <;> omega
    · show (if vfw V = 24 then k else vfb V) ≤ 8
      split <;> omega
  · rw [bea_n hs]
    refine ⟨a1, a2, fun j hj => ?_, a4, a5⟩
    have q := a3 j hj
    show vho V j ≤ 9 ∧ upn (vgr V) k (brn T V k) j ≤ 36 ∧ (vis V j ≤ 1 → upn (vgr V) k (brn T V k) j ≤ 27)
    by_cases e : j = k
    · subst e; rw [upn_s]; exact ⟨q.1, q6, fun z => by omega⟩
    · rw [upn_n e]; exact q
/-- who isn't launched yet by week w -/
def ul (T : TD) (w : Nat) (V : VS) : Prop := ∀ k, k < tnb T → w ≤ tla T k → vis V k = 0 ∧ vnm V k = 8
theorem vk_lnc {T : TD} {V : VS} {w : Nat} (h : vk T V) (hto : tok T) (hu : ul T w V) : ∀ k, k ≤ tnb T → vk T (lnc T w V k) ∧ (∀ j, k ≤ j → vis (lnc T w V k) j = vis V j ∧ vnm (lnc T w V k) j = vnm V j) ∧ (∀ j, j < k → tla T j ≠ w → vis (lnc T w V k) j = vis V j ∧ vnm (lnc T w V k) j = vnm V j) := by
  intro k
  induction k with
  | zero => intro _; exact ⟨h, fun _ _ => ⟨rfl, rfl⟩, fun j hj => by omega⟩
  | succ k ih =>
    intro hk
    obtain ⟨i1, i2, i3⟩ := ih (by omega)
    unfold lnc
    split
    · rename_i hl
      have e0 := i2 k (Nat.le_refl _)
      have e1 := hu k (by omega) (by omega)
      refine ⟨vk_lau i1 hto (by omega) (e0.1.trans e1.1), fun j hj => ?_, fun j hj hne => ?_⟩
      · have hjk : j ≠ k := by omega
        have := i2 j (by omega)
        exact ⟨(upn_n hjk).trans this.1, (upn_n hjk).trans this.2⟩
      · have hjk : j ≠ k := fun e => hne (by rw [e]; exact hl)
        have := i3 j (by omega) hne
        exact ⟨(upn_n hjk).trans this.1, (upn_n hjk).trans this.2⟩
    · rename_i hl
      refine ⟨i1, fun j hj => i2 j (by omega), fun j hj hne => ?_⟩
      by_cases e : j = k
      · rw [e]; exact i2 k (Nat.le_refl _)
      · exact i3 j (by omega) hne
theorem bea_o {T : TD} {V : VS} {k w j : Nat} (hj : j ≠ k) : vis (bea T w V k) j = vis V j ∧ vnm (bea T w V k) j = vnm V j := by
  by_cases hs : 3 * vho V k < brn T V k ∨ vho V k = 0
  · rw [bea_s hs]; exact ⟨upn_n hj, rfl⟩
  · rw [bea_n hs]; exact ⟨rfl, rfl⟩
theorem bea_m {T : TD} {V : VS} {k w : Nat} : vnm (bea T w V k) = vnm V := by
  by_cases hs : 3 * vho V k < brn T V k ∨ vho V k = 0
  · rw [bea_s hs]; rfl
  · rw [bea_n hs]; rfl
theorem vk_sls {T : TD} {V : VS} {w : Nat} (h : vk T V) (hto : tok T) (hw : w < 24) : ∀ k, k ≤ tnb T → vk T (sls T w V k) ∧ (∀ j, k ≤ j → vis (sls T w V k) j = vis V j) ∧ (∀ j, vis V j = 0 → vis (sls T w V k) j = 0) ∧ vnm (sls T w V k) = vnm V := by
  intro k
  induction k with
  | zero => intro _; exact ⟨h, fun _ _ => rfl, fun _ z => z, rfl⟩
  | succ k ih =>
    intro hk
    obtain ⟨i1, i2, i3, i4⟩ := ih (by omega)
    unfold sls
    split
    · rename_i h1
      refine ⟨vk_bea i1 hto (by omega) h1 hw, fun j hj => ?_, fun j hj => ?_, bea_m.trans i4⟩
      · rw [(bea_o (show j ≠ k by omega)).1]; exact i2 j (by omega)
      · have hjk : j ≠ k := fun e => by rw [e] at hj; have := i3 k hj; omega
        rw [(bea_o hjk).1]; exact i3 j hj
    · exact ⟨i1, fun j hj => i2 j (by omega), i3, i4⟩
theorem vk_wkf {T : TD} {V : VS} {w : Nat} (h : vk T V) (hto : tok T) (hw : w < 24) (hu : ul T w V) : vk T (wkf T w V) ∧ ul T (w + 1) (wkf T w V) := by
  obtain ⟨e1, e2, e3⟩ := vk_evs (w := w) h hto (tne T) (Nat.le_refl _)
  have hu1 : ul T w (evs T w (tne T) V) := fun k hk hl => by rw [e2, e3]; exact hu k hk hl
  obtain ⟨l1, l2, l3⟩ := vk_lnc e1 hto hu1 (tnb T) (Nat.le_refl _)
  obtain ⟨s1, s2, s3, s4⟩ := vk_sls l1 hto hw (tnb T) (Nat.le_refl _)
  refine ⟨s1, fun k hk hl => ?_⟩
  have q := l3 k hk (by omega)
  have q2 := hu1 k hk (by omega)
  refine ⟨s3 k (q.1.trans q2.1), ?_⟩
  show vnm (sls T w _ (tnb T)) k = 8
  rw [s4]
  exact q.2.trans q2.2
theorem vk_vz {T : TD} (hto : tok T) : vk T (vz T) ∧ ul T 0 (vz T) := by
  refine ⟨⟨hto.2.2.2.2.1, fun k _ => ⟨Nat.zero_le 3, Nat.le_refl 8, fun z => by cases z⟩, fun k hk => ⟨(hto.2.2.1 k hk).2.2.2, Nat.zero_le 36, fun _ => Nat.zero_le 27⟩, Nat.le_refl 24, Nat.le_refl 8⟩, fun k _ _ => ⟨rfl, rfl⟩⟩
theorem vk_vo {T : TD} (hto : tok T) : ∀ w, w ≤ 24 → vk T (vo T w) ∧ ul T w (vo T w) := by
  intro w
  induction w with
  | zero => intro _; exact vk_vz hto
  | succ w ih => intro hw; have q := ih (by omega); exact vk_wkf q.1 hto (by omega) q.2
/-- weeks at sea, boat by boat -/
def lsk (T : TD) (w : Nat) (V : VS) (ls : Nat → Nat) : Nat → Nat → Nat
  | 0 => ls
  | k + 1 => if vis (sls T w V (k + 1)) k = 1 then upn (lsk T w V ls k) k (lsk T w V ls k k + 1) else lsk T w V ls k
/-- behind how many weeks a boat was at sea -/
def lsn (T : TD) : Nat → Nat → Nat
  | 0, _ => 0
  | w + 1, k => lsn T w k + (if vis (vo T (w + 1)) k = 1 then 1 else 0)
theorem sls_keep {T : TD} {V : VS} {w : Nat} : ∀ n k j, j < k → k ≤ n → vis (sls T w V n) j = vis (sls T w V k) j := by
  intro n
  induction n with
  | zero => intro k j hj hk; omega
  | succ n ih =>
    intro k j hj hk
    by_cases e : k = n + 1
    · rw [e]
    · rw [← ih k j hj (by omega)]
      show vis (if vis (sls T w V n) n = 1 then bea T w (sls T w V n) n else sls T w V n) j = _
      split
      · exact (bea_o (by omega)).1
      · rfl
theorem lsk_at {T : TD} {V : VS} {w : Nat} {ls : Nat → Nat} : ∀ k j, lsk T w V ls k j = ls j + (if j < k ∧ vis (sls T w V k) j = 1 then 1 else 0) := by
  intro k
  induction k with
  | zero => intro j; rw [if_neg (by omega)]; rfl
  | succ k ih =>
    intro j
    have hk : ∀ i, i < k → vis (sls T w V (k + 1)) i = vis (sls T w V k) i := fun i hi => sls_keep (k + 1) k i hi (by omega)
    have h0 : lsk T w V ls (k + 1) j = if vis (sls T w V (k + 1)) k = 1 then upn (lsk T w V ls k) k (lsk T w V ls k k + 1) j else lsk T w V ls k j := by
      show (if vis (sls T w V (k + 1)) k = 1 then upn (lsk T w V ls k) k (lsk T w V ls k k + 1) else lsk T w V ls k) j = _
      split <;> rfl
    rw [h0]
    by_cases e : j = k
    · subst e
      rw [upn_s, ih j, if_neg (show ¬ (j < j ∧ _) by omega)]
      by_cases h1 : vis (sls T w V (j + 1)) j = 1
      · rw [if_pos h1, if_pos ⟨by omega, h1⟩]
      · rw [if_neg h1, if_neg (by omega)]
    · rw [upn_n e, ite_self, ih j]
      congr 1
      by_cases hj : j < k
      · rw [hk j hj]
        have : (j < k ∧ vis (sls T w V k) j = 1) ↔ (j < k + 1 ∧ vis (sls T w V k) j = 1) := by omega
        simp only [this]
      · rw [if_neg (by omega), if_neg (by omega)]
/-- where no boat is left, a week changes nothing -/
theorem wkf_stop {T : TD} {V : VS} {w : Nat} (hV : vk T V) (hto : tok T) (hu : ul T w V) (h0 : lft T V = 0) : wkf T w V = V := by
  have hn : ∀ k, k < tnb T → ¬ vis V k ≤ 1 := fun k hk => by simpa using cnt_0 h0 k hk
  have hn8 : ∀ k, k < 8 → vis V k ≠ 1 := fun k hk z => hn k ((hV.2.1 k hk).2.2 z).1 (by omega)
  have e1 : ∀ e, e ≤ tne T → evs T w e V = V := by
    intro e
    induction e with
    | zero => intro _; rfl
    | succ e ih =>
      intro he
      unfold evs
      rw [ih (by omega)]
      split
      · unfold evt
        split
        · unfold stm
          have : (fun k => if k < tnb T ∧ vis V k = 1 then vho V k - (if tso T k = 2 then 2 else 1) else vho V k) = vho V := by
            funext k
            exact if_neg (fun z => hn k z.1 (by omega))
          rw [this]
        · rw [if_neg (hn8 _ (hto.2.2.2.1 e (by omega)).2.2)]
      · rfl
  have e2 : ∀ k, k ≤ tnb T → lnc T w V k = V := by
    intro k
    induction k with
    | zero => intro _; rfl
    | succ k ih =>
      intro hk
      unfold lnc
      rw [ih (by omega), if_neg (fun z => hn k (by omega) (by have := (hu k (by omega) (by omega)).1; omega))]
  have e3 : ∀ k, k ≤ tnb T → sls T w V k = V := by
    intro k
    induction k with
    | zero => intro _; rfl
    | succ k ih =>
      intro hk
      unfold sls
      rw [ih (by omega), if_neg (fun z => hn k (by omega) (by omega))]
  unfold wkf
  rw [e1 _ (Nat.le_refl _), e2 _ (Nat.le_refl _), e3 _ (Nat.le_refl _)]
theorem vo_stop {T : TD} (hto : tok T) {w : Nat} (h0 : lft T (vo T w) = 0) : ∀ n, w + n ≤ 24 → vo T (w + n) = vo T w ∧ ∀ k, k < tnb T → lsn T (w + n) k = lsn T w k := by
  intro n
  induction n with
  | zero => intro _; exact ⟨rfl, fun _ _ => rfl⟩
  | succ n ih =>
    intro hn
    obtain ⟨i1, i2⟩ := ih (by omega)
    have q := vk_vo hto (w + n) (by omega)
    have e : vo T (w + (n + 1)) = vo T w := by
      show wkf T (w + n) (vo T (w + n)) = _
      rw [wkf_stop q.1 hto q.2 (by rw [i1]; exact h0), i1]
    refine ⟨e, fun k hk => ?_⟩
    show lsn T (w + n) k + (if vis (vo T (w + (n + 1))) k = 1 then 1 else 0) = _
    have hv : ¬ vis (vo T w) k ≤ 1 := by simpa using cnt_0 h0 k hk
    rw [e, if_neg (by omega), i2 k hk]
    rfl
theorem cnt_all {p : Nat → Bool} : ∀ {n : Nat}, (∀ k, k < n → p k = true) → cnt p n = n := by
  intro n
  induction n with
  | zero => intro _; rfl
  | succ n ih =>
    intro h
    unfold cnt
    rw [ih (fun k hk => h k (by omega)), h n (by omega)]
    rfl
end
section
/-! the voyage of the class: fill, begin, a week, a run -/
set_option maxHeartbeats 1000000 in
theorem c_filli (S : ST) (k n : Nat) (fl : List (Option Nat)) (v : Int32) (hk : shp[k]? = some (0, n, fl)) (hn : n < 2147483648) : EX me_J_filli 0 [.ref k, .int v] S (fun r u => r = none ∧ (∀ j, j < n → u.1 k j = v) ∧ fr [k] S u ∧ u.2 = S.2) := by
  refine EX.of mok_J_filli (Nat.le_of_ble_eq_true rfl) ?_
  have H : ∀ i, i ≤ n → ∀ u : ST, (∀ j, j < i → u.1 k j = v) → fr [k] S u → u.2 = S.2 → BX me_J_filli 0 none (fun r u => r = none ∧ (∀ j, j < n → u.1 k j = v) ∧ fr [k] S u ∧ u.2 = S.2) (5, [(0, .ref k), (1, .int v), (2, .int (nI i)), (3, .int (nI n))], [], u) := by
    refine loop_up (P := fun i => ∀ u : ST, (∀ j, j < i → u.1 k j = v) → fr [k] S u → u.2 = S.2 → BX me_J_filli 0 none (fun r u => r = none ∧ (∀ j, j < n → u.1 k j = v) ∧ fr [k] S u ∧ u.2 = S.2) (5, [(0, .ref k), (1, .int v), (2, .int (nI i)), (3, .int (nI n))], [], u)) n ?_ ?_
    · intro u h1 hf h2
      refine run_ok 2 (c' := (7, [(0, .ref k), (1, .int v), (2, .int (nI n)), (3, .int (nI n))], [.int (nI n), .int (nI n)], u)) rfl ?_
      refine x_icmpN_ge 20 rfl rfl (by omega) (by omega) (fun _ => ?_) (fun hn => absurd (Nat.le_refl _) hn)
      exact x_ret (r := none) rfl rfl trivial ⟨rfl, h1, hf, h2⟩ rfl
    · intro i hi ih u h1 hf h2
      refine run_ok 2 (c' := (7, [(0, .ref k), (1, .int v), (2, .int (nI i)), (3, .int (nI n))], [.int (nI n), .int (nI i)], u)) rfl ?_
      refine x_icmpN_ge 20 rfl rfl (by omega) (by omega) (fun hn => absurd hn (by omega)) (fun _ => ?_)
      refine run_ok 3 (c' := (13, [(0, .ref k), (1, .int v), (2, .int (nI i)), (3, .int (nI n))], [.int v, .int (nI i), .ref k], u)) rfl ?_
      refine x_isN rfl hk hn hi ?_
      refine run_ok 1 (c' := (17, [(0, .ref k), (1, .int v), (2, .int (nI i + nI 1)), (3, .int (nI n))], [], pt u k i v)) rfl ?_
      rw [nI_add i 1]
      refine run_ok 1 (c' := (5, [(0, .ref k), (1, .int v), (2, .int (nI (i + 1))), (3, .int (nI n))], [], pt u k i v)) rfl ?_
      refine ih _ (fun j hj => ?_) (hf.pt List.mem_cons_self) h2
      rw [pt_at]
      unfold upd
      split
      · rfl
      · exact h1 j (by omega)
  refine run_ok 3 (c' := (3, [(0, .ref k), (1, .int v), (2, .int (nI 0))], [.ref k], S)) rfl ?_
  refine x_alen0 rfl hk ?_
  refine run_ok 1 (c' := (5, [(0, .ref k), (1, .int v), (2, .int (nI 0)), (3, .int (nI n))], [], S)) rfl ?_
  exact H 0 (Nat.zero_le _) S (fun j hj => absurd hj (Nat.not_lt_zero _)) fr.rf rfl
theorem CR_stm {t : Nat} {T : TD} {V : VS} {ls : Nat → Nat} {u v : ST} (hC : CR t T V ls u) (h28 : rh v 28 (tnb T) (vho (stm T V))) (hf : fr [28] u v) (h2 : v.2 = u.2) : CR t T (stm T V) ls v := by
  obtain ⟨g24, g25, g26, g27, g28, g29, gsr, g9, g10, g11, gtl⟩ := hC
  have e := fun (k : Nat) (hk : k ∉ [28]) => hf k hk
  refine ⟨g24.keep hf (by decide), g25.keep hf (by decide), fun k hk => by rw [e 26 (by decide)]; exact g26 k hk, g27.keep hf (by decide), h28, g29.keep hf (by decide), fun k hk h1 => by rw [e 30 (by decide), e 31 (by decide)]; exact gsr k hk h1, by rw [e 23 (by decide)]; exact g9, by rw [e 23 (by decide)]; exact g10, by rw [e 23 (by decide)]; exact g11, by rw [h2]; exact gtl⟩
set_option maxHeartbeats 2000000 in
theorem c_begin5 (S : ST) (T : TD) (hT : TR 5 T S) (hto : tok T) : EX me_V_begin 1 [.ref 23, .ref 5] S (fun r u => r = none ∧ CR 5 T (vz T) (fun _ => 0) u ∧ fr VL S u ∧ u.2.1 = S.2.1) := by
  refine EX.of mok_V_begin (Nat.le_of_ble_eq_true rfl) ?_
  obtain ⟨n8, n9, hbt, het, hht, hlo⟩ := id hto
  obtain ⟨t1, t2, t3, t4, t5, t6, t7, t8, t9, t10, t11⟩ := id hT
  refine run_ok 10 (c' := (17, [(0, .ref 23), (1, .ref 5)], [.int (nI 64), .int (nI 0), .ref 24, .int (nI 0), .ref 6], (ptt S 5))) rfl ?_
  refine x_copyN rfl lk_5_61 rfl rfl (by decide) (by decide) (by omega) (by omega) (Nat.le_of_ble_eq_true rfl) (by decide) ?_
  refine run_ok 7 (c' := (32, [(0, .ref 23), (1, .ref 5)], [.int (nI 8), .int (nI 0), .ref 28, .int (nI 0), .ref 10], (rwr (ptt S 5) 24 (va_cpy (S.1 6) (S.1 24) 0 0 64)))) rfl ?_
  refine x_copyN rfl lk_5_61 rfl rfl (by decide) (by decide) (by omega) (by omega) (Nat.le_of_ble_eq_true rfl) (by decide) ?_
  refine run_ok 3 (c' := (40, [(0, .ref 23), (1, .ref 5)], [.int (nI 0), .ref 25], (rwr (rwr (ptt S 5) 24 (va_cpy (S.1 6) (S.1 24) 0 0 64)) 28 (va_cpy (S.1 10) (S.1 28) 0 0 8)))) rfl ?_
  refine x_callS [.ref 25, .int (nI 0)] rfl cs_J_filli.1 lk_5_68 cs_J_filli.2.1 rfl rfl (Nat.le_of_ble_eq_true rfl) (by decide) cs_J_filli.2.2 (c_filli (rwr (rwr (ptt S 5) 24 (va_cpy (S.1 6) (S.1 24) 0 0 64)) 28 (va_cpy (S.1 10) (S.1 28) 0 0 8)) 25 8 [] (nI 0) rfl (by decide)) ?_
  rintro r u1 ⟨hr, a1, f1, b1⟩
  rw [hr]
  clear hr r
  refine run_ok 3 (c' := (48, [(0, .ref 23), (1, .ref 5)], [.int (-1), .ref 26], u1)) rfl ?_
  refine x_callS [.ref 26, .int (-1)] rfl cs_J_filli.1 lk_5_68 cs_J_filli.2.1 rfl rfl (Nat.le_of_ble_eq_true rfl) (by decide) cs_J_filli.2.2 (c_filli u1 26 8 [] ((-1)) rfl (by decide)) ?_
  rintro r u2 ⟨hr, a2, f2, b2'⟩
  rw [hr]
  clear hr r
  refine run_ok 3 (c' := (56, [(0, .ref 23), (1, .ref 5)], [.int (nI 0), .ref 27], u2)) rfl ?_
  refine x_callS [.ref 27, .int (nI 0)] rfl cs_J_filli.1 lk_5_68 cs_J_filli.2.1 rfl rfl (Nat.le_of_ble_eq_true rfl) (by decide) cs_J_filli.2.2 (c_filli u2 27 8 [] (nI 0) rfl (by decide)) ?_
  rintro r u3 ⟨hr, a3, f3, b3⟩
  rw [hr]
  clear hr r
  refine run_ok 3 (c' := (64, [(0, .ref 23), (1, .ref 5)], [.int (nI 0), .ref 29], u3)) rfl ?_
  refine x_callS [.ref 29, .int (nI 0)] rfl cs_J_filli.1 lk_5_68 cs_J_filli.2.1 rfl rfl (Nat.le_of_ble_eq_true rfl) (by decide) cs_J_filli.2.2 (c_filli u3 29 8 [] (nI 0) rfl (by decide)) ?_
  rintro r u4 ⟨hr, a4, f4, b4⟩
  rw [hr]
  clear hr r
  have tb : u4.1 5 6 = nI (tnb T) := by rw [f4 5 (by decide), f3 5 (by decide), f2 5 (by decide), f1 5 (by decide)]; exact t9
  refine run_ok 3 (c' := (72, [(0, .ref 23), (1, .ref 5)], [.int (u4.1 5 6), .ref 23], u4)) rfl ?_
  refine x_top (v' := nI (tnb T)) tb ?_
  refine run_ok 7 (c' := (85, [(0, .ref 23), (1, .ref 5)], [], (pt (pt (pt u4 23 9 (nI (tnb T))) 23 10 (-1)) 23 11 (-1)))) rfl ?_
  refine x_ret (r := none) rfl rfl trivial ?_ rfl
  have hf : fr VL S u4 := by
    refine fr.tr ?_ (f4.sub (by decide))
    refine fr.tr ?_ (f3.sub (by decide))
    refine fr.tr ?_ (f2.sub (by decide))
    refine fr.tr ?_ (f1.sub (by decide))
    exact ((fr.rf.ptt).rwr (by decide)).rwr (by decide)
  have e24 : u4.1 24 = va_cpy (S.1 6) (S.1 24) 0 0 64 := by rw [f4 24 (by decide), f3 24 (by decide), f2 24 (by decide), f1 24 (by decide)]; rfl
  have e28 : u4.1 28 = va_cpy (S.1 10) (S.1 28) 0 0 8 := by rw [f4 28 (by decide), f3 28 (by decide), f2 28 (by decide), f1 28 (by decide)]; rfl
  have e25 : u4.1 25 = u1.1 25 := by rw [f4 25 (by decide), f3 25 (by decide), f2 25 (by decide)]
  have e26 : u4.1 26 = u2.1 26 := by rw [f4 26 (by decide), f3 26 (by decide)]
  have e27 : u4.1 27 = u3.1 27 := by rw [f4 27 (by decide)]
  have el : lft T (vz T) = tnb T := cnt_all (fun k _ => rfl)
  refine ⟨rfl, ⟨?_, ?_, ?_, ?_, ?_, ?_, ?_, ?_, rfl, rfl, ?_⟩, ((hf.pt (by decide)).pt (by decide)).pt (by decide), ?_⟩
  · intro j hj
    show u4.1 24 j = _
    rw [e24, pk_cpy_in (Nat.zero_le _) (by omega)]
    rw [Nat.zero_add, Nat.sub_zero]; exact t1 _ (by omega)
  · intro j hj
    show u4.1 25 j = _
    rw [e25]; exact a1 j hj
  · intro j hj
    show u4.1 26 j = _
    rw [e26]; exact a2 j hj
  · intro j hj
    show u4.1 27 j = _
    rw [e27]; exact a3 j (by omega)
  · intro j hj
    show u4.1 28 j = _
    rw [e28, pk_cpy_in (Nat.zero_le _) (by omega)]
    rw [Nat.zero_add, Nat.sub_zero]; exact t5 _ (by omega)
  · intro j hj
    show u4.1 29 j = _
    exact a4 j (by omega)
  · intro j hj h1
    cases h1
  · show nI (tnb T) = nI (lft T (vz T))
    rw [el]
  · show u4.2.2 = 5
    rw [b4, b3, b2', b1]; rfl
  · show u4.2.1 = S.2.1
    rw [b4, b3, b2', b1]; rfl

set_option maxHeartbeats 2000000 in
theorem c_begin14 (S : ST) (T : TD) (hT : TR 14 T S) (hto : tok T) : EX me_V_begin 1 [.ref 23, .ref 14] S (fun r u => r = none ∧ CR 14 T (vz T) (fun _ => 0) u ∧ fr VL S u ∧ u.2.1 = S.2.1) := by
  refine EX.of mok_V_begin (Nat.le_of_ble_eq_true rfl) ?_
  obtain ⟨n8, n9, hbt, het, hht, hlo⟩ := id hto
  obtain ⟨t1, t2, t3, t4, t5, t6, t7, t8, t9, t10, t11⟩ := id hT
  refine run_ok 10 (c' := (17, [(0, .ref 23), (1, .ref 14)], [.int (nI 64), .int (nI 0), .ref 24, .int (nI 0), .ref 15], (ptt S 14))) rfl ?_
  refine x_copyN rfl lk_5_61 rfl rfl (by decide) (by decide) (by omega) (by omega) (Nat.le_of_ble_eq_true rfl) (by decide) ?_
  refine run_ok 7 (c' := (32, [(0, .ref 23), (1, .ref 14)], [.int (nI 8), .int (nI 0), .ref 28, .int (nI 0), .ref 19], (rwr (ptt S 14) 24 (va_cpy (S.1 15) (S.1 24) 0 0 64)))) rfl ?_
  refine x_copyN rfl lk_5_61 rfl rfl (by decide) (by decide) (by omega) (by omega) (Nat.le_of_ble_eq_true rfl) (by decide) ?_
  refine run_ok 3 (c' := (40, [(0, .ref 23), (1, .ref 14)], [.int (nI 0), .ref 25], (rwr (rwr (ptt S 14) 24 (va_cpy (S.1 15) (S.1 24) 0 0 64)) 28 (va_cpy (S.1 19) (S.1 28) 0 0 8)))) rfl ?_
  refine x_callS [.ref 25, .int (nI 0)] rfl cs_J_filli.1 lk_5_68 cs_J_filli.2.1 rfl rfl (Nat.le_of_ble_eq_true rfl) (by decide) cs_J_filli.2.2 (c_filli (rwr (rwr (ptt S 14) 24 (va_cpy (S.1 15) (S.1 24) 0 0 64)) 28 (va_cpy (S.1 19) (S.1 28) 0 0 8)) 25 8 [] (nI 0) rfl (by decide)) ?_
  rintro r u1 ⟨hr, a1, f1, b1⟩
  rw [hr]
  clear hr r
  refine run_ok 3 (c' := (48, [(0, .ref 23), (1, .ref 14)], [.int (-1), .ref 26], u1)) rfl ?_
  refine x_callS [.ref 26, .int (-1)] rfl cs_J_filli.1 lk_5_68 cs_J_filli.2.1 rfl rfl (Nat.le_of_ble_eq_true rfl) (by decide) cs_J_filli.2.2 (c_filli u1 26 8 [] ((-1)) rfl (by decide)) ?_
  rintro r u2 ⟨hr, a2, f2, b2'⟩
  rw [hr]
  clear hr r
  refine run_ok 3 (c' := (56, [(0, .ref 23), (1, .ref 14)], [.int (nI 0), .ref 27], u2)) rfl ?_
  refine x_callS [.ref 27, .int (nI 0)] rfl cs_J_filli.1 lk_5_68 cs_J_filli.2.1 rfl rfl (Nat.le_of_ble_eq_true rfl) (by decide) cs_J_filli.2.2 (c_filli u2 27 8 [] (nI 0) rfl (by decide)) ?_
  rintro r u3 ⟨hr, a3, f3, b3⟩
  rw [hr]
  clear hr r
  refine run_ok 3 (c' := (64, [(0, .ref 23), (1, .ref 14)], [.int (nI 0), .ref 29], u3)) rfl ?_
  refine x_callS [.ref 29, .int (nI 0)] rfl cs_J_filli.1 lk_5_68 cs_J_filli.2.1 rfl rfl (Nat.le_of_ble_eq_true rfl) (by decide) cs_J_filli.2.2 (c_filli u3 29 8 [] (nI 0) rfl (by decide)) ?_
  rintro r u4 ⟨hr, a4, f4, b4⟩
  rw [hr]
  clear hr r
  have tb : u4.1 14 6 = nI (tnb T) := by rw [f4 14 (by decide), f3 14 (by decide), f2 14 (by decide), f1 14 (by decide)]; exact t9
  refine run_ok 3 (c' := (72, [(0, .ref 23), (1, .ref 14)], [.int (u4.1 14 6), .ref 23], u4)) rfl ?_
  refine x_top (v' := nI (tnb T)) tb ?_
  refine run_ok 7 (c' := (85, [(0, .ref 23), (1, .ref 14)], [], (pt (pt (pt u4 23 9 (nI (tnb T))) 23 10 (-1)) 23 11 (-1)))) rfl ?_
  refine x_ret (r := none) rfl rfl trivial ?_ rfl
  have hf : fr VL S u4 := by
    refine fr.tr ?_ (f4.sub (by decide))
    refine fr.tr ?_ (f3.sub (by decide))
    refine fr.tr ?_ (f2.sub (by decide))
    refine fr.tr ?_ (f1.sub (by decide))
    exact ((fr.rf.ptt).rwr (by decide)).rwr (by decide)
  have e24 : u4.1 24 = va_cpy (S.1 15) (S.1 24) 0 0 64 := by rw [f4 24 (by decide), f3 24 (by decide), f2 24 (by decide), f1 24 (by decide)]; rfl
  have e28 : u4.1 28 = va_cpy (S.1 19) (S.1 28) 0 0 8 := by rw [f4 28 (by decide), f3 28 (by decide), f2 28 (by decide), f1 28 (by decide)]; rfl
  have e25 : u4.1 25 = u1.1 25 := by rw [f4 25 (by decide), f3 25 (by decide), f2 25 (by decide)]
  have e26 : u4.1 26 = u2.1 26 := by rw [f4 26 (by decide), f3 26 (by decide)]
  have e27 : u4.1 27 = u3.1 27 := by rw [f4 27 (by decide)]
  have el : lft T (vz T) = tnb T := cnt_all (fun k _ => rfl)
  refine ⟨rfl, ⟨?_, ?_, ?_, ?_, ?_, ?_, ?_, ?_, rfl, rfl, ?_⟩, ((hf.pt (by decide)).pt (by decide)).pt (by decide), ?_⟩
  · intro j hj
    show u4.1 24 j = _
    rw [e24, pk_cpy_in (Nat.zero_le _) (by omega)]
    rw [Nat.zero_add, Nat.sub_zero]; exact t1 _ (by omega)
  · intro j hj
    show u4.1 25 j = _
    rw [e25]; exact a1 j hj
  · intro j hj
    show u4.1 26 j = _
    rw [e26]; exact a2 j hj
  · intro j hj
    show u4.1 27 j = _
    rw [e27]; exact a3 j (by omega)
  · intro j hj
    show u4.1 28 j = _
    rw [e28, pk_cpy_in (Nat.zero_le _) (by omega)]
    rw [Nat.zero_add, Nat.sub_zero]; exact t5 _ (by omega)
  · intro j hj
    show u4.1 29 j = _
    exact a4 j (by omega)
  · intro j hj h1
    cases h1
  · show nI (tnb T) = nI (lft T (vz T))
    rw [el]
  · show u4.2.2 = 14
    rw [b4, b3, b2', b1]; rfl
  · show u4.2.1 = S.2.1
    rw [b4, b3, b2', b1]; rfl

set_option maxHeartbeats 2000000 in
theorem c_sail5 (S : ST) (T : TD) (V : VS) (ls : Nat → Nat) (w : Nat) (hT : TR 5 T S) (hto : tok T) (hC : CR 5 T V ls S) (hV : vk T V) (hul : ul T w V) (hw : w < 24) : EX me_V_sail 3 [.ref 23, .int (nI w)] S (fun r u => r = none ∧ CR 5 T (wkf T w V) (lsk T w (lnc T w (evs T w (tne T) V) (tnb T)) ls (tnb T)) u ∧ fr VL S u ∧ u.2 = S.2) := by
  refine EX.of mok_V_sail (Nat.le_of_ble_eq_true rfl) ?_
  obtain ⟨n8, n9, hbt, het, hht, hlo⟩ := id hto
  obtain ⟨k1, k2, k3⟩ := vk_evs (w := w) hV hto (tne T) (Nat.le_refl _)
  have hu1 : ul T w (evs T w (tne T) V) := fun k hk hl => by rw [k2, k3]; exact hul k hk hl
  obtain ⟨l1, l2, l3⟩ := vk_lnc k1 hto hu1 (tnb T) (Nat.le_refl _)
  have H3 : ∀ i, i ≤ tnb T → ∀ u : ST, CR 5 T (sls T w (lnc T w (evs T w (tne T) V) (tnb T)) i) (lsk T w (lnc T w (evs T w (tne T) V) (tnb T)) ls i) u → fr VL S u → u.2 = S.2 → BX me_V_sail 3 none (fun r u => r = none ∧ CR 5 T (wkf T w V) (lsk T w (lnc T w (evs T w (tne T) V) (tnb T)) ls (tnb T)) u ∧ fr VL S u ∧ u.2 = S.2) (111, [(0, .ref 23), (1, .int (nI w)), (2, .int (nI i))], [], u) := by
    refine loop_up (P := fun i => ∀ u : ST, CR 5 T (sls T w (lnc T w (evs T w (tne T) V) (tnb T)) i) (lsk T w (lnc T w (evs T w (tne T) V) (tnb T)) ls i) u → fr VL S u → u.2 = S.2 → BX me_V_sail 3 none (fun r u => r = none ∧ CR 5 T (wkf T w V) (lsk T w (lnc T w (evs T w (tne T) V) (tnb T)) ls (tnb T)) u ∧ fr VL S u ∧ u.2 = S.2) (111, [(0, .ref 23), (1, .int (nI w)), (2, .int (nI i))], [], u)) (tnb T) ?_ ?_
    · intro u hCu hf h2
      have hTu : TR 5 T u := hT.keep hf (by decide)
      obtain ⟨t1, t2, t3, t4, t5, t6, t7, t8, t9, t10, t11⟩ := id hTu
      obtain ⟨h24, h25, h26, h27, h28, h29, hsr, g9, g10, g11, htl⟩ := id hCu
      refine run_ok 2 (c' := (113, [(0, .ref 23), (1, .int (nI w)), (2, .int (nI (tnb T)))], [.ref 23, .int (nI (tnb T))], u)) rfl ?_
      refine x_gett (t := 5) rfl rfl htl ?_
      refine run_ok 1 (c' := (119, [(0, .ref 23), (1, .int (nI w)), (2, .int (nI (tnb T)))], [.int (u.1 5 6), .int (nI (tnb T))], u)) rfl ?_
      refine x_top (v' := nI (tnb T)) t9 ?_
      refine x_icmpN_ge 144 rfl rfl (by omega) (by omega) (fun h119 => ?_) (fun hn => absurd (Nat.le_refl _) hn)
      exact x_ret (r := none) rfl rfl trivial ⟨rfl, hCu, hf, h2⟩ rfl
    · intro i hi ih u hCu hf h2
      have hTu : TR 5 T u := hT.keep hf (by decide)
      obtain ⟨t1, t2, t3, t4, t5, t6, t7, t8, t9, t10, t11⟩ := id hTu
      obtain ⟨h24, h25, h26, h27, h28, h29, hsr, g9, g10, g11, htl⟩ := id hCu
      have hVu := vk_sls (w := w) l1 hto hw i (by omega)
      have q1 := (hVu.1.2.1 i (by omega)).1
      refine run_ok 2 (c' := (113, [(0, .ref 23), (1, .int (nI w)), (2, .int (nI i))], [.ref 23, .int (nI i)], u)) rfl ?_
      refine x_gett (t := 5) rfl rfl htl ?_
      refine run_ok 1 (c' := (119, [(0, .ref 23), (1, .int (nI w)), (2, .int (nI i))], [.int (u.1 5 6), .int (nI i)], u)) rfl ?_
      refine x_top (v' := nI (tnb T)) t9 ?_
      refine x_icmpN_ge 144 rfl rfl (by omega) (by omega) (fun hn => absurd hn (show ¬ tnb T ≤ i by omega)) (fun h119 => ?_)
      refine run_ok 3 (c' := (127, [(0, .ref 23), (1, .int (nI w)), (2, .int (nI i))], [.int (nI i), .ref 25], u)) rfl ?_
      refine x_iaN (nI (vis (sls T w (lnc T w (evs T w (tne T) V) (tnb T)) i) i)) rfl rfl (by decide) (by omega) (h25 i (by omega)) ?_
      refine run_ok 1 (c' := (129, [(0, .ref 23), (1, .int (nI w)), (2, .int (nI i))], [.int (nI 1), .int (nI (vis (sls T w (lnc T w (evs T w (tne T) V) (tnb T)) i) i))], u)) rfl ?_
      refine x_icmpN_ne 138 rfl rfl (by omega) (by omega) (fun h129 => ?_) (fun h129 => ?_)
      · refine run_ok 1 (c' := (141, [(0, .ref 23), (1, .int (nI w)), (2, .int (nI i + nI 1))], [], u)) rfl ?_
        rw [nI_add i 1]
        refine run_ok 1 (c' := (111, [(0, .ref 23), (1, .int (nI w)), (2, .int (nI (i + 1)))], [], u)) rfl ?_
        refine ih u ?_ hf h2
        have es : sls T w (lnc T w (evs T w (tne T) V) (tnb T)) (i + 1) = sls T w (lnc T w (evs T w (tne T) V) (tnb T)) i := if_neg h129
        rw [show lsk T w (lnc T w (evs T w (tne T) V) (tnb T)) ls (i + 1) = (if vis (sls T w (lnc T w (evs T w (tne T) V) (tnb T)) (i + 1)) i = 1 then upn (lsk T w (lnc T w (evs T w (tne T) V) (tnb T)) ls i) i (lsk T w (lnc T w (evs T w (tne T) V) (tnb T)) ls i i + 1) else lsk T w (lnc T w (evs T w (tne T) V) (tnb T)) ls i) from rfl, es, if_neg h129]
        exact hCu
      · refine run_ok 3 (c' := (135, [(0, .ref 23), (1, .int (nI w)), (2, .int (nI i))], [.int (nI w), .int (nI i), .ref 23], u)) rfl ?_
        refine x_callV [.int (nI i), .int (nI w)] rfl cv_V_bear.1 lk_5_103 cv_V_bear.2.1 cv_V_bear.2.2.1 rfl cv_V_bear.2.2.2.1 rfl rfl (Nat.le_of_ble_eq_true rfl) (by decide) cv_V_bear.2.2.2.2 (c_bear5 u T (sls T w (lnc T w (evs T w (tne T) V) (tnb T)) i) (lsk T w (lnc T w (evs T w (tne T) V) (tnb T)) ls i) i w hTu hto hCu hVu.1 hi h129 hw) ?_
        rintro r v ⟨hr, hCv, hfv, h2v⟩
        rw [hr]
        clear hr r
        refine run_ok 1 (c' := (141, [(0, .ref 23), (1, .int (nI w)), (2, .int (nI i + nI 1))], [], v)) rfl ?_
        rw [nI_add i 1]
        refine run_ok 1 (c' := (111, [(0, .ref 23), (1, .int (nI w)), (2, .int (nI (i + 1)))], [], v)) rfl ?_
        refine ih v ?_ (hf.tr hfv) (h2v.trans h2)
        have es : sls T w (lnc T w (evs T w (tne T) V) (tnb T)) (i + 1) = bea T w (sls T w (lnc T w (evs T w (tne T) V) (tnb T)) i) i := if_pos h129
        rw [show lsk T w (lnc T w (evs T w (tne T) V) (tnb T)) ls (i + 1) = (if vis (sls T w (lnc T w (evs T w (tne T) V) (tnb T)) (i + 1)) i = 1 then upn (lsk T w (lnc T w (evs T w (tne T) V) (tnb T)) ls i) i (lsk T w (lnc T w (evs T w (tne T) V) (tnb T)) ls i i + 1) else lsk T w (lnc T w (evs T w (tne T) V) (tnb T)) ls i) from rfl, es]
        exact hCv
  have H2 : ∀ i, i ≤ tnb T → ∀ u : ST, CR 5 T (lnc T w (evs T w (tne T) V) i) (ls) u → fr VL S u → u.2 = S.2 → BX me_V_sail 3 none (fun r u => r = none ∧ CR 5 T (wkf T w V) (lsk T w (lnc T w (evs T w (tne T) V) (tnb T)) ls (tnb T)) u ∧ fr VL S u ∧ u.2 = S.2) (74, [(0, .ref 23), (1, .int (nI w)), (2, .int (nI i))], [], u) := by
    refine loop_up (P := fun i => ∀ u : ST, CR 5 T (lnc T w (evs T w (tne T) V) i) (ls) u → fr VL S u → u.2 = S.2 → BX me_V_sail 3 none (fun r u => r = none ∧ CR 5 T (wkf T w V) (lsk T w (lnc T w (evs T w (tne T) V) (tnb T)) ls (tnb T)) u ∧ fr VL S u ∧ u.2 = S.2) (74, [(0, .ref 23), (1, .int (nI w)), (2, .int (nI i))], [], u)) (tnb T) ?_ ?_
    · intro u hCu hf h2
      have hTu : TR 5 T u := hT.keep hf (by decide)
      obtain ⟨t1, t2, t3, t4, t5, t6, t7, t8, t9, t10, t11⟩ := id hTu
      obtain ⟨h24, h25, h26, h27, h28, h29, hsr, g9, g10, g11, htl⟩ := id hCu
      refine run_ok 2 (c' := (76, [(0, .ref 23), (1, .int (nI w)), (2, .int (nI (tnb T)))], [.ref 23, .int (nI (tnb T))], u)) rfl ?_
      refine x_gett (t := 5) rfl rfl htl ?_
      refine run_ok 1 (c' := (82, [(0, .ref 23), (1, .int (nI w)), (2, .int (nI (tnb T)))], [.int (u.1 5 6), .int (nI (tnb T))], u)) rfl ?_
      refine x_top (v' := nI (tnb T)) t9 ?_
      refine x_icmpN_ge 109 rfl rfl (by omega) (by omega) (fun h82 => ?_) (fun hn => absurd (Nat.le_refl _) hn)
      refine run_ok 2 (c' := (111, [(0, .ref 23), (1, .int (nI w)), (2, .int (nI 0))], [], u)) rfl ?_
      exact H3 0 (Nat.zero_le _) u hCu hf h2
    · intro i hi ih u hCu hf h2
      have hTu : TR 5 T u := hT.keep hf (by decide)
      obtain ⟨t1, t2, t3, t4, t5, t6, t7, t8, t9, t10, t11⟩ := id hTu
      obtain ⟨h24, h25, h26, h27, h28, h29, hsr, g9, g10, g11, htl⟩ := id hCu
      have hVu := vk_lnc k1 hto hu1 i (by omega)
      have q1 := (hbt i hi).2.2.1
      refine run_ok 2 (c' := (76, [(0, .ref 23), (1, .int (nI w)), (2, .int (nI i))], [.ref 23, .int (nI i)], u)) rfl ?_
      refine x_gett (t := 5) rfl rfl htl ?_
      refine run_ok 1 (c' := (82, [(0, .ref 23), (1, .int (nI w)), (2, .int (nI i))], [.int (u.1 5 6), .int (nI i)], u)) rfl ?_
      refine x_top (v' := nI (tnb T)) t9 ?_
      refine x_icmpN_ge 109 rfl rfl (by omega) (by omega) (fun hn => absurd hn (show ¬ tnb T ≤ i by omega)) (fun h82 => ?_)
      refine run_ok 1 (c' := (86, [(0, .ref 23), (1, .int (nI w)), (2, .int (nI i))], [.ref 23], u)) rfl ?_
      refine x_gett (t := 5) rfl rfl htl ?_
      refine run_ok 2 (c' := (93, [(0, .ref 23), (1, .int (nI w)), (2, .int (nI i))], [.int (nI i), .ref 9], u)) rfl ?_
      refine x_iaN (nI (tla T i)) rfl rfl (by decide) (by omega) (t4 i (by omega)) ?_
      refine run_ok 1 (c' := (95, [(0, .ref 23), (1, .int (nI w)), (2, .int (nI i))], [.int (nI w), .int (nI (tla T i))], u)) rfl ?_
      refine x_icmpN_ne 103 rfl rfl (by omega) (by omega) (fun h95 => ?_) (fun h95 => ?_)
      · refine run_ok 1 (c' := (106, [(0, .ref 23), (1, .int (nI w)), (2, .int (nI i + nI 1))], [], u)) rfl ?_
        rw [nI_add i 1]
        refine run_ok 1 (c' := (74, [(0, .ref 23), (1, .int (nI w)), (2, .int (nI (i + 1)))], [], u)) rfl ?_
        refine ih u ?_ hf h2
        rw [show lnc T w (evs T w (tne T) V) (i + 1) = lnc T w (evs T w (tne T) V) i from if_neg h95]
        exact hCu
      · refine run_ok 2 (c' := (100, [(0, .ref 23), (1, .int (nI w)), (2, .int (nI i))], [.int (nI i), .ref 23], u)) rfl ?_
        refine x_callV [.int (nI i)] rfl cv_V_launch.1 lk_5_100 cv_V_launch.2.1 cv_V_launch.2.2.1 rfl cv_V_launch.2.2.2.1 rfl rfl (Nat.le_of_ble_eq_true rfl) (by decide) cv_V_launch.2.2.2.2 (c_launch5 u T (lnc T w (evs T w (tne T) V) i) ls i hTu hto hCu hVu.1 hi (((hVu.2.1 i (Nat.le_refl _)).1).trans (hu1 i hi (by omega)).1) (((hVu.2.1 i (Nat.le_refl _)).2).trans (hu1 i hi (by omega)).2)) ?_
        rintro r v ⟨hr, hCv, hfv, h2v⟩
        rw [hr]
        clear hr r
        refine run_ok 1 (c' := (106, [(0, .ref 23), (1, .int (nI w)), (2, .int (nI i + nI 1))], [], v)) rfl ?_
        rw [nI_add i 1]
        refine run_ok 1 (c' := (74, [(0, .ref 23), (1, .int (nI w)), (2, .int (nI (i + 1)))], [], v)) rfl ?_
        refine ih v ?_ (hf.tr hfv) (h2v.trans h2)
        rw [show lnc T w (evs T w (tne T) V) (i + 1) = lau T (lnc T w (evs T w (tne T) V) i) i from if_pos h95]
        exact hCv
  have H1 : ∀ i, i ≤ tne T → ∀ u : ST, CR 5 T (evs T w i V) (ls) u → fr VL S u → u.2 = S.2 → BX me_V_sail 3 none (fun r u => r = none ∧ CR 5 T (wkf T w V) (lsk T w (lnc T w (evs T w (tne T) V) (tnb T)) ls (tnb T)) u ∧ fr VL S u ∧ u.2 = S.2) (2, [(0, .ref 23), (1, .int (nI w)), (2, .int (nI i))], [], u) := by
    refine loop_up (P := fun i => ∀ u : ST, CR 5 T (evs T w i V) (ls) u → fr VL S u → u.2 = S.2 → BX me_V_sail 3 none (fun r u => r = none ∧ CR 5 T (wkf T w V) (lsk T w (lnc T w (evs T w (tne T) V) (tnb T)) ls (tnb T)) u ∧ fr VL S u ∧ u.2 = S.2) (2, [(0, .ref 23), (1, .int (nI w)), (2, .int (nI i))], [], u)) (tne T) ?_ ?_
    · intro u hCu hf h2
      have hTu : TR 5 T u := hT.keep hf (by decide)
      obtain ⟨t1, t2, t3, t4, t5, t6, t7, t8, t9, t10, t11⟩ := id hTu
      obtain ⟨h24, h25, h26, h27, h28, h29, hsr, g9, g10, g11, htl⟩ := id hCu
      refine run_ok 2 (c' := (4, [(0, .ref 23), (1, .int (nI w)), (2, .int (nI (tne T)))], [.ref 23, .int (nI (tne T))], u)) rfl ?_
      refine x_gett (t := 5) rfl rfl htl ?_
      refine run_ok 1 (c' := (10, [(0, .ref 23), (1, .int (nI w)), (2, .int (nI (tne T)))], [.int (u.1 5 10), .int (nI (tne T))], u)) rfl ?_
      refine x_top (v' := nI (tne T)) t10 ?_
      refine x_icmpN_ge 72 rfl rfl (by omega) (by omega) (fun h10 => ?_) (fun hn => absurd (Nat.le_refl _) hn)
      refine run_ok 2 (c' := (74, [(0, .ref 23), (1, .int (nI w)), (2, .int (nI 0))], [], u)) rfl ?_
      exact H2 0 (Nat.zero_le _) u hCu hf h2
    · intro i hi ih u hCu hf h2
      have hTu : TR 5 T u := hT.keep hf (by decide)
      obtain ⟨t1, t2, t3, t4, t5, t6, t7, t8, t9, t10, t11⟩ := id hTu
      obtain ⟨h24, h25, h26, h27, h28, h29, hsr, g9, g10, g11, htl⟩ := id hCu
      have hVu := vk_evs (w := w) hV hto i (by omega)
      have q1 := het i hi
      refine run_ok 2 (c' := (4, [(0, .ref 23), (1, .int (nI w)), (2, .int (nI i))], [.ref 23, .int (nI i)], u)) rfl ?_
      refine x_gett (t := 5) rfl rfl htl ?_
      refine run_ok 1 (c' := (10, [(0, .ref 23), (1, .int (nI w)), (2, .int (nI i))], [.int (u.1 5 10), .int (nI i)], u)) rfl ?_
      refine x_top (v' := nI (tne T)) t10 ?_
      refine x_icmpN_ge 72 rfl rfl (by omega) (by omega) (fun hn => absurd hn (show ¬ tne T ≤ i by omega)) (fun h10 => ?_)
      refine run_ok 1 (c' := (14, [(0, .ref 23), (1, .int (nI w)), (2, .int (nI i))], [.ref 23], u)) rfl ?_
      refine x_gett (t := 5) rfl rfl htl ?_
      refine run_ok 2 (c' := (19, [(0, .ref 23), (1, .int (nI w)), (2, .int (nI i))], [.int (nI w), .int (nI i), .ref 5], u)) rfl ?_
      refine x_callV [.int (nI i), .int (nI w)] rfl cv_T_isEventOf.1 lk_5_80 cv_T_isEventOf.2.1 cv_T_isEventOf.2.2.1 rfl cv_T_isEventOf.2.2.2.1 rfl rfl (Nat.le_of_ble_eq_true rfl) (by decide) cv_T_isEventOf.2.2.2.2 (c_isEv5 u T i w hTu hto hi hw) ?_
      rintro r v ⟨hr, hu⟩
      rw [hr, hu]
      clear hr hu r v
      refine x_ifB_eq 66 rfl rfl (fun h22 => ?_) (fun h22 => ?_)
      · refine run_ok 1 (c' := (69, [(0, .ref 23), (1, .int (nI w)), (2, .int (nI i + nI 1))], [], u)) rfl ?_
        rw [nI_add i 1]
        refine run_ok 1 (c' := (2, [(0, .ref 23), (1, .int (nI w)), (2, .int (nI (i + 1)))], [], u)) rfl ?_
        refine ih u ?_ hf h2
        rw [show evs T w (i + 1) V = evs T w i V from if_neg h22]
        exact hCu
      · refine run_ok 1 (c' := (26, [(0, .ref 23), (1, .int (nI w)), (2, .int (nI i))], [.ref 23], u)) rfl ?_
        refine x_gett (t := 5) rfl rfl htl ?_
        refine run_ok 2 (c' := (33, [(0, .ref 23), (1, .int (nI w)), (2, .int (nI i))], [.int (nI i), .ref 11], u)) rfl ?_
        refine x_iaN (nI (tek T i)) rfl rfl (by decide) (by omega) (t6 i (by omega)) ?_
        refine x_ifN_ne 44 rfl rfl (by omega) (fun h34 => ?_) (fun h34 => ?_)
        · refine run_ok 2 (c' := (46, [(0, .ref 23), (1, .int (nI w)), (2, .int (nI i))], [.ref 23, .ref 23], u)) rfl ?_
          refine x_gett (t := 5) rfl rfl htl ?_
          refine run_ok 2 (c' := (53, [(0, .ref 23), (1, .int (nI w)), (2, .int (nI i))], [.int (nI i), .ref 11, .ref 23], u)) rfl ?_
          refine x_iaN (nI (tek T i)) rfl rfl (by decide) (by omega) (t6 i (by omega)) ?_
          refine run_ok 1 (c' := (55, [(0, .ref 23), (1, .int (nI w)), (2, .int (nI i))], [.ref 23, .int (nI (tek T i)), .ref 23], u)) rfl ?_
          refine x_gett (t := 5) rfl rfl htl ?_
          refine run_ok 2 (c' := (62, [(0, .ref 23), (1, .int (nI w)), (2, .int (nI i))], [.int (nI i), .ref 13, .int (nI (tek T i)), .ref 23], u)) rfl ?_
          refine x_iaN (nI (teb T i)) rfl rfl (by decide) (by omega) (t8 i (by omega)) ?_
          refine x_callV [.int (nI (tek T i)), .int (nI (teb T i))] rfl cv_V_settle.1 lk_5_93 cv_V_settle.2.1 cv_V_settle.2.2.1 rfl cv_V_settle.2.2.2.1 rfl rfl (Nat.le_of_ble_eq_true rfl) (by decide) cv_V_settle.2.2.2.2 (c_settle5 u T (evs T w i V) ls (tek T i) (teb T i) hTu hto hCu hVu.1 q1.2.2 q1.1) ?_
          rintro r z ⟨hr, hCv, hfv, h2v⟩
          rw [hr]
          clear hr r
          refine run_ok 1 (c' := (69, [(0, .ref 23), (1, .int (nI w)), (2, .int (nI i + nI 1))], [], z)) rfl ?_
          rw [nI_add i 1]
          refine run_ok 1 (c' := (2, [(0, .ref 23), (1, .int (nI w)), (2, .int (nI (i + 1)))], [], z)) rfl ?_
          refine ih z ?_ (hf.tr hfv) (h2v.trans h2)
          rw [show evs T w (i + 1) V = (if vis (evs T w i V) (teb T i) = 1 then (if tek T i = 1 then shr T (evs T w i V) (teb T i) else mku T (evs T w i V) (teb T i)) else evs T w i V) from (if_pos h22).trans (if_neg h34)]
          exact hCv
        · refine run_ok 1 (c' := (38, [(0, .ref 23), (1, .int (nI w)), (2, .int (nI i))], [.ref 23], u)) rfl ?_
          refine x_callV [] rfl cv_V_storm.1 lk_5_87 cv_V_storm.2.1 cv_V_storm.2.2.1 rfl cv_V_storm.2.2.2.1 rfl rfl (Nat.le_of_ble_eq_true rfl) (by decide) cv_V_storm.2.2.2.2 (c_storm5 u T (evs T w i V) hTu htl hto h25 h28 (fun k hk => (hVu.1.2.2.1 k hk).1) (fun k hk => (hVu.1.2.1 k hk).1)) ?_
          rintro r v ⟨hr, hr28, hfv, h2v⟩
          rw [hr]
          clear hr r
          refine run_ok 2 (c' := (69, [(0, .ref 23), (1, .int (nI w)), (2, .int (nI i + nI 1))], [], v)) rfl ?_
          rw [nI_add i 1]
          refine run_ok 1 (c' := (2, [(0, .ref 23), (1, .int (nI w)), (2, .int (nI (i + 1)))], [], v)) rfl ?_
          refine ih v ?_ (hf.tr (hfv.sub (by decide))) (h2v.trans h2)
          rw [show evs T w (i + 1) V = stm T (evs T w i V) from (if_pos h22).trans (if_pos h34)]
          exact CR_stm hCu hr28 hfv h2v
  refine run_ok 2 (c' := (2, [(0, .ref 23), (1, .int (nI w)), (2, .int (nI 0))], [], S)) rfl ?_
  exact H1 0 (Nat.zero_le _) S hC fr.rf rfl

set_option maxHeartbeats 2000000 in
theorem c_sail14 (S : ST) (T : TD) (V : VS) (ls : Nat → Nat) (w : Nat) (hT : TR 14 T S) (hto : tok T) (hC : CR 14 T V ls S) (hV : vk T V) (hul : ul T w V) (hw : w < 24) : EX me_V_sail 3 [.ref 23, .int (nI w)] S (fun r u => r = none ∧ CR 14 T (wkf T w V) (lsk T w (lnc T w (evs T w (tne T) V) (tnb T)) ls (tnb T)) u ∧ fr VL S u ∧ u.2 = S.2) := by
  refine EX.of mok_V_sail (Nat.le_of_ble_eq_true rfl) ?_
  obtain ⟨n8, n9, hbt, het, hht, hlo⟩ := id hto
  obtain ⟨k1, k2, k3⟩ := vk_evs (w := w) hV hto (tne T) (Nat.le_refl _)
  have hu1 : ul T w (evs T w (tne T) V) := fun k hk hl => by rw [k2, k3]; exact hul k hk hl
  obtain ⟨l1, l2, l3⟩ := vk_lnc k1 hto hu1 (tnb T) (Nat.le_refl _)
  have H3 : ∀ i, i ≤ tnb T → ∀ u : ST, CR 14 T (sls T w (lnc T w (evs T w (tne T) V) (tnb T)) i) (lsk T w (lnc T w (evs T w (tne T) V) (tnb T)) ls i) u → fr VL S u → u.2 = S.2 → BX me_V_sail 3 none (fun r u => r = none ∧ CR 14 T (wkf T w V) (lsk T w (lnc T w (evs T w (tne T) V) (tnb T)) ls (tnb T)) u ∧ fr VL S u ∧ u.2 = S.2) (111, [(0, .ref 23), (1, .int (nI w)), (2, .int (nI i))], [], u) := by
    refine loop_up (P := fun i => ∀ u : ST, CR 14 T (sls T w (lnc T w (evs T w (tne T) V) (tnb T)) i) (lsk T w (lnc T w (evs T w (tne T) V) (tnb T)) ls i) u → fr VL S u → u.2 = S.2 → BX me_V_sail 3 none (fun r u => r = none ∧ CR 14 T (wkf T w V) (lsk T w (lnc T w (evs T w (tne T) V) (tnb T)) ls (tnb T)) u ∧ fr VL S u ∧ u.2 = S.2) (111, [(0, .ref 23), (1, .int (nI w)), (2, .int (nI i))], [], u)) (tnb T) ?_ ?_
    · intro u hCu hf h2
      have hTu : TR 14 T u := hT.keep hf (by decide)
      obtain ⟨t1, t2, t3, t4, t5, t6, t7, t8, t9, t10, t11⟩ := id hTu
      obtain ⟨h24, h25, h26, h27, h28, h29, hsr, g9, g10, g11, htl⟩ := id hCu
      refine run_ok 2 (c' := (113, [(0, .ref 23), (1, .int (nI w)), (2, .int (nI (tnb T)))], [.ref 23, .int (nI (tnb T))], u)) rfl ?_
      refine x_gett (t := 14) rfl rfl htl ?_
      refine run_ok 1 (c' := (119, [(0, .ref 23), (1, .int (nI w)), (2, .int (nI (tnb T)))], [.int (u.1 14 6), .int (nI (tnb T))], u)) rfl ?_
      refine x_top (v' := nI (tnb T)) t9 ?_
      refine x_icmpN_ge 144 rfl rfl (by omega) (by omega) (fun h119 => ?_) (fun hn => absurd (Nat.le_refl _) hn)
      exact x_ret (r := none) rfl rfl trivial ⟨rfl, hCu, hf, h2⟩ rfl
    · intro i hi ih u hCu hf h2
      have hTu : TR 14 T u := hT.keep hf (by decide)
      obtain ⟨t1, t2, t3, t4, t5, t6, t7, t8, t9, t10, t11⟩ := id hTu
      obtain ⟨h24, h25, h26, h27, h28, h29, hsr, g9, g10, g11, htl⟩ := id hCu
      have hVu := vk_sls (w := w) l1 hto hw i (by omega)
      have q1 := (hVu.1.2.1 i (by omega)).1
      refine run_ok 2 (c' := (113, [(0, .ref 23), (1, .int (nI w)), (2, .int (nI i))], [.ref 23, .int (nI i)], u)) rfl ?_
      refine x_gett (t := 14) rfl rfl htl ?_
      refine run_ok 1 (c' := (119, [(0, .ref 23), (1, .int (nI w)), (2, .int (nI i))], [.int (u.1 14 6), .int (nI i)], u)) rfl ?_
      refine x_top (v' := nI (tnb T)) t9 ?_
      refine x_icmpN_ge 144 rfl rfl (by omega) (by omega) (fun hn => absurd hn (show ¬ tnb T ≤ i by omega)) (fun h119 => ?_)
      refine run_ok 3 (c' := (127, [(0, .ref 23), (1, .int (nI w)), (2, .int (nI i))], [.int (nI i), .ref 25], u)) rfl ?_
      refine x_iaN (nI (vis (sls T w (lnc T w (evs T w (tne T) V) (tnb T)) i) i)) rfl rfl (by decide) (by omega) (h25 i (by omega)) ?_
      refine run_ok 1 (c' := (129, [(0, .ref 23), (1, .int (nI w)), (2, .int (nI i))], [.int (nI 1), .int (nI (vis (sls T w (lnc T w (evs T w (tne T) V) (tnb T)) i) i))], u)) rfl ?_
      refine x_icmpN_ne 138 rfl rfl (by omega) (by omega) (fun h129 => ?_) (fun h129 => ?_)
      · refine run_ok 1 (c' := (141, [(0, .ref 23), (1, .int (nI w)), (2, .int (nI i + nI 1))], [], u)) rfl ?_
        rw [nI_add i 1]
        refine run_ok 1 (c' := (111, [(0, .ref 23), (1, .int (nI w)), (2, .int (nI (i + 1)))], [], u)) rfl ?_
        refine ih u ?_ hf h2
        have es : sls T w (lnc T w (evs T w (tne T) V) (tnb T)) (i + 1) = sls T w (lnc T w (evs T w (tne T) V) (tnb T)) i := if_neg h129
        rw [show lsk T w (lnc T w (evs T w (tne T) V) (tnb T)) ls (i + 1) = (if vis (sls T w (lnc T w (evs T w (tne T) V) (tnb T)) (i + 1)) i = 1 then upn (lsk T w (lnc T w (evs T w (tne T) V) (tnb T)) ls i) i (lsk T w (lnc T w (evs T w (tne T) V) (tnb T)) ls i i + 1) else lsk T w (lnc T w (evs T w (tne T) V) (tnb T)) ls i) from rfl, es, if_neg h129]
        exact hCu
      · refine run_ok 3 (c' := (135, [(0, .ref 23), (1, .int (nI w)), (2, .int (nI i))], [.int (nI w), .int (nI i), .ref 23], u)) rfl ?_
        refine x_callV [.int (nI i), .int (nI w)] rfl cv_V_bear.1 lk_5_103 cv_V_bear.2.1 cv_V_bear.2.2.1 rfl cv_V_bear.2.2.2.1 rfl rfl (Nat.le_of_ble_eq_true rfl) (by decide) cv_V_bear.2.2.2.2 (c_bear14 u T (sls T w (lnc T w (evs T w (tne T) V) (tnb T)) i) (lsk T w (lnc T w (evs T w (tne T) V) (tnb T)) ls i) i w hTu hto hCu hVu.1 hi h129 hw) ?_
        rintro r v ⟨hr, hCv, hfv, h2v⟩
        rw [hr]
        clear hr r
        refine run_ok 1 (c' := (141, [(0, .ref 23), (1, .int (nI w)), (2, .int (nI i + nI 1))], [], v)) rfl ?_
        rw [nI_add i 1]
        refine run_ok 1 (c' := (111, [(0, .ref 23), (1, .int (nI w)), (2, .int (nI (i + 1)))], [], v)) rfl ?_
        refine ih v ?_ (hf.tr hfv) (h2v.trans h2)
        have es : sls T w (lnc T w (evs T w (tne T) V) (tnb T)) (i + 1) = bea T w (sls T w (lnc T w (evs T w (tne T) V) (tnb T)) i) i := if_pos h129
        rw [show lsk T w (lnc T w (evs T w (tne T) V) (tnb T)) ls (i + 1) = (if vis (sls T w (lnc T w (evs T w (tne T) V) (tnb T)) (i + 1)) i = 1 then upn (lsk T w (lnc T w (evs T w (tne T) V) (tnb T)) ls i) i (lsk T w (lnc T w (evs T w (tne T) V) (tnb T)) ls i i + 1) else lsk T w (lnc T w (evs T w (tne T) V) (tnb T)) ls i) from rfl, es]
        exact hCv
  have H2 : ∀ i, i ≤ tnb T → ∀ u : ST, CR 14 T (lnc T w (evs T w (tne T) V) i) (ls) u → fr VL S u → u.2 = S.2 → BX me_V_sail 3 none (fun r u => r = none ∧ CR 14 T (wkf T w V) (lsk T w (lnc T w (evs T w (tne T) V) (tnb T)) ls (tnb T)) u ∧ fr VL S u ∧ u.2 = S.2) (74, [(0, .ref 23), (1, .int (nI w)), (2, .int (nI i))], [], u) := by
    refine loop_up (P := fun i => ∀ u : ST, CR 14 T (lnc T w (evs T w (tne T) V) i) (ls) u → fr VL S u → u.2 = S.2 → BX me_V_sail 3 none (fun r u => r = none ∧ CR 14 T (wkf T w V) (lsk T w (lnc T w (evs T w (tne T) V) (tnb T)) ls (tnb T)) u ∧ fr VL S u ∧ u.2 = S.2) (74, [(0, .ref 23), (1, .int (nI w)), (2, .int (nI i))], [], u)) (tnb T) ?_ ?_
    · intro u hCu hf h2
      have hTu : TR 14 T u := hT.keep hf (by decide)
      obtain ⟨t1, t2, t3, t4, t5, t6, t7, t8, t9, t10, t11⟩ := id hTu
      obtain ⟨h24, h25, h26, h27, h28, h29, hsr, g9, g10, g11, htl⟩ := id hCu
      refine run_ok 2 (c' := (76, [(0, .ref 23), (1, .int (nI w)), (2, .int (nI (tnb T)))], [.ref 23, .int (nI (tnb T))], u)) rfl ?_
      refine x_gett (t := 14) rfl rfl htl ?_
      refine run_ok 1 (c' := (82, [(0, .ref 23), (1, .int (nI w)), (2, .int (nI (tnb T)))], [.int (u.1 14 6), .int (nI (tnb T))], u)) rfl ?_
      refine x_top (v' := nI (tnb T)) t9 ?_
      refine x_icmpN_ge 109 rfl rfl (by omega) (by omega) (fun h82 => ?_) (fun hn => absurd (Nat.le_refl _) hn)
      refine run_ok 2 (c' := (111, [(0, .ref 23), (1, .int (nI w)), (2, .int (nI 0))], [], u)) rfl ?_
      exact H3 0 (Nat.zero_le _) u hCu hf h2
    · intro i hi ih u hCu hf h2
      have hTu : TR 14 T u := hT.keep hf (by decide)
      obtain ⟨t1, t2, t3, t4, t5, t6, t7, t8, t9, t10, t11⟩ := id hTu
      obtain ⟨h24, h25, h26, h27, h28, h29, hsr, g9, g10, g11, htl⟩ := id hCu
      have hVu := vk_lnc k1 hto hu1 i (by omega)
      have q1 := (hbt i hi).2.2.1
      refine run_ok 2 (c' := (76, [(0, .ref 23), (1, .int (nI w)), (2, .int (nI i))], [.ref 23, .int (nI i)], u)) rfl ?_
      refine x_gett (t := 14) rfl rfl htl ?_
      refine run_ok 1 (c' := (82, [(0, .ref 23), (1, .int (nI w)), (2, .int (nI i))], [.int (u.1 14 6), .int (nI i)], u)) rfl ?_
      refine x_top (v' := nI (tnb T)) t9 ?_
      refine x_icmpN_ge 109 rfl rfl (by omega) (by omega) (fun hn => absurd hn (show ¬ tnb T ≤ i by omega)) (fun h82 => ?_)
      refine run_ok 1 (c' := (86, [(0, .ref 23), (1, .int (nI w)), (2, .int (nI i))], [.ref 23], u)) rfl ?_
      refine x_gett (t := 14) rfl rfl htl ?_
      refine run_ok 2 (c' := (93, [(0, .ref 23), (1, .int (nI w)), (2, .int (nI i))], [.int (nI i), .ref 18], u)) rfl ?_
      refine x_iaN (nI (tla T i)) rfl rfl (by decide) (by omega) (t4 i (by omega)) ?_
      refine run_ok 1 (c' := (95, [(0, .ref 23), (1, .int (nI w)), (2, .int (nI i))], [.int (nI w), .int (nI (tla T i))], u)) rfl ?_
      refine x_icmpN_ne 103 rfl rfl (by omega) (by omega) (fun h95 => ?_) (fun h95 => ?_)
      · refine run_ok 1 (c' := (106, [(0, .ref 23), (1, .int (nI w)), (2, .int (nI i + nI 1))], [], u)) rfl ?_
        rw [nI_add i 1]
        refine run_ok 1 (c' := (74, [(0, .ref 23), (1, .int (nI w)), (2, .int (nI (i + 1)))], [], u)) rfl ?_
        refine ih u ?_ hf h2
        rw [show lnc T w (evs T w (tne T) V) (i + 1) = lnc T w (evs T w (tne T) V) i from if_neg h95]
        exact hCu
      · refine run_ok 2 (c' := (100, [(0, .ref 23), (1, .int (nI w)), (2, .int (nI i))], [.int (nI i), .ref 23], u)) rfl ?_
        refine x_callV [.int (nI i)] rfl cv_V_launch.1 lk_5_100 cv_V_launch.2.1 cv_V_launch.2.2.1 rfl cv_V_launch.2.2.2.1 rfl rfl (Nat.le_of_ble_eq_true rfl) (by decide) cv_V_launch.2.2.2.2 (c_launch14 u T (lnc T w (evs T w (tne T) V) i) ls i hTu hto hCu hVu.1 hi (((hVu.2.1 i (Nat.le_refl _)).1).trans (hu1 i hi (by omega)).1) (((hVu.2.1 i (Nat.le_refl _)).2).trans (hu1 i hi (by omega)).2)) ?_
        rintro r v ⟨hr, hCv, hfv, h2v⟩
        rw [hr]
        clear hr r
        refine run_ok 1 (c' := (106, [(0, .ref 23), (1, .int (nI w)), (2, .int (nI i + nI 1))], [], v)) rfl ?_
        rw [nI_add i 1]
        refine run_ok 1 (c' := (74, [(0, .ref 23), (1, .int (nI w)), (2, .int (nI (i + 1)))], [], v)) rfl ?_
        refine ih v ?_ (hf.tr hfv) (h2v.trans h2)
        rw [show lnc T w (evs T w (tne T) V) (i + 1) = lau T (lnc T w (evs T w (tne T) V) i) i from if_pos h95]
        exact hCv
  have H1 : ∀ i, i ≤ tne T → ∀ u : ST, CR 14 T (evs T w i V) (ls) u → fr VL S u → u.2 = S.2 → BX me_V_sail 3 none (fun r u => r = none ∧ CR 14 T (wkf T w V) (lsk T w (lnc T w (evs T w (tne T) V) (tnb T)) ls (tnb T)) u ∧ fr VL S u ∧ u.2 = S.2) (2, [(0, .ref 23), (1, .int (nI w)), (2, .int (nI i))], [], u) := by
    refine loop_up (P := fun i => ∀ u : ST, CR 14 T (evs T w i V) (ls) u → fr VL S u → u.2 = S.2 → BX me_V_sail 3 none (fun r u => r = none ∧ CR 14 T (wkf T w V) (lsk T w (lnc T w (evs T w (tne T) V) (tnb T)) ls (tnb T)) u ∧ fr VL S u ∧ u.2 = S.2) (2, [(0, .ref 23), (1, .int (nI w)), (2, .int (nI i))], [], u)) (tne T) ?_ ?_
    · intro u hCu hf h2
      have hTu : TR 14 T u := hT.keep hf (by decide)
      obtain ⟨t1, t2, t3, t4, t5, t6, t7, t8, t9, t10, t11⟩ := id hTu
      obtain ⟨h24, h25, h26, h27, h28, h29, hsr, g9, g10, g11, htl⟩ := id hCu
      refine run_ok 2 (c' := (4, [(0, .ref 23), (1, .int (nI w)), (2, .int (nI (tne T)))], [.ref 23, .int (nI (tne T))], u)) rfl ?_
      refine x_gett (t := 14) rfl rfl htl ?_
      refine run_ok 1 (c' := (10, [(0, .ref 23), (1, .int (nI w)), (2, .int (nI (tne T)))], [.int (u.1 14 10), .int (nI (tne T))], u)) rfl ?_
      refine x_top (v' := nI (tne T)) t10 ?_
      refine x_icmpN_ge 72 rfl rfl (by omega) (by omega) (fun h10 => ?_) (fun hn => absurd (Nat.le_refl _) hn)
      refine run_ok 2 (c' := (74, [(0, .ref 23), (1, .int (nI w)), (2, .int (nI 0))], [], u)) rfl ?_
      exact H2 0 (Nat.zero_le _) u hCu hf h2
    · intro i hi ih u hCu hf h2
      have hTu : TR 14 T u := hT.keep hf (by decide)
      obtain ⟨t1, t2, t3, t4, t5, t6, t7, t8, t9, t10, t11⟩ := id hTu
      obtain ⟨h24, h25, h26, h27, h28, h29, hsr, g9, g10, g11, htl⟩ := id hCu
      have hVu := vk_evs (w := w) hV hto i (by omega)
      have q1 := het i hi
      refine run_ok 2 (c' := (4, [(0, .ref 23), (1, .int (nI w)), (2, .int (nI i))], [.ref 23, .int (nI i)], u)) rfl ?_
      refine x_gett (t := 14) rfl rfl htl ?_
      refine run_ok 1 (c' := (10, [(0, .ref 23), (1, .int (nI w)), (2, .int (nI i))], [.int (u.1 14 10), .int (nI i)], u)) rfl ?_
      refine x_top (v' := nI (tne T)) t10 ?_
      refine x_icmpN_ge 72 rfl rfl (by omega) (by omega) (fun hn => absurd hn (show ¬ tne T ≤ i by omega)) (fun h10 => ?_)
      refine run_ok 1 (c' := (14, [(0, .ref 23), (1, .int (nI w)), (2, .int (nI i))], [.ref 23], u)) rfl ?_
      refine x_gett (t := 14) rfl rfl htl ?_
      refine run_ok 2 (c' := (19, [(0, .ref 23), (1, .int (nI w)), (2, .int (nI i))], [.int (nI w), .int (nI i), .ref 14], u)) rfl ?_
      refine x_callV [.int (nI i), .int (nI w)] rfl cv_T_isEventOf.1 lk_5_80 cv_T_isEventOf.2.1 cv_T_isEventOf.2.2.1 rfl cv_T_isEventOf.2.2.2.1 rfl rfl (Nat.le_of_ble_eq_true rfl) (by decide) cv_T_isEventOf.2.2.2.2 (c_isEv14 u T i w hTu hto hi hw) ?_
      rintro r v ⟨hr, hu⟩
      rw [hr, hu]
      clear hr hu r v
      refine x_ifB_eq 66 rfl rfl (fun h22 => ?_) (fun h22 => ?_)
      · refine run_ok 1 (c' := (69, [(0, .ref 23), (1, .int (nI w)), (2, .int (nI i + nI 1))], [], u)) rfl ?_
        rw [nI_add i 1]
        refine run_ok 1 (c' := (2, [(0, .ref 23), (1, .int (nI w)), (2, .int (nI (i + 1)))], [], u)) rfl ?_
        refine ih u ?_ hf h2
        rw [show evs T w (i + 1) V = evs T w i V from if_neg h22]
        exact hCu
      · refine run_ok 1 (c' := (26, [(0, .ref 23), (1, .int (nI w)), (2, .int (nI i))], [.ref 23], u)) rfl ?_
        refine x_gett (t := 14) rfl rfl htl ?_
        refine run_ok 2 (c' := (33, [(0, .ref 23), (1, .int (nI w)), (2, .int (nI i))], [.int (nI i), .ref 20], u)) rfl ?_
        refine x_iaN (nI (tek T i)) rfl rfl (by decide) (by omega) (t6 i (by omega)) ?_
        refine x_ifN_ne 44 rfl rfl (by omega) (fun h34 => ?_) (fun h34 => ?_)
        · refine run_ok 2 (c' := (46, [(0, .ref 23), (1, .int (nI w)), (2, .int (nI i))], [.ref 23, .ref 23], u)) rfl ?_
          refine x_gett (t := 14) rfl rfl htl ?_
          refine run_ok 2 (c' := (53, [(0, .ref 23), (1, .int (nI w)), (2, .int (nI i))], [.int (nI i), .ref 20, .ref 23], u)) rfl ?_
          refine x_iaN (nI (tek T i)) rfl rfl (by decide) (by omega) (t6 i (by omega)) ?_
          refine run_ok 1 (c' := (55, [(0, .ref 23), (1, .int (nI w)), (2, .int (nI i))], [.ref 23, .int (nI (tek T i)), .ref 23], u)) rfl ?_
          refine x_gett (t := 14) rfl rfl htl ?_
          refine run_ok 2 (c' := (62, [(0, .ref 23), (1, .int (nI w)), (2, .int (nI i))], [.int (nI i), .ref 22, .int (nI (tek T i)), .ref 23], u)) rfl ?_
          refine x_iaN (nI (teb T i)) rfl rfl (by decide) (by omega) (t8 i (by omega)) ?_
          refine x_callV [.int (nI (tek T i)), .int (nI (teb T i))] rfl cv_V_settle.1 lk_5_93 cv_V_settle.2.1 cv_V_settle.2.2.1 rfl cv_V_settle.2.2.2.1 rfl rfl (Nat.le_of_ble_eq_true rfl) (by decide) cv_V_settle.2.2.2.2 (c_settle14 u T (evs T w i V) ls (tek T i) (teb T i) hTu hto hCu hVu.1 q1.2.2 q1.1) ?_
          rintro r z ⟨hr, hCv, hfv, h2v⟩
          rw [hr]
          clear hr r
          refine run_ok 1 (c' := (69, [(0, .ref 23), (1, .int (nI w)), (2, .int (nI i + nI 1))], [], z)) rfl ?_
          rw [nI_add i 1]
          refine run_ok 1 (c' := (2, [(0, .ref 23), (1, .int (nI w)), (2, .int (nI (i + 1)))], [], z)) rfl ?_
          refine ih z ?_ (hf.tr hfv) (h2v.trans h2)
          rw [show evs T w (i + 1) V = (if vis (evs T w i V) (teb T i) = 1 then (if tek T i = 1 then shr T (evs T w i V) (teb T i) else mku T (evs T w i V) (teb T i)) else evs T w i V) from (if_pos h22).trans (if_neg h34)]
          exact hCv
        · refine run_ok 1 (c' := (38, [(0, .ref 23), (1, .int (nI w)), (2, .int (nI i))], [.ref 23], u)) rfl ?_
          refine x_callV [] rfl cv_V_storm.1 lk_5_87 cv_V_storm.2.1 cv_V_storm.2.2.1 rfl cv_V_storm.2.2.2.1 rfl rfl (Nat.le_of_ble_eq_true rfl) (by decide) cv_V_storm.2.2.2.2 (c_storm14 u T (evs T w i V) hTu htl hto h25 h28 (fun k hk => (hVu.1.2.2.1 k hk).1) (fun k hk => (hVu.1.2.1 k hk).1)) ?_
          rintro r v ⟨hr, hr28, hfv, h2v⟩
          rw [hr]
          clear hr r
          refine run_ok 2 (c' := (69, [(0, .ref 23), (1, .int (nI w)), (2, .int (nI i + nI 1))], [], v)) rfl ?_
          rw [nI_add i 1]
          refine run_ok 1 (c' := (2, [(0, .ref 23), (1, .int (nI w)), (2, .int (nI (i + 1)))], [], v)) rfl ?_
          refine ih v ?_ (hf.tr (hfv.sub (by decide))) (h2v.trans h2)
          rw [show evs T w (i + 1) V = stm T (evs T w i V) from (if_pos h22).trans (if_pos h34)]
          exact CR_stm hCu hr28 hfv h2v
  refine run_ok 2 (c' := (2, [(0, .ref 23), (1, .int (nI w)), (2, .int (nI 0))], [], S)) rfl ?_
  exact H1 0 (Nat.zero_le _) S hC fr.rf rfl
end
section
/-! the voyage of the class: a run -/
theorem CR.ls {t : Nat} {T : TD} {V : VS} {ls ls' : Nat → Nat} {u : ST} (hC : CR t T V ls u) (h : ∀ k, k < tnb T → ls' k = ls k) : CR t T V ls' u := by
  obtain ⟨g24, g25, g26, g27, g28, g29, gsr, g9, g10, g11, gtl⟩ := hC
  exact ⟨g24, g25, g26, g27, g28, g29.cg h, gsr, g9, g10, g11, gtl⟩
theorem lsn_s {T : TD} {w : Nat} {k : Nat} (hk : k < tnb T) : lsn T (w + 1) k = lsk T w (lnc T w (evs T w (tne T) (vo T w)) (tnb T)) (lsn T w) (tnb T) k := by
  rw [lsk_at]
  show lsn T w k + (if vis (sls T w (lnc T w (evs T w (tne T) (vo T w)) (tnb T)) (tnb T)) k = 1 then 1 else 0) = _
  congr 1
  have : (k < tnb T ∧ vis (sls T w (lnc T w (evs T w (tne T) (vo T w)) (tnb T)) (tnb T)) k = 1) ↔ vis (sls T w (lnc T w (evs T w (tne T) (vo T w)) (tnb T)) (tnb T)) k = 1 := ⟨fun z => z.2, fun z => ⟨hk, z⟩⟩
  simp only [this]
set_option maxHeartbeats 2000000 in
theorem c_run5 (S : ST) (T : TD) (lw : Nat) (hT : TR 5 T S) (hto : tok T) (hw : lw < 24) : EX me_V_run 4 [.ref 23, .ref 5, .int (nI lw)] S (fun r u => r = none ∧ CR 5 T (vo T (lw + 1)) (lsn T (lw + 1)) u ∧ fr VL S u ∧ u.2.1 = S.2.1) := by
  refine EX.of mok_V_run (Nat.le_of_ble_eq_true rfl) ?_
  have H : ∀ i, i ≤ lw + 1 → ∀ u : ST, CR 5 T (vo T i) (lsn T i) u → fr VL S u → u.2.1 = S.2.1 → BX me_V_run 4 none (fun r u => r = none ∧ CR 5 T (vo T (lw + 1)) (lsn T (lw + 1)) u ∧ fr VL S u ∧ u.2.1 = S.2.1) (7, [(0, .ref 23), (1, .ref 5), (2, .int (nI lw)), (3, .int (nI i))], [], u) := by
    refine loop_up (P := fun i => ∀ u : ST, CR 5 T (vo T i) (lsn T i) u → fr VL S u → u.2.1 = S.2.1 → BX me_V_run 4 none (fun r u => r = none ∧ CR 5 T (vo T (lw + 1)) (lsn T (lw + 1)) u ∧ fr VL S u ∧ u.2.1 = S.2.1) (7, [(0, .ref 23), (1, .ref 5), (2, .int (nI lw)), (3, .int (nI i))], [], u)) (lw + 1) ?_ ?_
    · intro u hCu hf h2
      refine run_ok 2 (c' := (9, [(0, .ref 23), (1, .ref 5), (2, .int (nI lw)), (3, .int (nI (lw + 1)))], [.int (nI lw), .int (nI (lw + 1))], u)) rfl ?_
      refine x_icmpN_gt 30 rfl rfl (by omega) (by omega) (fun h9 => ?_) (fun hn => absurd (show lw < lw + 1 by omega) hn)
      exact x_ret (r := none) rfl rfl trivial ⟨rfl, hCu, hf, h2⟩ rfl
    · intro i hi ih u hCu hf h2
      have g9 := hCu.2.2.2.2.2.2.2.1
      have ql : lft T (vo T i) ≤ tnb T := cnt_le _ _
      have n8 := hto.1
      refine run_ok 2 (c' := (9, [(0, .ref 23), (1, .ref 5), (2, .int (nI lw)), (3, .int (nI i))], [.int (nI lw), .int (nI i)], u)) rfl ?_
      refine x_icmpN_gt 30 rfl rfl (by omega) (by omega) (fun hn => absurd hn (show ¬ lw < i by omega)) (fun h9 => ?_)
      refine run_ok 2 (c' := (16, [(0, .ref 23), (1, .ref 5), (2, .int (nI lw)), (3, .int (nI i))], [.int (u.1 23 9)], u)) rfl ?_
      refine x_top (v' := nI (lft T (vo T i))) g9 ?_
      refine x_ifN_le 30 rfl rfl (by omega) (fun h16 => ?_) (fun h16 => ?_)
      · refine x_ret (r := none) rfl rfl trivial ?_ rfl
        have hz := vo_stop hto (w := i) (by omega) (lw + 1 - i) (by omega)
        rw [show i + (lw + 1 - i) = lw + 1 by omega] at hz
        exact ⟨rfl, by rw [hz.1]; exact hCu.ls hz.2, hf, h2⟩
      · refine run_ok 2 (c' := (21, [(0, .ref 23), (1, .ref 5), (2, .int (nI lw)), (3, .int (nI i))], [.int (nI i), .ref 23], u)) rfl ?_
        refine x_callV [.int (nI i)] rfl cv_V_sail.1 lk_5_54 cv_V_sail.2.1 cv_V_sail.2.2.1 rfl cv_V_sail.2.2.2.1 rfl rfl (Nat.le_of_ble_eq_true rfl) (by decide) cv_V_sail.2.2.2.2 (c_sail5 u T (vo T i) (lsn T i) i (hT.keep hf (by decide)) hto hCu (vk_vo hto i (by omega)).1 (vk_vo hto i (by omega)).2 (by omega)) ?_
        rintro r v ⟨hr, hCv, hfv, h2v⟩
        rw [hr]
        clear hr r
        refine run_ok 1 (c' := (27, [(0, .ref 23), (1, .ref 5), (2, .int (nI lw)), (3, .int (nI i + nI 1))], [], v)) rfl ?_
        rw [nI_add i 1]
        refine run_ok 1 (c' := (7, [(0, .ref 23), (1, .ref 5), (2, .int (nI lw)), (3, .int (nI (i + 1)))], [], v)) rfl ?_
        exact ih v (hCv.ls (fun k hk => lsn_s hk)) (hf.tr hfv) (by rw [h2v]; exact h2)
  refine run_ok 2 (c' := (2, [(0, .ref 23), (1, .ref 5), (2, .int (nI lw))], [.ref 5, .ref 23], S)) rfl ?_
  refine x_callV [.ref 5] rfl cv_V_begin.1 lk_5_50 cv_V_begin.2.1 cv_V_begin.2.2.1 rfl cv_V_begin.2.2.2.1 rfl rfl (Nat.le_of_ble_eq_true rfl) (by decide) cv_V_begin.2.2.2.2 (c_begin5 S T hT hto) ?_
  rintro r v ⟨hr, hCv, hfv, h2v⟩
  rw [hr]
  clear hr r
  refine run_ok 2 (c' := (7, [(0, .ref 23), (1, .ref 5), (2, .int (nI lw)), (3, .int (nI 0))], [], v)) rfl ?_
  exact H 0 (by omega) v (hCv.ls (fun k _ => rfl)) hfv h2v

set_option maxHeartbeats 2000000 in
theorem c_run14 (S : ST) (T : TD) (lw : Nat) (hT : TR 14 T S) (hto : tok T) (hw : lw < 24) : EX me_V_run 4 [.ref 23, .ref 14, .int (nI lw)] S (fun r u => r = none ∧ CR 14 T (vo T (lw + 1)) (lsn T (lw + 1)) u ∧ fr VL S u ∧ u.2.1 = S.2.1) := by
  refine EX.of mok_V_run (Nat.le_of_ble_eq_true rfl) ?_
  have H : ∀ i, i ≤ lw + 1 → ∀ u : ST, CR 14 T (vo T i) (lsn T i) u → fr VL S u → u.2.1 = S.2.1 → BX me_V_run 4 none (fun r u => r = none ∧ CR 14 T (vo T (lw + 1)) (lsn T (lw + 1)) u ∧ fr VL S u ∧ u.2.1 = S.2.1) (7, [(0, .ref 23), (1, .ref 14), (2, .int (nI lw)), (3, .int (nI i))], [], u) := by
    refine loop_up (P := fun i => ∀ u : ST, CR 14 T (vo T i) (lsn T i) u → fr VL S u → u.2.1 = S.2.1 → BX me_V_run 4 none (fun r u => r = none ∧ CR 14 T (vo T (lw + 1)) (lsn T (lw + 1)) u ∧ fr VL S u ∧ u.2.1 = S.2.1) (7, [(0, .ref 23), (1, .ref 14), (2, .int (nI lw)), (3, .int (nI i))], [], u)) (lw + 1) ?_ ?_
    · intro u hCu hf h2
      refine run_ok 2 (c' := (9, [(0, .ref 23), (1, .ref 14), (2, .int (nI lw)), (3, .int (nI (lw + 1)))], [.int (nI lw), .int (nI (lw + 1))], u)) rfl ?_
      refine x_icmpN_gt 30 rfl rfl (by omega) (by omega) (fun h9 => ?_) (fun hn => absurd (show lw < lw + 1 by omega) hn)
      exact x_ret (r := none) rfl rfl trivial ⟨rfl, hCu, hf, h2⟩ rfl
    · intro i hi ih u hCu hf h2
      have g9 := hCu.2.2.2.2.2.2.2.1
      have ql : lft T (vo T i) ≤ tnb T := cnt_le _ _
      have n8 := hto.1
      refine run_ok 2 (c' := (9, [(0, .ref 23), (1, .ref 14), (2, .int (nI lw)), (3, .int (nI i))], [.int (nI lw), .int (nI i)], u)) rfl ?_
      refine x_icmpN_gt 30 rfl rfl (by omega) (by omega) (fun hn => absurd hn (show ¬ lw < i by omega)) (fun h9 => ?_)
      refine run_ok 2 (c' := (16, [(0, .ref 23), (1, .ref 14), (2, .int (nI lw)), (3, .int (nI i))], [.int (u.1 23 9)], u)) rfl ?_
      refine x_top (v' := nI (lft T (vo T i))) g9 ?_
      refine x_ifN_le 30 rfl rfl (by omega) (fun h16 => ?_) (fun h16 => ?_)
      · refine x_ret (r := none) rfl rfl trivial ?_ rfl
        have hz := vo_stop hto (w := i) (by omega) (lw + 1 - i) (by omega)
        rw [show i + (lw + 1 - i) = lw + 1 by omega] at hz
        exact ⟨rfl, by rw [hz.1]; exact hCu.ls hz.2, hf, h2⟩
      · refine run_ok 2 (c' := (21, [(0, .ref 23), (1, .ref 14), (2, .int (nI lw)), (3, .int (nI i))], [.int (nI i), .ref 23], u)) rfl ?_
        refine x_callV [.int (nI i)] rfl cv_V_sail.1 lk_5_54 cv_V_sail.2.1 cv_V_sail.2.2.1 rfl cv_V_sail.2.2.2.1 rfl rfl (Nat.le_of_ble_eq_true rfl) (by decide) cv_V_sail.2.2.2.2 (c_sail14 u T (vo T i) (lsn T i) i (hT.keep hf (by decide)) hto hCu (vk_vo hto i (by omega)).1 (vk_vo hto i (by omega)).2 (by omega)) ?_
        rintro r v ⟨hr, hCv, hfv, h2v⟩
        rw [hr]
        clear hr r
        refine run_ok 1 (c' := (27, [(0, .ref 23), (1, .ref 14), (2, .int (nI lw)), (3, .int (nI i + nI 1))], [], v)) rfl ?_
        rw [nI_add i 1]
        refine run_ok 1 (c' := (7, [(0, .ref 23), (1, .ref 14), (2, .int (nI lw)), (3, .int (nI (i + 1)))], [], v)) rfl ?_
        exact ih v (hCv.ls (fun k hk => lsn_s hk)) (hf.tr hfv) (by rw [h2v]; exact h2)
  refine run_ok 2 (c' := (2, [(0, .ref 23), (1, .ref 14), (2, .int (nI lw))], [.ref 14, .ref 23], S)) rfl ?_
  refine x_callV [.ref 14] rfl cv_V_begin.1 lk_5_50 cv_V_begin.2.1 cv_V_begin.2.2.1 rfl cv_V_begin.2.2.2.1 rfl rfl (Nat.le_of_ble_eq_true rfl) (by decide) cv_V_begin.2.2.2.2 (c_begin14 S T hT hto) ?_
  rintro r v ⟨hr, hCv, hfv, h2v⟩
  rw [hr]
  clear hr r
  refine run_ok 2 (c' := (7, [(0, .ref 23), (1, .ref 14), (2, .int (nI lw)), (3, .int (nI 0))], [], v)) rfl ?_
  exact H 0 (by omega) v (hCv.ls (fun k _ => rfl)) hfv h2v
end
section
/-! what is asked of a voyage -/
def shs (h : Nat → Nat) (p : Nat) : Nat → Nat
  | 0 => 0
  | n + 1 => shs h p n + h (8 * p + n)
def sha_ (h : Nat → Nat) : Nat → Nat
  | 0 => 0
  | n + 1 => sha_ h n + shs h n 8
def nmb (T : TD) (V : VS) (w k : Nat) : Nat := if tla T k ≤ w ∧ vnm V k ≠ 8 then vnm V k else 8
theorem nmv_eqp {n p : Nat} (hn : n ≤ 8) (hp : p < 8) : nmv n = nI p ↔ n = p := by
  by_cases e8 : n = 8
  · subst e8
    refine ⟨fun z => ?_, fun z => by omega⟩
    have y2 := congrArg Int32.toInt z
    rw [nI_toInt (by omega), nmv_8] at y2
    have y3 : ((-1 : Int32)).toInt = -1 := by decide
    omega
  · rw [nmv_lt (by omega)]
    exact nI_eqI (by omega) (by omega)
def nro (f : Nat → Nat) : Nat → Nat
  | 0 => 0
  | k + 1 => nro f k + f k * 16 ^ k
theorem cnt_s {p : Nat → Bool} {i : Nat} (h : p i = true) : cnt p (i + 1) = cnt p i + 1 := by
  show cnt p i + (if p i = true then 1 else 0) = _
  rw [if_pos h]
theorem cnt_z {p : Nat → Bool} {i : Nat} (h : p i = false) : cnt p (i + 1) = cnt p i := by
  show cnt p i + (if p i = true then 1 else 0) = _
  rw [if_neg (by rw [h]; decide)]
  rfl
set_option maxHeartbeats 2000000 in
theorem c_hatredOf (S : ST) (V : VS) (p : Nat) (hp : p < 8) (h24 : rh S 24 64 (vh V)) : EX me_V_hatredOf 1 [.ref 23, .int (nI p)] S (fun r u => r = some (.int (nI (shs (vh V) p 8))) ∧ u = S) := by
  refine EX.of mok_V_hatredOf (Nat.le_of_ble_eq_true rfl) ?_
  have H : ∀ i, i ≤ 8 → BX me_V_hatredOf 1 none (fun r u => r = some (.int (nI (shs (vh V) p 8))) ∧ u = S) (4, [(0, .ref 23), (1, .int (nI p)), (2, .int (nI (shs (vh V) p i))), (3, .int (nI i))], [], S) := by
    refine loop_up (P := fun i => BX me_V_hatredOf 1 none (fun r u => r = some (.int (nI (shs (vh V) p 8))) ∧ u = S) (4, [(0, .ref 23), (1, .int (nI p)), (2, .int (nI (shs (vh V) p i))), (3, .int (nI i))], [], S)) (8) ?_ ?_
    · skip
      refine run_ok 2 (c' := (7, [(0, .ref 23), (1, .int (nI p)), (2, .int (nI (shs (vh V) p 8))), (3, .int (nI 8))], [.int (nI 8), .int (nI 8)], S)) rfl ?_
      refine x_icmpN_ge 29 rfl rfl (by omega) (by omega) (fun h7 => ?_) (fun hn => absurd (Nat.le_refl 8) hn)
      refine run_ok 1 (c' := (30, [(0, .ref 23), (1, .int (nI p)), (2, .int (nI (shs (vh V) p 8))), (3, .int (nI 8))], [.int (nI (shs (vh V) p 8))], S)) rfl ?_
      exact x_ret (r := some (.int (nI (shs (vh V) p 8)))) rfl rfl trivial ⟨rfl, rfl⟩ rfl
    · intro i hi ih
      refine run_ok 2 (c' := (7, [(0, .ref 23), (1, .int (nI p)), (2, .int (nI (shs (vh V) p i))), (3, .int (nI i))], [.int (nI 8), .int (nI i)], S)) rfl ?_
      refine x_icmpN_ge 29 rfl rfl (by omega) (by omega) (fun hn => absurd hn (show ¬ 8 ≤ i by omega)) (fun h7 => ?_)
      refine run_ok 5 (c' := (17, [(0, .ref 23), (1, .int (nI p)), (2, .int (nI (shs (vh V) p i))), (3, .int (nI i))], [.int (nI i), .int (nI p), .ref 24, .int (nI (shs (vh V) p i))], S)) rfl ?_
      refine x_callN [.int (nI p), .int (nI i)] rfl cs_N_pair.1 (fun U hU => hU.2.1) cs_N_pair.2.1 rfl rfl (Nat.le_of_ble_eq_true rfl) (by decide) cs_N_pair.2.2 (c_pair S (nI p) (nI i)) ?_
      rintro r u ⟨hr, hu⟩
      rw [hr, hu]
      clear hr hu r u
      refine x_top (v' := nI (p * 8 + i)) (by rw [pk_mul, nI_add]) ?_
      refine x_iaN (nI (vh V (8 * p + i))) rfl rfl (by decide) (by omega) (by rw [show p * 8 + i = 8 * p + i by omega]; exact h24 _ (by omega)) ?_
      refine run_ok 1 (c' := (22, [(0, .ref 23), (1, .int (nI p)), (2, .int (nI (shs (vh V) p i))), (3, .int (nI i))], [.int ((nI (shs (vh V) p i)) + (nI (vh V (8 * p + i))))], S)) rfl ?_
      refine x_top (v' := nI ((shs (vh V) p i) + (vh V (8 * p + i)))) (nI_add _ _) ?_
      refine run_ok 2 (c' := (26, [(0, .ref 23), (1, .int (nI p)), (2, .int (nI ((shs (vh V) p i) + (vh V (8 * p + i))))), (3, .int (nI i + nI 1))], [], S)) rfl ?_
      rw [nI_add i 1]
      refine run_ok 1 (c' := (4, [(0, .ref 23), (1, .int (nI p)), (2, .int (nI ((shs (vh V) p i) + (vh V (8 * p + i))))), (3, .int (nI (i + 1)))], [], S)) rfl ?_
      rw [show shs (vh V) p i + vh V (8 * p + i) = shs (vh V) p (i + 1) from rfl]
      exact ih
  refine run_ok 4 (c' := (4, [(0, .ref 23), (1, .int (nI p)), (2, .int (nI 0)), (3, .int (nI 0))], [], S)) rfl ?_
  exact H 0 (Nat.zero_le _)

set_option maxHeartbeats 2000000 in
theorem c_allHatred (S : ST) (V : VS) (h24 : rh S 24 64 (vh V)) : EX me_V_allHatred 2 [.ref 23] S (fun r u => r = some (.int (nI (sha_ (vh V) 8))) ∧ u = S) := by
  refine EX.of mok_V_allHatred (Nat.le_of_ble_eq_true rfl) ?_
  have H : ∀ i, i ≤ 8 → BX me_V_allHatred 2 none (fun r u => r = some (.int (nI (sha_ (vh V) 8))) ∧ u = S) (4, [(0, .ref 23), (1, .int (nI (sha_ (vh V) i))), (2, .int (nI i))], [], S) := by
    refine loop_up (P := fun i => BX me_V_allHatred 2 none (fun r u => r = some (.int (nI (sha_ (vh V) 8))) ∧ u = S) (4, [(0, .ref 23), (1, .int (nI (sha_ (vh V) i))), (2, .int (nI i))], [], S)) (8) ?_ ?_
    · skip
      refine run_ok 2 (c' := (7, [(0, .ref 23), (1, .int (nI (sha_ (vh V) 8))), (2, .int (nI 8))], [.int (nI 8), .int (nI 8)], S)) rfl ?_
      refine x_icmpN_ge 24 rfl rfl (by omega) (by omega) (fun h7 => ?_) (fun hn => absurd (Nat.le_refl 8) hn)
      refine run_ok 1 (c' := (25, [(0, .ref 23), (1, .int (nI (sha_ (vh V) 8))), (2, .int (nI 8))], [.int (nI (sha_ (vh V) 8))], S)) rfl ?_
      exact x_ret (r := some (.int (nI (sha_ (vh V) 8)))) rfl rfl trivial ⟨rfl, rfl⟩ rfl
    · intro i hi ih
      refine run_ok 2 (c' := (7, [(0, .ref 23), (1, .int (nI (sha_ (vh V) i))), (2, .int (nI i))], [.int (nI 8), .int (nI i)], S)) rfl ?_
      refine x_icmpN_ge 24 rfl rfl (by omega) (by omega) (fun hn => absurd hn (show ¬ 8 ≤ i by omega)) (fun h7 => ?_)
      refine run_ok 3 (c' := (13, [(0, .ref 23), (1, .int (nI (sha_ (vh V) i))), (2, .int (nI i))], [.int (nI i), .ref 23, .int (nI (sha_ (vh V) i))], S)) rfl ?_
      refine x_callV [.int (nI i)] rfl cv_V_hatredOf.1 lk_5_128 cv_V_hatredOf.2.1 cv_V_hatredOf.2.2.1 rfl cv_V_hatredOf.2.2.2.1 rfl rfl (Nat.le_of_ble_eq_true rfl) (by decide) cv_V_hatredOf.2.2.2.2 (c_hatredOf S V i hi h24) ?_
      rintro r u ⟨hr, hu⟩
      rw [hr, hu]
      clear hr hu r u
      refine run_ok 1 (c' := (17, [(0, .ref 23), (1, .int (nI (sha_ (vh V) i))), (2, .int (nI i))], [.int ((nI (sha_ (vh V) i)) + (nI (shs (vh V) i 8)))], S)) rfl ?_
      refine x_top (v' := nI ((sha_ (vh V) i) + (shs (vh V) i 8))) (nI_add _ _) ?_
      refine run_ok 2 (c' := (21, [(0, .ref 23), (1, .int (nI ((sha_ (vh V) i) + (shs (vh V) i 8)))), (2, .int (nI i + nI 1))], [], S)) rfl ?_
      rw [nI_add i 1]
      refine run_ok 1 (c' := (4, [(0, .ref 23), (1, .int (nI ((sha_ (vh V) i) + (shs (vh V) i 8)))), (2, .int (nI (i + 1)))], [], S)) rfl ?_
      rw [show sha_ (vh V) i + shs (vh V) i 8 = sha_ (vh V) (i + 1) from rfl]
      exact ih
  refine run_ok 4 (c' := (4, [(0, .ref 23), (1, .int (nI 0)), (2, .int (nI 0))], [], S)) rfl ?_
  exact H 0 (Nat.zero_le _)

set_option maxHeartbeats 2000000 in
theorem c_howMany5 (S : ST) (T : TD) (V : VS) (ls : Nat → Nat) (hT : TR 5 T S) (hto : tok T) (hC : CR 5 T V ls S) (hV : vk T V) (x : Nat) (hx : x ≤ 3) : EX me_V_howMany 0 [.ref 23, .int (nI x)] S (fun r u => r = some (.int (nI (cnt (fun k => decide (vis V k = x)) (tnb T)))) ∧ u = S) := by
  refine EX.of mok_V_howMany (Nat.le_of_ble_eq_true rfl) ?_
  obtain ⟨n8, n9, hbt, het, hht, hlo⟩ := id hto
  obtain ⟨t1, t2, t3, t4, t5, t6, t7, t8, t9, t10, t11⟩ := id hT
  obtain ⟨h24, h25, h26, h27, h28, h29, hsr, g9, g10, g11, htl⟩ := id hC
  obtain ⟨hh9, hv3, hb9, hfw, hfb⟩ := id hV
  have H : ∀ i, i ≤ tnb T → BX me_V_howMany 0 none (fun r u => r = some (.int (nI (cnt (fun k => decide (vis V k = x)) (tnb T)))) ∧ u = S) (4, [(0, .ref 23), (1, .int (nI x)), (2, .int (nI (cnt (fun k => decide (vis V k = x)) i))), (3, .int (nI i))], [], S) := by
    refine loop_up (P := fun i => BX me_V_howMany 0 none (fun r u => r = some (.int (nI (cnt (fun k => decide (vis V k = x)) (tnb T)))) ∧ u = S) (4, [(0, .ref 23), (1, .int (nI x)), (2, .int (nI (cnt (fun k => decide (vis V k = x)) i))), (3, .int (nI i))], [], S)) (tnb T) ?_ ?_
    · skip
      refine run_ok 2 (c' := (6, [(0, .ref 23), (1, .int (nI x)), (2, .int (nI (cnt (fun k => decide (vis V k = x)) (tnb T)))), (3, .int (nI (tnb T)))], [.ref 23, .int (nI (tnb T))], S)) rfl ?_
      refine x_gett (t := 5) rfl rfl htl ?_
      refine run_ok 1 (c' := (12, [(0, .ref 23), (1, .int (nI x)), (2, .int (nI (cnt (fun k => decide (vis V k = x)) (tnb T)))), (3, .int (nI (tnb T)))], [.int (S.1 5 6), .int (nI (tnb T))], S)) rfl ?_
      refine x_top (v' := nI (tnb T)) t9 ?_
      refine x_icmpN_ge 34 rfl rfl (by omega) (by omega) (fun h12 => ?_) (fun hn => absurd (Nat.le_refl _) hn)
      refine run_ok 1 (c' := (35, [(0, .ref 23), (1, .int (nI x)), (2, .int (nI (cnt (fun k => decide (vis V k = x)) (tnb T)))), (3, .int (nI (tnb T)))], [.int (nI (cnt (fun k => decide (vis V k = x)) (tnb T)))], S)) rfl ?_
      exact x_ret (r := some (.int (nI (cnt (fun k => decide (vis V k = x)) (tnb T))))) rfl rfl trivial ⟨rfl, rfl⟩ rfl
    · intro i hi ih
      have q1 := (hv3 i (by omega)).1
      refine run_ok 2 (c' := (6, [(0, .ref 23), (1, .int (nI x)), (2, .int (nI (cnt (fun k => decide (vis V k = x)) i))), (3, .int (nI i))], [.ref 23, .int (nI i)], S)) rfl ?_
      refine x_gett (t := 5) rfl rfl htl ?_
      refine run_ok 1 (c' := (12, [(0, .ref 23), (1, .int (nI x)), (2, .int (nI (cnt (fun k => decide (vis V k = x)) i))), (3, .int (nI i))], [.int (S.1 5 6), .int (nI i)], S)) rfl ?_
      refine x_top (v' := nI (tnb T)) t9 ?_
      refine x_icmpN_ge 34 rfl rfl (by omega) (by omega) (fun hn => absurd hn (show ¬ tnb T ≤ i by omega)) (fun h12 => ?_)
      refine run_ok 3 (c' := (20, [(0, .ref 23), (1, .int (nI x)), (2, .int (nI (cnt (fun k => decide (vis V k = x)) i))), (3, .int (nI i))], [.int (nI i), .ref 25], S)) rfl ?_
      refine x_iaN (nI (vis V i)) rfl rfl (by decide) (by omega) (h25 i (by omega)) ?_
      refine run_ok 1 (c' := (22, [(0, .ref 23), (1, .int (nI x)), (2, .int (nI (cnt (fun k => decide (vis V k = x)) i))), (3, .int (nI i))], [.int (nI x), .int (nI (vis V i))], S)) rfl ?_
      refine x_icmpN_ne 28 rfl rfl (by omega) (by omega) (fun h22 => ?_) (fun h22 => ?_)
      · refine run_ok 1 (c' := (31, [(0, .ref 23), (1, .int (nI x)), (2, .int (nI (cnt (fun k => decide (vis V k = x)) i))), (3, .int (nI i + nI 1))], [], S)) rfl ?_
        rw [nI_add i 1]
        refine run_ok 1 (c' := (4, [(0, .ref 23), (1, .int (nI x)), (2, .int (nI (cnt (fun k => decide (vis V k = x)) i))), (3, .int (nI (i + 1)))], [], S)) rfl ?_
        rw [show cnt (fun k => decide (vis V k = x)) (i + 1) = cnt (fun k => decide (vis V k = x)) i from cnt_z (by simpa using h22)] at ih
        exact ih
      · refine run_ok 1 (c' := (28, [(0, .ref 23), (1, .int (nI x)), (2, .int (nI (cnt (fun k => decide (vis V k = x)) i) + nI 1)), (3, .int (nI i))], [], S)) rfl ?_
        rw [nI_add (cnt (fun k => decide (vis V k = x)) i) 1]
        refine run_ok 1 (c' := (31, [(0, .ref 23), (1, .int (nI x)), (2, .int (nI (cnt (fun k => decide (vis V k = x)) i + 1))), (3, .int (nI i + nI 1))], [], S)) rfl ?_
        rw [nI_add i 1]
        refine run_ok 1 (c' := (4, [(0, .ref 23), (1, .int (nI x)), (2, .int (nI (cnt (fun k => decide (vis V k = x)) i + 1))), (3, .int (nI (i + 1)))], [], S)) rfl ?_
        rw [show cnt (fun k => decide (vis V k = x)) (i + 1) = cnt (fun k => decide (vis V k = x)) i + 1 from cnt_s (by simpa using h22)] at ih
        exact ih
  refine run_ok 4 (c' := (4, [(0, .ref 23), (1, .int (nI x)), (2, .int (nI 0)), (3, .int (nI 0))], [], S)) rfl ?_
  exact H 0 (Nat.zero_le _)

set_option maxHeartbeats 2000000 in
theorem c_howMany14 (S : ST) (T : TD) (V : VS) (ls : Nat → Nat) (hT : TR 14 T S) (hto : tok T) (hC : CR 14 T V ls S) (hV : vk T V) (x : Nat) (hx : x ≤ 3) : EX me_V_howMany 0 [.ref 23, .int (nI x)] S (fun r u => r = some (.int (nI (cnt (fun k => decide (vis V k = x)) (tnb T)))) ∧ u = S) := by
  refine EX.of mok_V_howMany (Nat.le_of_ble_eq_true rfl) ?_
  obtain ⟨n8, n9, hbt, het, hht, hlo⟩ := id hto
  obtain ⟨t1, t2, t3, t4, t5, t6, t7, t8, t9, t10, t11⟩ := id hT
  obtain ⟨h24, h25, h26, h27, h28, h29, hsr, g9, g10, g11, htl⟩ := id hC
  obtain ⟨hh9, hv3, hb9, hfw, hfb⟩ := id hV
  have H : ∀ i, i ≤ tnb T → BX me_V_howMany 0 none (fun r u => r = some (.int (nI (cnt (fun k => decide (vis V k = x)) (tnb T)))) ∧ u = S) (4, [(0, .ref 23), (1, .int (nI x)), (2, .int (nI (cnt (fun k => decide (vis V k = x)) i))), (3, .int (nI i))], [], S) := by
    refine loop_up (P := fun i => BX me_V_howMany 0 none (fun r u => r = some (.int (nI (cnt (fun k => decide (vis V k = x)) (tnb T)))) ∧ u = S) (4, [(0, .ref 23), (1, .int (nI x)), (2, .int (nI (cnt (fun k => decide (vis V k = x)) i))), (3, .int (nI i))], [], S)) (tnb T) ?_ ?_
    · skip
      refine run_ok 2 (c' := (6, [(0, .ref 23), (1, .int (nI x)), (2, .int (nI (cnt (fun k => decide (vis V k = x)) (tnb T)))), (3, .int (nI (tnb T)))], [.ref 23, .int (nI (tnb T))], S)) rfl ?_
      refine x_gett (t := 14) rfl rfl htl ?_
      refine run_ok 1 (c' := (12, [(0, .ref 23), (1, .int (nI x)), (2, .int (nI (cnt (fun k => decide (vis V k = x)) (tnb T)))), (3, .int (nI (tnb T)))], [.int (S.1 14 6), .int (nI (tnb T))], S)) rfl ?_
      refine x_top (v' := nI (tnb T)) t9 ?_
      refine x_icmpN_ge 34 rfl rfl (by omega) (by omega) (fun h12 => ?_) (fun hn => absurd (Nat.le_refl _) hn)
      refine run_ok 1 (c' := (35, [(0, .ref 23), (1, .int (nI x)), (2, .int (nI (cnt (fun k => decide (vis V k = x)) (tnb T)))), (3, .int (nI (tnb T)))], [.int (nI (cnt (fun k => decide (vis V k = x)) (tnb T)))], S)) rfl ?_
      exact x_ret (r := some (.int (nI (cnt (fun k => decide (vis V k = x)) (tnb T))))) rfl rfl trivial ⟨rfl, rfl⟩ rfl
    · intro i hi ih
      have q1 := (hv3 i (by omega)).1
      refine run_ok 2 (c' := (6, [(0, .ref 23), (1, .int (nI x)), (2, .int (nI (cnt (fun k => decide (vis V k = x)) i))), (3, .int (nI i))], [.ref 23, .int (nI i)], S)) rfl ?_
      refine x_gett (t := 14) rfl rfl htl ?_
      refine run_ok 1 (c' := (12, [(0, .ref 23), (1, .int (nI x)), (2, .int (nI (cnt (fun k => decide (vis V k = x)) i))), (3, .int (nI i))], [.int (S.1 14 6), .int (nI i)], S)) rfl ?_
      refine x_top (v' := nI (tnb T)) t9 ?_
      refine x_icmpN_ge 34 rfl rfl (by omega) (by omega) (fun hn => absurd hn (show ¬ tnb T ≤ i by omega)) (fun h12 => ?_)
      refine run_ok 3 (c' := (20, [(0, .ref 23), (1, .int (nI x)), (2, .int (nI (cnt (fun k => decide (vis V k = x)) i))), (3, .int (nI i))], [.int (nI i), .ref 25], S)) rfl ?_
      refine x_iaN (nI (vis V i)) rfl rfl (by decide) (by omega) (h25 i (by omega)) ?_
      refine run_ok 1 (c' := (22, [(0, .ref 23), (1, .int (nI x)), (2, .int (nI (cnt (fun k => decide (vis V k = x)) i))), (3, .int (nI i))], [.int (nI x), .int (nI (vis V i))], S)) rfl ?_
      refine x_icmpN_ne 28 rfl rfl (by omega) (by omega) (fun h22 => ?_) (fun h22 => ?_)
      · refine run_ok 1 (c' := (31, [(0, .ref 23), (1, .int (nI x)), (2, .int (nI (cnt (fun k => decide (vis V k = x)) i))), (3, .int (nI i + nI 1))], [], S)) rfl ?_
        rw [nI_add i 1]
        refine run_ok 1 (c' := (4, [(0, .ref 23), (1, .int (nI x)), (2, .int (nI (cnt (fun k => decide (vis V k = x)) i))), (3, .int (nI (i + 1)))], [], S)) rfl ?_
        rw [show cnt (fun k => decide (vis V k = x)) (i + 1) = cnt (fun k => decide (vis V k = x)) i from cnt_z (by simpa using h22)] at ih
        exact ih
      · refine run_ok 1 (c' := (28, [(0, .ref 23), (1, .int (nI x)), (2, .int (nI (cnt (fun k => decide (vis V k = x)) i) + nI 1)), (3, .int (nI i))], [], S)) rfl ?_
        rw [nI_add (cnt (fun k => decide (vis V k = x)) i) 1]
        refine run_ok 1 (c' := (31, [(0, .ref 23), (1, .int (nI x)), (2, .int (nI (cnt (fun k => decide (vis V k = x)) i + 1))), (3, .int (nI i + nI 1))], [], S)) rfl ?_
        rw [nI_add i 1]
        refine run_ok 1 (c' := (4, [(0, .ref 23), (1, .int (nI x)), (2, .int (nI (cnt (fun k => decide (vis V k = x)) i + 1))), (3, .int (nI (i + 1)))], [], S)) rfl ?_
        rw [show cnt (fun k => decide (vis V k = x)) (i + 1) = cnt (fun k => decide (vis V k = x)) i + 1 from cnt_s (by simpa using h22)] at ih
        exact ih
  refine run_ok 4 (c' := (4, [(0, .ref 23), (1, .int (nI x)), (2, .int (nI 0)), (3, .int (nI 0))], [], S)) rfl ?_
  exact H 0 (Nat.zero_le _)

set_option maxHeartbeats 2000000 in
theorem c_namesakes (S : ST) (T : TD) (V : VS) (ls : Nat → Nat) (hT : TR 5 T S) (hto : tok T) (hC : CR 5 T V ls S) (hV : vk T V) (p so : Nat) (hp : p < 8) (hso : so ≤ 1) : EX me_V_namesakes 0 [.ref 23, .int (nI p), .int (nI so)] S (fun r u => r = some (.int (nI (cnt (fun k => decide (vnm V k = p ∧ (so = 1 → vis V k = 2))) (tnb T)))) ∧ u = S) := by
  refine EX.of mok_V_namesakes (Nat.le_of_ble_eq_true rfl) ?_
  obtain ⟨n8, n9, hbt, het, hht, hlo⟩ := id hto
  obtain ⟨t1, t2, t3, t4, t5, t6, t7, t8, t9, t10, t11⟩ := id hT
  obtain ⟨h24, h25, h26, h27, h28, h29, hsr, g9, g10, g11, htl⟩ := id hC
  obtain ⟨hh9, hv3, hb9, hfw, hfb⟩ := id hV
  have H : ∀ i, i ≤ tnb T → BX me_V_namesakes 0 none (fun r u => r = some (.int (nI (cnt (fun k => decide (vnm V k = p ∧ (so = 1 → vis V k = 2))) (tnb T)))) ∧ u = S) (5, [(0, .ref 23), (1, .int (nI p)), (2, .int (nI so)), (3, .int (nI (cnt (fun k => decide (vnm V k = p ∧ (so = 1 → vis V k = 2))) i))), (4, .int (nI i))], [], S) := by
    refine loop_up (P := fun i => BX me_V_namesakes 0 none (fun r u => r = some (.int (nI (cnt (fun k => decide (vnm V k = p ∧ (so = 1 → vis V k = 2))) (tnb T)))) ∧ u = S) (5, [(0, .ref 23), (1, .int (nI p)), (2, .int (nI so)), (3, .int (nI (cnt (fun k => decide (vnm V k = p ∧ (so = 1 → vis V k = 2))) i))), (4, .int (nI i))], [], S)) (tnb T) ?_ ?_
    · skip
      refine run_ok 2 (c' := (8, [(0, .ref 23), (1, .int (nI p)), (2, .int (nI so)), (3, .int (nI (cnt (fun k => decide (vnm V k = p ∧ (so = 1 → vis V k = 2))) (tnb T)))), (4, .int (nI (tnb T)))], [.ref 23, .int (nI (tnb T))], S)) rfl ?_
      refine x_gett (t := 5) rfl rfl htl ?_
      refine run_ok 1 (c' := (14, [(0, .ref 23), (1, .int (nI p)), (2, .int (nI so)), (3, .int (nI (cnt (fun k => decide (vnm V k = p ∧ (so = 1 → vis V k = 2))) (tnb T)))), (4, .int (nI (tnb T)))], [.int (S.1 5 6), .int (nI (tnb T))], S)) rfl ?_
      refine x_top (v' := nI (tnb T)) t9 ?_
      refine x_icmpN_ge 52 rfl rfl (by omega) (by omega) (fun h14 => ?_) (fun hn => absurd (Nat.le_refl _) hn)
      refine run_ok 1 (c' := (53, [(0, .ref 23), (1, .int (nI p)), (2, .int (nI so)), (3, .int (nI (cnt (fun k => decide (vnm V k = p ∧ (so = 1 → vis V k = 2))) (tnb T)))), (4, .int (nI (tnb T)))], [.int (nI (cnt (fun k => decide (vnm V k = p ∧ (so = 1 → vis V k = 2))) (tnb T)))], S)) rfl ?_
      exact x_ret (r := some (.int (nI (cnt (fun k => decide (vnm V k = p ∧ (so = 1 → vis V k = 2))) (tnb T))))) rfl rfl trivial ⟨rfl, rfl⟩ rfl
    · intro i hi ih
      have q1 := (hv3 i (by omega)).1
      have q2 := (hv3 i (by omega)).2.1
      have e25 : nmv (vnm V i) = nI p → vnm V i = p := (nmv_eqp q2 hp).mp
      refine run_ok 2 (c' := (8, [(0, .ref 23), (1, .int (nI p)), (2, .int (nI so)), (3, .int (nI (cnt (fun k => decide (vnm V k = p ∧ (so = 1 → vis V k = 2))) i))), (4, .int (nI i))], [.ref 23, .int (nI i)], S)) rfl ?_
      refine x_gett (t := 5) rfl rfl htl ?_
      refine run_ok 1 (c' := (14, [(0, .ref 23), (1, .int (nI p)), (2, .int (nI so)), (3, .int (nI (cnt (fun k => decide (vnm V k = p ∧ (so = 1 → vis V k = 2))) i))), (4, .int (nI i))], [.int (S.1 5 6), .int (nI i)], S)) rfl ?_
      refine x_top (v' := nI (tnb T)) t9 ?_
      refine x_icmpN_ge 52 rfl rfl (by omega) (by omega) (fun hn => absurd hn (show ¬ tnb T ≤ i by omega)) (fun h14 => ?_)
      refine run_ok 3 (c' := (23, [(0, .ref 23), (1, .int (nI p)), (2, .int (nI so)), (3, .int (nI (cnt (fun k => decide (vnm V k = p ∧ (so = 1 → vis V k = 2))) i))), (4, .int (nI i))], [.int (nI i), .ref 26], S)) rfl ?_
      refine x_iaN (nmv (vnm V i)) rfl rfl (by decide) (by omega) (h26 i (by omega)) ?_
      refine run_ok 1 (c' := (25, [(0, .ref 23), (1, .int (nI p)), (2, .int (nI so)), (3, .int (nI (cnt (fun k => decide (vnm V k = p ∧ (so = 1 → vis V k = 2))) i))), (4, .int (nI i))], [.int (nI p), .int (nmv (vnm V i))], S)) rfl ?_
      refine x_icmp_ne 46 rfl rfl (fun h25b => ?_) (fun h25b => ?_)
      · refine run_ok 1 (c' := (49, [(0, .ref 23), (1, .int (nI p)), (2, .int (nI so)), (3, .int (nI (cnt (fun k => decide (vnm V k = p ∧ (so = 1 → vis V k = 2))) i))), (4, .int (nI i + nI 1))], [], S)) rfl ?_
        rw [nI_add i 1]
        refine run_ok 1 (c' := (5, [(0, .ref 23), (1, .int (nI p)), (2, .int (nI so)), (3, .int (nI (cnt (fun k => decide (vnm V k = p ∧ (so = 1 → vis V k = 2))) i))), (4, .int (nI (i + 1)))], [], S)) rfl ?_
        rw [show cnt (fun k => decide (vnm V k = p ∧ (so = 1 → vis V k = 2))) (i + 1) = cnt (fun k => decide (vnm V k = p ∧ (so = 1 → vis V k = 2))) i from cnt_z (decide_eq_false (by first | exact fun z => h40 (z.2 (by omega)) | exact fun z => h25b (by rw [z.1, nmv_lt hp])))] at ih
        exact ih
      · refine run_ok 1 (c' := (29, [(0, .ref 23), (1, .int (nI p)), (2, .int (nI so)), (3, .int (nI (cnt (fun k => decide (vnm V k = p ∧ (so = 1 → vis V k = 2))) i))), (4, .int (nI i))], [.int (nI so)], S)) rfl ?_
        refine x_ifN_eq 43 rfl rfl (by omega) (fun h29 => ?_) (fun h29 => ?_)
        · refine run_ok 1 (c' := (46, [(0, .ref 23), (1, .int (nI p)), (2, .int (nI so)), (3, .int (nI (cnt (fun k => decide (vnm V k = p ∧ (so = 1 → vis V k = 2))) i) + nI 1)), (4, .int (nI i))], [], S)) rfl ?_
          rw [nI_add (cnt (fun k => decide (vnm V k = p ∧ (so = 1 → vis V k = 2))) i) 1]
          refine run_ok 1 (c' := (49, [(0, .ref 23), (1, .int (nI p)), (2, .int (nI so)), (3, .int (nI (cnt (fun k => decide (vnm V k = p ∧ (so = 1 → vis V k = 2))) i + 1))), (4, .int (nI i + nI 1))], [], S)) rfl ?_
          rw [nI_add i 1]
          refine run_ok 1 (c' := (5, [(0, .ref 23), (1, .int (nI p)), (2, .int (nI so)), (3, .int (nI (cnt (fun k => decide (vnm V k = p ∧ (so = 1 → vis V k = 2))) i + 1))), (4, .int (nI (i + 1)))], [], S)) rfl ?_
          rw [show cnt (fun k => decide (vnm V k = p ∧ (so = 1 → vis V k = 2))) (i + 1) = cnt (fun k => decide (vnm V k = p ∧ (so = 1 → vis V k = 2))) i + 1 from cnt_s (decide_eq_true (by first | exact ⟨e25 h25b, fun _ => h40⟩ | exact ⟨e25 h25b, fun z => absurd z (by omega)⟩))] at ih
          exact ih
        · refine run_ok 3 (c' := (38, [(0, .ref 23), (1, .int (nI p)), (2, .int (nI so)), (3, .int (nI (cnt (fun k => decide (vnm V k = p ∧ (so = 1 → vis V k = 2))) i))), (4, .int (nI i))], [.int (nI i), .ref 25], S)) rfl ?_
          refine x_iaN (nI (vis V i)) rfl rfl (by decide) (by omega) (h25 i (by omega)) ?_
          refine run_ok 1 (c' := (40, [(0, .ref 23), (1, .int (nI p)), (2, .int (nI so)), (3, .int (nI (cnt (fun k => decide (vnm V k = p ∧ (so = 1 → vis V k = 2))) i))), (4, .int (nI i))], [.int (nI 2), .int (nI (vis V i))], S)) rfl ?_
          refine x_icmpN_ne 46 rfl rfl (by omega) (by omega) (fun h40 => ?_) (fun h40 => ?_)
          · refine run_ok 1 (c' := (49, [(0, .ref 23), (1, .int (nI p)), (2, .int (nI so)), (3, .int (nI (cnt (fun k => decide (vnm V k = p ∧ (so = 1 → vis V k = 2))) i))), (4, .int (nI i + nI 1))], [], S)) rfl ?_
            rw [nI_add i 1]
            refine run_ok 1 (c' := (5, [(0, .ref 23), (1, .int (nI p)), (2, .int (nI so)), (3, .int (nI (cnt (fun k => decide (vnm V k = p ∧ (so = 1 → vis V k = 2))) i))), (4, .int (nI (i + 1)))], [], S)) rfl ?_
            rw [show cnt (fun k => decide (vnm V k = p ∧ (so = 1 → vis V k = 2))) (i + 1) = cnt (fun k => decide (vnm V k = p ∧ (so = 1 → vis V k = 2))) i from cnt_z (decide_eq_false (by first | exact fun z => h40 (z.2 (by omega)) | exact fun z => h25b (by rw [z.1, nmv_lt hp])))] at ih
            exact ih
          · refine run_ok 1 (c' := (46, [(0, .ref 23), (1, .int (nI p)), (2, .int (nI so)), (3, .int (nI (cnt (fun k => decide (vnm V k = p ∧ (so = 1 → vis V k = 2))) i) + nI 1)), (4, .int (nI i))], [], S)) rfl ?_
            rw [nI_add (cnt (fun k => decide (vnm V k = p ∧ (so = 1 → vis V k = 2))) i) 1]
            refine run_ok 1 (c' := (49, [(0, .ref 23), (1, .int (nI p)), (2, .int (nI so)), (3, .int (nI (cnt (fun k => decide (vnm V k = p ∧ (so = 1 → vis V k = 2))) i + 1))), (4, .int (nI i + nI 1))], [], S)) rfl ?_
            rw [nI_add i 1]
            refine run_ok 1 (c' := (5, [(0, .ref 23), (1, .int (nI p)), (2, .int (nI so)), (3, .int (nI (cnt (fun k => decide (vnm V k = p ∧ (so = 1 → vis V k = 2))) i + 1))), (4, .int (nI (i + 1)))], [], S)) rfl ?_
            rw [show cnt (fun k => decide (vnm V k = p ∧ (so = 1 → vis V k = 2))) (i + 1) = cnt (fun k => decide (vnm V k = p ∧ (so = 1 → vis V k = 2))) i + 1 from cnt_s (decide_eq_true (by first | exact ⟨e25 h25b, fun _ => h40⟩ | exact ⟨e25 h25b, fun z => absurd z (by omega)⟩))] at ih
            exact ih
  refine run_ok 4 (c' := (5, [(0, .ref 23), (1, .int (nI p)), (2, .int (nI so)), (3, .int (nI 0)), (4, .int (nI 0))], [], S)) rfl ?_
  exact H 0 (Nat.zero_le _)

set_option maxHeartbeats 2000000 in
theorem c_nameBehind5 (S : ST) (T : TD) (V : VS) (ls : Nat → Nat) (hT : TR 5 T S) (hto : tok T) (hC : CR 5 T V ls S) (hV : vk T V) (w k : Nat) (hk : k < tnb T) (hw : w < 24) : EX me_V_nameBehind 0 [.ref 23, .int (nI w), .int (nI k)] S (fun r u => r = some (.int (nI (nmb T V w k))) ∧ u = S) := by
  refine EX.of mok_V_nameBehind (Nat.le_of_ble_eq_true rfl) ?_
  obtain ⟨n8, n9, hbt, het, hht, hlo⟩ := id hto
  obtain ⟨t1, t2, t3, t4, t5, t6, t7, t8, t9, t10, t11⟩ := id hT
  obtain ⟨h24, h25, h26, h27, h28, h29, hsr, g9, g10, g11, htl⟩ := id hC
  obtain ⟨hh9, hv3, hb9, hfw, hfb⟩ := id hV
  have q2 := (hv3 k (by omega)).2.1
  have q3 := (hbt k hk).2.2.1
  refine run_ok 1 (c' := (1, [(0, .ref 23), (1, .int (nI w)), (2, .int (nI k))], [.ref 23], S)) rfl ?_
  refine x_gett (t := 5) rfl rfl htl ?_
  refine run_ok 2 (c' := (8, [(0, .ref 23), (1, .int (nI w)), (2, .int (nI k))], [.int (nI k), .ref 9], S)) rfl ?_
  refine x_iaN (nI (tla T k)) rfl rfl (by decide) (by omega) (t4 k (by omega)) ?_
  refine run_ok 1 (c' := (10, [(0, .ref 23), (1, .int (nI w)), (2, .int (nI k))], [.int (nI w), .int (nI (tla T k))], S)) rfl ?_
  refine x_icmpN_gt 27 rfl rfl (by omega) (by omega) (fun h10 => ?_) (fun h10 => ?_)
  · refine run_ok 2 (c' := (29, [(0, .ref 23), (1, .int (nI w)), (2, .int (nI k)), (3, .int (nI 0))], [], S)) rfl ?_
    refine run_ok 1 (c' := (30, [(0, .ref 23), (1, .int (nI w)), (2, .int (nI k)), (3, .int (nI 0))], [.int (nI 0)], S)) rfl ?_
    refine x_ifN_eq 42 rfl rfl (by omega) (fun h30 => ?_) (fun hn => absurd rfl hn)
    refine run_ok 1 (c' := (44, [(0, .ref 23), (1, .int (nI w)), (2, .int (nI k)), (3, .int (nI 0))], [.int (nI 8)], S)) rfl ?_
    exact x_ret (r := some (.int (nI 8))) rfl rfl trivial ⟨congrArg (fun z => some (Value.int (nI z))) (show nmb T V w k = 8 from if_neg (fun z => by first | exact absurd z.1 (by omega) | exact z.2 ((nmv_n1 q2).mp h20))).symm, rfl⟩ rfl
  · refine run_ok 3 (c' := (18, [(0, .ref 23), (1, .int (nI w)), (2, .int (nI k))], [.int (nI k), .ref 26], S)) rfl ?_
    refine x_iaN (nmv (vnm V k)) rfl rfl (by decide) (by omega) (h26 k (by omega)) ?_
    refine run_ok 1 (c' := (20, [(0, .ref 23), (1, .int (nI w)), (2, .int (nI k))], [.int (-1), .int (nmv (vnm V k))], S)) rfl ?_
    refine x_icmp_eq 27 rfl rfl (fun h20 => ?_) (fun h20 => ?_)
    · refine run_ok 2 (c' := (29, [(0, .ref 23), (1, .int (nI w)), (2, .int (nI k)), (3, .int (nI 0))], [], S)) rfl ?_
      refine run_ok 1 (c' := (30, [(0, .ref 23), (1, .int (nI w)), (2, .int (nI k)), (3, .int (nI 0))], [.int (nI 0)], S)) rfl ?_
      refine x_ifN_eq 42 rfl rfl (by omega) (fun h30 => ?_) (fun hn => absurd rfl hn)
      refine run_ok 1 (c' := (44, [(0, .ref 23), (1, .int (nI w)), (2, .int (nI k)), (3, .int (nI 0))], [.int (nI 8)], S)) rfl ?_
      exact x_ret (r := some (.int (nI 8))) rfl rfl trivial ⟨congrArg (fun z => some (Value.int (nI z))) (show nmb T V w k = 8 from if_neg (fun z => by first | exact absurd z.1 (by omega) | exact z.2 ((nmv_n1 q2).mp h20))).symm, rfl⟩ rfl
    · have e8 : vnm V k ≠ 8 := fun z => h20 ((nmv_n1 q2).mpr z)
      refine run_ok 3 (c' := (29, [(0, .ref 23), (1, .int (nI w)), (2, .int (nI k)), (3, .int (nI 1))], [], S)) rfl ?_
      refine run_ok 1 (c' := (30, [(0, .ref 23), (1, .int (nI w)), (2, .int (nI k)), (3, .int (nI 1))], [.int (nI 1)], S)) rfl ?_
      refine x_ifN_eq 42 rfl rfl (by omega) (fun hn => absurd hn (by omega)) (fun h30 => ?_)
      refine run_ok 3 (c' := (38, [(0, .ref 23), (1, .int (nI w)), (2, .int (nI k)), (3, .int (nI 1))], [.int (nI k), .ref 26], S)) rfl ?_
      refine x_iaN (nmv (vnm V k)) rfl rfl (by decide) (by omega) (h26 k (by omega)) ?_
      refine run_ok 1 (c' := (44, [(0, .ref 23), (1, .int (nI w)), (2, .int (nI k)), (3, .int (nI 1))], [.int (nmv (vnm V k))], S)) rfl ?_
      exact x_ret (r := some (.int (nmv (vnm V k)))) rfl rfl trivial ⟨congrArg (fun z => some (Value.int z)) (by rw [show nmb T V w k = vnm V k from if_pos ⟨by omega, e8⟩]; exact nmv_lt (by omega)), rfl⟩ rfl

set_option maxHeartbeats 2000000 in
theorem c_nameBehind14 (S : ST) (T : TD) (V : VS) (ls : Nat → Nat) (hT : TR 14 T S) (hto : tok T) (hC : CR 14 T V ls S) (hV : vk T V) (w k : Nat) (hk : k < tnb T) (hw : w < 24) : EX me_V_nameBehind 0 [.ref 23, .int (nI w), .int (nI k)] S (fun r u => r = some (.int (nI (nmb T V w k))) ∧ u = S) := by
  refine EX.of mok_V_nameBehind (Nat.le_of_ble_eq_true rfl) ?_
  obtain ⟨n8, n9, hbt, het, hht, hlo⟩ := id hto
  obtain ⟨t1, t2, t3, t4, t5, t6, t7, t8, t9, t10, t11⟩ := id hT
  obtain ⟨h24, h25, h26, h27, h28, h29, hsr, g9, g10, g11, htl⟩ := id hC
  obtain ⟨hh9, hv3, hb9, hfw, hfb⟩ := id hV
  have q2 := (hv3 k (by omega)).2.1
  have q3 := (hbt k hk).2.2.1
  refine run_ok 1 (c' := (1, [(0, .ref 23), (1, .int (nI w)), (2, .int (nI k))], [.ref 23], S)) rfl ?_
  refine x_gett (t := 14) rfl rfl htl ?_
  refine run_ok 2 (c' := (8, [(0, .ref 23), (1, .int (nI w)), (2, .int (nI k))], [.int (nI k), .ref 18], S)) rfl ?_
  refine x_iaN (nI (tla T k)) rfl rfl (by decide) (by omega) (t4 k (by omega)) ?_
  refine run_ok 1 (c' := (10, [(0, .ref 23), (1, .int (nI w)), (2, .int (nI k))], [.int (nI w), .int (nI (tla T k))], S)) rfl ?_
  refine x_icmpN_gt 27 rfl rfl (by omega) (by omega) (fun h10 => ?_) (fun h10 => ?_)
  · refine run_ok 2 (c' := (29, [(0, .ref 23), (1, .int (nI w)), (2, .int (nI k)), (3, .int (nI 0))], [], S)) rfl ?_
    refine run_ok 1 (c' := (30, [(0, .ref 23), (1, .int (nI w)), (2, .int (nI k)), (3, .int (nI 0))], [.int (nI 0)], S)) rfl ?_
    refine x_ifN_eq 42 rfl rfl (by omega) (fun h30 => ?_) (fun hn => absurd rfl hn)
    refine run_ok 1 (c' := (44, [(0, .ref 23), (1, .int (nI w)), (2, .int (nI k)), (3, .int (nI 0))], [.int (nI 8)], S)) rfl ?_
    exact x_ret (r := some (.int (nI 8))) rfl rfl trivial ⟨congrArg (fun z => some (Value.int (nI z))) (show nmb T V w k = 8 from if_neg (fun z => by first | exact absurd z.1 (by omega) | exact z.2 ((nmv_n1 q2).mp h20))).symm, rfl⟩ rfl
  · refine run_ok 3 (c' := (18, [(0, .ref 23), (1, .int (nI w)), (2, .int (nI k))], [.int (nI k), .ref 26], S)) rfl ?_
    refine x_iaN (nmv (vnm V k)) rfl rfl (by decide) (by omega) (h26 k (by omega)) ?_
    refine run_ok 1 (c' := (20, [(0, .ref 23), (1, .int (nI w)), (2, .int (nI k))], [.int (-1), .int (nmv (vnm V k))], S)) rfl ?_
    refine x_icmp_eq 27 rfl rfl (fun h20 => ?_) (fun h20 => ?_)
    · refine run_ok 2 (c' := (29, [(0, .ref 23), (1, .int (nI w)), (2, .int (nI k)), (3, .int (nI 0))], [], S)) rfl ?_
      refine run_ok 1 (c' := (30, [(0, .ref 23), (1, .int (nI w)), (2, .int (nI k)), (3, .int (nI 0))], [.int (nI 0)], S)) rfl ?_
      refine x_ifN_eq 42 rfl rfl (by omega) (fun h30 => ?_) (fun hn => absurd rfl hn)
      refine run_ok 1 (c' := (44, [(0, .ref 23), (1, .int (nI w)), (2, .int (nI k)), (3, .int (nI 0))], [.int (nI 8)], S)) rfl ?_
      exact x_ret (r := some (.int (nI 8))) rfl rfl trivial ⟨congrArg (fun z => some (Value.int (nI z))) (show nmb T V w k = 8 from if_neg (fun z => by first | exact absurd z.1 (by omega) | exact z.2 ((nmv_n1 q2).mp h20))).symm, rfl⟩ rfl
    · have e8 : vnm V k ≠ 8 := fun z => h20 ((nmv_n1 q2).mpr z)
      refine run_ok 3 (c' := (29, [(0, .ref 23), (1, .int (nI w)), (2, .int (nI k)), (3, .int (nI 1))], [], S)) rfl ?_
      refine run_ok 1 (c' := (30, [(0, .ref 23), (1, .int (nI w)), (2, .int (nI k)), (3, .int (nI 1))], [.int (nI 1)], S)) rfl ?_
      refine x_ifN_eq 42 rfl rfl (by omega) (fun hn => absurd hn (by omega)) (fun h30 => ?_)
      refine run_ok 3 (c' := (38, [(0, .ref 23), (1, .int (nI w)), (2, .int (nI k)), (3, .int (nI 1))], [.int (nI k), .ref 26], S)) rfl ?_
      refine x_iaN (nmv (vnm V k)) rfl rfl (by decide) (by omega) (h26 k (by omega)) ?_
      refine run_ok 1 (c' := (44, [(0, .ref 23), (1, .int (nI w)), (2, .int (nI k)), (3, .int (nI 1))], [.int (nmv (vnm V k))], S)) rfl ?_
      exact x_ret (r := some (.int (nmv (vnm V k)))) rfl rfl trivial ⟨congrArg (fun z => some (Value.int z)) (by rw [show nmb T V w k = vnm V k from if_pos ⟨by omega, e8⟩]; exact nmv_lt (by omega)), rfl⟩ rfl
end
section
/-! rows of names, sightings, the best, what a telling does -/
theorem fa_and (a b : Nat) : nI a &&& nI b = nI (a &&& b) := by
  apply Int32.toBitVec_inj.1
  show BitVec.ofNat 32 a &&& BitVec.ofNat 32 b = BitVec.ofNat 32 (a &&& b)
  apply BitVec.eq_of_getLsbD_eq
  intro i hi
  simp [hi]
theorem fa_or (a b : Nat) : nI a ||| nI b = nI (a ||| b) := by
  apply Int32.toBitVec_inj.1
  show BitVec.ofNat 32 a ||| BitVec.ofNat 32 b = BitVec.ofNat 32 (a ||| b)
  apply BitVec.eq_of_getLsbD_eq
  intro i hi
  simp [hi]
theorem or_up {a b k : Nat} (ha : a < 2 ^ k) (hk : k < 32) (hb : b * 2 ^ k < 2 ^ 32) : nI a ||| (nI b <<< (nI k &&& 31)) = nI (a + b * 2 ^ k) := by
  rw [pk_shlN _ k (sl32 k hk) hb, fa_or]
  congr 1
  rw [Nat.or_comm, Nat.mul_comm b, ← Nat.two_pow_add_eq_or_of_lt ha]
  omega
theorem p16 (k : Nat) : 16 ^ k = 2 ^ (4 * k) := by rw [show (16 : Nat) = 2 ^ 4 from rfl, ← Nat.pow_mul]
theorem nro_lt {f : Nat → Nat} : ∀ {n : Nat}, (∀ k, k < n → f k < 16) → nro f n < 16 ^ n := by
  intro n
  induction n with
  | zero => intro _; exact Nat.one_pos
  | succ n ih =>
    intro h
    have h1 := ih (fun k hk => h k (by omega))
    have h2 := h n (by omega)
    have h3 : f n * 16 ^ n ≤ 15 * 16 ^ n := Nat.mul_le_mul_right _ (by omega)
    show nro f n + f n * 16 ^ n < 16 ^ (n + 1)
    rw [Nat.pow_succ]
    omega
theorem p16_8 {i : Nat} (h : i < 8) : 16 * 16 ^ i ≤ 4294967296 := by
  have : 16 ^ (i + 1) ≤ 16 ^ 8 := Nat.pow_le_pow_right (by decide) (by omega)
  rw [Nat.pow_succ] at this
  omega
theorem nro_or {a b i : Nat} (ha : a < 16 ^ i) (hb : b < 16) (hi : i < 8) : nI a ||| (nI b <<< (nI (4 * i) &&& 31)) = nI (a + b * 16 ^ i) := by
  rw [p16] at ha ⊢
  refine or_up ha (by omega) ?_
  rw [← p16]
  have h1 := p16_8 hi
  have h2 : b * 16 ^ i ≤ 15 * 16 ^ i := Nat.mul_le_mul_right _ (by omega)
  have h3 : 0 < 16 ^ i := Nat.pos_of_ne_zero (by simp)
  omega
theorem nmb_le {T : TD} {V : VS} {w k : Nat} (h : vnm V k ≤ 8) : nmb T V w k ≤ 8 := by
  unfold nmb
  split <;> omega
/-- what was seen: how many; week, boat, person -/
abbrev SD : Type := Nat × (Nat → Nat) × (Nat → Nat) × (Nat → Nat)
def sok (G : SD) : Prop := G.1 ≤ 8 ∧ ∀ i, i < G.1 → G.2.1 i < 24 ∧ G.2.2.1 i < 8 ∧ G.2.2.2 i ≤ 8
def SR (G : SD) (u : ST) : Prop := u.1 32 3 = nI G.1 ∧ rh u 33 G.1 G.2.1 ∧ rh u 34 G.1 G.2.2.1 ∧ rh u 35 G.1 G.2.2.2
def fitb (T : TD) (V : VS) (G : SD) : Nat → Bool
  | 0 => true
  | n + 1 => fitb T V G n && decide (G.2.2.1 n < tnb T ∧ nmb T V (G.2.1 n) (G.2.2.1 n) = G.2.2.2 n)
theorem fitb_no {T : TD} {V : VS} {G : SD} {i : Nat} (h : ¬ (G.2.2.1 i < tnb T ∧ nmb T V (G.2.1 i) (G.2.2.1 i) = G.2.2.2 i)) : ∀ n, i < n → fitb T V G n = false := by
  intro n
  induction n with
  | zero => intro h; omega
  | succ n ih =>
    intro hn
    unfold fitb
    by_cases e : i = n
    · subst e
      rw [decide_eq_false h, Bool.and_false]
    · rw [ih (by omega), Bool.false_and]
theorem fitb_yes {T : TD} {V : VS} {G : SD} {i : Nat} (h0 : fitb T V G i = true) (h : G.2.2.1 i < tnb T ∧ nmb T V (G.2.1 i) (G.2.2.1 i) = G.2.2.2 i) : fitb T V G (i + 1) = true := by
  unfold fitb
  rw [h0, decide_eq_true h]
  rfl
theorem SR.keep {G : SD} {u v : ST} {ks : List Nat} (h : SR G u) (hf : fr ks u v) (hk : ∀ i, i < 4 → 32 + i ∉ ks) : SR G v :=
  ⟨by rw [hf 32 (hk 0 (by omega))]; exact h.1, h.2.1.keep hf (hk 1 (by omega)), h.2.2.1.keep hf (hk 2 (by omega)), h.2.2.2.keep hf (hk 3 (by omega))⟩
set_option maxHeartbeats 2000000 in
theorem c_nameRow5 (S : ST) (T : TD) (V : VS) (ls : Nat → Nat) (hT : TR 5 T S) (hto : tok T) (hC : CR 5 T V ls S) (hV : vk T V) : EX me_V_nameRow 1 [.ref 23] S (fun r u => r = some (.int (nI (nro (nmb T V 23) (tnb T)))) ∧ u = S) := by
  refine EX.of mok_V_nameRow (Nat.le_of_ble_eq_true rfl) ?_
  obtain ⟨n8, n9, hbt, het, hht, hlo⟩ := id hto
  obtain ⟨t1, t2, t3, t4, t5, t6, t7, t8, t9, t10, t11⟩ := id hT
  obtain ⟨h24, h25, h26, h27, h28, h29, hsr, g9, g10, g11, htl⟩ := id hC
  obtain ⟨hh9, hv3, hb9, hfw, hfb⟩ := id hV
  have H : ∀ i, i ≤ tnb T → BX me_V_nameRow 1 none (fun r u => r = some (.int (nI (nro (nmb T V 23) (tnb T)))) ∧ u = S) (4, [(0, .ref 23), (1, .int (nI (nro (nmb T V 23) i))), (2, .int (nI i))], [], S) := by
    refine loop_up (P := fun i => BX me_V_nameRow 1 none (fun r u => r = some (.int (nI (nro (nmb T V 23) (tnb T)))) ∧ u = S) (4, [(0, .ref 23), (1, .int (nI (nro (nmb T V 23) i))), (2, .int (nI i))], [], S)) (tnb T) ?_ ?_
    · skip
      refine run_ok 2 (c' := (6, [(0, .ref 23), (1, .int (nI (nro (nmb T V 23) (tnb T)))), (2, .int (nI (tnb T)))], [.ref 23, .int (nI (tnb T))], S)) rfl ?_
      refine x_gett (t := 5) rfl rfl htl ?_
      refine run_ok 1 (c' := (12, [(0, .ref 23), (1, .int (nI (nro (nmb T V 23) (tnb T)))), (2, .int (nI (tnb T)))], [.int (S.1 5 6), .int (nI (tnb T))], S)) rfl ?_
      refine x_top (v' := nI (tnb T)) t9 ?_
      refine x_icmpN_ge 35 rfl rfl (by omega) (by omega) (fun h12 => ?_) (fun hn => absurd (Nat.le_refl _) hn)
      refine run_ok 1 (c' := (36, [(0, .ref 23), (1, .int (nI (nro (nmb T V 23) (tnb T)))), (2, .int (nI (tnb T)))], [.int (nI (nro (nmb T V 23) (tnb T)))], S)) rfl ?_
      exact x_ret (r := some (.int (nI (nro (nmb T V 23) (tnb T))))) rfl rfl trivial ⟨rfl, rfl⟩ rfl
    · intro i hi ih
      have q1 := nmb_le (T := T) (w := 23) (hv3 i (by omega)).2.1
      refine run_ok 2 (c' := (6, [(0, .ref 23), (1, .int (nI (nro (nmb T V 23) i))), (2, .int (nI i))], [.ref 23, .int (nI i)], S)) rfl ?_
      refine x_gett (t := 5) rfl rfl htl ?_
      refine run_ok 1 (c' := (12, [(0, .ref 23), (1, .int (nI (nro (nmb T V 23) i))), (2, .int (nI i))], [.int (S.1 5 6), .int (nI i)], S)) rfl ?_
      refine x_top (v' := nI (tnb T)) t9 ?_
      refine x_icmpN_ge 35 rfl rfl (by omega) (by omega) (fun hn => absurd hn (show ¬ tnb T ≤ i by omega)) (fun h12 => ?_)
      refine run_ok 4 (c' := (20, [(0, .ref 23), (1, .int (nI (nro (nmb T V 23) i))), (2, .int (nI i))], [.int (nI i), .int (nI 23), .ref 23, .int (nI (nro (nmb T V 23) i))], S)) rfl ?_
      refine x_callV [.int (nI 23), .int (nI i)] rfl cv_V_nameBehind.1 lk_5_131 cv_V_nameBehind.2.1 cv_V_nameBehind.2.2.1 rfl cv_V_nameBehind.2.2.2.1 rfl rfl (Nat.le_of_ble_eq_true rfl) (by decide) cv_V_nameBehind.2.2.2.2 (c_nameBehind5 S T V ls hT hto hC hV 23 i hi (by omega)) ?_
      rintro r u ⟨hr, hu⟩
      rw [hr, hu]
      clear hr hu r u
      refine run_ok 3 (c' := (26, [(0, .ref 23), (1, .int (nI (nro (nmb T V 23) i))), (2, .int (nI i))], [.int ((nI 4) * (nI i)), .int (nI (nmb T V 23 i)), .int (nI (nro (nmb T V 23) i))], S)) rfl ?_
      refine x_top (v' := nI (4 * i)) (pk_mul _ _) ?_
      refine run_ok 2 (c' := (28, [(0, .ref 23), (1, .int (nI (nro (nmb T V 23) i))), (2, .int (nI i))], [.int ((nI (nro (nmb T V 23) i)) ||| ((nI (nmb T V 23 i)) <<< ((nI (4 * i)) &&& 31)))], S)) rfl ?_
      refine x_top (v' := nI (nro (nmb T V 23) i + nmb T V 23 i * 16 ^ i)) (nro_or (nro_lt (fun k hk => by have := nmb_le (T := T) (w := 23) (hv3 k (by omega)).2.1; omega)) (by omega) (by omega)) ?_
      refine run_ok 2 (c' := (32, [(0, .ref 23), (1, .int (nI (nro (nmb T V 23) i + nmb T V 23 i * 16 ^ i))), (2, .int (nI i + nI 1))], [], S)) rfl ?_
      rw [nI_add i 1]
      refine run_ok 1 (c' := (4, [(0, .ref 23), (1, .int (nI (nro (nmb T V 23) i + nmb T V 23 i * 16 ^ i))), (2, .int (nI (i + 1)))], [], S)) rfl ?_
      rw [show nro (nmb T V 23) i + nmb T V 23 i * 16 ^ i = nro (nmb T V 23) (i + 1) from rfl]
      exact ih
  refine run_ok 4 (c' := (4, [(0, .ref 23), (1, .int (nI 0)), (2, .int (nI 0))], [], S)) rfl ?_
  exact H 0 (Nat.zero_le _)

set_option maxHeartbeats 2000000 in
theorem c_nameRow14 (S : ST) (T : TD) (V : VS) (ls : Nat → Nat) (hT : TR 14 T S) (hto : tok T) (hC : CR 14 T V ls S) (hV : vk T V) : EX me_V_nameRow 1 [.ref 23] S (fun r u => r = some (.int (nI (nro (nmb T V 23) (tnb T)))) ∧ u = S) := by
  refine EX.of mok_V_nameRow (Nat.le_of_ble_eq_true rfl) ?_
  obtain ⟨n8, n9, hbt, het, hht, hlo⟩ := id hto
  obtain ⟨t1, t2, t3, t4, t5, t6, t7, t8, t9, t10, t11⟩ := id hT
  obtain ⟨h24, h25, h26, h27, h28, h29, hsr, g9, g10, g11, htl⟩ := id hC
  obtain ⟨hh9, hv3, hb9, hfw, hfb⟩ := id hV
  have H : ∀ i, i ≤ tnb T → BX me_V_nameRow 1 none (fun r u => r = some (.int (nI (nro (nmb T V 23) (tnb T)))) ∧ u = S) (4, [(0, .ref 23), (1, .int (nI (nro (nmb T V 23) i))), (2, .int (nI i))], [], S) := by
    refine loop_up (P := fun i => BX me_V_nameRow 1 none (fun r u => r = some (.int (nI (nro (nmb T V 23) (tnb T)))) ∧ u = S) (4, [(0, .ref 23), (1, .int (nI (nro (nmb T V 23) i))), (2, .int (nI i))], [], S)) (tnb T) ?_ ?_
    · skip
      refine run_ok 2 (c' := (6, [(0, .ref 23), (1, .int (nI (nro (nmb T V 23) (tnb T)))), (2, .int (nI (tnb T)))], [.ref 23, .int (nI (tnb T))], S)) rfl ?_
      refine x_gett (t := 14) rfl rfl htl ?_
      refine run_ok 1 (c' := (12, [(0, .ref 23), (1, .int (nI (nro (nmb T V 23) (tnb T)))), (2, .int (nI (tnb T)))], [.int (S.1 14 6), .int (nI (tnb T))], S)) rfl ?_
      refine x_top (v' := nI (tnb T)) t9 ?_
      refine x_icmpN_ge 35 rfl rfl (by omega) (by omega) (fun h12 => ?_) (fun hn => absurd (Nat.le_refl _) hn)
      refine run_ok 1 (c' := (36, [(0, .ref 23), (1, .int (nI (nro (nmb T V 23) (tnb T)))), (2, .int (nI (tnb T)))], [.int (nI (nro (nmb T V 23) (tnb T)))], S)) rfl ?_
      exact x_ret (r := some (.int (nI (nro (nmb T V 23) (tnb T))))) rfl rfl trivial ⟨rfl, rfl⟩ rfl
    · intro i hi ih
      have q1 := nmb_le (T := T) (w := 23) (hv3 i (by omega)).2.1
      refine run_ok 2 (c' := (6, [(0, .ref 23), (1, .int (nI (nro (nmb T V 23) i))), (2, .int (nI i))], [.ref 23, .int (nI i)], S)) rfl ?_
      refine x_gett (t := 14) rfl rfl htl ?_
      refine run_ok 1 (c' := (12, [(0, .ref 23), (1, .int (nI (nro (nmb T V 23) i))), (2, .int (nI i))], [.int (S.1 14 6), .int (nI i)], S)) rfl ?_
      refine x_top (v' := nI (tnb T)) t9 ?_
      refine x_icmpN_ge 35 rfl rfl (by omega) (by omega) (fun hn => absurd hn (show ¬ tnb T ≤ i by omega)) (fun h12 => ?_)
      refine run_ok 4 (c' := (20, [(0, .ref 23), (1, .int (nI (nro (nmb T V 23) i))), (2, .int (nI i))], [.int (nI i), .int (nI 23), .ref 23, .int (nI (nro (nmb T V 23) i))], S)) rfl ?_
      refine x_callV [.int (nI 23), .int (nI i)] rfl cv_V_nameBehind.1 lk_5_131 cv_V_nameBehind.2.1 cv_V_nameBehind.2.2.1 rfl cv_V_nameBehind.2.2.2.1 rfl rfl (Nat.le_of_ble_eq_true rfl) (by decide) cv_V_nameBehind.2.2.2.2 (c_nameBehind14 S T V ls hT hto hC hV 23 i hi (by omega)) ?_
      rintro r u ⟨hr, hu⟩
      rw [hr, hu]
      clear hr hu r u
      refine run_ok 3 (c' := (26, [(0, .ref 23), (1, .int (nI (nro (nmb T V 23) i))), (2, .int (nI i))], [.int ((nI 4) * (nI i)), .int (nI (nmb T V 23 i)), .int (nI (nro (nmb T V 23) i))], S)) rfl ?_
      refine x_top (v' := nI (4 * i)) (pk_mul _ _) ?_
      refine run_ok 2 (c' := (28, [(0, .ref 23), (1, .int (nI (nro (nmb T V 23) i))), (2, .int (nI i))], [.int ((nI (nro (nmb T V 23) i)) ||| ((nI (nmb T V 23 i)) <<< ((nI (4 * i)) &&& 31)))], S)) rfl ?_
      refine x_top (v' := nI (nro (nmb T V 23) i + nmb T V 23 i * 16 ^ i)) (nro_or (nro_lt (fun k hk => by have := nmb_le (T := T) (w := 23) (hv3 k (by omega)).2.1; omega)) (by omega) (by omega)) ?_
      refine run_ok 2 (c' := (32, [(0, .ref 23), (1, .int (nI (nro (nmb T V 23) i + nmb T V 23 i * 16 ^ i))), (2, .int (nI i + nI 1))], [], S)) rfl ?_
      rw [nI_add i 1]
      refine run_ok 1 (c' := (4, [(0, .ref 23), (1, .int (nI (nro (nmb T V 23) i + nmb T V 23 i * 16 ^ i))), (2, .int (nI (i + 1)))], [], S)) rfl ?_
      rw [show nro (nmb T V 23) i + nmb T V 23 i * 16 ^ i = nro (nmb T V 23) (i + 1) from rfl]
      exact ih
  refine run_ok 4 (c' := (4, [(0, .ref 23), (1, .int (nI 0)), (2, .int (nI 0))], [], S)) rfl ?_
  exact H 0 (Nat.zero_le _)

set_option maxHeartbeats 2000000 in
theorem c_fit (S : ST) (T : TD) (V : VS) (ls : Nat → Nat) (hT : TR 14 T S) (hto : tok T) (hC : CR 14 T V ls S) (hV : vk T V) (G : SD) (hg : SR G S) (hgo : sok G) : EX me_G_fit 1 [.ref 32, .ref 23] S (fun r u => r = some (.int (b2 (fitb T V G G.1 = true))) ∧ u = S) := by
  refine EX.of mok_G_fit (Nat.le_of_ble_eq_true rfl) ?_
  obtain ⟨n8, n9, hbt, het, hht, hlo⟩ := id hto
  obtain ⟨t1, t2, t3, t4, t5, t6, t7, t8, t9, t10, t11⟩ := id hT
  obtain ⟨h24, h25, h26, h27, h28, h29, hsr, g9, g10, g11, htl⟩ := id hC
  obtain ⟨hh9, hv3, hb9, hfw, hfb⟩ := id hV
  have qg := hgo.1
  have H : ∀ i, i ≤ G.1 → fitb T V G i = true → BX me_G_fit 1 none (fun r u => r = some (.int (b2 (fitb T V G G.1 = true))) ∧ u = S) (2, [(0, .ref 32), (1, .ref 23), (2, .int (nI i))], [], S) := by
    refine loop_up (P := fun i => fitb T V G i = true → BX me_G_fit 1 none (fun r u => r = some (.int (b2 (fitb T V G G.1 = true))) ∧ u = S) (2, [(0, .ref 32), (1, .ref 23), (2, .int (nI i))], [], S)) G.1 ?_ ?_
    · intro hfb
      refine run_ok 3 (c' := (7, [(0, .ref 32), (1, .ref 23), (2, .int (nI G.1))], [.int (S.1 32 3), .int (nI G.1)], S)) rfl ?_
      refine x_top (v' := nI G.1) hg.1 ?_
      refine x_icmpN_ge 69 rfl rfl (by omega) (by omega) (fun h7 => ?_) (fun hn => absurd (Nat.le_refl _) hn)
      refine run_ok 1 (c' := (70, [(0, .ref 32), (1, .ref 23), (2, .int (nI G.1))], [.int (nI 1)], S)) rfl ?_
      exact x_ret (r := some (.int (nI 1))) rfl rfl (Or.inr rfl) ⟨congrArg (fun z => some (Value.int z)) (b2_t hfb).symm, rfl⟩ rfl
    · intro i hi ih hfb
      have q1 := hgo.2 i hi
      have q2 := nmb_le (T := T) (w := G.2.1 i) (hv3 (G.2.2.1 i) q1.2.1).2.1
      refine run_ok 3 (c' := (7, [(0, .ref 32), (1, .ref 23), (2, .int (nI i))], [.int (S.1 32 3), .int (nI i)], S)) rfl ?_
      refine x_top (v' := nI G.1) hg.1 ?_
      refine x_icmpN_ge 69 rfl rfl (by omega) (by omega) (fun hn => absurd hn (show ¬ G.1 ≤ i by omega)) (fun h7 => ?_)
      refine run_ok 3 (c' := (15, [(0, .ref 32), (1, .ref 23), (2, .int (nI i))], [.int (nI i), .ref 34], S)) rfl ?_
      refine x_iaN (nI (G.2.2.1 i)) rfl rfl (by decide) (by omega) (hg.2.2.1 i (by omega)) ?_
      refine run_ok 1 (c' := (17, [(0, .ref 32), (1, .ref 23), (2, .int (nI i))], [.ref 23, .int (nI (G.2.2.1 i))], S)) rfl ?_
      refine x_gett (t := 14) rfl rfl htl ?_
      refine run_ok 1 (c' := (23, [(0, .ref 32), (1, .ref 23), (2, .int (nI i))], [.int (S.1 14 6), .int (nI (G.2.2.1 i))], S)) rfl ?_
      refine x_top (v' := nI (tnb T)) t9 ?_
      refine x_icmpN_ge 30 rfl rfl (by omega) (by omega) (fun h23 => ?_) (fun h23 => ?_)
      · refine run_ok 2 (c' := (32, [(0, .ref 32), (1, .ref 23), (2, .int (nI i)), (3, .int (nI 0))], [], S)) rfl ?_
        refine run_ok 1 (c' := (33, [(0, .ref 32), (1, .ref 23), (2, .int (nI i)), (3, .int (nI 0))], [.int (nI 0)], S)) rfl ?_
        refine x_ifN_eq 61 rfl rfl (by omega) (fun h33 => ?_) (fun hn => absurd rfl hn)
        refine run_ok 1 (c' := (62, [(0, .ref 32), (1, .ref 23), (2, .int (nI i)), (3, .int (nI 0))], [.int (nI 0)], S)) rfl ?_
        exact x_ret (r := some (.int (nI 0))) rfl rfl (Or.inl rfl) ⟨congrArg (fun z => some (Value.int z)) (b2_f (by rw [fitb_no (i := i) (by first | exact fun z => h58 z.2 | exact fun z => absurd z.1 (by omega)) G.1 hi]; decide)).symm, rfl⟩ rfl
      · refine run_ok 3 (c' := (32, [(0, .ref 32), (1, .ref 23), (2, .int (nI i)), (3, .int (nI 1))], [], S)) rfl ?_
        refine run_ok 1 (c' := (33, [(0, .ref 32), (1, .ref 23), (2, .int (nI i)), (3, .int (nI 1))], [.int (nI 1)], S)) rfl ?_
        refine x_ifN_eq 61 rfl rfl (by omega) (fun hn => absurd hn (by omega)) (fun h33 => ?_)
        refine run_ok 4 (c' := (42, [(0, .ref 32), (1, .ref 23), (2, .int (nI i)), (3, .int (nI 1))], [.int (nI i), .ref 33, .ref 23], S)) rfl ?_
        refine x_iaN (nI (G.2.1 i)) rfl rfl (by decide) (by omega) (hg.2.1 i (by omega)) ?_
        refine run_ok 3 (c' := (48, [(0, .ref 32), (1, .ref 23), (2, .int (nI i)), (3, .int (nI 1))], [.int (nI i), .ref 34, .int (nI (G.2.1 i)), .ref 23], S)) rfl ?_
        refine x_iaN (nI (G.2.2.1 i)) rfl rfl (by decide) (by omega) (hg.2.2.1 i (by omega)) ?_
        refine x_callV [.int (nI (G.2.1 i)), .int (nI (G.2.2.1 i))] rfl cv_V_nameBehind.1 lk_2_35 cv_V_nameBehind.2.1 cv_V_nameBehind.2.2.1 rfl cv_V_nameBehind.2.2.2.1 rfl rfl (Nat.le_of_ble_eq_true rfl) (by decide) cv_V_nameBehind.2.2.2.2 (c_nameBehind14 S T V ls hT hto hC hV (G.2.1 i) (G.2.2.1 i) (by omega) q1.1) ?_
        rintro r u ⟨hr, hu⟩
        rw [hr, hu]
        clear hr hu r u
        refine run_ok 3 (c' := (57, [(0, .ref 32), (1, .ref 23), (2, .int (nI i)), (3, .int (nI 1))], [.int (nI i), .ref 35, .int (nI (nmb T V (G.2.1 i) (G.2.2.1 i)))], S)) rfl ?_
        refine x_iaN (nI (G.2.2.2 i)) rfl rfl (by decide) (by omega) (hg.2.2.2 i (by omega)) ?_
        refine x_icmpN_eq 63 rfl rfl (by omega) (by omega) (fun h58 => ?_) (fun h58 => ?_)
        · refine run_ok 1 (c' := (66, [(0, .ref 32), (1, .ref 23), (2, .int (nI i + nI 1)), (3, .int (nI 1))], [], S)) rfl ?_
          rw [nI_add i 1]
          refine run_ok 1 (c' := (2, [(0, .ref 32), (1, .ref 23), (2, .int (nI (i + 1))), (3, .int (nI 1))], [], S)) rfl ?_
          refine x_less [0, 1, 2] rfl ?_
          exact ih (fitb_yes hfb ⟨by omega, h58⟩)
        · refine run_ok 1 (c' := (62, [(0, .ref 32), (1, .ref 23), (2, .int (nI i)), (3, .int (nI 1))], [.int (nI 0)], S)) rfl ?_
          exact x_ret (r := some (.int (nI 0))) rfl rfl (Or.inl rfl) ⟨congrArg (fun z => some (Value.int z)) (b2_f (by rw [fitb_no (i := i) (by first | exact fun z => h58 z.2 | exact fun z => absurd z.1 (by omega)) G.1 hi]; decide)).symm, rfl⟩ rfl
  refine run_ok 2 (c' := (2, [(0, .ref 32), (1, .ref 23), (2, .int (nI 0))], [], S)) rfl ?_
  exact H 0 (Nat.zero_le _) rfl

theorem c_clear (S : ST) : EX me_B_clear 0 [.ref 36] S (fun r u => r = none ∧ u = pt (pt S 36 0 (-1)) 36 1 (nI 0)) := by
  refine EX.of mok_B_clear (Nat.le_of_ble_eq_true rfl) ?_
  refine run_ok 6 (c' := (10, [(0, .ref 36)], [], (pt (pt S 36 0 (-1)) 36 1 (nI 0)))) rfl ?_
  exact x_ret (r := none) rfl rfl trivial ⟨rfl, rfl⟩ rfl

/-- the first of the greatest (99: none yet); the first of the least -/
def bup (b : Nat × Nat) (n f : Nat) : Nat × Nat := if b.1 = 99 ∨ b.2 < f then (n, f) else b
def bdn (b : Nat × Nat) (n f : Nat) : Nat × Nat := if b.1 = 99 ∨ f < b.2 then (n, f) else b
def whv (n : Nat) : Int32 := if n = 99 then (-1) else nI n
theorem whv_n1 {n : Nat} (h : n < 2147483648) : whv n = (-1) ↔ n = 99 := by
  unfold whv
  split
  · rename_i h1; exact ⟨fun _ => h1, fun _ => rfl⟩
  · rename_i h1
    refine ⟨fun e => ?_, fun e => absurd e h1⟩
    have h2 : (nI n).toInt = (n : Int) := nI_toInt (by omega)
    rw [e] at h2
    have h3 : ((-1 : Int32)).toInt = -1 := by decide
    omega
theorem whv_lt {n : Nat} (h : n < 99) : whv n = nI n := if_neg (by omega)
def BR (b : Nat × Nat) (u : ST) : Prop := u.1 36 0 = whv b.1 ∧ u.1 36 1 = nI b.2
def BN (b : Nat × Nat) (u : ST) : Prop := u.1 36 0 = whv b.1 ∧ u.1 36 1 = -(nI b.2)
set_option maxHeartbeats 2000000 in
theorem c_offerU (S : ST) (b : Nat × Nat) (n f : Nat) (hR : BR b S) (hb : b.1 < 1000) (hb2 : b.2 < 1000) (hn : n < 99) (hf : f < 1000) : EX me_B_offer 0 [.ref 36, .int (nI n), .int (nI f)] S (fun r u => r = none ∧ BR (bup b n f) u ∧ fr [36] S u ∧ u.2 = S.2) := by
  refine EX.of mok_B_offer (Nat.le_of_ble_eq_true rfl) ?_
  obtain ⟨hb1, hbx⟩ := hR
  refine run_ok 2 (c' := (4, [(0, .ref 36), (1, .int (nI n)), (2, .int (nI f))], [.int (S.1 36 0)], S)) rfl ?_
  refine x_top (v' := whv b.1) hb1 ?_
  refine run_ok 1 (c' := (5, [(0, .ref 36), (1, .int (nI n)), (2, .int (nI f))], [.int (-1), .int (whv b.1)], S)) rfl ?_
  refine x_icmp_eq 16 rfl rfl (fun h5 => ?_) (fun h5 => ?_)
  · refine run_ok 6 (c' := (26, [(0, .ref 36), (1, .int (nI n)), (2, .int (nI f))], [], (pt (pt S 36 0 (nI n)) 36 1 (nI f)))) rfl ?_
    exact x_ret (r := none) rfl rfl trivial ⟨rfl, by rw [show bup b n f = (n, f) from if_pos (by first | exact Or.inl ((whv_n1 (by omega)).mp h5) | exact Or.inr (by omega))]; exact ⟨(whv_lt hn).symm, rfl⟩, (fr.rf.pt (by decide)).pt (by decide), rfl⟩ rfl
  · refine run_ok 3 (c' := (13, [(0, .ref 36), (1, .int (nI n)), (2, .int (nI f))], [.int (S.1 36 1), .int (nI f)], S)) rfl ?_
    refine x_top (v' := nI b.2) hbx ?_
    refine x_icmpN_le 26 rfl rfl (by omega) (by omega) (fun h13 => ?_) (fun h13 => ?_)
    · exact x_ret (r := none) rfl rfl trivial ⟨rfl, by rw [show bup b n f = b from if_neg (fun z => z.elim (fun z => h5 ((whv_n1 (by omega)).mpr z)) (fun z => absurd z (by omega)))]; exact ⟨hb1, hbx⟩, fr.rf, rfl⟩ rfl
    · refine run_ok 6 (c' := (26, [(0, .ref 36), (1, .int (nI n)), (2, .int (nI f))], [], (pt (pt S 36 0 (nI n)) 36 1 (nI f)))) rfl ?_
      exact x_ret (r := none) rfl rfl trivial ⟨rfl, by rw [show bup b n f = (n, f) from if_pos (by first | exact Or.inl ((whv_n1 (by omega)).mp h5) | exact Or.inr (by omega))]; exact ⟨(whv_lt hn).symm, rfl⟩, (fr.rf.pt (by decide)).pt (by decide), rfl⟩ rfl

set_option maxHeartbeats 2000000 in
theorem c_offerD (S : ST) (b : Nat × Nat) (n f : Nat) (hR : BN b S) (hb : b.1 < 1000) (hb2 : b.2 < 1000) (hn : n < 99) (hf : f < 1000) : EX me_B_offer 0 [.ref 36, .int (nI n), .int (-(nI f))] S (fun r u => r = none ∧ BN (bdn b n f) u ∧ fr [36] S u ∧ u.2 = S.2) := by
  refine EX.of mok_B_offer (Nat.le_of_ble_eq_true rfl) ?_
  obtain ⟨hb1, hbx⟩ := hR
  refine run_ok 2 (c' := (4, [(0, .ref 36), (1, .int (nI n)), (2, .int (-(nI f)))], [.int (S.1 36 0)], S)) rfl ?_
  refine x_top (v' := whv b.1) hb1 ?_
  refine run_ok 1 (c' := (5, [(0, .ref 36), (1, .int (nI n)), (2, .int (-(nI f)))], [.int (-1), .int (whv b.1)], S)) rfl ?_
  refine x_icmp_eq 16 rfl rfl (fun h5 => ?_) (fun h5 => ?_)
  · refine run_ok 6 (c' := (26, [(0, .ref 36), (1, .int (nI n)), (2, .int (-(nI f)))], [], (pt (pt S 36 0 (nI n)) 36 1 (-(nI f))))) rfl ?_
    exact x_ret (r := none) rfl rfl trivial ⟨rfl, by rw [show bdn b n f = (n, f) from if_pos (by first | exact Or.inl ((whv_n1 (by omega)).mp h5) | exact Or.inr (Nat.lt_of_not_le (fun q => h13 ((sb_nle (by omega) (by omega)).mpr q))))]; exact ⟨(whv_lt hn).symm, rfl⟩, (fr.rf.pt (by decide)).pt (by decide), rfl⟩ rfl
  · refine run_ok 3 (c' := (13, [(0, .ref 36), (1, .int (nI n)), (2, .int (-(nI f)))], [.int (S.1 36 1), .int (-(nI f))], S)) rfl ?_
    refine x_top (v' := -(nI b.2)) hbx ?_
    refine x_icmp_le 26 rfl rfl (fun h13 => ?_) (fun h13 => ?_)
    · exact x_ret (r := none) rfl rfl trivial ⟨rfl, by rw [show bdn b n f = b from if_neg (fun z => z.elim (fun z => h5 ((whv_n1 (by omega)).mpr z)) (fun z => absurd ((sb_nle (by omega) (by omega)).mp h13) (by omega)))]; exact ⟨hb1, hbx⟩, fr.rf, rfl⟩ rfl
    · refine run_ok 6 (c' := (26, [(0, .ref 36), (1, .int (nI n)), (2, .int (-(nI f)))], [], (pt (pt S 36 0 (nI n)) 36 1 (-(nI f))))) rfl ?_
      exact x_ret (r := none) rfl rfl trivial ⟨rfl, by rw [show bdn b n f = (n, f) from if_pos (by first | exact Or.inl ((whv_n1 (by omega)).mp h5) | exact Or.inr (Nat.lt_of_not_le (fun q => h13 ((sb_nle (by omega) (by omega)).mpr q))))]; exact ⟨(whv_lt hn).symm, rfl⟩, (fr.rf.pt (by decide)).pt (by decide), rfl⟩ rfl
end
section
/-! what a telling does: become, an event more, events by a seed, weights, masks -/
def wh (T : TD) (h : Nat → Nat) : TD := (h, T.2)
def wso (T : TD) (f : Nat → Nat) : TD := (th T, f, T.2.2)
def wla (T : TD) (f : Nat → Nat) : TD := (th T, tso T, tbu T, f, T.2.2.2.2)
def wlo (T : TD) (n : Nat) : TD := (th T, tso T, tbu T, tla T, tst T, tek T, tew T, teb T, tnb T, tne T, n)
def wev (T : TD) (ne : Nat) (ek ew eb : Nat → Nat) : TD := (th T, tso T, tbu T, tla T, tst T, ek, ew, eb, tnb T, ne, tlo T)
abbrev TL : List Nat := [14, 15, 16, 17, 18, 19, 20, 21, 22]
theorem cpy0 {f g : Nat → Int32} {n j : Nat} (h : j < n) : va_cpy f g 0 0 n j = f j := by
  rw [pk_cpy_in (Nat.zero_le _) (by omega), Nat.zero_add, Nat.sub_zero]
set_option maxHeartbeats 2000000 in
theorem c_become (S : ST) (T : TD) (hT : TR 5 T S) (hto : tok T) (hne : tne T ≤ 8) : EX me_T_become 1 [.ref 14, .ref 5] S (fun r u => r = none ∧ TR 14 T u ∧ fr TL S u ∧ u.2 = S.2) := by
  refine EX.of mok_T_become (Nat.le_of_ble_eq_true rfl) ?_
  obtain ⟨n8, n9, hbt, het, hht, hlo⟩ := id hto
  obtain ⟨t1, t2, t3, t4, t5, t6, t7, t8, t9, t10, t11⟩ := id hT
  refine run_ok 7 (c' := (12, [(0, .ref 14), (1, .ref 5)], [.int (nI 64), .int (nI 0), .ref 15, .int (nI 0), .ref 6], S)) rfl ?_
  refine x_copyN rfl lk_3_49 rfl rfl (by decide) (by decide) (by omega) (by omega) (Nat.le_of_ble_eq_true rfl) (by decide) ?_
  refine run_ok 7 (c' := (27, [(0, .ref 14), (1, .ref 5)], [.int (nI 8), .int (nI 0), .ref 16, .int (nI 0), .ref 7], (rwr S 15 (va_cpy (S.1 6) (S.1 15) 0 0 64)))) rfl ?_
  refine x_copyN rfl lk_3_49 rfl rfl (by decide) (by decide) (by omega) (by omega) (Nat.le_of_ble_eq_true rfl) (by decide) ?_
  refine run_ok 7 (c' := (42, [(0, .ref 14), (1, .ref 5)], [.int (nI 8), .int (nI 0), .ref 17, .int (nI 0), .ref 8], (rwr (rwr S 15 (va_cpy (S.1 6) (S.1 15) 0 0 64)) 16 (va_cpy (S.1 7) (S.1 16) 0 0 8)))) rfl ?_
  refine x_copyN rfl lk_3_49 rfl rfl (by decide) (by decide) (by omega) (by omega) (Nat.le_of_ble_eq_true rfl) (by decide) ?_
  refine run_ok 7 (c' := (57, [(0, .ref 14), (1, .ref 5)], [.int (nI 8), .int (nI 0), .ref 18, .int (nI 0), .ref 9], (rwr (rwr (rwr S 15 (va_cpy (S.1 6) (S.1 15) 0 0 64)) 16 (va_cpy (S.1 7) (S.1 16) 0 0 8)) 17 (va_cpy (S.1 8) (S.1 17) 0 0 8)))) rfl ?_
  refine x_copyN rfl lk_3_49 rfl rfl (by decide) (by decide) (by omega) (by omega) (Nat.le_of_ble_eq_true rfl) (by decide) ?_
  refine run_ok 7 (c' := (72, [(0, .ref 14), (1, .ref 5)], [.int (nI 8), .int (nI 0), .ref 19, .int (nI 0), .ref 10], (rwr (rwr (rwr (rwr S 15 (va_cpy (S.1 6) (S.1 15) 0 0 64)) 16 (va_cpy (S.1 7) (S.1 16) 0 0 8)) 17 (va_cpy (S.1 8) (S.1 17) 0 0 8)) 18 (va_cpy (S.1 9) (S.1 18) 0 0 8)))) rfl ?_
  refine x_copyN rfl lk_3_49 rfl rfl (by decide) (by decide) (by omega) (by omega) (Nat.le_of_ble_eq_true rfl) (by decide) ?_
  refine run_ok 11 (c' := (95, [(0, .ref 14), (1, .ref 5)], [.int (nI 8), .int (nI 0), .ref 20, .int (nI 0), .ref 11], (pt (rwr (rwr (rwr (rwr (rwr S 15 (va_cpy (S.1 6) (S.1 15) 0 0 64)) 16 (va_cpy (S.1 7) (S.1 16) 0 0 8)) 17 (va_cpy (S.1 8) (S.1 17) 0 0 8)) 18 (va_cpy (S.1 9) (S.1 18) 0 0 8)) 19 (va_cpy (S.1 10) (S.1 19) 0 0 8)) 14 6 (S.1 5 6)))) rfl ?_
  refine x_copyN rfl lk_3_49 rfl rfl (by decide) (by decide) (by omega) (by omega) (Nat.le_of_ble_eq_true rfl) (by decide) ?_
  refine run_ok 7 (c' := (110, [(0, .ref 14), (1, .ref 5)], [.int (nI 8), .int (nI 0), .ref 21, .int (nI 0), .ref 12], (rwr (pt (rwr (rwr (rwr (rwr (rwr S 15 (va_cpy (S.1 6) (S.1 15) 0 0 64)) 16 (va_cpy (S.1 7) (S.1 16) 0 0 8)) 17 (va_cpy (S.1 8) (S.1 17) 0 0 8)) 18 (va_cpy (S.1 9) (S.1 18) 0 0 8)) 19 (va_cpy (S.1 10) (S.1 19) 0 0 8)) 14 6 (S.1 5 6)) 20 (va_cpy (S.1 11) (S.1 20) 0 0 8)))) rfl ?_
  refine x_copyN rfl lk_3_49 rfl rfl (by decide) (by decide) (by omega) (by omega) (Nat.le_of_ble_eq_true rfl) (by decide) ?_
  refine run_ok 7 (c' := (125, [(0, .ref 14), (1, .ref 5)], [.int (nI 8), .int (nI 0), .ref 22, .int (nI 0), .ref 13], (rwr (rwr (pt (rwr (rwr (rwr (rwr (rwr S 15 (va_cpy (S.1 6) (S.1 15) 0 0 64)) 16 (va_cpy (S.1 7) (S.1 16) 0 0 8)) 17 (va_cpy (S.1 8) (S.1 17) 0 0 8)) 18 (va_cpy (S.1 9) (S.1 18) 0 0 8)) 19 (va_cpy (S.1 10) (S.1 19) 0 0 8)) 14 6 (S.1 5 6)) 20 (va_cpy (S.1 11) (S.1 20) 0 0 8)) 21 (va_cpy (S.1 12) (S.1 21) 0 0 8)))) rfl ?_
  refine x_copyN rfl lk_3_49 rfl rfl (by decide) (by decide) (by omega) (by omega) (Nat.le_of_ble_eq_true rfl) (by decide) ?_
  refine run_ok 8 (c' := (144, [(0, .ref 14), (1, .ref 5)], [], (pt (pt (rwr (rwr (rwr (pt (rwr (rwr (rwr (rwr (rwr S 15 (va_cpy (S.1 6) (S.1 15) 0 0 64)) 16 (va_cpy (S.1 7) (S.1 16) 0 0 8)) 17 (va_cpy (S.1 8) (S.1 17) 0 0 8)) 18 (va_cpy (S.1 9) (S.1 18) 0 0 8)) 19 (va_cpy (S.1 10) (S.1 19) 0 0 8)) 14 6 (S.1 5 6)) 20 (va_cpy (S.1 11) (S.1 20) 0 0 8)) 21 (va_cpy (S.1 12) (S.1 21) 0 0 8)) 22 (va_cpy (S.1 13) (S.1 22) 0 0 8)) 14 10 (S.1 5 10)) 14 11 (S.1 5 11)))) rfl ?_
  refine x_ret (r := none) rfl rfl trivial ?_ rfl
  refine ⟨rfl, ⟨fun j hj => (cpy0 hj).trans (t1 j hj), fun j hj => (cpy0 (by omega)).trans (t2 j hj), fun j hj => (cpy0 (by omega)).trans (t3 j hj), fun j hj => (cpy0 (by omega)).trans (t4 j hj), fun j hj => (cpy0 (by omega)).trans (t5 j hj), fun j hj => (cpy0 (by omega)).trans (t6 j hj), fun j hj => (cpy0 (by omega)).trans (t7 j hj), fun j hj => (cpy0 (by omega)).trans (t8 j hj), t9, t10, t11⟩, ?_, rfl⟩
  refine fr.pt (fr.pt (fr.rwr (fr.rwr (fr.rwr (fr.pt (fr.rwr (fr.rwr (fr.rwr (fr.rwr (fr.rwr fr.rf ?_) ?_) ?_) ?_) ?_) ?_) ?_) ?_) ?_) ?_) ?_ <;> decide

set_option maxHeartbeats 2000000 in
theorem c_addEvent5 (S : ST) (T : TD) (kd w b : Nat) (hT : TR 5 T S) (hne : tne T ≤ 8) : EX me_T_addEvent 0 [.ref 5, .int (nI kd), .int (nI w), .int (nI b)] S (fun r u => r = none ∧ TR 5 (wev T (tne T + 1) (upn (tek T) (tne T) kd) (upn (tew T) (tne T) w) (upn (teb T) (tne T) b)) u ∧ fr [5, 11, 12, 13] S u ∧ u.2 = S.2) := by
  refine EX.of mok_T_addEvent (Nat.le_of_ble_eq_true rfl) ?_
  obtain ⟨t1, t2, t3, t4, t5, t6, t7, t8, t9, t10, t11⟩ := id hT
  refine run_ok 2 (c' := (4, [(0, .ref 5), (1, .int (nI kd)), (2, .int (nI w)), (3, .int (nI b))], [.int (S.1 5 10)], S)) rfl ?_
  refine x_top (v' := nI (tne T)) t10 ?_
  refine run_ok 1 (c' := (6, [(0, .ref 5), (1, .int (nI kd)), (2, .int (nI w)), (3, .int (nI b))], [.int (nI 8), .int (nI (tne T))], S)) rfl ?_
  refine x_icmpN_gt 49 rfl rfl (by omega) (by omega) (fun hn => absurd hn (show ¬ 8 < tne T by omega)) (fun h6 => ?_)
  refine run_ok 4 (c' := (17, [(0, .ref 5), (1, .int (nI kd)), (2, .int (nI w)), (3, .int (nI b))], [.int (S.1 5 10), .ref 11], S)) rfl ?_
  refine x_top (v' := nI (tne T)) t10 ?_
  refine run_ok 1 (c' := (18, [(0, .ref 5), (1, .int (nI kd)), (2, .int (nI w)), (3, .int (nI b))], [.int (nI kd), .int (nI (tne T)), .ref 11], S)) rfl ?_
  refine x_isN rfl rfl (by decide) (by omega) ?_
  refine run_ok 4 (c' := (27, [(0, .ref 5), (1, .int (nI kd)), (2, .int (nI w)), (3, .int (nI b))], [.int (S.1 5 10), .ref 12], (pt S 11 (tne T) (nI kd)))) rfl ?_
  refine x_top (v' := nI (tne T)) t10 ?_
  refine run_ok 1 (c' := (28, [(0, .ref 5), (1, .int (nI kd)), (2, .int (nI w)), (3, .int (nI b))], [.int (nI w), .int (nI (tne T)), .ref 12], (pt S 11 (tne T) (nI kd)))) rfl ?_
  refine x_isN rfl rfl (by decide) (by omega) ?_
  refine run_ok 4 (c' := (37, [(0, .ref 5), (1, .int (nI kd)), (2, .int (nI w)), (3, .int (nI b))], [.int (S.1 5 10), .ref 13], (pt (pt S 11 (tne T) (nI kd)) 12 (tne T) (nI w)))) rfl ?_
  refine x_top (v' := nI (tne T)) t10 ?_
  refine run_ok 1 (c' := (38, [(0, .ref 5), (1, .int (nI kd)), (2, .int (nI w)), (3, .int (nI b))], [.int (nI b), .int (nI (tne T)), .ref 13], (pt (pt S 11 (tne T) (nI kd)) 12 (tne T) (nI w)))) rfl ?_
  refine x_isN rfl rfl (by decide) (by omega) ?_
  refine run_ok 3 (c' := (44, [(0, .ref 5), (1, .int (nI kd)), (2, .int (nI w)), (3, .int (nI b))], [.int (S.1 5 10), .ref 5], (pt (pt (pt S 11 (tne T) (nI kd)) 12 (tne T) (nI w)) 13 (tne T) (nI b)))) rfl ?_
  refine x_top (v' := nI (tne T)) t10 ?_
  refine run_ok 2 (c' := (46, [(0, .ref 5), (1, .int (nI kd)), (2, .int (nI w)), (3, .int (nI b))], [.int ((nI (tne T)) + (nI 1)), .ref 5], (pt (pt (pt S 11 (tne T) (nI kd)) 12 (tne T) (nI w)) 13 (tne T) (nI b)))) rfl ?_
  refine x_top (v' := nI ((tne T) + 1)) (nI_add _ _) ?_
  refine run_ok 1 (c' := (49, [(0, .ref 5), (1, .int (nI kd)), (2, .int (nI w)), (3, .int (nI b))], [], (pt (pt (pt (pt S 11 (tne T) (nI kd)) 12 (tne T) (nI w)) 13 (tne T) (nI b)) 5 10 (nI ((tne T) + 1))))) rfl ?_
  refine x_ret (r := none) rfl rfl trivial ?_ rfl
  have ex : ∀ (f : Nat → Nat) (x v : Nat) (k : Nat), rh S k (tne T) f → ∀ j, j < tne T + 1 → upd (S.1 k) (tne T) (nI v) j = nI (upn f (tne T) v j) := by
    intro f x v k h j hj
    unfold upd upn
    split
    · rfl
    · exact h j (by omega)
  refine ⟨rfl, ⟨t1, t2, t3, t4, t5, ex _ 0 _ _ t6, ex _ 0 _ _ t7, ex _ 0 _ _ t8, t9, rfl, t11⟩, ?_, rfl⟩
  refine fr.pt (fr.pt (fr.pt (fr.pt fr.rf ?_) ?_) ?_) ?_ <;> decide

set_option maxHeartbeats 2000000 in
theorem c_addEvent14 (S : ST) (T : TD) (kd w b : Nat) (hT : TR 14 T S) (hne : tne T ≤ 8) : EX me_T_addEvent 0 [.ref 14, .int (nI kd), .int (nI w), .int (nI b)] S (fun r u => r = none ∧ TR 14 (wev T (tne T + 1) (upn (tek T) (tne T) kd) (upn (tew T) (tne T) w) (upn (teb T) (tne T) b)) u ∧ fr [14, 20, 21, 22] S u ∧ u.2 = S.2) := by
  refine EX.of mok_T_addEvent (Nat.le_of_ble_eq_true rfl) ?_
  obtain ⟨t1, t2, t3, t4, t5, t6, t7, t8, t9, t10, t11⟩ := id hT
  refine run_ok 2 (c' := (4, [(0, .ref 14), (1, .int (nI kd)), (2, .int (nI w)), (3, .int (nI b))], [.int (S.1 14 10)], S)) rfl ?_
  refine x_top (v' := nI (tne T)) t10 ?_
  refine run_ok 1 (c' := (6, [(0, .ref 14), (1, .int (nI kd)), (2, .int (nI w)), (3, .int (nI b))], [.int (nI 8), .int (nI (tne T))], S)) rfl ?_
  refine x_icmpN_gt 49 rfl rfl (by omega) (by omega) (fun hn => absurd hn (show ¬ 8 < tne T by omega)) (fun h6 => ?_)
  refine run_ok 4 (c' := (17, [(0, .ref 14), (1, .int (nI kd)), (2, .int (nI w)), (3, .int (nI b))], [.int (S.1 14 10), .ref 20], S)) rfl ?_
  refine x_top (v' := nI (tne T)) t10 ?_
  refine run_ok 1 (c' := (18, [(0, .ref 14), (1, .int (nI kd)), (2, .int (nI w)), (3, .int (nI b))], [.int (nI kd), .int (nI (tne T)), .ref 20], S)) rfl ?_
  refine x_isN rfl rfl (by decide) (by omega) ?_
  refine run_ok 4 (c' := (27, [(0, .ref 14), (1, .int (nI kd)), (2, .int (nI w)), (3, .int (nI b))], [.int (S.1 14 10), .ref 21], (pt S 20 (tne T) (nI kd)))) rfl ?_
  refine x_top (v' := nI (tne T)) t10 ?_
  refine run_ok 1 (c' := (28, [(0, .ref 14), (1, .int (nI kd)), (2, .int (nI w)), (3, .int (nI b))], [.int (nI w), .int (nI (tne T)), .ref 21], (pt S 20 (tne T) (nI kd)))) rfl ?_
  refine x_isN rfl rfl (by decide) (by omega) ?_
  refine run_ok 4 (c' := (37, [(0, .ref 14), (1, .int (nI kd)), (2, .int (nI w)), (3, .int (nI b))], [.int (S.1 14 10), .ref 22], (pt (pt S 20 (tne T) (nI kd)) 21 (tne T) (nI w)))) rfl ?_
  refine x_top (v' := nI (tne T)) t10 ?_
  refine run_ok 1 (c' := (38, [(0, .ref 14), (1, .int (nI kd)), (2, .int (nI w)), (3, .int (nI b))], [.int (nI b), .int (nI (tne T)), .ref 22], (pt (pt S 20 (tne T) (nI kd)) 21 (tne T) (nI w)))) rfl ?_
  refine x_isN rfl rfl (by decide) (by omega) ?_
  refine run_ok 3 (c' := (44, [(0, .ref 14), (1, .int (nI kd)), (2, .int (nI w)), (3, .int (nI b))], [.int (S.1 14 10), .ref 14], (pt (pt (pt S 20 (tne T) (nI kd)) 21 (tne T) (nI w)) 22 (tne T) (nI b)))) rfl ?_
  refine x_top (v' := nI (tne T)) t10 ?_
  refine run_ok 2 (c' := (46, [(0, .ref 14), (1, .int (nI kd)), (2, .int (nI w)), (3, .int (nI b))], [.int ((nI (tne T)) + (nI 1)), .ref 14], (pt (pt (pt S 20 (tne T) (nI kd)) 21 (tne T) (nI w)) 22 (tne T) (nI b)))) rfl ?_
  refine x_top (v' := nI ((tne T) + 1)) (nI_add _ _) ?_
  refine run_ok 1 (c' := (49, [(0, .ref 14), (1, .int (nI kd)), (2, .int (nI w)), (3, .int (nI b))], [], (pt (pt (pt (pt S 20 (tne T) (nI kd)) 21 (tne T) (nI w)) 22 (tne T) (nI b)) 14 10 (nI ((tne T) + 1))))) rfl ?_
  refine x_ret (r := none) rfl rfl trivial ?_ rfl
  have ex : ∀ (f : Nat → Nat) (x v : Nat) (k : Nat), rh S k (tne T) f → ∀ j, j < tne T + 1 → upd (S.1 k) (tne T) (nI v) j = nI (upn f (tne T) v j) := by
    intro f x v k h j hj
    unfold upd upn
    split
    · rfl
    · exact h j (by omega)
  refine ⟨rfl, ⟨t1, t2, t3, t4, t5, ex _ 0 _ _ t6, ex _ 0 _ _ t7, ex _ 0 _ _ t8, t9, rfl, t11⟩, ?_, rfl⟩
  refine fr.pt (fr.pt (fr.pt (fr.pt fr.rf ?_) ?_) ?_) ?_ <;> decide

def nsd (x : Int32) : Int32 := nI 1103515245 * x + nI 12345
def lot (x : Int32) : Nat := x.toBitVec.toNat / 65536
theorem lot_lt (x : Int32) : lot x < 65536 := by have := x.toBitVec.isLt; unfold lot; omega
theorem lot_e (x : Int32) : (x.toUInt32 >>> ((nI 16).toUInt32 &&& Int32.toUInt32 31)).toInt32 = nI (lot x) := by
  apply Int32.toBitVec_inj.1
  apply BitVec.eq_of_toNat_eq
  rw [pk_ushr x (nI 16) 16 (by decide), pk_tn (by have := lot_lt x; omega)]
  rfl
theorem c_nextSeed (S : ST) (x : Int32) : EX me_T_nextSeed 0 [.int x] S (fun r u => r = some (.int (nsd x)) ∧ u = S) := by
  refine EX.of mok_T_nextSeed (Nat.le_of_ble_eq_true rfl) ?_
  refine run_ok 5 (c' := (8, [(0, .int x)], [.int (((nI 1103515245) * x) + (nI 12345))], S)) rfl ?_
  exact x_ret (r := some (.int (((nI 1103515245) * x) + (nI 12345)))) rfl rfl trivial ⟨rfl, rfl⟩ rfl

def mrow (T : TD) (w : Nat) : Nat → Nat
  | 0 => 0
  | k + 1 => mrow T w k + (if tla T k ≤ w then 15 * 16 ^ k else 0)
theorem mrow_e (T : TD) (w : Nat) : ∀ k, mrow T w k = nro (fun j => if tla T j ≤ w then 15 else 0) k := by
  intro k
  induction k with
  | zero => rfl
  | succ k ih =>
    show mrow T w k + (if tla T k ≤ w then 15 * 16 ^ k else 0) = nro _ k + (if tla T k ≤ w then 15 else 0) * 16 ^ k
    rw [ih]
    split <;> simp
set_option maxHeartbeats 2000000 in
theorem c_rowMask (S : ST) (T : TD) (w : Nat) (hT : TR 5 T S) (hto : tok T) (hw : w < 24) : EX me_T_rowMask 0 [.ref 5, .int (nI w)] S (fun r u => r = some (.int (nI (mrow T w (tnb T)))) ∧ u = S) := by
  refine EX.of mok_T_rowMask (Nat.le_of_ble_eq_true rfl) ?_
  obtain ⟨n8, n9, hbt, het, hht, hlo⟩ := id hto
  obtain ⟨t1, t2, t3, t4, t5, t6, t7, t8, t9, t10, t11⟩ := id hT
  have H : ∀ i, i ≤ tnb T → BX me_T_rowMask 0 none (fun r u => r = some (.int (nI (mrow T w (tnb T)))) ∧ u = S) (4, [(0, .ref 5), (1, .int (nI w)), (2, .int (nI (mrow T w i))), (3, .int (nI i))], [], S) := by
    refine loop_up (P := fun i => BX me_T_rowMask 0 none (fun r u => r = some (.int (nI (mrow T w (tnb T)))) ∧ u = S) (4, [(0, .ref 5), (1, .int (nI w)), (2, .int (nI (mrow T w i))), (3, .int (nI i))], [], S)) (tnb T) ?_ ?_
    · skip
      refine run_ok 3 (c' := (9, [(0, .ref 5), (1, .int (nI w)), (2, .int (nI (mrow T w (tnb T)))), (3, .int (nI (tnb T)))], [.int (S.1 5 6), .int (nI (tnb T))], S)) rfl ?_
      refine x_top (v' := nI (tnb T)) t9 ?_
      refine x_icmpN_ge 37 rfl rfl (by omega) (by omega) (fun h9 => ?_) (fun hn => absurd (Nat.le_refl _) hn)
      refine run_ok 1 (c' := (38, [(0, .ref 5), (1, .int (nI w)), (2, .int (nI (mrow T w (tnb T)))), (3, .int (nI (tnb T)))], [.int (nI (mrow T w (tnb T)))], S)) rfl ?_
      exact x_ret (r := some (.int (nI (mrow T w (tnb T))))) rfl rfl trivial ⟨rfl, rfl⟩ rfl
    · intro i hi ih
      have q1 := (hbt i hi).2.2.1
      refine run_ok 3 (c' := (9, [(0, .ref 5), (1, .int (nI w)), (2, .int (nI (mrow T w i))), (3, .int (nI i))], [.int (S.1 5 6), .int (nI i)], S)) rfl ?_
      refine x_top (v' := nI (tnb T)) t9 ?_
      refine x_icmpN_ge 37 rfl rfl (by omega) (by omega) (fun hn => absurd hn (show ¬ tnb T ≤ i by omega)) (fun h9 => ?_)
      refine run_ok 3 (c' := (17, [(0, .ref 5), (1, .int (nI w)), (2, .int (nI (mrow T w i))), (3, .int (nI i))], [.int (nI i), .ref 9], S)) rfl ?_
      refine x_iaN (nI (tla T i)) rfl rfl (by decide) (by omega) (t4 i (by omega)) ?_
      refine run_ok 1 (c' := (19, [(0, .ref 5), (1, .int (nI w)), (2, .int (nI (mrow T w i))), (3, .int (nI i))], [.int (nI w), .int (nI (tla T i))], S)) rfl ?_
      refine x_icmpN_gt 31 rfl rfl (by omega) (by omega) (fun h19 => ?_) (fun h19 => ?_)
      · refine run_ok 1 (c' := (34, [(0, .ref 5), (1, .int (nI w)), (2, .int (nI (mrow T w i))), (3, .int (nI i + nI 1))], [], S)) rfl ?_
        rw [nI_add i 1]
        refine run_ok 1 (c' := (4, [(0, .ref 5), (1, .int (nI w)), (2, .int (nI (mrow T w i))), (3, .int (nI (i + 1)))], [], S)) rfl ?_
        rw [show mrow T w (i + 1) = mrow T w i by show _ + (if tla T i ≤ w then 15 * 16 ^ i else 0) = _; rw [if_neg (by omega)]; rfl] at ih
        exact ih
      · refine run_ok 5 (c' := (28, [(0, .ref 5), (1, .int (nI w)), (2, .int (nI (mrow T w i))), (3, .int (nI i))], [.int ((nI 4) * (nI i)), .int (nI 15), .int (nI (mrow T w i))], S)) rfl ?_
        refine x_top (v' := nI (4 * i)) (pk_mul _ _) ?_
        refine run_ok 2 (c' := (30, [(0, .ref 5), (1, .int (nI w)), (2, .int (nI (mrow T w i))), (3, .int (nI i))], [.int ((nI (mrow T w i)) ||| ((nI 15) <<< ((nI (4 * i)) &&& 31)))], S)) rfl ?_
        refine x_top (v' := nI (mrow T w i + 15 * 16 ^ i)) (nro_or (by rw [mrow_e]; exact nro_lt (fun k _ => by split <;> omega)) (by decide) (by omega)) ?_
        refine run_ok 2 (c' := (34, [(0, .ref 5), (1, .int (nI w)), (2, .int (nI (mrow T w i + 15 * 16 ^ i))), (3, .int (nI i + nI 1))], [], S)) rfl ?_
        rw [nI_add i 1]
        refine run_ok 1 (c' := (4, [(0, .ref 5), (1, .int (nI w)), (2, .int (nI (mrow T w i + 15 * 16 ^ i))), (3, .int (nI (i + 1)))], [], S)) rfl ?_
        rw [show mrow T w (i + 1) = mrow T w i + 15 * 16 ^ i by show _ + (if tla T i ≤ w then 15 * 16 ^ i else 0) = _; rw [if_pos (by omega)]] at ih
        exact ih
  refine run_ok 4 (c' := (4, [(0, .ref 5), (1, .int (nI w)), (2, .int (nI 0)), (3, .int (nI 0))], [], S)) rfl ?_
  exact H 0 (Nat.zero_le _)

def wgt (T : TD) (c : Nat) : Nat → Nat
  | 0 => 1
  | e + 1 => wgt T c e * (if (tlo T).testBit e = true then 16 - c else c)
set_option maxHeartbeats 2000000 in
theorem c_weight (S : ST) (T : TD) (c : Nat) (hT : TR 14 T S) (hto : tok T) (hc : c ≤ 16) : EX me_T_weight 0 [.ref 14, .int (nI c)] S (fun r u => r = some (.long (lN (wgt T c (tne T)))) ∧ u = S) := by
  refine EX.of mok_T_weight (Nat.le_of_ble_eq_true rfl) ?_
  obtain ⟨n8, n9, hbt, het, hht, hlo⟩ := id hto
  obtain ⟨t1, t2, t3, t4, t5, t6, t7, t8, t9, t10, t11⟩ := id hT
  have H : ∀ i, i ≤ tne T → BX me_T_weight 0 none (fun r u => r = some (.long (lN (wgt T c (tne T)))) ∧ u = S) (5, [(0, .ref 14), (1, .int (nI c)), (2, .long (lN (wgt T c i))), (4, .int (nI i))], [], S) := by
    refine loop_up (P := fun i => BX me_T_weight 0 none (fun r u => r = some (.long (lN (wgt T c (tne T)))) ∧ u = S) (5, [(0, .ref 14), (1, .int (nI c)), (2, .long (lN (wgt T c i))), (4, .int (nI i))], [], S)) (tne T) ?_ ?_
    · skip
      refine run_ok 3 (c' := (11, [(0, .ref 14), (1, .int (nI c)), (2, .long (lN (wgt T c (tne T)))), (4, .int (nI (tne T)))], [.int (S.1 14 10), .int (nI (tne T))], S)) rfl ?_
      refine x_top (v' := nI (tne T)) t10 ?_
      refine x_icmpN_ge 45 rfl rfl (by omega) (by omega) (fun h11 => ?_) (fun hn => absurd (Nat.le_refl _) hn)
      refine run_ok 1 (c' := (46, [(0, .ref 14), (1, .int (nI c)), (2, .long (lN (wgt T c (tne T)))), (4, .int (nI (tne T)))], [.long (lN (wgt T c (tne T)))], S)) rfl ?_
      exact x_ret (r := some (.long (lN (wgt T c (tne T))))) rfl rfl trivial ⟨rfl, rfl⟩ rfl
    · intro i hi ih
      refine run_ok 3 (c' := (11, [(0, .ref 14), (1, .int (nI c)), (2, .long (lN (wgt T c i))), (4, .int (nI i))], [.int (S.1 14 10), .int (nI i)], S)) rfl ?_
      refine x_top (v' := nI (tne T)) t10 ?_
      refine x_icmpN_ge 45 rfl rfl (by omega) (by omega) (fun hn => absurd hn (show ¬ tne T ≤ i by omega)) (fun h11 => ?_)
      refine run_ok 3 (c' := (19, [(0, .ref 14), (1, .int (nI c)), (2, .long (lN (wgt T c i))), (4, .int (nI i))], [.int (S.1 14 11), .long (lN (wgt T c i))], S)) rfl ?_
      refine x_top (v' := nI (tlo T)) t11 ?_
      refine run_ok 4 (c' := (24, [(0, .ref 14), (1, .int (nI c)), (2, .long (lN (wgt T c i))), (4, .int (nI i))], [.int (((nI (tlo T)) >>> ((nI i) &&& 31)) &&& (nI 1)), .long (lN (wgt T c i))], S)) rfl ?_
      refine x_top (v' := b2 ((tlo T).testBit i = true)) (by rw [bit_t (by omega) (by omega)]; unfold b2; split <;> rfl) ?_
      refine x_ifB_ne 32 rfl rfl (fun h24 => ?_) (fun h24 => ?_)
      · refine run_ok 3 (c' := (36, [(0, .ref 14), (1, .int (nI c)), (2, .long (lN (wgt T c i))), (4, .int (nI i))], [.int ((nI 16) - (nI c)), .long (lN (wgt T c i))], S)) rfl ?_
        refine x_top (v' := nI (16 - c)) (pk_sub (by omega)) ?_
        refine run_ok 1 (c' := (37, [(0, .ref 14), (1, .int (nI c)), (2, .long (lN (wgt T c i))), (4, .int (nI i))], [.long ((nI (16 - c)).toInt64), .long (lN (wgt T c i))], S)) rfl ?_
        refine x_topl (v' := lN (16 - c)) (nI_l (by omega)) ?_
        refine run_ok 1 (c' := (38, [(0, .ref 14), (1, .int (nI c)), (2, .long (lN (wgt T c i))), (4, .int (nI i))], [.long ((lN (wgt T c i)) * (lN (16 - c)))], S)) rfl ?_
        refine x_topl (v' := lN (wgt T c i * (16 - c))) (lN_mul _ _) ?_
        refine run_ok 2 (c' := (42, [(0, .ref 14), (1, .int (nI c)), (2, .long (lN (wgt T c i * (16 - c)))), (4, .int (nI i + nI 1))], [], S)) rfl ?_
        rw [nI_add i 1]
        refine run_ok 1 (c' := (5, [(0, .ref 14), (1, .int (nI c)), (2, .long (lN (wgt T c i * (16 - c)))), (4, .int (nI (i + 1)))], [], S)) rfl ?_
        rw [show wgt T c (i + 1) = wgt T c i * (16 - c) from congrArg (fun z => wgt T c i * z) (if_pos h24)] at ih
        exact ih
      · refine run_ok 2 (c' := (29, [(0, .ref 14), (1, .int (nI c)), (2, .long (lN (wgt T c i))), (4, .int (nI i))], [.long ((nI c).toInt64), .long (lN (wgt T c i))], S)) rfl ?_
        refine x_topl (v' := lN c) (nI_l (by omega)) ?_
        refine run_ok 2 (c' := (38, [(0, .ref 14), (1, .int (nI c)), (2, .long (lN (wgt T c i))), (4, .int (nI i))], [.long ((lN (wgt T c i)) * (lN c))], S)) rfl ?_
        refine x_topl (v' := lN (wgt T c i * c)) (lN_mul _ _) ?_
        refine run_ok 2 (c' := (42, [(0, .ref 14), (1, .int (nI c)), (2, .long (lN (wgt T c i * c))), (4, .int (nI i + nI 1))], [], S)) rfl ?_
        rw [nI_add i 1]
        refine run_ok 1 (c' := (5, [(0, .ref 14), (1, .int (nI c)), (2, .long (lN (wgt T c i * c))), (4, .int (nI (i + 1)))], [], S)) rfl ?_
        rw [show wgt T c (i + 1) = wgt T c i * c from congrArg (fun z => wgt T c i * z) (if_neg h24)] at ih
        exact ih
  refine run_ok 4 (c' := (5, [(0, .ref 14), (1, .int (nI c)), (2, .long 1), (4, .int (nI 0))], [], S)) rfl ?_
  exact H 0 (Nat.zero_le _)
end
section
/-! public calls of the class: what is told, weeks -/
abbrev CQ : List Nat := [14, 15, 16, 17, 18, 19, 20, 21, 22, 23, 24, 25, 26, 27, 28, 29, 30, 31, 36, 47]
theorem inr_t {j n : Nat} (h : j < n) (hn : n < 2147483648) : 0 ≤ nI j ∧ nI j < nI n := ⟨nI_pos' (by omega), (nI_ltI (by omega) hn).mpr h⟩
theorem inr_f {x : Int32} {n : Nat} (hn : n < 2147483648) (h : 0 ≤ x ∧ x < nI n) : ∃ j : Nat, j < n ∧ x = nI j := by
  obtain ⟨j, hj, rfl⟩ := nI_of (x := x) (fun z => absurd h.1 (Int32.not_le.mpr z))
  exact ⟨j, (nI_ltI hj hn).mp h.2, rfl⟩
theorem two_t {p q : Nat} (hp : p < 8) (hq : q < 8) (h : p ≠ q) : (0 ≤ nI p ∧ nI p < nI 8) ∧ (0 ≤ nI q ∧ nI q < nI 8) ∧ ¬ nI p = nI q := ⟨inr_t hp (by decide), inr_t hq (by decide), fun z => h ((nI_eqI (by omega) (by omega)).mp z)⟩
theorem inr_o {x : Int32} {n : Nat} (hn : n < 2147483648) (h0 : 0 < n) (h : ¬ (0 ≤ x ∧ x < nI n)) : x.toInt < 0 ∨ ((n : Int) - 1) < x.toInt := by
  by_cases h1 : x < 0
  · left
    have := (Int32.lt_iff_toInt_lt).mp h1
    simpa using this
  · right
    have h2 : nI n ≤ x := Int32.not_lt.mp (fun z => h ⟨Int32.not_lt.mp h1, z⟩)
    have h3 := (Int32.le_iff_toInt_le).mp h2
    rw [nI_toInt (by omega)] at h3
    omega
theorem b2v {p : Prop} [Decidable p] (h : p) : some (Value.int (b2 p)) = some (Value.int 1) := by rw [b2_t h]
theorem c_isBoat (S : ST) (x : Int32) (nb : Nat) (h : S.1 5 6 = nI nb) : EX me_N_isBoat 1 [.ref 0, .int x] S (fun r u => r = some (.int (b2 (0 ≤ x ∧ x < nI nb))) ∧ u = S) := by
  refine EX.of mok_N_isBoat (Nat.le_of_ble_eq_true rfl) ?_
  refine run_ok 4 (c' := (8, [(0, .ref 0), (1, .int x)], [.int (S.1 5 6), .int x], S)) rfl ?_
  refine x_top (v' := nI nb) h ?_
  refine x_callS [.int x, .int (nI nb)] rfl cs_N_isBelow.1 lk_6_73 cs_N_isBelow.2.1 rfl rfl (Nat.le_of_ble_eq_true rfl) (by decide) cs_N_isBelow.2.2 (c_isBelow S (x) (nI nb)) ?_
  rintro r u ⟨hr, hu⟩
  rw [hr, hu]
  clear hr hu r u
  exact x_ret (r := some (.int (b2 (0 ≤ x ∧ x < nI nb)))) rfl rfl (b2_01 _) ⟨rfl, rfl⟩ rfl

set_option maxHeartbeats 2000000 in
theorem c_told_bad (S : ST) (x y : Int32) (hbad : ¬ ((0 ≤ x ∧ x < nI 8) ∧ (0 ≤ y ∧ y < nI 8) ∧ ¬ x = y)) : EX me_N_told 2 [.ref 0, .int x, .int y] S (fun r u => r = some (.int ((-2))) ∧ u = S) := by
  refine EX.of mok_N_told (Nat.le_of_ble_eq_true rfl) ?_
  refine run_ok 2 (c' := (2, [(0, .ref 0), (1, .int x), (2, .int y)], [.int y, .int x], S)) rfl ?_
  refine x_callS [.int x, .int y] rfl cs_N_areTwo.1 lk_6_97 cs_N_areTwo.2.1 rfl rfl (Nat.le_of_ble_eq_true rfl) (by decide) cs_N_areTwo.2.2 (c_areTwo S (x) (y)) ?_
  rintro r u ⟨hr, hu⟩
  rw [hr, hu]
  clear hr hu r u
  refine x_ifB_eq 24 rfl rfl (fun h5 => ?_) (fun h5 => ?_)
  · refine run_ok 1 (c' := (26, [(0, .ref 0), (1, .int x), (2, .int y)], [.int (-2)], S)) rfl ?_
    exact x_ret (r := some (.int (-2))) rfl rfl trivial ⟨rfl, rfl⟩ rfl
  · exact absurd h5 hbad

set_option maxHeartbeats 2000000 in
theorem c_told_ok (S : ST) (T : TD) (hT : TR 5 T S) (hto : tok T) (p q : Nat) (hp : p < 8) (hq : q < 8) (hpq : p ≠ q) : EX me_N_told 2 [.ref 0, .int (nI p), .int (nI q)] S (fun r u => r = some (.int (nI (th T (8 * p + q)))) ∧ u = S) := by
  refine EX.of mok_N_told (Nat.le_of_ble_eq_true rfl) ?_
  obtain ⟨n8, n9, hbt, het, hht, hlo⟩ := id hto
  obtain ⟨t1, t2, t3, t4, t5, t6, t7, t8, t9, t10, t11⟩ := id hT
  refine run_ok 2 (c' := (2, [(0, .ref 0), (1, .int (nI p)), (2, .int (nI q))], [.int (nI q), .int (nI p)], S)) rfl ?_
  refine x_callS [.int (nI p), .int (nI q)] rfl cs_N_areTwo.1 lk_6_97 cs_N_areTwo.2.1 rfl rfl (Nat.le_of_ble_eq_true rfl) (by decide) cs_N_areTwo.2.2 (c_areTwo S (nI p) (nI q)) ?_
  rintro r u ⟨hr, hu⟩
  rw [hr, hu]
  clear hr hu r u
  refine x_ifB_eq 24 rfl rfl (fun hn => absurd hn (fun z => z (two_t hp hq hpq))) (fun h5 => ?_)
  refine run_ok 5 (c' := (17, [(0, .ref 0), (1, .int (nI p)), (2, .int (nI q))], [.int (nI q), .int (nI p), .ref 6], S)) rfl ?_
  refine x_callS [.int (nI p), .int (nI q)] rfl cs_N_pair.1 lk_6_103 cs_N_pair.2.1 rfl rfl (Nat.le_of_ble_eq_true rfl) (by decide) cs_N_pair.2.2 (c_pair S (nI p) (nI q)) ?_
  rintro r u ⟨hr, hu⟩
  rw [hr, hu]
  clear hr hu r u
  refine x_top (v' := nI (p * 8 + q)) (by rw [pk_mul, nI_add]) ?_
  refine x_iaN (nI (th T (8 * p + q))) rfl rfl (by decide) (by omega) (by rw [show p * 8 + q = 8 * p + q by omega]; exact t1 _ (by omega)) ?_
  refine run_ok 1 (c' := (26, [(0, .ref 0), (1, .int (nI p)), (2, .int (nI q))], [.int (nI (th T (8 * p + q)))], S)) rfl ?_
  exact x_ret (r := some (.int (nI (th T (8 * p + q))))) rfl rfl trivial ⟨rfl, rfl⟩ rfl

set_option maxHeartbeats 2000000 in
theorem c_boat_bad (S : ST) (T : TD) (t9 : S.1 5 6 = nI (tnb T)) (x y : Int32) (hbad : ¬ ((0 ≤ x ∧ x < nI (tnb T)) ∧ (0 ≤ y ∧ y < nI 4))) : EX me_N_boat 2 [.ref 0, .int x, .int y] S (fun r u => r = some (.int ((-2))) ∧ u = S) := by
  refine EX.of mok_N_boat (Nat.le_of_ble_eq_true rfl) ?_
  refine run_ok 2 (c' := (2, [(0, .ref 0), (1, .int x), (2, .int y)], [.int x, .ref 0], S)) rfl ?_
  refine x_callV [.int x] rfl cv_N_isBoat.1 lk_6_107 cv_N_isBoat.2.1 cv_N_isBoat.2.2.1 rfl cv_N_isBoat.2.2.2.1 rfl rfl (Nat.le_of_ble_eq_true rfl) (by decide) cv_N_isBoat.2.2.2.2 (c_isBoat S (x) (tnb T) t9) ?_
  rintro r u ⟨hr, hu⟩
  rw [hr, hu]
  clear hr hu r u
  refine x_ifB_ne 11 rfl rfl (fun h5 => ?_) (fun h5 => ?_)
  · refine run_ok 1 (c' := (12, [(0, .ref 0), (1, .int x), (2, .int y)], [.int y], S)) rfl ?_
    refine x_tabOut 84 rfl (inr_o (n := 4) (by decide) (by decide) (fun z => hbad ⟨h5, z⟩)) rfl ?_
    refine run_ok 1 (c' := (86, [(0, .ref 0), (1, .int x), (2, .int y)], [.int (-2)], S)) rfl ?_
    exact x_ret (r := some (.int (-2))) rfl rfl trivial ⟨rfl, rfl⟩ rfl
  · refine run_ok 1 (c' := (10, [(0, .ref 0), (1, .int x), (2, .int y)], [.int (-2)], S)) rfl ?_
    exact x_ret (r := some (.int (-2))) rfl rfl trivial ⟨rfl, rfl⟩ rfl

set_option maxHeartbeats 2000000 in
theorem c_boat_ok0 (S : ST) (T : TD) (hT : TR 5 T S) (hto : tok T) (k : Nat) (hk : k < tnb T) : EX me_N_boat 2 [.ref 0, .int (nI k), .int (nI 0)] S (fun r u => r = some (.int (nI (tso T k))) ∧ u = S) := by
  refine EX.of mok_N_boat (Nat.le_of_ble_eq_true rfl) ?_
  obtain ⟨n8, n9, hbt, het, hht, hlo⟩ := id hto
  obtain ⟨t1, t2, t3, t4, t5, t6, t7, t8, t9, t10, t11⟩ := id hT
  refine run_ok 2 (c' := (2, [(0, .ref 0), (1, .int (nI k)), (2, .int (nI 0))], [.int (nI k), .ref 0], S)) rfl ?_
  refine x_callV [.int (nI k)] rfl cv_N_isBoat.1 lk_6_107 cv_N_isBoat.2.1 cv_N_isBoat.2.2.1 rfl cv_N_isBoat.2.2.2.1 rfl rfl (Nat.le_of_ble_eq_true rfl) (by decide) cv_N_isBoat.2.2.2.2 (c_isBoat S (nI k) (tnb T) t9) ?_
  rintro r u ⟨hr, hu⟩
  rw [hr, hu]
  clear hr hu r u
  refine x_ifB_ne 11 rfl rfl (fun h5 => ?_) (fun hn => absurd (inr_t hk (by omega)) hn)
  refine run_ok 1 (c' := (12, [(0, .ref 0), (1, .int (nI k)), (2, .int (nI 0))], [.int (nI 0)], S)) rfl ?_
  refine x_tabIn 44 rfl (by decide) (by decide) rfl rfl ?_
  refine run_ok 4 (c' := (52, [(0, .ref 0), (1, .int (nI k)), (2, .int (nI 0))], [.int (nI k), .ref 7], S)) rfl ?_
  refine x_iaN (nI (tso T k)) rfl rfl (by decide) (by omega) (t2 k (by omega)) ?_
  exact x_ret (r := some (.int (nI (tso T k)))) rfl rfl trivial ⟨rfl, rfl⟩ rfl

set_option maxHeartbeats 2000000 in
theorem c_boat_ok1 (S : ST) (T : TD) (hT : TR 5 T S) (hto : tok T) (k : Nat) (hk : k < tnb T) : EX me_N_boat 2 [.ref 0, .int (nI k), .int (nI 1)] S (fun r u => r = some (.int (nI (tbu T k))) ∧ u = S) := by
  refine EX.of mok_N_boat (Nat.le_of_ble_eq_true rfl) ?_
  obtain ⟨n8, n9, hbt, het, hht, hlo⟩ := id hto
  obtain ⟨t1, t2, t3, t4, t5, t6, t7, t8, t9, t10, t11⟩ := id hT
  refine run_ok 2 (c' := (2, [(0, .ref 0), (1, .int (nI k)), (2, .int (nI 1))], [.int (nI k), .ref 0], S)) rfl ?_
  refine x_callV [.int (nI k)] rfl cv_N_isBoat.1 lk_6_107 cv_N_isBoat.2.1 cv_N_isBoat.2.2.1 rfl cv_N_isBoat.2.2.2.1 rfl rfl (Nat.le_of_ble_eq_true rfl) (by decide) cv_N_isBoat.2.2.2.2 (c_isBoat S (nI k) (tnb T) t9) ?_
  rintro r u ⟨hr, hu⟩
  rw [hr, hu]
  clear hr hu r u
  refine x_ifB_ne 11 rfl rfl (fun h5 => ?_) (fun hn => absurd (inr_t hk (by omega)) hn)
  refine run_ok 1 (c' := (12, [(0, .ref 0), (1, .int (nI k)), (2, .int (nI 1))], [.int (nI 1)], S)) rfl ?_
  refine x_tabIn 54 rfl (by decide) (by decide) rfl rfl ?_
  refine run_ok 4 (c' := (62, [(0, .ref 0), (1, .int (nI k)), (2, .int (nI 1))], [.int (nI k), .ref 8], S)) rfl ?_
  refine x_iaN (nI (tbu T k)) rfl rfl (by decide) (by omega) (t3 k (by omega)) ?_
  exact x_ret (r := some (.int (nI (tbu T k)))) rfl rfl trivial ⟨rfl, rfl⟩ rfl

set_option maxHeartbeats 2000000 in
theorem c_boat_ok2 (S : ST) (T : TD) (hT : TR 5 T S) (hto : tok T) (k : Nat) (hk : k < tnb T) : EX me_N_boat 2 [.ref 0, .int (nI k), .int (nI 2)] S (fun r u => r = some (.int (nI (tla T k))) ∧ u = S) := by
  refine EX.of mok_N_boat (Nat.le_of_ble_eq_true rfl) ?_
  obtain ⟨n8, n9, hbt, het, hht, hlo⟩ := id hto
  obtain ⟨t1, t2, t3, t4, t5, t6, t7, t8, t9, t10, t11⟩ := id hT
  refine run_ok 2 (c' := (2, [(0, .ref 0), (1, .int (nI k)), (2, .int (nI 2))], [.int (nI k), .ref 0], S)) rfl ?_
  refine x_callV [.int (nI k)] rfl cv_N_isBoat.1 lk_6_107 cv_N_isBoat.2.1 cv_N_isBoat.2.2.1 rfl cv_N_isBoat.2.2.2.1 rfl rfl (Nat.le_of_ble_eq_true rfl) (by decide) cv_N_isBoat.2.2.2.2 (c_isBoat S (nI k) (tnb T) t9) ?_
  rintro r u ⟨hr, hu⟩
  rw [hr, hu]
  clear hr hu r u
  refine x_ifB_ne 11 rfl rfl (fun h5 => ?_) (fun hn => absurd (inr_t hk (by omega)) hn)
  refine run_ok 1 (c' := (12, [(0, .ref 0), (1, .int (nI k)), (2, .int (nI 2))], [.int (nI 2)], S)) rfl ?_
  refine x_tabIn 64 rfl (by decide) (by decide) rfl rfl ?_
  refine run_ok 4 (c' := (72, [(0, .ref 0), (1, .int (nI k)), (2, .int (nI 2))], [.int (nI k), .ref 9], S)) rfl ?_
  refine x_iaN (nI (tla T k)) rfl rfl (by decide) (by omega) (t4 k (by omega)) ?_
  exact x_ret (r := some (.int (nI (tla T k)))) rfl rfl trivial ⟨rfl, rfl⟩ rfl

set_option maxHeartbeats 2000000 in
theorem c_boat_ok3 (S : ST) (T : TD) (hT : TR 5 T S) (hto : tok T) (k : Nat) (hk : k < tnb T) : EX me_N_boat 2 [.ref 0, .int (nI k), .int (nI 3)] S (fun r u => r = some (.int (nI (tst T k))) ∧ u = S) := by
  refine EX.of mok_N_boat (Nat.le_of_ble_eq_true rfl) ?_
  obtain ⟨n8, n9, hbt, het, hht, hlo⟩ := id hto
  obtain ⟨t1, t2, t3, t4, t5, t6, t7, t8, t9, t10, t11⟩ := id hT
  refine run_ok 2 (c' := (2, [(0, .ref 0), (1, .int (nI k)), (2, .int (nI 3))], [.int (nI k), .ref 0], S)) rfl ?_
  refine x_callV [.int (nI k)] rfl cv_N_isBoat.1 lk_6_107 cv_N_isBoat.2.1 cv_N_isBoat.2.2.1 rfl cv_N_isBoat.2.2.2.1 rfl rfl (Nat.le_of_ble_eq_true rfl) (by decide) cv_N_isBoat.2.2.2.2 (c_isBoat S (nI k) (tnb T) t9) ?_
  rintro r u ⟨hr, hu⟩
  rw [hr, hu]
  clear hr hu r u
  refine x_ifB_ne 11 rfl rfl (fun h5 => ?_) (fun hn => absurd (inr_t hk (by omega)) hn)
  refine run_ok 1 (c' := (12, [(0, .ref 0), (1, .int (nI k)), (2, .int (nI 3))], [.int (nI 3)], S)) rfl ?_
  refine x_tabIn 74 rfl (by decide) (by decide) rfl rfl ?_
  refine run_ok 4 (c' := (82, [(0, .ref 0), (1, .int (nI k)), (2, .int (nI 3))], [.int (nI k), .ref 10], S)) rfl ?_
  refine x_iaN (nI (tst T k)) rfl rfl (by decide) (by omega) (t5 k (by omega)) ?_
  exact x_ret (r := some (.int (nI (tst T k)))) rfl rfl trivial ⟨rfl, rfl⟩ rfl

set_option maxHeartbeats 2000000 in
theorem c_hates_bad (S : ST) (x y z : Int32) (hbad : ¬ ((0 ≤ x ∧ x < nI 24) ∧ (0 ≤ y ∧ y < nI 8) ∧ (0 ≤ z ∧ z < nI 8) ∧ ¬ y = z)) : EX me_N_hates 5 [.ref 0, .int x, .int y, .int z] S (fun r u => r = some (.int ((-2))) ∧ u = S) := by
  refine EX.of mok_N_hates (Nat.le_of_ble_eq_true rfl) ?_
  refine run_ok 2 (c' := (3, [(0, .ref 0), (1, .int x), (2, .int y), (3, .int z)], [.int (nI 24), .int x], S)) rfl ?_
  refine x_callS [.int x, .int (nI 24)] rfl cs_N_isBelow.1 lk_6_73 cs_N_isBelow.2.1 rfl rfl (Nat.le_of_ble_eq_true rfl) (by decide) cs_N_isBelow.2.2 (c_isBelow S (x) (nI 24)) ?_
  rintro r u ⟨hr, hu⟩
  rw [hr, hu]
  clear hr hu r u
  refine x_ifB_eq 17 rfl rfl (fun h6 => ?_) (fun h6 => ?_)
  · refine run_ok 1 (c' := (19, [(0, .ref 0), (1, .int x), (2, .int y), (3, .int z)], [.int (-2)], S)) rfl ?_
    exact x_ret (r := some (.int (-2))) rfl rfl trivial ⟨rfl, rfl⟩ rfl
  · refine run_ok 2 (c' := (11, [(0, .ref 0), (1, .int x), (2, .int y), (3, .int z)], [.int z, .int y], S)) rfl ?_
    refine x_callS [.int y, .int z] rfl cs_N_areTwo.1 lk_6_97 cs_N_areTwo.2.1 rfl rfl (Nat.le_of_ble_eq_true rfl) (by decide) cs_N_areTwo.2.2 (c_areTwo S (y) (z)) ?_
    rintro r u ⟨hr, hu⟩
    rw [hr, hu]
    clear hr hu r u
    refine x_ifB_ne 20 rfl rfl (fun h14 => ?_) (fun h14 => ?_)
    · exact absurd ⟨h6, h14⟩ hbad
    · refine run_ok 1 (c' := (19, [(0, .ref 0), (1, .int x), (2, .int y), (3, .int z)], [.int (-2)], S)) rfl ?_
      exact x_ret (r := some (.int (-2))) rfl rfl trivial ⟨rfl, rfl⟩ rfl

set_option maxHeartbeats 2000000 in
theorem c_hates_ok (S : ST) (T : TD) (hT : TR 5 T S) (hto : tok T) (w p q : Nat) (hw : w < 24) (hp : p < 8) (hq : q < 8) (hpq : p ≠ q) : EX me_N_hates 5 [.ref 0, .int (nI w), .int (nI p), .int (nI q)] S (fun r u => r = some (.int (nI (vh (vo T (w + 1)) (8 * p + q)))) ∧ fr CQ S u) := by
  refine EX.of mok_N_hates (Nat.le_of_ble_eq_true rfl) ?_
  obtain ⟨n8, n9, hbt, het, hht, hlo⟩ := id hto
  obtain ⟨t1, t2, t3, t4, t5, t6, t7, t8, t9, t10, t11⟩ := id hT
  refine run_ok 2 (c' := (3, [(0, .ref 0), (1, .int (nI w)), (2, .int (nI p)), (3, .int (nI q))], [.int (nI 24), .int (nI w)], S)) rfl ?_
  refine x_callS [.int (nI w), .int (nI 24)] rfl cs_N_isBelow.1 lk_6_73 cs_N_isBelow.2.1 rfl rfl (Nat.le_of_ble_eq_true rfl) (by decide) cs_N_isBelow.2.2 (c_isBelow S (nI w) (nI 24)) ?_
  rintro r u ⟨hr, hu⟩
  rw [hr, hu]
  clear hr hu r u
  refine x_ifB_eq 17 rfl rfl (fun hn => absurd hn (fun z => z (inr_t hw (by decide)))) (fun h6 => ?_)
  refine run_ok 2 (c' := (11, [(0, .ref 0), (1, .int (nI w)), (2, .int (nI p)), (3, .int (nI q))], [.int (nI q), .int (nI p)], S)) rfl ?_
  refine x_callS [.int (nI p), .int (nI q)] rfl cs_N_areTwo.1 lk_6_97 cs_N_areTwo.2.1 rfl rfl (Nat.le_of_ble_eq_true rfl) (by decide) cs_N_areTwo.2.2 (c_areTwo S (nI p) (nI q)) ?_
  rintro r u ⟨hr, hu⟩
  rw [hr, hu]
  clear hr hu r u
  refine x_ifB_ne 20 rfl rfl (fun h14 => ?_) (fun hn => absurd (two_t hp hq hpq) hn)
  refine run_ok 5 (c' := (29, [(0, .ref 0), (1, .int (nI w)), (2, .int (nI p)), (3, .int (nI q))], [.int (nI w), .ref 5, .ref 23], S)) rfl ?_
  refine x_callV [.ref 5, .int (nI w)] rfl cv_V_run.1 lk_6_146 cv_V_run.2.1 cv_V_run.2.2.1 rfl cv_V_run.2.2.2.1 rfl rfl (Nat.le_of_ble_eq_true rfl) (by decide) cv_V_run.2.2.2.2 (c_run5 S T w hT hto (by omega)) ?_
  rintro r u ⟨hr, hCu, hfu, h2u⟩
  rw [hr]
  clear hr r
  have hTu : TR 5 T u := hT.keep hfu (by decide)
  obtain ⟨t1, t2, t3, t4, t5, t6, t7, t8, t9, t10, t11⟩ := id hTu
  obtain ⟨h24, h25, h26, h27, h28, h29, hsr, g9, g10, g11, htl⟩ := id hCu
  have hVu : vk T (vo T (w + 1)) := (vk_vo hto (w + 1) (by omega)).1
  refine run_ok 5 (c' := (41, [(0, .ref 0), (1, .int (nI w)), (2, .int (nI p)), (3, .int (nI q))], [.int (nI q), .int (nI p), .ref 24], u)) rfl ?_
  refine x_callS [.int (nI p), .int (nI q)] rfl cs_N_pair.1 lk_6_103 cs_N_pair.2.1 rfl rfl (Nat.le_of_ble_eq_true rfl) (by decide) cs_N_pair.2.2 (c_pair u (nI p) (nI q)) ?_
  rintro r u ⟨hr, hu⟩
  rw [hr, hu]
  clear hr hu r u
  refine x_top (v' := nI (p * 8 + q)) (by rw [pk_mul, nI_add]) ?_
  refine x_iaN (nI (vh (vo T (w + 1)) (8 * p + q))) rfl rfl (by decide) (by omega) (by rw [show p * 8 + q = 8 * p + q by omega]; exact h24 _ (by omega)) ?_
  exact x_ret (r := some (.int (nI (vh (vo T (w + 1)) (8 * p + q))))) rfl rfl trivial ⟨rfl, hfu.sub (by decide)⟩ rfl

set_option maxHeartbeats 2000000 in
theorem c_at_bad (S : ST) (T : TD) (t9 : S.1 5 6 = nI (tnb T)) (x y z : Int32) (hbad : ¬ ((0 ≤ x ∧ x < nI 24) ∧ (0 ≤ y ∧ y < nI (tnb T)) ∧ (0 ≤ z ∧ z < nI 4))) : EX me_N_at 5 [.ref 0, .int x, .int y, .int z] S (fun r u => r = some (.int ((-2))) ∧ u = S) := by
  refine EX.of mok_N_at (Nat.le_of_ble_eq_true rfl) ?_
  refine run_ok 2 (c' := (3, [(0, .ref 0), (1, .int x), (2, .int y), (3, .int z)], [.int (nI 24), .int x], S)) rfl ?_
  refine x_callS [.int x, .int (nI 24)] rfl cs_N_isBelow.1 lk_6_73 cs_N_isBelow.2.1 rfl rfl (Nat.le_of_ble_eq_true rfl) (by decide) cs_N_isBelow.2.2 (c_isBelow S (x) (nI 24)) ?_
  rintro r u ⟨hr, hu⟩
  rw [hr, hu]
  clear hr hu r u
  refine x_ifB_eq 25 rfl rfl (fun h6 => ?_) (fun h6 => ?_)
  · refine run_ok 1 (c' := (27, [(0, .ref 0), (1, .int x), (2, .int y), (3, .int z)], [.int (-2)], S)) rfl ?_
    exact x_ret (r := some (.int (-2))) rfl rfl trivial ⟨rfl, rfl⟩ rfl
  · refine run_ok 2 (c' := (11, [(0, .ref 0), (1, .int x), (2, .int y), (3, .int z)], [.int y, .ref 0], S)) rfl ?_
    refine x_callV [.int y] rfl cv_N_isBoat.1 lk_6_107 cv_N_isBoat.2.1 cv_N_isBoat.2.2.1 rfl cv_N_isBoat.2.2.2.1 rfl rfl (Nat.le_of_ble_eq_true rfl) (by decide) cv_N_isBoat.2.2.2.2 (c_isBoat S (y) (tnb T) t9) ?_
    rintro r u ⟨hr, hu⟩
    rw [hr, hu]
    clear hr hu r u
    refine x_ifB_eq 25 rfl rfl (fun h14 => ?_) (fun h14 => ?_)
    · refine run_ok 1 (c' := (27, [(0, .ref 0), (1, .int x), (2, .int y), (3, .int z)], [.int (-2)], S)) rfl ?_
      exact x_ret (r := some (.int (-2))) rfl rfl trivial ⟨rfl, rfl⟩ rfl
    · refine run_ok 2 (c' := (19, [(0, .ref 0), (1, .int x), (2, .int y), (3, .int z)], [.int (nI 4), .int z], S)) rfl ?_
      refine x_callS [.int z, .int (nI 4)] rfl cs_N_isBelow.1 lk_6_73 cs_N_isBelow.2.1 rfl rfl (Nat.le_of_ble_eq_true rfl) (by decide) cs_N_isBelow.2.2 (c_isBelow S (z) (nI 4)) ?_
      rintro r u ⟨hr, hu⟩
      rw [hr, hu]
      clear hr hu r u
      refine x_ifB_ne 28 rfl rfl (fun h22 => ?_) (fun h22 => ?_)
      · exact absurd ⟨h6, h14, h22⟩ hbad
      · refine run_ok 1 (c' := (27, [(0, .ref 0), (1, .int x), (2, .int y), (3, .int z)], [.int (-2)], S)) rfl ?_
        exact x_ret (r := some (.int (-2))) rfl rfl trivial ⟨rfl, rfl⟩ rfl

set_option maxHeartbeats 2000000 in
theorem c_at_ok0 (S : ST) (T : TD) (hT : TR 5 T S) (hto : tok T) (w k : Nat) (hw : w < 24) (hk : k < tnb T) : EX me_N_at 5 [.ref 0, .int (nI w), .int (nI k), .int (nI 0)] S (fun r u => r = some (.int (nI (vis (vo T (w + 1)) k))) ∧ fr CQ S u) := by
  refine EX.of mok_N_at (Nat.le_of_ble_eq_true rfl) ?_
  obtain ⟨n8, n9, hbt, het, hht, hlo⟩ := id hto
  obtain ⟨t1, t2, t3, t4, t5, t6, t7, t8, t9, t10, t11⟩ := id hT
  refine run_ok 2 (c' := (3, [(0, .ref 0), (1, .int (nI w)), (2, .int (nI k)), (3, .int (nI 0))], [.int (nI 24), .int (nI w)], S)) rfl ?_
  refine x_callS [.int (nI w), .int (nI 24)] rfl cs_N_isBelow.1 lk_6_73 cs_N_isBelow.2.1 rfl rfl (Nat.le_of_ble_eq_true rfl) (by decide) cs_N_isBelow.2.2 (c_isBelow S (nI w) (nI 24)) ?_
  rintro r u ⟨hr, hu⟩
  rw [hr, hu]
  clear hr hu r u
  refine x_ifB_eq 25 rfl rfl (fun hn => absurd hn (fun z => z (inr_t hw (by decide)))) (fun h6 => ?_)
  refine run_ok 2 (c' := (11, [(0, .ref 0), (1, .int (nI w)), (2, .int (nI k)), (3, .int (nI 0))], [.int (nI k), .ref 0], S)) rfl ?_
  refine x_callV [.int (nI k)] rfl cv_N_isBoat.1 lk_6_107 cv_N_isBoat.2.1 cv_N_isBoat.2.2.1 rfl cv_N_isBoat.2.2.2.1 rfl rfl (Nat.le_of_ble_eq_true rfl) (by decide) cv_N_isBoat.2.2.2.2 (c_isBoat S (nI k) (tnb T) t9) ?_
  rintro r u ⟨hr, hu⟩
  rw [hr, hu]
  clear hr hu r u
  refine x_ifB_eq 25 rfl rfl (fun hn => absurd hn (fun z => z (inr_t hk (by omega)))) (fun h14 => ?_)
  refine run_ok 2 (c' := (19, [(0, .ref 0), (1, .int (nI w)), (2, .int (nI k)), (3, .int (nI 0))], [.int (nI 4), .int (nI 0)], S)) rfl ?_
  refine x_callS [.int (nI 0), .int (nI 4)] rfl cs_N_isBelow.1 lk_6_73 cs_N_isBelow.2.1 rfl rfl (Nat.le_of_ble_eq_true rfl) (by decide) cs_N_isBelow.2.2 (c_isBelow S (nI 0) (nI 4)) ?_
  rintro r u ⟨hr, hu⟩
  rw [hr, hu]
  clear hr hu r u
  refine x_ifB_ne 28 rfl rfl (fun h22 => ?_) (fun hn => absurd (inr_t (by decide) (by decide)) hn)
  refine run_ok 5 (c' := (37, [(0, .ref 0), (1, .int (nI w)), (2, .int (nI k)), (3, .int (nI 0))], [.int (nI w), .ref 5, .ref 23], S)) rfl ?_
  refine x_callV [.ref 5, .int (nI w)] rfl cv_V_run.1 lk_6_146 cv_V_run.2.1 cv_V_run.2.2.1 rfl cv_V_run.2.2.2.1 rfl rfl (Nat.le_of_ble_eq_true rfl) (by decide) cv_V_run.2.2.2.2 (c_run5 S T w hT hto (by omega)) ?_
  rintro r u ⟨hr, hCu, hfu, h2u⟩
  rw [hr]
  clear hr r
  have hTu : TR 5 T u := hT.keep hfu (by decide)
  obtain ⟨t1, t2, t3, t4, t5, t6, t7, t8, t9, t10, t11⟩ := id hTu
  obtain ⟨h24, h25, h26, h27, h28, h29, hsr, g9, g10, g11, htl⟩ := id hCu
  have hVu : vk T (vo T (w + 1)) := (vk_vo hto (w + 1) (by omega)).1
  refine run_ok 1 (c' := (41, [(0, .ref 0), (1, .int (nI w)), (2, .int (nI k)), (3, .int (nI 0))], [.int (nI 0)], u)) rfl ?_
  refine x_tabIn 68 rfl (by decide) (by decide) rfl rfl ?_
  refine run_ok 4 (c' := (76, [(0, .ref 0), (1, .int (nI w)), (2, .int (nI k)), (3, .int (nI 0))], [.int (nI k), .ref 25], u)) rfl ?_
  refine x_iaN (nI (vis (vo T (w + 1)) k)) rfl rfl (by decide) (by omega) (h25 k (by omega)) ?_
  exact x_ret (r := some (.int (nI (vis (vo T (w + 1)) k)))) rfl rfl trivial ⟨rfl, hfu.sub (by decide)⟩ rfl

set_option maxHeartbeats 2000000 in
theorem c_at_ok1 (S : ST) (T : TD) (hT : TR 5 T S) (hto : tok T) (w k : Nat) (hw : w < 24) (hk : k < tnb T) : EX me_N_at 5 [.ref 0, .int (nI w), .int (nI k), .int (nI 1)] S (fun r u => r = some (.int (nmv (vnm (vo T (w + 1)) k))) ∧ fr CQ S u) := by
  refine EX.of mok_N_at (Nat.le_of_ble_eq_true rfl) ?_
  obtain ⟨n8, n9, hbt, het, hht, hlo⟩ := id hto
  obtain ⟨t1, t2, t3, t4, t5, t6, t7, t8, t9, t10, t11⟩ := id hT
  refine run_ok 2 (c' := (3, [(0, .ref 0), (1, .int (nI w)), (2, .int (nI k)), (3, .int (nI 1))], [.int (nI 24), .int (nI w)], S)) rfl ?_
  refine x_callS [.int (nI w), .int (nI 24)] rfl cs_N_isBelow.1 lk_6_73 cs_N_isBelow.2.1 rfl rfl (Nat.le_of_ble_eq_true rfl) (by decide) cs_N_isBelow.2.2 (c_isBelow S (nI w) (nI 24)) ?_
  rintro r u ⟨hr, hu⟩
  rw [hr, hu]
  clear hr hu r u
  refine x_ifB_eq 25 rfl rfl (fun hn => absurd hn (fun z => z (inr_t hw (by decide)))) (fun h6 => ?_)
  refine run_ok 2 (c' := (11, [(0, .ref 0), (1, .int (nI w)), (2, .int (nI k)), (3, .int (nI 1))], [.int (nI k), .ref 0], S)) rfl ?_
  refine x_callV [.int (nI k)] rfl cv_N_isBoat.1 lk_6_107 cv_N_isBoat.2.1 cv_N_isBoat.2.2.1 rfl cv_N_isBoat.2.2.2.1 rfl rfl (Nat.le_of_ble_eq_true rfl) (by decide) cv_N_isBoat.2.2.2.2 (c_isBoat S (nI k) (tnb T) t9) ?_
  rintro r u ⟨hr, hu⟩
  rw [hr, hu]
  clear hr hu r u
  refine x_ifB_eq 25 rfl rfl (fun hn => absurd hn (fun z => z (inr_t hk (by omega)))) (fun h14 => ?_)
  refine run_ok 2 (c' := (19, [(0, .ref 0), (1, .int (nI w)), (2, .int (nI k)), (3, .int (nI 1))], [.int (nI 4), .int (nI 1)], S)) rfl ?_
  refine x_callS [.int (nI 1), .int (nI 4)] rfl cs_N_isBelow.1 lk_6_73 cs_N_isBelow.2.1 rfl rfl (Nat.le_of_ble_eq_true rfl) (by decide) cs_N_isBelow.2.2 (c_isBelow S (nI 1) (nI 4)) ?_
  rintro r u ⟨hr, hu⟩
  rw [hr, hu]
  clear hr hu r u
  refine x_ifB_ne 28 rfl rfl (fun h22 => ?_) (fun hn => absurd (inr_t (by decide) (by decide)) hn)
  refine run_ok 5 (c' := (37, [(0, .ref 0), (1, .int (nI w)), (2, .int (nI k)), (3, .int (nI 1))], [.int (nI w), .ref 5, .ref 23], S)) rfl ?_
  refine x_callV [.ref 5, .int (nI w)] rfl cv_V_run.1 lk_6_146 cv_V_run.2.1 cv_V_run.2.2.1 rfl cv_V_run.2.2.2.1 rfl rfl (Nat.le_of_ble_eq_true rfl) (by decide) cv_V_run.2.2.2.2 (c_run5 S T w hT hto (by omega)) ?_
  rintro r u ⟨hr, hCu, hfu, h2u⟩
  rw [hr]
  clear hr r
  have hTu : TR 5 T u := hT.keep hfu (by decide)
  obtain ⟨t1, t2, t3, t4, t5, t6, t7, t8, t9, t10, t11⟩ := id hTu
  obtain ⟨h24, h25, h26, h27, h28, h29, hsr, g9, g10, g11, htl⟩ := id hCu
  have hVu : vk T (vo T (w + 1)) := (vk_vo hto (w + 1) (by omega)).1
  refine run_ok 1 (c' := (41, [(0, .ref 0), (1, .int (nI w)), (2, .int (nI k)), (3, .int (nI 1))], [.int (nI 1)], u)) rfl ?_
  refine x_tabIn 78 rfl (by decide) (by decide) rfl rfl ?_
  refine run_ok 4 (c' := (86, [(0, .ref 0), (1, .int (nI w)), (2, .int (nI k)), (3, .int (nI 1))], [.int (nI k), .ref 26], u)) rfl ?_
  refine x_iaN (nmv (vnm (vo T (w + 1)) k)) rfl rfl (by decide) (by omega) (h26 k (by omega)) ?_
  exact x_ret (r := some (.int (nmv (vnm (vo T (w + 1)) k)))) rfl rfl trivial ⟨rfl, hfu.sub (by decide)⟩ rfl

set_option maxHeartbeats 2000000 in
theorem c_at_ok2 (S : ST) (T : TD) (hT : TR 5 T S) (hto : tok T) (w k : Nat) (hw : w < 24) (hk : k < tnb T) : EX me_N_at 5 [.ref 0, .int (nI w), .int (nI k), .int (nI 2)] S (fun r u => r = some (.int (nI (vgr (vo T (w + 1)) k))) ∧ fr CQ S u) := by
  refine EX.of mok_N_at (Nat.le_of_ble_eq_true rfl) ?_
  obtain ⟨n8, n9, hbt, het, hht, hlo⟩ := id hto
  obtain ⟨t1, t2, t3, t4, t5, t6, t7, t8, t9, t10, t11⟩ := id hT
  refine run_ok 2 (c' := (3, [(0, .ref 0), (1, .int (nI w)), (2, .int (nI k)), (3, .int (nI 2))], [.int (nI 24), .int (nI w)], S)) rfl ?_
  refine x_callS [.int (nI w), .int (nI 24)] rfl cs_N_isBelow.1 lk_6_73 cs_N_isBelow.2.1 rfl rfl (Nat.le_of_ble_eq_true rfl) (by decide) cs_N_isBelow.2.2 (c_isBelow S (nI w) (nI 24)) ?_
  rintro r u ⟨hr, hu⟩
  rw [hr, hu]
  clear hr hu r u
  refine x_ifB_eq 25 rfl rfl (fun hn => absurd hn (fun z => z (inr_t hw (by decide)))) (fun h6 => ?_)
  refine run_ok 2 (c' := (11, [(0, .ref 0), (1, .int (nI w)), (2, .int (nI k)), (3, .int (nI 2))], [.int (nI k), .ref 0], S)) rfl ?_
  refine x_callV [.int (nI k)] rfl cv_N_isBoat.1 lk_6_107 cv_N_isBoat.2.1 cv_N_isBoat.2.2.1 rfl cv_N_isBoat.2.2.2.1 rfl rfl (Nat.le_of_ble_eq_true rfl) (by decide) cv_N_isBoat.2.2.2.2 (c_isBoat S (nI k) (tnb T) t9) ?_
  rintro r u ⟨hr, hu⟩
  rw [hr, hu]
  clear hr hu r u
  refine x_ifB_eq 25 rfl rfl (fun hn => absurd hn (fun z => z (inr_t hk (by omega)))) (fun h14 => ?_)
  refine run_ok 2 (c' := (19, [(0, .ref 0), (1, .int (nI w)), (2, .int (nI k)), (3, .int (nI 2))], [.int (nI 4), .int (nI 2)], S)) rfl ?_
  refine x_callS [.int (nI 2), .int (nI 4)] rfl cs_N_isBelow.1 lk_6_73 cs_N_isBelow.2.1 rfl rfl (Nat.le_of_ble_eq_true rfl) (by decide) cs_N_isBelow.2.2 (c_isBelow S (nI 2) (nI 4)) ?_
  rintro r u ⟨hr, hu⟩
  rw [hr, hu]
  clear hr hu r u
  refine x_ifB_ne 28 rfl rfl (fun h22 => ?_) (fun hn => absurd (inr_t (by decide) (by decide)) hn)
  refine run_ok 5 (c' := (37, [(0, .ref 0), (1, .int (nI w)), (2, .int (nI k)), (3, .int (nI 2))], [.int (nI w), .ref 5, .ref 23], S)) rfl ?_
  refine x_callV [.ref 5, .int (nI w)] rfl cv_V_run.1 lk_6_146 cv_V_run.2.1 cv_V_run.2.2.1 rfl cv_V_run.2.2.2.1 rfl rfl (Nat.le_of_ble_eq_true rfl) (by decide) cv_V_run.2.2.2.2 (c_run5 S T w hT hto (by omega)) ?_
  rintro r u ⟨hr, hCu, hfu, h2u⟩
  rw [hr]
  clear hr r
  have hTu : TR 5 T u := hT.keep hfu (by decide)
  obtain ⟨t1, t2, t3, t4, t5, t6, t7, t8, t9, t10, t11⟩ := id hTu
  obtain ⟨h24, h25, h26, h27, h28, h29, hsr, g9, g10, g11, htl⟩ := id hCu
  have hVu : vk T (vo T (w + 1)) := (vk_vo hto (w + 1) (by omega)).1
  refine run_ok 1 (c' := (41, [(0, .ref 0), (1, .int (nI w)), (2, .int (nI k)), (3, .int (nI 2))], [.int (nI 2)], u)) rfl ?_
  refine x_tabIn 88 rfl (by decide) (by decide) rfl rfl ?_
  refine run_ok 4 (c' := (96, [(0, .ref 0), (1, .int (nI w)), (2, .int (nI k)), (3, .int (nI 2))], [.int (nI k), .ref 27], u)) rfl ?_
  refine x_iaN (nI (vgr (vo T (w + 1)) k)) rfl rfl (by decide) (by omega) (h27 k (by omega)) ?_
  exact x_ret (r := some (.int (nI (vgr (vo T (w + 1)) k)))) rfl rfl trivial ⟨rfl, hfu.sub (by decide)⟩ rfl

set_option maxHeartbeats 2000000 in
theorem c_at_ok3 (S : ST) (T : TD) (hT : TR 5 T S) (hto : tok T) (w k : Nat) (hw : w < 24) (hk : k < tnb T) : EX me_N_at 5 [.ref 0, .int (nI w), .int (nI k), .int (nI 3)] S (fun r u => r = some (.int (nI (vho (vo T (w + 1)) k))) ∧ fr CQ S u) := by
  refine EX.of mok_N_at (Nat.le_of_ble_eq_true rfl) ?_
  obtain ⟨n8, n9, hbt, het, hht, hlo⟩ := id hto
  obtain ⟨t1, t2, t3, t4, t5, t6, t7, t8, t9, t10, t11⟩ := id hT
  refine run_ok 2 (c' := (3, [(0, .ref 0), (1, .int (nI w)), (2, .int (nI k)), (3, .int (nI 3))], [.int (nI 24), .int (nI w)], S)) rfl ?_
  refine x_callS [.int (nI w), .int (nI 24)] rfl cs_N_isBelow.1 lk_6_73 cs_N_isBelow.2.1 rfl rfl (Nat.le_of_ble_eq_true rfl) (by decide) cs_N_isBelow.2.2 (c_isBelow S (nI w) (nI 24)) ?_
  rintro r u ⟨hr, hu⟩
  rw [hr, hu]
  clear hr hu r u
  refine x_ifB_eq 25 rfl rfl (fun hn => absurd hn (fun z => z (inr_t hw (by decide)))) (fun h6 => ?_)
  refine run_ok 2 (c' := (11, [(0, .ref 0), (1, .int (nI w)), (2, .int (nI k)), (3, .int (nI 3))], [.int (nI k), .ref 0], S)) rfl ?_
  refine x_callV [.int (nI k)] rfl cv_N_isBoat.1 lk_6_107 cv_N_isBoat.2.1 cv_N_isBoat.2.2.1 rfl cv_N_isBoat.2.2.2.1 rfl rfl (Nat.le_of_ble_eq_true rfl) (by decide) cv_N_isBoat.2.2.2.2 (c_isBoat S (nI k) (tnb T) t9) ?_
  rintro r u ⟨hr, hu⟩
  rw [hr, hu]
  clear hr hu r u
  refine x_ifB_eq 25 rfl rfl (fun hn => absurd hn (fun z => z (inr_t hk (by omega)))) (fun h14 => ?_)
  refine run_ok 2 (c' := (19, [(0, .ref 0), (1, .int (nI w)), (2, .int (nI k)), (3, .int (nI 3))], [.int (nI 4), .int (nI 3)], S)) rfl ?_
  refine x_callS [.int (nI 3), .int (nI 4)] rfl cs_N_isBelow.1 lk_6_73 cs_N_isBelow.2.1 rfl rfl (Nat.le_of_ble_eq_true rfl) (by decide) cs_N_isBelow.2.2 (c_isBelow S (nI 3) (nI 4)) ?_
  rintro r u ⟨hr, hu⟩
  rw [hr, hu]
  clear hr hu r u
  refine x_ifB_ne 28 rfl rfl (fun h22 => ?_) (fun hn => absurd (inr_t (by decide) (by decide)) hn)
  refine run_ok 5 (c' := (37, [(0, .ref 0), (1, .int (nI w)), (2, .int (nI k)), (3, .int (nI 3))], [.int (nI w), .ref 5, .ref 23], S)) rfl ?_
  refine x_callV [.ref 5, .int (nI w)] rfl cv_V_run.1 lk_6_146 cv_V_run.2.1 cv_V_run.2.2.1 rfl cv_V_run.2.2.2.1 rfl rfl (Nat.le_of_ble_eq_true rfl) (by decide) cv_V_run.2.2.2.2 (c_run5 S T w hT hto (by omega)) ?_
  rintro r u ⟨hr, hCu, hfu, h2u⟩
  rw [hr]
  clear hr r
  have hTu : TR 5 T u := hT.keep hfu (by decide)
  obtain ⟨t1, t2, t3, t4, t5, t6, t7, t8, t9, t10, t11⟩ := id hTu
  obtain ⟨h24, h25, h26, h27, h28, h29, hsr, g9, g10, g11, htl⟩ := id hCu
  have hVu : vk T (vo T (w + 1)) := (vk_vo hto (w + 1) (by omega)).1
  refine run_ok 1 (c' := (41, [(0, .ref 0), (1, .int (nI w)), (2, .int (nI k)), (3, .int (nI 3))], [.int (nI 3)], u)) rfl ?_
  refine x_tabOut 98 rfl (Or.inr (by decide)) rfl ?_
  refine run_ok 4 (c' := (106, [(0, .ref 0), (1, .int (nI w)), (2, .int (nI k)), (3, .int (nI 3))], [.int (nI k), .ref 28], u)) rfl ?_
  refine x_iaN (nI (vho (vo T (w + 1)) k)) rfl rfl (by decide) (by omega) (h28 k (by omega)) ?_
  exact x_ret (r := some (.int (nI (vho (vo T (w + 1)) k)))) rfl rfl trivial ⟨rfl, hfu.sub (by decide)⟩ rfl

set_option maxHeartbeats 2000000 in
theorem c_afloat_bad (S : ST) (x : Int32) (hbad : ¬ (0 ≤ x ∧ x < nI 24)) : EX me_N_afloat 5 [.ref 0, .int x] S (fun r u => r = some (.int ((-2))) ∧ u = S) := by
  refine EX.of mok_N_afloat (Nat.le_of_ble_eq_true rfl) ?_
  refine run_ok 2 (c' := (3, [(0, .ref 0), (1, .int x)], [.int (nI 24), .int x], S)) rfl ?_
  refine x_callS [.int x, .int (nI 24)] rfl cs_N_isBelow.1 lk_6_73 cs_N_isBelow.2.1 rfl rfl (Nat.le_of_ble_eq_true rfl) (by decide) cs_N_isBelow.2.2 (c_isBelow S (x) (nI 24)) ?_
  rintro r u ⟨hr, hu⟩
  rw [hr, hu]
  clear hr hu r u
  refine x_ifB_ne 12 rfl rfl (fun h6 => ?_) (fun h6 => ?_)
  · exact absurd h6 hbad
  · refine run_ok 1 (c' := (11, [(0, .ref 0), (1, .int x)], [.int (-2)], S)) rfl ?_
    exact x_ret (r := some (.int (-2))) rfl rfl trivial ⟨rfl, rfl⟩ rfl

set_option maxHeartbeats 2000000 in
theorem c_afloat_ok (S : ST) (T : TD) (hT : TR 5 T S) (hto : tok T) (w : Nat) (hw : w < 24) : EX me_N_afloat 5 [.ref 0, .int (nI w)] S (fun r u => r = some (.int (nI (cnt (fun k => decide (vis (vo T (w + 1)) k = 1)) (tnb T)))) ∧ fr CQ S u) := by
  refine EX.of mok_N_afloat (Nat.le_of_ble_eq_true rfl) ?_
  obtain ⟨n8, n9, hbt, het, hht, hlo⟩ := id hto
  obtain ⟨t1, t2, t3, t4, t5, t6, t7, t8, t9, t10, t11⟩ := id hT
  refine run_ok 2 (c' := (3, [(0, .ref 0), (1, .int (nI w))], [.int (nI 24), .int (nI w)], S)) rfl ?_
  refine x_callS [.int (nI w), .int (nI 24)] rfl cs_N_isBelow.1 lk_6_73 cs_N_isBelow.2.1 rfl rfl (Nat.le_of_ble_eq_true rfl) (by decide) cs_N_isBelow.2.2 (c_isBelow S (nI w) (nI 24)) ?_
  rintro r u ⟨hr, hu⟩
  rw [hr, hu]
  clear hr hu r u
  refine x_ifB_ne 12 rfl rfl (fun h6 => ?_) (fun hn => absurd (inr_t hw (by decide)) hn)
  refine run_ok 5 (c' := (21, [(0, .ref 0), (1, .int (nI w))], [.int (nI w), .ref 5, .ref 23], S)) rfl ?_
  refine x_callV [.ref 5, .int (nI w)] rfl cv_V_run.1 lk_6_146 cv_V_run.2.1 cv_V_run.2.2.1 rfl cv_V_run.2.2.2.1 rfl rfl (Nat.le_of_ble_eq_true rfl) (by decide) cv_V_run.2.2.2.2 (c_run5 S T w hT hto (by omega)) ?_
  rintro r u ⟨hr, hCu, hfu, h2u⟩
  rw [hr]
  clear hr r
  have hTu : TR 5 T u := hT.keep hfu (by decide)
  obtain ⟨t1, t2, t3, t4, t5, t6, t7, t8, t9, t10, t11⟩ := id hTu
  obtain ⟨h24, h25, h26, h27, h28, h29, hsr, g9, g10, g11, htl⟩ := id hCu
  have hVu : vk T (vo T (w + 1)) := (vk_vo hto (w + 1) (by omega)).1
  refine run_ok 3 (c' := (29, [(0, .ref 0), (1, .int (nI w))], [.int (nI 1), .ref 23], u)) rfl ?_
  refine x_callV [.int (nI 1)] rfl cv_V_howMany.1 lk_6_161 cv_V_howMany.2.1 cv_V_howMany.2.2.1 rfl cv_V_howMany.2.2.2.1 rfl rfl (Nat.le_of_ble_eq_true rfl) (by decide) cv_V_howMany.2.2.2.2 (c_howMany5 u T (vo T (w + 1)) _ hTu hto hCu hVu 1 (by decide)) ?_
  rintro r v ⟨hr, hu⟩
  rw [hr, hu]
  clear hr hu r v
  exact x_ret (r := some (.int (nI (cnt (fun k => decide (vis (vo T (w + 1)) k = 1)) (tnb T))))) rfl rfl trivial ⟨rfl, hfu.sub (by decide)⟩ rfl

set_option maxHeartbeats 2000000 in
theorem c_named_bad (S : ST) (x y : Int32) (hbad : ¬ ((0 ≤ x ∧ x < nI 8) ∧ (0 ≤ y ∧ y < nI 2))) : EX me_N_named 5 [.ref 0, .int x, .int y] S (fun r u => r = some (.int ((-2))) ∧ u = S) := by
  refine EX.of mok_N_named (Nat.le_of_ble_eq_true rfl) ?_
  refine run_ok 2 (c' := (3, [(0, .ref 0), (1, .int x), (2, .int y)], [.int (nI 8), .int x], S)) rfl ?_
  refine x_callS [.int x, .int (nI 8)] rfl cs_N_isBelow.1 lk_6_73 cs_N_isBelow.2.1 rfl rfl (Nat.le_of_ble_eq_true rfl) (by decide) cs_N_isBelow.2.2 (c_isBelow S (x) (nI 8)) ?_
  rintro r u ⟨hr, hu⟩
  rw [hr, hu]
  clear hr hu r u
  refine x_ifB_eq 17 rfl rfl (fun h6 => ?_) (fun h6 => ?_)
  · refine run_ok 1 (c' := (19, [(0, .ref 0), (1, .int x), (2, .int y)], [.int (-2)], S)) rfl ?_
    exact x_ret (r := some (.int (-2))) rfl rfl trivial ⟨rfl, rfl⟩ rfl
  · refine run_ok 2 (c' := (11, [(0, .ref 0), (1, .int x), (2, .int y)], [.int (nI 2), .int y], S)) rfl ?_
    refine x_callS [.int y, .int (nI 2)] rfl cs_N_isBelow.1 lk_6_73 cs_N_isBelow.2.1 rfl rfl (Nat.le_of_ble_eq_true rfl) (by decide) cs_N_isBelow.2.2 (c_isBelow S (y) (nI 2)) ?_
    rintro r u ⟨hr, hu⟩
    rw [hr, hu]
    clear hr hu r u
    refine x_ifB_ne 20 rfl rfl (fun h14 => ?_) (fun h14 => ?_)
    · exact absurd ⟨h6, h14⟩ hbad
    · refine run_ok 1 (c' := (19, [(0, .ref 0), (1, .int x), (2, .int y)], [.int (-2)], S)) rfl ?_
      exact x_ret (r := some (.int (-2))) rfl rfl trivial ⟨rfl, rfl⟩ rfl

set_option maxHeartbeats 2000000 in
theorem c_named_ok0 (S : ST) (T : TD) (hT : TR 5 T S) (hto : tok T) (p : Nat) (hp : p < 8) : EX me_N_named 5 [.ref 0, .int (nI p), .int (nI 0)] S (fun r u => r = some (.int (nI (cnt (fun k => decide (vnm (vo T 24) k = p ∧ (0 = 1 → vis (vo T 24) k = 2))) (tnb T)))) ∧ fr CQ S u) := by
  refine EX.of mok_N_named (Nat.le_of_ble_eq_true rfl) ?_
  obtain ⟨n8, n9, hbt, het, hht, hlo⟩ := id hto
  obtain ⟨t1, t2, t3, t4, t5, t6, t7, t8, t9, t10, t11⟩ := id hT
  refine run_ok 2 (c' := (3, [(0, .ref 0), (1, .int (nI p)), (2, .int (nI 0))], [.int (nI 8), .int (nI p)], S)) rfl ?_
  refine x_callS [.int (nI p), .int (nI 8)] rfl cs_N_isBelow.1 lk_6_73 cs_N_isBelow.2.1 rfl rfl (Nat.le_of_ble_eq_true rfl) (by decide) cs_N_isBelow.2.2 (c_isBelow S (nI p) (nI 8)) ?_
  rintro r u ⟨hr, hu⟩
  rw [hr, hu]
  clear hr hu r u
  refine x_ifB_eq 17 rfl rfl (fun hn => absurd hn (fun z => z (inr_t hp (by decide)))) (fun h6 => ?_)
  refine run_ok 2 (c' := (11, [(0, .ref 0), (1, .int (nI p)), (2, .int (nI 0))], [.int (nI 2), .int (nI 0)], S)) rfl ?_
  refine x_callS [.int (nI 0), .int (nI 2)] rfl cs_N_isBelow.1 lk_6_73 cs_N_isBelow.2.1 rfl rfl (Nat.le_of_ble_eq_true rfl) (by decide) cs_N_isBelow.2.2 (c_isBelow S (nI 0) (nI 2)) ?_
  rintro r u ⟨hr, hu⟩
  rw [hr, hu]
  clear hr hu r u
  refine x_ifB_ne 20 rfl rfl (fun h14 => ?_) (fun hn => absurd (inr_t (by decide) (by decide)) hn)
  refine run_ok 5 (c' := (30, [(0, .ref 0), (1, .int (nI p)), (2, .int (nI 0))], [.int (nI 23), .ref 5, .ref 23], S)) rfl ?_
  refine x_callV [.ref 5, .int (nI 23)] rfl cv_V_run.1 lk_6_146 cv_V_run.2.1 cv_V_run.2.2.1 rfl cv_V_run.2.2.2.1 rfl rfl (Nat.le_of_ble_eq_true rfl) (by decide) cv_V_run.2.2.2.2 (c_run5 S T 23 hT hto (by omega)) ?_
  rintro r u ⟨hr, hCu, hfu, h2u⟩
  rw [hr]
  clear hr r
  have hTu : TR 5 T u := hT.keep hfu (by decide)
  obtain ⟨t1, t2, t3, t4, t5, t6, t7, t8, t9, t10, t11⟩ := id hTu
  obtain ⟨h24, h25, h26, h27, h28, h29, hsr, g9, g10, g11, htl⟩ := id hCu
  have hVu : vk T (vo T 24) := (vk_vo hto (23 + 1) (by omega)).1
  refine run_ok 5 (c' := (40, [(0, .ref 0), (1, .int (nI p)), (2, .int (nI 0))], [.int (nI 1), .int (nI 0), .int (nI p), .ref 23], u)) rfl ?_
  refine x_icmpN_ne 47 rfl rfl (by omega) (by omega) (fun h40 => ?_) (fun hn => absurd hn (by decide))
  refine run_ok 1 (c' := (48, [(0, .ref 0), (1, .int (nI p)), (2, .int (nI 0))], [.int (nI 0), .int (nI p), .ref 23], u)) rfl ?_
  refine x_callV [.int (nI p), .int (nI 0)] rfl cv_V_namesakes.1 lk_6_164 cv_V_namesakes.2.1 cv_V_namesakes.2.2.1 rfl cv_V_namesakes.2.2.2.1 rfl rfl (Nat.le_of_ble_eq_true rfl) (by decide) cv_V_namesakes.2.2.2.2 (c_namesakes u T (vo T 24) _ hTu hto hCu hVu p 0 hp (by decide)) ?_
  rintro r v ⟨hr, hu⟩
  rw [hr, hu]
  clear hr hu r v
  exact x_ret (r := some (.int (nI (cnt (fun k => decide (vnm (vo T 24) k = p ∧ (0 = 1 → vis (vo T 24) k = 2))) (tnb T))))) rfl rfl trivial ⟨rfl, hfu.sub (by decide)⟩ rfl

set_option maxHeartbeats 2000000 in
theorem c_named_ok1 (S : ST) (T : TD) (hT : TR 5 T S) (hto : tok T) (p : Nat) (hp : p < 8) : EX me_N_named 5 [.ref 0, .int (nI p), .int (nI 1)] S (fun r u => r = some (.int (nI (cnt (fun k => decide (vnm (vo T 24) k = p ∧ (1 = 1 → vis (vo T 24) k = 2))) (tnb T)))) ∧ fr CQ S u) := by
  refine EX.of mok_N_named (Nat.le_of_ble_eq_true rfl) ?_
  obtain ⟨n8, n9, hbt, het, hht, hlo⟩ := id hto
  obtain ⟨t1, t2, t3, t4, t5, t6, t7, t8, t9, t10, t11⟩ := id hT
  refine run_ok 2 (c' := (3, [(0, .ref 0), (1, .int (nI p)), (2, .int (nI 1))], [.int (nI 8), .int (nI p)], S)) rfl ?_
  refine x_callS [.int (nI p), .int (nI 8)] rfl cs_N_isBelow.1 lk_6_73 cs_N_isBelow.2.1 rfl rfl (Nat.le_of_ble_eq_true rfl) (by decide) cs_N_isBelow.2.2 (c_isBelow S (nI p) (nI 8)) ?_
  rintro r u ⟨hr, hu⟩
  rw [hr, hu]
  clear hr hu r u
  refine x_ifB_eq 17 rfl rfl (fun hn => absurd hn (fun z => z (inr_t hp (by decide)))) (fun h6 => ?_)
  refine run_ok 2 (c' := (11, [(0, .ref 0), (1, .int (nI p)), (2, .int (nI 1))], [.int (nI 2), .int (nI 1)], S)) rfl ?_
  refine x_callS [.int (nI 1), .int (nI 2)] rfl cs_N_isBelow.1 lk_6_73 cs_N_isBelow.2.1 rfl rfl (Nat.le_of_ble_eq_true rfl) (by decide) cs_N_isBelow.2.2 (c_isBelow S (nI 1) (nI 2)) ?_
  rintro r u ⟨hr, hu⟩
  rw [hr, hu]
  clear hr hu r u
  refine x_ifB_ne 20 rfl rfl (fun h14 => ?_) (fun hn => absurd (inr_t (by decide) (by decide)) hn)
  refine run_ok 5 (c' := (30, [(0, .ref 0), (1, .int (nI p)), (2, .int (nI 1))], [.int (nI 23), .ref 5, .ref 23], S)) rfl ?_
  refine x_callV [.ref 5, .int (nI 23)] rfl cv_V_run.1 lk_6_146 cv_V_run.2.1 cv_V_run.2.2.1 rfl cv_V_run.2.2.2.1 rfl rfl (Nat.le_of_ble_eq_true rfl) (by decide) cv_V_run.2.2.2.2 (c_run5 S T 23 hT hto (by omega)) ?_
  rintro r u ⟨hr, hCu, hfu, h2u⟩
  rw [hr]
  clear hr r
  have hTu : TR 5 T u := hT.keep hfu (by decide)
  obtain ⟨t1, t2, t3, t4, t5, t6, t7, t8, t9, t10, t11⟩ := id hTu
  obtain ⟨h24, h25, h26, h27, h28, h29, hsr, g9, g10, g11, htl⟩ := id hCu
  have hVu : vk T (vo T 24) := (vk_vo hto (23 + 1) (by omega)).1
  refine run_ok 5 (c' := (40, [(0, .ref 0), (1, .int (nI p)), (2, .int (nI 1))], [.int (nI 1), .int (nI 1), .int (nI p), .ref 23], u)) rfl ?_
  refine x_icmpN_ne 47 rfl rfl (by omega) (by omega) (fun hn => absurd (by decide) hn) (fun h40 => ?_)
  refine run_ok 2 (c' := (48, [(0, .ref 0), (1, .int (nI p)), (2, .int (nI 1))], [.int (nI 1), .int (nI p), .ref 23], u)) rfl ?_
  refine x_callV [.int (nI p), .int (nI 1)] rfl cv_V_namesakes.1 lk_6_164 cv_V_namesakes.2.1 cv_V_namesakes.2.2.1 rfl cv_V_namesakes.2.2.2.1 rfl rfl (Nat.le_of_ble_eq_true rfl) (by decide) cv_V_namesakes.2.2.2.2 (c_namesakes u T (vo T 24) _ hTu hto hCu hVu p 1 hp (by decide)) ?_
  rintro r v ⟨hr, hu⟩
  rw [hr, hu]
  clear hr hu r v
  exact x_ret (r := some (.int (nI (cnt (fun k => decide (vnm (vo T 24) k = p ∧ (1 = 1 → vis (vo T 24) k = 2))) (tnb T))))) rfl rfl trivial ⟨rfl, hfu.sub (by decide)⟩ rfl

set_option maxHeartbeats 2000000 in
theorem c_first_bad (S : ST) (x : Int32) (hbad : ¬ (0 ≤ x ∧ x < nI 2)) : EX me_N_first 5 [.ref 0, .int x] S (fun r u => r = some (.int ((-2))) ∧ u = S) := by
  refine EX.of mok_N_first (Nat.le_of_ble_eq_true rfl) ?_
  refine run_ok 2 (c' := (2, [(0, .ref 0), (1, .int x)], [.int (nI 2), .int x], S)) rfl ?_
  refine x_callS [.int x, .int (nI 2)] rfl cs_N_isBelow.1 lk_6_73 cs_N_isBelow.2.1 rfl rfl (Nat.le_of_ble_eq_true rfl) (by decide) cs_N_isBelow.2.2 (c_isBelow S (x) (nI 2)) ?_
  rintro r u ⟨hr, hu⟩
  rw [hr, hu]
  clear hr hu r u
  refine x_ifB_ne 11 rfl rfl (fun h5 => ?_) (fun h5 => ?_)
  · exact absurd h5 hbad
  · refine run_ok 1 (c' := (10, [(0, .ref 0), (1, .int x)], [.int (-2)], S)) rfl ?_
    exact x_ret (r := some (.int (-2))) rfl rfl trivial ⟨rfl, rfl⟩ rfl

set_option maxHeartbeats 2000000 in
theorem c_first_ok0 (S : ST) (T : TD) (hT : TR 5 T S) (hto : tok T) : EX me_N_first 5 [.ref 0, .int (nI 0)] S (fun r u => r = some (.int (fwv (vfw (vo T 24)))) ∧ fr CQ S u) := by
  refine EX.of mok_N_first (Nat.le_of_ble_eq_true rfl) ?_
  obtain ⟨n8, n9, hbt, het, hht, hlo⟩ := id hto
  obtain ⟨t1, t2, t3, t4, t5, t6, t7, t8, t9, t10, t11⟩ := id hT
  refine run_ok 2 (c' := (2, [(0, .ref 0), (1, .int (nI 0))], [.int (nI 2), .int (nI 0)], S)) rfl ?_
  refine x_callS [.int (nI 0), .int (nI 2)] rfl cs_N_isBelow.1 lk_6_73 cs_N_isBelow.2.1 rfl rfl (Nat.le_of_ble_eq_true rfl) (by decide) cs_N_isBelow.2.2 (c_isBelow S (nI 0) (nI 2)) ?_
  rintro r u ⟨hr, hu⟩
  rw [hr, hu]
  clear hr hu r u
  refine x_ifB_ne 11 rfl rfl (fun h5 => ?_) (fun hn => absurd (inr_t (by decide) (by decide)) hn)
  refine run_ok 5 (c' := (21, [(0, .ref 0), (1, .int (nI 0))], [.int (nI 23), .ref 5, .ref 23], S)) rfl ?_
  refine x_callV [.ref 5, .int (nI 23)] rfl cv_V_run.1 lk_6_146 cv_V_run.2.1 cv_V_run.2.2.1 rfl cv_V_run.2.2.2.1 rfl rfl (Nat.le_of_ble_eq_true rfl) (by decide) cv_V_run.2.2.2.2 (c_run5 S T 23 hT hto (by omega)) ?_
  rintro r u ⟨hr, hCu, hfu, h2u⟩
  rw [hr]
  clear hr r
  have hTu : TR 5 T u := hT.keep hfu (by decide)
  obtain ⟨t1, t2, t3, t4, t5, t6, t7, t8, t9, t10, t11⟩ := id hTu
  obtain ⟨h24, h25, h26, h27, h28, h29, hsr, g9, g10, g11, htl⟩ := id hCu
  have hVu : vk T (vo T 24) := (vk_vo hto (23 + 1) (by omega)).1
  refine run_ok 1 (c' := (25, [(0, .ref 0), (1, .int (nI 0))], [.int (nI 0)], u)) rfl ?_
  refine x_ifN_ne 38 rfl rfl (by omega) (fun hn => absurd (by decide) hn) (fun h25 => ?_)
  refine run_ok 3 (c' := (35, [(0, .ref 0), (1, .int (nI 0))], [.int (u.1 23 10)], u)) rfl ?_
  refine x_top (v' := fwv (vfw (vo T 24))) g10 ?_
  refine run_ok 1 (c' := (45, [(0, .ref 0), (1, .int (nI 0))], [.int (fwv (vfw (vo T 24)))], u)) rfl ?_
  exact x_ret (r := some (.int (fwv (vfw (vo T 24))))) rfl rfl trivial ⟨rfl, hfu.sub (by decide)⟩ rfl

set_option maxHeartbeats 2000000 in
theorem c_first_ok1 (S : ST) (T : TD) (hT : TR 5 T S) (hto : tok T) : EX me_N_first 5 [.ref 0, .int (nI 1)] S (fun r u => r = some (.int (nmv (vfb (vo T 24)))) ∧ fr CQ S u) := by
  refine EX.of mok_N_first (Nat.le_of_ble_eq_true rfl) ?_
  obtain ⟨n8, n9, hbt, het, hht, hlo⟩ := id hto
  obtain ⟨t1, t2, t3, t4, t5, t6, t7, t8, t9, t10, t11⟩ := id hT
  refine run_ok 2 (c' := (2, [(0, .ref 0), (1, .int (nI 1))], [.int (nI 2), .int (nI 1)], S)) rfl ?_
  refine x_callS [.int (nI 1), .int (nI 2)] rfl cs_N_isBelow.1 lk_6_73 cs_N_isBelow.2.1 rfl rfl (Nat.le_of_ble_eq_true rfl) (by decide) cs_N_isBelow.2.2 (c_isBelow S (nI 1) (nI 2)) ?_
  rintro r u ⟨hr, hu⟩
  rw [hr, hu]
  clear hr hu r u
  refine x_ifB_ne 11 rfl rfl (fun h5 => ?_) (fun hn => absurd (inr_t (by decide) (by decide)) hn)
  refine run_ok 5 (c' := (21, [(0, .ref 0), (1, .int (nI 1))], [.int (nI 23), .ref 5, .ref 23], S)) rfl ?_
  refine x_callV [.ref 5, .int (nI 23)] rfl cv_V_run.1 lk_6_146 cv_V_run.2.1 cv_V_run.2.2.1 rfl cv_V_run.2.2.2.1 rfl rfl (Nat.le_of_ble_eq_true rfl) (by decide) cv_V_run.2.2.2.2 (c_run5 S T 23 hT hto (by omega)) ?_
  rintro r u ⟨hr, hCu, hfu, h2u⟩
  rw [hr]
  clear hr r
  have hTu : TR 5 T u := hT.keep hfu (by decide)
  obtain ⟨t1, t2, t3, t4, t5, t6, t7, t8, t9, t10, t11⟩ := id hTu
  obtain ⟨h24, h25, h26, h27, h28, h29, hsr, g9, g10, g11, htl⟩ := id hCu
  have hVu : vk T (vo T 24) := (vk_vo hto (23 + 1) (by omega)).1
  refine run_ok 1 (c' := (25, [(0, .ref 0), (1, .int (nI 1))], [.int (nI 1)], u)) rfl ?_
  refine x_ifN_ne 38 rfl rfl (by omega) (fun h25 => ?_) (fun hn => absurd hn (by decide))
  refine run_ok 3 (c' := (45, [(0, .ref 0), (1, .int (nI 1))], [.int (u.1 23 11)], u)) rfl ?_
  refine x_top (v' := nmv (vfb (vo T 24))) g11 ?_
  exact x_ret (r := some (.int (nmv (vfb (vo T 24))))) rfl rfl trivial ⟨rfl, hfu.sub (by decide)⟩ rfl

set_option maxHeartbeats 2000000 in
theorem c_longs_bad (S : ST) (T : TD) (t9 : S.1 5 6 = nI (tnb T)) (x : Int32) (hbad : ¬ (0 ≤ x ∧ x < nI (tnb T))) : EX me_N_longs 5 [.ref 0, .int x] S (fun r u => r = some (.int ((-2))) ∧ u = S) := by
  refine EX.of mok_N_longs (Nat.le_of_ble_eq_true rfl) ?_
  refine run_ok 2 (c' := (2, [(0, .ref 0), (1, .int x)], [.int x, .ref 0], S)) rfl ?_
  refine x_callV [.int x] rfl cv_N_isBoat.1 lk_6_107 cv_N_isBoat.2.1 cv_N_isBoat.2.2.1 rfl cv_N_isBoat.2.2.2.1 rfl rfl (Nat.le_of_ble_eq_true rfl) (by decide) cv_N_isBoat.2.2.2.2 (c_isBoat S (x) (tnb T) t9) ?_
  rintro r u ⟨hr, hu⟩
  rw [hr, hu]
  clear hr hu r u
  refine x_ifB_ne 11 rfl rfl (fun h5 => ?_) (fun h5 => ?_)
  · exact absurd h5 hbad
  · refine run_ok 1 (c' := (10, [(0, .ref 0), (1, .int x)], [.int (-2)], S)) rfl ?_
    exact x_ret (r := some (.int (-2))) rfl rfl trivial ⟨rfl, rfl⟩ rfl

set_option maxHeartbeats 2000000 in
theorem c_longs_ok (S : ST) (T : TD) (hT : TR 5 T S) (hto : tok T) (k : Nat) (hk : k < tnb T) : EX me_N_longs 5 [.ref 0, .int (nI k)] S (fun r u => r = some (.int (nI (lsn T 24 k))) ∧ fr CQ S u) := by
  refine EX.of mok_N_longs (Nat.le_of_ble_eq_true rfl) ?_
  obtain ⟨n8, n9, hbt, het, hht, hlo⟩ := id hto
  obtain ⟨t1, t2, t3, t4, t5, t6, t7, t8, t9, t10, t11⟩ := id hT
  refine run_ok 2 (c' := (2, [(0, .ref 0), (1, .int (nI k))], [.int (nI k), .ref 0], S)) rfl ?_
  refine x_callV [.int (nI k)] rfl cv_N_isBoat.1 lk_6_107 cv_N_isBoat.2.1 cv_N_isBoat.2.2.1 rfl cv_N_isBoat.2.2.2.1 rfl rfl (Nat.le_of_ble_eq_true rfl) (by decide) cv_N_isBoat.2.2.2.2 (c_isBoat S (nI k) (tnb T) t9) ?_
  rintro r u ⟨hr, hu⟩
  rw [hr, hu]
  clear hr hu r u
  refine x_ifB_ne 11 rfl rfl (fun h5 => ?_) (fun hn => absurd (inr_t hk (by omega)) hn)
  refine run_ok 5 (c' := (21, [(0, .ref 0), (1, .int (nI k))], [.int (nI 23), .ref 5, .ref 23], S)) rfl ?_
  refine x_callV [.ref 5, .int (nI 23)] rfl cv_V_run.1 lk_6_146 cv_V_run.2.1 cv_V_run.2.2.1 rfl cv_V_run.2.2.2.1 rfl rfl (Nat.le_of_ble_eq_true rfl) (by decide) cv_V_run.2.2.2.2 (c_run5 S T 23 hT hto (by omega)) ?_
  rintro r u ⟨hr, hCu, hfu, h2u⟩
  rw [hr]
  clear hr r
  have hTu : TR 5 T u := hT.keep hfu (by decide)
  obtain ⟨t1, t2, t3, t4, t5, t6, t7, t8, t9, t10, t11⟩ := id hTu
  obtain ⟨h24, h25, h26, h27, h28, h29, hsr, g9, g10, g11, htl⟩ := id hCu
  have hVu : vk T (vo T 24) := (vk_vo hto (23 + 1) (by omega)).1
  refine run_ok 4 (c' := (32, [(0, .ref 0), (1, .int (nI k))], [.int (nI k), .ref 29], u)) rfl ?_
  refine x_iaN (nI (lsn T 24 k)) rfl rfl (by decide) (by omega) (h29 k (by omega)) ?_
  exact x_ret (r := some (.int (nI (lsn T 24 k)))) rfl rfl trivial ⟨rfl, hfu.sub (by decide)⟩ rfl
end
section
/-! public calls of the class: loved, bitter, events, sightings, decades -/
def bst (p : Nat → Bool) : Nat → Nat
  | 0 => 0
  | n + 1 => bst p n + (if p n = true then 2 ^ n else 0)
theorem bst_lt (p : Nat → Bool) : ∀ n, bst p n < 2 ^ n := by
  intro n
  induction n with
  | zero => exact Nat.one_pos
  | succ n ih =>
    show bst p n + (if p n = true then 2 ^ n else 0) < 2 ^ (n + 1)
    rw [Nat.pow_succ]
    split <;> omega
theorem bst_s {p : Nat → Bool} {i : Nat} (h : p i = true) : bst p (i + 1) = bst p i + 1 * 2 ^ i := by
  show bst p i + (if p i = true then 2 ^ i else 0) = _
  rw [if_pos h, Nat.one_mul]
theorem bst_z {p : Nat → Bool} {i : Nat} (h : p i = false) : bst p (i + 1) = bst p i := by
  show bst p i + (if p i = true then 2 ^ i else 0) = _
  rw [if_neg (by rw [h]; decide)]
  rfl
theorem or_bit {a i : Nat} (ha : a < 2 ^ i) (hi : i < 32) : nI a ||| (nI 1 <<< (nI i &&& 31)) = nI (a + 1 * 2 ^ i) := or_up ha hi (by rw [Nat.one_mul]; exact Nat.pow_lt_pow_right (by decide) hi)
def bmx (f : Nat → Nat) : Nat → Nat × Nat
  | 0 => (99, 0)
  | n + 1 => bup (bmx f n) n (f n)
theorem bup_le {b : Nat × Nat} {n f m c : Nat} (h1 : b.1 ≤ m) (hn : n ≤ m) (h2 : b.2 ≤ c) (hf : f ≤ c) : (bup b n f).1 ≤ m ∧ (bup b n f).2 ≤ c := by
  unfold bup
  split
  · exact ⟨hn, hf⟩
  · exact ⟨h1, h2⟩
theorem bmx_le {f : Nat → Nat} {c : Nat} : ∀ n, n ≤ 99 → (∀ k, k < n → f k ≤ c) → (bmx f n).1 ≤ 99 ∧ (bmx f n).2 ≤ c := by
  intro n
  induction n with
  | zero => intro _ _; exact ⟨Nat.le_refl 99, Nat.zero_le c⟩
  | succ n ih =>
    intro hn h
    have q := ih (by omega) (fun k hk => h k (by omega))
    exact bup_le q.1 (by omega) q.2 (h n (by omega))
theorem shs_le {h : Nat → Nat} {p : Nat} (hp : p < 8) (h9 : ∀ j, j < 64 → h j ≤ 9) : ∀ n, n ≤ 8 → shs h p n ≤ 9 * n := by
  intro n
  induction n with
  | zero => intro _; exact Nat.le_refl 0
  | succ n ih =>
    intro hn
    have := ih (by omega)
    have := h9 (8 * p + n) (by omega)
    show shs h p n + h (8 * p + n) ≤ _
    omega
set_option maxHeartbeats 2000000 in
theorem c_loved (S : ST) (T : TD) (hT : TR 5 T S) (hto : tok T) : EX me_N_loved 5 [.ref 0] S (fun r u => r = some (.int (nI (bst (fun p => decide ((wst (vh (vo T 24)) p 8).1 = 8)) 8))) ∧ fr CQ S u) := by
  refine EX.of mok_N_loved (Nat.le_of_ble_eq_true rfl) ?_
  obtain ⟨n8, n9, hbt, het, hht, hlo⟩ := id hto
  obtain ⟨t1, t2, t3, t4, t5, t6, t7, t8, t9, t10, t11⟩ := id hT
  refine run_ok 5 (c' := (10, [(0, .ref 0)], [.int (nI 23), .ref 5, .ref 23], S)) rfl ?_
  refine x_callV [.ref 5, .int (nI 23)] rfl cv_V_run.1 lk_6_146 cv_V_run.2.1 cv_V_run.2.2.1 rfl cv_V_run.2.2.2.1 rfl rfl (Nat.le_of_ble_eq_true rfl) (by decide) cv_V_run.2.2.2.2 (c_run5 S T 23 hT hto (by omega)) ?_
  rintro r u ⟨hr, hCu, hfu, h2u⟩
  rw [hr]
  clear hr r
  have hTu : TR 5 T u := hT.keep hfu (by decide)
  obtain ⟨t1, t2, t3, t4, t5, t6, t7, t8, t9, t10, t11⟩ := id hTu
  obtain ⟨h24, h25, h26, h27, h28, h29, hsr, g9, g10, g11, htl⟩ := id hCu
  have hVu : vk T (vo T 24) := (vk_vo hto (23 + 1) (by omega)).1
  refine run_ok 4 (c' := (17, [(0, .ref 0), (1, .int (nI 0)), (2, .int (nI 0))], [], u)) rfl ?_
  refine loop_up (P := fun i => BX me_N_loved 5 none (fun r u => r = some (.int (nI (bst (fun p => decide ((wst (vh (vo T 24)) p 8).1 = 8)) 8))) ∧ fr CQ S u) (17, [(0, .ref 0), (1, .int (nI (bst (fun p => decide ((wst (vh (vo T 24)) p 8).1 = 8)) i))), (2, .int (nI i))], [], u)) 8 ?_ ?_ 0 (by omega)
  · skip
    refine run_ok 2 (c' := (20, [(0, .ref 0), (1, .int (nI (bst (fun p => decide ((wst (vh (vo T 24)) p 8).1 = 8)) 8))), (2, .int (nI 8))], [.int (nI 8), .int (nI 8)], u)) rfl ?_
    refine x_icmpN_ge 47 rfl rfl (by omega) (by omega) (fun h20 => ?_) (fun hn => absurd (Nat.le_refl 8) hn)
    refine run_ok 1 (c' := (48, [(0, .ref 0), (1, .int (nI (bst (fun p => decide ((wst (vh (vo T 24)) p 8).1 = 8)) 8))), (2, .int (nI 8))], [.int (nI (bst (fun p => decide ((wst (vh (vo T 24)) p 8).1 = 8)) 8))], u)) rfl ?_
    exact x_ret (r := some (.int (nI (bst (fun p => decide ((wst (vh (vo T 24)) p 8).1 = 8)) 8)))) rfl rfl trivial ⟨rfl, hfu.sub (by decide)⟩ rfl
  · intro i hi ih
    have q1 := (wst_le (vh (vo T 24)) i hVu.1 hi 8 (by omega)).1
    refine run_ok 2 (c' := (20, [(0, .ref 0), (1, .int (nI (bst (fun p => decide ((wst (vh (vo T 24)) p 8).1 = 8)) i))), (2, .int (nI i))], [.int (nI 8), .int (nI i)], u)) rfl ?_
    refine x_icmpN_ge 47 rfl rfl (by omega) (by omega) (fun hn => absurd hn (show ¬ 8 ≤ i by omega)) (fun h20 => ?_)
    refine run_ok 3 (c' := (28, [(0, .ref 0), (1, .int (nI (bst (fun p => decide ((wst (vh (vo T 24)) p 8).1 = 8)) i))), (2, .int (nI i))], [.int (nI i), .ref 23], u)) rfl ?_
    refine x_callV [.int (nI i)] rfl cv_V_worstEnemy.1 lk_6_174 cv_V_worstEnemy.2.1 cv_V_worstEnemy.2.2.1 rfl cv_V_worstEnemy.2.2.2.1 rfl rfl (Nat.le_of_ble_eq_true rfl) (by decide) cv_V_worstEnemy.2.2.2.2 (c_worst u (vh (vo T 24)) i hi h24 hVu.1) ?_
    rintro r v ⟨hr, hu⟩
    rw [hr, hu]
    clear hr hu r v
    refine run_ok 1 (c' := (32, [(0, .ref 0), (1, .int (nI (bst (fun p => decide ((wst (vh (vo T 24)) p 8).1 = 8)) i))), (2, .int (nI i))], [.int (-1), .int (nmv (wst (vh (vo T 24)) i 8).1)], u)) rfl ?_
    refine x_icmp_ne 41 rfl rfl (fun h32 => ?_) (fun h32 => ?_)
    · refine run_ok 1 (c' := (44, [(0, .ref 0), (1, .int (nI (bst (fun p => decide ((wst (vh (vo T 24)) p 8).1 = 8)) i))), (2, .int (nI i + nI 1))], [], u)) rfl ?_
      rw [nI_add i 1]
      refine run_ok 1 (c' := (17, [(0, .ref 0), (1, .int (nI (bst (fun p => decide ((wst (vh (vo T 24)) p 8).1 = 8)) i))), (2, .int (nI (i + 1)))], [], u)) rfl ?_
      rw [show bst (fun p => decide ((wst (vh (vo T 24)) p 8).1 = 8)) (i + 1) = bst (fun p => decide ((wst (vh (vo T 24)) p 8).1 = 8)) i from bst_z (decide_eq_false (fun z => h32 ((nmv_n1 q1).mpr z)))] at ih
      exact ih
    · refine run_ok 5 (c' := (40, [(0, .ref 0), (1, .int (nI (bst (fun p => decide ((wst (vh (vo T 24)) p 8).1 = 8)) i))), (2, .int (nI i))], [.int ((nI (bst (fun p => decide ((wst (vh (vo T 24)) p 8).1 = 8)) i)) ||| ((nI 1) <<< ((nI i) &&& 31)))], u)) rfl ?_
      refine x_top (v' := nI (bst (fun p => decide ((wst (vh (vo T 24)) p 8).1 = 8)) i + 1 * 2 ^ i)) (or_bit (bst_lt _ _) (by omega)) ?_
      refine run_ok 2 (c' := (44, [(0, .ref 0), (1, .int (nI (bst (fun p => decide ((wst (vh (vo T 24)) p 8).1 = 8)) i + 1 * 2 ^ i))), (2, .int (nI i + nI 1))], [], u)) rfl ?_
      rw [nI_add i 1]
      refine run_ok 1 (c' := (17, [(0, .ref 0), (1, .int (nI (bst (fun p => decide ((wst (vh (vo T 24)) p 8).1 = 8)) i + 1 * 2 ^ i))), (2, .int (nI (i + 1)))], [], u)) rfl ?_
      rw [show bst (fun p => decide ((wst (vh (vo T 24)) p 8).1 = 8)) (i + 1) = bst (fun p => decide ((wst (vh (vo T 24)) p 8).1 = 8)) i + 1 * 2 ^ i from bst_s (decide_eq_true ((nmv_n1 q1).mp h32))] at ih
      exact ih

set_option maxHeartbeats 2000000 in
theorem c_bitter (S : ST) (T : TD) (hT : TR 5 T S) (hto : tok T) : EX me_N_bitter 5 [.ref 0] S (fun r u => r = some (.int (whv (bmx (fun p => shs (vh (vo T 24)) p 8) 8).1)) ∧ fr CQ S u) := by
  refine EX.of mok_N_bitter (Nat.le_of_ble_eq_true rfl) ?_
  obtain ⟨n8, n9, hbt, het, hht, hlo⟩ := id hto
  obtain ⟨t1, t2, t3, t4, t5, t6, t7, t8, t9, t10, t11⟩ := id hT
  refine run_ok 5 (c' := (10, [(0, .ref 0)], [.int (nI 23), .ref 5, .ref 23], S)) rfl ?_
  refine x_callV [.ref 5, .int (nI 23)] rfl cv_V_run.1 lk_6_146 cv_V_run.2.1 cv_V_run.2.2.1 rfl cv_V_run.2.2.2.1 rfl rfl (Nat.le_of_ble_eq_true rfl) (by decide) cv_V_run.2.2.2.2 (c_run5 S T 23 hT hto (by omega)) ?_
  rintro r u ⟨hr, hCu, hfu, h2u⟩
  rw [hr]
  clear hr r
  have hTu : TR 5 T u := hT.keep hfu (by decide)
  obtain ⟨t1, t2, t3, t4, t5, t6, t7, t8, t9, t10, t11⟩ := id hTu
  obtain ⟨h24, h25, h26, h27, h28, h29, hsr, g9, g10, g11, htl⟩ := id hCu
  have hVu : vk T (vo T 24) := (vk_vo hto (23 + 1) (by omega)).1
  refine run_ok 2 (c' := (17, [(0, .ref 0)], [.ref 36], u)) rfl ?_
  refine x_callV [] rfl cv_B_clear.1 lk_6_177 cv_B_clear.2.1 cv_B_clear.2.2.1 rfl cv_B_clear.2.2.2.1 rfl rfl (Nat.le_of_ble_eq_true rfl) (by decide) cv_B_clear.2.2.2.2 (c_clear u) ?_
  rintro r v ⟨hr, hv⟩
  rw [hr, hv]
  clear hr hv r v
  refine run_ok 2 (c' := (22, [(0, .ref 0), (1, .int (nI 0))], [], (pt (pt u 36 0 (-1)) 36 1 (nI 0)))) rfl ?_
  refine loop_up (P := fun i => ∀ v : ST, BR (bmx (fun p => shs (vh (vo T 24)) p 8) i) v → fr [36] u v → BX me_N_bitter 5 none (fun r u => r = some (.int (whv (bmx (fun p => shs (vh (vo T 24)) p 8) 8).1)) ∧ fr CQ S u) (22, [(0, .ref 0), (1, .int (nI i))], [], v)) 8 ?_ ?_ 0 (by omega) _ ⟨rfl, rfl⟩ ((fr.rf.pt (by decide)).pt (by decide))
  · intro v hb hfv
    have hb1 := hb.1
    refine run_ok 2 (c' := (25, [(0, .ref 0), (1, .int (nI 8))], [.int (nI 8), .int (nI 8)], v)) rfl ?_
    refine x_icmpN_ge 50 rfl rfl (by omega) (by omega) (fun h25 => ?_) (fun hn => absurd (Nat.le_refl 8) hn)
    refine run_ok 3 (c' := (57, [(0, .ref 0), (1, .int (nI 8))], [.int (v.1 36 0)], v)) rfl ?_
    refine x_top (v' := whv (bmx (fun p => shs (vh (vo T 24)) p 8) 8).1) hb1 ?_
    exact x_ret (r := some (.int (whv (bmx (fun p => shs (vh (vo T 24)) p 8) 8).1))) rfl rfl trivial ⟨rfl, (hfu.sub (by decide)).tr (hfv.sub (by decide))⟩ rfl
  · intro i hi ih v hb hfv
    have q1 := shs_le (p := i) hi hVu.1 8 (by omega)
    have q2 := bmx_le (f := (fun p => shs (vh (vo T 24)) p 8)) (c := 72) i (by omega) (fun k hk => shs_le (p := k) (by omega) hVu.1 8 (by omega))
    refine run_ok 2 (c' := (25, [(0, .ref 0), (1, .int (nI i))], [.int (nI 8), .int (nI i)], v)) rfl ?_
    refine x_icmpN_ge 50 rfl rfl (by omega) (by omega) (fun hn => absurd hn (show ¬ 8 ≤ i by omega)) (fun h25 => ?_)
    refine run_ok 6 (c' := (38, [(0, .ref 0), (1, .int (nI i))], [.int (nI i), .ref 23, .int (nI i), .ref 36], v)) rfl ?_
    refine x_callV [.int (nI i)] rfl cv_V_hatredOf.1 lk_6_180 cv_V_hatredOf.2.1 cv_V_hatredOf.2.2.1 rfl cv_V_hatredOf.2.2.2.1 rfl rfl (Nat.le_of_ble_eq_true rfl) (by decide) cv_V_hatredOf.2.2.2.2 (c_hatredOf v (vo T 24) i hi (h24.keep hfv (by decide))) ?_
    rintro r z ⟨hr, hu⟩
    rw [hr, hu]
    clear hr hu r z
    refine x_callV [.int (nI i), .int (nI (shs (vh (vo T 24)) i 8))] rfl cv_B_offer.1 lk_6_183 cv_B_offer.2.1 cv_B_offer.2.2.1 rfl cv_B_offer.2.2.2.1 rfl rfl (Nat.le_of_ble_eq_true rfl) (by decide) cv_B_offer.2.2.2.2 (c_offerU v (bmx (fun p => shs (vh (vo T 24)) p 8) i) i (shs (vh (vo T 24)) i 8) hb (by omega) (by omega) (by omega) (by omega)) ?_
    rintro r z ⟨hr, hbz, hfz, h2z⟩
    rw [hr]
    clear hr r
    refine run_ok 1 (c' := (47, [(0, .ref 0), (1, .int (nI i + nI 1))], [], z)) rfl ?_
    rw [nI_add i 1]
    refine run_ok 1 (c' := (22, [(0, .ref 0), (1, .int (nI (i + 1)))], [], z)) rfl ?_
    exact ih z hbz (hfv.tr hfz)

set_option maxHeartbeats 2000000 in
theorem c_event_bad (S : ST) (x y z : Int32) (hbad : ¬ ((0 ≤ x ∧ x < nI 3) ∧ (0 ≤ y ∧ y < nI 24) ∧ (0 ≤ z ∧ z < nI 8))) : EX me_N_event 1 [.ref 0, .int x, .int y, .int z] S (fun r u => r = some (.int ((-2))) ∧ u = S) := by
  refine EX.of mok_N_event (Nat.le_of_ble_eq_true rfl) ?_
  refine run_ok 2 (c' := (2, [(0, .ref 0), (1, .int x), (2, .int y), (3, .int z)], [.int (nI 3), .int x], S)) rfl ?_
  refine x_callS [.int x, .int (nI 3)] rfl cs_N_isBelow.1 lk_6_73 cs_N_isBelow.2.1 rfl rfl (Nat.le_of_ble_eq_true rfl) (by decide) cs_N_isBelow.2.2 (c_isBelow S (x) (nI 3)) ?_
  rintro r u ⟨hr, hu⟩
  rw [hr, hu]
  clear hr hu r u
  refine x_ifB_eq 26 rfl rfl (fun h5 => ?_) (fun h5 => ?_)
  · refine run_ok 1 (c' := (28, [(0, .ref 0), (1, .int x), (2, .int y), (3, .int z)], [.int (-2)], S)) rfl ?_
    exact x_ret (r := some (.int (-2))) rfl rfl trivial ⟨rfl, rfl⟩ rfl
  · refine run_ok 2 (c' := (11, [(0, .ref 0), (1, .int x), (2, .int y), (3, .int z)], [.int (nI 24), .int y], S)) rfl ?_
    refine x_callS [.int y, .int (nI 24)] rfl cs_N_isBelow.1 lk_6_73 cs_N_isBelow.2.1 rfl rfl (Nat.le_of_ble_eq_true rfl) (by decide) cs_N_isBelow.2.2 (c_isBelow S (y) (nI 24)) ?_
    rintro r u ⟨hr, hu⟩
    rw [hr, hu]
    clear hr hu r u
    refine x_ifB_eq 26 rfl rfl (fun h14 => ?_) (fun h14 => ?_)
    · refine run_ok 1 (c' := (28, [(0, .ref 0), (1, .int x), (2, .int y), (3, .int z)], [.int (-2)], S)) rfl ?_
      exact x_ret (r := some (.int (-2))) rfl rfl trivial ⟨rfl, rfl⟩ rfl
    · refine run_ok 2 (c' := (20, [(0, .ref 0), (1, .int x), (2, .int y), (3, .int z)], [.int (nI 8), .int z], S)) rfl ?_
      refine x_callS [.int z, .int (nI 8)] rfl cs_N_isBelow.1 lk_6_73 cs_N_isBelow.2.1 rfl rfl (Nat.le_of_ble_eq_true rfl) (by decide) cs_N_isBelow.2.2 (c_isBelow S (z) (nI 8)) ?_
      rintro r u ⟨hr, hu⟩
      rw [hr, hu]
      clear hr hu r u
      refine x_ifB_ne 29 rfl rfl (fun h23 => ?_) (fun h23 => ?_)
      · exact absurd ⟨h5, h14, h23⟩ hbad
      · refine run_ok 1 (c' := (28, [(0, .ref 0), (1, .int x), (2, .int y), (3, .int z)], [.int (-2)], S)) rfl ?_
        exact x_ret (r := some (.int (-2))) rfl rfl trivial ⟨rfl, rfl⟩ rfl

set_option maxHeartbeats 2000000 in
theorem c_event_ok (S : ST) (T : TD) (hT : TR 5 T S) (hto : tok T) (kd w b : Nat) (hkd : kd < 3) (hw : w < 24) (hb : b < 8) (hne : tne T < 8) : EX me_N_event 1 [.ref 0, .int (nI kd), .int (nI w), .int (nI b)] S (fun r u => r = some (.int (nI (tne T + 1))) ∧ TR 5 (wev T (tne T + 1) (upn (tek T) (tne T) kd) (upn (tew T) (tne T) w) (upn (teb T) (tne T) b)) u ∧ fr [5, 11, 12, 13] S u ∧ u.2 = S.2) := by
  refine EX.of mok_N_event (Nat.le_of_ble_eq_true rfl) ?_
  obtain ⟨n8, n9, hbt, het, hht, hlo⟩ := id hto
  obtain ⟨t1, t2, t3, t4, t5, t6, t7, t8, t9, t10, t11⟩ := id hT
  refine run_ok 2 (c' := (2, [(0, .ref 0), (1, .int (nI kd)), (2, .int (nI w)), (3, .int (nI b))], [.int (nI 3), .int (nI kd)], S)) rfl ?_
  refine x_callS [.int (nI kd), .int (nI 3)] rfl cs_N_isBelow.1 lk_6_73 cs_N_isBelow.2.1 rfl rfl (Nat.le_of_ble_eq_true rfl) (by decide) cs_N_isBelow.2.2 (c_isBelow S (nI kd) (nI 3)) ?_
  rintro r u ⟨hr, hu⟩
  rw [hr, hu]
  clear hr hu r u
  refine x_ifB_eq 26 rfl rfl (fun hn => absurd hn (fun z => z (inr_t hkd (by decide)))) (fun h5 => ?_)
  refine run_ok 2 (c' := (11, [(0, .ref 0), (1, .int (nI kd)), (2, .int (nI w)), (3, .int (nI b))], [.int (nI 24), .int (nI w)], S)) rfl ?_
  refine x_callS [.int (nI w), .int (nI 24)] rfl cs_N_isBelow.1 lk_6_73 cs_N_isBelow.2.1 rfl rfl (Nat.le_of_ble_eq_true rfl) (by decide) cs_N_isBelow.2.2 (c_isBelow S (nI w) (nI 24)) ?_
  rintro r u ⟨hr, hu⟩
  rw [hr, hu]
  clear hr hu r u
  refine x_ifB_eq 26 rfl rfl (fun hn => absurd hn (fun z => z (inr_t hw (by decide)))) (fun h14 => ?_)
  refine run_ok 2 (c' := (20, [(0, .ref 0), (1, .int (nI kd)), (2, .int (nI w)), (3, .int (nI b))], [.int (nI 8), .int (nI b)], S)) rfl ?_
  refine x_callS [.int (nI b), .int (nI 8)] rfl cs_N_isBelow.1 lk_6_73 cs_N_isBelow.2.1 rfl rfl (Nat.le_of_ble_eq_true rfl) (by decide) cs_N_isBelow.2.2 (c_isBelow S (nI b) (nI 8)) ?_
  rintro r u ⟨hr, hu⟩
  rw [hr, hu]
  clear hr hu r u
  refine x_ifB_ne 29 rfl rfl (fun h23 => ?_) (fun hn => absurd (inr_t hb (by decide)) hn)
  refine run_ok 3 (c' := (36, [(0, .ref 0), (1, .int (nI kd)), (2, .int (nI w)), (3, .int (nI b))], [.int (S.1 5 10)], S)) rfl ?_
  refine x_top (v' := nI (tne T)) t10 ?_
  refine run_ok 1 (c' := (38, [(0, .ref 0), (1, .int (nI kd)), (2, .int (nI w)), (3, .int (nI b))], [.int (nI 8), .int (nI (tne T))], S)) rfl ?_
  refine x_icmpN_lt 44 rfl rfl (by omega) (by omega) (fun h38 => ?_) (fun hn => absurd (show tne T < 8 by omega) hn)
  refine run_ok 5 (c' := (51, [(0, .ref 0), (1, .int (nI kd)), (2, .int (nI w)), (3, .int (nI b))], [.int (nI b), .int (nI w), .int (nI kd), .ref 5], S)) rfl ?_
  refine x_callV [.int (nI kd), .int (nI w), .int (nI b)] rfl cv_T_addEvent.1 lk_6_126 cv_T_addEvent.2.1 cv_T_addEvent.2.2.1 rfl cv_T_addEvent.2.2.2.1 rfl rfl (Nat.le_of_ble_eq_true rfl) (by decide) cv_T_addEvent.2.2.2.2 (c_addEvent5 S T kd w b hT (by omega)) ?_
  rintro r u ⟨hr, hTu, hfu, h2u⟩
  rw [hr]
  clear hr r
  have t10u := hTu.2.2.2.2.2.2.2.2.2.1
  refine run_ok 3 (c' := (61, [(0, .ref 0), (1, .int (nI kd)), (2, .int (nI w)), (3, .int (nI b))], [.int (u.1 5 10)], u)) rfl ?_
  refine x_top (v' := nI (tne T + 1)) t10u ?_
  exact x_ret (r := some (.int (nI (tne T + 1)))) rfl rfl trivial ⟨rfl, hTu, hfu, h2u⟩ rfl

set_option maxHeartbeats 2000000 in
theorem c_event_full (S : ST) (T : TD) (hT : TR 5 T S) (hto : tok T) (kd w b : Nat) (hkd : kd < 3) (hw : w < 24) (hb : b < 8) (hne : ¬ tne T < 8) : EX me_N_event 1 [.ref 0, .int (nI kd), .int (nI w), .int (nI b)] S (fun r u => r = some (.int (-4)) ∧ u = S) := by
  refine EX.of mok_N_event (Nat.le_of_ble_eq_true rfl) ?_
  obtain ⟨n8, n9, hbt, het, hht, hlo⟩ := id hto
  obtain ⟨t1, t2, t3, t4, t5, t6, t7, t8, t9, t10, t11⟩ := id hT
  refine run_ok 2 (c' := (2, [(0, .ref 0), (1, .int (nI kd)), (2, .int (nI w)), (3, .int (nI b))], [.int (nI 3), .int (nI kd)], S)) rfl ?_
  refine x_callS [.int (nI kd), .int (nI 3)] rfl cs_N_isBelow.1 lk_6_73 cs_N_isBelow.2.1 rfl rfl (Nat.le_of_ble_eq_true rfl) (by decide) cs_N_isBelow.2.2 (c_isBelow S (nI kd) (nI 3)) ?_
  rintro r u ⟨hr, hu⟩
  rw [hr, hu]
  clear hr hu r u
  refine x_ifB_eq 26 rfl rfl (fun hn => absurd hn (fun z => z (inr_t hkd (by decide)))) (fun h5 => ?_)
  refine run_ok 2 (c' := (11, [(0, .ref 0), (1, .int (nI kd)), (2, .int (nI w)), (3, .int (nI b))], [.int (nI 24), .int (nI w)], S)) rfl ?_
  refine x_callS [.int (nI w), .int (nI 24)] rfl cs_N_isBelow.1 lk_6_73 cs_N_isBelow.2.1 rfl rfl (Nat.le_of_ble_eq_true rfl) (by decide) cs_N_isBelow.2.2 (c_isBelow S (nI w) (nI 24)) ?_
  rintro r u ⟨hr, hu⟩
  rw [hr, hu]
  clear hr hu r u
  refine x_ifB_eq 26 rfl rfl (fun hn => absurd hn (fun z => z (inr_t hw (by decide)))) (fun h14 => ?_)
  refine run_ok 2 (c' := (20, [(0, .ref 0), (1, .int (nI kd)), (2, .int (nI w)), (3, .int (nI b))], [.int (nI 8), .int (nI b)], S)) rfl ?_
  refine x_callS [.int (nI b), .int (nI 8)] rfl cs_N_isBelow.1 lk_6_73 cs_N_isBelow.2.1 rfl rfl (Nat.le_of_ble_eq_true rfl) (by decide) cs_N_isBelow.2.2 (c_isBelow S (nI b) (nI 8)) ?_
  rintro r u ⟨hr, hu⟩
  rw [hr, hu]
  clear hr hu r u
  refine x_ifB_ne 29 rfl rfl (fun h23 => ?_) (fun hn => absurd (inr_t hb (by decide)) hn)
  refine run_ok 3 (c' := (36, [(0, .ref 0), (1, .int (nI kd)), (2, .int (nI w)), (3, .int (nI b))], [.int (S.1 5 10)], S)) rfl ?_
  refine x_top (v' := nI (tne T)) t10 ?_
  refine run_ok 1 (c' := (38, [(0, .ref 0), (1, .int (nI kd)), (2, .int (nI w)), (3, .int (nI b))], [.int (nI 8), .int (nI (tne T))], S)) rfl ?_
  refine x_icmpN_lt 44 rfl rfl (by omega) (by omega) (fun hn => absurd hn (show ¬ tne T < 8 by omega)) (fun h38 => ?_)
  refine run_ok 1 (c' := (43, [(0, .ref 0), (1, .int (nI kd)), (2, .int (nI w)), (3, .int (nI b))], [.int (-4)], S)) rfl ?_
  exact x_ret (r := some (.int (-4))) rfl rfl trivial ⟨rfl, rfl⟩ rfl

set_option maxHeartbeats 2000000 in
theorem c_back_not (S : ST) (T : TD) (hT : TR 5 T S) (hto : tok T) (hne : tne T = 0) : EX me_N_back 0 [.ref 0] S (fun r u => r = some (.int (-3)) ∧ u = S) := by
  refine EX.of mok_N_back (Nat.le_of_ble_eq_true rfl) ?_
  obtain ⟨n8, n9, hbt, het, hht, hlo⟩ := id hto
  obtain ⟨t1, t2, t3, t4, t5, t6, t7, t8, t9, t10, t11⟩ := id hT
  refine run_ok 3 (c' := (7, [(0, .ref 0)], [.int (S.1 5 10)], S)) rfl ?_
  refine x_top (v' := nI (tne T)) t10 ?_
  refine x_ifN_ne 13 rfl rfl (by omega) (fun hn => absurd hne hn) (fun h7 => ?_)
  refine run_ok 1 (c' := (12, [(0, .ref 0)], [.int (-3)], S)) rfl ?_
  exact x_ret (r := some (.int (-3))) rfl rfl trivial ⟨rfl, rfl⟩ rfl

set_option maxHeartbeats 2000000 in
theorem c_back_ok (S : ST) (T : TD) (hT : TR 5 T S) (hto : tok T) (hne : ¬ tne T = 0) : EX me_N_back 0 [.ref 0] S (fun r u => r = some (.int (nI (tne T - 1))) ∧ TR 5 (wev T (tne T - 1) (tek T) (tew T) (teb T)) u ∧ fr [5] S u ∧ u.2 = S.2) := by
  refine EX.of mok_N_back (Nat.le_of_ble_eq_true rfl) ?_
  obtain ⟨n8, n9, hbt, het, hht, hlo⟩ := id hto
  obtain ⟨t1, t2, t3, t4, t5, t6, t7, t8, t9, t10, t11⟩ := id hT
  refine run_ok 3 (c' := (7, [(0, .ref 0)], [.int (S.1 5 10)], S)) rfl ?_
  refine x_top (v' := nI (tne T)) t10 ?_
  refine x_ifN_ne 13 rfl rfl (by omega) (fun h7 => ?_) (fun hn => absurd hn hne)
  refine run_ok 4 (c' := (21, [(0, .ref 0)], [.int (S.1 5 10), .ref 5], S)) rfl ?_
  refine x_top (v' := nI (tne T)) t10 ?_
  refine run_ok 2 (c' := (23, [(0, .ref 0)], [.int ((nI (tne T)) - (nI 1)), .ref 5], S)) rfl ?_
  refine x_top (v' := nI (tne T - 1)) (pk_sub (by omega)) ?_
  refine run_ok 4 (c' := (33, [(0, .ref 0)], [.int (nI (tne T - 1))], (pt S 5 10 (nI (tne T - 1))))) rfl ?_
  exact x_ret (r := some (.int (nI (tne T - 1)))) rfl rfl trivial ⟨rfl, ⟨t1, t2, t3, t4, t5, t6.le (by show tne T - 1 ≤ tne T; omega), t7.le (by show tne T - 1 ≤ tne T; omega), t8.le (by show tne T - 1 ≤ tne T; omega), t9, rfl, t11⟩, fr.rf.pt (by decide), rfl⟩ rfl

set_option maxHeartbeats 2000000 in
theorem c_seen_bad (S : ST) (x y z : Int32) (hbad : ¬ ((0 ≤ x ∧ x < nI 24) ∧ (0 ≤ y ∧ y < nI 8) ∧ (0 ≤ z ∧ z < nI 9))) : EX me_N_seen 1 [.ref 0, .int x, .int y, .int z] S (fun r u => r = some (.int ((-2))) ∧ u = S) := by
  refine EX.of mok_N_seen (Nat.le_of_ble_eq_true rfl) ?_
  refine run_ok 2 (c' := (3, [(0, .ref 0), (1, .int x), (2, .int y), (3, .int z)], [.int (nI 24), .int x], S)) rfl ?_
  refine x_callS [.int x, .int (nI 24)] rfl cs_N_isBelow.1 lk_6_73 cs_N_isBelow.2.1 rfl rfl (Nat.le_of_ble_eq_true rfl) (by decide) cs_N_isBelow.2.2 (c_isBelow S (x) (nI 24)) ?_
  rintro r u ⟨hr, hu⟩
  rw [hr, hu]
  clear hr hu r u
  refine x_ifB_eq 27 rfl rfl (fun h6 => ?_) (fun h6 => ?_)
  · refine run_ok 1 (c' := (29, [(0, .ref 0), (1, .int x), (2, .int y), (3, .int z)], [.int (-2)], S)) rfl ?_
    exact x_ret (r := some (.int (-2))) rfl rfl trivial ⟨rfl, rfl⟩ rfl
  · refine run_ok 2 (c' := (12, [(0, .ref 0), (1, .int x), (2, .int y), (3, .int z)], [.int (nI 8), .int y], S)) rfl ?_
    refine x_callS [.int y, .int (nI 8)] rfl cs_N_isBelow.1 lk_6_73 cs_N_isBelow.2.1 rfl rfl (Nat.le_of_ble_eq_true rfl) (by decide) cs_N_isBelow.2.2 (c_isBelow S (y) (nI 8)) ?_
    rintro r u ⟨hr, hu⟩
    rw [hr, hu]
    clear hr hu r u
    refine x_ifB_eq 27 rfl rfl (fun h15 => ?_) (fun h15 => ?_)
    · refine run_ok 1 (c' := (29, [(0, .ref 0), (1, .int x), (2, .int y), (3, .int z)], [.int (-2)], S)) rfl ?_
      exact x_ret (r := some (.int (-2))) rfl rfl trivial ⟨rfl, rfl⟩ rfl
    · refine run_ok 2 (c' := (21, [(0, .ref 0), (1, .int x), (2, .int y), (3, .int z)], [.int (nI 9), .int z], S)) rfl ?_
      refine x_callS [.int z, .int (nI 9)] rfl cs_N_isBelow.1 lk_6_73 cs_N_isBelow.2.1 rfl rfl (Nat.le_of_ble_eq_true rfl) (by decide) cs_N_isBelow.2.2 (c_isBelow S (z) (nI 9)) ?_
      rintro r u ⟨hr, hu⟩
      rw [hr, hu]
      clear hr hu r u
      refine x_ifB_ne 30 rfl rfl (fun h24 => ?_) (fun h24 => ?_)
      · exact absurd ⟨h6, h15, h24⟩ hbad
      · refine run_ok 1 (c' := (29, [(0, .ref 0), (1, .int x), (2, .int y), (3, .int z)], [.int (-2)], S)) rfl ?_
        exact x_ret (r := some (.int (-2))) rfl rfl trivial ⟨rfl, rfl⟩ rfl

set_option maxHeartbeats 2000000 in
theorem c_gappend (S : ST) (G : SD) (w b p : Nat) (hg : SR G S) (hn : G.1 < 8) : EX me_G_append 0 [.ref 32, .int (nI w), .int (nI b), .int (nI p)] S (fun r u => r = none ∧ SR (G.1 + 1, upn G.2.1 G.1 w, upn G.2.2.1 G.1 b, upn G.2.2.2 G.1 p) u ∧ fr [32, 33, 34, 35] S u ∧ u.2 = S.2) := by
  refine EX.of mok_G_append (Nat.le_of_ble_eq_true rfl) ?_
  have hg1 := hg.1
  refine run_ok 4 (c' := (8, [(0, .ref 32), (1, .int (nI w)), (2, .int (nI b)), (3, .int (nI p))], [.int (S.1 32 3), .ref 33], S)) rfl ?_
  refine x_top (v' := nI G.1) hg1 ?_
  refine run_ok 1 (c' := (9, [(0, .ref 32), (1, .int (nI w)), (2, .int (nI b)), (3, .int (nI p))], [.int (nI w), .int (nI G.1), .ref 33], S)) rfl ?_
  refine x_isN rfl rfl (by decide) (by omega) ?_
  refine run_ok 4 (c' := (18, [(0, .ref 32), (1, .int (nI w)), (2, .int (nI b)), (3, .int (nI p))], [.int (S.1 32 3), .ref 34], (pt S 33 G.1 (nI w)))) rfl ?_
  refine x_top (v' := nI G.1) hg1 ?_
  refine run_ok 1 (c' := (19, [(0, .ref 32), (1, .int (nI w)), (2, .int (nI b)), (3, .int (nI p))], [.int (nI b), .int (nI G.1), .ref 34], (pt S 33 G.1 (nI w)))) rfl ?_
  refine x_isN rfl rfl (by decide) (by omega) ?_
  refine run_ok 4 (c' := (28, [(0, .ref 32), (1, .int (nI w)), (2, .int (nI b)), (3, .int (nI p))], [.int (S.1 32 3), .ref 35], (pt (pt S 33 G.1 (nI w)) 34 G.1 (nI b)))) rfl ?_
  refine x_top (v' := nI G.1) hg1 ?_
  refine run_ok 1 (c' := (29, [(0, .ref 32), (1, .int (nI w)), (2, .int (nI b)), (3, .int (nI p))], [.int (nI p), .int (nI G.1), .ref 35], (pt (pt S 33 G.1 (nI w)) 34 G.1 (nI b)))) rfl ?_
  refine x_isN rfl rfl (by decide) (by omega) ?_
  refine run_ok 3 (c' := (35, [(0, .ref 32), (1, .int (nI w)), (2, .int (nI b)), (3, .int (nI p))], [.int (S.1 32 3), .ref 32], (pt (pt (pt S 33 G.1 (nI w)) 34 G.1 (nI b)) 35 G.1 (nI p)))) rfl ?_
  refine x_top (v' := nI G.1) hg1 ?_
  refine run_ok 2 (c' := (37, [(0, .ref 32), (1, .int (nI w)), (2, .int (nI b)), (3, .int (nI p))], [.int ((nI G.1) + (nI 1)), .ref 32], (pt (pt (pt S 33 G.1 (nI w)) 34 G.1 (nI b)) 35 G.1 (nI p)))) rfl ?_
  refine x_top (v' := nI (G.1 + 1)) (nI_add _ _) ?_
  refine run_ok 1 (c' := (40, [(0, .ref 32), (1, .int (nI w)), (2, .int (nI b)), (3, .int (nI p))], [], (pt (pt (pt (pt S 33 G.1 (nI w)) 34 G.1 (nI b)) 35 G.1 (nI p)) 32 3 (nI (G.1 + 1))))) rfl ?_
  refine x_ret (r := none) rfl rfl trivial ?_ rfl
  have ex : ∀ (f : Nat → Nat) (v : Nat) (k : Nat), rh S k G.1 f → ∀ j, j < G.1 + 1 → upd (S.1 k) G.1 (nI v) j = nI (upn f G.1 v j) := by
    intro f v k h j hj
    unfold upd upn
    split
    · rfl
    · exact h j (by omega)
  refine ⟨rfl, ⟨rfl, ex _ _ _ hg.2.1, ex _ _ _ hg.2.2.1, ex _ _ _ hg.2.2.2⟩, ?_, rfl⟩
  refine fr.pt (fr.pt (fr.pt (fr.pt fr.rf ?_) ?_) ?_) ?_ <;> decide

set_option maxHeartbeats 2000000 in
theorem c_seen_ok (S : ST) (G : SD) (w b p : Nat) (hw : w < 24) (hb : b < 8) (hp : p < 9) (hg : SR G S) (hn8 : G.1 < 8) : EX me_N_seen 1 [.ref 0, .int (nI w), .int (nI b), .int (nI p)] S (fun r u => r = some (.int (nI (G.1 + 1))) ∧ SR (G.1 + 1, upn G.2.1 G.1 w, upn G.2.2.1 G.1 b, upn G.2.2.2 G.1 p) u ∧ fr [32, 33, 34, 35] S u ∧ u.2 = S.2) := by
  refine EX.of mok_N_seen (Nat.le_of_ble_eq_true rfl) ?_
  have hg1 := hg.1
  refine run_ok 2 (c' := (3, [(0, .ref 0), (1, .int (nI w)), (2, .int (nI b)), (3, .int (nI p))], [.int (nI 24), .int (nI w)], S)) rfl ?_
  refine x_callS [.int (nI w), .int (nI 24)] rfl cs_N_isBelow.1 lk_6_73 cs_N_isBelow.2.1 rfl rfl (Nat.le_of_ble_eq_true rfl) (by decide) cs_N_isBelow.2.2 (c_isBelow S (nI w) (nI 24)) ?_
  rintro r u ⟨hr, hu⟩
  rw [hr, hu]
  clear hr hu r u
  refine x_ifB_eq 27 rfl rfl (fun hn => absurd hn (fun z => z (inr_t hw (by decide)))) (fun h6 => ?_)
  refine run_ok 2 (c' := (12, [(0, .ref 0), (1, .int (nI w)), (2, .int (nI b)), (3, .int (nI p))], [.int (nI 8), .int (nI b)], S)) rfl ?_
  refine x_callS [.int (nI b), .int (nI 8)] rfl cs_N_isBelow.1 lk_6_73 cs_N_isBelow.2.1 rfl rfl (Nat.le_of_ble_eq_true rfl) (by decide) cs_N_isBelow.2.2 (c_isBelow S (nI b) (nI 8)) ?_
  rintro r u ⟨hr, hu⟩
  rw [hr, hu]
  clear hr hu r u
  refine x_ifB_eq 27 rfl rfl (fun hn => absurd hn (fun z => z (inr_t hb (by decide)))) (fun h15 => ?_)
  refine run_ok 2 (c' := (21, [(0, .ref 0), (1, .int (nI w)), (2, .int (nI b)), (3, .int (nI p))], [.int (nI 9), .int (nI p)], S)) rfl ?_
  refine x_callS [.int (nI p), .int (nI 9)] rfl cs_N_isBelow.1 lk_6_73 cs_N_isBelow.2.1 rfl rfl (Nat.le_of_ble_eq_true rfl) (by decide) cs_N_isBelow.2.2 (c_isBelow S (nI p) (nI 9)) ?_
  rintro r u ⟨hr, hu⟩
  rw [hr, hu]
  clear hr hu r u
  refine x_ifB_ne 30 rfl rfl (fun h24 => ?_) (fun hn => absurd (inr_t hp (by decide)) hn)
  refine run_ok 3 (c' := (37, [(0, .ref 0), (1, .int (nI w)), (2, .int (nI b)), (3, .int (nI p))], [.int (S.1 32 3)], S)) rfl ?_
  refine x_top (v' := nI G.1) hg1 ?_
  refine run_ok 1 (c' := (39, [(0, .ref 0), (1, .int (nI w)), (2, .int (nI b)), (3, .int (nI p))], [.int (nI 8), .int (nI G.1)], S)) rfl ?_
  refine x_icmpN_lt 45 rfl rfl (by omega) (by omega) (fun h39 => ?_) (fun hn => absurd hn8 hn)
  refine run_ok 5 (c' := (52, [(0, .ref 0), (1, .int (nI w)), (2, .int (nI b)), (3, .int (nI p))], [.int (nI p), .int (nI b), .int (nI w), .ref 32], S)) rfl ?_
  refine x_callV [.int (nI w), .int (nI b), .int (nI p)] rfl cv_G_append.1 lk_6_218 cv_G_append.2.1 cv_G_append.2.2.1 rfl cv_G_append.2.2.2.1 rfl rfl (Nat.le_of_ble_eq_true rfl) (by decide) cv_G_append.2.2.2.2 (c_gappend S G w b p hg hn8) ?_
  rintro r u ⟨hr, hgu, hfu, h2u⟩
  rw [hr]
  clear hr r
  have hgu1 := hgu.1
  refine run_ok 3 (c' := (62, [(0, .ref 0), (1, .int (nI w)), (2, .int (nI b)), (3, .int (nI p))], [.int (u.1 32 3)], u)) rfl ?_
  refine x_top (v' := nI (G.1 + 1)) hgu1 ?_
  exact x_ret (r := some (.int (nI (G.1 + 1)))) rfl rfl trivial ⟨rfl, hgu, hfu, h2u⟩ rfl

set_option maxHeartbeats 2000000 in
theorem c_seen_full (S : ST) (G : SD) (w b p : Nat) (hw : w < 24) (hb : b < 8) (hp : p < 9) (hg : SR G S) (hn : G.1 = 8) : EX me_N_seen 1 [.ref 0, .int (nI w), .int (nI b), .int (nI p)] S (fun r u => r = some (.int (-4)) ∧ u = S) := by
  refine EX.of mok_N_seen (Nat.le_of_ble_eq_true rfl) ?_
  have hg1 := hg.1
  refine run_ok 2 (c' := (3, [(0, .ref 0), (1, .int (nI w)), (2, .int (nI b)), (3, .int (nI p))], [.int (nI 24), .int (nI w)], S)) rfl ?_
  refine x_callS [.int (nI w), .int (nI 24)] rfl cs_N_isBelow.1 lk_6_73 cs_N_isBelow.2.1 rfl rfl (Nat.le_of_ble_eq_true rfl) (by decide) cs_N_isBelow.2.2 (c_isBelow S (nI w) (nI 24)) ?_
  rintro r u ⟨hr, hu⟩
  rw [hr, hu]
  clear hr hu r u
  refine x_ifB_eq 27 rfl rfl (fun hn => absurd hn (fun z => z (inr_t hw (by decide)))) (fun h6 => ?_)
  refine run_ok 2 (c' := (12, [(0, .ref 0), (1, .int (nI w)), (2, .int (nI b)), (3, .int (nI p))], [.int (nI 8), .int (nI b)], S)) rfl ?_
  refine x_callS [.int (nI b), .int (nI 8)] rfl cs_N_isBelow.1 lk_6_73 cs_N_isBelow.2.1 rfl rfl (Nat.le_of_ble_eq_true rfl) (by decide) cs_N_isBelow.2.2 (c_isBelow S (nI b) (nI 8)) ?_
  rintro r u ⟨hr, hu⟩
  rw [hr, hu]
  clear hr hu r u
  refine x_ifB_eq 27 rfl rfl (fun hn => absurd hn (fun z => z (inr_t hb (by decide)))) (fun h15 => ?_)
  refine run_ok 2 (c' := (21, [(0, .ref 0), (1, .int (nI w)), (2, .int (nI b)), (3, .int (nI p))], [.int (nI 9), .int (nI p)], S)) rfl ?_
  refine x_callS [.int (nI p), .int (nI 9)] rfl cs_N_isBelow.1 lk_6_73 cs_N_isBelow.2.1 rfl rfl (Nat.le_of_ble_eq_true rfl) (by decide) cs_N_isBelow.2.2 (c_isBelow S (nI p) (nI 9)) ?_
  rintro r u ⟨hr, hu⟩
  rw [hr, hu]
  clear hr hu r u
  refine x_ifB_ne 30 rfl rfl (fun h24 => ?_) (fun hn => absurd (inr_t hp (by decide)) hn)
  refine run_ok 3 (c' := (37, [(0, .ref 0), (1, .int (nI w)), (2, .int (nI b)), (3, .int (nI p))], [.int (S.1 32 3)], S)) rfl ?_
  refine x_top (v' := nI G.1) hg1 ?_
  refine run_ok 1 (c' := (39, [(0, .ref 0), (1, .int (nI w)), (2, .int (nI b)), (3, .int (nI p))], [.int (nI 8), .int (nI G.1)], S)) rfl ?_
  refine x_icmpN_lt 45 rfl rfl (by omega) (by omega) (fun hn => absurd hn (show ¬ G.1 < 8 by omega)) (fun h39 => ?_)
  refine run_ok 1 (c' := (44, [(0, .ref 0), (1, .int (nI w)), (2, .int (nI b)), (3, .int (nI p))], [.int (-4)], S)) rfl ?_
  exact x_ret (r := some (.int (-4))) rfl rfl trivial ⟨rfl, rfl⟩ rfl

set_option maxHeartbeats 2000000 in
theorem c_forget (S : ST) (G : SD) (hg : SR G S) : EX me_N_forget 0 [.ref 0] S (fun r u => r = some (.int (nI G.1)) ∧ SR (0, G.2) u ∧ fr [32] S u ∧ u.2 = S.2) := by
  refine EX.of mok_N_forget (Nat.le_of_ble_eq_true rfl) ?_
  have hg1 := hg.1
  refine run_ok 3 (c' := (7, [(0, .ref 0)], [.int (S.1 32 3)], S)) rfl ?_
  refine x_top (v' := nI G.1) hg1 ?_
  refine run_ok 6 (c' := (17, [(0, .ref 0), (1, .int (nI G.1))], [.int (nI G.1)], (pt S 32 3 (nI 0)))) rfl ?_
  exact x_ret (r := some (.int (nI G.1))) rfl rfl trivial ⟨rfl, ⟨rfl, fun j hj => absurd hj (Nat.not_lt_zero _), fun j hj => absurd hj (Nat.not_lt_zero _), fun j hj => absurd hj (Nat.not_lt_zero _)⟩, fr.rf.pt (by decide), rfl⟩ rfl

theorem c_find (S : ST) (n : Nat) : EX me_N_find 0 [.ref 0, .int (nI n)] S (fun r u => r = some (.int ((-10) - nI n)) ∧ u = pt S 0 10 (nI n)) := by
  refine EX.of mok_N_find (Nat.le_of_ble_eq_true rfl) ?_
  refine run_ok 6 (c' := (9, [(0, .ref 0), (1, .int (nI n))], [.int ((-10) - (nI n))], (pt S 0 10 (nI n)))) rfl ?_
  exact x_ret (r := some (.int ((-10) - (nI n)))) rfl rfl trivial ⟨rfl, rfl⟩ rfl
end
section
/-! plans of the class: whom to wrong, when to pay, when to launch -/
theorem lsn_le (T : TD) (k : Nat) : ∀ w, lsn T w k ≤ w := by
  intro w
  induction w with
  | zero => exact Nat.le_refl 0
  | succ w ih =>
    show lsn T w k + (if vis (vo T (w + 1)) k = 1 then 1 else 0) ≤ w + 1
    split <;> omega
theorem tok_wh {T : TD} (h : tok T) {j v : Nat} (hv : v ≤ 9) : tok (wh T (upn (th T) j v)) := ⟨h.1, h.2.1, h.2.2.1, h.2.2.2.1, upn_le h.2.2.2.2.1 hv, h.2.2.2.2.2⟩
theorem tok_wlo {T : TD} (h : tok T) {m : Nat} (hm : m < 512) : tok (wlo T m) := ⟨h.1, h.2.1, h.2.2.1, h.2.2.2.1, h.2.2.2.2.1, hm⟩
theorem tok_wla {T : TD} (h : tok T) {k w : Nat} (hw : w < 24) : tok (wla T (upn (tla T) k w)) := by
  refine ⟨h.1, h.2.1, fun j hj => ?_, h.2.2.2.1, h.2.2.2.2.1, h.2.2.2.2.2⟩
  have q := h.2.2.1 j hj
  refine ⟨q.1, q.2.1, ?_, q.2.2.2⟩
  show upn (tla T) k w j < 24
  unfold upn
  split
  · exact hw
  · exact q.2.2.1
theorem tok_wso {T : TD} (h : tok T) {k v : Nat} (hv : v ≤ 2) : tok (wso T (upn (tso T) k v)) := by
  refine ⟨h.1, h.2.1, fun j hj => ?_, h.2.2.2.1, h.2.2.2.2.1, h.2.2.2.2.2⟩
  have q := h.2.2.1 j hj
  refine ⟨?_, q.2⟩
  show upn (tso T) k v j ≤ 2
  unfold upn
  split
  · exact hv
  · exact q.1
theorem tok_wev {T : TD} (h : tok T) (hn : tne T ≤ 8) {kd w b : Nat} (h1 : kd < 3) (h2 : w < 24) (h3 : b < 8) : tok (wev T (tne T + 1) (upn (tek T) (tne T) kd) (upn (tew T) (tne T) w) (upn (teb T) (tne T) b)) := by
  refine ⟨h.1, by show tne T + 1 ≤ 9; omega, h.2.2.1, fun e he => ?_, h.2.2.2.2.1, h.2.2.2.2.2⟩
  have he' : e < tne T + 1 := he
  show upn (tek T) (tne T) kd e < 3 ∧ upn (tew T) (tne T) w e < 24 ∧ upn (teb T) (tne T) b e < 8
  by_cases e1 : e = tne T
  · rw [e1, upn_s, upn_s, upn_s]; exact ⟨h1, h2, h3⟩
  · rw [upn_n e1, upn_n e1, upn_n e1]; exact h.2.2.2.1 e (by omega)
theorem bdn_le {b : Nat × Nat} {n f m c : Nat} (h1 : b.1 ≤ m) (hn : n ≤ m) (h2 : b.2 ≤ c) (hf : f ≤ c) : (bdn b n f).1 ≤ m ∧ (bdn b n f).2 ≤ c := by
  unfold bdn
  split
  · exact ⟨hn, hf⟩
  · exact ⟨h1, h2⟩
def wrg (T : TD) (k : Nat) : Nat → Nat × Nat
  | 0 => (99, 0)
  | p + 1 => if p = tbu T k then wrg T k p else bup (wrg T k p) p (lsn (wh T (upn (th T) (8 * p + tbu T k) 5)) 24 k)
def pyw (T : TD) (k w : Nat) : TD := wev T (tne T + 1) (upn (tek T) (tne T) 1) (upn (tew T) (tne T) w) (upn (teb T) (tne T) k)
def pyf (T : TD) (k : Nat) : Nat → Nat × Nat
  | 0 => (99, 0)
  | w + 1 => bup (pyf T k w) w (lsn (pyw T k w) 24 k)
def waf (T : TD) (k : Nat) : Nat → Nat × Nat
  | 0 => (99, 0)
  | w + 1 => bdn (waf T k w) w (cnt (fun j => decide (vis (vo (wla T (upn (tla T) k w)) 24) j = 2)) (tnb T))
theorem wrg_le (T : TD) (k : Nat) : ∀ p, p ≤ 8 → (wrg T k p).1 ≤ 99 ∧ (wrg T k p).2 ≤ 24 := by
  intro p
  induction p with
  | zero => intro _; exact ⟨Nat.le_refl 99, Nat.zero_le 24⟩
  | succ p ih =>
    intro hp
    have q := ih (by omega)
    unfold wrg
    split
    · exact q
    · exact bup_le q.1 (by omega) q.2 (lsn_le _ _ _)
theorem pyf_le (T : TD) (k : Nat) : ∀ p, p ≤ 24 → (pyf T k p).1 ≤ 99 ∧ (pyf T k p).2 ≤ 24 := by
  intro p
  induction p with
  | zero => intro _; exact ⟨Nat.le_refl 99, Nat.zero_le 24⟩
  | succ p ih =>
    intro hp
    have q := ih (by omega)
    exact bup_le q.1 (by omega) q.2 (lsn_le _ _ _)
theorem waf_le {T : TD} (h8 : tnb T ≤ 8) (k : Nat) : ∀ p, p ≤ 24 → (waf T k p).1 ≤ 99 ∧ (waf T k p).2 ≤ 8 := by
  intro p
  induction p with
  | zero => intro _; exact ⟨Nat.le_refl 99, Nat.zero_le 8⟩
  | succ p ih =>
    intro hp
    have q := ih (by omega)
    exact bdn_le q.1 (by omega) q.2 (Nat.le_trans (cnt_le _ _) h8)
set_option maxHeartbeats 2000000 in
theorem c_seekWrong (S : ST) (T : TD) (hT : TR 5 T S) (hto : tok T) (hne : tne T ≤ 8) (k : Nat) (hk : k < tnb T) : EX me_N_seekWrong 5 [.ref 0, .int (nI k)] S (fun r u => r = none ∧ BR (wrg T k 8) u ∧ fr CQ S u) := by
  refine EX.of mok_N_seekWrong (Nat.le_of_ble_eq_true rfl) ?_
  obtain ⟨n8, n9, hbt, het, hht, hlo⟩ := id hto
  obtain ⟨t1, t2, t3, t4, t5, t6, t7, t8, t9, t10, t11⟩ := id hT
  have qb := (hbt k hk).2.1
  have H : ∀ i, i ≤ 8 → ∀ v : ST, BR (wrg T k i) v → fr CQ S v → BX me_N_seekWrong 5 none (fun r u => r = none ∧ BR (wrg T k 8) u ∧ fr CQ S u) (19, [(0, .ref 0), (1, .int (nI k)), (2, .int (nI (tbu T k))), (3, .int (nI i))], [], v) := by
    refine loop_up (P := fun i => ∀ v : ST, BR (wrg T k i) v → fr CQ S v → BX me_N_seekWrong 5 none (fun r u => r = none ∧ BR (wrg T k 8) u ∧ fr CQ S u) (19, [(0, .ref 0), (1, .int (nI k)), (2, .int (nI (tbu T k))), (3, .int (nI i))], [], v)) 8 ?_ ?_
    · intro v hb hfv
      refine run_ok 2 (c' := (22, [(0, .ref 0), (1, .int (nI k)), (2, .int (nI (tbu T k))), (3, .int (nI 8))], [.int (nI 8), .int (nI 8)], v)) rfl ?_
      refine x_icmpN_ge 91 rfl rfl (by omega) (by omega) (fun h22 => ?_) (fun hn => absurd (Nat.le_refl 8) hn)
      exact x_ret (r := none) rfl rfl trivial ⟨rfl, hb, hfv⟩ rfl
    · intro i hi ih v hb hfv
      have qn : tnb (wh T (upn (th T) (8 * i + tbu T k) 5)) = tnb T := rfl
      have q1 := wrg_le T k i (by omega)
      have q2 := lsn_le (wh T (upn (th T) (8 * i + tbu T k) 5)) k 24
      refine run_ok 2 (c' := (22, [(0, .ref 0), (1, .int (nI k)), (2, .int (nI (tbu T k))), (3, .int (nI i))], [.int (nI 8), .int (nI i)], v)) rfl ?_
      refine x_icmpN_ge 91 rfl rfl (by omega) (by omega) (fun hn => absurd hn (show ¬ 8 ≤ i by omega)) (fun h22 => ?_)
      refine run_ok 2 (c' := (27, [(0, .ref 0), (1, .int (nI k)), (2, .int (nI (tbu T k))), (3, .int (nI i))], [.int (nI (tbu T k)), .int (nI i)], v)) rfl ?_
      refine x_icmpN_eq 85 rfl rfl (by omega) (by omega) (fun h27 => ?_) (fun h27 => ?_)
      · refine run_ok 1 (c' := (88, [(0, .ref 0), (1, .int (nI k)), (2, .int (nI (tbu T k))), (3, .int (nI i + nI 1))], [], v)) rfl ?_
        rw [nI_add i 1]
        refine run_ok 1 (c' := (19, [(0, .ref 0), (1, .int (nI k)), (2, .int (nI (tbu T k))), (3, .int (nI (i + 1)))], [], v)) rfl ?_
        rw [show wrg T k (i + 1) = wrg T k i from if_pos h27] at ih
        exact ih v hb hfv
      · refine run_ok 4 (c' := (38, [(0, .ref 0), (1, .int (nI k)), (2, .int (nI (tbu T k))), (3, .int (nI i))], [.ref 5, .ref 14], v)) rfl ?_
        refine x_callV [.ref 5] rfl cv_T_become.1 lk_6_220 cv_T_become.2.1 cv_T_become.2.2.1 rfl cv_T_become.2.2.2.1 rfl rfl (Nat.le_of_ble_eq_true rfl) (by decide) cv_T_become.2.2.2.2 (c_become v T (hT.keep hfv (by decide)) hto hne) ?_
        rintro r v1 ⟨hr, hTb, hfb, h2b⟩
        rw [hr]
        clear hr r
        refine run_ok 5 (c' := (50, [(0, .ref 0), (1, .int (nI k)), (2, .int (nI (tbu T k))), (3, .int (nI i))], [.int (nI (tbu T k)), .int (nI i), .ref 15], v1)) rfl ?_
        refine x_callS [.int (nI i), .int (nI (tbu T k))] rfl cs_N_pair.1 lk_6_103 cs_N_pair.2.1 rfl rfl (Nat.le_of_ble_eq_true rfl) (by decide) cs_N_pair.2.2 (c_pair v1 (nI i) (nI (tbu T k))) ?_
        rintro r x ⟨hr, hu⟩
        rw [hr, hu]
        clear hr hu r x
        refine x_top (v' := nI (8 * i + (tbu T k))) (by rw [pk_mul, nI_add, Nat.mul_comm]) ?_
        refine run_ok 1 (c' := (54, [(0, .ref 0), (1, .int (nI k)), (2, .int (nI (tbu T k))), (3, .int (nI i))], [.int (nI 5), .int (nI (8 * i + (tbu T k))), .ref 15], v1)) rfl ?_
        refine x_isN rfl rfl (by decide) (by omega) ?_
        refine run_ok 5 (c' := (65, [(0, .ref 0), (1, .int (nI k)), (2, .int (nI (tbu T k))), (3, .int (nI i))], [.int (nI 23), .ref 14, .ref 23], (pt v1 15 (8 * i + (tbu T k)) (nI 5)))) rfl ?_
        refine x_callV [.ref 14, .int (nI 23)] rfl cv_V_run.1 lk_6_146 cv_V_run.2.1 cv_V_run.2.2.1 rfl cv_V_run.2.2.2.1 rfl rfl (Nat.le_of_ble_eq_true rfl) (by decide) cv_V_run.2.2.2.2 (c_run14 (pt v1 15 (8 * i + (tbu T k)) (nI 5)) (wh T (upn (th T) (8 * i + tbu T k) 5)) 23 ⟨hTb.1.put, hTb.2⟩ (tok_wh hto (by decide)) (by omega)) ?_
        rintro r u ⟨hr, hCu, hfu, h2u⟩
        rw [hr]
        clear hr r
        have h29 := hCu.2.2.2.2.2.1
        refine run_ok 7 (c' := (81, [(0, .ref 0), (1, .int (nI k)), (2, .int (nI (tbu T k))), (3, .int (nI i))], [.int (nI k), .ref 29, .int (nI i), .ref 36], u)) rfl ?_
        refine x_iaN (nI (lsn (wh T (upn (th T) (8 * i + tbu T k) 5)) 24 k)) rfl rfl (by decide) (by omega) (h29 k (by omega)) ?_
        refine x_callV [.int (nI i), .int (nI (lsn (wh T (upn (th T) (8 * i + tbu T k) 5)) 24 k))] rfl cv_B_offer.1 lk_6_183 cv_B_offer.2.1 cv_B_offer.2.2.1 rfl cv_B_offer.2.2.2.1 rfl rfl (Nat.le_of_ble_eq_true rfl) (by decide) cv_B_offer.2.2.2.2 (c_offerU u (wrg T k i) i (lsn (wh T (upn (th T) (8 * i + tbu T k) 5)) 24 k) ⟨by rw [hfu 36 (by decide)]; exact (by rw [show (pt v1 15 (8 * i + tbu T k) (nI 5)).1 36 = v1.1 36 from rfl, hfb 36 (by decide)]; exact hb.1), by rw [hfu 36 (by decide)]; exact (by rw [show (pt v1 15 (8 * i + tbu T k) (nI 5)).1 36 = v1.1 36 from rfl, hfb 36 (by decide)]; exact hb.2)⟩ (by omega) (by omega) (by omega) (by omega)) ?_
        rintro r z ⟨hr, hbz, hfz, h2z⟩
        rw [hr]
        clear hr r
        refine run_ok 1 (c' := (88, [(0, .ref 0), (1, .int (nI k)), (2, .int (nI (tbu T k))), (3, .int (nI i + nI 1))], [], z)) rfl ?_
        rw [nI_add i 1]
        refine run_ok 1 (c' := (19, [(0, .ref 0), (1, .int (nI k)), (2, .int (nI (tbu T k))), (3, .int (nI (i + 1)))], [], z)) rfl ?_
        rw [show wrg T k (i + 1) = bup (wrg T k i) i (lsn (wh T (upn (th T) (8 * i + tbu T k) 5)) 24 k) from if_neg h27] at ih
        exact ih z hbz (hfv.tr ((((hfb.sub (by decide)).pt (by decide)).tr (hfu.sub (by decide))).tr (hfz.sub (by decide))))
  refine run_ok 4 (c' := (8, [(0, .ref 0), (1, .int (nI k))], [.int (nI k), .ref 8], S)) rfl ?_
  refine x_iaN (nI (tbu T k)) rfl rfl (by decide) (by omega) (t3 k (by omega)) ?_
  refine run_ok 3 (c' := (14, [(0, .ref 0), (1, .int (nI k)), (2, .int (nI (tbu T k)))], [.ref 36], S)) rfl ?_
  refine x_callV [] rfl cv_B_clear.1 lk_6_177 cv_B_clear.2.1 cv_B_clear.2.2.1 rfl cv_B_clear.2.2.2.1 rfl rfl (Nat.le_of_ble_eq_true rfl) (by decide) cv_B_clear.2.2.2.2 (c_clear S) ?_
  rintro r x ⟨hr, hv⟩
  rw [hr, hv]
  clear hr hv r x
  refine run_ok 2 (c' := (19, [(0, .ref 0), (1, .int (nI k)), (2, .int (nI (tbu T k))), (3, .int (nI 0))], [], (pt (pt S 36 0 (-1)) 36 1 (nI 0)))) rfl ?_
  exact H 0 (by omega) _ ⟨rfl, rfl⟩ ((fr.rf.pt (by decide)).pt (by decide))

set_option maxHeartbeats 2000000 in
theorem c_seekPay (S : ST) (T : TD) (hT : TR 5 T S) (hto : tok T) (hne : tne T ≤ 8) (k : Nat) (hk : k < tnb T) : EX me_N_seekPay 5 [.ref 0, .int (nI k)] S (fun r u => r = none ∧ BR (pyf T k 24) u ∧ fr CQ S u) := by
  refine EX.of mok_N_seekPay (Nat.le_of_ble_eq_true rfl) ?_
  obtain ⟨n8, n9, hbt, het, hht, hlo⟩ := id hto
  obtain ⟨t1, t2, t3, t4, t5, t6, t7, t8, t9, t10, t11⟩ := id hT
  have H : ∀ i, i ≤ 24 → ∀ v : ST, BR (pyf T k i) v → fr CQ S v → BX me_N_seekPay 5 none (fun r u => r = none ∧ BR (pyf T k 24) u ∧ fr CQ S u) (9, [(0, .ref 0), (1, .int (nI k)), (2, .int (nI i))], [], v) := by
    refine loop_up (P := fun i => ∀ v : ST, BR (pyf T k i) v → fr CQ S v → BX me_N_seekPay 5 none (fun r u => r = none ∧ BR (pyf T k 24) u ∧ fr CQ S u) (9, [(0, .ref 0), (1, .int (nI k)), (2, .int (nI i))], [], v)) 24 ?_ ?_
    · intro v hb hfv
      refine run_ok 2 (c' := (12, [(0, .ref 0), (1, .int (nI k)), (2, .int (nI 24))], [.int (nI 24), .int (nI 24)], v)) rfl ?_
      refine x_icmpN_ge 72 rfl rfl (by omega) (by omega) (fun h12 => ?_) (fun hn => absurd (Nat.le_refl 24) hn)
      exact x_ret (r := none) rfl rfl trivial ⟨rfl, hb, hfv⟩ rfl
    · intro i hi ih v hb hfv
      have q1 := pyf_le T k i (by omega)
      have q2 := lsn_le (pyw T k i) k 24
      have qn : tnb (pyw T k i) = tnb T := rfl
      refine run_ok 2 (c' := (12, [(0, .ref 0), (1, .int (nI k)), (2, .int (nI i))], [.int (nI 24), .int (nI i)], v)) rfl ?_
      refine x_icmpN_ge 72 rfl rfl (by omega) (by omega) (fun hn => absurd hn (show ¬ 24 ≤ i by omega)) (fun h12 => ?_)
      refine run_ok 4 (c' := (23, [(0, .ref 0), (1, .int (nI k)), (2, .int (nI i))], [.ref 5, .ref 14], v)) rfl ?_
      refine x_callV [.ref 5] rfl cv_T_become.1 lk_6_220 cv_T_become.2.1 cv_T_become.2.2.1 rfl cv_T_become.2.2.2.1 rfl rfl (Nat.le_of_ble_eq_true rfl) (by decide) cv_T_become.2.2.2.2 (c_become v T (hT.keep hfv (by decide)) hto hne) ?_
      rintro r v1 ⟨hr, hTb, hfb, h2b⟩
      rw [hr]
      clear hr r
      refine run_ok 5 (c' := (33, [(0, .ref 0), (1, .int (nI k)), (2, .int (nI i))], [.int (nI k), .int (nI i), .int (nI 1), .ref 14], v1)) rfl ?_
      refine x_callV [.int (nI 1), .int (nI i), .int (nI k)] rfl cv_T_addEvent.1 lk_6_126 cv_T_addEvent.2.1 cv_T_addEvent.2.2.1 rfl cv_T_addEvent.2.2.2.1 rfl rfl (Nat.le_of_ble_eq_true rfl) (by decide) cv_T_addEvent.2.2.2.2 (c_addEvent14 v1 T 1 i k hTb hne) ?_
      rintro r v2 ⟨hr, hTc, hfc, h2c⟩
      rw [hr]
      clear hr r
      refine run_ok 5 (c' := (46, [(0, .ref 0), (1, .int (nI k)), (2, .int (nI i))], [.int (nI 23), .ref 14, .ref 23], v2)) rfl ?_
      refine x_callV [.ref 14, .int (nI 23)] rfl cv_V_run.1 lk_6_146 cv_V_run.2.1 cv_V_run.2.2.1 rfl cv_V_run.2.2.2.1 rfl rfl (Nat.le_of_ble_eq_true rfl) (by decide) cv_V_run.2.2.2.2 (c_run14 v2 (pyw T k i) 23 hTc (tok_wev hto hne (by decide) (by omega) (by omega)) (by omega)) ?_
      rintro r u ⟨hr, hCu, hfu, h2u⟩
      rw [hr]
      clear hr r
      have h29 := hCu.2.2.2.2.2.1
      refine run_ok 7 (c' := (62, [(0, .ref 0), (1, .int (nI k)), (2, .int (nI i))], [.int (nI k), .ref 29, .int (nI i), .ref 36], u)) rfl ?_
      refine x_iaN (nI (lsn (pyw T k i) 24 k)) rfl rfl (by decide) (by omega) (h29 k (by omega)) ?_
      refine x_callV [.int (nI i), .int (nI (lsn (pyw T k i) 24 k))] rfl cv_B_offer.1 lk_6_183 cv_B_offer.2.1 cv_B_offer.2.2.1 rfl cv_B_offer.2.2.2.1 rfl rfl (Nat.le_of_ble_eq_true rfl) (by decide) cv_B_offer.2.2.2.2 (c_offerU u (pyf T k i) i (lsn (pyw T k i) 24 k) (show BR _ u from ⟨by rw [hfu 36 (by decide), hfc 36 (by decide), hfb 36 (by decide)]; exact hb.1, by rw [hfu 36 (by decide), hfc 36 (by decide), hfb 36 (by decide)]; exact hb.2⟩) (by omega) (by omega) (by omega) (by omega)) ?_
      rintro r z ⟨hr, hbz, hfz, h2z⟩
      rw [hr]
      clear hr r
      refine run_ok 1 (c' := (69, [(0, .ref 0), (1, .int (nI k)), (2, .int (nI i + nI 1))], [], z)) rfl ?_
      rw [nI_add i 1]
      refine run_ok 1 (c' := (9, [(0, .ref 0), (1, .int (nI k)), (2, .int (nI (i + 1)))], [], z)) rfl ?_
      exact ih z hbz (hfv.tr ((((hfb.sub (by decide)).tr (hfc.sub (by decide))).tr (hfu.sub (by decide))).tr (hfz.sub (by decide))))
  refine run_ok 2 (c' := (4, [(0, .ref 0), (1, .int (nI k))], [.ref 36], S)) rfl ?_
  refine x_callV [] rfl cv_B_clear.1 lk_6_177 cv_B_clear.2.1 cv_B_clear.2.2.1 rfl cv_B_clear.2.2.2.1 rfl rfl (Nat.le_of_ble_eq_true rfl) (by decide) cv_B_clear.2.2.2.2 (c_clear S) ?_
  rintro r x ⟨hr, hv⟩
  rw [hr, hv]
  clear hr hv r x
  refine run_ok 2 (c' := (9, [(0, .ref 0), (1, .int (nI k)), (2, .int (nI 0))], [], (pt (pt S 36 0 (-1)) 36 1 (nI 0)))) rfl ?_
  exact H 0 (by omega) _ ⟨rfl, rfl⟩ ((fr.rf.pt (by decide)).pt (by decide))

set_option maxHeartbeats 2000000 in
theorem c_seekWait (S : ST) (T : TD) (hT : TR 5 T S) (hto : tok T) (hne : tne T ≤ 8) (k : Nat) (hk : k < tnb T) : EX me_N_seekWait 5 [.ref 0, .int (nI k)] S (fun r u => r = none ∧ BN (waf T k 24) u ∧ fr CQ S u) := by
  refine EX.of mok_N_seekWait (Nat.le_of_ble_eq_true rfl) ?_
  obtain ⟨n8, n9, hbt, het, hht, hlo⟩ := id hto
  obtain ⟨t1, t2, t3, t4, t5, t6, t7, t8, t9, t10, t11⟩ := id hT
  have H : ∀ i, i ≤ 24 → ∀ (v : ST) (f : Nat → Nat), BN (waf T k i) v → TR 14 (wla T f) v → (∀ j, j ≠ k → f j = tla T j) → fr CQ S v → BX me_N_seekWait 5 none (fun r u => r = none ∧ BN (waf T k 24) u ∧ fr CQ S u) (20, [(0, .ref 0), (1, .int (nI k)), (2, .int (nI i))], [], v) := by
    refine loop_up (P := fun i => ∀ (v : ST) (f : Nat → Nat), BN (waf T k i) v → TR 14 (wla T f) v → (∀ j, j ≠ k → f j = tla T j) → fr CQ S v → BX me_N_seekWait 5 none (fun r u => r = none ∧ BN (waf T k 24) u ∧ fr CQ S u) (20, [(0, .ref 0), (1, .int (nI k)), (2, .int (nI i))], [], v)) 24 ?_ ?_
    · intro v f hb hTv hff hfv
      refine run_ok 2 (c' := (23, [(0, .ref 0), (1, .int (nI k)), (2, .int (nI 24))], [.int (nI 24), .int (nI 24)], v)) rfl ?_
      refine x_icmpN_ge 72 rfl rfl (by omega) (by omega) (fun h23 => ?_) (fun hn => absurd (Nat.le_refl 24) hn)
      exact x_ret (r := none) rfl rfl trivial ⟨rfl, hb, hfv⟩ rfl
    · intro i hi ih v f hb hTv hff hfv
      have q1 := waf_le n8 k i (by omega)
      have q2 : cnt (fun j => decide (vis (vo (wla T (upn (tla T) k i)) 24) j = 2)) (tnb T) ≤ tnb T := cnt_le _ _
      refine run_ok 2 (c' := (23, [(0, .ref 0), (1, .int (nI k)), (2, .int (nI i))], [.int (nI 24), .int (nI i)], v)) rfl ?_
      refine x_icmpN_ge 72 rfl rfl (by omega) (by omega) (fun hn => absurd hn (show ¬ 24 ≤ i by omega)) (fun h23 => ?_)
      refine run_ok 5 (c' := (35, [(0, .ref 0), (1, .int (nI k)), (2, .int (nI i))], [.int (nI i), .int (nI k), .ref 18], v)) rfl ?_
      refine x_isN rfl rfl (by decide) (by omega) ?_
      have hTw : TR 14 (wla T (upn (tla T) k i)) (pt v 18 k (nI i)) := ⟨hTv.1, hTv.2.1, hTv.2.2.1, (hTv.2.2.2.1.put).cg (fun j hj => by show upn (tla T) k i j = upn f k i j; unfold upn; split; rfl; exact (hff j (by assumption)).symm), hTv.2.2.2.2⟩
      refine run_ok 5 (c' := (46, [(0, .ref 0), (1, .int (nI k)), (2, .int (nI i))], [.int (nI 23), .ref 14, .ref 23], (pt v 18 k (nI i)))) rfl ?_
      refine x_callV [.ref 14, .int (nI 23)] rfl cv_V_run.1 lk_6_146 cv_V_run.2.1 cv_V_run.2.2.1 rfl cv_V_run.2.2.2.1 rfl rfl (Nat.le_of_ble_eq_true rfl) (by decide) cv_V_run.2.2.2.2 (c_run14 (pt v 18 k (nI i)) (wla T (upn (tla T) k i)) 23 hTw (tok_wla hto (by omega)) (by omega)) ?_
      rintro r u ⟨hr, hCu, hfu, h2u⟩
      rw [hr]
      clear hr r
      have h29 := hCu.2.2.2.2.2.1
      refine run_ok 6 (c' := (59, [(0, .ref 0), (1, .int (nI k)), (2, .int (nI i))], [.int (nI 2), .ref 23, .int (nI i), .ref 36], u)) rfl ?_
      refine x_callV [.int (nI 2)] rfl cv_V_howMany.1 lk_6_161 cv_V_howMany.2.1 cv_V_howMany.2.2.1 rfl cv_V_howMany.2.2.2.1 rfl rfl (Nat.le_of_ble_eq_true rfl) (by decide) cv_V_howMany.2.2.2.2 (c_howMany14 u (wla T (upn (tla T) k i)) (vo (wla T (upn (tla T) k i)) 24) _ (hTw.keep hfu (by decide)) (tok_wla hto (by omega)) hCu (vk_vo (tok_wla hto (by omega)) 24 (by omega)).1 2 (by decide)) ?_
      rintro r x ⟨hr, hu⟩
      rw [hr, hu]
      clear hr hu r x
      refine run_ok 1 (c' := (63, [(0, .ref 0), (1, .int (nI k)), (2, .int (nI i))], [.int (-(nI (cnt (fun j => decide (vis (vo (wla T (upn (tla T) k i)) 24) j = 2)) (tnb T)))), .int (nI i), .ref 36], u)) rfl ?_
      refine x_callV [.int (nI i), .int (-(nI (cnt (fun j => decide (vis (vo (wla T (upn (tla T) k i)) 24) j = 2)) (tnb T))))] rfl cv_B_offer.1 lk_6_183 cv_B_offer.2.1 cv_B_offer.2.2.1 rfl cv_B_offer.2.2.2.1 rfl rfl (Nat.le_of_ble_eq_true rfl) (by decide) cv_B_offer.2.2.2.2 (c_offerD u (waf T k i) i (cnt (fun j => decide (vis (vo (wla T (upn (tla T) k i)) 24) j = 2)) (tnb T)) (show BN _ u from ⟨by rw [hfu 36 (by decide)]; exact hb.1, by rw [hfu 36 (by decide)]; exact hb.2⟩) (by omega) (by omega) (by omega) (by omega)) ?_
      rintro r z ⟨hr, hbz, hfz, h2z⟩
      rw [hr]
      clear hr r
      refine run_ok 1 (c' := (69, [(0, .ref 0), (1, .int (nI k)), (2, .int (nI i + nI 1))], [], z)) rfl ?_
      rw [nI_add i 1]
      refine run_ok 1 (c' := (20, [(0, .ref 0), (1, .int (nI k)), (2, .int (nI (i + 1)))], [], z)) rfl ?_
      exact ih z (upn (tla T) k i) hbz ((hTw.keep hfu (by decide)).keep hfz (by decide)) (fun j hj => upn_n hj) (hfv.tr (((fr.rf.pt (by decide)).tr (hfu.sub (by decide))).tr (hfz.sub (by decide))))
  refine run_ok 4 (c' := (8, [(0, .ref 0), (1, .int (nI k))], [.ref 5, .ref 14], S)) rfl ?_
  refine x_callV [.ref 5] rfl cv_T_become.1 lk_6_220 cv_T_become.2.1 cv_T_become.2.2.1 rfl cv_T_become.2.2.2.1 rfl rfl (Nat.le_of_ble_eq_true rfl) (by decide) cv_T_become.2.2.2.2 (c_become S T hT hto hne) ?_
  rintro r v1 ⟨hr, hTb, hfb, h2b⟩
  rw [hr]
  clear hr r
  refine run_ok 2 (c' := (15, [(0, .ref 0), (1, .int (nI k))], [.ref 36], v1)) rfl ?_
  refine x_callV [] rfl cv_B_clear.1 lk_6_177 cv_B_clear.2.1 cv_B_clear.2.2.1 rfl cv_B_clear.2.2.2.1 rfl rfl (Nat.le_of_ble_eq_true rfl) (by decide) cv_B_clear.2.2.2.2 (c_clear v1) ?_
  rintro r x ⟨hr, hv⟩
  rw [hr, hv]
  clear hr hv r x
  refine run_ok 2 (c' := (20, [(0, .ref 0), (1, .int (nI k)), (2, .int (nI 0))], [], (pt (pt v1 36 0 (-1)) 36 1 (nI 0)))) rfl ?_
  exact H 0 (by omega) _ (tla T) ⟨rfl, (by decide : nI 0 = -(nI 0))⟩ hTb (fun _ _ => rfl) (((hfb.sub (by decide)).pt (by decide)).pt (by decide))

set_option maxHeartbeats 2000000 in
theorem c_wrong_bad (S : ST) (T : TD) (t9 : S.1 5 6 = nI (tnb T)) (x y : Int32) (hbad : ¬ ((0 ≤ x ∧ x < nI (tnb T)) ∧ (0 ≤ y ∧ y < nI 2))) : EX me_N_wrong 6 [.ref 0, .int x, .int y] S (fun r u => r = some (.int ((-2))) ∧ u = S) := by
  refine EX.of mok_N_wrong (Nat.le_of_ble_eq_true rfl) ?_
  refine run_ok 2 (c' := (2, [(0, .ref 0), (1, .int x), (2, .int y)], [.int x, .ref 0], S)) rfl ?_
  refine x_callV [.int x] rfl cv_N_isBoat.1 lk_6_107 cv_N_isBoat.2.1 cv_N_isBoat.2.2.1 rfl cv_N_isBoat.2.2.2.1 rfl rfl (Nat.le_of_ble_eq_true rfl) (by decide) cv_N_isBoat.2.2.2.2 (c_isBoat S (x) (tnb T) t9) ?_
  rintro r u ⟨hr, hu⟩
  rw [hr, hu]
  clear hr hu r u
  refine x_ifB_eq 16 rfl rfl (fun h5 => ?_) (fun h5 => ?_)
  · refine run_ok 1 (c' := (18, [(0, .ref 0), (1, .int x), (2, .int y)], [.int (-2)], S)) rfl ?_
    exact x_ret (r := some (.int (-2))) rfl rfl trivial ⟨rfl, rfl⟩ rfl
  · refine run_ok 2 (c' := (10, [(0, .ref 0), (1, .int x), (2, .int y)], [.int (nI 2), .int y], S)) rfl ?_
    refine x_callS [.int y, .int (nI 2)] rfl cs_N_isBelow.1 lk_6_73 cs_N_isBelow.2.1 rfl rfl (Nat.le_of_ble_eq_true rfl) (by decide) cs_N_isBelow.2.2 (c_isBelow S (y) (nI 2)) ?_
    rintro r u ⟨hr, hu⟩
    rw [hr, hu]
    clear hr hu r u
    refine x_ifB_ne 19 rfl rfl (fun h13 => ?_) (fun h13 => ?_)
    · exact absurd ⟨h5, h13⟩ hbad
    · refine run_ok 1 (c' := (18, [(0, .ref 0), (1, .int x), (2, .int y)], [.int (-2)], S)) rfl ?_
      exact x_ret (r := some (.int (-2))) rfl rfl trivial ⟨rfl, rfl⟩ rfl

set_option maxHeartbeats 2000000 in
theorem c_wrong_ok0 (S : ST) (T : TD) (hT : TR 5 T S) (hto : tok T) (hne : tne T ≤ 8) (k : Nat) (hk : k < tnb T) : EX me_N_wrong 6 [.ref 0, .int (nI k), .int (nI 0)] S (fun r u => r = some (.int (whv (wrg T k 8).1)) ∧ fr CQ S u) := by
  refine EX.of mok_N_wrong (Nat.le_of_ble_eq_true rfl) ?_
  obtain ⟨n8, n9, hbt, het, hht, hlo⟩ := id hto
  obtain ⟨t1, t2, t3, t4, t5, t6, t7, t8, t9, t10, t11⟩ := id hT
  refine run_ok 2 (c' := (2, [(0, .ref 0), (1, .int (nI k)), (2, .int (nI 0))], [.int (nI k), .ref 0], S)) rfl ?_
  refine x_callV [.int (nI k)] rfl cv_N_isBoat.1 lk_6_107 cv_N_isBoat.2.1 cv_N_isBoat.2.2.1 rfl cv_N_isBoat.2.2.2.1 rfl rfl (Nat.le_of_ble_eq_true rfl) (by decide) cv_N_isBoat.2.2.2.2 (c_isBoat S (nI k) (tnb T) t9) ?_
  rintro r u ⟨hr, hu⟩
  rw [hr, hu]
  clear hr hu r u
  refine x_ifB_eq 16 rfl rfl (fun hn => absurd hn (fun z => z (inr_t hk (by omega)))) (fun h5 => ?_)
  refine run_ok 2 (c' := (10, [(0, .ref 0), (1, .int (nI k)), (2, .int (nI 0))], [.int (nI 2), .int (nI 0)], S)) rfl ?_
  refine x_callS [.int (nI 0), .int (nI 2)] rfl cs_N_isBelow.1 lk_6_73 cs_N_isBelow.2.1 rfl rfl (Nat.le_of_ble_eq_true rfl) (by decide) cs_N_isBelow.2.2 (c_isBelow S (nI 0) (nI 2)) ?_
  rintro r u ⟨hr, hu⟩
  rw [hr, hu]
  clear hr hu r u
  refine x_ifB_ne 19 rfl rfl (fun h13 => ?_) (fun hn => absurd (inr_t (by decide) (by decide)) hn)
  refine run_ok 2 (c' := (21, [(0, .ref 0), (1, .int (nI k)), (2, .int (nI 0))], [.int (nI k), .ref 0], S)) rfl ?_
  refine x_callV [.int (nI k)] rfl cv_N_seekWrong.1 lk_6_193 cv_N_seekWrong.2.1 cv_N_seekWrong.2.2.1 rfl cv_N_seekWrong.2.2.2.1 rfl rfl (Nat.le_of_ble_eq_true rfl) (by decide) cv_N_seekWrong.2.2.2.2 (c_seekWrong S T hT hto hne k hk) ?_
  rintro r u ⟨hr, hbu, hfu⟩
  rw [hr]
  clear hr r
  have hb1 := hbu.1
  have hb2 := hbu.2
  refine run_ok 1 (c' := (25, [(0, .ref 0), (1, .int (nI k)), (2, .int (nI 0))], [.int (nI 0)], u)) rfl ?_
  refine x_ifN_ne 38 rfl rfl (by omega) (fun hn => absurd (by decide) hn) (fun h25 => ?_)
  refine run_ok 3 (c' := (35, [(0, .ref 0), (1, .int (nI k)), (2, .int (nI 0))], [.int (u.1 36 0)], u)) rfl ?_
  refine x_top (v' := whv (wrg T k 8).1) hb1 ?_
  refine run_ok 1 (c' := (45, [(0, .ref 0), (1, .int (nI k)), (2, .int (nI 0))], [.int (whv (wrg T k 8).1)], u)) rfl ?_
  exact x_ret (r := some (.int (whv (wrg T k 8).1))) rfl rfl trivial ⟨rfl, hfu⟩ rfl

set_option maxHeartbeats 2000000 in
theorem c_wrong_ok1 (S : ST) (T : TD) (hT : TR 5 T S) (hto : tok T) (hne : tne T ≤ 8) (k : Nat) (hk : k < tnb T) : EX me_N_wrong 6 [.ref 0, .int (nI k), .int (nI 1)] S (fun r u => r = some (.int (nI (wrg T k 8).2)) ∧ fr CQ S u) := by
  refine EX.of mok_N_wrong (Nat.le_of_ble_eq_true rfl) ?_
  obtain ⟨n8, n9, hbt, het, hht, hlo⟩ := id hto
  obtain ⟨t1, t2, t3, t4, t5, t6, t7, t8, t9, t10, t11⟩ := id hT
  refine run_ok 2 (c' := (2, [(0, .ref 0), (1, .int (nI k)), (2, .int (nI 1))], [.int (nI k), .ref 0], S)) rfl ?_
  refine x_callV [.int (nI k)] rfl cv_N_isBoat.1 lk_6_107 cv_N_isBoat.2.1 cv_N_isBoat.2.2.1 rfl cv_N_isBoat.2.2.2.1 rfl rfl (Nat.le_of_ble_eq_true rfl) (by decide) cv_N_isBoat.2.2.2.2 (c_isBoat S (nI k) (tnb T) t9) ?_
  rintro r u ⟨hr, hu⟩
  rw [hr, hu]
  clear hr hu r u
  refine x_ifB_eq 16 rfl rfl (fun hn => absurd hn (fun z => z (inr_t hk (by omega)))) (fun h5 => ?_)
  refine run_ok 2 (c' := (10, [(0, .ref 0), (1, .int (nI k)), (2, .int (nI 1))], [.int (nI 2), .int (nI 1)], S)) rfl ?_
  refine x_callS [.int (nI 1), .int (nI 2)] rfl cs_N_isBelow.1 lk_6_73 cs_N_isBelow.2.1 rfl rfl (Nat.le_of_ble_eq_true rfl) (by decide) cs_N_isBelow.2.2 (c_isBelow S (nI 1) (nI 2)) ?_
  rintro r u ⟨hr, hu⟩
  rw [hr, hu]
  clear hr hu r u
  refine x_ifB_ne 19 rfl rfl (fun h13 => ?_) (fun hn => absurd (inr_t (by decide) (by decide)) hn)
  refine run_ok 2 (c' := (21, [(0, .ref 0), (1, .int (nI k)), (2, .int (nI 1))], [.int (nI k), .ref 0], S)) rfl ?_
  refine x_callV [.int (nI k)] rfl cv_N_seekWrong.1 lk_6_193 cv_N_seekWrong.2.1 cv_N_seekWrong.2.2.1 rfl cv_N_seekWrong.2.2.2.1 rfl rfl (Nat.le_of_ble_eq_true rfl) (by decide) cv_N_seekWrong.2.2.2.2 (c_seekWrong S T hT hto hne k hk) ?_
  rintro r u ⟨hr, hbu, hfu⟩
  rw [hr]
  clear hr r
  have hb1 := hbu.1
  have hb2 := hbu.2
  refine run_ok 1 (c' := (25, [(0, .ref 0), (1, .int (nI k)), (2, .int (nI 1))], [.int (nI 1)], u)) rfl ?_
  refine x_ifN_ne 38 rfl rfl (by omega) (fun h25 => ?_) (fun hn => absurd hn (by decide))
  refine run_ok 3 (c' := (45, [(0, .ref 0), (1, .int (nI k)), (2, .int (nI 1))], [.int (u.1 36 1)], u)) rfl ?_
  refine x_top (v' := nI ((wrg T k 8).2)) hb2 ?_
  exact x_ret (r := some (.int (nI ((wrg T k 8).2)))) rfl rfl trivial ⟨rfl, hfu⟩ rfl

set_option maxHeartbeats 2000000 in
theorem c_pay_bad (S : ST) (T : TD) (t9 : S.1 5 6 = nI (tnb T)) (x y : Int32) (hbad : ¬ ((0 ≤ x ∧ x < nI (tnb T)) ∧ (0 ≤ y ∧ y < nI 2))) : EX me_N_pay 6 [.ref 0, .int x, .int y] S (fun r u => r = some (.int ((-2))) ∧ u = S) := by
  refine EX.of mok_N_pay (Nat.le_of_ble_eq_true rfl) ?_
  refine run_ok 2 (c' := (2, [(0, .ref 0), (1, .int x), (2, .int y)], [.int x, .ref 0], S)) rfl ?_
  refine x_callV [.int x] rfl cv_N_isBoat.1 lk_6_107 cv_N_isBoat.2.1 cv_N_isBoat.2.2.1 rfl cv_N_isBoat.2.2.2.1 rfl rfl (Nat.le_of_ble_eq_true rfl) (by decide) cv_N_isBoat.2.2.2.2 (c_isBoat S (x) (tnb T) t9) ?_
  rintro r u ⟨hr, hu⟩
  rw [hr, hu]
  clear hr hu r u
  refine x_ifB_eq 16 rfl rfl (fun h5 => ?_) (fun h5 => ?_)
  · refine run_ok 1 (c' := (18, [(0, .ref 0), (1, .int x), (2, .int y)], [.int (-2)], S)) rfl ?_
    exact x_ret (r := some (.int (-2))) rfl rfl trivial ⟨rfl, rfl⟩ rfl
  · refine run_ok 2 (c' := (10, [(0, .ref 0), (1, .int x), (2, .int y)], [.int (nI 2), .int y], S)) rfl ?_
    refine x_callS [.int y, .int (nI 2)] rfl cs_N_isBelow.1 lk_6_73 cs_N_isBelow.2.1 rfl rfl (Nat.le_of_ble_eq_true rfl) (by decide) cs_N_isBelow.2.2 (c_isBelow S (y) (nI 2)) ?_
    rintro r u ⟨hr, hu⟩
    rw [hr, hu]
    clear hr hu r u
    refine x_ifB_ne 19 rfl rfl (fun h13 => ?_) (fun h13 => ?_)
    · exact absurd ⟨h5, h13⟩ hbad
    · refine run_ok 1 (c' := (18, [(0, .ref 0), (1, .int x), (2, .int y)], [.int (-2)], S)) rfl ?_
      exact x_ret (r := some (.int (-2))) rfl rfl trivial ⟨rfl, rfl⟩ rfl

set_option maxHeartbeats 2000000 in
theorem c_pay_ok0 (S : ST) (T : TD) (hT : TR 5 T S) (hto : tok T) (hne : tne T ≤ 8) (k : Nat) (hk : k < tnb T) : EX me_N_pay 6 [.ref 0, .int (nI k), .int (nI 0)] S (fun r u => r = some (.int (whv (pyf T k 24).1)) ∧ fr CQ S u) := by
  refine EX.of mok_N_pay (Nat.le_of_ble_eq_true rfl) ?_
  obtain ⟨n8, n9, hbt, het, hht, hlo⟩ := id hto
  obtain ⟨t1, t2, t3, t4, t5, t6, t7, t8, t9, t10, t11⟩ := id hT
  refine run_ok 2 (c' := (2, [(0, .ref 0), (1, .int (nI k)), (2, .int (nI 0))], [.int (nI k), .ref 0], S)) rfl ?_
  refine x_callV [.int (nI k)] rfl cv_N_isBoat.1 lk_6_107 cv_N_isBoat.2.1 cv_N_isBoat.2.2.1 rfl cv_N_isBoat.2.2.2.1 rfl rfl (Nat.le_of_ble_eq_true rfl) (by decide) cv_N_isBoat.2.2.2.2 (c_isBoat S (nI k) (tnb T) t9) ?_
  rintro r u ⟨hr, hu⟩
  rw [hr, hu]
  clear hr hu r u
  refine x_ifB_eq 16 rfl rfl (fun hn => absurd hn (fun z => z (inr_t hk (by omega)))) (fun h5 => ?_)
  refine run_ok 2 (c' := (10, [(0, .ref 0), (1, .int (nI k)), (2, .int (nI 0))], [.int (nI 2), .int (nI 0)], S)) rfl ?_
  refine x_callS [.int (nI 0), .int (nI 2)] rfl cs_N_isBelow.1 lk_6_73 cs_N_isBelow.2.1 rfl rfl (Nat.le_of_ble_eq_true rfl) (by decide) cs_N_isBelow.2.2 (c_isBelow S (nI 0) (nI 2)) ?_
  rintro r u ⟨hr, hu⟩
  rw [hr, hu]
  clear hr hu r u
  refine x_ifB_ne 19 rfl rfl (fun h13 => ?_) (fun hn => absurd (inr_t (by decide) (by decide)) hn)
  refine run_ok 2 (c' := (21, [(0, .ref 0), (1, .int (nI k)), (2, .int (nI 0))], [.int (nI k), .ref 0], S)) rfl ?_
  refine x_callV [.int (nI k)] rfl cv_N_seekPay.1 lk_6_199 cv_N_seekPay.2.1 cv_N_seekPay.2.2.1 rfl cv_N_seekPay.2.2.2.1 rfl rfl (Nat.le_of_ble_eq_true rfl) (by decide) cv_N_seekPay.2.2.2.2 (c_seekPay S T hT hto hne k hk) ?_
  rintro r u ⟨hr, hbu, hfu⟩
  rw [hr]
  clear hr r
  have hb1 := hbu.1
  have hb2 := hbu.2
  refine run_ok 1 (c' := (25, [(0, .ref 0), (1, .int (nI k)), (2, .int (nI 0))], [.int (nI 0)], u)) rfl ?_
  refine x_ifN_ne 38 rfl rfl (by omega) (fun hn => absurd (by decide) hn) (fun h25 => ?_)
  refine run_ok 3 (c' := (35, [(0, .ref 0), (1, .int (nI k)), (2, .int (nI 0))], [.int (u.1 36 0)], u)) rfl ?_
  refine x_top (v' := whv (pyf T k 24).1) hb1 ?_
  refine run_ok 1 (c' := (45, [(0, .ref 0), (1, .int (nI k)), (2, .int (nI 0))], [.int (whv (pyf T k 24).1)], u)) rfl ?_
  exact x_ret (r := some (.int (whv (pyf T k 24).1))) rfl rfl trivial ⟨rfl, hfu⟩ rfl

set_option maxHeartbeats 2000000 in
theorem c_pay_ok1 (S : ST) (T : TD) (hT : TR 5 T S) (hto : tok T) (hne : tne T ≤ 8) (k : Nat) (hk : k < tnb T) : EX me_N_pay 6 [.ref 0, .int (nI k), .int (nI 1)] S (fun r u => r = some (.int (nI (pyf T k 24).2)) ∧ fr CQ S u) := by
  refine EX.of mok_N_pay (Nat.le_of_ble_eq_true rfl) ?_
  obtain ⟨n8, n9, hbt, het, hht, hlo⟩ := id hto
  obtain ⟨t1, t2, t3, t4, t5, t6, t7, t8, t9, t10, t11⟩ := id hT
  refine run_ok 2 (c' := (2, [(0, .ref 0), (1, .int (nI k)), (2, .int (nI 1))], [.int (nI k), .ref 0], S)) rfl ?_
  refine x_callV [.int (nI k)] rfl cv_N_isBoat.1 lk_6_107 cv_N_isBoat.2.1 cv_N_isBoat.2.2.1 rfl cv_N_isBoat.2.2.2.1 rfl rfl (Nat.le_of_ble_eq_true rfl) (by decide) cv_N_isBoat.2.2.2.2 (c_isBoat S (nI k) (tnb T) t9) ?_
  rintro r u ⟨hr, hu⟩
  rw [hr, hu]
  clear hr hu r u
  refine x_ifB_eq 16 rfl rfl (fun hn => absurd hn (fun z => z (inr_t hk (by omega)))) (fun h5 => ?_)
  refine run_ok 2 (c' := (10, [(0, .ref 0), (1, .int (nI k)), (2, .int (nI 1))], [.int (nI 2), .int (nI 1)], S)) rfl ?_
  refine x_callS [.int (nI 1), .int (nI 2)] rfl cs_N_isBelow.1 lk_6_73 cs_N_isBelow.2.1 rfl rfl (Nat.le_of_ble_eq_true rfl) (by decide) cs_N_isBelow.2.2 (c_isBelow S (nI 1) (nI 2)) ?_
  rintro r u ⟨hr, hu⟩
  rw [hr, hu]
  clear hr hu r u
  refine x_ifB_ne 19 rfl rfl (fun h13 => ?_) (fun hn => absurd (inr_t (by decide) (by decide)) hn)
  refine run_ok 2 (c' := (21, [(0, .ref 0), (1, .int (nI k)), (2, .int (nI 1))], [.int (nI k), .ref 0], S)) rfl ?_
  refine x_callV [.int (nI k)] rfl cv_N_seekPay.1 lk_6_199 cv_N_seekPay.2.1 cv_N_seekPay.2.2.1 rfl cv_N_seekPay.2.2.2.1 rfl rfl (Nat.le_of_ble_eq_true rfl) (by decide) cv_N_seekPay.2.2.2.2 (c_seekPay S T hT hto hne k hk) ?_
  rintro r u ⟨hr, hbu, hfu⟩
  rw [hr]
  clear hr r
  have hb1 := hbu.1
  have hb2 := hbu.2
  refine run_ok 1 (c' := (25, [(0, .ref 0), (1, .int (nI k)), (2, .int (nI 1))], [.int (nI 1)], u)) rfl ?_
  refine x_ifN_ne 38 rfl rfl (by omega) (fun h25 => ?_) (fun hn => absurd hn (by decide))
  refine run_ok 3 (c' := (45, [(0, .ref 0), (1, .int (nI k)), (2, .int (nI 1))], [.int (u.1 36 1)], u)) rfl ?_
  refine x_top (v' := nI ((pyf T k 24).2)) hb2 ?_
  exact x_ret (r := some (.int (nI ((pyf T k 24).2)))) rfl rfl trivial ⟨rfl, hfu⟩ rfl

set_option maxHeartbeats 2000000 in
theorem c_waits_bad (S : ST) (T : TD) (t9 : S.1 5 6 = nI (tnb T)) (x y : Int32) (hbad : ¬ ((0 ≤ x ∧ x < nI (tnb T)) ∧ (0 ≤ y ∧ y < nI 2))) : EX me_N_waits 6 [.ref 0, .int x, .int y] S (fun r u => r = some (.int ((-2))) ∧ u = S) := by
  refine EX.of mok_N_waits (Nat.le_of_ble_eq_true rfl) ?_
  refine run_ok 2 (c' := (2, [(0, .ref 0), (1, .int x), (2, .int y)], [.int x, .ref 0], S)) rfl ?_
  refine x_callV [.int x] rfl cv_N_isBoat.1 lk_6_107 cv_N_isBoat.2.1 cv_N_isBoat.2.2.1 rfl cv_N_isBoat.2.2.2.1 rfl rfl (Nat.le_of_ble_eq_true rfl) (by decide) cv_N_isBoat.2.2.2.2 (c_isBoat S (x) (tnb T) t9) ?_
  rintro r u ⟨hr, hu⟩
  rw [hr, hu]
  clear hr hu r u
  refine x_ifB_eq 16 rfl rfl (fun h5 => ?_) (fun h5 => ?_)
  · refine run_ok 1 (c' := (18, [(0, .ref 0), (1, .int x), (2, .int y)], [.int (-2)], S)) rfl ?_
    exact x_ret (r := some (.int (-2))) rfl rfl trivial ⟨rfl, rfl⟩ rfl
  · refine run_ok 2 (c' := (10, [(0, .ref 0), (1, .int x), (2, .int y)], [.int (nI 2), .int y], S)) rfl ?_
    refine x_callS [.int y, .int (nI 2)] rfl cs_N_isBelow.1 lk_6_73 cs_N_isBelow.2.1 rfl rfl (Nat.le_of_ble_eq_true rfl) (by decide) cs_N_isBelow.2.2 (c_isBelow S (y) (nI 2)) ?_
    rintro r u ⟨hr, hu⟩
    rw [hr, hu]
    clear hr hu r u
    refine x_ifB_ne 19 rfl rfl (fun h13 => ?_) (fun h13 => ?_)
    · exact absurd ⟨h5, h13⟩ hbad
    · refine run_ok 1 (c' := (18, [(0, .ref 0), (1, .int x), (2, .int y)], [.int (-2)], S)) rfl ?_
      exact x_ret (r := some (.int (-2))) rfl rfl trivial ⟨rfl, rfl⟩ rfl

set_option maxHeartbeats 2000000 in
theorem c_waits_ok0 (S : ST) (T : TD) (hT : TR 5 T S) (hto : tok T) (hne : tne T ≤ 8) (k : Nat) (hk : k < tnb T) : EX me_N_waits 6 [.ref 0, .int (nI k), .int (nI 0)] S (fun r u => r = some (.int (whv (waf T k 24).1)) ∧ fr CQ S u) := by
  refine EX.of mok_N_waits (Nat.le_of_ble_eq_true rfl) ?_
  obtain ⟨n8, n9, hbt, het, hht, hlo⟩ := id hto
  obtain ⟨t1, t2, t3, t4, t5, t6, t7, t8, t9, t10, t11⟩ := id hT
  refine run_ok 2 (c' := (2, [(0, .ref 0), (1, .int (nI k)), (2, .int (nI 0))], [.int (nI k), .ref 0], S)) rfl ?_
  refine x_callV [.int (nI k)] rfl cv_N_isBoat.1 lk_6_107 cv_N_isBoat.2.1 cv_N_isBoat.2.2.1 rfl cv_N_isBoat.2.2.2.1 rfl rfl (Nat.le_of_ble_eq_true rfl) (by decide) cv_N_isBoat.2.2.2.2 (c_isBoat S (nI k) (tnb T) t9) ?_
  rintro r u ⟨hr, hu⟩
  rw [hr, hu]
  clear hr hu r u
  refine x_ifB_eq 16 rfl rfl (fun hn => absurd hn (fun z => z (inr_t hk (by omega)))) (fun h5 => ?_)
  refine run_ok 2 (c' := (10, [(0, .ref 0), (1, .int (nI k)), (2, .int (nI 0))], [.int (nI 2), .int (nI 0)], S)) rfl ?_
  refine x_callS [.int (nI 0), .int (nI 2)] rfl cs_N_isBelow.1 lk_6_73 cs_N_isBelow.2.1 rfl rfl (Nat.le_of_ble_eq_true rfl) (by decide) cs_N_isBelow.2.2 (c_isBelow S (nI 0) (nI 2)) ?_
  rintro r u ⟨hr, hu⟩
  rw [hr, hu]
  clear hr hu r u
  refine x_ifB_ne 19 rfl rfl (fun h13 => ?_) (fun hn => absurd (inr_t (by decide) (by decide)) hn)
  refine run_ok 2 (c' := (21, [(0, .ref 0), (1, .int (nI k)), (2, .int (nI 0))], [.int (nI k), .ref 0], S)) rfl ?_
  refine x_callV [.int (nI k)] rfl cv_N_seekWait.1 lk_6_202 cv_N_seekWait.2.1 cv_N_seekWait.2.2.1 rfl cv_N_seekWait.2.2.2.1 rfl rfl (Nat.le_of_ble_eq_true rfl) (by decide) cv_N_seekWait.2.2.2.2 (c_seekWait S T hT hto hne k hk) ?_
  rintro r u ⟨hr, hbu, hfu⟩
  rw [hr]
  clear hr r
  have hb1 := hbu.1
  have hb2 := hbu.2
  refine run_ok 1 (c' := (25, [(0, .ref 0), (1, .int (nI k)), (2, .int (nI 0))], [.int (nI 0)], u)) rfl ?_
  refine x_ifN_ne 38 rfl rfl (by omega) (fun hn => absurd (by decide) hn) (fun h25 => ?_)
  refine run_ok 3 (c' := (35, [(0, .ref 0), (1, .int (nI k)), (2, .int (nI 0))], [.int (u.1 36 0)], u)) rfl ?_
  refine x_top (v' := whv (waf T k 24).1) hb1 ?_
  refine run_ok 1 (c' := (46, [(0, .ref 0), (1, .int (nI k)), (2, .int (nI 0))], [.int (whv (waf T k 24).1)], u)) rfl ?_
  exact x_ret (r := some (.int (whv (waf T k 24).1))) rfl rfl trivial ⟨rfl, hfu⟩ rfl

set_option maxHeartbeats 2000000 in
theorem c_waits_ok1 (S : ST) (T : TD) (hT : TR 5 T S) (hto : tok T) (hne : tne T ≤ 8) (k : Nat) (hk : k < tnb T) : EX me_N_waits 6 [.ref 0, .int (nI k), .int (nI 1)] S (fun r u => r = some (.int (nI (waf T k 24).2)) ∧ fr CQ S u) := by
  refine EX.of mok_N_waits (Nat.le_of_ble_eq_true rfl) ?_
  obtain ⟨n8, n9, hbt, het, hht, hlo⟩ := id hto
  obtain ⟨t1, t2, t3, t4, t5, t6, t7, t8, t9, t10, t11⟩ := id hT
  refine run_ok 2 (c' := (2, [(0, .ref 0), (1, .int (nI k)), (2, .int (nI 1))], [.int (nI k), .ref 0], S)) rfl ?_
  refine x_callV [.int (nI k)] rfl cv_N_isBoat.1 lk_6_107 cv_N_isBoat.2.1 cv_N_isBoat.2.2.1 rfl cv_N_isBoat.2.2.2.1 rfl rfl (Nat.le_of_ble_eq_true rfl) (by decide) cv_N_isBoat.2.2.2.2 (c_isBoat S (nI k) (tnb T) t9) ?_
  rintro r u ⟨hr, hu⟩
  rw [hr, hu]
  clear hr hu r u
  refine x_ifB_eq 16 rfl rfl (fun hn => absurd hn (fun z => z (inr_t hk (by omega)))) (fun h5 => ?_)
  refine run_ok 2 (c' := (10, [(0, .ref 0), (1, .int (nI k)), (2, .int (nI 1))], [.int (nI 2), .int (nI 1)], S)) rfl ?_
  refine x_callS [.int (nI 1), .int (nI 2)] rfl cs_N_isBelow.1 lk_6_73 cs_N_isBelow.2.1 rfl rfl (Nat.le_of_ble_eq_true rfl) (by decide) cs_N_isBelow.2.2 (c_isBelow S (nI 1) (nI 2)) ?_
  rintro r u ⟨hr, hu⟩
  rw [hr, hu]
  clear hr hu r u
  refine x_ifB_ne 19 rfl rfl (fun h13 => ?_) (fun hn => absurd (inr_t (by decide) (by decide)) hn)
  refine run_ok 2 (c' := (21, [(0, .ref 0), (1, .int (nI k)), (2, .int (nI 1))], [.int (nI k), .ref 0], S)) rfl ?_
  refine x_callV [.int (nI k)] rfl cv_N_seekWait.1 lk_6_202 cv_N_seekWait.2.1 cv_N_seekWait.2.2.1 rfl cv_N_seekWait.2.2.2.1 rfl rfl (Nat.le_of_ble_eq_true rfl) (by decide) cv_N_seekWait.2.2.2.2 (c_seekWait S T hT hto hne k hk) ?_
  rintro r u ⟨hr, hbu, hfu⟩
  rw [hr]
  clear hr r
  have hb1 := hbu.1
  have hb2 := hbu.2
  refine run_ok 1 (c' := (25, [(0, .ref 0), (1, .int (nI k)), (2, .int (nI 1))], [.int (nI 1)], u)) rfl ?_
  refine x_ifN_ne 38 rfl rfl (by omega) (fun h25 => ?_) (fun hn => absurd hn (by decide))
  refine run_ok 3 (c' := (45, [(0, .ref 0), (1, .int (nI k)), (2, .int (nI 1))], [.int (u.1 36 1)], u)) rfl ?_
  refine x_top (v' := -(nI (waf T k 24).2)) hb2 ?_
  refine run_ok 1 (c' := (46, [(0, .ref 0), (1, .int (nI k)), (2, .int (nI 1))], [.int (-(-(nI (waf T k 24).2)))], u)) rfl ?_
  refine x_top (v' := nI (waf T k 24).2) (Int32.neg_neg) ?_
  exact x_ret (r := some (.int (nI ((waf T k 24).2)))) rfl rfl trivial ⟨rfl, hfu⟩ rfl
end
section
/-! what is spared; what never was; sorts; hates, by what was seen -/
theorem sh1 {e : Nat} (he : e < 31) : nI 1 <<< (nI e &&& 31) = nI (2 ^ e) := by
  rw [pk_shlN _ e (sl32 e (by omega)) (by rw [Nat.one_mul]; exact Nat.pow_lt_pow_right (by decide) (by omega)), Nat.one_mul]
theorem p9 {e : Nat} (he : e < 9) : 2 ^ e < 512 := Nat.pow_lt_pow_right (by decide) he
def fwl (T : TD) (m : Nat) : Prop := vfw (vo (wlo T m) 24) = 24
theorem wlo_TR {t : Nat} {T : TD} {l m : Nat} {v : ST} (h : TR t (wlo T l) v) (hm : v.1 t 11 = nI m) : TR t (wlo T m) v := by
  obtain ⟨a1, a2, a3, a4, a5, a6, a7, a8, a9, a10, a11⟩ := h
  exact ⟨a1, a2, a3, a4, a5, a6, a7, a8, a9, a10, hm⟩
theorem wlo_self (T : TD) : wlo T (tlo T) = T := rfl
set_option maxHeartbeats 2000000 in
theorem c_isSafe (S : ST) (T : TD) (l m : Nat) (hTl : TR 14 (wlo T l) S) (hto : tok T) (hm : m < 512) : EX me_N_isSafeWithout 5 [.ref 0, .int (nI m)] S (fun r u => r = some (.int (b2 (vfw (vo (wlo T m) 24) = 24))) ∧ TR 14 (wlo T m) u ∧ fr CQ S u) := by
  refine EX.of mok_N_isSafeWithout (Nat.le_of_ble_eq_true rfl) ?_
  refine run_ok 4 (c' := (8, [(0, .ref 0), (1, .int (nI m))], [], (pt S 14 11 (nI m)))) rfl ?_
  have hTm : TR 14 (wlo T m) (pt S 14 11 (nI m)) := ⟨hTl.1, hTl.2.1, hTl.2.2.1, hTl.2.2.2.1, hTl.2.2.2.2.1, hTl.2.2.2.2.2.1, hTl.2.2.2.2.2.2.1, hTl.2.2.2.2.2.2.2.1, hTl.2.2.2.2.2.2.2.2.1, hTl.2.2.2.2.2.2.2.2.2.1, rfl⟩
  refine run_ok 5 (c' := (18, [(0, .ref 0), (1, .int (nI m))], [.int (nI 23), .ref 14, .ref 23], (pt S 14 11 (nI m)))) rfl ?_
  refine x_callV [.ref 14, .int (nI 23)] rfl cv_V_run.1 lk_6_146 cv_V_run.2.1 cv_V_run.2.2.1 rfl cv_V_run.2.2.2.1 rfl rfl (Nat.le_of_ble_eq_true rfl) (by decide) cv_V_run.2.2.2.2 (c_run14 (pt S 14 11 (nI m)) (wlo T m) 23 hTm (tok_wlo hto hm) (by omega)) ?_
  rintro r u ⟨hr, hCu, hfu, h2u⟩
  rw [hr]
  clear hr r
  have g10 := hCu.2.2.2.2.2.2.2.2.1
  refine run_ok 3 (c' := (28, [(0, .ref 0), (1, .int (nI m))], [.int (u.1 23 10)], u)) rfl ?_
  refine x_top (v' := fwv (vfw (vo (wlo T m) 24))) g10 ?_
  refine run_ok 1 (c' := (29, [(0, .ref 0), (1, .int (nI m))], [.int (-1), .int (fwv (vfw (vo (wlo T m) 24)))], u)) rfl ?_
  refine x_icmp_ne 36 rfl rfl (fun h29 => ?_) (fun h29 => ?_)
  · refine run_ok 1 (c' := (37, [(0, .ref 0), (1, .int (nI m))], [.int (nI 0)], u)) rfl ?_
    exact x_ret (r := some (.int (nI 0))) rfl rfl (Or.inl rfl) ⟨congrArg (fun z => some (Value.int z)) (b2_f (fun z => h29 ((fwv_n1 (vk_vo (tok_wlo hto hm) 24 (by omega)).1.2.2.2.1).mpr z))).symm, hTm.keep hfu (by decide), ((fr.rf.pt (by decide)).tr (hfu.sub (by decide)))⟩ rfl
  · refine run_ok 2 (c' := (37, [(0, .ref 0), (1, .int (nI m))], [.int (nI 1)], u)) rfl ?_
    exact x_ret (r := some (.int (nI 1))) rfl rfl (Or.inr rfl) ⟨congrArg (fun z => some (Value.int z)) (b2_t ((fwv_n1 (vk_vo (tok_wlo hto hm) 24 (by omega)).1.2.2.2.1).mp h29)).symm, hTm.keep hfu (by decide), ((fr.rf.pt (by decide)).tr (hfu.sub (by decide)))⟩ rfl

/-- the first event without which, or the first two without which, no boat is sunk -/
def sp1 (T : TD) : Nat → Nat → Option Nat
  | 0, _ => none
  | n + 1, e => if vfw (vo (wlo T (2 ^ e)) 24) = 24 then some e else sp1 T n (e + 1)
def sp2 (T : TD) (e : Nat) : Nat → Nat → Option Nat
  | 0, _ => none
  | n + 1, f => if vfw (vo (wlo T (2 ^ e + 2 ^ f)) 24) = 24 then some f else sp2 T e n (f + 1)
def sp3 (T : TD) : Nat → Nat → Option (Nat × Nat)
  | 0, _ => none
  | n + 1, e => match sp2 T e n (e + 1) with
    | some f => some (e, f)
    | none => sp3 T n (e + 1)
def spb (T : TD) : Option Nat := if vfw (vo (wlo T 0) 24) = 24 then some 0 else match sp1 T (tne T) 0 with
  | some e => some (2 ^ e)
  | none => match sp3 T (tne T) 0 with
    | some q => some (2 ^ q.1 + 2 ^ q.2)
    | none => none
def spv (o : Option Nat) : Int32 := match o with
  | some m => nI m
  | none => (-1)
theorem or2 {e f : Nat} (h : e < f) (hf : f < 31) : nI (2 ^ e) ||| nI (2 ^ f) = nI (2 ^ e + 2 ^ f) := by
  have h1 : 2 ^ e < 2 ^ f := Nat.pow_lt_pow_right (by decide) h
  have := or_bit (a := 2 ^ e) (i := f) h1 (by omega)
  rw [sh1 hf, Nat.one_mul] at this
  exact this
theorem p2le {e f : Nat} (h : e < f) (hf : f < 9) : 2 ^ e + 2 ^ f < 512 := by
  have h1 : 2 ^ e < 2 ^ f := Nat.pow_lt_pow_right (by decide) h
  have h2 : 2 ^ f ≤ 2 ^ 8 := Nat.pow_le_pow_right (by decide) (by omega)
  omega
set_option maxHeartbeats 2000000 in
theorem c_spareBits (S : ST) (T : TD) (hT : TR 5 T S) (hto : tok T) (hne : tne T ≤ 8) : EX me_N_spareBits 6 [.ref 0] S (fun r u => r = some (.int (spv (spb T))) ∧ fr CQ S u) := by
  refine EX.of mok_N_spareBits (Nat.le_of_ble_eq_true rfl) ?_
  obtain ⟨n8, n9, hbt, het, hht, hlo⟩ := id hto
  obtain ⟨t1, t2, t3, t4, t5, t6, t7, t8, t9, t10, t11⟩ := id hT
  have H2 : ∀ i, i ≤ tne T → spb T = (sp3 T (tne T - i) i).map (fun q => 2 ^ q.1 + 2 ^ q.2) → ∀ (v : ST) (l : Nat), TR 14 (wlo T l) v → fr CQ S v → BX me_N_spareBits 6 none (fun r u => r = some (.int (spv (spb T))) ∧ fr CQ S u) (56, [(0, .ref 0), (1, .int (nI i))], [], v) := by
    refine loop_up (P := fun i => spb T = (sp3 T (tne T - i) i).map (fun q => 2 ^ q.1 + 2 ^ q.2) → ∀ (v : ST) (l : Nat), TR 14 (wlo T l) v → fr CQ S v → BX me_N_spareBits 6 none (fun r u => r = some (.int (spv (spb T))) ∧ fr CQ S u) (56, [(0, .ref 0), (1, .int (nI i))], [], v)) (tne T) ?_ ?_
    · intro hs v l hTv hfv
      have t10v : v.1 5 10 = nI (tne T) := by rw [hfv 5 (by decide)]; exact t10
      refine run_ok 4 (c' := (64, [(0, .ref 0), (1, .int (nI (tne T)))], [.int (v.1 5 10), .int (nI (tne T))], v)) rfl ?_
      refine x_top (v' := nI (tne T)) t10v ?_
      refine x_icmpN_ge 116 rfl rfl (by omega) (by omega) (fun h64 => ?_) (fun hn => absurd (Nat.le_refl _) hn)
      refine run_ok 1 (c' := (117, [(0, .ref 0), (1, .int (nI (tne T)))], [.int (-1)], v)) rfl ?_
      exact x_ret (r := some (.int (-1))) rfl rfl trivial ⟨by rw [hs, Nat.sub_self]; rfl, hfv⟩ rfl
    · intro i hi ih hs v l hTv hfv
      have t10v : v.1 5 10 = nI (tne T) := by rw [hfv 5 (by decide)]; exact t10
      have H3 : ∀ j, j ≤ tne T → i < j → spb T = ((sp2 T i (tne T - j) j).map (fun f => 2 ^ i + 2 ^ f)).or ((sp3 T (tne T - (i + 1)) (i + 1)).map (fun q => 2 ^ q.1 + 2 ^ q.2)) → ∀ (v : ST) (l : Nat), TR 14 (wlo T l) v → fr CQ S v → BX me_N_spareBits 6 none (fun r u => r = some (.int (spv (spb T))) ∧ fr CQ S u) (71, [(0, .ref 0), (1, .int (nI i)), (2, .int (nI j))], [], v) := by
        refine loop_up (P := fun j => i < j → spb T = ((sp2 T i (tne T - j) j).map (fun f => 2 ^ i + 2 ^ f)).or ((sp3 T (tne T - (i + 1)) (i + 1)).map (fun q => 2 ^ q.1 + 2 ^ q.2)) → ∀ (v : ST) (l : Nat), TR 14 (wlo T l) v → fr CQ S v → BX me_N_spareBits 6 none (fun r u => r = some (.int (spv (spb T))) ∧ fr CQ S u) (71, [(0, .ref 0), (1, .int (nI i)), (2, .int (nI j))], [], v)) (tne T) ?_ ?_
        · intro hij hs2 v l hTv hfv
          have t10v : v.1 5 10 = nI (tne T) := by rw [hfv 5 (by decide)]; exact t10
          refine run_ok 4 (c' := (79, [(0, .ref 0), (1, .int (nI i)), (2, .int (nI (tne T)))], [.int (v.1 5 10), .int (nI (tne T))], v)) rfl ?_
          refine x_top (v' := nI (tne T)) t10v ?_
          refine x_icmpN_ge 110 rfl rfl (by omega) (by omega) (fun h79 => ?_) (fun hn => absurd (Nat.le_refl _) hn)
          refine run_ok 1 (c' := (113, [(0, .ref 0), (1, .int (nI i + nI 1)), (2, .int (nI (tne T)))], [], v)) rfl ?_
          rw [nI_add i 1]
          refine run_ok 1 (c' := (56, [(0, .ref 0), (1, .int (nI (i + 1))), (2, .int (nI (tne T)))], [], v)) rfl ?_
          refine x_less [0, 1] rfl ?_
          exact ih (by rw [hs2, Nat.sub_self]; rfl) v l hTv hfv
        · intro j hj ihj hij hs2 v l hTv hfv
          have t10v : v.1 5 10 = nI (tne T) := by rw [hfv 5 (by decide)]; exact t10
          refine run_ok 4 (c' := (79, [(0, .ref 0), (1, .int (nI i)), (2, .int (nI j))], [.int (v.1 5 10), .int (nI j)], v)) rfl ?_
          refine x_top (v' := nI (tne T)) t10v ?_
          refine x_icmpN_ge 110 rfl rfl (by omega) (by omega) (fun hn => absurd hn (show ¬ tne T ≤ j by omega)) (fun h79 => ?_)
          refine run_ok 4 (c' := (86, [(0, .ref 0), (1, .int (nI i)), (2, .int (nI j))], [.int ((nI 1) <<< ((nI i) &&& 31)), .ref 0], v)) rfl ?_
          refine x_top (v' := nI (2 ^ i)) (sh1 (by omega)) ?_
          refine run_ok 3 (c' := (89, [(0, .ref 0), (1, .int (nI i)), (2, .int (nI j))], [.int ((nI 1) <<< ((nI j) &&& 31)), .int (nI (2 ^ i)), .ref 0], v)) rfl ?_
          refine x_top (v' := nI (2 ^ j)) (sh1 (by omega)) ?_
          refine run_ok 1 (c' := (90, [(0, .ref 0), (1, .int (nI i)), (2, .int (nI j))], [.int ((nI (2 ^ i)) ||| (nI (2 ^ j))), .ref 0], v)) rfl ?_
          refine x_top (v' := nI (2 ^ i + 2 ^ j)) (or2 (by omega) (by omega)) ?_
          refine x_callV [.int (nI (2 ^ i + 2 ^ j))] rfl cv_N_isSafeWithout.1 lk_6_359 cv_N_isSafeWithout.2.1 cv_N_isSafeWithout.2.2.1 rfl cv_N_isSafeWithout.2.2.2.1 rfl rfl (Nat.le_of_ble_eq_true rfl) (by decide) cv_N_isSafeWithout.2.2.2.2 (c_isSafe v T l (2 ^ i + 2 ^ j) hTv hto (p2le (by omega) (by omega))) ?_
          rintro r z ⟨hr, hTz, hfz⟩
          rw [hr]
          clear hr r
          refine x_ifB_eq 104 rfl rfl (fun h93 => ?_) (fun h93 => ?_)
          · refine run_ok 1 (c' := (107, [(0, .ref 0), (1, .int (nI i)), (2, .int (nI j + nI 1))], [], z)) rfl ?_
            rw [nI_add j 1]
            refine run_ok 1 (c' := (71, [(0, .ref 0), (1, .int (nI i)), (2, .int (nI (j + 1)))], [], z)) rfl ?_
            refine ihj (by omega) ?_ z _ hTz (hfv.tr hfz)
            rw [hs2, show tne T - j = (tne T - (j + 1)) + 1 by omega]
            rw [show sp2 T i (tne T - (j + 1) + 1) j = sp2 T i (tne T - (j + 1)) (j + 1) from if_neg h93]
          · refine run_ok 3 (c' := (99, [(0, .ref 0), (1, .int (nI i)), (2, .int (nI j))], [.int ((nI 1) <<< ((nI i) &&& 31))], z)) rfl ?_
            refine x_top (v' := nI (2 ^ i)) (sh1 (by omega)) ?_
            refine run_ok 3 (c' := (102, [(0, .ref 0), (1, .int (nI i)), (2, .int (nI j))], [.int ((nI 1) <<< ((nI j) &&& 31)), .int (nI (2 ^ i))], z)) rfl ?_
            refine x_top (v' := nI (2 ^ j)) (sh1 (by omega)) ?_
            refine run_ok 1 (c' := (103, [(0, .ref 0), (1, .int (nI i)), (2, .int (nI j))], [.int ((nI (2 ^ i)) ||| (nI (2 ^ j)))], z)) rfl ?_
            refine x_top (v' := nI (2 ^ i + 2 ^ j)) (or2 (by omega) (by omega)) ?_
            exact x_ret (r := some (.int (nI (2 ^ i + 2 ^ j)))) rfl rfl trivial ⟨by rw [hs2, show tne T - j = (tne T - (j + 1)) + 1 by omega, show sp2 T i (tne T - (j + 1) + 1) j = some j from if_pos h93]; rfl, hfv.tr hfz⟩ rfl
      refine run_ok 4 (c' := (64, [(0, .ref 0), (1, .int (nI i))], [.int (v.1 5 10), .int (nI i)], v)) rfl ?_
      refine x_top (v' := nI (tne T)) t10v ?_
      refine x_icmpN_ge 116 rfl rfl (by omega) (by omega) (fun hn => absurd hn (show ¬ tne T ≤ i by omega)) (fun h64 => ?_)
      refine run_ok 3 (c' := (70, [(0, .ref 0), (1, .int (nI i))], [.int ((nI i) + (nI 1))], v)) rfl ?_
      refine x_top (v' := nI (i + 1)) (nI_add _ _) ?_
      refine run_ok 1 (c' := (71, [(0, .ref 0), (1, .int (nI i)), (2, .int (nI (i + 1)))], [], v)) rfl ?_
      refine H3 (i + 1) (by omega) (by omega) ?_ v l hTv hfv
      rw [hs, show tne T - i = (tne T - (i + 1)) + 1 by omega]
      show Option.map _ (match sp2 T i (tne T - (i + 1)) (i + 1) with
        | some f => some (i, f)
        | none => sp3 T (tne T - (i + 1)) (i + 1)) = _
      cases sp2 T i (tne T - (i + 1)) (i + 1) <;> rfl
  have H1 : ∀ i, i ≤ tne T → spb T = ((sp1 T (tne T - i) i).map (fun e => 2 ^ e)).or ((sp3 T (tne T) 0).map (fun q => 2 ^ q.1 + 2 ^ q.2)) → ∀ (v : ST) (l : Nat), TR 14 (wlo T l) v → fr CQ S v → BX me_N_spareBits 6 none (fun r u => r = some (.int (spv (spb T))) ∧ fr CQ S u) (23, [(0, .ref 0), (1, .int (nI i))], [], v) := by
    refine loop_up (P := fun i => spb T = ((sp1 T (tne T - i) i).map (fun e => 2 ^ e)).or ((sp3 T (tne T) 0).map (fun q => 2 ^ q.1 + 2 ^ q.2)) → ∀ (v : ST) (l : Nat), TR 14 (wlo T l) v → fr CQ S v → BX me_N_spareBits 6 none (fun r u => r = some (.int (spv (spb T))) ∧ fr CQ S u) (23, [(0, .ref 0), (1, .int (nI i))], [], v)) (tne T) ?_ ?_
    · intro hs v l hTv hfv
      have t10v : v.1 5 10 = nI (tne T) := by rw [hfv 5 (by decide)]; exact t10
      refine run_ok 4 (c' := (31, [(0, .ref 0), (1, .int (nI (tne T)))], [.int (v.1 5 10), .int (nI (tne T))], v)) rfl ?_
      refine x_top (v' := nI (tne T)) t10v ?_
      refine x_icmpN_ge 54 rfl rfl (by omega) (by omega) (fun h31 => ?_) (fun hn => absurd (Nat.le_refl _) hn)
      refine run_ok 2 (c' := (56, [(0, .ref 0), (1, .int (nI 0))], [], v)) rfl ?_
      exact H2 0 (by omega) (by rw [hs, Nat.sub_self]; rfl) v l hTv hfv
    · intro i hi ih hs v l hTv hfv
      have t10v : v.1 5 10 = nI (tne T) := by rw [hfv 5 (by decide)]; exact t10
      refine run_ok 4 (c' := (31, [(0, .ref 0), (1, .int (nI i))], [.int (v.1 5 10), .int (nI i)], v)) rfl ?_
      refine x_top (v' := nI (tne T)) t10v ?_
      refine x_icmpN_ge 54 rfl rfl (by omega) (by omega) (fun hn => absurd hn (show ¬ tne T ≤ i by omega)) (fun h31 => ?_)
      refine run_ok 4 (c' := (38, [(0, .ref 0), (1, .int (nI i))], [.int ((nI 1) <<< ((nI i) &&& 31)), .ref 0], v)) rfl ?_
      refine x_top (v' := nI (2 ^ i)) (sh1 (by omega)) ?_
      refine x_callV [.int (nI (2 ^ i))] rfl cv_N_isSafeWithout.1 lk_6_359 cv_N_isSafeWithout.2.1 cv_N_isSafeWithout.2.2.1 rfl cv_N_isSafeWithout.2.2.2.1 rfl rfl (Nat.le_of_ble_eq_true rfl) (by decide) cv_N_isSafeWithout.2.2.2.2 (c_isSafe v T l (2 ^ i) hTv hto (p9 (by omega))) ?_
      rintro r z ⟨hr, hTz, hfz⟩
      rw [hr]
      clear hr r
      refine x_ifB_eq 48 rfl rfl (fun h41 => ?_) (fun h41 => ?_)
      · refine run_ok 1 (c' := (51, [(0, .ref 0), (1, .int (nI i + nI 1))], [], z)) rfl ?_
        rw [nI_add i 1]
        refine run_ok 1 (c' := (23, [(0, .ref 0), (1, .int (nI (i + 1)))], [], z)) rfl ?_
        refine ih ?_ z _ hTz (hfv.tr hfz)
        rw [hs, show tne T - i = (tne T - (i + 1)) + 1 by omega]
        rw [show sp1 T (tne T - (i + 1) + 1) i = sp1 T (tne T - (i + 1)) (i + 1) from if_neg h41]
      · refine run_ok 3 (c' := (47, [(0, .ref 0), (1, .int (nI i))], [.int ((nI 1) <<< ((nI i) &&& 31))], z)) rfl ?_
        refine x_top (v' := nI (2 ^ i)) (sh1 (by omega)) ?_
        exact x_ret (r := some (.int (nI (2 ^ i)))) rfl rfl trivial ⟨by rw [hs, show tne T - i = (tne T - (i + 1)) + 1 by omega, show sp1 T (tne T - (i + 1) + 1) i = some i from if_pos h41]; rfl, hfv.tr hfz⟩ rfl
  refine run_ok 4 (c' := (8, [(0, .ref 0)], [.ref 5, .ref 14], S)) rfl ?_
  refine x_callV [.ref 5] rfl cv_T_become.1 lk_6_220 cv_T_become.2.1 cv_T_become.2.2.1 rfl cv_T_become.2.2.2.1 rfl rfl (Nat.le_of_ble_eq_true rfl) (by decide) cv_T_become.2.2.2.2 (c_become S T hT hto hne) ?_
  rintro r v1 ⟨hr, hTb, hfb, h2b⟩
  rw [hr]
  clear hr r
  refine run_ok 2 (c' := (13, [(0, .ref 0)], [.int (nI 0), .ref 0], v1)) rfl ?_
  refine x_callV [.int (nI 0)] rfl cv_N_isSafeWithout.1 lk_6_359 cv_N_isSafeWithout.2.1 cv_N_isSafeWithout.2.2.1 rfl cv_N_isSafeWithout.2.2.2.1 rfl rfl (Nat.le_of_ble_eq_true rfl) (by decide) cv_N_isSafeWithout.2.2.2.2 (c_isSafe v1 T (tlo T) 0 hTb hto (by decide)) ?_
  rintro r z ⟨hr, hTz, hfz⟩
  rw [hr]
  clear hr r
  refine x_ifB_eq 21 rfl rfl (fun h16 => ?_) (fun h16 => ?_)
  · refine run_ok 2 (c' := (23, [(0, .ref 0), (1, .int (nI 0))], [], z)) rfl ?_
    refine H1 0 (by omega) ?_ z _ hTz ((hfb.sub (by decide)).tr hfz)
    unfold spb
    rw [if_neg h16, Nat.sub_zero]
    cases sp1 T (tne T) 0 <;> cases sp3 T (tne T) 0 <;> rfl
  · refine run_ok 1 (c' := (20, [(0, .ref 0)], [.int (nI 0)], z)) rfl ?_
    exact x_ret (r := some (.int (nI 0))) rfl rfl trivial ⟨by unfold spb; rw [if_pos h16]; rfl, (hfb.sub (by decide)).tr hfz⟩ rfl

set_option maxHeartbeats 2000000 in
theorem c_outSo (S : ST) (T : TD) (hT : TR 14 T S) (hto : tok T) (G : SD) (hg : SR G S) (hgo : sok G) : EX me_N_trialComesOutSo 5 [.ref 0] S (fun r u => r = some (.int (b2 (fitb T (vo T 24) G G.1 = true))) ∧ TR 14 T u ∧ CR 14 T (vo T 24) (lsn T 24) u ∧ fr VL S u) := by
  refine EX.of mok_N_trialComesOutSo (Nat.le_of_ble_eq_true rfl) ?_
  refine run_ok 5 (c' := (10, [(0, .ref 0)], [.int (nI 23), .ref 14, .ref 23], S)) rfl ?_
  refine x_callV [.ref 14, .int (nI 23)] rfl cv_V_run.1 lk_6_146 cv_V_run.2.1 cv_V_run.2.2.1 rfl cv_V_run.2.2.2.1 rfl rfl (Nat.le_of_ble_eq_true rfl) (by decide) cv_V_run.2.2.2.2 (c_run14 S T 23 hT hto (by omega)) ?_
  rintro r u ⟨hr, hCu, hfu, h2u⟩
  rw [hr]
  clear hr r
  have h29 := hCu.2.2.2.2.2.1
  refine run_ok 4 (c' := (21, [(0, .ref 0)], [.ref 23, .ref 32], u)) rfl ?_
  refine x_callV [.ref 23] rfl cv_G_fit.1 lk_6_362 cv_G_fit.2.1 cv_G_fit.2.2.1 rfl cv_G_fit.2.2.2.1 rfl rfl (Nat.le_of_ble_eq_true rfl) (by decide) cv_G_fit.2.2.2.2 (c_fit u T (vo T 24) _ (hT.keep hfu (by decide)) hto hCu (vk_vo hto 24 (by omega)).1 G (hg.keep hfu (by decide)) hgo) ?_
  rintro r x ⟨hr, hu⟩
  rw [hr, hu]
  clear hr hu r x
  exact x_ret (r := some (.int (b2 (fitb T (vo T 24) G G.1 = true)))) rfl rfl (b2_01 _) ⟨rfl, hT.keep hfu (by decide), hCu, hfu⟩ rfl
end
section
/-! spare, never, sort, hated, ask of the class -/
theorem x_icmpB_ne {M : MI} {D : Nat} {sc : Option (Nat × (Nat → Int32))} {Q : Option Value → ST → Prop} {pc : Nat} {lv : List (Nat × Value)} {st : List Value} {S : ST} {p : Prop} [Decidable p] {off : Int} (tgt : Nat) (hf : fet M pc = some (.if_icmp .ne off)) (ht : (pc : Int) + off = (tgt : Int)) (kt : ¬ p → BX M D sc Q (tgt, lv, st, S)) (kf : p → BX M D sc Q (pc + 3, lv, st, S)) : BX M D sc Q (pc, lv, .int (nI 1) :: .int (b2 p) :: st, S) :=
  x_icmp_ne tgt hf ht (fun q => kt (fun z => q (b2_t z))) (fun q => kf ((b2_1 p).mp q))
theorem x_icmpB_eq {M : MI} {D : Nat} {sc : Option (Nat × (Nat → Int32))} {Q : Option Value → ST → Prop} {pc : Nat} {lv : List (Nat × Value)} {st : List Value} {S : ST} {p : Prop} [Decidable p] {off : Int} (tgt : Nat) (hf : fet M pc = some (.if_icmp .eq off)) (ht : (pc : Int) + off = (tgt : Int)) (kt : p → BX M D sc Q (tgt, lv, st, S)) (kf : ¬ p → BX M D sc Q (pc + 3, lv, st, S)) : BX M D sc Q (pc, lv, .int (nI 1) :: .int (b2 p) :: st, S) :=
  x_icmp_eq tgt hf ht (fun q => kt ((b2_1 p).mp q)) (fun q => kf (fun z => q (b2_t z)))
def bcF (x : Int32) : Int32 := (((((((x - (((x.toUInt32 >>> ((nI 1).toUInt32 &&& Int32.toUInt32 31)).toInt32) &&& (nI 1431655765))) &&& (nI 858993459)) + ((((x - (((x.toUInt32 >>> ((nI 1).toUInt32 &&& Int32.toUInt32 31)).toInt32) &&& (nI 1431655765))).toUInt32 >>> ((nI 2).toUInt32 &&& Int32.toUInt32 31)).toInt32) &&& (nI 858993459))) + (((((x - (((x.toUInt32 >>> ((nI 1).toUInt32 &&& Int32.toUInt32 31)).toInt32) &&& (nI 1431655765))) &&& (nI 858993459)) + ((((x - (((x.toUInt32 >>> ((nI 1).toUInt32 &&& Int32.toUInt32 31)).toInt32) &&& (nI 1431655765))).toUInt32 >>> ((nI 2).toUInt32 &&& Int32.toUInt32 31)).toInt32) &&& (nI 858993459))).toUInt32 >>> ((nI 4).toUInt32 &&& Int32.toUInt32 31)).toInt32)) &&& (nI 252645135)) + (((((((x - (((x.toUInt32 >>> ((nI 1).toUInt32 &&& Int32.toUInt32 31)).toInt32) &&& (nI 1431655765))) &&& (nI 858993459)) + ((((x - (((x.toUInt32 >>> ((nI 1).toUInt32 &&& Int32.toUInt32 31)).toInt32) &&& (nI 1431655765))).toUInt32 >>> ((nI 2).toUInt32 &&& Int32.toUInt32 31)).toInt32) &&& (nI 858993459))) + (((((x - (((x.toUInt32 >>> ((nI 1).toUInt32 &&& Int32.toUInt32 31)).toInt32) &&& (nI 1431655765))) &&& (nI 858993459)) + ((((x - (((x.toUInt32 >>> ((nI 1).toUInt32 &&& Int32.toUInt32 31)).toInt32) &&& (nI 1431655765))).toUInt32 >>> ((nI 2).toUInt32 &&& Int32.toUInt32 31)).toInt32) &&& (nI 858993459))).toUInt32 >>> ((nI 4).toUInt32 &&& Int32.toUInt32 31)).toInt32)) &&& (nI 252645135)).toUInt32 >>> ((nI 8).toUInt32 &&& Int32.toUInt32 31)).toInt32)) + ((((((((x - (((x.toUInt32 >>> ((nI 1).toUInt32 &&& Int32.toUInt32 31)).toInt32) &&& (nI 1431655765))) &&& (nI 858993459)) + ((((x - (((x.toUInt32 >>> ((nI 1).toUInt32 &&& Int32.toUInt32 31)).toInt32) &&& (nI 1431655765))).toUInt32 >>> ((nI 2).toUInt32 &&& Int32.toUInt32 31)).toInt32) &&& (nI 858993459))) + (((((x - (((x.toUInt32 >>> ((nI 1).toUInt32 &&& Int32.toUInt32 31)).toInt32) &&& (nI 1431655765))) &&& (nI 858993459)) + ((((x - (((x.toUInt32 >>> ((nI 1).toUInt32 &&& Int32.toUInt32 31)).toInt32) &&& (nI 1431655765))).toUInt32 >>> ((nI 2).toUInt32 &&& Int32.toUInt32 31)).toInt32) &&& (nI 858993459))).toUInt32 >>> ((nI 4).toUInt32 &&& Int32.toUInt32 31)).toInt32)) &&& (nI 252645135)) + (((((((x - (((x.toUInt32 >>> ((nI 1).toUInt32 &&& Int32.toUInt32 31)).toInt32) &&& (nI 1431655765))) &&& (nI 858993459)) + ((((x - (((x.toUInt32 >>> ((nI 1).toUInt32 &&& Int32.toUInt32 31)).toInt32) &&& (nI 1431655765))).toUInt32 >>> ((nI 2).toUInt32 &&& Int32.toUInt32 31)).toInt32) &&& (nI 858993459))) + (((((x - (((x.toUInt32 >>> ((nI 1).toUInt32 &&& Int32.toUInt32 31)).toInt32) &&& (nI 1431655765))) &&& (nI 858993459)) + ((((x - (((x.toUInt32 >>> ((nI 1).toUInt32 &&& Int32.toUInt32 31)).toInt32) &&& (nI 1431655765))).toUInt32 >>> ((nI 2).toUInt32 &&& Int32.toUInt32 31)).toInt32) &&& (nI 858993459))).toUInt32 >>> ((nI 4).toUInt32 &&& Int32.toUInt32 31)).toInt32)) &&& (nI 252645135)).toUInt32 >>> ((nI 8).toUInt32 &&& Int32.toUInt32 31)).toInt32)).toUInt32 >>> ((nI 16).toUInt32 &&& Int32.toUInt32 31)).toInt32)) &&& (nI 63)
theorem c_bitCount (S : ST) (x : Int32) : EX me_J_bitCount 0 [.int x] S (fun r u => r = some (.int (bcF x)) ∧ u = S) := by
  refine EX.of mok_J_bitCount (Nat.le_of_ble_eq_true rfl) ?_
  refine run_ok 41 (c' := (52, [(0, .int (((((((x - (((x.toUInt32 >>> ((nI 1).toUInt32 &&& Int32.toUInt32 31)).toInt32) &&& (nI 1431655765))) &&& (nI 858993459)) + ((((x - (((x.toUInt32 >>> ((nI 1).toUInt32 &&& Int32.toUInt32 31)).toInt32) &&& (nI 1431655765))).toUInt32 >>> ((nI 2).toUInt32 &&& Int32.toUInt32 31)).toInt32) &&& (nI 858993459))) + (((((x - (((x.toUInt32 >>> ((nI 1).toUInt32 &&& Int32.toUInt32 31)).toInt32) &&& (nI 1431655765))) &&& (nI 858993459)) + ((((x - (((x.toUInt32 >>> ((nI 1).toUInt32 &&& Int32.toUInt32 31)).toInt32) &&& (nI 1431655765))).toUInt32 >>> ((nI 2).toUInt32 &&& Int32.toUInt32 31)).toInt32) &&& (nI 858993459))).toUInt32 >>> ((nI 4).toUInt32 &&& Int32.toUInt32 31)).toInt32)) &&& (nI 252645135)) + (((((((x - (((x.toUInt32 >>> ((nI 1).toUInt32 &&& Int32.toUInt32 31)).toInt32) &&& (nI 1431655765))) &&& (nI 858993459)) + ((((x - (((x.toUInt32 >>> ((nI 1).toUInt32 &&& Int32.toUInt32 31)).toInt32) &&& (nI 1431655765))).toUInt32 >>> ((nI 2).toUInt32 &&& Int32.toUInt32 31)).toInt32) &&& (nI 858993459))) + (((((x - (((x.toUInt32 >>> ((nI 1).toUInt32 &&& Int32.toUInt32 31)).toInt32) &&& (nI 1431655765))) &&& (nI 858993459)) + ((((x - (((x.toUInt32 >>> ((nI 1).toUInt32 &&& Int32.toUInt32 31)).toInt32) &&& (nI 1431655765))).toUInt32 >>> ((nI 2).toUInt32 &&& Int32.toUInt32 31)).toInt32) &&& (nI 858993459))).toUInt32 >>> ((nI 4).toUInt32 &&& Int32.toUInt32 31)).toInt32)) &&& (nI 252645135)).toUInt32 >>> ((nI 8).toUInt32 &&& Int32.toUInt32 31)).toInt32)) + ((((((((x - (((x.toUInt32 >>> ((nI 1).toUInt32 &&& Int32.toUInt32 31)).toInt32) &&& (nI 1431655765))) &&& (nI 858993459)) + ((((x - (((x.toUInt32 >>> ((nI 1).toUInt32 &&& Int32.toUInt32 31)).toInt32) &&& (nI 1431655765))).toUInt32 >>> ((nI 2).toUInt32 &&& Int32.toUInt32 31)).toInt32) &&& (nI 858993459))) + (((((x - (((x.toUInt32 >>> ((nI 1).toUInt32 &&& Int32.toUInt32 31)).toInt32) &&& (nI 1431655765))) &&& (nI 858993459)) + ((((x - (((x.toUInt32 >>> ((nI 1).toUInt32 &&& Int32.toUInt32 31)).toInt32) &&& (nI 1431655765))).toUInt32 >>> ((nI 2).toUInt32 &&& Int32.toUInt32 31)).toInt32) &&& (nI 858993459))).toUInt32 >>> ((nI 4).toUInt32 &&& Int32.toUInt32 31)).toInt32)) &&& (nI 252645135)) + (((((((x - (((x.toUInt32 >>> ((nI 1).toUInt32 &&& Int32.toUInt32 31)).toInt32) &&& (nI 1431655765))) &&& (nI 858993459)) + ((((x - (((x.toUInt32 >>> ((nI 1).toUInt32 &&& Int32.toUInt32 31)).toInt32) &&& (nI 1431655765))).toUInt32 >>> ((nI 2).toUInt32 &&& Int32.toUInt32 31)).toInt32) &&& (nI 858993459))) + (((((x - (((x.toUInt32 >>> ((nI 1).toUInt32 &&& Int32.toUInt32 31)).toInt32) &&& (nI 1431655765))) &&& (nI 858993459)) + ((((x - (((x.toUInt32 >>> ((nI 1).toUInt32 &&& Int32.toUInt32 31)).toInt32) &&& (nI 1431655765))).toUInt32 >>> ((nI 2).toUInt32 &&& Int32.toUInt32 31)).toInt32) &&& (nI 858993459))).toUInt32 >>> ((nI 4).toUInt32 &&& Int32.toUInt32 31)).toInt32)) &&& (nI 252645135)).toUInt32 >>> ((nI 8).toUInt32 &&& Int32.toUInt32 31)).toInt32)).toUInt32 >>> ((nI 16).toUInt32 &&& Int32.toUInt32 31)).toInt32)))], [.int ((((((((x - (((x.toUInt32 >>> ((nI 1).toUInt32 &&& Int32.toUInt32 31)).toInt32) &&& (nI 1431655765))) &&& (nI 858993459)) + ((((x - (((x.toUInt32 >>> ((nI 1).toUInt32 &&& Int32.toUInt32 31)).toInt32) &&& (nI 1431655765))).toUInt32 >>> ((nI 2).toUInt32 &&& Int32.toUInt32 31)).toInt32) &&& (nI 858993459))) + (((((x - (((x.toUInt32 >>> ((nI 1).toUInt32 &&& Int32.toUInt32 31)).toInt32) &&& (nI 1431655765))) &&& (nI 858993459)) + ((((x - (((x.toUInt32 >>> ((nI 1).toUInt32 &&& Int32.toUInt32 31)).toInt32) &&& (nI 1431655765))).toUInt32 >>> ((nI 2).toUInt32 &&& Int32.toUInt32 31)).toInt32) &&& (nI 858993459))).toUInt32 >>> ((nI 4).toUInt32 &&& Int32.toUInt32 31)).toInt32)) &&& (nI 252645135)) + (((((((x - (((x.toUInt32 >>> ((nI 1).toUInt32 &&& Int32.toUInt32 31)).toInt32) &&& (nI 1431655765))) &&& (nI 858993459)) + ((((x - (((x.toUInt32 >>> ((nI 1).toUInt32 &&& Int32.toUInt32 31)).toInt32) &&& (nI 1431655765))).toUInt32 >>> ((nI 2).toUInt32 &&& Int32.toUInt32 31)).toInt32) &&& (nI 858993459))) + (((((x - (((x.toUInt32 >>> ((nI 1).toUInt32 &&& Int32.toUInt32 31)).toInt32) &&& (nI 1431655765))) &&& (nI 858993459)) + ((((x - (((x.toUInt32 >>> ((nI 1).toUInt32 &&& Int32.toUInt32 31)).toInt32) &&& (nI 1431655765))).toUInt32 >>> ((nI 2).toUInt32 &&& Int32.toUInt32 31)).toInt32) &&& (nI 858993459))).toUInt32 >>> ((nI 4).toUInt32 &&& Int32.toUInt32 31)).toInt32)) &&& (nI 252645135)).toUInt32 >>> ((nI 8).toUInt32 &&& Int32.toUInt32 31)).toInt32)) + ((((((((x - (((x.toUInt32 >>> ((nI 1).toUInt32 &&& Int32.toUInt32 31)).toInt32) &&& (nI 1431655765))) &&& (nI 858993459)) + ((((x - (((x.toUInt32 >>> ((nI 1).toUInt32 &&& Int32.toUInt32 31)).toInt32) &&& (nI 1431655765))).toUInt32 >>> ((nI 2).toUInt32 &&& Int32.toUInt32 31)).toInt32) &&& (nI 858993459))) + (((((x - (((x.toUInt32 >>> ((nI 1).toUInt32 &&& Int32.toUInt32 31)).toInt32) &&& (nI 1431655765))) &&& (nI 858993459)) + ((((x - (((x.toUInt32 >>> ((nI 1).toUInt32 &&& Int32.toUInt32 31)).toInt32) &&& (nI 1431655765))).toUInt32 >>> ((nI 2).toUInt32 &&& Int32.toUInt32 31)).toInt32) &&& (nI 858993459))).toUInt32 >>> ((nI 4).toUInt32 &&& Int32.toUInt32 31)).toInt32)) &&& (nI 252645135)) + (((((((x - (((x.toUInt32 >>> ((nI 1).toUInt32 &&& Int32.toUInt32 31)).toInt32) &&& (nI 1431655765))) &&& (nI 858993459)) + ((((x - (((x.toUInt32 >>> ((nI 1).toUInt32 &&& Int32.toUInt32 31)).toInt32) &&& (nI 1431655765))).toUInt32 >>> ((nI 2).toUInt32 &&& Int32.toUInt32 31)).toInt32) &&& (nI 858993459))) + (((((x - (((x.toUInt32 >>> ((nI 1).toUInt32 &&& Int32.toUInt32 31)).toInt32) &&& (nI 1431655765))) &&& (nI 858993459)) + ((((x - (((x.toUInt32 >>> ((nI 1).toUInt32 &&& Int32.toUInt32 31)).toInt32) &&& (nI 1431655765))).toUInt32 >>> ((nI 2).toUInt32 &&& Int32.toUInt32 31)).toInt32) &&& (nI 858993459))).toUInt32 >>> ((nI 4).toUInt32 &&& Int32.toUInt32 31)).toInt32)) &&& (nI 252645135)).toUInt32 >>> ((nI 8).toUInt32 &&& Int32.toUInt32 31)).toInt32)).toUInt32 >>> ((nI 16).toUInt32 &&& Int32.toUInt32 31)).toInt32)) &&& (nI 63))], S)) rfl ?_
  exact x_ret (r := some (.int ((((((((x - (((x.toUInt32 >>> ((nI 1).toUInt32 &&& Int32.toUInt32 31)).toInt32) &&& (nI 1431655765))) &&& (nI 858993459)) + ((((x - (((x.toUInt32 >>> ((nI 1).toUInt32 &&& Int32.toUInt32 31)).toInt32) &&& (nI 1431655765))).toUInt32 >>> ((nI 2).toUInt32 &&& Int32.toUInt32 31)).toInt32) &&& (nI 858993459))) + (((((x - (((x.toUInt32 >>> ((nI 1).toUInt32 &&& Int32.toUInt32 31)).toInt32) &&& (nI 1431655765))) &&& (nI 858993459)) + ((((x - (((x.toUInt32 >>> ((nI 1).toUInt32 &&& Int32.toUInt32 31)).toInt32) &&& (nI 1431655765))).toUInt32 >>> ((nI 2).toUInt32 &&& Int32.toUInt32 31)).toInt32) &&& (nI 858993459))).toUInt32 >>> ((nI 4).toUInt32 &&& Int32.toUInt32 31)).toInt32)) &&& (nI 252645135)) + (((((((x - (((x.toUInt32 >>> ((nI 1).toUInt32 &&& Int32.toUInt32 31)).toInt32) &&& (nI 1431655765))) &&& (nI 858993459)) + ((((x - (((x.toUInt32 >>> ((nI 1).toUInt32 &&& Int32.toUInt32 31)).toInt32) &&& (nI 1431655765))).toUInt32 >>> ((nI 2).toUInt32 &&& Int32.toUInt32 31)).toInt32) &&& (nI 858993459))) + (((((x - (((x.toUInt32 >>> ((nI 1).toUInt32 &&& Int32.toUInt32 31)).toInt32) &&& (nI 1431655765))) &&& (nI 858993459)) + ((((x - (((x.toUInt32 >>> ((nI 1).toUInt32 &&& Int32.toUInt32 31)).toInt32) &&& (nI 1431655765))).toUInt32 >>> ((nI 2).toUInt32 &&& Int32.toUInt32 31)).toInt32) &&& (nI 858993459))).toUInt32 >>> ((nI 4).toUInt32 &&& Int32.toUInt32 31)).toInt32)) &&& (nI 252645135)).toUInt32 >>> ((nI 8).toUInt32 &&& Int32.toUInt32 31)).toInt32)) + ((((((((x - (((x.toUInt32 >>> ((nI 1).toUInt32 &&& Int32.toUInt32 31)).toInt32) &&& (nI 1431655765))) &&& (nI 858993459)) + ((((x - (((x.toUInt32 >>> ((nI 1).toUInt32 &&& Int32.toUInt32 31)).toInt32) &&& (nI 1431655765))).toUInt32 >>> ((nI 2).toUInt32 &&& Int32.toUInt32 31)).toInt32) &&& (nI 858993459))) + (((((x - (((x.toUInt32 >>> ((nI 1).toUInt32 &&& Int32.toUInt32 31)).toInt32) &&& (nI 1431655765))) &&& (nI 858993459)) + ((((x - (((x.toUInt32 >>> ((nI 1).toUInt32 &&& Int32.toUInt32 31)).toInt32) &&& (nI 1431655765))).toUInt32 >>> ((nI 2).toUInt32 &&& Int32.toUInt32 31)).toInt32) &&& (nI 858993459))).toUInt32 >>> ((nI 4).toUInt32 &&& Int32.toUInt32 31)).toInt32)) &&& (nI 252645135)) + (((((((x - (((x.toUInt32 >>> ((nI 1).toUInt32 &&& Int32.toUInt32 31)).toInt32) &&& (nI 1431655765))) &&& (nI 858993459)) + ((((x - (((x.toUInt32 >>> ((nI 1).toUInt32 &&& Int32.toUInt32 31)).toInt32) &&& (nI 1431655765))).toUInt32 >>> ((nI 2).toUInt32 &&& Int32.toUInt32 31)).toInt32) &&& (nI 858993459))) + (((((x - (((x.toUInt32 >>> ((nI 1).toUInt32 &&& Int32.toUInt32 31)).toInt32) &&& (nI 1431655765))) &&& (nI 858993459)) + ((((x - (((x.toUInt32 >>> ((nI 1).toUInt32 &&& Int32.toUInt32 31)).toInt32) &&& (nI 1431655765))).toUInt32 >>> ((nI 2).toUInt32 &&& Int32.toUInt32 31)).toInt32) &&& (nI 858993459))).toUInt32 >>> ((nI 4).toUInt32 &&& Int32.toUInt32 31)).toInt32)) &&& (nI 252645135)).toUInt32 >>> ((nI 8).toUInt32 &&& Int32.toUInt32 31)).toInt32)).toUInt32 >>> ((nI 16).toUInt32 &&& Int32.toUInt32 31)).toInt32)) &&& (nI 63)))) rfl rfl trivial ⟨rfl, rfl⟩ rfl

def pcn (m : Nat) : Nat := cnt (fun i => m.testBit i) 9
theorem bcF_ok : ∀ m, m < 512 → bcF (nI m) = nI (pcn m) := by decide +kernel
def pb (m x : Nat) : Nat → Nat → Nat → Option Nat
  | 0, _, _ => none
  | n + 1, j, ps => if m.testBit j = true then (if ps = x then some j else pb m x n (j + 1) (ps + 1)) else pb m x n (j + 1) ps
theorem bit_b {lo e : Nat} (hl : lo < 2147483648) (he : e < 32) : (nI lo >>> (nI e &&& 31)) &&& nI 1 = b2 (lo.testBit e = true) := by
  rw [bit_t hl he]
  unfold b2
  split <;> rfl
theorem spv_n1 {o : Option Nat} (h : ∀ m, o = some m → m < 2147483648) : spv o = (-1) ↔ o = none := by
  cases o with
  | none => exact ⟨fun _ => rfl, fun _ => rfl⟩
  | some m =>
    refine ⟨fun e => ?_, fun e => by cases e⟩
    have h2 : (nI m).toInt = (m : Int) := nI_toInt (h m rfl)
    have e' : nI m = -1 := e
    rw [e'] at h2
    have h3 : ((-1 : Int32)).toInt = -1 := by decide
    omega
theorem sp1_lt (T : TD) : ∀ n e x, sp1 T n e = some x → x < e + n := by
  intro n
  induction n with
  | zero => intro e x h; cases h
  | succ n ih =>
    intro e x h
    unfold sp1 at h
    split at h
    · cases h; omega
    · have := ih _ _ h; omega
theorem sp2_lt (T : TD) (e : Nat) : ∀ n f x, sp2 T e n f = some x → f ≤ x ∧ x < f + n := by
  intro n
  induction n with
  | zero => intro f x h; cases h
  | succ n ih =>
    intro f x h
    unfold sp2 at h
    split at h
    · cases h; omega
    · have := ih _ _ h; omega
theorem sp3_lt (T : TD) : ∀ n e x, sp3 T n e = some x → x.1 < x.2 ∧ x.2 < e + n := by
  intro n
  induction n with
  | zero => intro e x h; cases h
  | succ n ih =>
    intro e x h
    unfold sp3 at h
    split at h
    · rename_i f hf
      cases h
      have := sp2_lt T e _ _ _ hf
      exact ⟨by show e < f; omega, by show f < _; omega⟩
    · have := ih _ _ h; omega
theorem spb_lt {T : TD} (hn : tne T ≤ 9) {m : Nat} (h : spb T = some m) : m < 512 := by
  unfold spb at h
  split at h
  · cases h; decide
  · split at h
    · rename_i e he
      cases h
      exact p9 (by have := sp1_lt T _ _ _ he; omega)
    · split at h
      · rename_i q hq
        cases h
        have := sp3_lt T _ _ _ hq
        exact p2le this.1 (by omega)
      · cases h
set_option maxHeartbeats 2000000 in
theorem c_placeOfBit (S : ST) (m x : Nat) (hm : m < 512) (hx : x ≤ 1) : EX me_N_placeOfBit 0 [.int (nI m), .int (nI x)] S (fun r u => r = some (.int (spv (pb m x 8 0 0))) ∧ u = S) := by
  refine EX.of mok_N_placeOfBit (Nat.le_of_ble_eq_true rfl) ?_
  have H : ∀ j, j ≤ 8 → ∀ ps, ps ≤ j → pb m x 8 0 0 = pb m x (8 - j) j ps → BX me_N_placeOfBit 0 none (fun r u => r = some (.int (spv (pb m x 8 0 0))) ∧ u = S) (4, [(0, .int (nI m)), (1, .int (nI x)), (2, .int (nI ps)), (3, .int (nI j))], [], S) := by
    refine loop_up (P := fun j => ∀ ps, ps ≤ j → pb m x 8 0 0 = pb m x (8 - j) j ps → BX me_N_placeOfBit 0 none (fun r u => r = some (.int (spv (pb m x 8 0 0))) ∧ u = S) (4, [(0, .int (nI m)), (1, .int (nI x)), (2, .int (nI ps)), (3, .int (nI j))], [], S)) 8 ?_ ?_
    · intro ps hps hs
      refine run_ok 2 (c' := (7, [(0, .int (nI m)), (1, .int (nI x)), (2, .int (nI ps)), (3, .int (nI 8))], [.int (nI 8), .int (nI 8)], S)) rfl ?_
      refine x_icmpN_ge 35 rfl rfl (by omega) (by omega) (fun h7 => ?_) (fun hn => absurd (Nat.le_refl 8) hn)
      refine run_ok 1 (c' := (36, [(0, .int (nI m)), (1, .int (nI x)), (2, .int (nI ps)), (3, .int (nI 8))], [.int (-1)], S)) rfl ?_
      exact x_ret (r := some (.int (-1))) rfl rfl trivial ⟨by rw [hs]; rfl, rfl⟩ rfl
    · intro j hj ih ps hps hs
      refine run_ok 2 (c' := (7, [(0, .int (nI m)), (1, .int (nI x)), (2, .int (nI ps)), (3, .int (nI j))], [.int (nI 8), .int (nI j)], S)) rfl ?_
      refine x_icmpN_ge 35 rfl rfl (by omega) (by omega) (fun hn => absurd hn (show ¬ 8 ≤ j by omega)) (fun h7 => ?_)
      refine run_ok 5 (c' := (15, [(0, .int (nI m)), (1, .int (nI x)), (2, .int (nI ps)), (3, .int (nI j))], [.int (((nI m) >>> ((nI j) &&& 31)) &&& (nI 1))], S)) rfl ?_
      refine x_top (v' := b2 (m.testBit j = true)) (bit_b (by omega) (by omega)) ?_
      refine run_ok 1 (c' := (16, [(0, .int (nI m)), (1, .int (nI x)), (2, .int (nI ps)), (3, .int (nI j))], [.int (nI 1), .int (b2 (m.testBit j = true))], S)) rfl ?_
      refine x_icmpB_ne 29 rfl rfl (fun h16 => ?_) (fun h16 => ?_)
      · refine run_ok 1 (c' := (32, [(0, .int (nI m)), (1, .int (nI x)), (2, .int (nI ps)), (3, .int (nI j + nI 1))], [], S)) rfl ?_
        rw [nI_add j 1]
        refine run_ok 1 (c' := (4, [(0, .int (nI m)), (1, .int (nI x)), (2, .int (nI ps)), (3, .int (nI (j + 1)))], [], S)) rfl ?_
        exact ih _ (by omega) (by rw [hs, show 8 - j = (8 - (j + 1)) + 1 by omega]; exact if_neg h16)
      · refine run_ok 2 (c' := (21, [(0, .int (nI m)), (1, .int (nI x)), (2, .int (nI ps)), (3, .int (nI j))], [.int (nI x), .int (nI ps)], S)) rfl ?_
        refine x_icmpN_ne 26 rfl rfl (by omega) (by omega) (fun h21 => ?_) (fun h21 => ?_)
        · refine run_ok 1 (c' := (29, [(0, .int (nI m)), (1, .int (nI x)), (2, .int (nI ps + nI 1)), (3, .int (nI j))], [], S)) rfl ?_
          rw [nI_add ps 1]
          refine run_ok 1 (c' := (32, [(0, .int (nI m)), (1, .int (nI x)), (2, .int (nI (ps + 1))), (3, .int (nI j + nI 1))], [], S)) rfl ?_
          rw [nI_add j 1]
          refine run_ok 1 (c' := (4, [(0, .int (nI m)), (1, .int (nI x)), (2, .int (nI (ps + 1))), (3, .int (nI (j + 1)))], [], S)) rfl ?_
          exact ih _ (by omega) (by rw [hs, show 8 - j = (8 - (j + 1)) + 1 by omega]; exact (if_pos h16).trans (if_neg h21))
        · refine run_ok 1 (c' := (25, [(0, .int (nI m)), (1, .int (nI x)), (2, .int (nI ps)), (3, .int (nI j))], [.int (nI j)], S)) rfl ?_
          exact x_ret (r := some (.int (nI j))) rfl rfl trivial ⟨by rw [hs, show 8 - j = (8 - (j + 1)) + 1 by omega, show pb m x (8 - (j + 1) + 1) j ps = some j from (if_pos h16).trans (if_pos h21)]; rfl, rfl⟩ rfl
  refine run_ok 4 (c' := (4, [(0, .int (nI m)), (1, .int (nI x)), (2, .int (nI 0)), (3, .int (nI 0))], [], S)) rfl ?_
  exact H 0 (by omega) 0 (Nat.le_refl 0) rfl

def spa (T : TD) (i : Option Nat) : Int32 := match spb T with
  | none => (-1)
  | some m => match i with
    | none => nI (pcn m)
    | some x => spv (pb m x 8 0 0)
set_option maxHeartbeats 2000000 in
theorem c_spare_n (S : ST) (T : TD) (hT : TR 5 T S) (hto : tok T) (hne : tne T ≤ 8) : EX me_N_spare 7 [.ref 0, .int (-1)] S (fun r u => r = some (.int (spa T none)) ∧ fr CQ S u) := by
  refine EX.of mok_N_spare (Nat.le_of_ble_eq_true rfl) ?_
  obtain ⟨n8, n9, hbt, het, hht, hlo⟩ := id hto
  obtain ⟨t1, t2, t3, t4, t5, t6, t7, t8, t9, t10, t11⟩ := id hT
  refine run_ok 2 (c' := (2, [(0, .ref 0), (1, .int (-1))], [.int (-1), .int (-1)], S)) rfl ?_
  refine x_icmp_lt 10 rfl rfl (fun hn => absurd hn (by decide)) (fun h2 => ?_)
  refine run_ok 2 (c' := (7, [(0, .ref 0), (1, .int (-1))], [.int (nI 1), .int (-1)], S)) rfl ?_
  refine x_icmp_le 13 rfl rfl (fun h7 => ?_) (fun hn => absurd (by decide) hn)
  refine run_ok 1 (c' := (14, [(0, .ref 0), (1, .int (-1))], [.ref 0], S)) rfl ?_
  refine x_callV [] rfl cv_N_spareBits.1 lk_6_205 cv_N_spareBits.2.1 cv_N_spareBits.2.2.1 rfl cv_N_spareBits.2.2.2.1 rfl rfl (Nat.le_of_ble_eq_true rfl) (by decide) cv_N_spareBits.2.2.2.2 (c_spareBits S T hT hto hne) ?_
  rintro r u ⟨hr, hfu⟩
  rw [hr]
  clear hr r
  refine run_ok 3 (c' := (20, [(0, .ref 0), (1, .int (-1)), (2, .int (spv (spb T)))], [.int (-1), .int (spv (spb T))], u)) rfl ?_
  refine x_icmp_ne 25 rfl rfl (fun h20 => ?_) (fun h20 => ?_)
  · have hm : ∃ m, spb T = some m := by
      cases hsp : spb T with
      | none => exact absurd (by rw [hsp]; rfl) h20
      | some m => exact ⟨m, rfl⟩
    obtain ⟨m, hm⟩ := hm
    have hm5 := spb_lt n9 hm
    rw [hm]
    rw [show spv (some m) = nI m from rfl]
    refine run_ok 2 (c' := (27, [(0, .ref 0), (1, .int (-1)), (2, .int (nI m))], [.int (-1), .int (-1)], u)) rfl ?_
    refine x_icmp_ne 37 rfl rfl (fun hn => absurd rfl hn) (fun h27 => ?_)
    refine run_ok 1 (c' := (31, [(0, .ref 0), (1, .int (-1)), (2, .int (nI m))], [.int (nI m)], u)) rfl ?_
    refine x_callS [.int (nI m)] rfl cs_J_bitCount.1 lk_6_209 cs_J_bitCount.2.1 rfl rfl (Nat.le_of_ble_eq_true rfl) (by decide) cs_J_bitCount.2.2 (c_bitCount u (nI m)) ?_
    rintro r x ⟨hr, hu⟩
    rw [hr, hu]
    clear hr hu r x
    refine x_top (v' := nI (pcn m)) (bcF_ok m hm5) ?_
    refine run_ok 1 (c' := (42, [(0, .ref 0), (1, .int (-1)), (2, .int (nI m))], [.int (nI (pcn m))], u)) rfl ?_
    exact x_ret (r := some (.int (nI (pcn m)))) rfl rfl trivial ⟨by unfold spa; rw [hm], hfu⟩ rfl
  · refine run_ok 1 (c' := (24, [(0, .ref 0), (1, .int (-1)), (2, .int (spv (spb T)))], [.int (-1)], u)) rfl ?_
    exact x_ret (r := some (.int (-1))) rfl rfl trivial ⟨by unfold spa; rw [(spv_n1 (fun m hm => by have := spb_lt n9 hm; omega)).mp h20], hfu⟩ rfl

set_option maxHeartbeats 2000000 in
theorem c_spare_0 (S : ST) (T : TD) (hT : TR 5 T S) (hto : tok T) (hne : tne T ≤ 8) : EX me_N_spare 7 [.ref 0, .int (nI 0)] S (fun r u => r = some (.int (spa T (some 0))) ∧ fr CQ S u) := by
  refine EX.of mok_N_spare (Nat.le_of_ble_eq_true rfl) ?_
  obtain ⟨n8, n9, hbt, het, hht, hlo⟩ := id hto
  obtain ⟨t1, t2, t3, t4, t5, t6, t7, t8, t9, t10, t11⟩ := id hT
  refine run_ok 2 (c' := (2, [(0, .ref 0), (1, .int (nI 0))], [.int (-1), .int (nI 0)], S)) rfl ?_
  refine x_icmp_lt 10 rfl rfl (fun hn => absurd hn (by decide)) (fun h2 => ?_)
  refine run_ok 2 (c' := (7, [(0, .ref 0), (1, .int (nI 0))], [.int (nI 1), .int (nI 0)], S)) rfl ?_
  refine x_icmpN_le 13 rfl rfl (by omega) (by omega) (fun h7 => ?_) (fun hn => absurd (by decide) hn)
  refine run_ok 1 (c' := (14, [(0, .ref 0), (1, .int (nI 0))], [.ref 0], S)) rfl ?_
  refine x_callV [] rfl cv_N_spareBits.1 lk_6_205 cv_N_spareBits.2.1 cv_N_spareBits.2.2.1 rfl cv_N_spareBits.2.2.2.1 rfl rfl (Nat.le_of_ble_eq_true rfl) (by decide) cv_N_spareBits.2.2.2.2 (c_spareBits S T hT hto hne) ?_
  rintro r u ⟨hr, hfu⟩
  rw [hr]
  clear hr r
  refine run_ok 3 (c' := (20, [(0, .ref 0), (1, .int (nI 0)), (2, .int (spv (spb T)))], [.int (-1), .int (spv (spb T))], u)) rfl ?_
  refine x_icmp_ne 25 rfl rfl (fun h20 => ?_) (fun h20 => ?_)
  · have hm : ∃ m, spb T = some m := by
      cases hsp : spb T with
      | none => exact absurd (by rw [hsp]; rfl) h20
      | some m => exact ⟨m, rfl⟩
    obtain ⟨m, hm⟩ := hm
    have hm5 := spb_lt n9 hm
    rw [hm]
    rw [show spv (some m) = nI m from rfl]
    refine run_ok 2 (c' := (27, [(0, .ref 0), (1, .int (nI 0)), (2, .int (nI m))], [.int (-1), .int (nI 0)], u)) rfl ?_
    refine x_icmp_ne 37 rfl rfl (fun h27 => ?_) (fun hn => absurd hn (by decide))
    refine run_ok 2 (c' := (39, [(0, .ref 0), (1, .int (nI 0)), (2, .int (nI m))], [.int (nI 0), .int (nI m)], u)) rfl ?_
    refine x_callS [.int (nI m), .int (nI 0)] rfl cs_N_placeOfBit.1 lk_6_214 cs_N_placeOfBit.2.1 rfl rfl (Nat.le_of_ble_eq_true rfl) (by decide) cs_N_placeOfBit.2.2 (c_placeOfBit u m 0 hm5 (by decide)) ?_
    rintro r x ⟨hr, hu⟩
    rw [hr, hu]
    clear hr hu r x
    exact x_ret (r := some (.int (spv (pb m 0 8 0 0)))) rfl rfl trivial ⟨by unfold spa; rw [hm], hfu⟩ rfl
  · refine run_ok 1 (c' := (24, [(0, .ref 0), (1, .int (nI 0)), (2, .int (spv (spb T)))], [.int (-1)], u)) rfl ?_
    exact x_ret (r := some (.int (-1))) rfl rfl trivial ⟨by unfold spa; rw [(spv_n1 (fun m hm => by have := spb_lt n9 hm; omega)).mp h20], hfu⟩ rfl

set_option maxHeartbeats 2000000 in
theorem c_spare_1 (S : ST) (T : TD) (hT : TR 5 T S) (hto : tok T) (hne : tne T ≤ 8) : EX me_N_spare 7 [.ref 0, .int (nI 1)] S (fun r u => r = some (.int (spa T (some 1))) ∧ fr CQ S u) := by
  refine EX.of mok_N_spare (Nat.le_of_ble_eq_true rfl) ?_
  obtain ⟨n8, n9, hbt, het, hht, hlo⟩ := id hto
  obtain ⟨t1, t2, t3, t4, t5, t6, t7, t8, t9, t10, t11⟩ := id hT
  refine run_ok 2 (c' := (2, [(0, .ref 0), (1, .int (nI 1))], [.int (-1), .int (nI 1)], S)) rfl ?_
  refine x_icmp_lt 10 rfl rfl (fun hn => absurd hn (by decide)) (fun h2 => ?_)
  refine run_ok 2 (c' := (7, [(0, .ref 0), (1, .int (nI 1))], [.int (nI 1), .int (nI 1)], S)) rfl ?_
  refine x_icmpN_le 13 rfl rfl (by omega) (by omega) (fun h7 => ?_) (fun hn => absurd (by decide) hn)
  refine run_ok 1 (c' := (14, [(0, .ref 0), (1, .int (nI 1))], [.ref 0], S)) rfl ?_
  refine x_callV [] rfl cv_N_spareBits.1 lk_6_205 cv_N_spareBits.2.1 cv_N_spareBits.2.2.1 rfl cv_N_spareBits.2.2.2.1 rfl rfl (Nat.le_of_ble_eq_true rfl) (by decide) cv_N_spareBits.2.2.2.2 (c_spareBits S T hT hto hne) ?_
  rintro r u ⟨hr, hfu⟩
  rw [hr]
  clear hr r
  refine run_ok 3 (c' := (20, [(0, .ref 0), (1, .int (nI 1)), (2, .int (spv (spb T)))], [.int (-1), .int (spv (spb T))], u)) rfl ?_
  refine x_icmp_ne 25 rfl rfl (fun h20 => ?_) (fun h20 => ?_)
  · have hm : ∃ m, spb T = some m := by
      cases hsp : spb T with
      | none => exact absurd (by rw [hsp]; rfl) h20
      | some m => exact ⟨m, rfl⟩
    obtain ⟨m, hm⟩ := hm
    have hm5 := spb_lt n9 hm
    rw [hm]
    rw [show spv (some m) = nI m from rfl]
    refine run_ok 2 (c' := (27, [(0, .ref 0), (1, .int (nI 1)), (2, .int (nI m))], [.int (-1), .int (nI 1)], u)) rfl ?_
    refine x_icmp_ne 37 rfl rfl (fun h27 => ?_) (fun hn => absurd hn (by decide))
    refine run_ok 2 (c' := (39, [(0, .ref 0), (1, .int (nI 1)), (2, .int (nI m))], [.int (nI 1), .int (nI m)], u)) rfl ?_
    refine x_callS [.int (nI m), .int (nI 1)] rfl cs_N_placeOfBit.1 lk_6_214 cs_N_placeOfBit.2.1 rfl rfl (Nat.le_of_ble_eq_true rfl) (by decide) cs_N_placeOfBit.2.2 (c_placeOfBit u m 1 hm5 (by decide)) ?_
    rintro r x ⟨hr, hu⟩
    rw [hr, hu]
    clear hr hu r x
    exact x_ret (r := some (.int (spv (pb m 1 8 0 0)))) rfl rfl trivial ⟨by unfold spa; rw [hm], hfu⟩ rfl
  · refine run_ok 1 (c' := (24, [(0, .ref 0), (1, .int (nI 1)), (2, .int (spv (spb T)))], [.int (-1)], u)) rfl ?_
    exact x_ret (r := some (.int (-1))) rfl rfl trivial ⟨by unfold spa; rw [(spv_n1 (fun m hm => by have := spb_lt n9 hm; omega)).mp h20], hfu⟩ rfl

theorem c_spare_bad (S : ST) (x : Int32) (hbad : ¬ ((-1) ≤ x ∧ x ≤ nI 1)) : EX me_N_spare 7 [.ref 0, .int x] S (fun r u => r = some (.int (-2)) ∧ u = S) := by
  refine EX.of mok_N_spare (Nat.le_of_ble_eq_true rfl) ?_
  refine run_ok 2 (c' := (2, [(0, .ref 0), (1, .int x)], [.int (-1), .int x], S)) rfl ?_
  refine x_icmp_lt 10 rfl rfl (fun h2 => ?_) (fun h2 => ?_)
  · refine run_ok 1 (c' := (12, [(0, .ref 0), (1, .int x)], [.int (-2)], S)) rfl ?_
    exact x_ret (r := some (.int (-2))) rfl rfl trivial ⟨rfl, rfl⟩ rfl
  · refine run_ok 2 (c' := (7, [(0, .ref 0), (1, .int x)], [.int (nI 1), .int x], S)) rfl ?_
    refine x_icmp_le 13 rfl rfl (fun h7 => ?_) (fun h7 => ?_)
    · exact absurd ⟨Int32.not_lt.mp h2, h7⟩ hbad
    · refine run_ok 1 (c' := (12, [(0, .ref 0), (1, .int x)], [.int (-2)], S)) rfl ?_
      exact x_ret (r := some (.int (-2))) rfl rfl trivial ⟨rfl, rfl⟩ rfl

set_option maxHeartbeats 2000000 in
theorem c_never (S : ST) (T : TD) (hT : TR 5 T S) (hto : tok T) (hne : tne T ≤ 8) (G : SD) (hg : SR G S) (hgo : sok G) : EX me_N_never 6 [.ref 0] S (fun r u => r = some (.int (nI (bst (fun i => fitb (wlo T (2 ^ i)) (vo (wlo T (2 ^ i)) 24) G G.1) (tne T)))) ∧ fr CQ S u) := by
  refine EX.of mok_N_never (Nat.le_of_ble_eq_true rfl) ?_
  obtain ⟨n8, n9, hbt, het, hht, hlo⟩ := id hto
  obtain ⟨t1, t2, t3, t4, t5, t6, t7, t8, t9, t10, t11⟩ := id hT
  have H : ∀ i, i ≤ tne T → ∀ (v : ST) (l : Nat), TR 14 (wlo T l) v → fr CQ S v → BX me_N_never 6 none (fun r u => r = some (.int (nI (bst (fun i => fitb (wlo T (2 ^ i)) (vo (wlo T (2 ^ i)) 24) G G.1) (tne T)))) ∧ fr CQ S u) (15, [(0, .ref 0), (1, .int (nI (bst (fun i => fitb (wlo T (2 ^ i)) (vo (wlo T (2 ^ i)) 24) G G.1) i))), (2, .int (nI i))], [], v) := by
    refine loop_up (P := fun i => ∀ (v : ST) (l : Nat), TR 14 (wlo T l) v → fr CQ S v → BX me_N_never 6 none (fun r u => r = some (.int (nI (bst (fun i => fitb (wlo T (2 ^ i)) (vo (wlo T (2 ^ i)) 24) G G.1) (tne T)))) ∧ fr CQ S u) (15, [(0, .ref 0), (1, .int (nI (bst (fun i => fitb (wlo T (2 ^ i)) (vo (wlo T (2 ^ i)) 24) G G.1) i))), (2, .int (nI i))], [], v)) (tne T) ?_ ?_
    · intro v l hTl hfv
      have t10v : v.1 5 10 = nI (tne T) := by rw [hfv 5 (by decide)]; exact t10
      refine run_ok 4 (c' := (23, [(0, .ref 0), (1, .int (nI (bst (fun i => fitb (wlo T (2 ^ i)) (vo (wlo T (2 ^ i)) 24) G G.1) (tne T)))), (2, .int (nI (tne T)))], [.int (v.1 5 10), .int (nI (tne T))], v)) rfl ?_
      refine x_top (v' := nI (tne T)) t10v ?_
      refine x_icmpN_ge 55 rfl rfl (by omega) (by omega) (fun h23 => ?_) (fun hn => absurd (Nat.le_refl _) hn)
      refine run_ok 1 (c' := (56, [(0, .ref 0), (1, .int (nI (bst (fun i => fitb (wlo T (2 ^ i)) (vo (wlo T (2 ^ i)) 24) G G.1) (tne T)))), (2, .int (nI (tne T)))], [.int (nI (bst (fun i => fitb (wlo T (2 ^ i)) (vo (wlo T (2 ^ i)) 24) G G.1) (tne T)))], v)) rfl ?_
      exact x_ret (r := some (.int (nI (bst (fun i => fitb (wlo T (2 ^ i)) (vo (wlo T (2 ^ i)) 24) G G.1) (tne T))))) rfl rfl trivial ⟨rfl, hfv⟩ rfl
    · intro i hi ih v l hTl hfv
      have t10v : v.1 5 10 = nI (tne T) := by rw [hfv 5 (by decide)]; exact t10
      refine run_ok 4 (c' := (23, [(0, .ref 0), (1, .int (nI (bst (fun i => fitb (wlo T (2 ^ i)) (vo (wlo T (2 ^ i)) 24) G G.1) i))), (2, .int (nI i))], [.int (v.1 5 10), .int (nI i)], v)) rfl ?_
      refine x_top (v' := nI (tne T)) t10v ?_
      refine x_icmpN_ge 55 rfl rfl (by omega) (by omega) (fun hn => absurd hn (show ¬ tne T ≤ i by omega)) (fun h23 => ?_)
      refine run_ok 5 (c' := (33, [(0, .ref 0), (1, .int (nI (bst (fun i => fitb (wlo T (2 ^ i)) (vo (wlo T (2 ^ i)) 24) G G.1) i))), (2, .int (nI i))], [.int ((nI 1) <<< ((nI i) &&& 31)), .ref 14], v)) rfl ?_
      refine x_top (v' := nI (2 ^ i)) (sh1 (by omega)) ?_
      refine run_ok 1 (c' := (36, [(0, .ref 0), (1, .int (nI (bst (fun i => fitb (wlo T (2 ^ i)) (vo (wlo T (2 ^ i)) 24) G G.1) i))), (2, .int (nI i))], [], (pt v 14 11 (nI (2 ^ i))))) rfl ?_
      have hTm : TR 14 (wlo T (2 ^ i)) (pt v 14 11 (nI (2 ^ i))) := ⟨hTl.1, hTl.2.1, hTl.2.2.1, hTl.2.2.2.1, hTl.2.2.2.2.1, hTl.2.2.2.2.2.1, hTl.2.2.2.2.2.2.1, hTl.2.2.2.2.2.2.2.1, hTl.2.2.2.2.2.2.2.2.1, hTl.2.2.2.2.2.2.2.2.2.1, rfl⟩
      refine run_ok 1 (c' := (37, [(0, .ref 0), (1, .int (nI (bst (fun i => fitb (wlo T (2 ^ i)) (vo (wlo T (2 ^ i)) 24) G G.1) i))), (2, .int (nI i))], [.ref 0], (pt v 14 11 (nI (2 ^ i))))) rfl ?_
      refine x_callV [] rfl cv_N_trialComesOutSo.1 lk_6_226 cv_N_trialComesOutSo.2.1 cv_N_trialComesOutSo.2.2.1 rfl cv_N_trialComesOutSo.2.2.2.1 rfl rfl (Nat.le_of_ble_eq_true rfl) (by decide) cv_N_trialComesOutSo.2.2.2.2 (c_outSo (pt v 14 11 (nI (2 ^ i))) (wlo T (2 ^ i)) hTm (tok_wlo hto (p9 (by omega))) G (hg.keep (hfv.tr (fr.rf.pt (by decide))) (by decide)) hgo) ?_
      rintro r z ⟨hr, hTz, hCz, hfz⟩
      rw [hr]
      clear hr r
      refine x_ifB_eq 49 rfl rfl (fun h40 => ?_) (fun h40 => ?_)
      · refine run_ok 1 (c' := (52, [(0, .ref 0), (1, .int (nI (bst (fun i => fitb (wlo T (2 ^ i)) (vo (wlo T (2 ^ i)) 24) G G.1) i))), (2, .int (nI i + nI 1))], [], z)) rfl ?_
        rw [nI_add i 1]
        refine run_ok 1 (c' := (15, [(0, .ref 0), (1, .int (nI (bst (fun i => fitb (wlo T (2 ^ i)) (vo (wlo T (2 ^ i)) 24) G G.1) i))), (2, .int (nI (i + 1)))], [], z)) rfl ?_
        rw [show bst (fun i => fitb (wlo T (2 ^ i)) (vo (wlo T (2 ^ i)) 24) G G.1) (i + 1) = bst (fun i => fitb (wlo T (2 ^ i)) (vo (wlo T (2 ^ i)) 24) G G.1) i from bst_z (by simpa using h40)] at ih
        exact ih z _ hTz (hfv.tr ((fr.rf.pt (by decide)).tr (hfz.sub (by decide))))
      · refine run_ok 5 (c' := (48, [(0, .ref 0), (1, .int (nI (bst (fun i => fitb (wlo T (2 ^ i)) (vo (wlo T (2 ^ i)) 24) G G.1) i))), (2, .int (nI i))], [.int ((nI (bst (fun i => fitb (wlo T (2 ^ i)) (vo (wlo T (2 ^ i)) 24) G G.1) i)) ||| ((nI 1) <<< ((nI i) &&& 31)))], z)) rfl ?_
        refine x_top (v' := nI (bst (fun i => fitb (wlo T (2 ^ i)) (vo (wlo T (2 ^ i)) 24) G G.1) i + 1 * 2 ^ i)) (or_bit (bst_lt _ _) (by omega)) ?_
        refine run_ok 2 (c' := (52, [(0, .ref 0), (1, .int (nI (bst (fun i => fitb (wlo T (2 ^ i)) (vo (wlo T (2 ^ i)) 24) G G.1) i + 1 * 2 ^ i))), (2, .int (nI i + nI 1))], [], z)) rfl ?_
        rw [nI_add i 1]
        refine run_ok 1 (c' := (15, [(0, .ref 0), (1, .int (nI (bst (fun i => fitb (wlo T (2 ^ i)) (vo (wlo T (2 ^ i)) 24) G G.1) i + 1 * 2 ^ i))), (2, .int (nI (i + 1)))], [], z)) rfl ?_
        rw [show bst (fun i => fitb (wlo T (2 ^ i)) (vo (wlo T (2 ^ i)) 24) G G.1) (i + 1) = bst (fun i => fitb (wlo T (2 ^ i)) (vo (wlo T (2 ^ i)) 24) G G.1) i + 1 * 2 ^ i from bst_s h40] at ih
        exact ih z _ hTz (hfv.tr ((fr.rf.pt (by decide)).tr (hfz.sub (by decide))))
  refine run_ok 4 (c' := (8, [(0, .ref 0)], [.ref 5, .ref 14], S)) rfl ?_
  refine x_callV [.ref 5] rfl cv_T_become.1 lk_6_220 cv_T_become.2.1 cv_T_become.2.2.1 rfl cv_T_become.2.2.2.1 rfl rfl (Nat.le_of_ble_eq_true rfl) (by decide) cv_T_become.2.2.2.2 (c_become S T hT hto hne) ?_
  rintro r v1 ⟨hr, hTb, hfb, h2b⟩
  rw [hr]
  clear hr r
  refine run_ok 4 (c' := (15, [(0, .ref 0), (1, .int (nI 0)), (2, .int (nI 0))], [], v1)) rfl ?_
  exact H 0 (by omega) v1 (tlo T) hTb (hfb.sub (by decide))

set_option maxHeartbeats 2000000 in
theorem c_sort_bad (S : ST) (T : TD) (t9 : S.1 5 6 = nI (tnb T)) (x : Int32) (hbad : ¬ (0 ≤ x ∧ x < nI (tnb T))) : EX me_N_sort 6 [.ref 0, .int x] S (fun r u => r = some (.int ((-2))) ∧ u = S) := by
  refine EX.of mok_N_sort (Nat.le_of_ble_eq_true rfl) ?_
  refine run_ok 2 (c' := (2, [(0, .ref 0), (1, .int x)], [.int x, .ref 0], S)) rfl ?_
  refine x_callV [.int x] rfl cv_N_isBoat.1 lk_6_107 cv_N_isBoat.2.1 cv_N_isBoat.2.2.1 rfl cv_N_isBoat.2.2.2.1 rfl rfl (Nat.le_of_ble_eq_true rfl) (by decide) cv_N_isBoat.2.2.2.2 (c_isBoat S (x) (tnb T) t9) ?_
  rintro r u ⟨hr, hu⟩
  rw [hr, hu]
  clear hr hu r u
  refine x_ifB_ne 11 rfl rfl (fun h5 => ?_) (fun h5 => ?_)
  · exact absurd h5 hbad
  · refine run_ok 1 (c' := (10, [(0, .ref 0), (1, .int x)], [.int (-2)], S)) rfl ?_
    exact x_ret (r := some (.int (-2))) rfl rfl trivial ⟨rfl, rfl⟩ rfl

set_option maxHeartbeats 2000000 in
theorem c_sort_ok (S : ST) (T : TD) (hT : TR 5 T S) (hto : tok T) (hne : tne T ≤ 8) (G : SD) (hg : SR G S) (hgo : sok G) (k : Nat) (hk : k < tnb T) : EX me_N_sort 6 [.ref 0, .int (nI k)] S (fun r u => r = some (.int (nI (bst (fun i => fitb (wso T (upn (tso T) k i)) (vo (wso T (upn (tso T) k i)) 24) G G.1) 3))) ∧ fr CQ S u) := by
  refine EX.of mok_N_sort (Nat.le_of_ble_eq_true rfl) ?_
  obtain ⟨n8, n9, hbt, het, hht, hlo⟩ := id hto
  obtain ⟨t1, t2, t3, t4, t5, t6, t7, t8, t9, t10, t11⟩ := id hT
  have H : ∀ i, i ≤ 3 → ∀ (v : ST) (f : Nat → Nat), TR 14 (wso T f) v → (∀ j, j ≠ k → f j = tso T j) → fr CQ S v → BX me_N_sort 6 none (fun r u => r = some (.int (nI (bst (fun i => fitb (wso T (upn (tso T) k i)) (vo (wso T (upn (tso T) k i)) 24) G G.1) 3))) ∧ fr CQ S u) (26, [(0, .ref 0), (1, .int (nI k)), (2, .int (nI (bst (fun i => fitb (wso T (upn (tso T) k i)) (vo (wso T (upn (tso T) k i)) 24) G G.1) i))), (3, .int (nI i))], [], v) := by
    refine loop_up (P := fun i => ∀ (v : ST) (f : Nat → Nat), TR 14 (wso T f) v → (∀ j, j ≠ k → f j = tso T j) → fr CQ S v → BX me_N_sort 6 none (fun r u => r = some (.int (nI (bst (fun i => fitb (wso T (upn (tso T) k i)) (vo (wso T (upn (tso T) k i)) 24) G G.1) 3))) ∧ fr CQ S u) (26, [(0, .ref 0), (1, .int (nI k)), (2, .int (nI (bst (fun i => fitb (wso T (upn (tso T) k i)) (vo (wso T (upn (tso T) k i)) 24) G G.1) i))), (3, .int (nI i))], [], v)) 3 ?_ ?_
    · intro v f hTv hff hfv
      refine run_ok 2 (c' := (28, [(0, .ref 0), (1, .int (nI k)), (2, .int (nI (bst (fun i => fitb (wso T (upn (tso T) k i)) (vo (wso T (upn (tso T) k i)) 24) G G.1) 3))), (3, .int (nI 3))], [.int (nI 3), .int (nI 3)], v)) rfl ?_
      refine x_icmpN_ge 60 rfl rfl (by omega) (by omega) (fun h28 => ?_) (fun hn => absurd (Nat.le_refl _) hn)
      refine run_ok 1 (c' := (61, [(0, .ref 0), (1, .int (nI k)), (2, .int (nI (bst (fun i => fitb (wso T (upn (tso T) k i)) (vo (wso T (upn (tso T) k i)) 24) G G.1) 3))), (3, .int (nI 3))], [.int (nI (bst (fun i => fitb (wso T (upn (tso T) k i)) (vo (wso T (upn (tso T) k i)) 24) G G.1) 3))], v)) rfl ?_
      exact x_ret (r := some (.int (nI (bst (fun i => fitb (wso T (upn (tso T) k i)) (vo (wso T (upn (tso T) k i)) 24) G G.1) 3)))) rfl rfl trivial ⟨rfl, hfv⟩ rfl
    · intro i hi ih v f hTv hff hfv
      refine run_ok 2 (c' := (28, [(0, .ref 0), (1, .int (nI k)), (2, .int (nI (bst (fun i => fitb (wso T (upn (tso T) k i)) (vo (wso T (upn (tso T) k i)) 24) G G.1) i))), (3, .int (nI i))], [.int (nI 3), .int (nI i)], v)) rfl ?_
      refine x_icmpN_ge 60 rfl rfl (by omega) (by omega) (fun hn => absurd hn (show ¬ 3 ≤ i by omega)) (fun h28 => ?_)
      refine run_ok 5 (c' := (40, [(0, .ref 0), (1, .int (nI k)), (2, .int (nI (bst (fun i => fitb (wso T (upn (tso T) k i)) (vo (wso T (upn (tso T) k i)) 24) G G.1) i))), (3, .int (nI i))], [.int (nI i), .int (nI k), .ref 16], v)) rfl ?_
      refine x_isN rfl rfl (by decide) (by omega) ?_
      have hTw : TR 14 (wso T (upn (tso T) k i)) (pt v 16 k (nI i)) := ⟨hTv.1, (hTv.2.1.put).cg (fun j hj => by show upn (tso T) k i j = upn f k i j; unfold upn; split; rfl; exact (hff j (by assumption)).symm), hTv.2.2⟩
      refine run_ok 1 (c' := (42, [(0, .ref 0), (1, .int (nI k)), (2, .int (nI (bst (fun i => fitb (wso T (upn (tso T) k i)) (vo (wso T (upn (tso T) k i)) 24) G G.1) i))), (3, .int (nI i))], [.ref 0], (pt v 16 k (nI i)))) rfl ?_
      refine x_callV [] rfl cv_N_trialComesOutSo.1 lk_6_226 cv_N_trialComesOutSo.2.1 cv_N_trialComesOutSo.2.2.1 rfl cv_N_trialComesOutSo.2.2.2.1 rfl rfl (Nat.le_of_ble_eq_true rfl) (by decide) cv_N_trialComesOutSo.2.2.2.2 (c_outSo (pt v 16 k (nI i)) (wso T (upn (tso T) k i)) hTw (tok_wso hto (by omega)) G (hg.keep (hfv.tr (fr.rf.pt (by decide))) (by decide)) hgo) ?_
      rintro r z ⟨hr, hTz, hCz, hfz⟩
      rw [hr]
      clear hr r
      refine x_ifB_eq 54 rfl rfl (fun h45 => ?_) (fun h45 => ?_)
      · refine run_ok 1 (c' := (57, [(0, .ref 0), (1, .int (nI k)), (2, .int (nI (bst (fun i => fitb (wso T (upn (tso T) k i)) (vo (wso T (upn (tso T) k i)) 24) G G.1) i))), (3, .int (nI i + nI 1))], [], z)) rfl ?_
        rw [nI_add i 1]
        refine run_ok 1 (c' := (26, [(0, .ref 0), (1, .int (nI k)), (2, .int (nI (bst (fun i => fitb (wso T (upn (tso T) k i)) (vo (wso T (upn (tso T) k i)) 24) G G.1) i))), (3, .int (nI (i + 1)))], [], z)) rfl ?_
        rw [show bst (fun i => fitb (wso T (upn (tso T) k i)) (vo (wso T (upn (tso T) k i)) 24) G G.1) (i + 1) = bst (fun i => fitb (wso T (upn (tso T) k i)) (vo (wso T (upn (tso T) k i)) 24) G G.1) i from bst_z (by simpa using h45)] at ih
        exact ih z (upn (tso T) k i) hTz (fun j hj => upn_n hj) (hfv.tr ((fr.rf.pt (by decide)).tr (hfz.sub (by decide))))
      · refine run_ok 5 (c' := (53, [(0, .ref 0), (1, .int (nI k)), (2, .int (nI (bst (fun i => fitb (wso T (upn (tso T) k i)) (vo (wso T (upn (tso T) k i)) 24) G G.1) i))), (3, .int (nI i))], [.int ((nI (bst (fun i => fitb (wso T (upn (tso T) k i)) (vo (wso T (upn (tso T) k i)) 24) G G.1) i)) ||| ((nI 1) <<< ((nI i) &&& 31)))], z)) rfl ?_
        refine x_top (v' := nI (bst (fun i => fitb (wso T (upn (tso T) k i)) (vo (wso T (upn (tso T) k i)) 24) G G.1) i + 1 * 2 ^ i)) (or_bit (bst_lt _ _) (by omega)) ?_
        refine run_ok 2 (c' := (57, [(0, .ref 0), (1, .int (nI k)), (2, .int (nI (bst (fun i => fitb (wso T (upn (tso T) k i)) (vo (wso T (upn (tso T) k i)) 24) G G.1) i + 1 * 2 ^ i))), (3, .int (nI i + nI 1))], [], z)) rfl ?_
        rw [nI_add i 1]
        refine run_ok 1 (c' := (26, [(0, .ref 0), (1, .int (nI k)), (2, .int (nI (bst (fun i => fitb (wso T (upn (tso T) k i)) (vo (wso T (upn (tso T) k i)) 24) G G.1) i + 1 * 2 ^ i))), (3, .int (nI (i + 1)))], [], z)) rfl ?_
        rw [show bst (fun i => fitb (wso T (upn (tso T) k i)) (vo (wso T (upn (tso T) k i)) 24) G G.1) (i + 1) = bst (fun i => fitb (wso T (upn (tso T) k i)) (vo (wso T (upn (tso T) k i)) 24) G G.1) i + 1 * 2 ^ i from bst_s h45] at ih
        exact ih z (upn (tso T) k i) hTz (fun j hj => upn_n hj) (hfv.tr ((fr.rf.pt (by decide)).tr (hfz.sub (by decide))))
  refine run_ok 2 (c' := (2, [(0, .ref 0), (1, .int (nI k))], [.int (nI k), .ref 0], S)) rfl ?_
  refine x_callV [.int (nI k)] rfl cv_N_isBoat.1 lk_6_107 cv_N_isBoat.2.1 cv_N_isBoat.2.2.1 rfl cv_N_isBoat.2.2.2.1 rfl rfl (Nat.le_of_ble_eq_true rfl) (by decide) cv_N_isBoat.2.2.2.2 (c_isBoat S (nI k) (tnb T) t9) ?_
  rintro r u ⟨hr, hu⟩
  rw [hr, hu]
  clear hr hu r u
  refine x_ifB_ne 11 rfl rfl (fun h5 => ?_) (fun hn => absurd (inr_t hk (by omega)) hn)
  refine run_ok 4 (c' := (19, [(0, .ref 0), (1, .int (nI k))], [.ref 5, .ref 14], S)) rfl ?_
  refine x_callV [.ref 5] rfl cv_T_become.1 lk_6_220 cv_T_become.2.1 cv_T_become.2.2.1 rfl cv_T_become.2.2.2.1 rfl rfl (Nat.le_of_ble_eq_true rfl) (by decide) cv_T_become.2.2.2.2 (c_become S T hT hto hne) ?_
  rintro r v1 ⟨hr, hTb, hfb, h2b⟩
  rw [hr]
  clear hr r
  refine run_ok 4 (c' := (26, [(0, .ref 0), (1, .int (nI k)), (2, .int (nI 0)), (3, .int (nI 0))], [], v1)) rfl ?_
  exact H 0 (by omega) v1 (tso T) hTb (fun _ _ => rfl) (hfb.sub (by decide))

set_option maxHeartbeats 2000000 in
theorem c_seekHated (S : ST) (T : TD) (hT : TR 5 T S) (hto : tok T) (hne : tne T ≤ 8) (G : SD) (hg : SR G S) (hgo : sok G) (p q : Nat) (hp : p < 8) (hq : q < 8) : EX me_N_seekHated 6 [.ref 0, .int (nI p), .int (nI q)] S (fun r u => r = some (.int (nI (bst (fun i => fitb (wh T (upn (th T) (8 * p + q) i)) (vo (wh T (upn (th T) (8 * p + q) i)) 24) G G.1) 10))) ∧ rh u 47 10 (fun i => nro (nmb (wh T (upn (th T) (8 * p + q) i)) (vo (wh T (upn (th T) (8 * p + q) i)) 24) 23) (tnb T)) ∧ fr CQ S u) := by
  refine EX.of mok_N_seekHated (Nat.le_of_ble_eq_true rfl) ?_
  obtain ⟨n8, n9, hbt, het, hht, hlo⟩ := id hto
  obtain ⟨t1, t2, t3, t4, t5, t6, t7, t8, t9, t10, t11⟩ := id hT
  have H : ∀ i, i ≤ 10 → ∀ (v : ST) (f : Nat → Nat), TR 14 (wh T f) v → (∀ j, j ≠ 8 * p + q → f j = th T j) → rh v 47 i (fun i => nro (nmb (wh T (upn (th T) (8 * p + q) i)) (vo (wh T (upn (th T) (8 * p + q) i)) 24) 23) (tnb T)) → fr CQ S v → BX me_N_seekHated 6 none (fun r u => r = some (.int (nI (bst (fun i => fitb (wh T (upn (th T) (8 * p + q) i)) (vo (wh T (upn (th T) (8 * p + q) i)) 24) G G.1) 10))) ∧ rh u 47 10 (fun i => nro (nmb (wh T (upn (th T) (8 * p + q) i)) (vo (wh T (upn (th T) (8 * p + q) i)) 24) 23) (tnb T)) ∧ fr CQ S u) (16, [(0, .ref 0), (1, .int (nI p)), (2, .int (nI q)), (3, .int (nI (bst (fun i => fitb (wh T (upn (th T) (8 * p + q) i)) (vo (wh T (upn (th T) (8 * p + q) i)) 24) G G.1) i))), (4, .int (nI i))], [], v) := by
    refine loop_up (P := fun i => ∀ (v : ST) (f : Nat → Nat), TR 14 (wh T f) v → (∀ j, j ≠ 8 * p + q → f j = th T j) → rh v 47 i (fun i => nro (nmb (wh T (upn (th T) (8 * p + q) i)) (vo (wh T (upn (th T) (8 * p + q) i)) 24) 23) (tnb T)) → fr CQ S v → BX me_N_seekHated 6 none (fun r u => r = some (.int (nI (bst (fun i => fitb (wh T (upn (th T) (8 * p + q) i)) (vo (wh T (upn (th T) (8 * p + q) i)) 24) G G.1) 10))) ∧ rh u 47 10 (fun i => nro (nmb (wh T (upn (th T) (8 * p + q) i)) (vo (wh T (upn (th T) (8 * p + q) i)) 24) 23) (tnb T)) ∧ fr CQ S u) (16, [(0, .ref 0), (1, .int (nI p)), (2, .int (nI q)), (3, .int (nI (bst (fun i => fitb (wh T (upn (th T) (8 * p + q) i)) (vo (wh T (upn (th T) (8 * p + q) i)) 24) G G.1) i))), (4, .int (nI i))], [], v)) 10 ?_ ?_
    · intro v f hTv hff h47 hfv
      refine run_ok 2 (c' := (20, [(0, .ref 0), (1, .int (nI p)), (2, .int (nI q)), (3, .int (nI (bst (fun i => fitb (wh T (upn (th T) (8 * p + q) i)) (vo (wh T (upn (th T) (8 * p + q) i)) 24) G G.1) 10))), (4, .int (nI 10))], [.int (nI 9), .int (nI 10)], v)) rfl ?_
      refine x_icmpN_gt 72 rfl rfl (by omega) (by omega) (fun h20 => ?_) (fun hn => absurd (show 9 < 10 by decide) hn)
      refine run_ok 1 (c' := (73, [(0, .ref 0), (1, .int (nI p)), (2, .int (nI q)), (3, .int (nI (bst (fun i => fitb (wh T (upn (th T) (8 * p + q) i)) (vo (wh T (upn (th T) (8 * p + q) i)) 24) G G.1) 10))), (4, .int (nI 10))], [.int (nI (bst (fun i => fitb (wh T (upn (th T) (8 * p + q) i)) (vo (wh T (upn (th T) (8 * p + q) i)) 24) G G.1) 10))], v)) rfl ?_
      exact x_ret (r := some (.int (nI (bst (fun i => fitb (wh T (upn (th T) (8 * p + q) i)) (vo (wh T (upn (th T) (8 * p + q) i)) 24) G G.1) 10)))) rfl rfl trivial ⟨rfl, h47, hfv⟩ rfl
    · intro i hi ih v f hTv hff h47 hfv
      refine run_ok 2 (c' := (20, [(0, .ref 0), (1, .int (nI p)), (2, .int (nI q)), (3, .int (nI (bst (fun i => fitb (wh T (upn (th T) (8 * p + q) i)) (vo (wh T (upn (th T) (8 * p + q) i)) 24) G G.1) i))), (4, .int (nI i))], [.int (nI 9), .int (nI i)], v)) rfl ?_
      refine x_icmpN_gt 72 rfl rfl (by omega) (by omega) (fun hn => absurd hn (show ¬ 9 < i by omega)) (fun h20 => ?_)
      refine run_ok 5 (c' := (32, [(0, .ref 0), (1, .int (nI p)), (2, .int (nI q)), (3, .int (nI (bst (fun i => fitb (wh T (upn (th T) (8 * p + q) i)) (vo (wh T (upn (th T) (8 * p + q) i)) 24) G G.1) i))), (4, .int (nI i))], [.int (nI q), .int (nI p), .ref 15], v)) rfl ?_
      refine x_callS [.int (nI p), .int (nI q)] rfl cs_N_pair.1 lk_6_103 cs_N_pair.2.1 rfl rfl (Nat.le_of_ble_eq_true rfl) (by decide) cs_N_pair.2.2 (c_pair v (nI p) (nI q)) ?_
      rintro r x ⟨hr, hu⟩
      rw [hr, hu]
      clear hr hu r x
      refine x_top (v' := nI (8 * p + q)) (by rw [pk_mul, nI_add, Nat.mul_comm]) ?_
      refine run_ok 1 (c' := (37, [(0, .ref 0), (1, .int (nI p)), (2, .int (nI q)), (3, .int (nI (bst (fun i => fitb (wh T (upn (th T) (8 * p + q) i)) (vo (wh T (upn (th T) (8 * p + q) i)) 24) G G.1) i))), (4, .int (nI i))], [.int (nI i), .int (nI (8 * p + q)), .ref 15], v)) rfl ?_
      refine x_isN rfl rfl (by decide) (by omega) ?_
      have hTw : TR 14 (wh T (upn (th T) (8 * p + q) i)) (pt v 15 (8 * p + q) (nI i)) := ⟨(hTv.1.put).cg (fun j hj => by show upn (th T) (8 * p + q) i j = upn f (8 * p + q) i j; unfold upn; split; rfl; exact (hff j (by assumption)).symm), hTv.2⟩
      refine run_ok 1 (c' := (39, [(0, .ref 0), (1, .int (nI p)), (2, .int (nI q)), (3, .int (nI (bst (fun i => fitb (wh T (upn (th T) (8 * p + q) i)) (vo (wh T (upn (th T) (8 * p + q) i)) 24) G G.1) i))), (4, .int (nI i))], [.ref 0], (pt v 15 (8 * p + q) (nI i)))) rfl ?_
      refine x_callV [] rfl cv_N_trialComesOutSo.1 lk_6_226 cv_N_trialComesOutSo.2.1 cv_N_trialComesOutSo.2.2.1 rfl cv_N_trialComesOutSo.2.2.2.1 rfl rfl (Nat.le_of_ble_eq_true rfl) (by decide) cv_N_trialComesOutSo.2.2.2.2 (c_outSo (pt v 15 (8 * p + q) (nI i)) (wh T (upn (th T) (8 * p + q) i)) hTw (tok_wh hto (by omega)) G (hg.keep (hfv.tr (fr.rf.pt (by decide))) (by decide)) hgo) ?_
      rintro r z ⟨hr, hTz, hCz, hfz⟩
      rw [hr]
      clear hr r
      refine x_ifB_eq 52 rfl rfl (fun h42 => ?_) (fun h42 => ?_)
      · refine run_ok 5 (c' := (62, [(0, .ref 0), (1, .int (nI p)), (2, .int (nI q)), (3, .int (nI (bst (fun i => fitb (wh T (upn (th T) (8 * p + q) i)) (vo (wh T (upn (th T) (8 * p + q) i)) 24) G G.1) i))), (4, .int (nI i))], [.ref 23, .int (nI i), .ref 47], z)) rfl ?_
        refine x_callV [] rfl cv_V_nameRow.1 lk_6_366 cv_V_nameRow.2.1 cv_V_nameRow.2.2.1 rfl cv_V_nameRow.2.2.2.1 rfl rfl (Nat.le_of_ble_eq_true rfl) (by decide) cv_V_nameRow.2.2.2.2 (c_nameRow14 z (wh T (upn (th T) (8 * p + q) i)) (vo (wh T (upn (th T) (8 * p + q) i)) 24) _ hTz (tok_wh hto (by omega)) hCz (vk_vo (tok_wh hto (by omega)) 24 (by omega)).1) ?_
        rintro r x ⟨hr, hu⟩
        rw [hr, hu]
        clear hr hu r x
        refine x_isN rfl rfl (by decide) (by omega) ?_
        refine run_ok 1 (c' := (69, [(0, .ref 0), (1, .int (nI p)), (2, .int (nI q)), (3, .int (nI (bst (fun i => fitb (wh T (upn (th T) (8 * p + q) i)) (vo (wh T (upn (th T) (8 * p + q) i)) 24) G G.1) i))), (4, .int (nI i + nI 1))], [], (pt z 47 i (nI (nro (nmb (wh T (upn (th T) (8 * p + q) i)) (vo (wh T (upn (th T) (8 * p + q) i)) 24) 23) (tnb T)))))) rfl ?_
        rw [nI_add i 1]
        refine run_ok 1 (c' := (16, [(0, .ref 0), (1, .int (nI p)), (2, .int (nI q)), (3, .int (nI (bst (fun i => fitb (wh T (upn (th T) (8 * p + q) i)) (vo (wh T (upn (th T) (8 * p + q) i)) 24) G G.1) i))), (4, .int (nI (i + 1)))], [], (pt z 47 i (nI (nro (nmb (wh T (upn (th T) (8 * p + q) i)) (vo (wh T (upn (th T) (8 * p + q) i)) 24) 23) (tnb T)))))) rfl ?_
        rw [show bst (fun i => fitb (wh T (upn (th T) (8 * p + q) i)) (vo (wh T (upn (th T) (8 * p + q) i)) 24) G G.1) (i + 1) = bst (fun i => fitb (wh T (upn (th T) (8 * p + q) i)) (vo (wh T (upn (th T) (8 * p + q) i)) 24) G G.1) i from bst_z (by simpa using h42)] at ih
        refine ih _ (upn (th T) (8 * p + q) i) (show TR 14 (wh T (upn (th T) (8 * p + q) i)) (pt z 47 i _) from hTz.keep (ks := [47]) (fr.rf.pt (by decide)) (by decide)) (fun j hj => upn_n hj) (fun j hj => ?_) (hfv.tr (((fr.rf.pt (by decide)).tr (hfz.sub (by decide))).pt (by decide)))
        show upd (z.1 47) i _ j = _
        by_cases e : j = i
        · rw [e, upd_s]
        · rw [upd_n e, hfz 47 (by decide)]; exact h47 j (by omega)
      · refine run_ok 5 (c' := (51, [(0, .ref 0), (1, .int (nI p)), (2, .int (nI q)), (3, .int (nI (bst (fun i => fitb (wh T (upn (th T) (8 * p + q) i)) (vo (wh T (upn (th T) (8 * p + q) i)) 24) G G.1) i))), (4, .int (nI i))], [.int ((nI (bst (fun i => fitb (wh T (upn (th T) (8 * p + q) i)) (vo (wh T (upn (th T) (8 * p + q) i)) 24) G G.1) i)) ||| ((nI 1) <<< ((nI i) &&& 31)))], z)) rfl ?_
        refine x_top (v' := nI (bst (fun i => fitb (wh T (upn (th T) (8 * p + q) i)) (vo (wh T (upn (th T) (8 * p + q) i)) 24) G G.1) i + 1 * 2 ^ i)) (or_bit (bst_lt _ _) (by omega)) ?_
        refine run_ok 6 (c' := (62, [(0, .ref 0), (1, .int (nI p)), (2, .int (nI q)), (3, .int (nI (bst (fun i => fitb (wh T (upn (th T) (8 * p + q) i)) (vo (wh T (upn (th T) (8 * p + q) i)) 24) G G.1) i + 1 * 2 ^ i))), (4, .int (nI i))], [.ref 23, .int (nI i), .ref 47], z)) rfl ?_
        refine x_callV [] rfl cv_V_nameRow.1 lk_6_366 cv_V_nameRow.2.1 cv_V_nameRow.2.2.1 rfl cv_V_nameRow.2.2.2.1 rfl rfl (Nat.le_of_ble_eq_true rfl) (by decide) cv_V_nameRow.2.2.2.2 (c_nameRow14 z (wh T (upn (th T) (8 * p + q) i)) (vo (wh T (upn (th T) (8 * p + q) i)) 24) _ hTz (tok_wh hto (by omega)) hCz (vk_vo (tok_wh hto (by omega)) 24 (by omega)).1) ?_
        rintro r x ⟨hr, hu⟩
        rw [hr, hu]
        clear hr hu r x
        refine x_isN rfl rfl (by decide) (by omega) ?_
        refine run_ok 1 (c' := (69, [(0, .ref 0), (1, .int (nI p)), (2, .int (nI q)), (3, .int (nI (bst (fun i => fitb (wh T (upn (th T) (8 * p + q) i)) (vo (wh T (upn (th T) (8 * p + q) i)) 24) G G.1) i + 1 * 2 ^ i))), (4, .int (nI i + nI 1))], [], (pt z 47 i (nI (nro (nmb (wh T (upn (th T) (8 * p + q) i)) (vo (wh T (upn (th T) (8 * p + q) i)) 24) 23) (tnb T)))))) rfl ?_
        rw [nI_add i 1]
        refine run_ok 1 (c' := (16, [(0, .ref 0), (1, .int (nI p)), (2, .int (nI q)), (3, .int (nI (bst (fun i => fitb (wh T (upn (th T) (8 * p + q) i)) (vo (wh T (upn (th T) (8 * p + q) i)) 24) G G.1) i + 1 * 2 ^ i))), (4, .int (nI (i + 1)))], [], (pt z 47 i (nI (nro (nmb (wh T (upn (th T) (8 * p + q) i)) (vo (wh T (upn (th T) (8 * p + q) i)) 24) 23) (tnb T)))))) rfl ?_
        rw [show bst (fun i => fitb (wh T (upn (th T) (8 * p + q) i)) (vo (wh T (upn (th T) (8 * p + q) i)) 24) G G.1) (i + 1) = bst (fun i => fitb (wh T (upn (th T) (8 * p + q) i)) (vo (wh T (upn (th T) (8 * p + q) i)) 24) G G.1) i + 1 * 2 ^ i from bst_s h42] at ih
        refine ih _ (upn (th T) (8 * p + q) i) (show TR 14 (wh T (upn (th T) (8 * p + q) i)) (pt z 47 i _) from hTz.keep (ks := [47]) (fr.rf.pt (by decide)) (by decide)) (fun j hj => upn_n hj) (fun j hj => ?_) (hfv.tr (((fr.rf.pt (by decide)).tr (hfz.sub (by decide))).pt (by decide)))
        show upd (z.1 47) i _ j = _
        by_cases e : j = i
        · rw [e, upd_s]
        · rw [upd_n e, hfz 47 (by decide)]; exact h47 j (by omega)
  refine run_ok 4 (c' := (8, [(0, .ref 0), (1, .int (nI p)), (2, .int (nI q))], [.ref 5, .ref 14], S)) rfl ?_
  refine x_callV [.ref 5] rfl cv_T_become.1 lk_6_220 cv_T_become.2.1 cv_T_become.2.2.1 rfl cv_T_become.2.2.2.1 rfl rfl (Nat.le_of_ble_eq_true rfl) (by decide) cv_T_become.2.2.2.2 (c_become S T hT hto hne) ?_
  rintro r v1 ⟨hr, hTb, hfb, h2b⟩
  rw [hr]
  clear hr r
  refine run_ok 4 (c' := (16, [(0, .ref 0), (1, .int (nI p)), (2, .int (nI q)), (3, .int (nI 0)), (4, .int (nI 0))], [], v1)) rfl ?_
  exact H 0 (by omega) v1 (th T) hTb (fun _ _ => rfl) (fun j hj => absurd hj (Nat.not_lt_zero _)) (hfb.sub (by decide))

set_option maxHeartbeats 2000000 in
theorem c_hated_bad (S : ST) (x y : Int32) (hbad : ¬ ((0 ≤ x ∧ x < nI 8) ∧ (0 ≤ y ∧ y < nI 8) ∧ ¬ x = y)) : EX me_N_hated 7 [.ref 0, .int x, .int y] S (fun r u => r = some (.int ((-2))) ∧ u = S) := by
  refine EX.of mok_N_hated (Nat.le_of_ble_eq_true rfl) ?_
  refine run_ok 2 (c' := (2, [(0, .ref 0), (1, .int x), (2, .int y)], [.int y, .int x], S)) rfl ?_
  refine x_callS [.int x, .int y] rfl cs_N_areTwo.1 lk_6_97 cs_N_areTwo.2.1 rfl rfl (Nat.le_of_ble_eq_true rfl) (by decide) cs_N_areTwo.2.2 (c_areTwo S (x) (y)) ?_
  rintro r u ⟨hr, hu⟩
  rw [hr, hu]
  clear hr hu r u
  refine x_ifB_eq 17 rfl rfl (fun h5 => ?_) (fun h5 => ?_)
  · refine run_ok 1 (c' := (19, [(0, .ref 0), (1, .int x), (2, .int y)], [.int (-2)], S)) rfl ?_
    exact x_ret (r := some (.int (-2))) rfl rfl trivial ⟨rfl, rfl⟩ rfl
  · exact absurd h5 hbad

set_option maxHeartbeats 2000000 in
theorem c_hated_ok (S : ST) (T : TD) (hT : TR 5 T S) (hto : tok T) (hne : tne T ≤ 8) (G : SD) (hg : SR G S) (hgo : sok G) (p q : Nat) (hp : p < 8) (hq : q < 8) (hpq : p ≠ q) : EX me_N_hated 7 [.ref 0, .int (nI p), .int (nI q)] S (fun r u => r = some (.int (nI (bst (fun i => fitb (wh T (upn (th T) (8 * p + q) i)) (vo (wh T (upn (th T) (8 * p + q) i)) 24) G G.1) 10))) ∧ fr CQ S u) := by
  refine EX.of mok_N_hated (Nat.le_of_ble_eq_true rfl) ?_
  obtain ⟨n8, n9, hbt, het, hht, hlo⟩ := id hto
  obtain ⟨t1, t2, t3, t4, t5, t6, t7, t8, t9, t10, t11⟩ := id hT
  refine run_ok 2 (c' := (2, [(0, .ref 0), (1, .int (nI p)), (2, .int (nI q))], [.int (nI q), .int (nI p)], S)) rfl ?_
  refine x_callS [.int (nI p), .int (nI q)] rfl cs_N_areTwo.1 lk_6_97 cs_N_areTwo.2.1 rfl rfl (Nat.le_of_ble_eq_true rfl) (by decide) cs_N_areTwo.2.2 (c_areTwo S (nI p) (nI q)) ?_
  rintro r u ⟨hr, hu⟩
  rw [hr, hu]
  clear hr hu r u
  refine x_ifB_eq 17 rfl rfl (fun hn => absurd hn (fun z => z (two_t hp hq hpq))) (fun h5 => ?_)
  refine run_ok 3 (c' := (11, [(0, .ref 0), (1, .int (nI p)), (2, .int (nI q))], [.int (nI q), .int (nI p), .ref 0], S)) rfl ?_
  refine x_callV [.int (nI p), .int (nI q)] rfl cv_N_seekHated.1 lk_6_229 cv_N_seekHated.2.1 cv_N_seekHated.2.2.1 rfl cv_N_seekHated.2.2.2.1 rfl rfl (Nat.le_of_ble_eq_true rfl) (by decide) cv_N_seekHated.2.2.2.2 (c_seekHated S T hT hto hne G hg hgo p q hp hq) ?_
  rintro r u ⟨hr, h47, hfu⟩
  rw [hr]
  clear hr r
  refine run_ok 1 (c' := (19, [(0, .ref 0), (1, .int (nI p)), (2, .int (nI q))], [.int (nI (bst (fun i => fitb (wh T (upn (th T) (8 * p + q) i)) (vo (wh T (upn (th T) (8 * p + q) i)) 24) G G.1) 10))], u)) rfl ?_
  exact x_ret (r := some (.int (nI (bst (fun i => fitb (wh T (upn (th T) (8 * p + q) i)) (vo (wh T (upn (th T) (8 * p + q) i)) 24) G G.1) 10)))) rfl rfl trivial ⟨rfl, hfu⟩ rfl
end
section
/-! the week to ask; events by a seed -/
theorem nx_xor (a b : Nat) : nI a ^^^ nI b = nI (a ^^^ b) := by
  apply Int32.toBitVec_inj.1
  show BitVec.ofNat 32 a ^^^ BitVec.ofNat 32 b = BitVec.ofNat 32 (a ^^^ b)
  apply BitVec.eq_of_getLsbD_eq
  intro i hi
  simp [hi]
theorem and3 (x y z : Int32) : (x &&& y) &&& z = (x &&& z) &&& (y &&& z) := by
  apply Int32.toBitVec_inj.1
  show (x.toBitVec &&& y.toBitVec) &&& z.toBitVec = (x.toBitVec &&& z.toBitVec) &&& (y.toBitVec &&& z.toBitVec)
  apply BitVec.eq_of_getLsbD_eq
  intro i hi
  simp only [BitVec.getLsbD_and]
  cases x.toBitVec.getLsbD i <;> cases y.toBitVec.getLsbD i <;> cases z.toBitVec.getLsbD i <;> rfl
theorem b2_and (p q : Prop) [Decidable p] [Decidable q] : b2 p &&& b2 q = b2 (p ∧ q) := by
  unfold b2
  by_cases hp : p <;> by_cases hq : q
  · rw [if_pos hp, if_pos hq, if_pos ⟨hp, hq⟩]; decide
  · rw [if_pos hp, if_neg hq, if_neg (fun z => hq z.2)]; decide
  · rw [if_neg hp, if_pos hq, if_neg (fun z => hp z.1)]; decide
  · rw [if_neg hp, if_neg hq, if_neg (fun z => hp z.1)]; decide
theorem bit2 {h m n : Nat} (hh : h < 2147483648) (hm : m < 32) (hn : n < 32) : ((nI h >>> (nI m &&& 31)) &&& (nI h >>> (nI n &&& 31))) &&& nI 1 = b2 (h.testBit m = true ∧ h.testBit n = true) := by
  rw [and3, bit_b hh hm, bit_b hh hn, b2_and]
theorem nI_z {n : Nat} (h : n < 4294967296) : nI n = 0 ↔ n = 0 := by
  refine ⟨fun e => ?_, fun e => by rw [e]; rfl⟩
  have h1 := pk_tn (n := n) h
  rw [e] at h1
  have h2 : ((0 : Int32)).toBitVec.toNat = 0 := by decide
  omega
theorem maxN {a b : Nat} (ha : a < 2147483648) (hb : b < 2147483648) : (if nI a < nI b then nI b else nI a) = nI (max a b) := by
  by_cases h : a < b
  · rw [if_pos ((nI_ltI ha hb).mpr h), Nat.max_eq_right (by omega)]
  · rw [if_neg (fun z => h ((nI_ltI ha hb).mp z)), Nat.max_eq_left (by omega)]
def ggq (h : Nat) (R : Nat → Nat) (mask m n : Nat) : Bool := decide ((h.testBit m = true ∧ h.testBit n = true) ∧ (R m ^^^ R n) &&& mask = 0)
def ggm (h : Nat) (R : Nat → Nat) (mask : Nat) : Nat → Nat
  | 0 => 0
  | m + 1 => max (ggm h R mask m) (cnt (ggq h R mask m) 10)
theorem ggm_le (h : Nat) (R : Nat → Nat) (mask : Nat) : ∀ m, ggm h R mask m ≤ 10 := by
  intro m
  induction m with
  | zero => exact Nat.zero_le 10
  | succ m ih =>
    have := cnt_le (ggq h R mask m) 10
    show max _ _ ≤ 10
    omega
def wta (T : TD) (h : Nat) (R : Nat → Nat) : Nat → Nat × Nat
  | 0 => (99, 0)
  | w + 1 => bdn (wta T h R w) w (ggm h R (mrow T w (tnb T)) 10)
theorem wta_le (T : TD) (h : Nat) (R : Nat → Nat) : ∀ p, p ≤ 24 → (wta T h R p).1 ≤ 99 ∧ (wta T h R p).2 ≤ 10 := by
  intro p
  induction p with
  | zero => intro _; exact ⟨Nat.le_refl 99, Nat.zero_le 10⟩
  | succ p ih =>
    intro hp
    have q := ih (by omega)
    exact bdn_le q.1 (by omega) q.2 (ggm_le _ _ _ _)
theorem xand_lt {a b m : Nat} (hm : m < 4294967296) : (a ^^^ b) &&& m < 4294967296 := Nat.lt_of_le_of_lt Nat.and_le_right hm
set_option maxHeartbeats 2000000 in
theorem c_greatest (S : ST) (h k : Nat) (R : Nat → Nat) (hh : h < 1024) (hk : k < 4294967296) (h47 : rh S 47 10 R) : EX me_N_greatestGroup 1 [.ref 0, .int (nI h), .int (nI k)] S (fun r u => r = some (.int (nI (ggm h R k 10))) ∧ u = S) := by
  refine EX.of mok_N_greatestGroup (Nat.le_of_ble_eq_true rfl) ?_
  have H : ∀ m, m ≤ 10 → BX me_N_greatestGroup 1 none (fun r u => r = some (.int (nI (ggm h R k 10))) ∧ u = S) (5, [(0, .ref 0), (1, .int (nI h)), (2, .int (nI k)), (3, .int (nI (ggm h R k m))), (4, .int (nI m))], [], S) := by
    refine loop_up (P := fun m => BX me_N_greatestGroup 1 none (fun r u => r = some (.int (nI (ggm h R k 10))) ∧ u = S) (5, [(0, .ref 0), (1, .int (nI h)), (2, .int (nI k)), (3, .int (nI (ggm h R k m))), (4, .int (nI m))], [], S)) 10 ?_ ?_
    · skip
      refine run_ok 2 (c' := (9, [(0, .ref 0), (1, .int (nI h)), (2, .int (nI k)), (3, .int (nI (ggm h R k 10))), (4, .int (nI 10))], [.int (nI 9), .int (nI 10)], S)) rfl ?_
      refine x_icmpN_gt 94 rfl rfl (by omega) (by omega) (fun h9 => ?_) (fun hn => absurd (show 9 < 10 by decide) hn)
      refine run_ok 1 (c' := (95, [(0, .ref 0), (1, .int (nI h)), (2, .int (nI k)), (3, .int (nI (ggm h R k 10))), (4, .int (nI 10))], [.int (nI (ggm h R k 10))], S)) rfl ?_
      exact x_ret (r := some (.int (nI (ggm h R k 10)))) rfl rfl trivial ⟨rfl, rfl⟩ rfl
    · intro m hm ih
      have q1 := ggm_le h R k m
      have HI : ∀ n, n ≤ 10 → BX me_N_greatestGroup 1 none (fun r u => r = some (.int (nI (ggm h R k 10))) ∧ u = S) (18, [(0, .ref 0), (1, .int (nI h)), (2, .int (nI k)), (3, .int (nI (ggm h R k m))), (4, .int (nI m)), (5, .int (nI (cnt (ggq h R k m) n))), (6, .int (nI n))], [], S) := by
        refine loop_up (P := fun n => BX me_N_greatestGroup 1 none (fun r u => r = some (.int (nI (ggm h R k 10))) ∧ u = S) (18, [(0, .ref 0), (1, .int (nI h)), (2, .int (nI k)), (3, .int (nI (ggm h R k m))), (4, .int (nI m)), (5, .int (nI (cnt (ggq h R k m) n))), (6, .int (nI n))], [], S)) 10 ?_ ?_
        · skip
          have q2 := cnt_le (ggq h R k m) 10
          refine run_ok 2 (c' := (22, [(0, .ref 0), (1, .int (nI h)), (2, .int (nI k)), (3, .int (nI (ggm h R k m))), (4, .int (nI m)), (5, .int (nI (cnt (ggq h R k m) 10))), (6, .int (nI 10))], [.int (nI 9), .int (nI 10)], S)) rfl ?_
          refine x_icmpN_gt 81 rfl rfl (by omega) (by omega) (fun h22 => ?_) (fun hn => absurd (show 9 < 10 by decide) hn)
          refine run_ok 2 (c' := (84, [(0, .ref 0), (1, .int (nI h)), (2, .int (nI k)), (3, .int (nI (ggm h R k m))), (4, .int (nI m)), (5, .int (nI (cnt (ggq h R k m) 10))), (6, .int (nI 10))], [.int (nI (cnt (ggq h R k m) 10)), .int (nI (ggm h R k m))], S)) rfl ?_
          refine x_mmax rfl lk_6_375 wm_max.1 wm_max.2.1 wm_max.2.2 (Nat.le_of_ble_eq_true rfl) (by decide) ?_
          refine x_top (v' := nI (max (ggm h R k m) (cnt (ggq h R k m) 10))) (maxN (by omega) (by omega)) ?_
          refine run_ok 2 (c' := (91, [(0, .ref 0), (1, .int (nI h)), (2, .int (nI k)), (3, .int (nI (max (ggm h R k m) (cnt (ggq h R k m) 10)))), (4, .int (nI m + nI 1)), (5, .int (nI (cnt (ggq h R k m) 10))), (6, .int (nI 10))], [], S)) rfl ?_
          rw [nI_add m 1]
          refine run_ok 1 (c' := (5, [(0, .ref 0), (1, .int (nI h)), (2, .int (nI k)), (3, .int (nI (max (ggm h R k m) (cnt (ggq h R k m) 10)))), (4, .int (nI (m + 1))), (5, .int (nI (cnt (ggq h R k m) 10))), (6, .int (nI 10))], [], S)) rfl ?_
          refine x_less [0, 1, 2, 3, 4] rfl ?_
          exact ih
        · intro n hn ihn
          refine run_ok 2 (c' := (22, [(0, .ref 0), (1, .int (nI h)), (2, .int (nI k)), (3, .int (nI (ggm h R k m))), (4, .int (nI m)), (5, .int (nI (cnt (ggq h R k m) n))), (6, .int (nI n))], [.int (nI 9), .int (nI n)], S)) rfl ?_
          refine x_icmpN_gt 81 rfl rfl (by omega) (by omega) (fun hn => absurd hn (show ¬ 9 < n by omega)) (fun h22 => ?_)
          refine run_ok 9 (c' := (36, [(0, .ref 0), (1, .int (nI h)), (2, .int (nI k)), (3, .int (nI (ggm h R k m))), (4, .int (nI m)), (5, .int (nI (cnt (ggq h R k m) n))), (6, .int (nI n))], [.int ((((nI h) >>> ((nI m) &&& 31)) &&& ((nI h) >>> ((nI n) &&& 31))) &&& (nI 1))], S)) rfl ?_
          refine x_top (v' := b2 (h.testBit m = true ∧ h.testBit n = true)) (bit2 (by omega) (by omega) (by omega)) ?_
          refine run_ok 1 (c' := (37, [(0, .ref 0), (1, .int (nI h)), (2, .int (nI k)), (3, .int (nI (ggm h R k m))), (4, .int (nI m)), (5, .int (nI (cnt (ggq h R k m) n))), (6, .int (nI n))], [.int (nI 1), .int (b2 (h.testBit m = true ∧ h.testBit n = true))], S)) rfl ?_
          refine x_icmpB_ne 44 rfl rfl (fun h37 => ?_) (fun h37 => ?_)
          · refine run_ok 2 (c' := (47, [(0, .ref 0), (1, .int (nI h)), (2, .int (nI k)), (3, .int (nI (ggm h R k m))), (4, .int (nI m)), (5, .int (nI (cnt (ggq h R k m) n))), (6, .int (nI n)), (7, .int (nI 0))], [], S)) rfl ?_
            refine run_ok 1 (c' := (49, [(0, .ref 0), (1, .int (nI h)), (2, .int (nI k)), (3, .int (nI (ggm h R k m))), (4, .int (nI m)), (5, .int (nI (cnt (ggq h R k m) n))), (6, .int (nI n)), (7, .int (nI 0))], [.int (nI 0)], S)) rfl ?_
            refine x_ifN_eq 75 rfl rfl (by omega) (fun h49 => ?_) (fun hn => absurd rfl hn)
            refine run_ok 1 (c' := (78, [(0, .ref 0), (1, .int (nI h)), (2, .int (nI k)), (3, .int (nI (ggm h R k m))), (4, .int (nI m)), (5, .int (nI (cnt (ggq h R k m) n))), (6, .int (nI n + nI 1)), (7, .int (nI 0))], [], S)) rfl ?_
            rw [nI_add n 1]
            refine run_ok 1 (c' := (18, [(0, .ref 0), (1, .int (nI h)), (2, .int (nI k)), (3, .int (nI (ggm h R k m))), (4, .int (nI m)), (5, .int (nI (cnt (ggq h R k m) n))), (6, .int (nI (n + 1))), (7, .int (nI 0))], [], S)) rfl ?_
            rw [show cnt (ggq h R k m) (n + 1) = cnt (ggq h R k m) n from cnt_z (decide_eq_false (fun z => h37 z.1))] at ihn
            refine x_less [0, 1, 2, 3, 4, 5, 6] rfl ?_
            exact ihn
          · refine run_ok 3 (c' := (47, [(0, .ref 0), (1, .int (nI h)), (2, .int (nI k)), (3, .int (nI (ggm h R k m))), (4, .int (nI m)), (5, .int (nI (cnt (ggq h R k m) n))), (6, .int (nI n)), (7, .int (nI 1))], [], S)) rfl ?_
            refine run_ok 1 (c' := (49, [(0, .ref 0), (1, .int (nI h)), (2, .int (nI k)), (3, .int (nI (ggm h R k m))), (4, .int (nI m)), (5, .int (nI (cnt (ggq h R k m) n))), (6, .int (nI n)), (7, .int (nI 1))], [.int (nI 1)], S)) rfl ?_
            refine x_ifN_eq 75 rfl rfl (by omega) (fun hn => absurd hn (by omega)) (fun h49 => ?_)
            refine run_ok 3 (c' := (58, [(0, .ref 0), (1, .int (nI h)), (2, .int (nI k)), (3, .int (nI (ggm h R k m))), (4, .int (nI m)), (5, .int (nI (cnt (ggq h R k m) n))), (6, .int (nI n)), (7, .int (nI 1))], [.int (nI m), .ref 47], S)) rfl ?_
            refine x_iaN (nI (R m)) rfl rfl (by decide) (by omega) (h47 m (by omega)) ?_
            refine run_ok 3 (c' := (65, [(0, .ref 0), (1, .int (nI h)), (2, .int (nI k)), (3, .int (nI (ggm h R k m))), (4, .int (nI m)), (5, .int (nI (cnt (ggq h R k m) n))), (6, .int (nI n)), (7, .int (nI 1))], [.int (nI n), .ref 47, .int (nI (R m))], S)) rfl ?_
            refine x_iaN (nI (R n)) rfl rfl (by decide) (by omega) (h47 n (by omega)) ?_
            refine run_ok 3 (c' := (69, [(0, .ref 0), (1, .int (nI h)), (2, .int (nI k)), (3, .int (nI (ggm h R k m))), (4, .int (nI m)), (5, .int (nI (cnt (ggq h R k m) n))), (6, .int (nI n)), (7, .int (nI 1))], [.int (((nI (R m)) ^^^ (nI (R n))) &&& (nI k))], S)) rfl ?_
            refine x_top (v' := nI ((R m ^^^ R n) &&& k)) (by rw [nx_xor, fa_and]) ?_
            refine x_if_ne 75 rfl rfl (fun h69 => ?_) (fun h69 => ?_)
            · refine run_ok 1 (c' := (78, [(0, .ref 0), (1, .int (nI h)), (2, .int (nI k)), (3, .int (nI (ggm h R k m))), (4, .int (nI m)), (5, .int (nI (cnt (ggq h R k m) n))), (6, .int (nI n + nI 1)), (7, .int (nI 1))], [], S)) rfl ?_
              rw [nI_add n 1]
              refine run_ok 1 (c' := (18, [(0, .ref 0), (1, .int (nI h)), (2, .int (nI k)), (3, .int (nI (ggm h R k m))), (4, .int (nI m)), (5, .int (nI (cnt (ggq h R k m) n))), (6, .int (nI (n + 1))), (7, .int (nI 1))], [], S)) rfl ?_
              rw [show cnt (ggq h R k m) (n + 1) = cnt (ggq h R k m) n from cnt_z (decide_eq_false (fun z => h69 ((nI_z (xand_lt hk)).mpr z.2)))] at ihn
              refine x_less [0, 1, 2, 3, 4, 5, 6] rfl ?_
              exact ihn
            · refine run_ok 1 (c' := (75, [(0, .ref 0), (1, .int (nI h)), (2, .int (nI k)), (3, .int (nI (ggm h R k m))), (4, .int (nI m)), (5, .int (nI (cnt (ggq h R k m) n) + nI 1)), (6, .int (nI n)), (7, .int (nI 1))], [], S)) rfl ?_
              rw [nI_add (cnt (ggq h R k m) n) 1]
              refine run_ok 1 (c' := (78, [(0, .ref 0), (1, .int (nI h)), (2, .int (nI k)), (3, .int (nI (ggm h R k m))), (4, .int (nI m)), (5, .int (nI (cnt (ggq h R k m) n + 1))), (6, .int (nI n + nI 1)), (7, .int (nI 1))], [], S)) rfl ?_
              rw [nI_add n 1]
              refine run_ok 1 (c' := (18, [(0, .ref 0), (1, .int (nI h)), (2, .int (nI k)), (3, .int (nI (ggm h R k m))), (4, .int (nI m)), (5, .int (nI (cnt (ggq h R k m) n + 1))), (6, .int (nI (n + 1))), (7, .int (nI 1))], [], S)) rfl ?_
              rw [show cnt (ggq h R k m) (n + 1) = cnt (ggq h R k m) n + 1 from cnt_s (decide_eq_true ⟨h37, (nI_z (xand_lt hk)).mp h69⟩)] at ihn
              refine x_less [0, 1, 2, 3, 4, 5, 6] rfl ?_
              exact ihn
      refine run_ok 2 (c' := (9, [(0, .ref 0), (1, .int (nI h)), (2, .int (nI k)), (3, .int (nI (ggm h R k m))), (4, .int (nI m))], [.int (nI 9), .int (nI m)], S)) rfl ?_
      refine x_icmpN_gt 94 rfl rfl (by omega) (by omega) (fun hn => absurd hn (show ¬ 9 < m by omega)) (fun h9 => ?_)
      refine run_ok 4 (c' := (18, [(0, .ref 0), (1, .int (nI h)), (2, .int (nI k)), (3, .int (nI (ggm h R k m))), (4, .int (nI m)), (5, .int (nI 0)), (6, .int (nI 0))], [], S)) rfl ?_
      exact HI 0 (by omega)
  refine run_ok 4 (c' := (5, [(0, .ref 0), (1, .int (nI h)), (2, .int (nI k)), (3, .int (nI (ggm h R k 0))), (4, .int (nI 0))], [], S)) rfl ?_
  exact H 0 (by omega)

set_option maxHeartbeats 2000000 in
theorem c_weekToAsk (S : ST) (T : TD) (hT : TR 5 T S) (hto : tok T) (h : Nat) (R : Nat → Nat) (hh : h < 1024) (h47 : rh S 47 10 R) : EX me_N_weekToAsk 2 [.ref 0, .int (nI h)] S (fun r u => r = some (.int (whv (wta T h R 24).1)) ∧ fr CQ S u) := by
  refine EX.of mok_N_weekToAsk (Nat.le_of_ble_eq_true rfl) ?_
  obtain ⟨n8, n9, hbt, het, hht, hlo⟩ := id hto
  obtain ⟨t1, t2, t3, t4, t5, t6, t7, t8, t9, t10, t11⟩ := id hT
  have H : ∀ i, i ≤ 24 → ∀ v : ST, BN (wta T h R i) v → fr [36] S v → BX me_N_weekToAsk 2 none (fun r u => r = some (.int (whv (wta T h R 24).1)) ∧ fr CQ S u) (9, [(0, .ref 0), (1, .int (nI h)), (2, .int (nI i))], [], v) := by
    refine loop_up (P := fun i => ∀ v : ST, BN (wta T h R i) v → fr [36] S v → BX me_N_weekToAsk 2 none (fun r u => r = some (.int (whv (wta T h R 24).1)) ∧ fr CQ S u) (9, [(0, .ref 0), (1, .int (nI h)), (2, .int (nI i))], [], v)) 24 ?_ ?_
    · intro v hb hfv
      have hb1 := hb.1
      refine run_ok 2 (c' := (12, [(0, .ref 0), (1, .int (nI h)), (2, .int (nI 24))], [.int (nI 24), .int (nI 24)], v)) rfl ?_
      refine x_icmpN_ge 43 rfl rfl (by omega) (by omega) (fun h12 => ?_) (fun hn => absurd (Nat.le_refl 24) hn)
      refine run_ok 3 (c' := (50, [(0, .ref 0), (1, .int (nI h)), (2, .int (nI 24))], [.int (v.1 36 0)], v)) rfl ?_
      refine x_top (v' := whv (wta T h R 24).1) hb1 ?_
      exact x_ret (r := some (.int (whv (wta T h R 24).1))) rfl rfl trivial ⟨rfl, hfv.sub (by decide)⟩ rfl
    · intro i hi ih v hb hfv
      have q1 := wta_le T h R i (by omega)
      have q3 := ggm_le h R (mrow T i (tnb T)) 10
      have q2 : mrow T i (tnb T) < 4294967296 := by
        rw [mrow_e]
        refine Nat.lt_of_lt_of_le (nro_lt (fun k _ => by split <;> omega)) (Nat.pow_le_pow_right (by decide) n8 : 16 ^ tnb T ≤ 16 ^ 8)
      refine run_ok 2 (c' := (12, [(0, .ref 0), (1, .int (nI h)), (2, .int (nI i))], [.int (nI 24), .int (nI i)], v)) rfl ?_
      refine x_icmpN_ge 43 rfl rfl (by omega) (by omega) (fun hn => absurd hn (show ¬ 24 ≤ i by omega)) (fun h12 => ?_)
      refine run_ok 8 (c' := (27, [(0, .ref 0), (1, .int (nI h)), (2, .int (nI i))], [.int (nI i), .ref 5, .int (nI h), .ref 0, .int (nI i), .ref 36], v)) rfl ?_
      refine x_callV [.int (nI i)] rfl cv_T_rowMask.1 lk_6_369 cv_T_rowMask.2.1 cv_T_rowMask.2.2.1 rfl cv_T_rowMask.2.2.2.1 rfl rfl (Nat.le_of_ble_eq_true rfl) (by decide) cv_T_rowMask.2.2.2.2 (c_rowMask v T i (hT.keep hfv (by decide)) hto (by omega)) ?_
      rintro r x ⟨hr, hu⟩
      rw [hr, hu]
      clear hr hu r x
      refine x_callV [.int (nI h), .int (nI (mrow T i (tnb T)))] rfl cv_N_greatestGroup.1 lk_6_372 cv_N_greatestGroup.2.1 cv_N_greatestGroup.2.2.1 rfl cv_N_greatestGroup.2.2.2.1 rfl rfl (Nat.le_of_ble_eq_true rfl) (by decide) cv_N_greatestGroup.2.2.2.2 (c_greatest v h (mrow T i (tnb T)) R hh q2 (h47.keep hfv (by decide))) ?_
      rintro r x ⟨hr, hu⟩
      rw [hr, hu]
      clear hr hu r x
      refine run_ok 1 (c' := (34, [(0, .ref 0), (1, .int (nI h)), (2, .int (nI i))], [.int (-(nI (ggm h R (mrow T i (tnb T)) 10))), .int (nI i), .ref 36], v)) rfl ?_
      refine x_callV [.int (nI i), .int (-(nI (ggm h R (mrow T i (tnb T)) 10)))] rfl cv_B_offer.1 lk_6_183 cv_B_offer.2.1 cv_B_offer.2.2.1 rfl cv_B_offer.2.2.2.1 rfl rfl (Nat.le_of_ble_eq_true rfl) (by decide) cv_B_offer.2.2.2.2 (c_offerD v (wta T h R i) i (ggm h R (mrow T i (tnb T)) 10) hb (by omega) (by omega) (by omega) (by omega)) ?_
      rintro r z ⟨hr, hbz, hfz, h2z⟩
      rw [hr]
      clear hr r
      refine run_ok 1 (c' := (40, [(0, .ref 0), (1, .int (nI h)), (2, .int (nI i + nI 1))], [], z)) rfl ?_
      rw [nI_add i 1]
      refine run_ok 1 (c' := (9, [(0, .ref 0), (1, .int (nI h)), (2, .int (nI (i + 1)))], [], z)) rfl ?_
      exact ih z hbz (hfv.tr hfz)
  refine run_ok 2 (c' := (4, [(0, .ref 0), (1, .int (nI h))], [.ref 36], S)) rfl ?_
  refine x_callV [] rfl cv_B_clear.1 lk_6_177 cv_B_clear.2.1 cv_B_clear.2.2.1 rfl cv_B_clear.2.2.2.1 rfl rfl (Nat.le_of_ble_eq_true rfl) (by decide) cv_B_clear.2.2.2.2 (c_clear S) ?_
  rintro r x ⟨hr, hv⟩
  rw [hr, hv]
  clear hr hv r x
  refine run_ok 2 (c' := (9, [(0, .ref 0), (1, .int (nI h)), (2, .int (nI 0))], [], (pt (pt S 36 0 (-1)) 36 1 (nI 0)))) rfl ?_
  exact H 0 (by omega) _ ⟨rfl, (by decide : nI 0 = -(nI 0))⟩ ((fr.rf.pt (by decide)).pt (by decide))

set_option maxHeartbeats 2000000 in
theorem c_ask_bad (S : ST) (x y : Int32) (hbad : ¬ ((0 ≤ x ∧ x < nI 8) ∧ (0 ≤ y ∧ y < nI 8) ∧ ¬ x = y)) : EX me_N_ask 7 [.ref 0, .int x, .int y] S (fun r u => r = some (.int ((-2))) ∧ u = S) := by
  refine EX.of mok_N_ask (Nat.le_of_ble_eq_true rfl) ?_
  refine run_ok 2 (c' := (2, [(0, .ref 0), (1, .int x), (2, .int y)], [.int y, .int x], S)) rfl ?_
  refine x_callS [.int x, .int y] rfl cs_N_areTwo.1 lk_6_97 cs_N_areTwo.2.1 rfl rfl (Nat.le_of_ble_eq_true rfl) (by decide) cs_N_areTwo.2.2 (c_areTwo S (x) (y)) ?_
  rintro r u ⟨hr, hu⟩
  rw [hr, hu]
  clear hr hu r u
  refine x_ifB_ne 11 rfl rfl (fun h5 => ?_) (fun h5 => ?_)
  · exact absurd h5 hbad
  · refine run_ok 1 (c' := (10, [(0, .ref 0), (1, .int x), (2, .int y)], [.int (-2)], S)) rfl ?_
    exact x_ret (r := some (.int (-2))) rfl rfl trivial ⟨rfl, rfl⟩ rfl

set_option maxHeartbeats 2000000 in
theorem c_ask_ok (S : ST) (T : TD) (hT : TR 5 T S) (hto : tok T) (hne : tne T ≤ 8) (G : SD) (hg : SR G S) (hgo : sok G) (p q : Nat) (hp : p < 8) (hq : q < 8) (hpq : p ≠ q) : EX me_N_ask 7 [.ref 0, .int (nI p), .int (nI q)] S (fun r u => r = some (.int (whv (wta T (bst (fun i => fitb (wh T (upn (th T) (8 * p + q) i)) (vo (wh T (upn (th T) (8 * p + q) i)) 24) G G.1) 10) (fun i => nro (nmb (wh T (upn (th T) (8 * p + q) i)) (vo (wh T (upn (th T) (8 * p + q) i)) 24) 23) (tnb T)) 24).1)) ∧ fr CQ S u) := by
  refine EX.of mok_N_ask (Nat.le_of_ble_eq_true rfl) ?_
  obtain ⟨n8, n9, hbt, het, hht, hlo⟩ := id hto
  obtain ⟨t1, t2, t3, t4, t5, t6, t7, t8, t9, t10, t11⟩ := id hT
  refine run_ok 2 (c' := (2, [(0, .ref 0), (1, .int (nI p)), (2, .int (nI q))], [.int (nI q), .int (nI p)], S)) rfl ?_
  refine x_callS [.int (nI p), .int (nI q)] rfl cs_N_areTwo.1 lk_6_97 cs_N_areTwo.2.1 rfl rfl (Nat.le_of_ble_eq_true rfl) (by decide) cs_N_areTwo.2.2 (c_areTwo S (nI p) (nI q)) ?_
  rintro r u ⟨hr, hu⟩
  rw [hr, hu]
  clear hr hu r u
  refine x_ifB_ne 11 rfl rfl (fun h5 => ?_) (fun hn => absurd (two_t hp hq hpq) hn)
  refine run_ok 4 (c' := (15, [(0, .ref 0), (1, .int (nI p)), (2, .int (nI q))], [.int (nI q), .int (nI p), .ref 0, .ref 0], S)) rfl ?_
  refine x_callV [.int (nI p), .int (nI q)] rfl cv_N_seekHated.1 lk_6_229 cv_N_seekHated.2.1 cv_N_seekHated.2.2.1 rfl cv_N_seekHated.2.2.2.1 rfl rfl (Nat.le_of_ble_eq_true rfl) (by decide) cv_N_seekHated.2.2.2.2 (c_seekHated S T hT hto hne G hg hgo p q hp hq) ?_
  rintro r u ⟨hr, h47, hfu⟩
  rw [hr]
  clear hr r
  refine x_callV [.int (nI (bst (fun i => fitb (wh T (upn (th T) (8 * p + q) i)) (vo (wh T (upn (th T) (8 * p + q) i)) 24) G G.1) 10))] rfl cv_N_weekToAsk.1 lk_6_232 cv_N_weekToAsk.2.1 cv_N_weekToAsk.2.2.1 rfl cv_N_weekToAsk.2.2.2.1 rfl rfl (Nat.le_of_ble_eq_true rfl) (by decide) cv_N_weekToAsk.2.2.2.2 (c_weekToAsk u T (hT.keep hfu (by decide)) hto (bst (fun i => fitb (wh T (upn (th T) (8 * p + q) i)) (vo (wh T (upn (th T) (8 * p + q) i)) 24) G G.1) 10) _ (bst_lt _ 10) h47) ?_
  rintro r z ⟨hr, hfz⟩
  rw [hr]
  clear hr r
  exact x_ret (r := some (.int (whv (wta T (bst (fun i => fitb (wh T (upn (th T) (8 * p + q) i)) (vo (wh T (upn (th T) (8 * p + q) i)) 24) G G.1) 10) (fun i => nro (nmb (wh T (upn (th T) (8 * p + q) i)) (vo (wh T (upn (th T) (8 * p + q) i)) 24) 23) (tnb T)) 24).1))) rfl rfl trivial ⟨rfl, hfu.tr hfz⟩ rfl

def sdq (x : Int32) : Nat → Int32
  | 0 => x
  | i + 1 => nsd (nsd (nsd (sdq x i)))
def dkd (x : Int32) (i : Nat) : Nat := lot (nsd (sdq x i)) % 3
def dwk (x : Int32) (i : Nat) : Nat := lot (nsd (nsd (sdq x i))) % 24
def dbt (x : Int32) (nb i : Nat) : Nat := lot (nsd (nsd (nsd (sdq x i)))) % nb
def dec (T : TD) (x : Int32) (n : Nat) : TD := wev T (if tnb T = 0 then 0 else n) (dkd x) (dwk x) (dbt x (tnb T))
theorem TR_wev {t : Nat} {T : TD} {n : Nat} {a b c a' b' c' : Nat → Nat} {u : ST} (h : TR t (wev T n a b c) u) (ha : ∀ e, e < n → a' e = a e) (hb : ∀ e, e < n → b' e = b e) (hc : ∀ e, e < n → c' e = c e) : TR t (wev T n a' b' c') u := by
  obtain ⟨h1, h2, h3, h4, h5, h6, h7, h8, h9, h10, h11⟩ := h
  exact ⟨h1, h2, h3, h4, h5, h6.cg ha, h7.cg hb, h8.cg hc, h9, h10, h11⟩
theorem tok_dec {T : TD} (h : tok T) (x : Int32) {n : Nat} (hn : n ≤ 8) : tok (dec T x n) := by
  refine ⟨h.1, ?_, h.2.2.1, fun e he => ?_, h.2.2.2.2.1, h.2.2.2.2.2⟩
  · show (if tnb T = 0 then 0 else n) ≤ 9
    split <;> omega
  · have he' : e < (if tnb T = 0 then 0 else n) := he
    have h8 := h.1
    split at he'
    · omega
    · refine ⟨Nat.mod_lt _ (by decide), Nat.mod_lt _ (by decide), ?_⟩
      show lot _ % tnb T < 8
      have := Nat.mod_lt (lot (nsd (nsd (nsd (sdq x e))))) (show 0 < tnb T by omega)
      omega
set_option maxHeartbeats 2000000 in
theorem c_drawEvents (S : ST) (T : TD) (x : Int32) (n : Nat) (hT : TR 14 T S) (hto : tok T) (hn : n ≤ 8) : EX me_T_drawEvents 1 [.ref 14, .int x, .int (nI n)] S (fun r u => r = none ∧ TR 14 (dec T x n) u ∧ fr TL S u ∧ u.2 = S.2) := by
  refine EX.of mok_T_drawEvents (Nat.le_of_ble_eq_true rfl) ?_
  obtain ⟨n8, n9, hbt, het, hht, hlo⟩ := id hto
  obtain ⟨t1, t2, t3, t4, t5, t6, t7, t8, t9, t10, t11⟩ := id hT
  by_cases h0 : tnb T = 0
  · have H0 : BX me_T_drawEvents 1 none (fun r u => r = none ∧ TR 14 (dec T x n) u ∧ fr TL S u ∧ u.2 = S.2) (10, [(0, .ref 14), (1, .int x), (2, .int (nI n)), (3, .int (sdq x 0)), (4, .int (nI 0))], [], pt S 14 10 (nI 0)) := by
      refine run_ok 2 (c' := (13, [(0, .ref 14), (1, .int x), (2, .int (nI n)), (3, .int (sdq x 0)), (4, .int (nI 0))], [.int (nI n), .int (nI 0)], (pt S 14 10 (nI 0)))) rfl ?_
      refine x_icmpN_ge 76 rfl rfl (by omega) (by omega) (fun h13 => ?_) (fun h13 => ?_)
      · exact x_ret (r := none) rfl rfl trivial ⟨rfl, (show TR 14 (dec T x n) (pt S 14 10 (nI 0)) from ⟨t1, t2, t3, t4, t5, fun j hj => absurd hj (by show ¬ j < (if tnb T = 0 then 0 else n); rw [if_pos h0]; omega), fun j hj => absurd hj (by show ¬ j < (if tnb T = 0 then 0 else n); rw [if_pos h0]; omega), fun j hj => absurd hj (by show ¬ j < (if tnb T = 0 then 0 else n); rw [if_pos h0]; omega), t9, (show nI 0 = nI (if tnb T = 0 then 0 else n) by rw [if_pos h0]), t11⟩), fr.rf.pt (by decide), rfl⟩ rfl
      · refine run_ok 2 (c' := (20, [(0, .ref 14), (1, .int x), (2, .int (nI n)), (3, .int (sdq x 0)), (4, .int (nI 0))], [.int (S.1 14 6)], (pt S 14 10 (nI 0)))) rfl ?_
        refine x_top (v' := nI (tnb T)) t9 ?_
        refine x_ifN_le 76 rfl rfl (by omega) (fun h20 => ?_) (fun hn => absurd (show tnb T ≤ 0 by omega) hn)
        exact x_ret (r := none) rfl rfl trivial ⟨rfl, (show TR 14 (dec T x n) (pt S 14 10 (nI 0)) from ⟨t1, t2, t3, t4, t5, fun j hj => absurd hj (by show ¬ j < (if tnb T = 0 then 0 else n); rw [if_pos h0]; omega), fun j hj => absurd hj (by show ¬ j < (if tnb T = 0 then 0 else n); rw [if_pos h0]; omega), fun j hj => absurd hj (by show ¬ j < (if tnb T = 0 then 0 else n); rw [if_pos h0]; omega), t9, (show nI 0 = nI (if tnb T = 0 then 0 else n) by rw [if_pos h0]), t11⟩), fr.rf.pt (by decide), rfl⟩ rfl
    refine run_ok 7 (c' := (10, [(0, .ref 14), (1, .int x), (2, .int (nI n)), (3, .int (sdq x 0)), (4, .int (nI 0))], [], pt S 14 10 (nI 0))) rfl ?_
    exact H0
  · have H : ∀ i, i ≤ n → ∀ v : ST, TR 14 (wev T i (dkd x) (dwk x) (dbt x (tnb T))) v → fr TL S v → v.2 = S.2 → BX me_T_drawEvents 1 none (fun r u => r = none ∧ TR 14 (dec T x n) u ∧ fr TL S u ∧ u.2 = S.2) (10, [(0, .ref 14), (1, .int x), (2, .int (nI n)), (3, .int (sdq x i)), (4, .int (nI i))], [], v) := by
      refine loop_up (P := fun i => ∀ v : ST, TR 14 (wev T i (dkd x) (dwk x) (dbt x (tnb T))) v → fr TL S v → v.2 = S.2 → BX me_T_drawEvents 1 none (fun r u => r = none ∧ TR 14 (dec T x n) u ∧ fr TL S u ∧ u.2 = S.2) (10, [(0, .ref 14), (1, .int x), (2, .int (nI n)), (3, .int (sdq x i)), (4, .int (nI i))], [], v)) n ?_ ?_
      · intro v hTv hfv h2
        refine run_ok 2 (c' := (13, [(0, .ref 14), (1, .int x), (2, .int (nI n)), (3, .int (sdq x n)), (4, .int (nI n))], [.int (nI n), .int (nI n)], v)) rfl ?_
        refine x_icmpN_ge 76 rfl rfl (by omega) (by omega) (fun h13 => ?_) (fun hn => absurd (Nat.le_refl _) hn)
        exact x_ret (r := none) rfl rfl trivial ⟨rfl, by unfold dec; rw [if_neg h0]; exact hTv, hfv, h2⟩ rfl
      · intro i hi ih v hTv hfv h2
        have q1 := lot_lt (nsd (sdq x i))
        have q2 := lot_lt (nsd (nsd (sdq x i)))
        have q3 := lot_lt (nsd (nsd (nsd (sdq x i))))
        have t9v : v.1 14 6 = nI (tnb T) := hTv.2.2.2.2.2.2.2.2.1
        refine run_ok 2 (c' := (13, [(0, .ref 14), (1, .int x), (2, .int (nI n)), (3, .int (sdq x i)), (4, .int (nI i))], [.int (nI n), .int (nI i)], v)) rfl ?_
        refine x_icmpN_ge 76 rfl rfl (by omega) (by omega) (fun hn => absurd hn (show ¬ n ≤ i by omega)) (fun h13 => ?_)
        refine run_ok 2 (c' := (20, [(0, .ref 14), (1, .int x), (2, .int (nI n)), (3, .int (sdq x i)), (4, .int (nI i))], [.int (v.1 14 6)], v)) rfl ?_
        refine x_top (v' := nI (tnb T)) t9v ?_
        refine x_ifN_le 76 rfl rfl (by omega) (fun hn => absurd hn (show ¬ tnb T ≤ 0 by omega)) (fun h20 => ?_)
        refine run_ok 1 (c' := (24, [(0, .ref 14), (1, .int x), (2, .int (nI n)), (3, .int (sdq x i)), (4, .int (nI i))], [.int (sdq x i)], v)) rfl ?_
        refine x_callS [.int (sdq x i)] rfl cs_T_nextSeed.1 lk_3_89 cs_T_nextSeed.2.1 rfl rfl (Nat.le_of_ble_eq_true rfl) (by decide) cs_T_nextSeed.2.2 (c_nextSeed v (sdq x i)) ?_
        rintro r y ⟨hr, hu⟩
        rw [hr, hu]
        clear hr hu r y
        refine run_ok 2 (c' := (31, [(0, .ref 14), (1, .int x), (2, .int (nI n)), (3, .int (sdq x i)), (4, .int (nI i)), (5, .int (nsd (sdq x i)))], [.int (nsd (sdq x i))], v)) rfl ?_
        refine x_callS [.int (nsd (sdq x i))] rfl cs_T_nextSeed.1 lk_3_89 cs_T_nextSeed.2.1 rfl rfl (Nat.le_of_ble_eq_true rfl) (by decide) cs_T_nextSeed.2.2 (c_nextSeed v (nsd (sdq x i))) ?_
        rintro r y ⟨hr, hu⟩
        rw [hr, hu]
        clear hr hu r y
        refine run_ok 2 (c' := (38, [(0, .ref 14), (1, .int x), (2, .int (nI n)), (3, .int (sdq x i)), (4, .int (nI i)), (5, .int (nsd (sdq x i))), (6, .int (nsd (nsd (sdq x i))))], [.int (nsd (nsd (sdq x i)))], v)) rfl ?_
        refine x_callS [.int (nsd (nsd (sdq x i)))] rfl cs_T_nextSeed.1 lk_3_89 cs_T_nextSeed.2.1 rfl rfl (Nat.le_of_ble_eq_true rfl) (by decide) cs_T_nextSeed.2.2 (c_nextSeed v (nsd (nsd (sdq x i)))) ?_
        rintro r y ⟨hr, hu⟩
        rw [hr, hu]
        clear hr hu r y
        refine run_ok 5 (c' := (48, [(0, .ref 14), (1, .int x), (2, .int (nI n)), (3, .int (nsd (nsd (nsd (sdq x i))))), (4, .int (nI i)), (5, .int (nsd (sdq x i))), (6, .int (nsd (nsd (sdq x i))))], [.int (((nsd (sdq x i)).toUInt32 >>> ((nI 16).toUInt32 &&& Int32.toUInt32 31)).toInt32), .ref 14], v)) rfl ?_
        refine x_top (v' := nI (lot (nsd (sdq x i)))) (lot_e _) ?_
        refine run_ok 1 (c' := (49, [(0, .ref 14), (1, .int x), (2, .int (nI n)), (3, .int (nsd (nsd (nsd (sdq x i))))), (4, .int (nI i)), (5, .int (nsd (sdq x i))), (6, .int (nsd (nsd (sdq x i))))], [.int (nI 3), .int (nI (lot (nsd (sdq x i)))), .ref 14], v)) rfl ?_
        refine x_irem rfl (by decide) ?_
        refine x_top (v' := nI ((lot (nsd (sdq x i))) % 3)) (pk_rem (by omega) (by omega) (by omega)) ?_
        refine run_ok 3 (c' := (55, [(0, .ref 14), (1, .int x), (2, .int (nI n)), (3, .int (nsd (nsd (nsd (sdq x i))))), (4, .int (nI i)), (5, .int (nsd (sdq x i))), (6, .int (nsd (nsd (sdq x i))))], [.int (((nsd (nsd (sdq x i))).toUInt32 >>> ((nI 16).toUInt32 &&& Int32.toUInt32 31)).toInt32), .int (nI ((lot (nsd (sdq x i))) % 3)), .ref 14], v)) rfl ?_
        refine x_top (v' := nI (lot (nsd (nsd (sdq x i))))) (lot_e _) ?_
        refine run_ok 1 (c' := (57, [(0, .ref 14), (1, .int x), (2, .int (nI n)), (3, .int (nsd (nsd (nsd (sdq x i))))), (4, .int (nI i)), (5, .int (nsd (sdq x i))), (6, .int (nsd (nsd (sdq x i))))], [.int (nI 24), .int (nI (lot (nsd (nsd (sdq x i))))), .int (nI ((lot (nsd (sdq x i))) % 3)), .ref 14], v)) rfl ?_
        refine x_irem rfl (by decide) ?_
        refine x_top (v' := nI ((lot (nsd (nsd (sdq x i)))) % 24)) (pk_rem (by omega) (by omega) (by omega)) ?_
        refine run_ok 3 (c' := (62, [(0, .ref 14), (1, .int x), (2, .int (nI n)), (3, .int (nsd (nsd (nsd (sdq x i))))), (4, .int (nI i)), (5, .int (nsd (sdq x i))), (6, .int (nsd (nsd (sdq x i))))], [.int (((nsd (nsd (nsd (sdq x i)))).toUInt32 >>> ((nI 16).toUInt32 &&& Int32.toUInt32 31)).toInt32), .int (nI ((lot (nsd (nsd (sdq x i)))) % 24)), .int (nI ((lot (nsd (sdq x i))) % 3)), .ref 14], v)) rfl ?_
        refine x_top (v' := nI (lot (nsd (nsd (nsd (sdq x i)))))) (lot_e _) ?_
        refine run_ok 2 (c' := (66, [(0, .ref 14), (1, .int x), (2, .int (nI n)), (3, .int (nsd (nsd (nsd (sdq x i))))), (4, .int (nI i)), (5, .int (nsd (sdq x i))), (6, .int (nsd (nsd (sdq x i))))], [.int (v.1 14 6), .int (nI (lot (nsd (nsd (nsd (sdq x i)))))), .int (nI ((lot (nsd (nsd (sdq x i)))) % 24)), .int (nI ((lot (nsd (sdq x i))) % 3)), .ref 14], v)) rfl ?_
        refine x_top (v' := nI (tnb T)) t9v ?_
        refine x_irem rfl (nI_ne0 (by omega) (by omega)) ?_
        refine x_top (v' := nI ((lot (nsd (nsd (nsd (sdq x i))))) % (tnb T))) (pk_rem (by omega) (by omega) (by omega)) ?_
        refine x_callV [.int (nI ((lot (nsd (sdq x i))) % 3)), .int (nI ((lot (nsd (nsd (sdq x i)))) % 24)), .int (nI ((lot (nsd (nsd (nsd (sdq x i))))) % (tnb T)))] rfl cv_T_addEvent.1 lk_3_92 cv_T_addEvent.2.1 cv_T_addEvent.2.2.1 rfl cv_T_addEvent.2.2.2.1 rfl rfl (Nat.le_of_ble_eq_true rfl) (by decide) cv_T_addEvent.2.2.2.2 (c_addEvent14 v (wev T i (dkd x) (dwk x) (dbt x (tnb T))) (dkd x i) (dwk x i) (dbt x (tnb T) i) hTv (by show i ≤ 8; omega)) ?_
        rintro r z ⟨hr, hTz, hfz, h2z⟩
        rw [hr]
        clear hr r
        refine run_ok 1 (c' := (73, [(0, .ref 14), (1, .int x), (2, .int (nI n)), (3, .int (nsd (nsd (nsd (sdq x i))))), (4, .int (nI i + nI 1)), (5, .int (nsd (sdq x i))), (6, .int (nsd (nsd (sdq x i))))], [], z)) rfl ?_
        rw [nI_add i 1]
        refine run_ok 1 (c' := (10, [(0, .ref 14), (1, .int x), (2, .int (nI n)), (3, .int (nsd (nsd (nsd (sdq x i))))), (4, .int (nI (i + 1))), (5, .int (nsd (sdq x i))), (6, .int (nsd (nsd (sdq x i))))], [], z)) rfl ?_
        refine x_less [0, 1, 2, 3, 4] rfl ?_
        refine ih z (TR_wev (T := T) (n := i + 1) hTz (fun e _ => ?_) (fun e _ => ?_) (fun e _ => ?_)) (hfv.tr (hfz.sub (by decide))) (h2z.trans h2) <;> (show _ = upn _ i _ e; unfold upn; split; (rename_i q; rw [q]); rfl)
    refine run_ok 7 (c' := (10, [(0, .ref 14), (1, .int x), (2, .int (nI n)), (3, .int (sdq x 0)), (4, .int (nI 0))], [], pt S 14 10 (nI 0))) rfl ?_
    exact H 0 (by omega) _ ⟨t1, t2, t3, t4, t5, fun j hj => absurd hj (Nat.not_lt_zero _), fun j hj => absurd hj (Nat.not_lt_zero _), fun j hj => absurd hj (Nat.not_lt_zero _), t9, rfl, t11⟩ (fr.rf.pt (by decide)) rfl

set_option maxHeartbeats 2000000 in
theorem c_decades_bad (S : ST) (x y z : Int32) (hbad : ¬ ((0 ≤ y ∧ y < nI 9) ∧ (0 ≤ z ∧ z < nI 2))) : EX me_N_decades 5 [.ref 0, .int x, .int y, .int z] S (fun r u => r = some (.int ((-2))) ∧ u = S) := by
  refine EX.of mok_N_decades (Nat.le_of_ble_eq_true rfl) ?_
  refine run_ok 2 (c' := (3, [(0, .ref 0), (1, .int x), (2, .int y), (3, .int z)], [.int (nI 9), .int y], S)) rfl ?_
  refine x_callS [.int y, .int (nI 9)] rfl cs_N_isBelow.1 lk_6_73 cs_N_isBelow.2.1 rfl rfl (Nat.le_of_ble_eq_true rfl) (by decide) cs_N_isBelow.2.2 (c_isBelow S (y) (nI 9)) ?_
  rintro r u ⟨hr, hu⟩
  rw [hr, hu]
  clear hr hu r u
  refine x_ifB_eq 17 rfl rfl (fun h6 => ?_) (fun h6 => ?_)
  · refine run_ok 1 (c' := (19, [(0, .ref 0), (1, .int x), (2, .int y), (3, .int z)], [.int (-2)], S)) rfl ?_
    exact x_ret (r := some (.int (-2))) rfl rfl trivial ⟨rfl, rfl⟩ rfl
  · refine run_ok 2 (c' := (11, [(0, .ref 0), (1, .int x), (2, .int y), (3, .int z)], [.int (nI 2), .int z], S)) rfl ?_
    refine x_callS [.int z, .int (nI 2)] rfl cs_N_isBelow.1 lk_6_73 cs_N_isBelow.2.1 rfl rfl (Nat.le_of_ble_eq_true rfl) (by decide) cs_N_isBelow.2.2 (c_isBelow S (z) (nI 2)) ?_
    rintro r u ⟨hr, hu⟩
    rw [hr, hu]
    clear hr hu r u
    refine x_ifB_ne 20 rfl rfl (fun h14 => ?_) (fun h14 => ?_)
    · exact absurd ⟨h6, h14⟩ hbad
    · refine run_ok 1 (c' := (19, [(0, .ref 0), (1, .int x), (2, .int y), (3, .int z)], [.int (-2)], S)) rfl ?_
      exact x_ret (r := some (.int (-2))) rfl rfl trivial ⟨rfl, rfl⟩ rfl

set_option maxHeartbeats 2000000 in
theorem c_decades_ok0 (S : ST) (T : TD) (hT : TR 5 T S) (hto : tok T) (hne : tne T ≤ 8) (x : Int32) (n : Nat) (hn : n ≤ 8) : EX me_N_decades 5 [.ref 0, .int x, .int (nI n), .int (nI 0)] S (fun r u => r = some (.int (nI (cnt (fun k => decide (vis (vo (dec T x n) 24) k = 2)) (tnb T)))) ∧ fr CQ S u) := by
  refine EX.of mok_N_decades (Nat.le_of_ble_eq_true rfl) ?_
  obtain ⟨n8, n9, hbt, het, hht, hlo⟩ := id hto
  obtain ⟨t1, t2, t3, t4, t5, t6, t7, t8, t9, t10, t11⟩ := id hT
  refine run_ok 2 (c' := (3, [(0, .ref 0), (1, .int x), (2, .int (nI n)), (3, .int (nI 0))], [.int (nI 9), .int (nI n)], S)) rfl ?_
  refine x_callS [.int (nI n), .int (nI 9)] rfl cs_N_isBelow.1 lk_6_73 cs_N_isBelow.2.1 rfl rfl (Nat.le_of_ble_eq_true rfl) (by decide) cs_N_isBelow.2.2 (c_isBelow S (nI n) (nI 9)) ?_
  rintro r u ⟨hr, hu⟩
  rw [hr, hu]
  clear hr hu r u
  refine x_ifB_eq 17 rfl rfl (fun hn => absurd hn (fun z => z (inr_t (by omega) (by decide)))) (fun h6 => ?_)
  refine run_ok 2 (c' := (11, [(0, .ref 0), (1, .int x), (2, .int (nI n)), (3, .int (nI 0))], [.int (nI 2), .int (nI 0)], S)) rfl ?_
  refine x_callS [.int (nI 0), .int (nI 2)] rfl cs_N_isBelow.1 lk_6_73 cs_N_isBelow.2.1 rfl rfl (Nat.le_of_ble_eq_true rfl) (by decide) cs_N_isBelow.2.2 (c_isBelow S (nI 0) (nI 2)) ?_
  rintro r u ⟨hr, hu⟩
  rw [hr, hu]
  clear hr hu r u
  refine x_ifB_ne 20 rfl rfl (fun h14 => ?_) (fun hn => absurd (inr_t (by decide) (by decide)) hn)
  refine run_ok 4 (c' := (28, [(0, .ref 0), (1, .int x), (2, .int (nI n)), (3, .int (nI 0))], [.ref 5, .ref 14], S)) rfl ?_
  refine x_callV [.ref 5] rfl cv_T_become.1 lk_6_220 cv_T_become.2.1 cv_T_become.2.2.1 rfl cv_T_become.2.2.2.1 rfl rfl (Nat.le_of_ble_eq_true rfl) (by decide) cv_T_become.2.2.2.2 (c_become S T hT hto hne) ?_
  rintro r v1 ⟨hr, hTb, hfb, h2b⟩
  rw [hr]
  clear hr r
  refine run_ok 4 (c' := (37, [(0, .ref 0), (1, .int x), (2, .int (nI n)), (3, .int (nI 0))], [.int (nI n), .int x, .ref 14], v1)) rfl ?_
  refine x_callV [.int x, .int (nI n)] rfl cv_T_drawEvents.1 lk_6_249 cv_T_drawEvents.2.1 cv_T_drawEvents.2.2.1 rfl cv_T_drawEvents.2.2.2.1 rfl rfl (Nat.le_of_ble_eq_true rfl) (by decide) cv_T_drawEvents.2.2.2.2 (c_drawEvents v1 T x n hTb hto hn) ?_
  rintro r v2 ⟨hr, hTd, hfd, h2d⟩
  rw [hr]
  clear hr r
  refine run_ok 5 (c' := (50, [(0, .ref 0), (1, .int x), (2, .int (nI n)), (3, .int (nI 0))], [.int (nI 23), .ref 14, .ref 23], v2)) rfl ?_
  refine x_callV [.ref 14, .int (nI 23)] rfl cv_V_run.1 lk_6_146 cv_V_run.2.1 cv_V_run.2.2.1 rfl cv_V_run.2.2.2.1 rfl rfl (Nat.le_of_ble_eq_true rfl) (by decide) cv_V_run.2.2.2.2 (c_run14 v2 (dec T x n) 23 hTd (tok_dec hto x hn) (by omega)) ?_
  rintro r u ⟨hr, hCu, hfu, h2u⟩
  rw [hr]
  clear hr r
  have h29 := hCu.2.2.2.2.2.1
  refine run_ok 3 (c' := (58, [(0, .ref 0), (1, .int x), (2, .int (nI n)), (3, .int (nI 0))], [.int (nI 0), .ref 23], u)) rfl ?_
  refine x_ifN_ne 65 rfl rfl (by omega) (fun hn => absurd (by decide) hn) (fun h58 => ?_)
  refine run_ok 2 (c' := (66, [(0, .ref 0), (1, .int x), (2, .int (nI n)), (3, .int (nI 0))], [.int (nI 2), .ref 23], u)) rfl ?_
  refine x_callV [.int (nI 2)] rfl cv_V_howMany.1 lk_6_161 cv_V_howMany.2.1 cv_V_howMany.2.2.1 rfl cv_V_howMany.2.2.2.1 rfl rfl (Nat.le_of_ble_eq_true rfl) (by decide) cv_V_howMany.2.2.2.2 (c_howMany14 u (dec T x n) (vo (dec T x n) 24) _ (hTd.keep hfu (by decide)) (tok_dec hto x hn) hCu (vk_vo (tok_dec hto x hn) 24 (by omega)).1 2 (by decide)) ?_
  rintro r q ⟨hr, hu⟩
  rw [hr, hu]
  clear hr hu r q
  exact x_ret (r := some (.int (nI (cnt (fun k => decide (vis (vo (dec T x n) 24) k = 2)) (tnb T))))) rfl rfl trivial ⟨rfl, ((hfb.sub (by decide)).tr (hfd.sub (by decide))).tr (hfu.sub (by decide))⟩ rfl

set_option maxHeartbeats 2000000 in
theorem c_decades_ok1 (S : ST) (T : TD) (hT : TR 5 T S) (hto : tok T) (hne : tne T ≤ 8) (x : Int32) (n : Nat) (hn : n ≤ 8) : EX me_N_decades 5 [.ref 0, .int x, .int (nI n), .int (nI 1)] S (fun r u => r = some (.int (nI (cnt (fun k => decide (vis (vo (dec T x n) 24) k = 1)) (tnb T)))) ∧ fr CQ S u) := by
  refine EX.of mok_N_decades (Nat.le_of_ble_eq_true rfl) ?_
  obtain ⟨n8, n9, hbt, het, hht, hlo⟩ := id hto
  obtain ⟨t1, t2, t3, t4, t5, t6, t7, t8, t9, t10, t11⟩ := id hT
  refine run_ok 2 (c' := (3, [(0, .ref 0), (1, .int x), (2, .int (nI n)), (3, .int (nI 1))], [.int (nI 9), .int (nI n)], S)) rfl ?_
  refine x_callS [.int (nI n), .int (nI 9)] rfl cs_N_isBelow.1 lk_6_73 cs_N_isBelow.2.1 rfl rfl (Nat.le_of_ble_eq_true rfl) (by decide) cs_N_isBelow.2.2 (c_isBelow S (nI n) (nI 9)) ?_
  rintro r u ⟨hr, hu⟩
  rw [hr, hu]
  clear hr hu r u
  refine x_ifB_eq 17 rfl rfl (fun hn => absurd hn (fun z => z (inr_t (by omega) (by decide)))) (fun h6 => ?_)
  refine run_ok 2 (c' := (11, [(0, .ref 0), (1, .int x), (2, .int (nI n)), (3, .int (nI 1))], [.int (nI 2), .int (nI 1)], S)) rfl ?_
  refine x_callS [.int (nI 1), .int (nI 2)] rfl cs_N_isBelow.1 lk_6_73 cs_N_isBelow.2.1 rfl rfl (Nat.le_of_ble_eq_true rfl) (by decide) cs_N_isBelow.2.2 (c_isBelow S (nI 1) (nI 2)) ?_
  rintro r u ⟨hr, hu⟩
  rw [hr, hu]
  clear hr hu r u
  refine x_ifB_ne 20 rfl rfl (fun h14 => ?_) (fun hn => absurd (inr_t (by decide) (by decide)) hn)
  refine run_ok 4 (c' := (28, [(0, .ref 0), (1, .int x), (2, .int (nI n)), (3, .int (nI 1))], [.ref 5, .ref 14], S)) rfl ?_
  refine x_callV [.ref 5] rfl cv_T_become.1 lk_6_220 cv_T_become.2.1 cv_T_become.2.2.1 rfl cv_T_become.2.2.2.1 rfl rfl (Nat.le_of_ble_eq_true rfl) (by decide) cv_T_become.2.2.2.2 (c_become S T hT hto hne) ?_
  rintro r v1 ⟨hr, hTb, hfb, h2b⟩
  rw [hr]
  clear hr r
  refine run_ok 4 (c' := (37, [(0, .ref 0), (1, .int x), (2, .int (nI n)), (3, .int (nI 1))], [.int (nI n), .int x, .ref 14], v1)) rfl ?_
  refine x_callV [.int x, .int (nI n)] rfl cv_T_drawEvents.1 lk_6_249 cv_T_drawEvents.2.1 cv_T_drawEvents.2.2.1 rfl cv_T_drawEvents.2.2.2.1 rfl rfl (Nat.le_of_ble_eq_true rfl) (by decide) cv_T_drawEvents.2.2.2.2 (c_drawEvents v1 T x n hTb hto hn) ?_
  rintro r v2 ⟨hr, hTd, hfd, h2d⟩
  rw [hr]
  clear hr r
  refine run_ok 5 (c' := (50, [(0, .ref 0), (1, .int x), (2, .int (nI n)), (3, .int (nI 1))], [.int (nI 23), .ref 14, .ref 23], v2)) rfl ?_
  refine x_callV [.ref 14, .int (nI 23)] rfl cv_V_run.1 lk_6_146 cv_V_run.2.1 cv_V_run.2.2.1 rfl cv_V_run.2.2.2.1 rfl rfl (Nat.le_of_ble_eq_true rfl) (by decide) cv_V_run.2.2.2.2 (c_run14 v2 (dec T x n) 23 hTd (tok_dec hto x hn) (by omega)) ?_
  rintro r u ⟨hr, hCu, hfu, h2u⟩
  rw [hr]
  clear hr r
  have h29 := hCu.2.2.2.2.2.1
  refine run_ok 3 (c' := (58, [(0, .ref 0), (1, .int x), (2, .int (nI n)), (3, .int (nI 1))], [.int (nI 1), .ref 23], u)) rfl ?_
  refine x_ifN_ne 65 rfl rfl (by omega) (fun h58 => ?_) (fun hn => absurd hn (by decide))
  refine run_ok 1 (c' := (66, [(0, .ref 0), (1, .int x), (2, .int (nI n)), (3, .int (nI 1))], [.int (nI 1), .ref 23], u)) rfl ?_
  refine x_callV [.int (nI 1)] rfl cv_V_howMany.1 lk_6_161 cv_V_howMany.2.1 cv_V_howMany.2.2.1 rfl cv_V_howMany.2.2.2.1 rfl rfl (Nat.le_of_ble_eq_true rfl) (by decide) cv_V_howMany.2.2.2.2 (c_howMany14 u (dec T x n) (vo (dec T x n) 24) _ (hTd.keep hfu (by decide)) (tok_dec hto x hn) hCu (vk_vo (tok_dec hto x hn) 24 (by omega)).1 1 (by decide)) ?_
  rintro r q ⟨hr, hu⟩
  rw [hr, hu]
  clear hr hu r q
  exact x_ret (r := some (.int (nI (cnt (fun k => decide (vis (vo (dec T x n) 24) k = 1)) (tnb T))))) rfl rfl trivial ⟨rfl, ((hfb.sub (by decide)).tr (hfd.sub (by decide))).tr (hfu.sub (by decide))⟩ rfl
end
section
/-! chances of the class -/
theorem wb_tb (n : Nat) : (lN n).toBitVec = BitVec.ofNat 64 n := rfl
theorem wb_inj {a b : Int64} (h : a.toBitVec = b.toBitVec) : a = b := Int64.toBitVec_inj.mp h
theorem wb_tn {n : Nat} (h : n < 2 ^ 64) : (lN n).toBitVec.toNat = n := by rw [wb_tb, BitVec.toNat_ofNat, Nat.mod_eq_of_lt h]
theorem wb_c : ∀ k, k < 64 → ((nI k).toInt64 &&& 63) = lN k := by decide +kernel
theorem wb_sm : ∀ k, k < 64 → (BitVec.ofNat 64 k).smod 64 = BitVec.ofNat 64 k := by decide +kernel
theorem wb_lt2 {a b : Nat} (h : a < b) : 2 ^ a < 2 ^ b := Nat.pow_lt_pow_right (by decide) h
theorem wb_shl (n : Nat) {k : Nat} (hk : k < 64) : lN n <<< ((nI k).toInt64 &&& 63) = lN (n * 2 ^ k) := by
  rw [wb_c k hk]
  apply wb_inj
  rw [Int64.toBitVec_shiftLeft, wb_tb, wb_tb, wb_tb, wb_sm k hk]
  apply BitVec.eq_of_toNat_eq
  rw [BitVec.shiftLeft_eq', BitVec.toNat_shiftLeft, BitVec.toNat_ofNat, BitVec.toNat_ofNat, BitVec.toNat_ofNat, Nat.mod_eq_of_lt (show k < 2 ^ 64 by omega), Nat.shiftLeft_eq, Nat.mul_mod, Nat.mod_mod, ← Nat.mul_mod]
theorem wb_and {a b : Nat} (ha : a < 2 ^ 64) (hb : b < 2 ^ 64) : lN a &&& lN b = lN (a &&& b) := by
  apply wb_inj
  rw [Int64.toBitVec_and, wb_tb, wb_tb, wb_tb]
  apply BitVec.eq_of_toNat_eq
  rw [BitVec.toNat_and, BitVec.toNat_ofNat, BitVec.toNat_ofNat, BitVec.toNat_ofNat, Nat.mod_eq_of_lt ha, Nat.mod_eq_of_lt hb, Nat.mod_eq_of_lt (Nat.and_lt_two_pow _ hb)]
theorem wb_mask {n k : Nat} (hn : n < 2 ^ 64) (hk : k < 64) : lN n &&& lN (2 ^ k - 1) = lN (n % 2 ^ k) := by
  rw [wb_and hn (by have := wb_lt2 hk; omega), Nat.and_two_pow_sub_one_eq_mod]
theorem wb_a1 {n : Nat} (hn : n < 2 ^ 64) : lN n &&& 1 = lN (n % 2) := wb_mask (k := 1) hn (by decide)
theorem pf_lI {a : Nat} (h : a < 2 ^ 63) : (lN a).toInt = (a : Int) := lg_ofNat_toInt h
theorem pf_shr {a d : Nat} {D : Int64} (hD : (D.toBitVec.smod 64).toNat = d) (h : a < 2 ^ 62) : lN a >>> D = lN (a / 2 ^ d) := by
  have hd : a / 2 ^ d ≤ a := Nat.div_le_self _ _
  apply Int64.toInt_inj.mp
  have e : (lN a >>> D).toInt = (lN a).toInt >>> d := by
    rw [← hD]
    exact BitVec.toInt_sshiftRight ..
  rw [e, Int.shiftRight_eq_div_pow, pf_lI (by omega), pf_lI (by omega)]
  rfl
theorem wb_c2 : ∀ k, k < 64 → (((nI k).toInt64 &&& 63).toBitVec.smod 64).toNat = k := by decide +kernel
theorem shrL {a d : Nat} (h : a < 2 ^ 62) (hd : d < 64) : lN a >>> ((nI d).toInt64 &&& 63) = lN (a / 2 ^ d) := pf_shr (wb_c2 d hd) h
theorem lN_0 {w : Nat} (h : w < 2 ^ 63) : lN w = 0 ↔ w = 0 := by
  have := pk_lEQ (a := w) (b := 0) h (by decide)
  exact this
theorem lg_le0 {w : Nat} (h : w < 2 ^ 63) : lg_cmp (lN w) 0 ≤ 0 ↔ w = 0 := by
  unfold lg_cmp
  by_cases h0 : w = 0
  · rw [h0, if_neg (by decide), if_pos (by decide)]
    exact ⟨fun _ => rfl, fun _ => by decide⟩
  · have h1 : lN w > 0 := (pk_lLT (a := 0) (b := w) (by decide) h).mpr (by omega)
    rw [if_pos h1]
    exact ⟨fun z => absurd z (by decide), fun z => absurd z h0⟩
theorem lg_eq0 {w : Nat} (h : w < 2 ^ 63) : lg_cmp (lN w) 0 = 0 ↔ w = 0 := by
  unfold lg_cmp
  by_cases h0 : w = 0
  · rw [h0, if_neg (by decide), if_pos (by decide)]
    exact ⟨fun _ => rfl, fun _ => rfl⟩
  · have h1 : lN w > 0 := (pk_lLT (a := 0) (b := w) (by decide) h).mpr (by omega)
    rw [if_pos h1]
    exact ⟨fun z => absurd z (by decide), fun z => absurd z h0⟩
set_option maxHeartbeats 1000000 in
theorem c_fillj (S : ST) (x : Int64) : EX me_J_fillj 0 [.ref 46, .long x] S (fun r u => r = none ∧ (∀ j, j < 8 → u.2.1 j = x) ∧ u.1 = S.1 ∧ u.2.2 = S.2.2) := by
  refine EX.of mok_J_fillj (Nat.le_of_ble_eq_true rfl) ?_
  have H : ∀ i, i ≤ 8 → ∀ u : ST, (∀ j, j < i → u.2.1 j = x) → u.1 = S.1 → u.2.2 = S.2.2 → BX me_J_fillj 0 none (fun r u => r = none ∧ (∀ j, j < 8 → u.2.1 j = x) ∧ u.1 = S.1 ∧ u.2.2 = S.2.2) (6, [(0, .ref 46), (1, .long x), (3, .int (nI i)), (4, .int (nI 8))], [], u) := by
    refine loop_up (P := fun i => ∀ u : ST, (∀ j, j < i → u.2.1 j = x) → u.1 = S.1 → u.2.2 = S.2.2 → BX me_J_fillj 0 none (fun r u => r = none ∧ (∀ j, j < 8 → u.2.1 j = x) ∧ u.1 = S.1 ∧ u.2.2 = S.2.2) (6, [(0, .ref 46), (1, .long x), (3, .int (nI i)), (4, .int (nI 8))], [], u)) 8 ?_ ?_
    · intro u h1 hf h2
      refine run_ok 2 (c' := (9, [(0, .ref 46), (1, .long x), (3, .int (nI 8)), (4, .int (nI 8))], [.int (nI 8), .int (nI 8)], u)) rfl ?_
      refine x_icmpN_ge 22 rfl rfl (by omega) (by omega) (fun _ => ?_) (fun hn => absurd (Nat.le_refl _) hn)
      exact x_ret (r := none) rfl rfl trivial ⟨rfl, h1, hf, h2⟩ rfl
    · intro i hi ih u h1 hf h2
      refine run_ok 2 (c' := (9, [(0, .ref 46), (1, .long x), (3, .int (nI i)), (4, .int (nI 8))], [.int (nI 8), .int (nI i)], u)) rfl ?_
      refine x_icmpN_ge 22 rfl rfl (by omega) (by omega) (fun hn => absurd hn (by omega)) (fun _ => ?_)
      refine run_ok 3 (c' := (15, [(0, .ref 46), (1, .long x), (3, .int (nI i)), (4, .int (nI 8))], [.long x, .int (nI i), .ref 46], u)) rfl ?_
      refine x_lsN rfl rfl (by decide) hi ?_
      refine run_ok 1 (c' := (19, [(0, .ref 46), (1, .long x), (3, .int (nI i + nI 1)), (4, .int (nI 8))], [], ptl u i x)) rfl ?_
      rw [nI_add i 1]
      refine run_ok 1 (c' := (6, [(0, .ref 46), (1, .long x), (3, .int (nI (i + 1))), (4, .int (nI 8))], [], ptl u i x)) rfl ?_
      refine ih _ (fun j hj => ?_) hf h2
      show vp_updL u.2.1 i x j = x
      unfold vp_updL
      split
      · rfl
      · exact h1 j (by omega)
  refine run_ok 3 (c' := (3, [(0, .ref 46), (1, .long x), (3, .int (nI 0))], [.ref 46], S)) rfl ?_
  refine x_alen1 rfl rfl ?_
  refine run_ok 1 (c' := (6, [(0, .ref 46), (1, .long x), (3, .int (nI 0)), (4, .int (nI 8))], [], S)) rfl ?_
  exact H 0 (Nat.zero_le _) S (fun j hj => absurd hj (Nat.not_lt_zero _)) rfl rfl
def adw (V : VS) (f : Nat → Nat) (wt i j : Nat) : Nat := if j < i ∧ vis V j = 2 then f j + wt else f j
theorem adw_y {V : VS} {f : Nat → Nat} {wt i : Nat} (h : vis V i = 2) (j : Nat) : adw V f wt (i + 1) j = if j = i then f i + wt else adw V f wt i j := by
  unfold adw
  by_cases e : j = i
  · subst e
    rw [if_pos ⟨by omega, h⟩, if_pos rfl]
  · have : (j < i + 1 ∧ vis V j = 2) ↔ (j < i ∧ vis V j = 2) := by omega
    simp only [this, e, if_false]
theorem adw_n {V : VS} {f : Nat → Nat} {wt i : Nat} (h : ¬ vis V i = 2) (j : Nat) : adw V f wt (i + 1) j = adw V f wt i j := by
  unfold adw
  by_cases e : j = i
  · subst e
    rw [if_neg (fun z => h z.2), if_neg (fun z => h z.2)]
  · have : (j < i + 1 ∧ vis V j = 2) ↔ (j < i ∧ vis V j = 2) := by omega
    simp only [this]
theorem adw_c (V : VS) (f : Nat → Nat) (wt i : Nat) : adw V f wt i i = f i := if_neg (by omega)
/-- of all the ways in which events may fail: the weight of those in which a boat is sunk -/
def chs (T : TD) (c j : Nat) : Nat → Nat
  | 0 => 0
  | m + 1 => chs T c j m + (if vis (vo (wlo T m) 24) j = 2 then wgt (wlo T m) c (tne T) else 0)
theorem wgt_le (T : TD) {c : Nat} (hc : c ≤ 16) : ∀ e, wgt T c e ≤ 16 ^ e := by
  intro e
  induction e with
  | zero => exact Nat.le_refl _
  | succ e ih =>
    show wgt T c e * _ ≤ 16 ^ (e + 1)
    rw [Nat.pow_succ]
    exact Nat.mul_le_mul ih (by split <;> omega)
theorem chs_le (T : TD) {c : Nat} (hc : c ≤ 16) (j : Nat) (hn : tne T ≤ 8) : ∀ m, chs T c j m ≤ m * 4294967296 := by
  intro m
  induction m with
  | zero => exact Nat.zero_le _
  | succ m ih =>
    have h1 := wgt_le (wlo T m) hc (tne T)
    have h2 : 16 ^ tne T ≤ 16 ^ 8 := Nat.pow_le_pow_right (by decide) hn
    have h3 : (16 : Nat) ^ 8 = 4294967296 := by decide
    show chs T c j m + _ ≤ (m + 1) * 4294967296
    rw [Nat.add_mul, Nat.one_mul]
    refine Nat.add_le_add ih ?_
    split
    · exact Nat.le_trans h1 (Nat.le_trans h2 (Nat.le_of_eq h3))
    · exact Nat.zero_le _
def hlv (s : Nat) : Nat → Nat → Nat
  | 0, h => h
  | n + 1, h => if s / 2 ^ h % 2 = 0 then hlv s n (h + 1) else h
theorem hlv_le (s : Nat) : ∀ n h, h ≤ hlv s n h ∧ hlv s n h ≤ h + n := by
  intro n
  induction n with
  | zero => intro h; exact ⟨Nat.le_refl _, Nat.le_refl _⟩
  | succ n ih =>
    intro h
    unfold hlv
    split
    · have := ih (h + 1); omega
    · omega
def sl (nb : Nat) (f : Nat → Nat) (u : ST) : Prop := ∀ j, j < nb → u.2.1 j = lN (f j)
set_option maxHeartbeats 2000000 in
theorem c_addWeight (S : ST) (T : TD) (V : VS) (f : Nat → Nat) (wt : Nat) (n8 : tnb T ≤ 8) (t9 : S.1 5 6 = nI (tnb T)) (h25 : rh S 25 8 (vis V)) (hv3 : ∀ k, k < 8 → vis V k ≤ 3) (hf : sl (tnb T) f S) : EX me_N_addWeight 0 [.ref 0, .long (lN wt)] S (fun r u => r = none ∧ sl (tnb T) (adw V f wt (tnb T)) u ∧ u.1 = S.1 ∧ u.2.2 = S.2.2) := by
  refine EX.of mok_N_addWeight (Nat.le_of_ble_eq_true rfl) ?_
  have H : ∀ i, i ≤ tnb T → ∀ v : ST, sl (tnb T) (adw V f wt i) v → v.1 = S.1 → v.2.2 = S.2.2 → BX me_N_addWeight 0 none (fun r u => r = none ∧ sl (tnb T) (adw V f wt (tnb T)) u ∧ u.1 = S.1 ∧ u.2.2 = S.2.2) (2, [(0, .ref 0), (1, .long (lN wt)), (3, .int (nI i))], [], v) := by
    refine loop_up (P := fun i => ∀ v : ST, sl (tnb T) (adw V f wt i) v → v.1 = S.1 → v.2.2 = S.2.2 → BX me_N_addWeight 0 none (fun r u => r = none ∧ sl (tnb T) (adw V f wt (tnb T)) u ∧ u.1 = S.1 ∧ u.2.2 = S.2.2) (2, [(0, .ref 0), (1, .long (lN wt)), (3, .int (nI i))], [], v)) (tnb T) ?_ ?_
    · intro v hs h1 h2
      have t9v : v.1 5 6 = nI (tnb T) := by rw [h1]; exact t9
      have h25v : rh v 25 8 (vis V) := fun j hj => by rw [h1]; exact h25 j hj
      refine run_ok 4 (c' := (10, [(0, .ref 0), (1, .long (lN wt)), (3, .int (nI (tnb T)))], [.int (v.1 5 6), .int (nI (tnb T))], v)) rfl ?_
      refine x_top (v' := nI (tnb T)) t9v ?_
      refine x_icmpN_ge 42 rfl rfl (by omega) (by omega) (fun h10 => ?_) (fun hn => absurd (Nat.le_refl _) hn)
      exact x_ret (r := none) rfl rfl trivial ⟨rfl, hs, h1, h2⟩ rfl
    · intro i hi ih v hs h1 h2
      have t9v : v.1 5 6 = nI (tnb T) := by rw [h1]; exact t9
      have h25v : rh v 25 8 (vis V) := fun j hj => by rw [h1]; exact h25 j hj
      have q1 := hv3 i (by omega)
      refine run_ok 4 (c' := (10, [(0, .ref 0), (1, .long (lN wt)), (3, .int (nI i))], [.int (v.1 5 6), .int (nI i)], v)) rfl ?_
      refine x_top (v' := nI (tnb T)) t9v ?_
      refine x_icmpN_ge 42 rfl rfl (by omega) (by omega) (fun hn => absurd hn (show ¬ tnb T ≤ i by omega)) (fun h10 => ?_)
      refine run_ok 4 (c' := (21, [(0, .ref 0), (1, .long (lN wt)), (3, .int (nI i))], [.int (nI i), .ref 25], v)) rfl ?_
      refine x_iaN (nI (vis V i)) rfl rfl (by decide) (by omega) (h25v i (by omega)) ?_
      refine run_ok 1 (c' := (23, [(0, .ref 0), (1, .long (lN wt)), (3, .int (nI i))], [.int (nI 2), .int (nI (vis V i))], v)) rfl ?_
      refine x_icmpN_ne 36 rfl rfl (by omega) (by omega) (fun h23 => ?_) (fun h23 => ?_)
      · refine run_ok 1 (c' := (39, [(0, .ref 0), (1, .long (lN wt)), (3, .int (nI i + nI 1))], [], v)) rfl ?_
        rw [nI_add i 1]
        refine run_ok 1 (c' := (2, [(0, .ref 0), (1, .long (lN wt)), (3, .int (nI (i + 1)))], [], v)) rfl ?_
        exact ih v (fun j hj => by rw [adw_n h23]; exact hs j hj) h1 h2
      · refine run_ok 4 (c' := (32, [(0, .ref 0), (1, .long (lN wt)), (3, .int (nI i))], [.int (nI i), .ref 46, .int (nI i), .ref 46], v)) rfl ?_
        refine x_laN (v.2.1 i) rfl rfl (by decide) (by omega) rfl ?_
        refine x_topl (v' := lN (f i)) (by rw [hs i hi, adw_c]) ?_
        refine run_ok 2 (c' := (35, [(0, .ref 0), (1, .long (lN wt)), (3, .int (nI i))], [.long ((lN (f i)) + (lN wt)), .int (nI i), .ref 46], v)) rfl ?_
        refine x_topl (v' := lN (f i + wt)) (lN_add _ _) ?_
        refine x_lsN rfl rfl (by decide) (by omega) ?_
        refine run_ok 1 (c' := (39, [(0, .ref 0), (1, .long (lN wt)), (3, .int (nI i + nI 1))], [], (ptl v i (lN (f i + wt))))) rfl ?_
        rw [nI_add i 1]
        refine run_ok 1 (c' := (2, [(0, .ref 0), (1, .long (lN wt)), (3, .int (nI (i + 1)))], [], (ptl v i (lN (f i + wt))))) rfl ?_
        refine ih _ (fun j hj => ?_) h1 h2
        show vp_updL v.2.1 i (lN (f i + wt)) j = lN (adw V f wt (i + 1) j)
        rw [adw_y h23]
        unfold vp_updL
        split
        · rfl
        · exact hs j hj
  refine run_ok 2 (c' := (2, [(0, .ref 0), (1, .long (lN wt)), (3, .int (nI 0))], [], S)) rfl ?_
  exact H 0 (Nat.zero_le _) S (fun j hj => by rw [show adw V f wt 0 j = f j from if_neg (by omega)]; exact hf j hj) rfl rfl

set_option maxHeartbeats 2000000 in
theorem c_weighSunk (S : ST) (T : TD) (hT : TR 5 T S) (hto : tok T) (hne : tne T ≤ 8) (c : Nat) (hc : c ≤ 16) : EX me_N_weighSunk 5 [.ref 0, .int (nI c)] S (fun r u => r = none ∧ sl (tnb T) (fun j => chs T c j (2 ^ tne T)) u ∧ fr CQ S u) := by
  refine EX.of mok_N_weighSunk (Nat.le_of_ble_eq_true rfl) ?_
  obtain ⟨n8, n9, hbt, het, hht, hlo⟩ := id hto
  obtain ⟨t1, t2, t3, t4, t5, t6, t7, t8, t9, t10, t11⟩ := id hT
  have p8 : 2 ^ tne T ≤ 2 ^ 8 := Nat.pow_le_pow_right (by decide) hne
  have H : ∀ m, m ≤ 2 ^ tne T → ∀ (v : ST) (l : Nat), TR 14 (wlo T l) v → sl (tnb T) (fun j => chs T c j m) v → fr CQ S v → BX me_N_weighSunk 5 none (fun r u => r = none ∧ sl (tnb T) (fun j => chs T c j (2 ^ tne T)) u ∧ fr CQ S u) (31, [(0, .ref 0), (1, .int (nI c)), (2, .int (nI (2 ^ tne T))), (3, .int (nI m))], [], v) := by
    refine loop_up (P := fun m => ∀ (v : ST) (l : Nat), TR 14 (wlo T l) v → sl (tnb T) (fun j => chs T c j m) v → fr CQ S v → BX me_N_weighSunk 5 none (fun r u => r = none ∧ sl (tnb T) (fun j => chs T c j (2 ^ tne T)) u ∧ fr CQ S u) (31, [(0, .ref 0), (1, .int (nI c)), (2, .int (nI (2 ^ tne T))), (3, .int (nI m))], [], v)) (2 ^ tne T) ?_ ?_
    · intro v l hTl hs hfv
      refine run_ok 2 (c' := (33, [(0, .ref 0), (1, .int (nI c)), (2, .int (nI (2 ^ tne T))), (3, .int (nI (2 ^ tne T)))], [.int (nI (2 ^ tne T)), .int (nI (2 ^ tne T))], v)) rfl ?_
      refine x_icmpN_ge 86 rfl rfl (by omega) (by omega) (fun h33 => ?_) (fun hn => absurd (Nat.le_refl _) hn)
      exact x_ret (r := none) rfl rfl trivial ⟨rfl, hs, hfv⟩ rfl
    · intro m hm ih v l hTl hs hfv
      have q1 := wgt_le (wlo T m) hc (tne T)
      have q2 : 16 ^ tne T ≤ 16 ^ 8 := Nat.pow_le_pow_right (by decide) hne
      refine run_ok 2 (c' := (33, [(0, .ref 0), (1, .int (nI c)), (2, .int (nI (2 ^ tne T))), (3, .int (nI m))], [.int (nI (2 ^ tne T)), .int (nI m)], v)) rfl ?_
      refine x_icmpN_ge 86 rfl rfl (by omega) (by omega) (fun hn => absurd hn (show ¬ 2 ^ tne T ≤ m by omega)) (fun h33 => ?_)
      refine run_ok 4 (c' := (44, [(0, .ref 0), (1, .int (nI c)), (2, .int (nI (2 ^ tne T))), (3, .int (nI m))], [], (pt v 14 11 (nI m)))) rfl ?_
      have hTm : TR 14 (wlo T m) (pt v 14 11 (nI m)) := ⟨hTl.1, hTl.2.1, hTl.2.2.1, hTl.2.2.2.1, hTl.2.2.2.2.1, hTl.2.2.2.2.2.1, hTl.2.2.2.2.2.2.1, hTl.2.2.2.2.2.2.2.1, hTl.2.2.2.2.2.2.2.2.1, hTl.2.2.2.2.2.2.2.2.2.1, rfl⟩
      refine run_ok 3 (c' := (49, [(0, .ref 0), (1, .int (nI c)), (2, .int (nI (2 ^ tne T))), (3, .int (nI m))], [.int (nI c), .ref 14], (pt v 14 11 (nI m)))) rfl ?_
      refine x_callV [.int (nI c)] rfl cv_T_weight.1 lk_6_384 cv_T_weight.2.1 cv_T_weight.2.2.1 rfl cv_T_weight.2.2.2.1 rfl rfl (Nat.le_of_ble_eq_true rfl) (by decide) cv_T_weight.2.2.2.2 (c_weight (pt v 14 11 (nI m)) (wlo T m) c hTm (tok_wlo hto (by omega)) hc) ?_
      rintro r x ⟨hr, hu⟩
      rw [hr, hu]
      clear hr hu r x
      refine run_ok 4 (c' := (58, [(0, .ref 0), (1, .int (nI c)), (2, .int (nI (2 ^ tne T))), (3, .int (nI m)), (4, .long (lN (wgt (wlo T m) c (tne T))))], [.int (lg_cmp (lN (wgt (wlo T m) c (tne T))) 0)], (pt v 14 11 (nI m)))) rfl ?_
      refine x_if_le 80 rfl rfl (fun h58 => ?_) (fun h58 => ?_)
      · refine run_ok 1 (c' := (83, [(0, .ref 0), (1, .int (nI c)), (2, .int (nI (2 ^ tne T))), (3, .int (nI m + nI 1)), (4, .long (lN (wgt (wlo T m) c (tne T))))], [], (pt v 14 11 (nI m)))) rfl ?_
        rw [nI_add m 1]
        refine run_ok 1 (c' := (31, [(0, .ref 0), (1, .int (nI c)), (2, .int (nI (2 ^ tne T))), (3, .int (nI (m + 1))), (4, .long (lN (wgt (wlo T m) c (tne T))))], [], (pt v 14 11 (nI m)))) rfl ?_
        refine x_less [0, 1, 2, 3] rfl ?_
        refine ih _ m hTm (fun j hj => ?_) (hfv.tr (fr.rf.pt (by decide)))
        have hz := (lg_le0 (by omega)).mp h58
        show (pt v 14 11 (nI m)).2.1 j = lN (chs T c j (m + 1))
        rw [show chs T c j (m + 1) = chs T c j m by show chs T c j m + (if vis (vo (wlo T m) 24) j = 2 then wgt (wlo T m) c (tne T) else 0) = _; rw [hz, ite_self]; rfl]
        exact hs j hj
      · refine run_ok 5 (c' := (71, [(0, .ref 0), (1, .int (nI c)), (2, .int (nI (2 ^ tne T))), (3, .int (nI m)), (4, .long (lN (wgt (wlo T m) c (tne T))))], [.int (nI 23), .ref 14, .ref 23], (pt v 14 11 (nI m)))) rfl ?_
        refine x_callV [.ref 14, .int (nI 23)] rfl cv_V_run.1 lk_6_146 cv_V_run.2.1 cv_V_run.2.2.1 rfl cv_V_run.2.2.2.1 rfl rfl (Nat.le_of_ble_eq_true rfl) (by decide) cv_V_run.2.2.2.2 (c_run14 (pt v 14 11 (nI m)) (wlo T m) 23 hTm (tok_wlo hto (by omega)) (by omega)) ?_
        rintro r u ⟨hr, hCu, hfu, h2u⟩
        rw [hr]
        clear hr r
        refine run_ok 2 (c' := (77, [(0, .ref 0), (1, .int (nI c)), (2, .int (nI (2 ^ tne T))), (3, .int (nI m)), (4, .long (lN (wgt (wlo T m) c (tne T))))], [.long (lN (wgt (wlo T m) c (tne T))), .ref 0], u)) rfl ?_
        refine x_callV [.long (lN (wgt (wlo T m) c (tne T)))] rfl cv_N_addWeight.1 lk_6_387 cv_N_addWeight.2.1 cv_N_addWeight.2.2.1 rfl cv_N_addWeight.2.2.2.1 rfl rfl (Nat.le_of_ble_eq_true rfl) (by decide) cv_N_addWeight.2.2.2.2 (c_addWeight u T (vo (wlo T m) 24) (fun j => chs T c j m) (wgt (wlo T m) c (tne T)) n8 (by rw [hfu 5 (by decide)]; exact (by rw [show (pt v 14 11 (nI m)).1 5 = v.1 5 from rfl, hfv 5 (by decide)]; exact t9)) hCu.2.1 (fun k hk => ((vk_vo (tok_wlo hto (by omega)) 24 (by omega)).1.2.1 k hk).1) (fun j hj => by rw [h2u]; exact hs j hj)) ?_
        rintro r z ⟨hr, hsz, h1z, h2z⟩
        rw [hr]
        clear hr r
        have hfz : fr [] u z := fun k _ => by rw [h1z]
        refine run_ok 1 (c' := (83, [(0, .ref 0), (1, .int (nI c)), (2, .int (nI (2 ^ tne T))), (3, .int (nI m + nI 1)), (4, .long (lN (wgt (wlo T m) c (tne T))))], [], z)) rfl ?_
        rw [nI_add m 1]
        refine run_ok 1 (c' := (31, [(0, .ref 0), (1, .int (nI c)), (2, .int (nI (2 ^ tne T))), (3, .int (nI (m + 1))), (4, .long (lN (wgt (wlo T m) c (tne T))))], [], z)) rfl ?_
        refine x_less [0, 1, 2, 3] rfl ?_
        refine ih z m ((hTm.keep hfu (by decide)).keep hfz (by decide)) (fun j hj => ?_) (hfv.tr (((fr.rf.pt (by decide)).tr (hfu.sub (by decide))).tr (hfz.sub (by decide))))
        rw [hsz j hj]
        congr 1
        show (if j < tnb T ∧ vis (vo (wlo T m) 24) j = 2 then _ else _) = chs T c j m + (if vis (vo (wlo T m) 24) j = 2 then _ else 0)
        by_cases hv : vis (vo (wlo T m) 24) j = 2
        · rw [if_pos ⟨hj, hv⟩, if_pos hv]
        · rw [if_neg (fun y => hv y.2), if_neg hv]; rfl
  refine run_ok 3 (c' := (5, [(0, .ref 0), (1, .int (nI c))], [.long 0, .ref 46], S)) rfl ?_
  refine x_callS [.ref 46, .long 0] rfl cs_J_fillj.1 lk_6_378 cs_J_fillj.2.1 rfl rfl (Nat.le_of_ble_eq_true rfl) (by decide) cs_J_fillj.2.2 (c_fillj S 0) ?_
  rintro r u0 ⟨hr, ha0, h10, h20⟩
  rw [hr]
  clear hr r
  have hf0 : fr [] S u0 := fun k _ => by rw [h10]
  have t10u : u0.1 5 10 = nI (tne T) := by rw [h10]; exact t10
  refine run_ok 4 (c' := (16, [(0, .ref 0), (1, .int (nI c))], [.ref 5, .ref 14], u0)) rfl ?_
  refine x_callV [.ref 5] rfl cv_T_become.1 lk_6_220 cv_T_become.2.1 cv_T_become.2.2.1 rfl cv_T_become.2.2.2.1 rfl rfl (Nat.le_of_ble_eq_true rfl) (by decide) cv_T_become.2.2.2.2 (c_become u0 T (hT.keep hf0 (by decide)) hto hne) ?_
  rintro r v1 ⟨hr, hTb, hfb, h2b⟩
  rw [hr]
  clear hr r
  have t10v : v1.1 5 10 = nI (tne T) := by rw [hfb 5 (by decide)]; exact t10u
  refine run_ok 4 (c' := (27, [(0, .ref 0), (1, .int (nI c))], [.int (v1.1 5 10), .int (nI 1)], v1)) rfl ?_
  refine x_top (v' := nI (tne T)) t10v ?_
  refine run_ok 1 (c' := (28, [(0, .ref 0), (1, .int (nI c))], [.int ((nI 1) <<< ((nI (tne T)) &&& 31))], v1)) rfl ?_
  refine x_top (v' := nI (2 ^ tne T)) (sh1 (by omega)) ?_
  refine run_ok 3 (c' := (31, [(0, .ref 0), (1, .int (nI c)), (2, .int (nI (2 ^ tne T))), (3, .int (nI 0))], [], v1)) rfl ?_
  exact H 0 (Nat.zero_le _) v1 (tlo T) hTb (fun j hj => by rw [h2b]; exact ha0 j (by omega)) ((hf0.sub (by decide)).tr (hfb.sub (by decide)))

set_option maxHeartbeats 2000000 in
theorem c_halve (S : ST) (T : TD) (t10 : S.1 5 10 = nI (tne T)) (hne : tne T ≤ 8) (n8 : tnb T ≤ 8) (f : Nat → Nat) (k : Nat) (hk : k < tnb T) (hf : sl (tnb T) f S) (hfk : f k < 2 ^ 50) : EX me_N_sharedHalvings 0 [.ref 0, .int (nI k)] S (fun r u => r = some (.int (nI (hlv (f k) (4 * tne T) 0))) ∧ u = S) := by
  refine EX.of mok_N_sharedHalvings (Nat.le_of_ble_eq_true rfl) ?_
  have H : ∀ h, h ≤ 4 * tne T → hlv (f k) (4 * tne T) 0 = hlv (f k) (4 * tne T - h) h → BX me_N_sharedHalvings 0 none (fun r u => r = some (.int (nI (hlv (f k) (4 * tne T) 0))) ∧ u = S) (12, [(0, .ref 0), (1, .int (nI k)), (2, .int (nI (4 * tne T))), (3, .int (nI h))], [], S) := by
    refine loop_up (P := fun h => hlv (f k) (4 * tne T) 0 = hlv (f k) (4 * tne T - h) h → BX me_N_sharedHalvings 0 none (fun r u => r = some (.int (nI (hlv (f k) (4 * tne T) 0))) ∧ u = S) (12, [(0, .ref 0), (1, .int (nI k)), (2, .int (nI (4 * tne T))), (3, .int (nI h))], [], S)) (4 * tne T) ?_ ?_
    · intro hs
      refine run_ok 2 (c' := (14, [(0, .ref 0), (1, .int (nI k)), (2, .int (nI (4 * tne T))), (3, .int (nI (4 * tne T)))], [.int (nI (4 * tne T)), .int (nI (4 * tne T))], S)) rfl ?_
      refine x_icmpN_ge 38 rfl rfl (by omega) (by omega) (fun h14 => ?_) (fun hn => absurd (Nat.le_refl _) hn)
      refine run_ok 1 (c' := (39, [(0, .ref 0), (1, .int (nI k)), (2, .int (nI (4 * tne T))), (3, .int (nI (4 * tne T)))], [.int (nI (4 * tne T))], S)) rfl ?_
      exact x_ret (r := some (.int (nI (4 * tne T)))) rfl rfl trivial ⟨by rw [hs, Nat.sub_self]; rfl, rfl⟩ rfl
    · intro h hh ih hs
      refine run_ok 2 (c' := (14, [(0, .ref 0), (1, .int (nI k)), (2, .int (nI (4 * tne T))), (3, .int (nI h))], [.int (nI (4 * tne T)), .int (nI h)], S)) rfl ?_
      refine x_icmpN_ge 38 rfl rfl (by omega) (by omega) (fun hn => absurd hn (show ¬ 4 * tne T ≤ h by omega)) (fun h14 => ?_)
      refine run_ok 3 (c' := (22, [(0, .ref 0), (1, .int (nI k)), (2, .int (nI (4 * tne T))), (3, .int (nI h))], [.int (nI k), .ref 46], S)) rfl ?_
      refine x_laN (S.2.1 k) rfl rfl (by decide) (by omega) rfl ?_
      refine x_topl (v' := lN (f k)) (hf k hk) ?_
      refine run_ok 2 (c' := (25, [(0, .ref 0), (1, .int (nI k)), (2, .int (nI (4 * tne T))), (3, .int (nI h))], [.long ((lN (f k)) >>> ((nI h).toInt64 &&& 63))], S)) rfl ?_
      refine x_topl (v' := lN (f k / 2 ^ h)) (shrL (by omega) (by omega)) ?_
      refine run_ok 2 (c' := (27, [(0, .ref 0), (1, .int (nI k)), (2, .int (nI (4 * tne T))), (3, .int (nI h))], [.long ((lN (f k / 2 ^ h)) &&& 1)], S)) rfl ?_
      refine x_topl (v' := lN (f k / 2 ^ h % 2)) (wb_a1 (by have := Nat.div_le_self (f k) (2 ^ h); omega)) ?_
      refine run_ok 2 (c' := (29, [(0, .ref 0), (1, .int (nI k)), (2, .int (nI (4 * tne T))), (3, .int (nI h))], [.int (lg_cmp (lN (f k / 2 ^ h % 2)) 0)], S)) rfl ?_
      refine x_if_ne 38 rfl rfl (fun h29 => ?_) (fun h29 => ?_)
      · refine run_ok 1 (c' := (39, [(0, .ref 0), (1, .int (nI k)), (2, .int (nI (4 * tne T))), (3, .int (nI h))], [.int (nI h)], S)) rfl ?_
        exact x_ret (r := some (.int (nI h))) rfl rfl trivial ⟨by rw [hs, show 4 * tne T - h = (4 * tne T - (h + 1)) + 1 by omega, show hlv (f k) (4 * tne T - (h + 1) + 1) h = h from if_neg (fun z => h29 ((lg_eq0 (by omega)).mpr z))], rfl⟩ rfl
      · refine run_ok 1 (c' := (35, [(0, .ref 0), (1, .int (nI k)), (2, .int (nI (4 * tne T))), (3, .int (nI h + nI 1))], [], S)) rfl ?_
        rw [nI_add h 1]
        refine run_ok 1 (c' := (12, [(0, .ref 0), (1, .int (nI k)), (2, .int (nI (4 * tne T))), (3, .int (nI (h + 1)))], [], S)) rfl ?_
        exact ih (by rw [hs, show 4 * tne T - h = (4 * tne T - (h + 1)) + 1 by omega]; exact if_pos ((lg_eq0 (by omega)).mp h29))
  refine run_ok 4 (c' := (8, [(0, .ref 0), (1, .int (nI k))], [.int (S.1 5 10), .int (nI 4)], S)) rfl ?_
  refine x_top (v' := nI (tne T)) t10 ?_
  refine run_ok 1 (c' := (9, [(0, .ref 0), (1, .int (nI k))], [.int ((nI 4) * (nI (tne T)))], S)) rfl ?_
  refine x_top (v' := nI (4 * (tne T))) (pk_mul _ _) ?_
  refine run_ok 3 (c' := (12, [(0, .ref 0), (1, .int (nI k)), (2, .int (nI (4 * (tne T)))), (3, .int (nI 0))], [], S)) rfl ?_
  exact H 0 (Nat.zero_le _) rfl

set_option maxHeartbeats 2000000 in
theorem c_above (S : ST) (T : TD) (t10 : S.1 5 10 = nI (tne T)) (hne : tne T ≤ 8) (n8 : tnb T ≤ 8) (f : Nat → Nat) (k : Nat) (hk : k < tnb T) (hf : sl (tnb T) f S) (hfk : f k < 2 ^ 50) : EX me_N_chanceAbove 1 [.ref 0, .int (nI k)] S (fun r u => r = some (.long (lN (f k / 2 ^ hlv (f k) (4 * tne T) 0))) ∧ u = S) := by
  refine EX.of mok_N_chanceAbove (Nat.le_of_ble_eq_true rfl) ?_
  have q := hlv_le (f k) (4 * tne T) 0
  refine run_ok 3 (c' := (5, [(0, .ref 0), (1, .int (nI k))], [.int (nI k), .ref 46], S)) rfl ?_
  refine x_laN (S.2.1 k) rfl rfl (by decide) (by omega) rfl ?_
  refine x_topl (v' := lN (f k)) (hf k hk) ?_
  refine run_ok 2 (c' := (8, [(0, .ref 0), (1, .int (nI k))], [.int (nI k), .ref 0, .long (lN (f k))], S)) rfl ?_
  refine x_callV [.int (nI k)] rfl cv_N_sharedHalvings.1 lk_6_391 cv_N_sharedHalvings.2.1 cv_N_sharedHalvings.2.2.1 rfl cv_N_sharedHalvings.2.2.2.1 rfl rfl (Nat.le_of_ble_eq_true rfl) (by decide) cv_N_sharedHalvings.2.2.2.2 (c_halve S T t10 hne n8 f k hk hf hfk) ?_
  rintro r x ⟨hr, hu⟩
  rw [hr, hu]
  clear hr hu r x
  refine run_ok 1 (c' := (12, [(0, .ref 0), (1, .int (nI k))], [.long ((lN (f k)) >>> ((nI (hlv (f k) (4 * tne T) 0)).toInt64 &&& 63))], S)) rfl ?_
  refine x_topl (v' := lN (f k / 2 ^ hlv (f k) (4 * tne T) 0)) (shrL (by omega) (by omega)) ?_
  exact x_ret (r := some (.long (lN (f k / 2 ^ hlv (f k) (4 * tne T) 0)))) rfl rfl trivial ⟨rfl, rfl⟩ rfl

set_option maxHeartbeats 2000000 in
theorem c_below (S : ST) (T : TD) (t10 : S.1 5 10 = nI (tne T)) (hne : tne T ≤ 8) (n8 : tnb T ≤ 8) (f : Nat → Nat) (k : Nat) (hk : k < tnb T) (hf : sl (tnb T) f S) (hfk : f k < 2 ^ 50) : EX me_N_chanceBelow 1 [.ref 0, .int (nI k)] S (fun r u => r = some (.long (lN (2 ^ (4 * tne T - hlv (f k) (4 * tne T) 0)))) ∧ u = S) := by
  refine EX.of mok_N_chanceBelow (Nat.le_of_ble_eq_true rfl) ?_
  have q := hlv_le (f k) (4 * tne T) 0
  refine run_ok 5 (c' := (9, [(0, .ref 0), (1, .int (nI k))], [.int (S.1 5 10), .int (nI 4), .long 1], S)) rfl ?_
  refine x_top (v' := nI (tne T)) t10 ?_
  refine run_ok 1 (c' := (10, [(0, .ref 0), (1, .int (nI k))], [.int ((nI 4) * (nI (tne T))), .long 1], S)) rfl ?_
  refine x_top (v' := nI (4 * (tne T))) (pk_mul _ _) ?_
  refine run_ok 2 (c' := (12, [(0, .ref 0), (1, .int (nI k))], [.int (nI k), .ref 0, .int (nI (4 * (tne T))), .long 1], S)) rfl ?_
  refine x_callV [.int (nI k)] rfl cv_N_sharedHalvings.1 lk_6_391 cv_N_sharedHalvings.2.1 cv_N_sharedHalvings.2.2.1 rfl cv_N_sharedHalvings.2.2.2.1 rfl rfl (Nat.le_of_ble_eq_true rfl) (by decide) cv_N_sharedHalvings.2.2.2.2 (c_halve S T t10 hne n8 f k hk hf hfk) ?_
  rintro r x ⟨hr, hu⟩
  rw [hr, hu]
  clear hr hu r x
  refine run_ok 1 (c' := (16, [(0, .ref 0), (1, .int (nI k))], [.int ((nI (4 * (tne T))) - (nI (hlv (f k) (4 * tne T) 0))), .long 1], S)) rfl ?_
  refine x_top (v' := nI (4 * tne T - hlv (f k) (4 * tne T) 0)) (pk_sub (by omega)) ?_
  refine run_ok 1 (c' := (17, [(0, .ref 0), (1, .int (nI k))], [.long (1 <<< ((nI (4 * tne T - hlv (f k) (4 * tne T) 0)).toInt64 &&& 63))], S)) rfl ?_
  refine x_topl (v' := lN (1 * 2 ^ (4 * tne T - hlv (f k) (4 * tne T) 0))) (wb_shl 1 (by omega)) ?_
  exact x_ret (r := some (.long (lN (1 * 2 ^ (4 * tne T - hlv (f k) (4 * tne T) 0))))) rfl rfl trivial ⟨by rw [Nat.one_mul], rfl⟩ rfl

set_option maxHeartbeats 2000000 in
theorem c_chance_bad (S : ST) (T : TD) (t9 : S.1 5 6 = nI (tnb T)) (x y z : Int32) (hbad : ¬ ((0 ≤ x ∧ x < nI 17) ∧ (0 ≤ y ∧ y < nI (tnb T)) ∧ (0 ≤ z ∧ z < nI 2))) : EX me_N_chance 6 [.ref 0, .int x, .int y, .int z] S (fun r u => r = some (.long (-9223372036854775806)) ∧ u = S) := by
  refine EX.of mok_N_chance (Nat.le_of_ble_eq_true rfl) ?_
  refine run_ok 2 (c' := (3, [(0, .ref 0), (1, .int x), (2, .int y), (3, .int z)], [.int (nI 17), .int x], S)) rfl ?_
  refine x_callS [.int x, .int (nI 17)] rfl cs_N_isBelow.1 lk_6_73 cs_N_isBelow.2.1 rfl rfl (Nat.le_of_ble_eq_true rfl) (by decide) cs_N_isBelow.2.2 (c_isBelow S (x) (nI 17)) ?_
  rintro r u ⟨hr, hu⟩
  rw [hr, hu]
  clear hr hu r u
  refine x_ifB_eq 25 rfl rfl (fun h6 => ?_) (fun h6 => ?_)
  · refine run_ok 1 (c' := (28, [(0, .ref 0), (1, .int x), (2, .int y), (3, .int z)], [.long (-9223372036854775806)], S)) rfl ?_
    exact x_ret (r := some (.long (-9223372036854775806))) rfl rfl trivial ⟨rfl, rfl⟩ rfl
  · refine run_ok 2 (c' := (11, [(0, .ref 0), (1, .int x), (2, .int y), (3, .int z)], [.int y, .ref 0], S)) rfl ?_
    refine x_callV [.int y] rfl cv_N_isBoat.1 lk_6_107 cv_N_isBoat.2.1 cv_N_isBoat.2.2.1 rfl cv_N_isBoat.2.2.2.1 rfl rfl (Nat.le_of_ble_eq_true rfl) (by decide) cv_N_isBoat.2.2.2.2 (c_isBoat S (y) (tnb T) t9) ?_
    rintro r u ⟨hr, hu⟩
    rw [hr, hu]
    clear hr hu r u
    refine x_ifB_eq 25 rfl rfl (fun h14 => ?_) (fun h14 => ?_)
    · refine run_ok 1 (c' := (28, [(0, .ref 0), (1, .int x), (2, .int y), (3, .int z)], [.long (-9223372036854775806)], S)) rfl ?_
      exact x_ret (r := some (.long (-9223372036854775806))) rfl rfl trivial ⟨rfl, rfl⟩ rfl
    · refine run_ok 2 (c' := (19, [(0, .ref 0), (1, .int x), (2, .int y), (3, .int z)], [.int (nI 2), .int z], S)) rfl ?_
      refine x_callS [.int z, .int (nI 2)] rfl cs_N_isBelow.1 lk_6_73 cs_N_isBelow.2.1 rfl rfl (Nat.le_of_ble_eq_true rfl) (by decide) cs_N_isBelow.2.2 (c_isBelow S (z) (nI 2)) ?_
      rintro r u ⟨hr, hu⟩
      rw [hr, hu]
      clear hr hu r u
      refine x_ifB_ne 29 rfl rfl (fun h22 => ?_) (fun h22 => ?_)
      · exact absurd ⟨h6, h14, h22⟩ hbad
      · refine run_ok 1 (c' := (28, [(0, .ref 0), (1, .int x), (2, .int y), (3, .int z)], [.long (-9223372036854775806)], S)) rfl ?_
        exact x_ret (r := some (.long (-9223372036854775806))) rfl rfl trivial ⟨rfl, rfl⟩ rfl

set_option maxHeartbeats 2000000 in
theorem c_chance_ok0 (S : ST) (T : TD) (hT : TR 5 T S) (hto : tok T) (hne : tne T ≤ 8) (c k : Nat) (hc : c ≤ 16) (hk : k < tnb T) : EX me_N_chance 6 [.ref 0, .int (nI c), .int (nI k), .int (nI 0)] S (fun r u => r = some (.long (lN (chs T c k (2 ^ tne T) / 2 ^ hlv (chs T c k (2 ^ tne T)) (4 * tne T) 0))) ∧ fr CQ S u) := by
  refine EX.of mok_N_chance (Nat.le_of_ble_eq_true rfl) ?_
  obtain ⟨n8, n9, hbt, het, hht, hlo⟩ := id hto
  obtain ⟨t1, t2, t3, t4, t5, t6, t7, t8, t9, t10, t11⟩ := id hT
  have qc := chs_le T hc k hne (2 ^ tne T)
  have p8 : 2 ^ tne T ≤ 2 ^ 8 := Nat.pow_le_pow_right (by decide) hne
  refine run_ok 2 (c' := (3, [(0, .ref 0), (1, .int (nI c)), (2, .int (nI k)), (3, .int (nI 0))], [.int (nI 17), .int (nI c)], S)) rfl ?_
  refine x_callS [.int (nI c), .int (nI 17)] rfl cs_N_isBelow.1 lk_6_73 cs_N_isBelow.2.1 rfl rfl (Nat.le_of_ble_eq_true rfl) (by decide) cs_N_isBelow.2.2 (c_isBelow S (nI c) (nI 17)) ?_
  rintro r u ⟨hr, hu⟩
  rw [hr, hu]
  clear hr hu r u
  refine x_ifB_eq 25 rfl rfl (fun hn => absurd hn (fun z => z (inr_t (by omega) (by decide)))) (fun h6 => ?_)
  refine run_ok 2 (c' := (11, [(0, .ref 0), (1, .int (nI c)), (2, .int (nI k)), (3, .int (nI 0))], [.int (nI k), .ref 0], S)) rfl ?_
  refine x_callV [.int (nI k)] rfl cv_N_isBoat.1 lk_6_107 cv_N_isBoat.2.1 cv_N_isBoat.2.2.1 rfl cv_N_isBoat.2.2.2.1 rfl rfl (Nat.le_of_ble_eq_true rfl) (by decide) cv_N_isBoat.2.2.2.2 (c_isBoat S (nI k) (tnb T) t9) ?_
  rintro r u ⟨hr, hu⟩
  rw [hr, hu]
  clear hr hu r u
  refine x_ifB_eq 25 rfl rfl (fun hn => absurd hn (fun z => z (inr_t hk (by omega)))) (fun h14 => ?_)
  refine run_ok 2 (c' := (19, [(0, .ref 0), (1, .int (nI c)), (2, .int (nI k)), (3, .int (nI 0))], [.int (nI 2), .int (nI 0)], S)) rfl ?_
  refine x_callS [.int (nI 0), .int (nI 2)] rfl cs_N_isBelow.1 lk_6_73 cs_N_isBelow.2.1 rfl rfl (Nat.le_of_ble_eq_true rfl) (by decide) cs_N_isBelow.2.2 (c_isBelow S (nI 0) (nI 2)) ?_
  rintro r u ⟨hr, hu⟩
  rw [hr, hu]
  clear hr hu r u
  refine x_ifB_ne 29 rfl rfl (fun h22 => ?_) (fun hn => absurd (inr_t (by decide) (by decide)) hn)
  refine run_ok 2 (c' := (31, [(0, .ref 0), (1, .int (nI c)), (2, .int (nI k)), (3, .int (nI 0))], [.int (nI c), .ref 0], S)) rfl ?_
  refine x_callV [.int (nI c)] rfl cv_N_weighSunk.1 lk_6_239 cv_N_weighSunk.2.1 cv_N_weighSunk.2.2.1 rfl cv_N_weighSunk.2.2.2.1 rfl rfl (Nat.le_of_ble_eq_true rfl) (by decide) cv_N_weighSunk.2.2.2.2 (c_weighSunk S T hT hto hne c hc) ?_
  rintro r u ⟨hr, hsu, hfu⟩
  rw [hr]
  clear hr r
  have t10u : u.1 5 10 = nI (tne T) := by rw [hfu 5 (by decide)]; exact t10
  refine run_ok 1 (c' := (35, [(0, .ref 0), (1, .int (nI c)), (2, .int (nI k)), (3, .int (nI 0))], [.int (nI 0)], u)) rfl ?_
  refine x_ifN_ne 46 rfl rfl (by omega) (fun hn => absurd (by decide) hn) (fun h35 => ?_)
  refine run_ok 2 (c' := (40, [(0, .ref 0), (1, .int (nI c)), (2, .int (nI k)), (3, .int (nI 0))], [.int (nI k), .ref 0], u)) rfl ?_
  refine x_callV [.int (nI k)] rfl cv_N_chanceAbove.1 lk_6_242 cv_N_chanceAbove.2.1 cv_N_chanceAbove.2.2.1 rfl cv_N_chanceAbove.2.2.2.1 rfl rfl (Nat.le_of_ble_eq_true rfl) (by decide) cv_N_chanceAbove.2.2.2.2 (c_above u T t10u hne n8 (fun j => chs T c j (2 ^ tne T)) k hk hsu (by show chs T c k (2 ^ tne T) < 2 ^ 50; omega)) ?_
  rintro r x ⟨hr, hu⟩
  rw [hr, hu]
  clear hr hu r x
  refine run_ok 1 (c' := (51, [(0, .ref 0), (1, .int (nI c)), (2, .int (nI k)), (3, .int (nI 0))], [.long (lN (chs T c k (2 ^ tne T) / 2 ^ hlv (chs T c k (2 ^ tne T)) (4 * tne T) 0))], u)) rfl ?_
  exact x_ret (r := some (.long (lN (chs T c k (2 ^ tne T) / 2 ^ hlv (chs T c k (2 ^ tne T)) (4 * tne T) 0)))) rfl rfl trivial ⟨rfl, hfu⟩ rfl

set_option maxHeartbeats 2000000 in
theorem c_chance_ok1 (S : ST) (T : TD) (hT : TR 5 T S) (hto : tok T) (hne : tne T ≤ 8) (c k : Nat) (hc : c ≤ 16) (hk : k < tnb T) : EX me_N_chance 6 [.ref 0, .int (nI c), .int (nI k), .int (nI 1)] S (fun r u => r = some (.long (lN (2 ^ (4 * tne T - hlv (chs T c k (2 ^ tne T)) (4 * tne T) 0)))) ∧ fr CQ S u) := by
  refine EX.of mok_N_chance (Nat.le_of_ble_eq_true rfl) ?_
  obtain ⟨n8, n9, hbt, het, hht, hlo⟩ := id hto
  obtain ⟨t1, t2, t3, t4, t5, t6, t7, t8, t9, t10, t11⟩ := id hT
  have qc := chs_le T hc k hne (2 ^ tne T)
  have p8 : 2 ^ tne T ≤ 2 ^ 8 := Nat.pow_le_pow_right (by decide) hne
  refine run_ok 2 (c' := (3, [(0, .ref 0), (1, .int (nI c)), (2, .int (nI k)), (3, .int (nI 1))], [.int (nI 17), .int (nI c)], S)) rfl ?_
  refine x_callS [.int (nI c), .int (nI 17)] rfl cs_N_isBelow.1 lk_6_73 cs_N_isBelow.2.1 rfl rfl (Nat.le_of_ble_eq_true rfl) (by decide) cs_N_isBelow.2.2 (c_isBelow S (nI c) (nI 17)) ?_
  rintro r u ⟨hr, hu⟩
  rw [hr, hu]
  clear hr hu r u
  refine x_ifB_eq 25 rfl rfl (fun hn => absurd hn (fun z => z (inr_t (by omega) (by decide)))) (fun h6 => ?_)
  refine run_ok 2 (c' := (11, [(0, .ref 0), (1, .int (nI c)), (2, .int (nI k)), (3, .int (nI 1))], [.int (nI k), .ref 0], S)) rfl ?_
  refine x_callV [.int (nI k)] rfl cv_N_isBoat.1 lk_6_107 cv_N_isBoat.2.1 cv_N_isBoat.2.2.1 rfl cv_N_isBoat.2.2.2.1 rfl rfl (Nat.le_of_ble_eq_true rfl) (by decide) cv_N_isBoat.2.2.2.2 (c_isBoat S (nI k) (tnb T) t9) ?_
  rintro r u ⟨hr, hu⟩
  rw [hr, hu]
  clear hr hu r u
  refine x_ifB_eq 25 rfl rfl (fun hn => absurd hn (fun z => z (inr_t hk (by omega)))) (fun h14 => ?_)
  refine run_ok 2 (c' := (19, [(0, .ref 0), (1, .int (nI c)), (2, .int (nI k)), (3, .int (nI 1))], [.int (nI 2), .int (nI 1)], S)) rfl ?_
  refine x_callS [.int (nI 1), .int (nI 2)] rfl cs_N_isBelow.1 lk_6_73 cs_N_isBelow.2.1 rfl rfl (Nat.le_of_ble_eq_true rfl) (by decide) cs_N_isBelow.2.2 (c_isBelow S (nI 1) (nI 2)) ?_
  rintro r u ⟨hr, hu⟩
  rw [hr, hu]
  clear hr hu r u
  refine x_ifB_ne 29 rfl rfl (fun h22 => ?_) (fun hn => absurd (inr_t (by decide) (by decide)) hn)
  refine run_ok 2 (c' := (31, [(0, .ref 0), (1, .int (nI c)), (2, .int (nI k)), (3, .int (nI 1))], [.int (nI c), .ref 0], S)) rfl ?_
  refine x_callV [.int (nI c)] rfl cv_N_weighSunk.1 lk_6_239 cv_N_weighSunk.2.1 cv_N_weighSunk.2.2.1 rfl cv_N_weighSunk.2.2.2.1 rfl rfl (Nat.le_of_ble_eq_true rfl) (by decide) cv_N_weighSunk.2.2.2.2 (c_weighSunk S T hT hto hne c hc) ?_
  rintro r u ⟨hr, hsu, hfu⟩
  rw [hr]
  clear hr r
  have t10u : u.1 5 10 = nI (tne T) := by rw [hfu 5 (by decide)]; exact t10
  refine run_ok 1 (c' := (35, [(0, .ref 0), (1, .int (nI c)), (2, .int (nI k)), (3, .int (nI 1))], [.int (nI 1)], u)) rfl ?_
  refine x_ifN_ne 46 rfl rfl (by omega) (fun h35 => ?_) (fun hn => absurd hn (by decide))
  refine run_ok 2 (c' := (48, [(0, .ref 0), (1, .int (nI c)), (2, .int (nI k)), (3, .int (nI 1))], [.int (nI k), .ref 0], u)) rfl ?_
  refine x_callV [.int (nI k)] rfl cv_N_chanceBelow.1 lk_6_246 cv_N_chanceBelow.2.1 cv_N_chanceBelow.2.2.1 rfl cv_N_chanceBelow.2.2.2.1 rfl rfl (Nat.le_of_ble_eq_true rfl) (by decide) cv_N_chanceBelow.2.2.2.2 (c_below u T t10u hne n8 (fun j => chs T c j (2 ^ tne T)) k hk hsu (by show chs T c k (2 ^ tne T) < 2 ^ 50; omega)) ?_
  rintro r x ⟨hr, hu⟩
  rw [hr, hu]
  clear hr hu r x
  exact x_ret (r := some (.long (lN (2 ^ (4 * tne T - hlv (chs T c k (2 ^ tne T)) (4 * tne T) 0))))) rfl rfl trivial ⟨rfl, hfu⟩ rfl
end
