section
-- ===== PART A: goes FIRST, ahead of the names: the tables' words, and 'selects' of the private methods out of them =====
/-- a private method of a class that the tables say can be made, by its rows of tables_1 -/
def lw_okq (q : MethodName × Nat) : Prop := (q.1.cls ≠ "java/lang/invoke/MethodHandle" ∧ q.1.cls ≠ "java/lang/invoke/VarHandle") ∧ Cond.instantiable q.1.cls q.2 ∈ tables_1 ∧ Cond.privateMethod q.1 ∈ tables_1 ∧ Cond.instanceMethod q.1 ∈ tables_1
theorem lw_p0 : lw_okq (⟨"BeepHouse", "refuseBad", "()I"⟩, 11) := ⟨⟨by decide +kernel, by decide +kernel⟩, List.mem_of_getElem? (i := 21) (by decide +kernel), List.mem_of_getElem? (i := 297) (by decide +kernel), List.mem_of_getElem? (i := 298) (by decide +kernel)⟩
theorem lw_p1 : lw_okq (⟨"BeepHouse", "refuseFull", "()I"⟩, 11) := ⟨⟨by decide +kernel, by decide +kernel⟩, List.mem_of_getElem? (i := 21) (by decide +kernel), List.mem_of_getElem? (i := 301) (by decide +kernel), List.mem_of_getElem? (i := 302) (by decide +kernel)⟩
theorem lw_p2 : lw_okq (⟨"BeepHouse$Text", "step", "()V"⟩, 6) := ⟨⟨by decide +kernel, by decide +kernel⟩, List.mem_of_getElem? (i := 29) (by decide +kernel), List.mem_of_getElem? (i := 329) (by decide +kernel), List.mem_of_getElem? (i := 330) (by decide +kernel)⟩
theorem lw_p3 : lw_okq (⟨"BeepHouse$Text", "behindRun", "(ICC)I"⟩, 6) := ⟨⟨by decide +kernel, by decide +kernel⟩, List.mem_of_getElem? (i := 29) (by decide +kernel), List.mem_of_getElem? (i := 333) (by decide +kernel), List.mem_of_getElem? (i := 334) (by decide +kernel)⟩
theorem lw_p4 : lw_okq (⟨"BeepHouse$Text", "valueOfFigures", "()I"⟩, 6) := ⟨⟨by decide +kernel, by decide +kernel⟩, List.mem_of_getElem? (i := 29) (by decide +kernel), List.mem_of_getElem? (i := 338) (by decide +kernel), List.mem_of_getElem? (i := 339) (by decide +kernel)⟩
theorem lw_p5 : lw_okq (⟨"BeepHouse$Text", "item", "(LBeepHouse$Home;Z)Z"⟩, 6) := ⟨⟨by decide +kernel, by decide +kernel⟩, List.mem_of_getElem? (i := 29) (by decide +kernel), List.mem_of_getElem? (i := 342) (by decide +kernel), List.mem_of_getElem? (i := 343) (by decide +kernel)⟩
theorem lw_p6 : lw_okq (⟨"BeepHouse$Text", "says", "(Ljava/lang/String;)Z"⟩, 6) := ⟨⟨by decide +kernel, by decide +kernel⟩, List.mem_of_getElem? (i := 29) (by decide +kernel), List.mem_of_getElem? (i := 347) (by decide +kernel), List.mem_of_getElem? (i := 348) (by decide +kernel)⟩
theorem lw_p7 : lw_okq (⟨"BeepHouse$Text", "houseItem", "(LBeepHouse$Home;)Z"⟩, 6) := ⟨⟨by decide +kernel, by decide +kernel⟩, List.mem_of_getElem? (i := 29) (by decide +kernel), List.mem_of_getElem? (i := 399) (by decide +kernel), List.mem_of_getElem? (i := 400) (by decide +kernel)⟩
theorem lw_p8 : lw_okq (⟨"BeepHouse$Text", "number", "(II)I"⟩, 6) := ⟨⟨by decide +kernel, by decide +kernel⟩, List.mem_of_getElem? (i := 29) (by decide +kernel), List.mem_of_getElem? (i := 403) (by decide +kernel), List.mem_of_getElem? (i := 404) (by decide +kernel)⟩
theorem lw_p9 : lw_okq (⟨"BeepHouse$Text", "stop", "()Z"⟩, 6) := ⟨⟨by decide +kernel, by decide +kernel⟩, List.mem_of_getElem? (i := 29) (by decide +kernel), List.mem_of_getElem? (i := 407) (by decide +kernel), List.mem_of_getElem? (i := 408) (by decide +kernel)⟩
theorem lw_p10 : lw_okq (⟨"BeepHouse$Text", "doorItem", "(LBeepHouse$Home;)Z"⟩, 6) := ⟨⟨by decide +kernel, by decide +kernel⟩, List.mem_of_getElem? (i := 29) (by decide +kernel), List.mem_of_getElem? (i := 412) (by decide +kernel), List.mem_of_getElem? (i := 413) (by decide +kernel)⟩
theorem lw_p11 : lw_okq (⟨"BeepHouse$Text", "alarmItem", "(LBeepHouse$Home;)Z"⟩, 6) := ⟨⟨by decide +kernel, by decide +kernel⟩, List.mem_of_getElem? (i := 29) (by decide +kernel), List.mem_of_getElem? (i := 418) (by decide +kernel), List.mem_of_getElem? (i := 419) (by decide +kernel)⟩
theorem lw_p12 : lw_okq (⟨"BeepHouse$Text", "downItem", "(LBeepHouse$Home;)Z"⟩, 6) := ⟨⟨by decide +kernel, by decide +kernel⟩, List.mem_of_getElem? (i := 29) (by decide +kernel), List.mem_of_getElem? (i := 424) (by decide +kernel), List.mem_of_getElem? (i := 425) (by decide +kernel)⟩
theorem lw_p13 : lw_okq (⟨"BeepHouse$Home", "measure", "()V"⟩, 13) := ⟨⟨by decide +kernel, by decide +kernel⟩, List.mem_of_getElem? (i := 91) (by decide +kernel), List.mem_of_getElem? (i := 534) (by decide +kernel), List.mem_of_getElem? (i := 535) (by decide +kernel)⟩
theorem lw_p14 : lw_okq (⟨"BeepHouse", "refuseNo", "()I"⟩, 11) := ⟨⟨by decide +kernel, by decide +kernel⟩, List.mem_of_getElem? (i := 21) (by decide +kernel), List.mem_of_getElem? (i := 543) (by decide +kernel), List.mem_of_getElem? (i := 544) (by decide +kernel)⟩
theorem lw_p15 : lw_okq (⟨"BeepHouse", "isAlarm", "(I)Z"⟩, 11) := ⟨⟨by decide +kernel, by decide +kernel⟩, List.mem_of_getElem? (i := 21) (by decide +kernel), List.mem_of_getElem? (i := 551) (by decide +kernel), List.mem_of_getElem? (i := 552) (by decide +kernel)⟩
def lw_privs_1 : List (MethodName × Nat) := [(⟨"BeepHouse", "refuseBad", "()I"⟩, 11), (⟨"BeepHouse", "refuseFull", "()I"⟩, 11), (⟨"BeepHouse$Text", "step", "()V"⟩, 6), (⟨"BeepHouse$Text", "behindRun", "(ICC)I"⟩, 6), (⟨"BeepHouse$Text", "valueOfFigures", "()I"⟩, 6), (⟨"BeepHouse$Text", "item", "(LBeepHouse$Home;Z)Z"⟩, 6), (⟨"BeepHouse$Text", "says", "(Ljava/lang/String;)Z"⟩, 6), (⟨"BeepHouse$Text", "houseItem", "(LBeepHouse$Home;)Z"⟩, 6), (⟨"BeepHouse$Text", "number", "(II)I"⟩, 6), (⟨"BeepHouse$Text", "stop", "()Z"⟩, 6), (⟨"BeepHouse$Text", "doorItem", "(LBeepHouse$Home;)Z"⟩, 6), (⟨"BeepHouse$Text", "alarmItem", "(LBeepHouse$Home;)Z"⟩, 6), (⟨"BeepHouse$Text", "downItem", "(LBeepHouse$Home;)Z"⟩, 6), (⟨"BeepHouse$Home", "measure", "()V"⟩, 13), (⟨"BeepHouse", "refuseNo", "()I"⟩, 11), (⟨"BeepHouse", "isAlarm", "(I)Z"⟩, 11)]
theorem lw_r1 : ∀ q ∈ lw_privs_1, lw_okq q := List.forall_mem_cons.mpr ⟨lw_p0, List.forall_mem_cons.mpr ⟨lw_p1, List.forall_mem_cons.mpr ⟨lw_p2, List.forall_mem_cons.mpr ⟨lw_p3, List.forall_mem_cons.mpr ⟨lw_p4, List.forall_mem_cons.mpr ⟨lw_p5, List.forall_mem_cons.mpr ⟨lw_p6, List.forall_mem_cons.mpr ⟨lw_p7, List.forall_mem_cons.mpr ⟨lw_p8, List.forall_mem_cons.mpr ⟨lw_p9, List.forall_mem_cons.mpr ⟨lw_p10, List.forall_mem_cons.mpr ⟨lw_p11, List.forall_mem_cons.mpr ⟨lw_p12, List.forall_mem_cons.mpr ⟨lw_p13, List.forall_mem_cons.mpr ⟨lw_p14, List.forall_mem_cons.mpr ⟨lw_p15, fun _ h => absurd h List.not_mem_nil⟩⟩⟩⟩⟩⟩⟩⟩⟩⟩⟩⟩⟩⟩⟩⟩
theorem lw_p16 : lw_okq (⟨"BeepHouse$Search", "settle", "(I)V"⟩, 8) := ⟨⟨by decide +kernel, by decide +kernel⟩, List.mem_of_getElem? (i := 56) (by decide +kernel), List.mem_of_getElem? (i := 641) (by decide +kernel), List.mem_of_getElem? (i := 642) (by decide +kernel)⟩
theorem lw_p17 : lw_okq (⟨"BeepHouse$Search", "worstPart", "(II)I"⟩, 8) := ⟨⟨by decide +kernel, by decide +kernel⟩, List.mem_of_getElem? (i := 56) (by decide +kernel), List.mem_of_getElem? (i := 651) (by decide +kernel), List.mem_of_getElem? (i := 652) (by decide +kernel)⟩
theorem lw_p18 : lw_okq (⟨"BeepHouse$Search", "leastFrom", "(II)I"⟩, 8) := ⟨⟨by decide +kernel, by decide +kernel⟩, List.mem_of_getElem? (i := 56) (by decide +kernel), List.mem_of_getElem? (i := 683) (by decide +kernel), List.mem_of_getElem? (i := 684) (by decide +kernel)⟩
theorem lw_p19 : lw_okq (⟨"BeepHouse$Search", "leastBy", "(III)I"⟩, 8) := ⟨⟨by decide +kernel, by decide +kernel⟩, List.mem_of_getElem? (i := 56) (by decide +kernel), List.mem_of_getElem? (i := 687) (by decide +kernel), List.mem_of_getElem? (i := 688) (by decide +kernel)⟩
theorem lw_p20 : lw_okq (⟨"BeepHouse$Search", "firstOfLeast", "(II)I"⟩, 8) := ⟨⟨by decide +kernel, by decide +kernel⟩, List.mem_of_getElem? (i := 56) (by decide +kernel), List.mem_of_getElem? (i := 700) (by decide +kernel), List.mem_of_getElem? (i := 701) (by decide +kernel)⟩
theorem lw_p21 : lw_okq (⟨"BeepHouse$Home", "fitsNotes", "(I)Z"⟩, 13) := ⟨⟨by decide +kernel, by decide +kernel⟩, List.mem_of_getElem? (i := 91) (by decide +kernel), List.mem_of_getElem? (i := 741) (by decide +kernel), List.mem_of_getElem? (i := 742) (by decide +kernel)⟩
theorem lw_p22 : lw_okq (⟨"BeepHouse$Search", "greatestGroup", "(II)I"⟩, 8) := ⟨⟨by decide +kernel, by decide +kernel⟩, List.mem_of_getElem? (i := 56) (by decide +kernel), List.mem_of_getElem? (i := 753) (by decide +kernel), List.mem_of_getElem? (i := 754) (by decide +kernel)⟩
theorem lw_p23 : lw_okq (⟨"BeepHouse", "setTenths", "(I)V"⟩, 11) := ⟨⟨by decide +kernel, by decide +kernel⟩, List.mem_of_getElem? (i := 21) (by decide +kernel), List.mem_of_getElem? (i := 767) (by decide +kernel), List.mem_of_getElem? (i := 768) (by decide +kernel)⟩
theorem lw_p24 : lw_okq (⟨"BeepHouse", "howMany", "(I)I"⟩, 11) := ⟨⟨by decide +kernel, by decide +kernel⟩, List.mem_of_getElem? (i := 21) (by decide +kernel), List.mem_of_getElem? (i := 813) (by decide +kernel), List.mem_of_getElem? (i := 814) (by decide +kernel)⟩
theorem lw_p25 : lw_okq (⟨"BeepHouseModel", "bad", "()I"⟩, 21) := ⟨⟨by decide +kernel, by decide +kernel⟩, List.mem_of_getElem? (i := 831) (by decide +kernel), List.mem_of_getElem? (i := 922) (by decide +kernel), List.mem_of_getElem? (i := 923) (by decide +kernel)⟩
theorem lw_p26 : lw_okq (⟨"BeepHouseModel", "full", "()I"⟩, 21) := ⟨⟨by decide +kernel, by decide +kernel⟩, List.mem_of_getElem? (i := 831) (by decide +kernel), List.mem_of_getElem? (i := 926) (by decide +kernel), List.mem_of_getElem? (i := 927) (by decide +kernel)⟩
theorem lw_p27 : lw_okq (⟨"BeepHouseModel", "isRead", "()Z"⟩, 21) := ⟨⟨by decide +kernel, by decide +kernel⟩, List.mem_of_getElem? (i := 831) (by decide +kernel), List.mem_of_getElem? (i := 945) (by decide +kernel), List.mem_of_getElem? (i := 946) (by decide +kernel)⟩
theorem lw_p28 : lw_okq (⟨"BeepHouseModel", "nextToken", "()V"⟩, 21) := ⟨⟨by decide +kernel, by decide +kernel⟩, List.mem_of_getElem? (i := 831) (by decide +kernel), List.mem_of_getElem? (i := 949) (by decide +kernel), List.mem_of_getElem? (i := 950) (by decide +kernel)⟩
theorem lw_p29 : lw_okq (⟨"BeepHouseModel", "kindAt", "(I)I"⟩, 21) := ⟨⟨by decide +kernel, by decide +kernel⟩, List.mem_of_getElem? (i := 831) (by decide +kernel), List.mem_of_getElem? (i := 953) (by decide +kernel), List.mem_of_getElem? (i := 954) (by decide +kernel)⟩
theorem lw_p30 : lw_okq (⟨"BeepHouseModel", "isItem", "()Z"⟩, 21) := ⟨⟨by decide +kernel, by decide +kernel⟩, List.mem_of_getElem? (i := 831) (by decide +kernel), List.mem_of_getElem? (i := 959) (by decide +kernel), List.mem_of_getElem? (i := 960) (by decide +kernel)⟩
theorem lw_p31 : lw_okq (⟨"BeepHouseModel", "isCold", "()Z"⟩, 21) := ⟨⟨by decide +kernel, by decide +kernel⟩, List.mem_of_getElem? (i := 831) (by decide +kernel), List.mem_of_getElem? (i := 964) (by decide +kernel), List.mem_of_getElem? (i := 965) (by decide +kernel)⟩
def lw_privs_2 : List (MethodName × Nat) := [(⟨"BeepHouse$Search", "settle", "(I)V"⟩, 8), (⟨"BeepHouse$Search", "worstPart", "(II)I"⟩, 8), (⟨"BeepHouse$Search", "leastFrom", "(II)I"⟩, 8), (⟨"BeepHouse$Search", "leastBy", "(III)I"⟩, 8), (⟨"BeepHouse$Search", "firstOfLeast", "(II)I"⟩, 8), (⟨"BeepHouse$Home", "fitsNotes", "(I)Z"⟩, 13), (⟨"BeepHouse$Search", "greatestGroup", "(II)I"⟩, 8), (⟨"BeepHouse", "setTenths", "(I)V"⟩, 11), (⟨"BeepHouse", "howMany", "(I)I"⟩, 11), (⟨"BeepHouseModel", "bad", "()I"⟩, 21), (⟨"BeepHouseModel", "full", "()I"⟩, 21), (⟨"BeepHouseModel", "isRead", "()Z"⟩, 21), (⟨"BeepHouseModel", "nextToken", "()V"⟩, 21), (⟨"BeepHouseModel", "kindAt", "(I)I"⟩, 21), (⟨"BeepHouseModel", "isItem", "()Z"⟩, 21), (⟨"BeepHouseModel", "isCold", "()Z"⟩, 21)]
theorem lw_r2 : ∀ q ∈ lw_privs_2, lw_okq q := List.forall_mem_cons.mpr ⟨lw_p16, List.forall_mem_cons.mpr ⟨lw_p17, List.forall_mem_cons.mpr ⟨lw_p18, List.forall_mem_cons.mpr ⟨lw_p19, List.forall_mem_cons.mpr ⟨lw_p20, List.forall_mem_cons.mpr ⟨lw_p21, List.forall_mem_cons.mpr ⟨lw_p22, List.forall_mem_cons.mpr ⟨lw_p23, List.forall_mem_cons.mpr ⟨lw_p24, List.forall_mem_cons.mpr ⟨lw_p25, List.forall_mem_cons.mpr ⟨lw_p26, List.forall_mem_cons.mpr ⟨lw_p27, List.forall_mem_cons.mpr ⟨lw_p28, List.forall_mem_cons.mpr ⟨lw_p29, List.forall_mem_cons.mpr ⟨lw_p30, List.forall_mem_cons.mpr ⟨lw_p31, fun _ h => absurd h List.not_mem_nil⟩⟩⟩⟩⟩⟩⟩⟩⟩⟩⟩⟩⟩⟩⟩⟩
theorem lw_p32 : lw_okq (⟨"BeepHouseModel", "isNumber", "(II)Z"⟩, 21) := ⟨⟨by decide +kernel, by decide +kernel⟩, List.mem_of_getElem? (i := 831) (by decide +kernel), List.mem_of_getElem? (i := 968) (by decide +kernel), List.mem_of_getElem? (i := 969) (by decide +kernel)⟩
theorem lw_p33 : lw_okq (⟨"BeepHouseModel", "isDoor", "()Z"⟩, 21) := ⟨⟨by decide +kernel, by decide +kernel⟩, List.mem_of_getElem? (i := 831) (by decide +kernel), List.mem_of_getElem? (i := 973) (by decide +kernel), List.mem_of_getElem? (i := 974) (by decide +kernel)⟩
theorem lw_p34 : lw_okq (⟨"BeepHouseModel", "isAlarmItem", "()Z"⟩, 21) := ⟨⟨by decide +kernel, by decide +kernel⟩, List.mem_of_getElem? (i := 831) (by decide +kernel), List.mem_of_getElem? (i := 978) (by decide +kernel), List.mem_of_getElem? (i := 979) (by decide +kernel)⟩
theorem lw_p35 : lw_okq (⟨"BeepHouseModel", "isDown", "()Z"⟩, 21) := ⟨⟨by decide +kernel, by decide +kernel⟩, List.mem_of_getElem? (i := 831) (by decide +kernel), List.mem_of_getElem? (i := 983) (by decide +kernel), List.mem_of_getElem? (i := 984) (by decide +kernel)⟩
theorem lw_p36 : lw_okq (⟨"BeepHouseModel", "keepBack", "()V"⟩, 21) := ⟨⟨by decide +kernel, by decide +kernel⟩, List.mem_of_getElem? (i := 831) (by decide +kernel), List.mem_of_getElem? (i := 994) (by decide +kernel), List.mem_of_getElem? (i := 995) (by decide +kernel)⟩
theorem lw_p37 : lw_okq (⟨"BeepHouseModel", "pass", "(I)V"⟩, 21) := ⟨⟨by decide +kernel, by decide +kernel⟩, List.mem_of_getElem? (i := 831) (by decide +kernel), List.mem_of_getElem? (i := 998) (by decide +kernel), List.mem_of_getElem? (i := 999) (by decide +kernel)⟩
theorem lw_p38 : lw_okq (⟨"BeepHouseModel", "layFar", "()V"⟩, 21) := ⟨⟨by decide +kernel, by decide +kernel⟩, List.mem_of_getElem? (i := 831) (by decide +kernel), List.mem_of_getElem? (i := 1002) (by decide +kernel), List.mem_of_getElem? (i := 1003) (by decide +kernel)⟩
theorem lw_p39 : lw_okq (⟨"BeepHouseModel", "farOf", "(II)I"⟩, 21) := ⟨⟨by decide +kernel, by decide +kernel⟩, List.mem_of_getElem? (i := 831) (by decide +kernel), List.mem_of_getElem? (i := 1006) (by decide +kernel), List.mem_of_getElem? (i := 1007) (by decide +kernel)⟩
theorem lw_p40 : lw_okq (⟨"BeepHouseModel", "heardBy", "(III)I"⟩, 21) := ⟨⟨by decide +kernel, by decide +kernel⟩, List.mem_of_getElem? (i := 831) (by decide +kernel), List.mem_of_getElem? (i := 1010) (by decide +kernel), List.mem_of_getElem? (i := 1011) (by decide +kernel)⟩
theorem lw_p41 : lw_okq (⟨"BeepHouseModel", "beepsNow", "(III)Z"⟩, 21) := ⟨⟨by decide +kernel, by decide +kernel⟩, List.mem_of_getElem? (i := 831) (by decide +kernel), List.mem_of_getElem? (i := 1014) (by decide +kernel), List.mem_of_getElem? (i := 1015) (by decide +kernel)⟩
theorem lw_p42 : lw_okq (⟨"BeepHouseModel", "isSilent", "(I)Z"⟩, 21) := ⟨⟨by decide +kernel, by decide +kernel⟩, List.mem_of_getElem? (i := 831) (by decide +kernel), List.mem_of_getElem? (i := 1018) (by decide +kernel), List.mem_of_getElem? (i := 1019) (by decide +kernel)⟩
theorem lw_p43 : lw_okq (⟨"BeepHouseModel", "reaches", "(II)Z"⟩, 21) := ⟨⟨by decide +kernel, by decide +kernel⟩, List.mem_of_getElem? (i := 831) (by decide +kernel), List.mem_of_getElem? (i := 1028) (by decide +kernel), List.mem_of_getElem? (i := 1029) (by decide +kernel)⟩
theorem lw_p44 : lw_okq (⟨"BeepHouseModel", "no", "()I"⟩, 21) := ⟨⟨by decide +kernel, by decide +kernel⟩, List.mem_of_getElem? (i := 831) (by decide +kernel), List.mem_of_getElem? (i := 1039) (by decide +kernel), List.mem_of_getElem? (i := 1040) (by decide +kernel)⟩
theorem lw_p45 : lw_okq (⟨"BeepHouseModel", "isAlarm", "(I)Z"⟩, 21) := ⟨⟨by decide +kernel, by decide +kernel⟩, List.mem_of_getElem? (i := 831) (by decide +kernel), List.mem_of_getElem? (i := 1047) (by decide +kernel), List.mem_of_getElem? (i := 1048) (by decide +kernel)⟩
theorem lw_p46 : lw_okq (⟨"BeepHouseModel", "throughBy", "(II)I"⟩, 21) := ⟨⟨by decide +kernel, by decide +kernel⟩, List.mem_of_getElem? (i := 831) (by decide +kernel), List.mem_of_getElem? (i := 1083) (by decide +kernel), List.mem_of_getElem? (i := 1084) (by decide +kernel)⟩
theorem lw_p47 : lw_okq (⟨"BeepHouseModel", "beepsEver", "(II)Z"⟩, 21) := ⟨⟨by decide +kernel, by decide +kernel⟩, List.mem_of_getElem? (i := 831) (by decide +kernel), List.mem_of_getElem? (i := 1095) (by decide +kernel), List.mem_of_getElem? (i := 1096) (by decide +kernel)⟩
def lw_privs_3 : List (MethodName × Nat) := [(⟨"BeepHouseModel", "isNumber", "(II)Z"⟩, 21), (⟨"BeepHouseModel", "isDoor", "()Z"⟩, 21), (⟨"BeepHouseModel", "isAlarmItem", "()Z"⟩, 21), (⟨"BeepHouseModel", "isDown", "()Z"⟩, 21), (⟨"BeepHouseModel", "keepBack", "()V"⟩, 21), (⟨"BeepHouseModel", "pass", "(I)V"⟩, 21), (⟨"BeepHouseModel", "layFar", "()V"⟩, 21), (⟨"BeepHouseModel", "farOf", "(II)I"⟩, 21), (⟨"BeepHouseModel", "heardBy", "(III)I"⟩, 21), (⟨"BeepHouseModel", "beepsNow", "(III)Z"⟩, 21), (⟨"BeepHouseModel", "isSilent", "(I)Z"⟩, 21), (⟨"BeepHouseModel", "reaches", "(II)Z"⟩, 21), (⟨"BeepHouseModel", "no", "()I"⟩, 21), (⟨"BeepHouseModel", "isAlarm", "(I)Z"⟩, 21), (⟨"BeepHouseModel", "throughBy", "(II)I"⟩, 21), (⟨"BeepHouseModel", "beepsEver", "(II)Z"⟩, 21)]
theorem lw_r3 : ∀ q ∈ lw_privs_3, lw_okq q := List.forall_mem_cons.mpr ⟨lw_p32, List.forall_mem_cons.mpr ⟨lw_p33, List.forall_mem_cons.mpr ⟨lw_p34, List.forall_mem_cons.mpr ⟨lw_p35, List.forall_mem_cons.mpr ⟨lw_p36, List.forall_mem_cons.mpr ⟨lw_p37, List.forall_mem_cons.mpr ⟨lw_p38, List.forall_mem_cons.mpr ⟨lw_p39, List.forall_mem_cons.mpr ⟨lw_p40, List.forall_mem_cons.mpr ⟨lw_p41, List.forall_mem_cons.mpr ⟨lw_p42, List.forall_mem_cons.mpr ⟨lw_p43, List.forall_mem_cons.mpr ⟨lw_p44, List.forall_mem_cons.mpr ⟨lw_p45, List.forall_mem_cons.mpr ⟨lw_p46, List.forall_mem_cons.mpr ⟨lw_p47, fun _ h => absurd h List.not_mem_nil⟩⟩⟩⟩⟩⟩⟩⟩⟩⟩⟩⟩⟩⟩⟩⟩
theorem lw_p48 : lw_okq (⟨"BeepHouseModel", "laySure", "()V"⟩, 21) := ⟨⟨by decide +kernel, by decide +kernel⟩, List.mem_of_getElem? (i := 831) (by decide +kernel), List.mem_of_getElem? (i := 1103) (by decide +kernel), List.mem_of_getElem? (i := 1104) (by decide +kernel)⟩
theorem lw_p49 : lw_okq (⟨"BeepHouseModel", "alikeBy", "(III)I"⟩, 21) := ⟨⟨by decide +kernel, by decide +kernel⟩, List.mem_of_getElem? (i := 831) (by decide +kernel), List.mem_of_getElem? (i := 1110) (by decide +kernel), List.mem_of_getElem? (i := 1111) (by decide +kernel)⟩
theorem lw_p50 : lw_okq (⟨"BeepHouseModel", "layWay", "()I"⟩, 21) := ⟨⟨by decide +kernel, by decide +kernel⟩, List.mem_of_getElem? (i := 831) (by decide +kernel), List.mem_of_getElem? (i := 1118) (by decide +kernel), List.mem_of_getElem? (i := 1119) (by decide +kernel)⟩
theorem lw_p51 : lw_okq (⟨"BeepHouseModel", "loudOnes", "()I"⟩, 21) := ⟨⟨by decide +kernel, by decide +kernel⟩, List.mem_of_getElem? (i := 831) (by decide +kernel), List.mem_of_getElem? (i := 1122) (by decide +kernel), List.mem_of_getElem? (i := 1123) (by decide +kernel)⟩
theorem lw_p52 : lw_okq (⟨"BeepHouseModel", "wayBy", "(I)I"⟩, 21) := ⟨⟨by decide +kernel, by decide +kernel⟩, List.mem_of_getElem? (i := 831) (by decide +kernel), List.mem_of_getElem? (i := 1126) (by decide +kernel), List.mem_of_getElem? (i := 1127) (by decide +kernel)⟩
theorem lw_p53 : lw_okq (⟨"BeepHouseModel", "whichOnes", "()I"⟩, 21) := ⟨⟨by decide +kernel, by decide +kernel⟩, List.mem_of_getElem? (i := 831) (by decide +kernel), List.mem_of_getElem? (i := 1150) (by decide +kernel), List.mem_of_getElem? (i := 1151) (by decide +kernel)⟩
theorem lw_p54 : lw_okq (⟨"BeepHouseModel", "counted", "(I)I"⟩, 21) := ⟨⟨by decide +kernel, by decide +kernel⟩, List.mem_of_getElem? (i := 831) (by decide +kernel), List.mem_of_getElem? (i := 1198) (by decide +kernel), List.mem_of_getElem? (i := 1199) (by decide +kernel)⟩
def lw_privs_4 : List (MethodName × Nat) := [(⟨"BeepHouseModel", "laySure", "()V"⟩, 21), (⟨"BeepHouseModel", "alikeBy", "(III)I"⟩, 21), (⟨"BeepHouseModel", "layWay", "()I"⟩, 21), (⟨"BeepHouseModel", "loudOnes", "()I"⟩, 21), (⟨"BeepHouseModel", "wayBy", "(I)I"⟩, 21), (⟨"BeepHouseModel", "whichOnes", "()I"⟩, 21), (⟨"BeepHouseModel", "counted", "(I)I"⟩, 21)]
theorem lw_r4 : ∀ q ∈ lw_privs_4, lw_okq q := List.forall_mem_cons.mpr ⟨lw_p48, List.forall_mem_cons.mpr ⟨lw_p49, List.forall_mem_cons.mpr ⟨lw_p50, List.forall_mem_cons.mpr ⟨lw_p51, List.forall_mem_cons.mpr ⟨lw_p52, List.forall_mem_cons.mpr ⟨lw_p53, List.forall_mem_cons.mpr ⟨lw_p54, fun _ h => absurd h List.not_mem_nil⟩⟩⟩⟩⟩⟩⟩
def lw_privs : List (MethodName × Nat) := lw_privs_1 ++ (lw_privs_2 ++ (lw_privs_3 ++ (lw_privs_4)))
def lw_tbl : List Cond := k2_sels lw_privs ++ tables_1
theorem lw_privs_ok : ∀ q ∈ lw_privs, lw_okq q := by
  show ∀ q ∈ lw_privs_1 ++ (lw_privs_2 ++ (lw_privs_3 ++ (lw_privs_4))), lw_okq q
  exact List.forall_mem_append.mpr ⟨lw_r1, List.forall_mem_append.mpr ⟨lw_r2, List.forall_mem_append.mpr ⟨lw_r3, lw_r4⟩⟩⟩
end
section
/-! ===== BEGIN words of one list among another's, by their places ===== -/
theorem goodIn_r {big : List Cond} (ws : List Cond) (ps : List Nat) (hp : ws = ps.filterMap (fun i => big[i]?)) (h : ws.all goodWord = true) : GoodIn big ws := by
  intro w hw
  have h1 := List.all_eq_true.mp h w hw
  rw [hp] at hw
  obtain ⟨i, -, hi⟩ := List.mem_filterMap.mp hw
  have hm : w ∈ big := by first | exact List.mem_of_getElem? hi | exact List.getElem?_mem hi
  exact ⟨hm, good_of_word h1⟩
theorem goodIn_app {big a b : List Cond} (ha : GoodIn big a) (hb : GoodIn big b) : GoodIn big (a ++ b) := fun w h => (List.mem_append.mp h).elim (ha w) (hb w)
theorem goodIn_ca {big a b : List Cond} {c : Cond} (ha : GoodIn big (c :: a)) (hb : GoodIn big b) : GoodIn big (c :: (a ++ b)) := fun w h => (List.mem_cons.mp h).elim (fun e => ha w (List.mem_cons.mpr (Or.inl e))) (fun h => (List.mem_append.mp h).elim (fun h => ha w (List.mem_cons.mpr (Or.inr h))) (hb w))
theorem goodIn_sub {big ws : List Cond} (hm : ∀ w ∈ ws, w ∈ big) (h : ws.all goodWord = true) : GoodIn big ws := fun w hw => ⟨hm w hw, good_of_word (List.all_eq_true.mp h w hw)⟩
/-! ===== END ===== -/

/-! ===== BEGIN printed: names, fields, word lists, decode rows ===== -/
def RX0 : String := "BeepHouse$Drawer"
def TX0 : u_T := fun k => match k with
  | _ => ("", "", "", false)
def tyX0 : Nat → FieldType := fun k => match k with
  | _ => .int
abbrev wsX00 : List Cond := u_ws RX0 TX0 0
theorem nmX0 : ∀ a, a < 0 → ∀ b, b < 0 → a ≠ b → (TX0 a).2.1 ≠ (TX0 b).2.1 := by decide +kernel
theorem tyX0_ok : ∀ k, k < 0 → parseFieldDescriptor (TX0 k).2.2.1 = some (tyX0 k) := by decide +kernel
abbrev cX0_init : ByteArray := prog_2_method_1_code
def yX0_init : MethodName := ⟨RX0, "<init>", "()V"⟩
abbrev cX0_loud : ByteArray := prog_2_method_2_code
def yX0_loud : MethodName := ⟨RX0, "loud", "()I"⟩
abbrev cX0_soundsDown : ByteArray := prog_2_method_3_code
def yX0_soundsDown : MethodName := ⟨RX0, "soundsDown", "()Z"⟩
def RX1 : String := "BeepHouse$Fresh"
def TX1 : u_T := fun k => match k with
  | _ => ("", "", "", false)
def tyX1 : Nat → FieldType := fun k => match k with
  | _ => .int
abbrev wsX10 : List Cond := u_ws RX1 TX1 0
theorem nmX1 : ∀ a, a < 0 → ∀ b, b < 0 → a ≠ b → (TX1 a).2.1 ≠ (TX1 b).2.1 := by decide +kernel
theorem tyX1_ok : ∀ k, k < 0 → parseFieldDescriptor (TX1 k).2.2.1 = some (tyX1 k) := by decide +kernel
abbrev cX1_init : ByteArray := prog_3_method_1_code
def yX1_init : MethodName := ⟨RX1, "<init>", "()V"⟩
abbrev cX1_sounds : ByteArray := prog_3_method_2_code
def yX1_sounds : MethodName := ⟨RX1, "sounds", "(III)Z"⟩
def RX2 : String := "BeepHouse$Home"
def TX2 : u_T := fun k => match k with
  | 0 => ("BeepHouse$Home", "kinds", "[LBeepHouse$Plain;", true)
  | 1 => ("BeepHouse$Home", "doors", "[I", true)
  | 2 => ("BeepHouse$Home", "distance", "[I", true)
  | 3 => ("BeepHouse$Home", "kind", "[I", true)
  | 4 => ("BeepHouse$Home", "room", "[I", true)
  | 5 => ("BeepHouse$Home", "noteRoom", "[I", true)
  | 6 => ("BeepHouse$Home", "noteThrough", "[I", true)
  | 7 => ("BeepHouse$Home", "now", "LBeepHouse$Moment;", true)
  | 8 => ("BeepHouse$Home", "past", "[LBeepHouse$Moment;", true)
  | 9 => ("BeepHouse$Home", "measured", "Z", false)
  | 10 => ("BeepHouse$Home", "alarms", "I", false)
  | 11 => ("BeepHouse$Home", "notes", "I", false)
  | _ => ("BeepHouse$Home", "undos", "I", false)
def tyX2 : Nat → FieldType := fun k => match k with
  | 0 => .array (.object "BeepHouse$Plain")
  | 1 => .array .int
  | 2 => .array .int
  | 3 => .array .int
  | 4 => .array .int
  | 5 => .array .int
  | 6 => .array .int
  | 7 => .object "BeepHouse$Moment"
  | 8 => .array (.object "BeepHouse$Moment")
  | 9 => .boolean
  | 10 => .int
  | 11 => .int
  | _ => .int
abbrev wsX20 : List Cond := u_ws RX2 TX2 13
theorem nmX2 : ∀ a, a < 13 → ∀ b, b < 13 → a ≠ b → (TX2 a).2.1 ≠ (TX2 b).2.1 := by decide +kernel
theorem tyX2_ok : ∀ k, k < 13 → parseFieldDescriptor (TX2 k).2.2.1 = some (tyX2 k) := by decide +kernel
abbrev cX2_init : ByteArray := prog_4_method_1_code
def yX2_init : MethodName := ⟨RX2, "<init>", "()V"⟩
abbrev cX2_reset : ByteArray := prog_4_method_2_code
def yX2_reset : MethodName := ⟨RX2, "reset", "()V"⟩
abbrev cX2_copyFrom : ByteArray := prog_4_method_3_code
def yX2_copyFrom : MethodName := ⟨RX2, "copyFrom", "(LBeepHouse$Home;)V"⟩
abbrev cX2_doorBetween : ByteArray := prog_4_method_4_code
def yX2_doorBetween : MethodName := ⟨RX2, "doorBetween", "(II)I"⟩
abbrev cX2_setDoor : ByteArray := prog_4_method_5_code
def yX2_setDoor : MethodName := ⟨RX2, "setDoor", "(III)V"⟩
abbrev cX2_addAlarm : ByteArray := prog_4_method_6_code
def yX2_addAlarm : MethodName := ⟨RX2, "addAlarm", "(III)V"⟩
abbrev cX2_addNote : ByteArray := prog_4_method_7_code
def yX2_addNote : MethodName := ⟨RX2, "addNote", "(II)V"⟩
abbrev cX2_remember : ByteArray := prog_4_method_8_code
def yX2_remember : MethodName := ⟨RX2, "remember", "()V"⟩
abbrev cX2_goBack : ByteArray := prog_4_method_9_code
def yX2_goBack : MethodName := ⟨RX2, "goBack", "()V"⟩
abbrev cX2_pass : ByteArray := prog_4_method_10_code
def yX2_pass : MethodName := ⟨RX2, "pass", "(I)V"⟩
abbrev cX2_allBits : ByteArray := prog_4_method_11_code
def yX2_allBits : MethodName := ⟨RX2, "allBits", "()I"⟩
abbrev cX2_kindOf : ByteArray := prog_4_method_12_code
def yX2_kindOf : MethodName := ⟨RX2, "kindOf", "(I)LBeepHouse$Plain;"⟩
abbrev cX2_distanceBetween : ByteArray := prog_4_method_13_code
def yX2_distanceBetween : MethodName := ⟨RX2, "distanceBetween", "(II)I"⟩
abbrev cX2_measure : ByteArray := prog_4_method_14_code
def yX2_measure : MethodName := ⟨RX2, "measure", "()V"⟩
abbrev cX2_mayBeep : ByteArray := prog_4_method_15_code
def yX2_mayBeep : MethodName := ⟨RX2, "mayBeep", "(I)Z"⟩
abbrev cX2_soundsIn : ByteArray := prog_4_method_16_code
def yX2_soundsIn : MethodName := ⟨RX2, "soundsIn", "(II)Z"⟩
abbrev cX2_reaches : ByteArray := prog_4_method_17_code
def yX2_reaches : MethodName := ⟨RX2, "reaches", "(II)Z"⟩
abbrev cX2_bitsHeard : ByteArray := prog_4_method_18_code
def yX2_bitsHeard : MethodName := ⟨RX2, "bitsHeard", "(II)I"⟩
abbrev cX2_everHeard : ByteArray := prog_4_method_19_code
def yX2_everHeard : MethodName := ⟨RX2, "everHeard", "(II)Z"⟩
abbrev cX2_howManyReach : ByteArray := prog_4_method_20_code
def yX2_howManyReach : MethodName := ⟨RX2, "howManyReach", "(I)I"⟩
abbrev cX2_entrance : ByteArray := prog_4_method_21_code
def yX2_entrance : MethodName := ⟨RX2, "entrance", "(II)I"⟩
abbrev cX2_toldApart : ByteArray := prog_4_method_22_code
def yX2_toldApart : MethodName := ⟨RX2, "toldApart", "(III)Z"⟩
abbrev cX2_bitsFitting : ByteArray := prog_4_method_23_code
def yX2_bitsFitting : MethodName := ⟨RX2, "bitsFitting", "()I"⟩
abbrev cX2_fitsNotes : ByteArray := prog_4_method_24_code
def yX2_fitsNotes : MethodName := ⟨RX2, "fitsNotes", "(I)Z"⟩
abbrev cX2_mixAll : ByteArray := prog_4_method_25_code
def yX2_mixAll : MethodName := ⟨RX2, "mixAll", "(J)J"⟩
def RX3 : String := "BeepHouse$Moment"
def TX3 : u_T := fun k => match k with
  | 0 => ("BeepHouse$Moment", "battery", "[I", true)
  | 1 => ("BeepHouse$Moment", "second", "I", false)
  | 2 => ("BeepHouse$Moment", "place", "I", false)
  | 3 => ("BeepHouse$Moment", "cold", "I", false)
  | _ => ("BeepHouse$Moment", "down", "I", false)
def tyX3 : Nat → FieldType := fun k => match k with
  | 0 => .array .int
  | 1 => .int
  | 2 => .int
  | 3 => .int
  | _ => .int
abbrev wsX30 : List Cond := u_ws RX3 TX3 5
theorem nmX3 : ∀ a, a < 5 → ∀ b, b < 5 → a ≠ b → (TX3 a).2.1 ≠ (TX3 b).2.1 := by decide +kernel
theorem tyX3_ok : ∀ k, k < 5 → parseFieldDescriptor (TX3 k).2.2.1 = some (tyX3 k) := by decide +kernel
abbrev cX3_init : ByteArray := prog_5_method_1_code
def yX3_init : MethodName := ⟨RX3, "<init>", "()V"⟩
abbrev cX3_copyFrom : ByteArray := prog_5_method_2_code
def yX3_copyFrom : MethodName := ⟨RX3, "copyFrom", "(LBeepHouse$Moment;)V"⟩
abbrev cX3_setDown : ByteArray := prog_5_method_3_code
def yX3_setDown : MethodName := ⟨RX3, "setDown", "(II)V"⟩
def RX4 : String := "BeepHouse$Old"
def TX4 : u_T := fun k => match k with
  | _ => ("", "", "", false)
def tyX4 : Nat → FieldType := fun k => match k with
  | _ => .int
abbrev wsX40 : List Cond := u_ws RX4 TX4 0
theorem nmX4 : ∀ a, a < 0 → ∀ b, b < 0 → a ≠ b → (TX4 a).2.1 ≠ (TX4 b).2.1 := by decide +kernel
theorem tyX4_ok : ∀ k, k < 0 → parseFieldDescriptor (TX4 k).2.2.1 = some (tyX4 k) := by decide +kernel
abbrev cX4_init : ByteArray := prog_6_method_1_code
def yX4_init : MethodName := ⟨RX4, "<init>", "()V"⟩
abbrev cX4_sounds : ByteArray := prog_6_method_2_code
def yX4_sounds : MethodName := ⟨RX4, "sounds", "(III)Z"⟩
def RX5 : String := "BeepHouse$Phone"
def TX5 : u_T := fun k => match k with
  | _ => ("", "", "", false)
def tyX5 : Nat → FieldType := fun k => match k with
  | _ => .int
abbrev wsX50 : List Cond := u_ws RX5 TX5 0
theorem nmX5 : ∀ a, a < 0 → ∀ b, b < 0 → a ≠ b → (TX5 a).2.1 ≠ (TX5 b).2.1 := by decide +kernel
theorem tyX5_ok : ∀ k, k < 0 → parseFieldDescriptor (TX5 k).2.2.1 = some (tyX5 k) := by decide +kernel
abbrev cX5_init : ByteArray := prog_7_method_1_code
def yX5_init : MethodName := ⟨RX5, "<init>", "()V"⟩
abbrev cX5_sounds : ByteArray := prog_7_method_2_code
def yX5_sounds : MethodName := ⟨RX5, "sounds", "(III)Z"⟩
abbrev cX5_loud : ByteArray := prog_7_method_3_code
def yX5_loud : MethodName := ⟨RX5, "loud", "()I"⟩
def RX6 : String := "BeepHouse$Plain"
def TX6 : u_T := fun k => match k with
  | _ => ("", "", "", false)
def tyX6 : Nat → FieldType := fun k => match k with
  | _ => .int
abbrev wsX60 : List Cond := u_ws RX6 TX6 0
theorem nmX6 : ∀ a, a < 0 → ∀ b, b < 0 → a ≠ b → (TX6 a).2.1 ≠ (TX6 b).2.1 := by decide +kernel
theorem tyX6_ok : ∀ k, k < 0 → parseFieldDescriptor (TX6 k).2.2.1 = some (tyX6 k) := by decide +kernel
abbrev cX6_init : ByteArray := prog_8_method_1_code
def yX6_init : MethodName := ⟨RX6, "<init>", "()V"⟩
abbrev cX6_sounds : ByteArray := prog_8_method_2_code
def yX6_sounds : MethodName := ⟨RX6, "sounds", "(III)Z"⟩
abbrev cX6_loud : ByteArray := prog_8_method_3_code
def yX6_loud : MethodName := ⟨RX6, "loud", "()I"⟩
abbrev cX6_soundsDown : ByteArray := prog_8_method_4_code
def yX6_soundsDown : MethodName := ⟨RX6, "soundsDown", "()Z"⟩
abbrev cX6_everSounds : ByteArray := prog_8_method_5_code
def yX6_everSounds : MethodName := ⟨RX6, "everSounds", "(II)Z"⟩
def RX7 : String := "BeepHouse$Search"
def TX7 : u_T := fun k => match k with
  | 0 => ("BeepHouse$Search", "alike", "[I", true)
  | 1 => ("BeepHouse$Search", "times", "[I", true)
  | 2 => ("BeepHouse$Search", "firstRoom", "[I", true)
  | 3 => ("BeepHouse$Search", "comes", "[I", true)
  | 4 => ("BeepHouse$Search", "target", "[I", true)
  | 5 => ("BeepHouse$Search", "leg", "[I", true)
  | 6 => ("BeepHouse$Search", "rest", "[I", true)
  | _ => ("BeepHouse$Search", "targets", "I", false)
def tyX7 : Nat → FieldType := fun k => match k with
  | 0 => .array .int
  | 1 => .array .int
  | 2 => .array .int
  | 3 => .array .int
  | 4 => .array .int
  | 5 => .array .int
  | 6 => .array .int
  | _ => .int
abbrev wsX70 : List Cond := u_ws RX7 TX7 8
theorem nmX7 : ∀ a, a < 8 → ∀ b, b < 8 → a ≠ b → (TX7 a).2.1 ≠ (TX7 b).2.1 := by decide +kernel
theorem tyX7_ok : ∀ k, k < 8 → parseFieldDescriptor (TX7 k).2.2.1 = some (tyX7 k) := by decide +kernel
abbrev cX7_init : ByteArray := prog_9_method_1_code
def yX7_init : MethodName := ⟨RX7, "<init>", "()V"⟩
abbrev cX7_learnAlike : ByteArray := prog_9_method_2_code
def yX7_learnAlike : MethodName := ⟨RX7, "learnAlike", "(LBeepHouse$Home;)V"⟩
abbrev cX7_settleAll : ByteArray := prog_9_method_3_code
def yX7_settleAll : MethodName := ⟨RX7, "settleAll", "(I)V"⟩
abbrev cX7_settle : ByteArray := prog_9_method_4_code
def yX7_settle : MethodName := ⟨RX7, "settle", "(I)V"⟩
abbrev cX7_worstPart : ByteArray := prog_9_method_5_code
def yX7_worstPart : MethodName := ⟨RX7, "worstPart", "(II)I"⟩
abbrev cX7_roomOfSmallestGroups : ByteArray := prog_9_method_6_code
def yX7_roomOfSmallestGroups : MethodName := ⟨RX7, "roomOfSmallestGroups", "(I)I"⟩
abbrev cX7_greatestGroup : ByteArray := prog_9_method_7_code
def yX7_greatestGroup : MethodName := ⟨RX7, "greatestGroup", "(II)I"⟩
abbrev cX7_findTargets : ByteArray := prog_9_method_8_code
def yX7_findTargets : MethodName := ⟨RX7, "findTargets", "(LBeepHouse$Home;)V"⟩
abbrev cX7_measureLegs : ByteArray := prog_9_method_9_code
def yX7_measureLegs : MethodName := ⟨RX7, "measureLegs", "(LBeepHouse$Home;)V"⟩
abbrev cX7_allJoined : ByteArray := prog_9_method_10_code
def yX7_allJoined : MethodName := ⟨RX7, "allJoined", "()Z"⟩
abbrev cX7_fillRest : ByteArray := prog_9_method_11_code
def yX7_fillRest : MethodName := ⟨RX7, "fillRest", "()V"⟩
abbrev cX7_leastFrom : ByteArray := prog_9_method_12_code
def yX7_leastFrom : MethodName := ⟨RX7, "leastFrom", "(II)I"⟩
abbrev cX7_leastBy : ByteArray := prog_9_method_13_code
def yX7_leastBy : MethodName := ⟨RX7, "leastBy", "(III)I"⟩
abbrev cX7_wholeWay : ByteArray := prog_9_method_14_code
def yX7_wholeWay : MethodName := ⟨RX7, "wholeWay", "()I"⟩
abbrev cX7_targetAt : ByteArray := prog_9_method_15_code
def yX7_targetAt : MethodName := ⟨RX7, "targetAt", "(I)I"⟩
abbrev cX7_firstOfLeast : ByteArray := prog_9_method_16_code
def yX7_firstOfLeast : MethodName := ⟨RX7, "firstOfLeast", "(II)I"⟩
def RX8 : String := "BeepHouse$Text"
def TX8 : u_T := fun k => match k with
  | 0 => ("BeepHouse$Text", "bytes", "[C", true)
  | 1 => ("BeepHouse$Text", "length", "I", false)
  | 2 => ("BeepHouse$Text", "sort", "I", false)
  | 3 => ("BeepHouse$Text", "begin", "I", false)
  | 4 => ("BeepHouse$Text", "end", "I", false)
  | _ => ("BeepHouse$Text", "value", "I", false)
def tyX8 : Nat → FieldType := fun k => match k with
  | 0 => .array .char
  | 1 => .int
  | 2 => .int
  | 3 => .int
  | 4 => .int
  | _ => .int
abbrev wsX80 : List Cond := u_ws RX8 TX8 6
theorem nmX8 : ∀ a, a < 6 → ∀ b, b < 6 → a ≠ b → (TX8 a).2.1 ≠ (TX8 b).2.1 := by decide +kernel
theorem tyX8_ok : ∀ k, k < 6 → parseFieldDescriptor (TX8 k).2.2.1 = some (tyX8 k) := by decide +kernel
abbrev cX8_init : ByteArray := prog_10_method_1_code
def yX8_init : MethodName := ⟨RX8, "<init>", "()V"⟩
abbrev cX8_add : ByteArray := prog_10_method_2_code
def yX8_add : MethodName := ⟨RX8, "add", "(C)V"⟩
abbrev cX8_tell : ByteArray := prog_10_method_3_code
def yX8_tell : MethodName := ⟨RX8, "tell", "(LBeepHouse$Home;)I"⟩
abbrev cX8_item : ByteArray := prog_10_method_4_code
def yX8_item : MethodName := ⟨RX8, "item", "(LBeepHouse$Home;Z)Z"⟩
abbrev cX8_houseItem : ByteArray := prog_10_method_5_code
def yX8_houseItem : MethodName := ⟨RX8, "houseItem", "(LBeepHouse$Home;)Z"⟩
abbrev cX8_doorItem : ByteArray := prog_10_method_6_code
def yX8_doorItem : MethodName := ⟨RX8, "doorItem", "(LBeepHouse$Home;)Z"⟩
abbrev cX8_alarmItem : ByteArray := prog_10_method_7_code
def yX8_alarmItem : MethodName := ⟨RX8, "alarmItem", "(LBeepHouse$Home;)Z"⟩
abbrev cX8_downItem : ByteArray := prog_10_method_8_code
def yX8_downItem : MethodName := ⟨RX8, "downItem", "(LBeepHouse$Home;)Z"⟩
abbrev cX8_number : ByteArray := prog_10_method_9_code
def yX8_number : MethodName := ⟨RX8, "number", "(II)I"⟩
abbrev cX8_stop : ByteArray := prog_10_method_10_code
def yX8_stop : MethodName := ⟨RX8, "stop", "()Z"⟩
abbrev cX8_says : ByteArray := prog_10_method_11_code
def yX8_says : MethodName := ⟨RX8, "says", "(Ljava/lang/String;)Z"⟩
abbrev cX8_step : ByteArray := prog_10_method_12_code
def yX8_step : MethodName := ⟨RX8, "step", "()V"⟩
abbrev cX8_behindRun : ByteArray := prog_10_method_13_code
def yX8_behindRun : MethodName := ⟨RX8, "behindRun", "(ICC)I"⟩
abbrev cX8_valueOfFigures : ByteArray := prog_10_method_14_code
def yX8_valueOfFigures : MethodName := ⟨RX8, "valueOfFigures", "()I"⟩
def RX9 : String := "BeepHouse$Wired"
def TX9 : u_T := fun k => match k with
  | _ => ("", "", "", false)
def tyX9 : Nat → FieldType := fun k => match k with
  | _ => .int
abbrev wsX90 : List Cond := u_ws RX9 TX9 0
theorem nmX9 : ∀ a, a < 0 → ∀ b, b < 0 → a ≠ b → (TX9 a).2.1 ≠ (TX9 b).2.1 := by decide +kernel
theorem tyX9_ok : ∀ k, k < 0 → parseFieldDescriptor (TX9 k).2.2.1 = some (tyX9 k) := by decide +kernel
abbrev cX9_init : ByteArray := prog_11_method_1_code
def yX9_init : MethodName := ⟨RX9, "<init>", "()V"⟩
abbrev cX9_sounds : ByteArray := prog_11_method_2_code
def yX9_sounds : MethodName := ⟨RX9, "sounds", "(III)Z"⟩
abbrev cX9_loud : ByteArray := prog_11_method_3_code
def yX9_loud : MethodName := ⟨RX9, "loud", "()I"⟩
def RX10 : String := "BeepHouse"
def TX10 : u_T := fun k => match k with
  | 0 => ("BeepHouse", "text", "LBeepHouse$Text;", true)
  | 1 => ("BeepHouse", "search", "LBeepHouse$Search;", true)
  | 2 => ("BeepHouse", "images", "[LBeepHouse$Home;", true)
  | 3 => ("BeepHouse", "kept", "[Z", true)
  | 4 => ("BeepHouse", "home", "LBeepHouse$Home;", false)
  | 5 => ("BeepHouse", "draft", "LBeepHouse$Home;", false)
  | 6 => ("BeepHouse", "above", "J", false)
  | 7 => ("BeepHouse", "below", "J", false)
  | 8 => ("BeepHouse", "badCalls", "I", false)
  | 9 => ("BeepHouse", "noCalls", "I", false)
  | _ => ("BeepHouse", "fullCalls", "I", false)
def tyX10 : Nat → FieldType := fun k => match k with
  | 0 => .object "BeepHouse$Text"
  | 1 => .object "BeepHouse$Search"
  | 2 => .array (.object "BeepHouse$Home")
  | 3 => .array .boolean
  | 4 => .object "BeepHouse$Home"
  | 5 => .object "BeepHouse$Home"
  | 6 => .long
  | 7 => .long
  | 8 => .int
  | 9 => .int
  | _ => .int
abbrev wsX100 : List Cond := u_ws RX10 TX10 11
theorem nmX10 : ∀ a, a < 11 → ∀ b, b < 11 → a ≠ b → (TX10 a).2.1 ≠ (TX10 b).2.1 := by decide +kernel
theorem tyX10_ok : ∀ k, k < 11 → parseFieldDescriptor (TX10 k).2.2.1 = some (tyX10 k) := by decide +kernel
abbrev cX10_init : ByteArray := prog_1_method_1_code
def yX10_init : MethodName := ⟨RX10, "<init>", "()V"⟩
abbrev cX10_house : ByteArray := prog_1_method_2_code
def yX10_house : MethodName := ⟨RX10, "house", "()I"⟩
abbrev cX10_door : ByteArray := prog_1_method_3_code
def yX10_door : MethodName := ⟨RX10, "door", "(III)I"⟩
abbrev cX10_alarm : ByteArray := prog_1_method_4_code
def yX10_alarm : MethodName := ⟨RX10, "alarm", "(III)I"⟩
abbrev cX10_type : ByteArray := prog_1_method_5_code
def yX10_type : MethodName := ⟨RX10, "type", "(I)I"⟩
abbrev cX10_clear : ByteArray := prog_1_method_6_code
def yX10_clear : MethodName := ⟨RX10, "clear", "()I"⟩
abbrev cX10_read : ByteArray := prog_1_method_7_code
def yX10_read : MethodName := ⟨RX10, "read", "()I"⟩
abbrev cX10_waits : ByteArray := prog_1_method_8_code
def yX10_waits : MethodName := ⟨RX10, "waits", "(I)I"⟩
abbrev cX10_walk : ByteArray := prog_1_method_9_code
def yX10_walk : MethodName := ⟨RX10, "walk", "(I)I"⟩
abbrev cX10_take : ByteArray := prog_1_method_10_code
def yX10_take : MethodName := ⟨RX10, "take", "(II)I"⟩
abbrev cX10_battery : ByteArray := prog_1_method_11_code
def yX10_battery : MethodName := ⟨RX10, "battery", "(II)I"⟩
abbrev cX10_cold : ByteArray := prog_1_method_12_code
def yX10_cold : MethodName := ⟨RX10, "cold", "(I)I"⟩
abbrev cX10_undo : ByteArray := prog_1_method_13_code
def yX10_undo : MethodName := ⟨RX10, "undo", "()I"⟩
abbrev cX10_of : ByteArray := prog_1_method_14_code
def yX10_of : MethodName := ⟨RX10, "of", "(II)I"⟩
abbrev cX10_far : ByteArray := prog_1_method_15_code
def yX10_far : MethodName := ⟨RX10, "far", "(II)I"⟩
abbrev cX10_beeps : ByteArray := prog_1_method_16_code
def yX10_beeps : MethodName := ⟨RX10, "beeps", "(II)I"⟩
abbrev cX10_heard : ByteArray := prog_1_method_17_code
def yX10_heard : MethodName := ⟨RX10, "heard", "(II)I"⟩
abbrev cX10_through : ByteArray := prog_1_method_18_code
def yX10_through : MethodName := ⟨RX10, "through", "(II)I"⟩
abbrev cX10_next : ByteArray := prog_1_method_19_code
def yX10_next : MethodName := ⟨RX10, "next", "(II)I"⟩
abbrev cX10_coldest : ByteArray := prog_1_method_20_code
def yX10_coldest : MethodName := ⟨RX10, "coldest", "(I)I"⟩
abbrev cX10_sure : ByteArray := prog_1_method_21_code
def yX10_sure : MethodName := ⟨RX10, "sure", "(II)I"⟩
abbrev cX10_way : ByteArray := prog_1_method_22_code
def yX10_way : MethodName := ⟨RX10, "way", "(I)I"⟩
abbrev cX10_two : ByteArray := prog_1_method_23_code
def yX10_two : MethodName := ⟨RX10, "two", "(II)I"⟩
abbrev cX10_beside : ByteArray := prog_1_method_24_code
def yX10_beside : MethodName := ⟨RX10, "beside", "()I"⟩
abbrev cX10_note : ByteArray := prog_1_method_25_code
def yX10_note : MethodName := ⟨RX10, "note", "(II)I"⟩
abbrev cX10_forget : ByteArray := prog_1_method_26_code
def yX10_forget : MethodName := ⟨RX10, "forget", "()I"⟩
abbrev cX10_which : ByteArray := prog_1_method_27_code
def yX10_which : MethodName := ⟨RX10, "which", "()I"⟩
abbrev cX10_stand : ByteArray := prog_1_method_28_code
def yX10_stand : MethodName := ⟨RX10, "stand", "()I"⟩
abbrev cX10_is : ByteArray := prog_1_method_29_code
def yX10_is : MethodName := ⟨RX10, "is", "(III)I"⟩
abbrev cX10_missed : ByteArray := prog_1_method_30_code
def yX10_missed : MethodName := ⟨RX10, "missed", "(III)I"⟩
abbrev cX10_nights : ByteArray := prog_1_method_31_code
def yX10_nights : MethodName := ⟨RX10, "nights", "(II)I"⟩
abbrev cX10_part : ByteArray := prog_1_method_32_code
def yX10_part : MethodName := ⟨RX10, "part", "(I)J"⟩
abbrev cX10_image : ByteArray := prog_1_method_33_code
def yX10_image : MethodName := ⟨RX10, "image", "(I)I"⟩
abbrev cX10_from : ByteArray := prog_1_method_34_code
def yX10_from : MethodName := ⟨RX10, "from", "(I)I"⟩
abbrev cX10_status : ByteArray := prog_1_method_35_code
def yX10_status : MethodName := ⟨RX10, "status", "(I)I"⟩
abbrev cX10_count : ByteArray := prog_1_method_36_code
def yX10_count : MethodName := ⟨RX10, "count", "(I)I"⟩
abbrev cX10_digest : ByteArray := prog_1_method_37_code
def yX10_digest : MethodName := ⟨RX10, "digest", "()J"⟩
abbrev cX10_howMany : ByteArray := prog_1_method_38_code
def yX10_howMany : MethodName := ⟨RX10, "howMany", "(I)I"⟩
abbrev cX10_setTenths : ByteArray := prog_1_method_39_code
def yX10_setTenths : MethodName := ⟨RX10, "setTenths", "(I)V"⟩
abbrev cX10_refuseBad : ByteArray := prog_1_method_40_code
def yX10_refuseBad : MethodName := ⟨RX10, "refuseBad", "()I"⟩
abbrev cX10_refuseNo : ByteArray := prog_1_method_41_code
def yX10_refuseNo : MethodName := ⟨RX10, "refuseNo", "()I"⟩
abbrev cX10_refuseFull : ByteArray := prog_1_method_42_code
def yX10_refuseFull : MethodName := ⟨RX10, "refuseFull", "()I"⟩
abbrev cX10_isAlarm : ByteArray := prog_1_method_43_code
def yX10_isAlarm : MethodName := ⟨RX10, "isAlarm", "(I)Z"⟩
abbrev cX10_isRoom : ByteArray := prog_1_method_44_code
def yX10_isRoom : MethodName := ⟨RX10, "isRoom", "(I)Z"⟩
abbrev cX10_isSecond : ByteArray := prog_1_method_45_code
def yX10_isSecond : MethodName := ⟨RX10, "isSecond", "(I)Z"⟩
abbrev cX10_within : ByteArray := prog_1_method_46_code
def yX10_within : MethodName := ⟨RX10, "within", "(III)Z"⟩
abbrev cX10_has : ByteArray := prog_1_method_47_code
def yX10_has : MethodName := ⟨RX10, "has", "(II)Z"⟩
abbrev cX10_mix : ByteArray := prog_1_method_48_code
def yX10_mix : MethodName := ⟨RX10, "mix", "(JJ)J"⟩
def RX11 : String := "BeepHouseModel"
def TX11 : u_T := fun k => match k with
  | 0 => ("BeepHouseModel", "now", "[I", true)
  | 1 => ("BeepHouseModel", "read", "[I", true)
  | 2 => ("BeepHouseModel", "image", "[I", true)
  | 3 => ("BeepHouseModel", "isKept", "[Z", true)
  | 4 => ("BeepHouseModel", "refused", "[I", true)
  | 5 => ("BeepHouseModel", "upper", "J", false)
  | 6 => ("BeepHouseModel", "lower", "J", false)
  | 7 => ("BeepHouseModel", "letters", "I", false)
  | 8 => ("BeepHouseModel", "text", "[I", true)
  | 9 => ("BeepHouseModel", "position", "I", false)
  | 10 => ("BeepHouseModel", "tokenAt", "I", false)
  | 11 => ("BeepHouseModel", "token", "I", false)
  | 12 => ("BeepHouseModel", "number", "I", false)
  | 13 => ("BeepHouseModel", "word", "J", false)
  | 14 => ("BeepHouseModel", "items", "I", false)
  | 15 => ("BeepHouseModel", "far", "[I", true)
  | 16 => ("BeepHouseModel", "depth", "[I", true)
  | 17 => ("BeepHouseModel", "stood", "[I", true)
  | 18 => ("BeepHouseModel", "order", "[I", true)
  | 19 => ("BeepHouseModel", "bestOrder", "[I", true)
  | _ => ("BeepHouseModel", "bestMany", "I", false)
def tyX11 : Nat → FieldType := fun k => match k with
  | 0 => .array .int
  | 1 => .array .int
  | 2 => .array .int
  | 3 => .array .boolean
  | 4 => .array .int
  | 5 => .long
  | 6 => .long
  | 7 => .int
  | 8 => .array .int
  | 9 => .int
  | 10 => .int
  | 11 => .int
  | 12 => .int
  | 13 => .long
  | 14 => .int
  | 15 => .array .int
  | 16 => .array .int
  | 17 => .array .int
  | 18 => .array .int
  | 19 => .array .int
  | _ => .int
abbrev wsX110 : List Cond := u_ws RX11 TX11 21
theorem nmX11 : ∀ a, a < 21 → ∀ b, b < 21 → a ≠ b → (TX11 a).2.1 ≠ (TX11 b).2.1 := by decide +kernel
theorem tyX11_ok : ∀ k, k < 21 → parseFieldDescriptor (TX11 k).2.2.1 = some (tyX11 k) := by decide +kernel
abbrev cX11_init : ByteArray := prog_13_method_1_code
def yX11_init : MethodName := ⟨RX11, "<init>", "()V"⟩
abbrev cX11_begin : ByteArray := prog_13_method_2_code
def yX11_begin : MethodName := ⟨RX11, "begin", "([I)V"⟩
abbrev cX11_in : ByteArray := prog_13_method_3_code
def yX11_in : MethodName := ⟨RX11, "in", "(III)Z"⟩
abbrev cX11_has : ByteArray := prog_13_method_4_code
def yX11_has : MethodName := ⟨RX11, "has", "(II)Z"⟩
abbrev cX11_bits : ByteArray := prog_13_method_5_code
def yX11_bits : MethodName := ⟨RX11, "bits", "(I)I"⟩
abbrev cX11_bad : ByteArray := prog_13_method_6_code
def yX11_bad : MethodName := ⟨RX11, "bad", "()I"⟩
abbrev cX11_no : ByteArray := prog_13_method_7_code
def yX11_no : MethodName := ⟨RX11, "no", "()I"⟩
abbrev cX11_full : ByteArray := prog_13_method_8_code
def yX11_full : MethodName := ⟨RX11, "full", "()I"⟩
abbrev cX11_isAlarm : ByteArray := prog_13_method_9_code
def yX11_isAlarm : MethodName := ⟨RX11, "isAlarm", "(I)Z"⟩
abbrev cX11_isRoom : ByteArray := prog_13_method_10_code
def yX11_isRoom : MethodName := ⟨RX11, "isRoom", "(I)Z"⟩
abbrev cX11_house : ByteArray := prog_13_method_11_code
def yX11_house : MethodName := ⟨RX11, "house", "()I"⟩
abbrev cX11_door : ByteArray := prog_13_method_12_code
def yX11_door : MethodName := ⟨RX11, "door", "(III)I"⟩
abbrev cX11_addAlarm : ByteArray := prog_13_method_13_code
def yX11_addAlarm : MethodName := ⟨RX11, "addAlarm", "([IIII)I"⟩
abbrev cX11_alarm : ByteArray := prog_13_method_14_code
def yX11_alarm : MethodName := ⟨RX11, "alarm", "(III)I"⟩
abbrev cX11_type : ByteArray := prog_13_method_15_code
def yX11_type : MethodName := ⟨RX11, "type", "(I)I"⟩
abbrev cX11_clear : ByteArray := prog_13_method_16_code
def yX11_clear : MethodName := ⟨RX11, "clear", "()I"⟩
abbrev cX11_kindAt : ByteArray := prog_13_method_17_code
def yX11_kindAt : MethodName := ⟨RX11, "kindAt", "(I)I"⟩
abbrev cX11_nextToken : ByteArray := prog_13_method_18_code
def yX11_nextToken : MethodName := ⟨RX11, "nextToken", "()V"⟩
abbrev cX11_isNumber : ByteArray := prog_13_method_19_code
def yX11_isNumber : MethodName := ⟨RX11, "isNumber", "(II)Z"⟩
abbrev cX11_isDoor : ByteArray := prog_13_method_20_code
def yX11_isDoor : MethodName := ⟨RX11, "isDoor", "()Z"⟩
abbrev cX11_isAlarmItem : ByteArray := prog_13_method_21_code
def yX11_isAlarmItem : MethodName := ⟨RX11, "isAlarmItem", "()Z"⟩
abbrev cX11_isDown : ByteArray := prog_13_method_22_code
def yX11_isDown : MethodName := ⟨RX11, "isDown", "()Z"⟩
abbrev cX11_isCold : ByteArray := prog_13_method_23_code
def yX11_isCold : MethodName := ⟨RX11, "isCold", "()Z"⟩
abbrev cX11_isItem : ByteArray := prog_13_method_24_code
def yX11_isItem : MethodName := ⟨RX11, "isItem", "()Z"⟩
abbrev cX11_isRead : ByteArray := prog_13_method_25_code
def yX11_isRead : MethodName := ⟨RX11, "isRead", "()Z"⟩
abbrev cX11_read : ByteArray := prog_13_method_26_code
def yX11_read : MethodName := ⟨RX11, "read", "()I"⟩
abbrev cX11_bring : ByteArray := prog_13_method_27_code
def yX11_bring : MethodName := ⟨RX11, "bring", "([II[III)V"⟩
abbrev cX11_keepBack : ByteArray := prog_13_method_28_code
def yX11_keepBack : MethodName := ⟨RX11, "keepBack", "()V"⟩
abbrev cX11_pass : ByteArray := prog_13_method_29_code
def yX11_pass : MethodName := ⟨RX11, "pass", "(I)V"⟩
abbrev cX11_waits : ByteArray := prog_13_method_30_code
def yX11_waits : MethodName := ⟨RX11, "waits", "(I)I"⟩
abbrev cX11_walk : ByteArray := prog_13_method_31_code
def yX11_walk : MethodName := ⟨RX11, "walk", "(I)I"⟩
abbrev cX11_take : ByteArray := prog_13_method_32_code
def yX11_take : MethodName := ⟨RX11, "take", "(II)I"⟩
abbrev cX11_battery : ByteArray := prog_13_method_33_code
def yX11_battery : MethodName := ⟨RX11, "battery", "(II)I"⟩
abbrev cX11_cold : ByteArray := prog_13_method_34_code
def yX11_cold : MethodName := ⟨RX11, "cold", "(I)I"⟩
abbrev cX11_undo : ByteArray := prog_13_method_35_code
def yX11_undo : MethodName := ⟨RX11, "undo", "()I"⟩
abbrev cX11_loudOf : ByteArray := prog_13_method_36_code
def yX11_loudOf : MethodName := ⟨RX11, "loudOf", "(I)I"⟩
abbrev cX11_of : ByteArray := prog_13_method_37_code
def yX11_of : MethodName := ⟨RX11, "of", "(II)I"⟩
abbrev cX11_farOf : ByteArray := prog_13_method_38_code
def yX11_farOf : MethodName := ⟨RX11, "farOf", "(II)I"⟩
abbrev cX11_layFar : ByteArray := prog_13_method_39_code
def yX11_layFar : MethodName := ⟨RX11, "layFar", "()V"⟩
abbrev cX11_far : ByteArray := prog_13_method_40_code
def yX11_far : MethodName := ⟨RX11, "far", "(II)I"⟩
abbrev cX11_beepsBy : ByteArray := prog_13_method_41_code
def yX11_beepsBy : MethodName := ⟨RX11, "beepsBy", "(IIII)Z"⟩
abbrev cX11_isSilent : ByteArray := prog_13_method_42_code
def yX11_isSilent : MethodName := ⟨RX11, "isSilent", "(I)Z"⟩
abbrev cX11_beepsNow : ByteArray := prog_13_method_43_code
def yX11_beepsNow : MethodName := ⟨RX11, "beepsNow", "(III)Z"⟩
abbrev cX11_beeps : ByteArray := prog_13_method_44_code
def yX11_beeps : MethodName := ⟨RX11, "beeps", "(II)I"⟩
abbrev cX11_reaches : ByteArray := prog_13_method_45_code
def yX11_reaches : MethodName := ⟨RX11, "reaches", "(II)Z"⟩
abbrev cX11_heardBy : ByteArray := prog_13_method_46_code
def yX11_heardBy : MethodName := ⟨RX11, "heardBy", "(III)I"⟩
abbrev cX11_heard : ByteArray := prog_13_method_47_code
def yX11_heard : MethodName := ⟨RX11, "heard", "(II)I"⟩
abbrev cX11_throughBy : ByteArray := prog_13_method_48_code
def yX11_throughBy : MethodName := ⟨RX11, "throughBy", "(II)I"⟩
abbrev cX11_through : ByteArray := prog_13_method_49_code
def yX11_through : MethodName := ⟨RX11, "through", "(II)I"⟩
abbrev cX11_next : ByteArray := prog_13_method_50_code
def yX11_next : MethodName := ⟨RX11, "next", "(II)I"⟩
abbrev cX11_beepsEver : ByteArray := prog_13_method_51_code
def yX11_beepsEver : MethodName := ⟨RX11, "beepsEver", "(II)Z"⟩
abbrev cX11_coldest : ByteArray := prog_13_method_52_code
def yX11_coldest : MethodName := ⟨RX11, "coldest", "(I)I"⟩
abbrev cX11_alikeBy : ByteArray := prog_13_method_53_code
def yX11_alikeBy : MethodName := ⟨RX11, "alikeBy", "(III)I"⟩
abbrev cX11_laySure : ByteArray := prog_13_method_54_code
def yX11_laySure : MethodName := ⟨RX11, "laySure", "()V"⟩
abbrev cX11_sure : ByteArray := prog_13_method_55_code
def yX11_sure : MethodName := ⟨RX11, "sure", "(II)I"⟩
abbrev cX11_loudOnes : ByteArray := prog_13_method_56_code
def yX11_loudOnes : MethodName := ⟨RX11, "loudOnes", "()I"⟩
abbrev cX11_wayBy : ByteArray := prog_13_method_57_code
def yX11_wayBy : MethodName := ⟨RX11, "wayBy", "(I)I"⟩
abbrev cX11_layWay : ByteArray := prog_13_method_58_code
def yX11_layWay : MethodName := ⟨RX11, "layWay", "()I"⟩
abbrev cX11_way : ByteArray := prog_13_method_59_code
def yX11_way : MethodName := ⟨RX11, "way", "(I)I"⟩
abbrev cX11_two : ByteArray := prog_13_method_60_code
def yX11_two : MethodName := ⟨RX11, "two", "(II)I"⟩
abbrev cX11_beside : ByteArray := prog_13_method_61_code
def yX11_beside : MethodName := ⟨RX11, "beside", "()I"⟩
abbrev cX11_note : ByteArray := prog_13_method_62_code
def yX11_note : MethodName := ⟨RX11, "note", "(II)I"⟩
abbrev cX11_forget : ByteArray := prog_13_method_63_code
def yX11_forget : MethodName := ⟨RX11, "forget", "()I"⟩
abbrev cX11_whichOnes : ByteArray := prog_13_method_64_code
def yX11_whichOnes : MethodName := ⟨RX11, "whichOnes", "()I"⟩
abbrev cX11_which : ByteArray := prog_13_method_65_code
def yX11_which : MethodName := ⟨RX11, "which", "()I"⟩
abbrev cX11_stand : ByteArray := prog_13_method_66_code
def yX11_stand : MethodName := ⟨RX11, "stand", "()I"⟩
abbrev cX11_is : ByteArray := prog_13_method_67_code
def yX11_is : MethodName := ⟨RX11, "is", "(III)I"⟩
abbrev cX11_missed : ByteArray := prog_13_method_68_code
def yX11_missed : MethodName := ⟨RX11, "missed", "(III)I"⟩
abbrev cX11_nights : ByteArray := prog_13_method_69_code
def yX11_nights : MethodName := ⟨RX11, "nights", "(II)I"⟩
abbrev cX11_part : ByteArray := prog_13_method_70_code
def yX11_part : MethodName := ⟨RX11, "part", "(I)J"⟩
abbrev cX11_image : ByteArray := prog_13_method_71_code
def yX11_image : MethodName := ⟨RX11, "image", "(I)I"⟩
abbrev cX11_from : ByteArray := prog_13_method_72_code
def yX11_from : MethodName := ⟨RX11, "from", "(I)I"⟩
abbrev cX11_status : ByteArray := prog_13_method_73_code
def yX11_status : MethodName := ⟨RX11, "status", "(I)I"⟩
abbrev cX11_counted : ByteArray := prog_13_method_74_code
def yX11_counted : MethodName := ⟨RX11, "counted", "(I)I"⟩
abbrev cX11_count : ByteArray := prog_13_method_75_code
def yX11_count : MethodName := ⟨RX11, "count", "(I)I"⟩
abbrev cX11_digest : ByteArray := prog_13_method_76_code
def yX11_digest : MethodName := ⟨RX11, "digest", "()J"⟩
def RJ6 : String := "java/lang/Integer"
def TJ6 : u_T := fun k => match k with
  | _ => ("", "", "", false)
def tyJ6 : Nat → FieldType := fun k => match k with
  | _ => .int
abbrev wsJ60 : List Cond := u_ws RJ6 TJ6 0
theorem nmJ6 : ∀ a, a < 0 → ∀ b, b < 0 → a ≠ b → (TJ6 a).2.1 ≠ (TJ6 b).2.1 := by decide +kernel
theorem tyJ6_ok : ∀ k, k < 0 → parseFieldDescriptor (TJ6 k).2.2.1 = some (tyJ6 k) := by decide +kernel
abbrev cJ6_bitCount_0f7a4 : ByteArray := prog_14_method_49_code
def yJ6_bitCount_0f7a4 : MethodName := ⟨RJ6, "bitCount", "(I)I"⟩
def RJ9 : String := "java/lang/Math"
def TJ9 : u_T := fun k => match k with
  | _ => ("", "", "", false)
def tyJ9 : Nat → FieldType := fun k => match k with
  | _ => .int
abbrev wsJ90 : List Cond := u_ws RJ9 TJ9 0
theorem nmJ9 : ∀ a, a < 0 → ∀ b, b < 0 → a ≠ b → (TJ9 a).2.1 ≠ (TJ9 b).2.1 := by decide +kernel
theorem tyJ9_ok : ∀ k, k < 0 → parseFieldDescriptor (TJ9 k).2.2.1 = some (tyJ9 k) := by decide +kernel
abbrev cJ9_max_7cf53 : ByteArray := prog_15_method_65_code
def yJ9_max_7cf53 : MethodName := ⟨RJ9, "max", "(II)I"⟩
abbrev cJ9_min_7cf53 : ByteArray := prog_15_method_69_code
def yJ9_min_7cf53 : MethodName := ⟨RJ9, "min", "(II)I"⟩
def RJ0 : String := "java/lang/String"
def TJ0 : u_T := fun k => match k with
  | _ => ("", "", "", false)
def tyJ0 : Nat → FieldType := fun k => match k with
  | _ => .int
abbrev wsJ00 : List Cond := u_ws RJ0 TJ0 0
theorem nmJ0 : ∀ a, a < 0 → ∀ b, b < 0 → a ≠ b → (TJ0 a).2.1 ≠ (TJ0 b).2.1 := by decide +kernel
theorem tyJ0_ok : ∀ k, k < 0 → parseFieldDescriptor (TJ0 k).2.2.1 = some (tyJ0 k) := by decide +kernel
abbrev cJ0_length_8abf5 : ByteArray := prog_16_method_54_code
def yJ0_length_8abf5 : MethodName := ⟨RJ0, "length", "()I"⟩
abbrev cJ0_charAt_5068e : ByteArray := prog_16_method_56_code
def yJ0_charAt_5068e : MethodName := ⟨RJ0, "charAt", "(I)C"⟩
abbrev cJ0_coder_7d493 : ByteArray := prog_16_method_152_code
def yJ0_coder_7d493 : MethodName := ⟨RJ0, "coder", "()B"⟩
abbrev cJ0_isLatin1_aae02 : ByteArray := prog_16_method_154_code
def yJ0_isLatin1_aae02 : MethodName := ⟨RJ0, "isLatin1", "()Z"⟩
abbrev cJ0_checkIndex_df160 : ByteArray := prog_16_method_155_code
def yJ0_checkIndex_df160 : MethodName := ⟨RJ0, "checkIndex", "(II)V"⟩
def RJ1 : String := "java/lang/StringLatin1"
def TJ1 : u_T := fun k => match k with
  | _ => ("", "", "", false)
def tyJ1 : Nat → FieldType := fun k => match k with
  | _ => .int
abbrev wsJ10 : List Cond := u_ws RJ1 TJ1 0
theorem nmJ1 : ∀ a, a < 0 → ∀ b, b < 0 → a ≠ b → (TJ1 a).2.1 ≠ (TJ1 b).2.1 := by decide +kernel
theorem tyJ1_ok : ∀ k, k < 0 → parseFieldDescriptor (TJ1 k).2.2.1 = some (tyJ1 k) := by decide +kernel
abbrev cJ1_charAt_3b067 : ByteArray := prog_17_method_2_code
def yJ1_charAt_3b067 : MethodName := ⟨RJ1, "charAt", "([BI)C"⟩
def RJ2 : String := "java/lang/StringUTF16"
def TJ2 : u_T := fun k => match k with
  | _ => ("", "", "", false)
def tyJ2 : Nat → FieldType := fun k => match k with
  | _ => .int
abbrev wsJ20 : List Cond := u_ws RJ2 TJ2 0
theorem nmJ2 : ∀ a, a < 0 → ∀ b, b < 0 → a ≠ b → (TJ2 a).2.1 ≠ (TJ2 b).2.1 := by decide +kernel
theorem tyJ2_ok : ∀ k, k < 0 → parseFieldDescriptor (TJ2 k).2.2.1 = some (tyJ2 k) := by decide +kernel
abbrev cJ2_getChar_3b067 : ByteArray := prog_18_method_5_code
def yJ2_getChar_3b067 : MethodName := ⟨RJ2, "getChar", "([BI)C"⟩
abbrev cJ2_length_9d52b : ByteArray := prog_18_method_6_code
def yJ2_length_9d52b : MethodName := ⟨RJ2, "length", "([B)I"⟩
abbrev cJ2_charAt_3b067 : ByteArray := prog_18_method_83_code
def yJ2_charAt_3b067 : MethodName := ⟨RJ2, "charAt", "([BI)C"⟩
abbrev cJ2_checkIndex_2214a : ByteArray := prog_18_method_91_code
def yJ2_checkIndex_2214a : MethodName := ⟨RJ2, "checkIndex", "(I[B)V"⟩
def RJ10 : String := "java/lang/System"
def TJ10 : u_T := fun k => match k with
  | _ => ("", "", "", false)
def tyJ10 : Nat → FieldType := fun k => match k with
  | _ => .int
abbrev wsJ100 : List Cond := u_ws RJ10 TJ10 0
theorem nmJ10 : ∀ a, a < 0 → ∀ b, b < 0 → a ≠ b → (TJ10 a).2.1 ≠ (TJ10 b).2.1 := by decide +kernel
theorem tyJ10_ok : ∀ k, k < 0 → parseFieldDescriptor (TJ10 k).2.2.1 = some (tyJ10 k) := by decide +kernel
def RJ3 : String := "jdk/internal/util/Preconditions"
def TJ3 : u_T := fun k => match k with
  | _ => ("", "", "", false)
def tyJ3 : Nat → FieldType := fun k => match k with
  | _ => .int
abbrev wsJ30 : List Cond := u_ws RJ3 TJ3 0
theorem nmJ3 : ∀ a, a < 0 → ∀ b, b < 0 → a ≠ b → (TJ3 a).2.1 ≠ (TJ3 b).2.1 := by decide +kernel
theorem tyJ3_ok : ∀ k, k < 0 → parseFieldDescriptor (TJ3 k).2.2.1 = some (tyJ3 k) := by decide +kernel
abbrev cJ3_checkIndex_8e157 : ByteArray := prog_20_method_11_code
def yJ3_checkIndex_8e157 : MethodName := ⟨RJ3, "checkIndex", "(IILjava/util/function/BiFunction;)I"⟩
def RL : String := "BeepHouseLaw"
abbrev cL_law : ByteArray := code
def yL_law : MethodName := ⟨RL, "law", "([I)Z"⟩
abbrev vwCl : List vw_C := [(RX0, TX0, 0), (RX1, TX1, 0), (RX2, TX2, 13), (RX3, TX3, 5), (RX4, TX4, 0), (RX5, TX5, 0), (RX6, TX6, 0), (RX7, TX7, 8), (RX8, TX8, 6), (RX9, TX9, 0), (RX10, TX10, 11), (RX11, TX11, 21)]
end
section
theorem dX0_init_0 : decode cX0_init 0 = .ok (.aload_n 0, 1) := by decide +kernel
theorem dX0_init_1 : decode cX0_init 1 = .ok (.invokespecial 1, 3) := by decide +kernel
theorem dX0_init_4 : decode cX0_init 4 = .ok (.return_, 1) := by decide +kernel
theorem dX0_loud_0 : decode cX0_loud 0 = .ok (.aload_n 0, 1) := by decide +kernel
theorem dX0_loud_1 : decode cX0_loud 1 = .ok (.invokespecial 7, 3) := by decide +kernel
theorem dX0_loud_4 : decode cX0_loud 4 = .ok (.bipush 12, 2) := by decide +kernel
theorem dX0_loud_6 : decode cX0_loud 6 = .ok (.isub, 1) := by decide +kernel
theorem dX0_loud_7 : decode cX0_loud 7 = .ok (.ireturn, 1) := by decide +kernel
theorem dX0_soundsDown_0 : decode cX0_soundsDown 0 = .ok (.iconst 1, 1) := by decide +kernel
theorem dX0_soundsDown_1 : decode cX0_soundsDown 1 = .ok (.ireturn, 1) := by decide +kernel
theorem dX1_init_0 : decode cX1_init 0 = .ok (.aload_n 0, 1) := by decide +kernel
theorem dX1_init_1 : decode cX1_init 1 = .ok (.invokespecial 1, 3) := by decide +kernel
theorem dX1_init_4 : decode cX1_init 4 = .ok (.return_, 1) := by decide +kernel
theorem dX1_sounds_0 : decode cX1_sounds 0 = .ok (.iload_n 2, 1) := by decide +kernel
theorem dX1_sounds_1 : decode cX1_sounds 1 = .ok (.iconst 5, 1) := by decide +kernel
theorem dX1_sounds_2 : decode cX1_sounds 2 = .ok (.if_icmp .lt 17, 3) := by decide +kernel
theorem dX1_sounds_5 : decode cX1_sounds 5 = .ok (.aload_n 0, 1) := by decide +kernel
theorem dX1_sounds_6 : decode cX1_sounds 6 = .ok (.iload_n 1, 1) := by decide +kernel
theorem dX1_sounds_7 : decode cX1_sounds 7 = .ok (.iload_n 2, 1) := by decide +kernel
theorem dX1_sounds_8 : decode cX1_sounds 8 = .ok (.iload_n 3, 1) := by decide +kernel
theorem dX1_sounds_9 : decode cX1_sounds 9 = .ok (.invokespecial 7, 3) := by decide +kernel
theorem dX1_sounds_12 : decode cX1_sounds 12 = .ok (.ifCond .eq 7, 3) := by decide +kernel
theorem dX1_sounds_15 : decode cX1_sounds 15 = .ok (.iconst 1, 1) := by decide +kernel
theorem dX1_sounds_16 : decode cX1_sounds 16 = .ok (.goto 4, 3) := by decide +kernel
theorem dX1_sounds_19 : decode cX1_sounds 19 = .ok (.iconst 0, 1) := by decide +kernel
theorem dX1_sounds_20 : decode cX1_sounds 20 = .ok (.ireturn, 1) := by decide +kernel
theorem dX2_init_0 : decode cX2_init 0 = .ok (.aload_n 0, 1) := by decide +kernel
theorem dX2_init_1 : decode cX2_init 1 = .ok (.invokespecial 3, 3) := by decide +kernel
theorem dX2_init_4 : decode cX2_init 4 = .ok (.aload_n 0, 1) := by decide +kernel
theorem dX2_init_5 : decode cX2_init 5 = .ok (.bipush 64, 2) := by decide +kernel
theorem dX2_init_7 : decode cX2_init 7 = .ok (.newarray .int, 2) := by decide +kernel
theorem dX2_init_9 : decode cX2_init 9 = .ok (.putfield 9, 3) := by decide +kernel
theorem dX2_init_12 : decode cX2_init 12 = .ok (.aload_n 0, 1) := by decide +kernel
theorem dX2_init_13 : decode cX2_init 13 = .ok (.bipush 64, 2) := by decide +kernel
theorem dX2_init_15 : decode cX2_init 15 = .ok (.newarray .int, 2) := by decide +kernel
theorem dX2_init_17 : decode cX2_init 17 = .ok (.putfield 15, 3) := by decide +kernel
theorem dX2_init_20 : decode cX2_init 20 = .ok (.aload_n 0, 1) := by decide +kernel
theorem dX2_init_21 : decode cX2_init 21 = .ok (.bipush 6, 2) := by decide +kernel
theorem dX2_init_23 : decode cX2_init 23 = .ok (.newarray .int, 2) := by decide +kernel
theorem dX2_init_25 : decode cX2_init 25 = .ok (.putfield 18, 3) := by decide +kernel
theorem dX2_init_28 : decode cX2_init 28 = .ok (.aload_n 0, 1) := by decide +kernel
theorem dX2_init_29 : decode cX2_init 29 = .ok (.bipush 6, 2) := by decide +kernel
theorem dX2_init_31 : decode cX2_init 31 = .ok (.newarray .int, 2) := by decide +kernel
theorem dX2_init_33 : decode cX2_init 33 = .ok (.putfield 21, 3) := by decide +kernel
theorem dX2_init_36 : decode cX2_init 36 = .ok (.aload_n 0, 1) := by decide +kernel
theorem dX2_init_37 : decode cX2_init 37 = .ok (.bipush 6, 2) := by decide +kernel
theorem dX2_init_39 : decode cX2_init 39 = .ok (.newarray .int, 2) := by decide +kernel
theorem dX2_init_41 : decode cX2_init 41 = .ok (.putfield 24, 3) := by decide +kernel
theorem dX2_init_44 : decode cX2_init 44 = .ok (.aload_n 0, 1) := by decide +kernel
theorem dX2_init_45 : decode cX2_init 45 = .ok (.bipush 6, 2) := by decide +kernel
theorem dX2_init_47 : decode cX2_init 47 = .ok (.newarray .int, 2) := by decide +kernel
theorem dX2_init_49 : decode cX2_init 49 = .ok (.putfield 27, 3) := by decide +kernel
theorem dX2_init_52 : decode cX2_init 52 = .ok (.aload_n 0, 1) := by decide +kernel
theorem dX2_init_53 : decode cX2_init 53 = .ok (.new 30, 3) := by decide +kernel
theorem dX2_init_56 : decode cX2_init 56 = .ok (.dup, 1) := by decide +kernel
theorem dX2_init_57 : decode cX2_init 57 = .ok (.invokespecial 32, 3) := by decide +kernel
theorem dX2_init_60 : decode cX2_init 60 = .ok (.putfield 33, 3) := by decide +kernel
theorem dX2_init_63 : decode cX2_init 63 = .ok (.aload_n 0, 1) := by decide +kernel
theorem dX2_init_64 : decode cX2_init 64 = .ok (.bipush 8, 2) := by decide +kernel
theorem dX2_init_66 : decode cX2_init 66 = .ok (.anewarray 30, 3) := by decide +kernel
theorem dX2_init_69 : decode cX2_init 69 = .ok (.putfield 37, 3) := by decide +kernel
theorem dX2_init_72 : decode cX2_init 72 = .ok (.aload_n 0, 1) := by decide +kernel
theorem dX2_init_73 : decode cX2_init 73 = .ok (.bipush 6, 2) := by decide +kernel
theorem dX2_init_75 : decode cX2_init 75 = .ok (.anewarray 41, 3) := by decide +kernel
theorem dX2_init_78 : decode cX2_init 78 = .ok (.dup, 1) := by decide +kernel
theorem dX2_init_79 : decode cX2_init 79 = .ok (.iconst 0, 1) := by decide +kernel
theorem dX2_init_80 : decode cX2_init 80 = .ok (.new 41, 3) := by decide +kernel
theorem dX2_init_83 : decode cX2_init 83 = .ok (.dup, 1) := by decide +kernel
theorem dX2_init_84 : decode cX2_init 84 = .ok (.invokespecial 43, 3) := by decide +kernel
theorem dX2_init_87 : decode cX2_init 87 = .ok (.aastore, 1) := by decide +kernel
theorem dX2_init_88 : decode cX2_init 88 = .ok (.dup, 1) := by decide +kernel
theorem dX2_init_89 : decode cX2_init 89 = .ok (.iconst 1, 1) := by decide +kernel
theorem dX2_init_90 : decode cX2_init 90 = .ok (.new 44, 3) := by decide +kernel
theorem dX2_init_93 : decode cX2_init 93 = .ok (.dup, 1) := by decide +kernel
theorem dX2_init_94 : decode cX2_init 94 = .ok (.invokespecial 46, 3) := by decide +kernel
theorem dX2_init_97 : decode cX2_init 97 = .ok (.aastore, 1) := by decide +kernel
theorem dX2_init_98 : decode cX2_init 98 = .ok (.dup, 1) := by decide +kernel
theorem dX2_init_99 : decode cX2_init 99 = .ok (.iconst 2, 1) := by decide +kernel
theorem dX2_init_100 : decode cX2_init 100 = .ok (.new 47, 3) := by decide +kernel
theorem dX2_init_103 : decode cX2_init 103 = .ok (.dup, 1) := by decide +kernel
theorem dX2_init_104 : decode cX2_init 104 = .ok (.invokespecial 49, 3) := by decide +kernel
theorem dX2_init_107 : decode cX2_init 107 = .ok (.aastore, 1) := by decide +kernel
theorem dX2_init_108 : decode cX2_init 108 = .ok (.dup, 1) := by decide +kernel
theorem dX2_init_109 : decode cX2_init 109 = .ok (.iconst 3, 1) := by decide +kernel
theorem dX2_init_110 : decode cX2_init 110 = .ok (.new 50, 3) := by decide +kernel
theorem dX2_init_113 : decode cX2_init 113 = .ok (.dup, 1) := by decide +kernel
theorem dX2_init_114 : decode cX2_init 114 = .ok (.invokespecial 52, 3) := by decide +kernel
theorem dX2_init_117 : decode cX2_init 117 = .ok (.aastore, 1) := by decide +kernel
theorem dX2_init_118 : decode cX2_init 118 = .ok (.dup, 1) := by decide +kernel
theorem dX2_init_119 : decode cX2_init 119 = .ok (.iconst 4, 1) := by decide +kernel
theorem dX2_init_120 : decode cX2_init 120 = .ok (.new 53, 3) := by decide +kernel
theorem dX2_init_123 : decode cX2_init 123 = .ok (.dup, 1) := by decide +kernel
theorem dX2_init_124 : decode cX2_init 124 = .ok (.invokespecial 55, 3) := by decide +kernel
theorem dX2_init_127 : decode cX2_init 127 = .ok (.aastore, 1) := by decide +kernel
theorem dX2_init_128 : decode cX2_init 128 = .ok (.dup, 1) := by decide +kernel
theorem dX2_init_129 : decode cX2_init 129 = .ok (.iconst 5, 1) := by decide +kernel
theorem dX2_init_130 : decode cX2_init 130 = .ok (.new 56, 3) := by decide +kernel
theorem dX2_init_133 : decode cX2_init 133 = .ok (.dup, 1) := by decide +kernel
theorem dX2_init_134 : decode cX2_init 134 = .ok (.invokespecial 58, 3) := by decide +kernel
theorem dX2_init_137 : decode cX2_init 137 = .ok (.aastore, 1) := by decide +kernel
theorem dX2_init_138 : decode cX2_init 138 = .ok (.putfield 59, 3) := by decide +kernel
theorem dX2_init_141 : decode cX2_init 141 = .ok (.iconst 0, 1) := by decide +kernel
theorem dX2_init_142 : decode cX2_init 142 = .ok (.istore_n 1, 1) := by decide +kernel
theorem dX2_init_143 : decode cX2_init 143 = .ok (.iload_n 1, 1) := by decide +kernel
theorem dX2_init_144 : decode cX2_init 144 = .ok (.bipush 8, 2) := by decide +kernel
theorem dX2_init_146 : decode cX2_init 146 = .ok (.if_icmp .ge 22, 3) := by decide +kernel
theorem dX2_init_149 : decode cX2_init 149 = .ok (.aload_n 0, 1) := by decide +kernel
theorem dX2_init_150 : decode cX2_init 150 = .ok (.getfield 37, 3) := by decide +kernel
theorem dX2_init_153 : decode cX2_init 153 = .ok (.iload_n 1, 1) := by decide +kernel
theorem dX2_init_154 : decode cX2_init 154 = .ok (.new 30, 3) := by decide +kernel
theorem dX2_init_157 : decode cX2_init 157 = .ok (.dup, 1) := by decide +kernel
theorem dX2_init_158 : decode cX2_init 158 = .ok (.invokespecial 32, 3) := by decide +kernel
theorem dX2_init_161 : decode cX2_init 161 = .ok (.aastore, 1) := by decide +kernel
theorem dX2_init_162 : decode cX2_init 162 = .ok (.iinc 1 1, 3) := by decide +kernel
theorem dX2_init_165 : decode cX2_init 165 = .ok (.goto (-22), 3) := by decide +kernel
theorem dX2_init_168 : decode cX2_init 168 = .ok (.aload_n 0, 1) := by decide +kernel
theorem dX2_init_169 : decode cX2_init 169 = .ok (.invokevirtual 63, 3) := by decide +kernel
theorem dX2_init_172 : decode cX2_init 172 = .ok (.return_, 1) := by decide +kernel
theorem dX2_reset_0 : decode cX2_reset 0 = .ok (.iconst 0, 1) := by decide +kernel
theorem dX2_reset_1 : decode cX2_reset 1 = .ok (.istore_n 1, 1) := by decide +kernel
theorem dX2_reset_2 : decode cX2_reset 2 = .ok (.iload_n 1, 1) := by decide +kernel
theorem dX2_reset_3 : decode cX2_reset 3 = .ok (.aload_n 0, 1) := by decide +kernel
theorem dX2_reset_4 : decode cX2_reset 4 = .ok (.getfield 9, 3) := by decide +kernel
theorem dX2_reset_7 : decode cX2_reset 7 = .ok (.arraylength, 1) := by decide +kernel
theorem dX2_reset_8 : decode cX2_reset 8 = .ok (.if_icmp .ge 16, 3) := by decide +kernel
theorem dX2_reset_11 : decode cX2_reset 11 = .ok (.aload_n 0, 1) := by decide +kernel
theorem dX2_reset_12 : decode cX2_reset 12 = .ok (.getfield 9, 3) := by decide +kernel
theorem dX2_reset_15 : decode cX2_reset 15 = .ok (.iload_n 1, 1) := by decide +kernel
theorem dX2_reset_16 : decode cX2_reset 16 = .ok (.iconst (-1), 1) := by decide +kernel
theorem dX2_reset_17 : decode cX2_reset 17 = .ok (.iastore, 1) := by decide +kernel
theorem dX2_reset_18 : decode cX2_reset 18 = .ok (.iinc 1 1, 3) := by decide +kernel
theorem dX2_reset_21 : decode cX2_reset 21 = .ok (.goto (-19), 3) := by decide +kernel
theorem dX2_reset_24 : decode cX2_reset 24 = .ok (.aload_n 0, 1) := by decide +kernel
theorem dX2_reset_25 : decode cX2_reset 25 = .ok (.iconst 0, 1) := by decide +kernel
theorem dX2_reset_26 : decode cX2_reset 26 = .ok (.putfield 66, 3) := by decide +kernel
theorem dX2_reset_29 : decode cX2_reset 29 = .ok (.aload_n 0, 1) := by decide +kernel
theorem dX2_reset_30 : decode cX2_reset 30 = .ok (.iconst 0, 1) := by decide +kernel
theorem dX2_reset_31 : decode cX2_reset 31 = .ok (.putfield 70, 3) := by decide +kernel
theorem dX2_reset_34 : decode cX2_reset 34 = .ok (.aload_n 0, 1) := by decide +kernel
theorem dX2_reset_35 : decode cX2_reset 35 = .ok (.iconst 0, 1) := by decide +kernel
theorem dX2_reset_36 : decode cX2_reset 36 = .ok (.putfield 74, 3) := by decide +kernel
theorem dX2_reset_39 : decode cX2_reset 39 = .ok (.aload_n 0, 1) := by decide +kernel
theorem dX2_reset_40 : decode cX2_reset 40 = .ok (.iconst 0, 1) := by decide +kernel
theorem dX2_reset_41 : decode cX2_reset 41 = .ok (.putfield 77, 3) := by decide +kernel
theorem dX2_reset_44 : decode cX2_reset 44 = .ok (.aload_n 0, 1) := by decide +kernel
theorem dX2_reset_45 : decode cX2_reset 45 = .ok (.getfield 33, 3) := by decide +kernel
theorem dX2_reset_48 : decode cX2_reset 48 = .ok (.iconst 0, 1) := by decide +kernel
theorem dX2_reset_49 : decode cX2_reset 49 = .ok (.putfield 80, 3) := by decide +kernel
theorem dX2_reset_52 : decode cX2_reset 52 = .ok (.aload_n 0, 1) := by decide +kernel
theorem dX2_reset_53 : decode cX2_reset 53 = .ok (.getfield 33, 3) := by decide +kernel
theorem dX2_reset_56 : decode cX2_reset 56 = .ok (.iconst 0, 1) := by decide +kernel
theorem dX2_reset_57 : decode cX2_reset 57 = .ok (.putfield 83, 3) := by decide +kernel
theorem dX2_reset_60 : decode cX2_reset 60 = .ok (.aload_n 0, 1) := by decide +kernel
theorem dX2_reset_61 : decode cX2_reset 61 = .ok (.getfield 33, 3) := by decide +kernel
theorem dX2_reset_64 : decode cX2_reset 64 = .ok (.iconst 3, 1) := by decide +kernel
theorem dX2_reset_65 : decode cX2_reset 65 = .ok (.putfield 86, 3) := by decide +kernel
theorem dX2_reset_68 : decode cX2_reset 68 = .ok (.aload_n 0, 1) := by decide +kernel
theorem dX2_reset_69 : decode cX2_reset 69 = .ok (.getfield 33, 3) := by decide +kernel
theorem dX2_reset_72 : decode cX2_reset 72 = .ok (.iconst 0, 1) := by decide +kernel
theorem dX2_reset_73 : decode cX2_reset 73 = .ok (.putfield 89, 3) := by decide +kernel
theorem dX2_reset_76 : decode cX2_reset 76 = .ok (.return_, 1) := by decide +kernel
theorem dX2_copyFrom_0 : decode cX2_copyFrom 0 = .ok (.aload_n 1, 1) := by decide +kernel
theorem dX2_copyFrom_1 : decode cX2_copyFrom 1 = .ok (.getfield 9, 3) := by decide +kernel
theorem dX2_copyFrom_4 : decode cX2_copyFrom 4 = .ok (.iconst 0, 1) := by decide +kernel
theorem dX2_copyFrom_5 : decode cX2_copyFrom 5 = .ok (.aload_n 0, 1) := by decide +kernel
theorem dX2_copyFrom_6 : decode cX2_copyFrom 6 = .ok (.getfield 9, 3) := by decide +kernel
theorem dX2_copyFrom_9 : decode cX2_copyFrom 9 = .ok (.iconst 0, 1) := by decide +kernel
theorem dX2_copyFrom_10 : decode cX2_copyFrom 10 = .ok (.aload_n 0, 1) := by decide +kernel
theorem dX2_copyFrom_11 : decode cX2_copyFrom 11 = .ok (.getfield 9, 3) := by decide +kernel
theorem dX2_copyFrom_14 : decode cX2_copyFrom 14 = .ok (.arraylength, 1) := by decide +kernel
theorem dX2_copyFrom_15 : decode cX2_copyFrom 15 = .ok (.invokestatic 92, 3) := by decide +kernel
theorem dX2_copyFrom_18 : decode cX2_copyFrom 18 = .ok (.aload_n 1, 1) := by decide +kernel
theorem dX2_copyFrom_19 : decode cX2_copyFrom 19 = .ok (.getfield 15, 3) := by decide +kernel
theorem dX2_copyFrom_22 : decode cX2_copyFrom 22 = .ok (.iconst 0, 1) := by decide +kernel
theorem dX2_copyFrom_23 : decode cX2_copyFrom 23 = .ok (.aload_n 0, 1) := by decide +kernel
theorem dX2_copyFrom_24 : decode cX2_copyFrom 24 = .ok (.getfield 15, 3) := by decide +kernel
theorem dX2_copyFrom_27 : decode cX2_copyFrom 27 = .ok (.iconst 0, 1) := by decide +kernel
theorem dX2_copyFrom_28 : decode cX2_copyFrom 28 = .ok (.aload_n 0, 1) := by decide +kernel
theorem dX2_copyFrom_29 : decode cX2_copyFrom 29 = .ok (.getfield 15, 3) := by decide +kernel
theorem dX2_copyFrom_32 : decode cX2_copyFrom 32 = .ok (.arraylength, 1) := by decide +kernel
theorem dX2_copyFrom_33 : decode cX2_copyFrom 33 = .ok (.invokestatic 92, 3) := by decide +kernel
theorem dX2_copyFrom_36 : decode cX2_copyFrom 36 = .ok (.aload_n 1, 1) := by decide +kernel
theorem dX2_copyFrom_37 : decode cX2_copyFrom 37 = .ok (.getfield 18, 3) := by decide +kernel
theorem dX2_copyFrom_40 : decode cX2_copyFrom 40 = .ok (.iconst 0, 1) := by decide +kernel
theorem dX2_copyFrom_41 : decode cX2_copyFrom 41 = .ok (.aload_n 0, 1) := by decide +kernel
theorem dX2_copyFrom_42 : decode cX2_copyFrom 42 = .ok (.getfield 18, 3) := by decide +kernel
theorem dX2_copyFrom_45 : decode cX2_copyFrom 45 = .ok (.iconst 0, 1) := by decide +kernel
theorem dX2_copyFrom_46 : decode cX2_copyFrom 46 = .ok (.bipush 6, 2) := by decide +kernel
theorem dX2_copyFrom_48 : decode cX2_copyFrom 48 = .ok (.invokestatic 92, 3) := by decide +kernel
theorem dX2_copyFrom_51 : decode cX2_copyFrom 51 = .ok (.aload_n 1, 1) := by decide +kernel
theorem dX2_copyFrom_52 : decode cX2_copyFrom 52 = .ok (.getfield 21, 3) := by decide +kernel
theorem dX2_copyFrom_55 : decode cX2_copyFrom 55 = .ok (.iconst 0, 1) := by decide +kernel
theorem dX2_copyFrom_56 : decode cX2_copyFrom 56 = .ok (.aload_n 0, 1) := by decide +kernel
theorem dX2_copyFrom_57 : decode cX2_copyFrom 57 = .ok (.getfield 21, 3) := by decide +kernel
theorem dX2_copyFrom_60 : decode cX2_copyFrom 60 = .ok (.iconst 0, 1) := by decide +kernel
theorem dX2_copyFrom_61 : decode cX2_copyFrom 61 = .ok (.bipush 6, 2) := by decide +kernel
theorem dX2_copyFrom_63 : decode cX2_copyFrom 63 = .ok (.invokestatic 92, 3) := by decide +kernel
theorem dX2_copyFrom_66 : decode cX2_copyFrom 66 = .ok (.aload_n 1, 1) := by decide +kernel
theorem dX2_copyFrom_67 : decode cX2_copyFrom 67 = .ok (.getfield 24, 3) := by decide +kernel
theorem dX2_copyFrom_70 : decode cX2_copyFrom 70 = .ok (.iconst 0, 1) := by decide +kernel
theorem dX2_copyFrom_71 : decode cX2_copyFrom 71 = .ok (.aload_n 0, 1) := by decide +kernel
theorem dX2_copyFrom_72 : decode cX2_copyFrom 72 = .ok (.getfield 24, 3) := by decide +kernel
theorem dX2_copyFrom_75 : decode cX2_copyFrom 75 = .ok (.iconst 0, 1) := by decide +kernel
theorem dX2_copyFrom_76 : decode cX2_copyFrom 76 = .ok (.bipush 6, 2) := by decide +kernel
theorem dX2_copyFrom_78 : decode cX2_copyFrom 78 = .ok (.invokestatic 92, 3) := by decide +kernel
theorem dX2_copyFrom_81 : decode cX2_copyFrom 81 = .ok (.aload_n 1, 1) := by decide +kernel
theorem dX2_copyFrom_82 : decode cX2_copyFrom 82 = .ok (.getfield 27, 3) := by decide +kernel
theorem dX2_copyFrom_85 : decode cX2_copyFrom 85 = .ok (.iconst 0, 1) := by decide +kernel
theorem dX2_copyFrom_86 : decode cX2_copyFrom 86 = .ok (.aload_n 0, 1) := by decide +kernel
theorem dX2_copyFrom_87 : decode cX2_copyFrom 87 = .ok (.getfield 27, 3) := by decide +kernel
theorem dX2_copyFrom_90 : decode cX2_copyFrom 90 = .ok (.iconst 0, 1) := by decide +kernel
theorem dX2_copyFrom_91 : decode cX2_copyFrom 91 = .ok (.bipush 6, 2) := by decide +kernel
theorem dX2_copyFrom_93 : decode cX2_copyFrom 93 = .ok (.invokestatic 92, 3) := by decide +kernel
theorem dX2_copyFrom_96 : decode cX2_copyFrom 96 = .ok (.aload_n 0, 1) := by decide +kernel
theorem dX2_copyFrom_97 : decode cX2_copyFrom 97 = .ok (.getfield 33, 3) := by decide +kernel
theorem dX2_copyFrom_100 : decode cX2_copyFrom 100 = .ok (.aload_n 1, 1) := by decide +kernel
theorem dX2_copyFrom_101 : decode cX2_copyFrom 101 = .ok (.getfield 33, 3) := by decide +kernel
theorem dX2_copyFrom_104 : decode cX2_copyFrom 104 = .ok (.invokevirtual 98, 3) := by decide +kernel
theorem dX2_copyFrom_107 : decode cX2_copyFrom 107 = .ok (.iconst 0, 1) := by decide +kernel
theorem dX2_copyFrom_108 : decode cX2_copyFrom 108 = .ok (.istore_n 2, 1) := by decide +kernel
theorem dX2_copyFrom_109 : decode cX2_copyFrom 109 = .ok (.iload_n 2, 1) := by decide +kernel
theorem dX2_copyFrom_110 : decode cX2_copyFrom 110 = .ok (.bipush 8, 2) := by decide +kernel
theorem dX2_copyFrom_112 : decode cX2_copyFrom 112 = .ok (.if_icmp .ge 24, 3) := by decide +kernel
theorem dX2_copyFrom_115 : decode cX2_copyFrom 115 = .ok (.aload_n 0, 1) := by decide +kernel
theorem dX2_copyFrom_116 : decode cX2_copyFrom 116 = .ok (.getfield 37, 3) := by decide +kernel
theorem dX2_copyFrom_119 : decode cX2_copyFrom 119 = .ok (.iload_n 2, 1) := by decide +kernel
theorem dX2_copyFrom_120 : decode cX2_copyFrom 120 = .ok (.aaload, 1) := by decide +kernel
theorem dX2_copyFrom_121 : decode cX2_copyFrom 121 = .ok (.aload_n 1, 1) := by decide +kernel
theorem dX2_copyFrom_122 : decode cX2_copyFrom 122 = .ok (.getfield 37, 3) := by decide +kernel
theorem dX2_copyFrom_125 : decode cX2_copyFrom 125 = .ok (.iload_n 2, 1) := by decide +kernel
theorem dX2_copyFrom_126 : decode cX2_copyFrom 126 = .ok (.aaload, 1) := by decide +kernel
theorem dX2_copyFrom_127 : decode cX2_copyFrom 127 = .ok (.invokevirtual 98, 3) := by decide +kernel
theorem dX2_copyFrom_130 : decode cX2_copyFrom 130 = .ok (.iinc 2 1, 3) := by decide +kernel
theorem dX2_copyFrom_133 : decode cX2_copyFrom 133 = .ok (.goto (-24), 3) := by decide +kernel
theorem dX2_copyFrom_136 : decode cX2_copyFrom 136 = .ok (.aload_n 0, 1) := by decide +kernel
theorem dX2_copyFrom_137 : decode cX2_copyFrom 137 = .ok (.aload_n 1, 1) := by decide +kernel
theorem dX2_copyFrom_138 : decode cX2_copyFrom 138 = .ok (.getfield 66, 3) := by decide +kernel
theorem dX2_copyFrom_141 : decode cX2_copyFrom 141 = .ok (.putfield 66, 3) := by decide +kernel
theorem dX2_copyFrom_144 : decode cX2_copyFrom 144 = .ok (.aload_n 0, 1) := by decide +kernel
theorem dX2_copyFrom_145 : decode cX2_copyFrom 145 = .ok (.aload_n 1, 1) := by decide +kernel
theorem dX2_copyFrom_146 : decode cX2_copyFrom 146 = .ok (.getfield 70, 3) := by decide +kernel
theorem dX2_copyFrom_149 : decode cX2_copyFrom 149 = .ok (.putfield 70, 3) := by decide +kernel
theorem dX2_copyFrom_152 : decode cX2_copyFrom 152 = .ok (.aload_n 0, 1) := by decide +kernel
theorem dX2_copyFrom_153 : decode cX2_copyFrom 153 = .ok (.aload_n 1, 1) := by decide +kernel
theorem dX2_copyFrom_154 : decode cX2_copyFrom 154 = .ok (.getfield 74, 3) := by decide +kernel
theorem dX2_copyFrom_157 : decode cX2_copyFrom 157 = .ok (.putfield 74, 3) := by decide +kernel
theorem dX2_copyFrom_160 : decode cX2_copyFrom 160 = .ok (.aload_n 0, 1) := by decide +kernel
theorem dX2_copyFrom_161 : decode cX2_copyFrom 161 = .ok (.aload_n 1, 1) := by decide +kernel
theorem dX2_copyFrom_162 : decode cX2_copyFrom 162 = .ok (.getfield 77, 3) := by decide +kernel
theorem dX2_copyFrom_165 : decode cX2_copyFrom 165 = .ok (.putfield 77, 3) := by decide +kernel
theorem dX2_copyFrom_168 : decode cX2_copyFrom 168 = .ok (.return_, 1) := by decide +kernel
theorem dX2_doorBetween_0 : decode cX2_doorBetween 0 = .ok (.aload_n 0, 1) := by decide +kernel
theorem dX2_doorBetween_1 : decode cX2_doorBetween 1 = .ok (.getfield 9, 3) := by decide +kernel
theorem dX2_doorBetween_4 : decode cX2_doorBetween 4 = .ok (.iload_n 1, 1) := by decide +kernel
theorem dX2_doorBetween_5 : decode cX2_doorBetween 5 = .ok (.bipush 8, 2) := by decide +kernel
theorem dX2_doorBetween_7 : decode cX2_doorBetween 7 = .ok (.imul, 1) := by decide +kernel
theorem dX2_doorBetween_8 : decode cX2_doorBetween 8 = .ok (.iload_n 2, 1) := by decide +kernel
theorem dX2_doorBetween_9 : decode cX2_doorBetween 9 = .ok (.iadd, 1) := by decide +kernel
theorem dX2_doorBetween_10 : decode cX2_doorBetween 10 = .ok (.iaload, 1) := by decide +kernel
theorem dX2_doorBetween_11 : decode cX2_doorBetween 11 = .ok (.ireturn, 1) := by decide +kernel
theorem dX2_setDoor_0 : decode cX2_setDoor 0 = .ok (.aload_n 0, 1) := by decide +kernel
theorem dX2_setDoor_1 : decode cX2_setDoor 1 = .ok (.getfield 9, 3) := by decide +kernel
theorem dX2_setDoor_4 : decode cX2_setDoor 4 = .ok (.iload_n 1, 1) := by decide +kernel
theorem dX2_setDoor_5 : decode cX2_setDoor 5 = .ok (.bipush 8, 2) := by decide +kernel
theorem dX2_setDoor_7 : decode cX2_setDoor 7 = .ok (.imul, 1) := by decide +kernel
theorem dX2_setDoor_8 : decode cX2_setDoor 8 = .ok (.iload_n 2, 1) := by decide +kernel
theorem dX2_setDoor_9 : decode cX2_setDoor 9 = .ok (.iadd, 1) := by decide +kernel
theorem dX2_setDoor_10 : decode cX2_setDoor 10 = .ok (.iload_n 3, 1) := by decide +kernel
theorem dX2_setDoor_11 : decode cX2_setDoor 11 = .ok (.iastore, 1) := by decide +kernel
theorem dX2_setDoor_12 : decode cX2_setDoor 12 = .ok (.aload_n 0, 1) := by decide +kernel
theorem dX2_setDoor_13 : decode cX2_setDoor 13 = .ok (.getfield 9, 3) := by decide +kernel
theorem dX2_setDoor_16 : decode cX2_setDoor 16 = .ok (.iload_n 2, 1) := by decide +kernel
theorem dX2_setDoor_17 : decode cX2_setDoor 17 = .ok (.bipush 8, 2) := by decide +kernel
theorem dX2_setDoor_19 : decode cX2_setDoor 19 = .ok (.imul, 1) := by decide +kernel
theorem dX2_setDoor_20 : decode cX2_setDoor 20 = .ok (.iload_n 1, 1) := by decide +kernel
theorem dX2_setDoor_21 : decode cX2_setDoor 21 = .ok (.iadd, 1) := by decide +kernel
theorem dX2_setDoor_22 : decode cX2_setDoor 22 = .ok (.iload_n 3, 1) := by decide +kernel
theorem dX2_setDoor_23 : decode cX2_setDoor 23 = .ok (.iastore, 1) := by decide +kernel
theorem dX2_setDoor_24 : decode cX2_setDoor 24 = .ok (.aload_n 0, 1) := by decide +kernel
theorem dX2_setDoor_25 : decode cX2_setDoor 25 = .ok (.iconst 0, 1) := by decide +kernel
theorem dX2_setDoor_26 : decode cX2_setDoor 26 = .ok (.putfield 66, 3) := by decide +kernel
theorem dX2_setDoor_29 : decode cX2_setDoor 29 = .ok (.return_, 1) := by decide +kernel
theorem dX2_addAlarm_0 : decode cX2_addAlarm 0 = .ok (.aload_n 0, 1) := by decide +kernel
theorem dX2_addAlarm_1 : decode cX2_addAlarm 1 = .ok (.getfield 18, 3) := by decide +kernel
theorem dX2_addAlarm_4 : decode cX2_addAlarm 4 = .ok (.aload_n 0, 1) := by decide +kernel
theorem dX2_addAlarm_5 : decode cX2_addAlarm 5 = .ok (.getfield 70, 3) := by decide +kernel
theorem dX2_addAlarm_8 : decode cX2_addAlarm 8 = .ok (.iload_n 1, 1) := by decide +kernel
theorem dX2_addAlarm_9 : decode cX2_addAlarm 9 = .ok (.iastore, 1) := by decide +kernel
theorem dX2_addAlarm_10 : decode cX2_addAlarm 10 = .ok (.aload_n 0, 1) := by decide +kernel
theorem dX2_addAlarm_11 : decode cX2_addAlarm 11 = .ok (.getfield 21, 3) := by decide +kernel
theorem dX2_addAlarm_14 : decode cX2_addAlarm 14 = .ok (.aload_n 0, 1) := by decide +kernel
theorem dX2_addAlarm_15 : decode cX2_addAlarm 15 = .ok (.getfield 70, 3) := by decide +kernel
theorem dX2_addAlarm_18 : decode cX2_addAlarm 18 = .ok (.iload_n 2, 1) := by decide +kernel
theorem dX2_addAlarm_19 : decode cX2_addAlarm 19 = .ok (.iastore, 1) := by decide +kernel
theorem dX2_addAlarm_20 : decode cX2_addAlarm 20 = .ok (.aload_n 0, 1) := by decide +kernel
theorem dX2_addAlarm_21 : decode cX2_addAlarm 21 = .ok (.getfield 33, 3) := by decide +kernel
theorem dX2_addAlarm_24 : decode cX2_addAlarm 24 = .ok (.getfield 102, 3) := by decide +kernel
theorem dX2_addAlarm_27 : decode cX2_addAlarm 27 = .ok (.aload_n 0, 1) := by decide +kernel
theorem dX2_addAlarm_28 : decode cX2_addAlarm 28 = .ok (.getfield 70, 3) := by decide +kernel
theorem dX2_addAlarm_31 : decode cX2_addAlarm 31 = .ok (.iload_n 3, 1) := by decide +kernel
theorem dX2_addAlarm_32 : decode cX2_addAlarm 32 = .ok (.iastore, 1) := by decide +kernel
theorem dX2_addAlarm_33 : decode cX2_addAlarm 33 = .ok (.aload_n 0, 1) := by decide +kernel
theorem dX2_addAlarm_34 : decode cX2_addAlarm 34 = .ok (.dup, 1) := by decide +kernel
theorem dX2_addAlarm_35 : decode cX2_addAlarm 35 = .ok (.getfield 70, 3) := by decide +kernel
theorem dX2_addAlarm_38 : decode cX2_addAlarm 38 = .ok (.iconst 1, 1) := by decide +kernel
theorem dX2_addAlarm_39 : decode cX2_addAlarm 39 = .ok (.iadd, 1) := by decide +kernel
theorem dX2_addAlarm_40 : decode cX2_addAlarm 40 = .ok (.putfield 70, 3) := by decide +kernel
theorem dX2_addAlarm_43 : decode cX2_addAlarm 43 = .ok (.aload_n 0, 1) := by decide +kernel
theorem dX2_addAlarm_44 : decode cX2_addAlarm 44 = .ok (.iconst 0, 1) := by decide +kernel
theorem dX2_addAlarm_45 : decode cX2_addAlarm 45 = .ok (.putfield 77, 3) := by decide +kernel
theorem dX2_addAlarm_48 : decode cX2_addAlarm 48 = .ok (.return_, 1) := by decide +kernel
theorem dX2_addNote_0 : decode cX2_addNote 0 = .ok (.aload_n 0, 1) := by decide +kernel
theorem dX2_addNote_1 : decode cX2_addNote 1 = .ok (.getfield 24, 3) := by decide +kernel
theorem dX2_addNote_4 : decode cX2_addNote 4 = .ok (.aload_n 0, 1) := by decide +kernel
theorem dX2_addNote_5 : decode cX2_addNote 5 = .ok (.getfield 74, 3) := by decide +kernel
theorem dX2_addNote_8 : decode cX2_addNote 8 = .ok (.iload_n 1, 1) := by decide +kernel
theorem dX2_addNote_9 : decode cX2_addNote 9 = .ok (.iastore, 1) := by decide +kernel
theorem dX2_addNote_10 : decode cX2_addNote 10 = .ok (.aload_n 0, 1) := by decide +kernel
theorem dX2_addNote_11 : decode cX2_addNote 11 = .ok (.getfield 27, 3) := by decide +kernel
theorem dX2_addNote_14 : decode cX2_addNote 14 = .ok (.aload_n 0, 1) := by decide +kernel
theorem dX2_addNote_15 : decode cX2_addNote 15 = .ok (.getfield 74, 3) := by decide +kernel
theorem dX2_addNote_18 : decode cX2_addNote 18 = .ok (.iload_n 2, 1) := by decide +kernel
theorem dX2_addNote_19 : decode cX2_addNote 19 = .ok (.iastore, 1) := by decide +kernel
theorem dX2_addNote_20 : decode cX2_addNote 20 = .ok (.aload_n 0, 1) := by decide +kernel
theorem dX2_addNote_21 : decode cX2_addNote 21 = .ok (.dup, 1) := by decide +kernel
theorem dX2_addNote_22 : decode cX2_addNote 22 = .ok (.getfield 74, 3) := by decide +kernel
theorem dX2_addNote_25 : decode cX2_addNote 25 = .ok (.iconst 1, 1) := by decide +kernel
theorem dX2_addNote_26 : decode cX2_addNote 26 = .ok (.iadd, 1) := by decide +kernel
theorem dX2_addNote_27 : decode cX2_addNote 27 = .ok (.putfield 74, 3) := by decide +kernel
theorem dX2_addNote_30 : decode cX2_addNote 30 = .ok (.return_, 1) := by decide +kernel
theorem dX2_remember_0 : decode cX2_remember 0 = .ok (.aload_n 0, 1) := by decide +kernel
theorem dX2_remember_1 : decode cX2_remember 1 = .ok (.getfield 77, 3) := by decide +kernel
theorem dX2_remember_4 : decode cX2_remember 4 = .ok (.bipush 8, 2) := by decide +kernel
theorem dX2_remember_6 : decode cX2_remember 6 = .ok (.if_icmp .lt 52, 3) := by decide +kernel
theorem dX2_remember_9 : decode cX2_remember 9 = .ok (.aload_n 0, 1) := by decide +kernel
theorem dX2_remember_10 : decode cX2_remember 10 = .ok (.getfield 37, 3) := by decide +kernel
theorem dX2_remember_13 : decode cX2_remember 13 = .ok (.iconst 0, 1) := by decide +kernel
theorem dX2_remember_14 : decode cX2_remember 14 = .ok (.aaload, 1) := by decide +kernel
theorem dX2_remember_15 : decode cX2_remember 15 = .ok (.astore_n 1, 1) := by decide +kernel
theorem dX2_remember_16 : decode cX2_remember 16 = .ok (.iconst 1, 1) := by decide +kernel
theorem dX2_remember_17 : decode cX2_remember 17 = .ok (.istore_n 2, 1) := by decide +kernel
theorem dX2_remember_18 : decode cX2_remember 18 = .ok (.iload_n 2, 1) := by decide +kernel
theorem dX2_remember_19 : decode cX2_remember 19 = .ok (.bipush 8, 2) := by decide +kernel
theorem dX2_remember_21 : decode cX2_remember 21 = .ok (.if_icmp .ge 23, 3) := by decide +kernel
theorem dX2_remember_24 : decode cX2_remember 24 = .ok (.aload_n 0, 1) := by decide +kernel
theorem dX2_remember_25 : decode cX2_remember 25 = .ok (.getfield 37, 3) := by decide +kernel
theorem dX2_remember_28 : decode cX2_remember 28 = .ok (.iload_n 2, 1) := by decide +kernel
theorem dX2_remember_29 : decode cX2_remember 29 = .ok (.iconst 1, 1) := by decide +kernel
theorem dX2_remember_30 : decode cX2_remember 30 = .ok (.isub, 1) := by decide +kernel
theorem dX2_remember_31 : decode cX2_remember 31 = .ok (.aload_n 0, 1) := by decide +kernel
theorem dX2_remember_32 : decode cX2_remember 32 = .ok (.getfield 37, 3) := by decide +kernel
theorem dX2_remember_35 : decode cX2_remember 35 = .ok (.iload_n 2, 1) := by decide +kernel
theorem dX2_remember_36 : decode cX2_remember 36 = .ok (.aaload, 1) := by decide +kernel
theorem dX2_remember_37 : decode cX2_remember 37 = .ok (.aastore, 1) := by decide +kernel
theorem dX2_remember_38 : decode cX2_remember 38 = .ok (.iinc 2 1, 3) := by decide +kernel
theorem dX2_remember_41 : decode cX2_remember 41 = .ok (.goto (-23), 3) := by decide +kernel
theorem dX2_remember_44 : decode cX2_remember 44 = .ok (.aload_n 0, 1) := by decide +kernel
theorem dX2_remember_45 : decode cX2_remember 45 = .ok (.getfield 37, 3) := by decide +kernel
theorem dX2_remember_48 : decode cX2_remember 48 = .ok (.bipush 7, 2) := by decide +kernel
theorem dX2_remember_50 : decode cX2_remember 50 = .ok (.aload_n 1, 1) := by decide +kernel
theorem dX2_remember_51 : decode cX2_remember 51 = .ok (.aastore, 1) := by decide +kernel
theorem dX2_remember_52 : decode cX2_remember 52 = .ok (.aload_n 0, 1) := by decide +kernel
theorem dX2_remember_53 : decode cX2_remember 53 = .ok (.bipush 7, 2) := by decide +kernel
theorem dX2_remember_55 : decode cX2_remember 55 = .ok (.putfield 77, 3) := by decide +kernel
theorem dX2_remember_58 : decode cX2_remember 58 = .ok (.aload_n 0, 1) := by decide +kernel
theorem dX2_remember_59 : decode cX2_remember 59 = .ok (.getfield 37, 3) := by decide +kernel
theorem dX2_remember_62 : decode cX2_remember 62 = .ok (.aload_n 0, 1) := by decide +kernel
theorem dX2_remember_63 : decode cX2_remember 63 = .ok (.getfield 77, 3) := by decide +kernel
theorem dX2_remember_66 : decode cX2_remember 66 = .ok (.aaload, 1) := by decide +kernel
theorem dX2_remember_67 : decode cX2_remember 67 = .ok (.aload_n 0, 1) := by decide +kernel
theorem dX2_remember_68 : decode cX2_remember 68 = .ok (.getfield 33, 3) := by decide +kernel
theorem dX2_remember_71 : decode cX2_remember 71 = .ok (.invokevirtual 98, 3) := by decide +kernel
theorem dX2_remember_74 : decode cX2_remember 74 = .ok (.aload_n 0, 1) := by decide +kernel
theorem dX2_remember_75 : decode cX2_remember 75 = .ok (.dup, 1) := by decide +kernel
theorem dX2_remember_76 : decode cX2_remember 76 = .ok (.getfield 77, 3) := by decide +kernel
theorem dX2_remember_79 : decode cX2_remember 79 = .ok (.iconst 1, 1) := by decide +kernel
theorem dX2_remember_80 : decode cX2_remember 80 = .ok (.iadd, 1) := by decide +kernel
theorem dX2_remember_81 : decode cX2_remember 81 = .ok (.putfield 77, 3) := by decide +kernel
theorem dX2_remember_84 : decode cX2_remember 84 = .ok (.return_, 1) := by decide +kernel
theorem dX2_goBack_0 : decode cX2_goBack 0 = .ok (.aload_n 0, 1) := by decide +kernel
theorem dX2_goBack_1 : decode cX2_goBack 1 = .ok (.dup, 1) := by decide +kernel
theorem dX2_goBack_2 : decode cX2_goBack 2 = .ok (.getfield 77, 3) := by decide +kernel
theorem dX2_goBack_5 : decode cX2_goBack 5 = .ok (.iconst 1, 1) := by decide +kernel
theorem dX2_goBack_6 : decode cX2_goBack 6 = .ok (.isub, 1) := by decide +kernel
theorem dX2_goBack_7 : decode cX2_goBack 7 = .ok (.putfield 77, 3) := by decide +kernel
theorem dX2_goBack_10 : decode cX2_goBack 10 = .ok (.aload_n 0, 1) := by decide +kernel
theorem dX2_goBack_11 : decode cX2_goBack 11 = .ok (.getfield 33, 3) := by decide +kernel
theorem dX2_goBack_14 : decode cX2_goBack 14 = .ok (.aload_n 0, 1) := by decide +kernel
theorem dX2_goBack_15 : decode cX2_goBack 15 = .ok (.getfield 37, 3) := by decide +kernel
theorem dX2_goBack_18 : decode cX2_goBack 18 = .ok (.aload_n 0, 1) := by decide +kernel
theorem dX2_goBack_19 : decode cX2_goBack 19 = .ok (.getfield 77, 3) := by decide +kernel
theorem dX2_goBack_22 : decode cX2_goBack 22 = .ok (.aaload, 1) := by decide +kernel
theorem dX2_goBack_23 : decode cX2_goBack 23 = .ok (.invokevirtual 98, 3) := by decide +kernel
theorem dX2_goBack_26 : decode cX2_goBack 26 = .ok (.return_, 1) := by decide +kernel
theorem dX2_pass_0 : decode cX2_pass 0 = .ok (.aload_n 0, 1) := by decide +kernel
theorem dX2_pass_1 : decode cX2_pass 1 = .ok (.getfield 33, 3) := by decide +kernel
theorem dX2_pass_4 : decode cX2_pass 4 = .ok (.sipush 9999, 3) := by decide +kernel
theorem dX2_pass_7 : decode cX2_pass 7 = .ok (.aload_n 0, 1) := by decide +kernel
theorem dX2_pass_8 : decode cX2_pass 8 = .ok (.getfield 33, 3) := by decide +kernel
theorem dX2_pass_11 : decode cX2_pass 11 = .ok (.getfield 80, 3) := by decide +kernel
theorem dX2_pass_14 : decode cX2_pass 14 = .ok (.iload_n 1, 1) := by decide +kernel
theorem dX2_pass_15 : decode cX2_pass 15 = .ok (.iadd, 1) := by decide +kernel
theorem dX2_pass_16 : decode cX2_pass 16 = .ok (.invokestatic 105, 3) := by decide +kernel
theorem dX2_pass_19 : decode cX2_pass 19 = .ok (.putfield 80, 3) := by decide +kernel
theorem dX2_pass_22 : decode cX2_pass 22 = .ok (.return_, 1) := by decide +kernel
theorem dX2_allBits_0 : decode cX2_allBits 0 = .ok (.iconst 1, 1) := by decide +kernel
theorem dX2_allBits_1 : decode cX2_allBits 1 = .ok (.aload_n 0, 1) := by decide +kernel
theorem dX2_allBits_2 : decode cX2_allBits 2 = .ok (.getfield 70, 3) := by decide +kernel
theorem dX2_allBits_5 : decode cX2_allBits 5 = .ok (.ishl, 1) := by decide +kernel
theorem dX2_allBits_6 : decode cX2_allBits 6 = .ok (.iconst 1, 1) := by decide +kernel
theorem dX2_allBits_7 : decode cX2_allBits 7 = .ok (.isub, 1) := by decide +kernel
theorem dX2_allBits_8 : decode cX2_allBits 8 = .ok (.ireturn, 1) := by decide +kernel
theorem dX2_kindOf_0 : decode cX2_kindOf 0 = .ok (.aload_n 0, 1) := by decide +kernel
theorem dX2_kindOf_1 : decode cX2_kindOf 1 = .ok (.getfield 59, 3) := by decide +kernel
theorem dX2_kindOf_4 : decode cX2_kindOf 4 = .ok (.aload_n 0, 1) := by decide +kernel
theorem dX2_kindOf_5 : decode cX2_kindOf 5 = .ok (.getfield 18, 3) := by decide +kernel
theorem dX2_kindOf_8 : decode cX2_kindOf 8 = .ok (.iload_n 1, 1) := by decide +kernel
theorem dX2_kindOf_9 : decode cX2_kindOf 9 = .ok (.iaload, 1) := by decide +kernel
theorem dX2_kindOf_10 : decode cX2_kindOf 10 = .ok (.aaload, 1) := by decide +kernel
theorem dX2_kindOf_11 : decode cX2_kindOf 11 = .ok (.areturn, 1) := by decide +kernel
theorem dX2_distanceBetween_0 : decode cX2_distanceBetween 0 = .ok (.aload_n 0, 1) := by decide +kernel
theorem dX2_distanceBetween_1 : decode cX2_distanceBetween 1 = .ok (.getfield 66, 3) := by decide +kernel
theorem dX2_distanceBetween_4 : decode cX2_distanceBetween 4 = .ok (.ifCond .ne 12, 3) := by decide +kernel
theorem dX2_distanceBetween_7 : decode cX2_distanceBetween 7 = .ok (.aload_n 0, 1) := by decide +kernel
theorem dX2_distanceBetween_8 : decode cX2_distanceBetween 8 = .ok (.invokevirtual 111, 3) := by decide +kernel
theorem dX2_distanceBetween_11 : decode cX2_distanceBetween 11 = .ok (.aload_n 0, 1) := by decide +kernel
theorem dX2_distanceBetween_12 : decode cX2_distanceBetween 12 = .ok (.iconst 1, 1) := by decide +kernel
theorem dX2_distanceBetween_13 : decode cX2_distanceBetween 13 = .ok (.putfield 66, 3) := by decide +kernel
theorem dX2_distanceBetween_16 : decode cX2_distanceBetween 16 = .ok (.aload_n 0, 1) := by decide +kernel
theorem dX2_distanceBetween_17 : decode cX2_distanceBetween 17 = .ok (.getfield 15, 3) := by decide +kernel
theorem dX2_distanceBetween_20 : decode cX2_distanceBetween 20 = .ok (.iload_n 1, 1) := by decide +kernel
theorem dX2_distanceBetween_21 : decode cX2_distanceBetween 21 = .ok (.bipush 8, 2) := by decide +kernel
theorem dX2_distanceBetween_23 : decode cX2_distanceBetween 23 = .ok (.imul, 1) := by decide +kernel
theorem dX2_distanceBetween_24 : decode cX2_distanceBetween 24 = .ok (.iload_n 2, 1) := by decide +kernel
theorem dX2_distanceBetween_25 : decode cX2_distanceBetween 25 = .ok (.iadd, 1) := by decide +kernel
theorem dX2_distanceBetween_26 : decode cX2_distanceBetween 26 = .ok (.iaload, 1) := by decide +kernel
theorem dX2_distanceBetween_27 : decode cX2_distanceBetween 27 = .ok (.ireturn, 1) := by decide +kernel
theorem dX2_measure_0 : decode cX2_measure 0 = .ok (.iconst 0, 1) := by decide +kernel
theorem dX2_measure_1 : decode cX2_measure 1 = .ok (.istore_n 1, 1) := by decide +kernel
theorem dX2_measure_2 : decode cX2_measure 2 = .ok (.iload_n 1, 1) := by decide +kernel
theorem dX2_measure_3 : decode cX2_measure 3 = .ok (.aload_n 0, 1) := by decide +kernel
theorem dX2_measure_4 : decode cX2_measure 4 = .ok (.getfield 9, 3) := by decide +kernel
theorem dX2_measure_7 : decode cX2_measure 7 = .ok (.arraylength, 1) := by decide +kernel
theorem dX2_measure_8 : decode cX2_measure 8 = .ok (.if_icmp .ge 37, 3) := by decide +kernel
theorem dX2_measure_11 : decode cX2_measure 11 = .ok (.aload_n 0, 1) := by decide +kernel
theorem dX2_measure_12 : decode cX2_measure 12 = .ok (.getfield 15, 3) := by decide +kernel
theorem dX2_measure_15 : decode cX2_measure 15 = .ok (.iload_n 1, 1) := by decide +kernel
theorem dX2_measure_16 : decode cX2_measure 16 = .ok (.aload_n 0, 1) := by decide +kernel
theorem dX2_measure_17 : decode cX2_measure 17 = .ok (.getfield 9, 3) := by decide +kernel
theorem dX2_measure_20 : decode cX2_measure 20 = .ok (.iload_n 1, 1) := by decide +kernel
theorem dX2_measure_21 : decode cX2_measure 21 = .ok (.iaload, 1) := by decide +kernel
theorem dX2_measure_22 : decode cX2_measure 22 = .ok (.iconst (-1), 1) := by decide +kernel
theorem dX2_measure_23 : decode cX2_measure 23 = .ok (.if_icmp .ne 9, 3) := by decide +kernel
theorem dX2_measure_26 : decode cX2_measure 26 = .ok (.sipush 1000, 3) := by decide +kernel
theorem dX2_measure_29 : decode cX2_measure 29 = .ok (.goto 9, 3) := by decide +kernel
theorem dX2_measure_32 : decode cX2_measure 32 = .ok (.aload_n 0, 1) := by decide +kernel
theorem dX2_measure_33 : decode cX2_measure 33 = .ok (.getfield 9, 3) := by decide +kernel
theorem dX2_measure_36 : decode cX2_measure 36 = .ok (.iload_n 1, 1) := by decide +kernel
theorem dX2_measure_37 : decode cX2_measure 37 = .ok (.iaload, 1) := by decide +kernel
theorem dX2_measure_38 : decode cX2_measure 38 = .ok (.iastore, 1) := by decide +kernel
theorem dX2_measure_39 : decode cX2_measure 39 = .ok (.iinc 1 1, 3) := by decide +kernel
theorem dX2_measure_42 : decode cX2_measure 42 = .ok (.goto (-40), 3) := by decide +kernel
theorem dX2_measure_45 : decode cX2_measure 45 = .ok (.iconst 0, 1) := by decide +kernel
theorem dX2_measure_46 : decode cX2_measure 46 = .ok (.istore_n 1, 1) := by decide +kernel
theorem dX2_measure_47 : decode cX2_measure 47 = .ok (.iload_n 1, 1) := by decide +kernel
theorem dX2_measure_48 : decode cX2_measure 48 = .ok (.bipush 8, 2) := by decide +kernel
theorem dX2_measure_50 : decode cX2_measure 50 = .ok (.if_icmp .ge 21, 3) := by decide +kernel
theorem dX2_measure_53 : decode cX2_measure 53 = .ok (.aload_n 0, 1) := by decide +kernel
theorem dX2_measure_54 : decode cX2_measure 54 = .ok (.getfield 15, 3) := by decide +kernel
theorem dX2_measure_57 : decode cX2_measure 57 = .ok (.iload_n 1, 1) := by decide +kernel
theorem dX2_measure_58 : decode cX2_measure 58 = .ok (.bipush 8, 2) := by decide +kernel
theorem dX2_measure_60 : decode cX2_measure 60 = .ok (.imul, 1) := by decide +kernel
theorem dX2_measure_61 : decode cX2_measure 61 = .ok (.iload_n 1, 1) := by decide +kernel
theorem dX2_measure_62 : decode cX2_measure 62 = .ok (.iadd, 1) := by decide +kernel
theorem dX2_measure_63 : decode cX2_measure 63 = .ok (.iconst 0, 1) := by decide +kernel
theorem dX2_measure_64 : decode cX2_measure 64 = .ok (.iastore, 1) := by decide +kernel
theorem dX2_measure_65 : decode cX2_measure 65 = .ok (.iinc 1 1, 3) := by decide +kernel
theorem dX2_measure_68 : decode cX2_measure 68 = .ok (.goto (-21), 3) := by decide +kernel
theorem dX2_measure_71 : decode cX2_measure 71 = .ok (.iconst 0, 1) := by decide +kernel
theorem dX2_measure_72 : decode cX2_measure 72 = .ok (.istore_n 1, 1) := by decide +kernel
theorem dX2_measure_73 : decode cX2_measure 73 = .ok (.iload_n 1, 1) := by decide +kernel
theorem dX2_measure_74 : decode cX2_measure 74 = .ok (.bipush 8, 2) := by decide +kernel
theorem dX2_measure_76 : decode cX2_measure 76 = .ok (.if_icmp .ge 103, 3) := by decide +kernel
theorem dX2_measure_79 : decode cX2_measure 79 = .ok (.iconst 0, 1) := by decide +kernel
theorem dX2_measure_80 : decode cX2_measure 80 = .ok (.istore_n 2, 1) := by decide +kernel
theorem dX2_measure_81 : decode cX2_measure 81 = .ok (.iload_n 2, 1) := by decide +kernel
theorem dX2_measure_82 : decode cX2_measure 82 = .ok (.bipush 8, 2) := by decide +kernel
theorem dX2_measure_84 : decode cX2_measure 84 = .ok (.if_icmp .ge 89, 3) := by decide +kernel
theorem dX2_measure_87 : decode cX2_measure 87 = .ok (.aload_n 0, 1) := by decide +kernel
theorem dX2_measure_88 : decode cX2_measure 88 = .ok (.getfield 15, 3) := by decide +kernel
theorem dX2_measure_91 : decode cX2_measure 91 = .ok (.iload_n 2, 1) := by decide +kernel
theorem dX2_measure_92 : decode cX2_measure 92 = .ok (.bipush 8, 2) := by decide +kernel
theorem dX2_measure_94 : decode cX2_measure 94 = .ok (.imul, 1) := by decide +kernel
theorem dX2_measure_95 : decode cX2_measure 95 = .ok (.iload_n 1, 1) := by decide +kernel
theorem dX2_measure_96 : decode cX2_measure 96 = .ok (.iadd, 1) := by decide +kernel
theorem dX2_measure_97 : decode cX2_measure 97 = .ok (.iaload, 1) := by decide +kernel
theorem dX2_measure_98 : decode cX2_measure 98 = .ok (.istore_n 3, 1) := by decide +kernel
theorem dX2_measure_99 : decode cX2_measure 99 = .ok (.iconst 0, 1) := by decide +kernel
theorem dX2_measure_100 : decode cX2_measure 100 = .ok (.istore 4, 2) := by decide +kernel
theorem dX2_measure_102 : decode cX2_measure 102 = .ok (.iload 4, 2) := by decide +kernel
theorem dX2_measure_104 : decode cX2_measure 104 = .ok (.bipush 8, 2) := by decide +kernel
theorem dX2_measure_106 : decode cX2_measure 106 = .ok (.if_icmp .ge 61, 3) := by decide +kernel
theorem dX2_measure_109 : decode cX2_measure 109 = .ok (.iload_n 3, 1) := by decide +kernel
theorem dX2_measure_110 : decode cX2_measure 110 = .ok (.sipush 1000, 3) := by decide +kernel
theorem dX2_measure_113 : decode cX2_measure 113 = .ok (.if_icmp .ge 54, 3) := by decide +kernel
theorem dX2_measure_116 : decode cX2_measure 116 = .ok (.iload_n 3, 1) := by decide +kernel
theorem dX2_measure_117 : decode cX2_measure 117 = .ok (.aload_n 0, 1) := by decide +kernel
theorem dX2_measure_118 : decode cX2_measure 118 = .ok (.getfield 15, 3) := by decide +kernel
theorem dX2_measure_121 : decode cX2_measure 121 = .ok (.iload_n 1, 1) := by decide +kernel
theorem dX2_measure_122 : decode cX2_measure 122 = .ok (.bipush 8, 2) := by decide +kernel
theorem dX2_measure_124 : decode cX2_measure 124 = .ok (.imul, 1) := by decide +kernel
theorem dX2_measure_125 : decode cX2_measure 125 = .ok (.iload 4, 2) := by decide +kernel
theorem dX2_measure_127 : decode cX2_measure 127 = .ok (.iadd, 1) := by decide +kernel
theorem dX2_measure_128 : decode cX2_measure 128 = .ok (.iaload, 1) := by decide +kernel
theorem dX2_measure_129 : decode cX2_measure 129 = .ok (.iadd, 1) := by decide +kernel
theorem dX2_measure_130 : decode cX2_measure 130 = .ok (.istore 5, 2) := by decide +kernel
theorem dX2_measure_132 : decode cX2_measure 132 = .ok (.aload_n 0, 1) := by decide +kernel
theorem dX2_measure_133 : decode cX2_measure 133 = .ok (.getfield 15, 3) := by decide +kernel
theorem dX2_measure_136 : decode cX2_measure 136 = .ok (.iload_n 2, 1) := by decide +kernel
theorem dX2_measure_137 : decode cX2_measure 137 = .ok (.bipush 8, 2) := by decide +kernel
theorem dX2_measure_139 : decode cX2_measure 139 = .ok (.imul, 1) := by decide +kernel
theorem dX2_measure_140 : decode cX2_measure 140 = .ok (.iload 4, 2) := by decide +kernel
theorem dX2_measure_142 : decode cX2_measure 142 = .ok (.iadd, 1) := by decide +kernel
theorem dX2_measure_143 : decode cX2_measure 143 = .ok (.aload_n 0, 1) := by decide +kernel
theorem dX2_measure_144 : decode cX2_measure 144 = .ok (.getfield 15, 3) := by decide +kernel
theorem dX2_measure_147 : decode cX2_measure 147 = .ok (.iload_n 2, 1) := by decide +kernel
theorem dX2_measure_148 : decode cX2_measure 148 = .ok (.bipush 8, 2) := by decide +kernel
theorem dX2_measure_150 : decode cX2_measure 150 = .ok (.imul, 1) := by decide +kernel
theorem dX2_measure_151 : decode cX2_measure 151 = .ok (.iload 4, 2) := by decide +kernel
theorem dX2_measure_153 : decode cX2_measure 153 = .ok (.iadd, 1) := by decide +kernel
theorem dX2_measure_154 : decode cX2_measure 154 = .ok (.iaload, 1) := by decide +kernel
theorem dX2_measure_155 : decode cX2_measure 155 = .ok (.iload 5, 2) := by decide +kernel
theorem dX2_measure_157 : decode cX2_measure 157 = .ok (.invokestatic 105, 3) := by decide +kernel
theorem dX2_measure_160 : decode cX2_measure 160 = .ok (.iastore, 1) := by decide +kernel
theorem dX2_measure_161 : decode cX2_measure 161 = .ok (.iinc 4 1, 3) := by decide +kernel
theorem dX2_measure_164 : decode cX2_measure 164 = .ok (.goto (-62), 3) := by decide +kernel
theorem dX2_measure_167 : decode cX2_measure 167 = .ok (.iinc 2 1, 3) := by decide +kernel
theorem dX2_measure_170 : decode cX2_measure 170 = .ok (.goto (-89), 3) := by decide +kernel
theorem dX2_measure_173 : decode cX2_measure 173 = .ok (.iinc 1 1, 3) := by decide +kernel
theorem dX2_measure_176 : decode cX2_measure 176 = .ok (.goto (-103), 3) := by decide +kernel
theorem dX2_measure_179 : decode cX2_measure 179 = .ok (.return_, 1) := by decide +kernel
theorem dX2_mayBeep_0 : decode cX2_mayBeep 0 = .ok (.aload_n 0, 1) := by decide +kernel
theorem dX2_mayBeep_1 : decode cX2_mayBeep 1 = .ok (.getfield 33, 3) := by decide +kernel
theorem dX2_mayBeep_4 : decode cX2_mayBeep 4 = .ok (.getfield 89, 3) := by decide +kernel
theorem dX2_mayBeep_7 : decode cX2_mayBeep 7 = .ok (.iload_n 1, 1) := by decide +kernel
theorem dX2_mayBeep_8 : decode cX2_mayBeep 8 = .ok (.invokestatic 114, 3) := by decide +kernel
theorem dX2_mayBeep_11 : decode cX2_mayBeep 11 = .ok (.ifCond .eq 14, 3) := by decide +kernel
theorem dX2_mayBeep_14 : decode cX2_mayBeep 14 = .ok (.aload_n 0, 1) := by decide +kernel
theorem dX2_mayBeep_15 : decode cX2_mayBeep 15 = .ok (.iload_n 1, 1) := by decide +kernel
theorem dX2_mayBeep_16 : decode cX2_mayBeep 16 = .ok (.invokevirtual 118, 3) := by decide +kernel
theorem dX2_mayBeep_19 : decode cX2_mayBeep 19 = .ok (.invokevirtual 122, 3) := by decide +kernel
theorem dX2_mayBeep_22 : decode cX2_mayBeep 22 = .ok (.ifCond .eq 7, 3) := by decide +kernel
theorem dX2_mayBeep_25 : decode cX2_mayBeep 25 = .ok (.iconst 1, 1) := by decide +kernel
theorem dX2_mayBeep_26 : decode cX2_mayBeep 26 = .ok (.goto 4, 3) := by decide +kernel
theorem dX2_mayBeep_29 : decode cX2_mayBeep 29 = .ok (.iconst 0, 1) := by decide +kernel
theorem dX2_mayBeep_30 : decode cX2_mayBeep 30 = .ok (.ireturn, 1) := by decide +kernel
theorem dX2_soundsIn_0 : decode cX2_soundsIn 0 = .ok (.aload_n 0, 1) := by decide +kernel
theorem dX2_soundsIn_1 : decode cX2_soundsIn 1 = .ok (.iload_n 1, 1) := by decide +kernel
theorem dX2_soundsIn_2 : decode cX2_soundsIn 2 = .ok (.invokevirtual 126, 3) := by decide +kernel
theorem dX2_soundsIn_5 : decode cX2_soundsIn 5 = .ok (.ifCond .eq 35, 3) := by decide +kernel
theorem dX2_soundsIn_8 : decode cX2_soundsIn 8 = .ok (.aload_n 0, 1) := by decide +kernel
theorem dX2_soundsIn_9 : decode cX2_soundsIn 9 = .ok (.iload_n 1, 1) := by decide +kernel
theorem dX2_soundsIn_10 : decode cX2_soundsIn 10 = .ok (.invokevirtual 118, 3) := by decide +kernel
theorem dX2_soundsIn_13 : decode cX2_soundsIn 13 = .ok (.iload_n 2, 1) := by decide +kernel
theorem dX2_soundsIn_14 : decode cX2_soundsIn 14 = .ok (.aload_n 0, 1) := by decide +kernel
theorem dX2_soundsIn_15 : decode cX2_soundsIn 15 = .ok (.getfield 33, 3) := by decide +kernel
theorem dX2_soundsIn_18 : decode cX2_soundsIn 18 = .ok (.getfield 86, 3) := by decide +kernel
theorem dX2_soundsIn_21 : decode cX2_soundsIn 21 = .ok (.aload_n 0, 1) := by decide +kernel
theorem dX2_soundsIn_22 : decode cX2_soundsIn 22 = .ok (.getfield 33, 3) := by decide +kernel
theorem dX2_soundsIn_25 : decode cX2_soundsIn 25 = .ok (.getfield 102, 3) := by decide +kernel
theorem dX2_soundsIn_28 : decode cX2_soundsIn 28 = .ok (.iload_n 1, 1) := by decide +kernel
theorem dX2_soundsIn_29 : decode cX2_soundsIn 29 = .ok (.iaload, 1) := by decide +kernel
theorem dX2_soundsIn_30 : decode cX2_soundsIn 30 = .ok (.invokevirtual 130, 3) := by decide +kernel
theorem dX2_soundsIn_33 : decode cX2_soundsIn 33 = .ok (.ifCond .eq 7, 3) := by decide +kernel
theorem dX2_soundsIn_36 : decode cX2_soundsIn 36 = .ok (.iconst 1, 1) := by decide +kernel
theorem dX2_soundsIn_37 : decode cX2_soundsIn 37 = .ok (.goto 4, 3) := by decide +kernel
theorem dX2_soundsIn_40 : decode cX2_soundsIn 40 = .ok (.iconst 0, 1) := by decide +kernel
theorem dX2_soundsIn_41 : decode cX2_soundsIn 41 = .ok (.ireturn, 1) := by decide +kernel
theorem dX2_reaches_0 : decode cX2_reaches 0 = .ok (.aload_n 0, 1) := by decide +kernel
theorem dX2_reaches_1 : decode cX2_reaches 1 = .ok (.iload_n 2, 1) := by decide +kernel
theorem dX2_reaches_2 : decode cX2_reaches 2 = .ok (.invokevirtual 118, 3) := by decide +kernel
theorem dX2_reaches_5 : decode cX2_reaches 5 = .ok (.invokevirtual 134, 3) := by decide +kernel
theorem dX2_reaches_8 : decode cX2_reaches 8 = .ok (.aload_n 0, 1) := by decide +kernel
theorem dX2_reaches_9 : decode cX2_reaches 9 = .ok (.iload_n 1, 1) := by decide +kernel
theorem dX2_reaches_10 : decode cX2_reaches 10 = .ok (.aload_n 0, 1) := by decide +kernel
theorem dX2_reaches_11 : decode cX2_reaches 11 = .ok (.getfield 21, 3) := by decide +kernel
theorem dX2_reaches_14 : decode cX2_reaches 14 = .ok (.iload_n 2, 1) := by decide +kernel
theorem dX2_reaches_15 : decode cX2_reaches 15 = .ok (.iaload, 1) := by decide +kernel
theorem dX2_reaches_16 : decode cX2_reaches 16 = .ok (.invokevirtual 138, 3) := by decide +kernel
theorem dX2_reaches_19 : decode cX2_reaches 19 = .ok (.if_icmp .le 7, 3) := by decide +kernel
theorem dX2_reaches_22 : decode cX2_reaches 22 = .ok (.iconst 1, 1) := by decide +kernel
theorem dX2_reaches_23 : decode cX2_reaches 23 = .ok (.goto 4, 3) := by decide +kernel
theorem dX2_reaches_26 : decode cX2_reaches 26 = .ok (.iconst 0, 1) := by decide +kernel
theorem dX2_reaches_27 : decode cX2_reaches 27 = .ok (.ireturn, 1) := by decide +kernel
theorem dX2_bitsHeard_0 : decode cX2_bitsHeard 0 = .ok (.iconst 0, 1) := by decide +kernel
theorem dX2_bitsHeard_1 : decode cX2_bitsHeard 1 = .ok (.istore_n 3, 1) := by decide +kernel
theorem dX2_bitsHeard_2 : decode cX2_bitsHeard 2 = .ok (.iconst 0, 1) := by decide +kernel
theorem dX2_bitsHeard_3 : decode cX2_bitsHeard 3 = .ok (.istore 4, 2) := by decide +kernel
theorem dX2_bitsHeard_5 : decode cX2_bitsHeard 5 = .ok (.iload 4, 2) := by decide +kernel
theorem dX2_bitsHeard_7 : decode cX2_bitsHeard 7 = .ok (.aload_n 0, 1) := by decide +kernel
theorem dX2_bitsHeard_8 : decode cX2_bitsHeard 8 = .ok (.getfield 70, 3) := by decide +kernel
theorem dX2_bitsHeard_11 : decode cX2_bitsHeard 11 = .ok (.if_icmp .ge 36, 3) := by decide +kernel
theorem dX2_bitsHeard_14 : decode cX2_bitsHeard 14 = .ok (.aload_n 0, 1) := by decide +kernel
theorem dX2_bitsHeard_15 : decode cX2_bitsHeard 15 = .ok (.iload 4, 2) := by decide +kernel
theorem dX2_bitsHeard_17 : decode cX2_bitsHeard 17 = .ok (.iload_n 2, 1) := by decide +kernel
theorem dX2_bitsHeard_18 : decode cX2_bitsHeard 18 = .ok (.invokevirtual 141, 3) := by decide +kernel
theorem dX2_bitsHeard_21 : decode cX2_bitsHeard 21 = .ok (.ifCond .eq 20, 3) := by decide +kernel
theorem dX2_bitsHeard_24 : decode cX2_bitsHeard 24 = .ok (.aload_n 0, 1) := by decide +kernel
theorem dX2_bitsHeard_25 : decode cX2_bitsHeard 25 = .ok (.iload_n 1, 1) := by decide +kernel
theorem dX2_bitsHeard_26 : decode cX2_bitsHeard 26 = .ok (.iload 4, 2) := by decide +kernel
theorem dX2_bitsHeard_28 : decode cX2_bitsHeard 28 = .ok (.invokevirtual 144, 3) := by decide +kernel
theorem dX2_bitsHeard_31 : decode cX2_bitsHeard 31 = .ok (.ifCond .eq 10, 3) := by decide +kernel
theorem dX2_bitsHeard_34 : decode cX2_bitsHeard 34 = .ok (.iload_n 3, 1) := by decide +kernel
theorem dX2_bitsHeard_35 : decode cX2_bitsHeard 35 = .ok (.iconst 1, 1) := by decide +kernel
theorem dX2_bitsHeard_36 : decode cX2_bitsHeard 36 = .ok (.iload 4, 2) := by decide +kernel
theorem dX2_bitsHeard_38 : decode cX2_bitsHeard 38 = .ok (.ishl, 1) := by decide +kernel
theorem dX2_bitsHeard_39 : decode cX2_bitsHeard 39 = .ok (.ior, 1) := by decide +kernel
theorem dX2_bitsHeard_40 : decode cX2_bitsHeard 40 = .ok (.istore_n 3, 1) := by decide +kernel
theorem dX2_bitsHeard_41 : decode cX2_bitsHeard 41 = .ok (.iinc 4 1, 3) := by decide +kernel
theorem dX2_bitsHeard_44 : decode cX2_bitsHeard 44 = .ok (.goto (-39), 3) := by decide +kernel
theorem dX2_bitsHeard_47 : decode cX2_bitsHeard 47 = .ok (.iload_n 3, 1) := by decide +kernel
theorem dX2_bitsHeard_48 : decode cX2_bitsHeard 48 = .ok (.ireturn, 1) := by decide +kernel
theorem dX2_everHeard_0 : decode cX2_everHeard 0 = .ok (.iconst 0, 1) := by decide +kernel
theorem dX2_everHeard_1 : decode cX2_everHeard 1 = .ok (.istore_n 3, 1) := by decide +kernel
theorem dX2_everHeard_2 : decode cX2_everHeard 2 = .ok (.iload_n 3, 1) := by decide +kernel
theorem dX2_everHeard_3 : decode cX2_everHeard 3 = .ok (.aload_n 0, 1) := by decide +kernel
theorem dX2_everHeard_4 : decode cX2_everHeard 4 = .ok (.getfield 70, 3) := by decide +kernel
theorem dX2_everHeard_7 : decode cX2_everHeard 7 = .ok (.if_icmp .ge 49, 3) := by decide +kernel
theorem dX2_everHeard_10 : decode cX2_everHeard 10 = .ok (.aload_n 0, 1) := by decide +kernel
theorem dX2_everHeard_11 : decode cX2_everHeard 11 = .ok (.iload_n 3, 1) := by decide +kernel
theorem dX2_everHeard_12 : decode cX2_everHeard 12 = .ok (.invokevirtual 126, 3) := by decide +kernel
theorem dX2_everHeard_15 : decode cX2_everHeard 15 = .ok (.ifCond .eq 35, 3) := by decide +kernel
theorem dX2_everHeard_18 : decode cX2_everHeard 18 = .ok (.aload_n 0, 1) := by decide +kernel
theorem dX2_everHeard_19 : decode cX2_everHeard 19 = .ok (.iload_n 1, 1) := by decide +kernel
theorem dX2_everHeard_20 : decode cX2_everHeard 20 = .ok (.iload_n 3, 1) := by decide +kernel
theorem dX2_everHeard_21 : decode cX2_everHeard 21 = .ok (.invokevirtual 144, 3) := by decide +kernel
theorem dX2_everHeard_24 : decode cX2_everHeard 24 = .ok (.ifCond .eq 26, 3) := by decide +kernel
theorem dX2_everHeard_27 : decode cX2_everHeard 27 = .ok (.aload_n 0, 1) := by decide +kernel
theorem dX2_everHeard_28 : decode cX2_everHeard 28 = .ok (.iload_n 3, 1) := by decide +kernel
theorem dX2_everHeard_29 : decode cX2_everHeard 29 = .ok (.invokevirtual 118, 3) := by decide +kernel
theorem dX2_everHeard_32 : decode cX2_everHeard 32 = .ok (.iload_n 2, 1) := by decide +kernel
theorem dX2_everHeard_33 : decode cX2_everHeard 33 = .ok (.aload_n 0, 1) := by decide +kernel
theorem dX2_everHeard_34 : decode cX2_everHeard 34 = .ok (.getfield 33, 3) := by decide +kernel
theorem dX2_everHeard_37 : decode cX2_everHeard 37 = .ok (.getfield 102, 3) := by decide +kernel
theorem dX2_everHeard_40 : decode cX2_everHeard 40 = .ok (.iload_n 3, 1) := by decide +kernel
theorem dX2_everHeard_41 : decode cX2_everHeard 41 = .ok (.iaload, 1) := by decide +kernel
theorem dX2_everHeard_42 : decode cX2_everHeard 42 = .ok (.invokevirtual 147, 3) := by decide +kernel
theorem dX2_everHeard_45 : decode cX2_everHeard 45 = .ok (.ifCond .eq 5, 3) := by decide +kernel
theorem dX2_everHeard_48 : decode cX2_everHeard 48 = .ok (.iconst 1, 1) := by decide +kernel
theorem dX2_everHeard_49 : decode cX2_everHeard 49 = .ok (.ireturn, 1) := by decide +kernel
theorem dX2_everHeard_50 : decode cX2_everHeard 50 = .ok (.iinc 3 1, 3) := by decide +kernel
theorem dX2_everHeard_53 : decode cX2_everHeard 53 = .ok (.goto (-51), 3) := by decide +kernel
theorem dX2_everHeard_56 : decode cX2_everHeard 56 = .ok (.iconst 0, 1) := by decide +kernel
theorem dX2_everHeard_57 : decode cX2_everHeard 57 = .ok (.ireturn, 1) := by decide +kernel
theorem dX2_howManyReach_0 : decode cX2_howManyReach 0 = .ok (.iconst 0, 1) := by decide +kernel
theorem dX2_howManyReach_1 : decode cX2_howManyReach 1 = .ok (.istore_n 2, 1) := by decide +kernel
theorem dX2_howManyReach_2 : decode cX2_howManyReach 2 = .ok (.iconst 0, 1) := by decide +kernel
theorem dX2_howManyReach_3 : decode cX2_howManyReach 3 = .ok (.istore_n 3, 1) := by decide +kernel
theorem dX2_howManyReach_4 : decode cX2_howManyReach 4 = .ok (.iload_n 3, 1) := by decide +kernel
theorem dX2_howManyReach_5 : decode cX2_howManyReach 5 = .ok (.aload_n 0, 1) := by decide +kernel
theorem dX2_howManyReach_6 : decode cX2_howManyReach 6 = .ok (.getfield 70, 3) := by decide +kernel
theorem dX2_howManyReach_9 : decode cX2_howManyReach 9 = .ok (.if_icmp .ge 21, 3) := by decide +kernel
theorem dX2_howManyReach_12 : decode cX2_howManyReach 12 = .ok (.aload_n 0, 1) := by decide +kernel
theorem dX2_howManyReach_13 : decode cX2_howManyReach 13 = .ok (.iload_n 1, 1) := by decide +kernel
theorem dX2_howManyReach_14 : decode cX2_howManyReach 14 = .ok (.iload_n 3, 1) := by decide +kernel
theorem dX2_howManyReach_15 : decode cX2_howManyReach 15 = .ok (.invokevirtual 144, 3) := by decide +kernel
theorem dX2_howManyReach_18 : decode cX2_howManyReach 18 = .ok (.ifCond .eq 6, 3) := by decide +kernel
theorem dX2_howManyReach_21 : decode cX2_howManyReach 21 = .ok (.iinc 2 1, 3) := by decide +kernel
theorem dX2_howManyReach_24 : decode cX2_howManyReach 24 = .ok (.iinc 3 1, 3) := by decide +kernel
theorem dX2_howManyReach_27 : decode cX2_howManyReach 27 = .ok (.goto (-23), 3) := by decide +kernel
theorem dX2_howManyReach_30 : decode cX2_howManyReach 30 = .ok (.iload_n 2, 1) := by decide +kernel
theorem dX2_howManyReach_31 : decode cX2_howManyReach 31 = .ok (.ireturn, 1) := by decide +kernel
theorem dX2_entrance_0 : decode cX2_entrance 0 = .ok (.aload_n 0, 1) := by decide +kernel
theorem dX2_entrance_1 : decode cX2_entrance 1 = .ok (.iload_n 1, 1) := by decide +kernel
theorem dX2_entrance_2 : decode cX2_entrance 2 = .ok (.aload_n 0, 1) := by decide +kernel
theorem dX2_entrance_3 : decode cX2_entrance 3 = .ok (.getfield 21, 3) := by decide +kernel
theorem dX2_entrance_6 : decode cX2_entrance 6 = .ok (.iload_n 2, 1) := by decide +kernel
theorem dX2_entrance_7 : decode cX2_entrance 7 = .ok (.iaload, 1) := by decide +kernel
theorem dX2_entrance_8 : decode cX2_entrance 8 = .ok (.invokevirtual 138, 3) := by decide +kernel
theorem dX2_entrance_11 : decode cX2_entrance 11 = .ok (.istore_n 3, 1) := by decide +kernel
theorem dX2_entrance_12 : decode cX2_entrance 12 = .ok (.aload_n 0, 1) := by decide +kernel
theorem dX2_entrance_13 : decode cX2_entrance 13 = .ok (.iload_n 2, 1) := by decide +kernel
theorem dX2_entrance_14 : decode cX2_entrance 14 = .ok (.invokevirtual 118, 3) := by decide +kernel
theorem dX2_entrance_17 : decode cX2_entrance 17 = .ok (.invokevirtual 134, 3) := by decide +kernel
theorem dX2_entrance_20 : decode cX2_entrance 20 = .ok (.iload_n 3, 1) := by decide +kernel
theorem dX2_entrance_21 : decode cX2_entrance 21 = .ok (.if_icmp .gt 5, 3) := by decide +kernel
theorem dX2_entrance_24 : decode cX2_entrance 24 = .ok (.iconst (-1), 1) := by decide +kernel
theorem dX2_entrance_25 : decode cX2_entrance 25 = .ok (.ireturn, 1) := by decide +kernel
theorem dX2_entrance_26 : decode cX2_entrance 26 = .ok (.iconst 0, 1) := by decide +kernel
theorem dX2_entrance_27 : decode cX2_entrance 27 = .ok (.istore 4, 2) := by decide +kernel
theorem dX2_entrance_29 : decode cX2_entrance 29 = .ok (.iload 4, 2) := by decide +kernel
theorem dX2_entrance_31 : decode cX2_entrance 31 = .ok (.bipush 8, 2) := by decide +kernel
theorem dX2_entrance_33 : decode cX2_entrance 33 = .ok (.if_icmp .ge 50, 3) := by decide +kernel
theorem dX2_entrance_36 : decode cX2_entrance 36 = .ok (.iload_n 3, 1) := by decide +kernel
theorem dX2_entrance_37 : decode cX2_entrance 37 = .ok (.ifCond .le 46, 3) := by decide +kernel
theorem dX2_entrance_40 : decode cX2_entrance 40 = .ok (.aload_n 0, 1) := by decide +kernel
theorem dX2_entrance_41 : decode cX2_entrance 41 = .ok (.iload_n 1, 1) := by decide +kernel
theorem dX2_entrance_42 : decode cX2_entrance 42 = .ok (.iload 4, 2) := by decide +kernel
theorem dX2_entrance_44 : decode cX2_entrance 44 = .ok (.invokevirtual 150, 3) := by decide +kernel
theorem dX2_entrance_47 : decode cX2_entrance 47 = .ok (.istore 5, 2) := by decide +kernel
theorem dX2_entrance_49 : decode cX2_entrance 49 = .ok (.iload 5, 2) := by decide +kernel
theorem dX2_entrance_51 : decode cX2_entrance 51 = .ok (.iconst (-1), 1) := by decide +kernel
theorem dX2_entrance_52 : decode cX2_entrance 52 = .ok (.if_icmp .eq 25, 3) := by decide +kernel
theorem dX2_entrance_55 : decode cX2_entrance 55 = .ok (.iload 5, 2) := by decide +kernel
theorem dX2_entrance_57 : decode cX2_entrance 57 = .ok (.aload_n 0, 1) := by decide +kernel
theorem dX2_entrance_58 : decode cX2_entrance 58 = .ok (.iload 4, 2) := by decide +kernel
theorem dX2_entrance_60 : decode cX2_entrance 60 = .ok (.aload_n 0, 1) := by decide +kernel
theorem dX2_entrance_61 : decode cX2_entrance 61 = .ok (.getfield 21, 3) := by decide +kernel
theorem dX2_entrance_64 : decode cX2_entrance 64 = .ok (.iload_n 2, 1) := by decide +kernel
theorem dX2_entrance_65 : decode cX2_entrance 65 = .ok (.iaload, 1) := by decide +kernel
theorem dX2_entrance_66 : decode cX2_entrance 66 = .ok (.invokevirtual 138, 3) := by decide +kernel
theorem dX2_entrance_69 : decode cX2_entrance 69 = .ok (.iadd, 1) := by decide +kernel
theorem dX2_entrance_70 : decode cX2_entrance 70 = .ok (.iload_n 3, 1) := by decide +kernel
theorem dX2_entrance_71 : decode cX2_entrance 71 = .ok (.if_icmp .ne 6, 3) := by decide +kernel
theorem dX2_entrance_74 : decode cX2_entrance 74 = .ok (.iload 4, 2) := by decide +kernel
theorem dX2_entrance_76 : decode cX2_entrance 76 = .ok (.ireturn, 1) := by decide +kernel
theorem dX2_entrance_77 : decode cX2_entrance 77 = .ok (.iinc 4 1, 3) := by decide +kernel
theorem dX2_entrance_80 : decode cX2_entrance 80 = .ok (.goto (-51), 3) := by decide +kernel
theorem dX2_entrance_83 : decode cX2_entrance 83 = .ok (.iload_n 1, 1) := by decide +kernel
theorem dX2_entrance_84 : decode cX2_entrance 84 = .ok (.ireturn, 1) := by decide +kernel
theorem dX2_toldApart_0 : decode cX2_toldApart 0 = .ok (.aload_n 0, 1) := by decide +kernel
theorem dX2_toldApart_1 : decode cX2_toldApart 1 = .ok (.iload_n 1, 1) := by decide +kernel
theorem dX2_toldApart_2 : decode cX2_toldApart 2 = .ok (.iload_n 2, 1) := by decide +kernel
theorem dX2_toldApart_3 : decode cX2_toldApart 3 = .ok (.invokevirtual 153, 3) := by decide +kernel
theorem dX2_toldApart_6 : decode cX2_toldApart 6 = .ok (.aload_n 0, 1) := by decide +kernel
theorem dX2_toldApart_7 : decode cX2_toldApart 7 = .ok (.iload_n 1, 1) := by decide +kernel
theorem dX2_toldApart_8 : decode cX2_toldApart 8 = .ok (.iload_n 3, 1) := by decide +kernel
theorem dX2_toldApart_9 : decode cX2_toldApart 9 = .ok (.invokevirtual 153, 3) := by decide +kernel
theorem dX2_toldApart_12 : decode cX2_toldApart 12 = .ok (.if_icmp .eq 7, 3) := by decide +kernel
theorem dX2_toldApart_15 : decode cX2_toldApart 15 = .ok (.iconst 1, 1) := by decide +kernel
theorem dX2_toldApart_16 : decode cX2_toldApart 16 = .ok (.goto 4, 3) := by decide +kernel
theorem dX2_toldApart_19 : decode cX2_toldApart 19 = .ok (.iconst 0, 1) := by decide +kernel
theorem dX2_toldApart_20 : decode cX2_toldApart 20 = .ok (.ireturn, 1) := by decide +kernel
theorem dX2_bitsFitting_0 : decode cX2_bitsFitting 0 = .ok (.iconst 0, 1) := by decide +kernel
theorem dX2_bitsFitting_1 : decode cX2_bitsFitting 1 = .ok (.istore_n 1, 1) := by decide +kernel
theorem dX2_bitsFitting_2 : decode cX2_bitsFitting 2 = .ok (.iconst 0, 1) := by decide +kernel
theorem dX2_bitsFitting_3 : decode cX2_bitsFitting 3 = .ok (.istore_n 2, 1) := by decide +kernel
theorem dX2_bitsFitting_4 : decode cX2_bitsFitting 4 = .ok (.iload_n 2, 1) := by decide +kernel
theorem dX2_bitsFitting_5 : decode cX2_bitsFitting 5 = .ok (.aload_n 0, 1) := by decide +kernel
theorem dX2_bitsFitting_6 : decode cX2_bitsFitting 6 = .ok (.getfield 70, 3) := by decide +kernel
theorem dX2_bitsFitting_9 : decode cX2_bitsFitting 9 = .ok (.if_icmp .ge 23, 3) := by decide +kernel
theorem dX2_bitsFitting_12 : decode cX2_bitsFitting 12 = .ok (.aload_n 0, 1) := by decide +kernel
theorem dX2_bitsFitting_13 : decode cX2_bitsFitting 13 = .ok (.iload_n 2, 1) := by decide +kernel
theorem dX2_bitsFitting_14 : decode cX2_bitsFitting 14 = .ok (.invokevirtual 156, 3) := by decide +kernel
theorem dX2_bitsFitting_17 : decode cX2_bitsFitting 17 = .ok (.ifCond .eq 9, 3) := by decide +kernel
theorem dX2_bitsFitting_20 : decode cX2_bitsFitting 20 = .ok (.iload_n 1, 1) := by decide +kernel
theorem dX2_bitsFitting_21 : decode cX2_bitsFitting 21 = .ok (.iconst 1, 1) := by decide +kernel
theorem dX2_bitsFitting_22 : decode cX2_bitsFitting 22 = .ok (.iload_n 2, 1) := by decide +kernel
theorem dX2_bitsFitting_23 : decode cX2_bitsFitting 23 = .ok (.ishl, 1) := by decide +kernel
theorem dX2_bitsFitting_24 : decode cX2_bitsFitting 24 = .ok (.ior, 1) := by decide +kernel
theorem dX2_bitsFitting_25 : decode cX2_bitsFitting 25 = .ok (.istore_n 1, 1) := by decide +kernel
theorem dX2_bitsFitting_26 : decode cX2_bitsFitting 26 = .ok (.iinc 2 1, 3) := by decide +kernel
theorem dX2_bitsFitting_29 : decode cX2_bitsFitting 29 = .ok (.goto (-25), 3) := by decide +kernel
theorem dX2_bitsFitting_32 : decode cX2_bitsFitting 32 = .ok (.iload_n 1, 1) := by decide +kernel
theorem dX2_bitsFitting_33 : decode cX2_bitsFitting 33 = .ok (.ireturn, 1) := by decide +kernel
theorem dX2_fitsNotes_0 : decode cX2_fitsNotes 0 = .ok (.iconst 0, 1) := by decide +kernel
theorem dX2_fitsNotes_1 : decode cX2_fitsNotes 1 = .ok (.istore_n 2, 1) := by decide +kernel
theorem dX2_fitsNotes_2 : decode cX2_fitsNotes 2 = .ok (.iload_n 2, 1) := by decide +kernel
theorem dX2_fitsNotes_3 : decode cX2_fitsNotes 3 = .ok (.aload_n 0, 1) := by decide +kernel
theorem dX2_fitsNotes_4 : decode cX2_fitsNotes 4 = .ok (.getfield 74, 3) := by decide +kernel
theorem dX2_fitsNotes_7 : decode cX2_fitsNotes 7 = .ok (.if_icmp .ge 31, 3) := by decide +kernel
theorem dX2_fitsNotes_10 : decode cX2_fitsNotes 10 = .ok (.aload_n 0, 1) := by decide +kernel
theorem dX2_fitsNotes_11 : decode cX2_fitsNotes 11 = .ok (.aload_n 0, 1) := by decide +kernel
theorem dX2_fitsNotes_12 : decode cX2_fitsNotes 12 = .ok (.getfield 24, 3) := by decide +kernel
theorem dX2_fitsNotes_15 : decode cX2_fitsNotes 15 = .ok (.iload_n 2, 1) := by decide +kernel
theorem dX2_fitsNotes_16 : decode cX2_fitsNotes 16 = .ok (.iaload, 1) := by decide +kernel
theorem dX2_fitsNotes_17 : decode cX2_fitsNotes 17 = .ok (.iload_n 1, 1) := by decide +kernel
theorem dX2_fitsNotes_18 : decode cX2_fitsNotes 18 = .ok (.invokevirtual 153, 3) := by decide +kernel
theorem dX2_fitsNotes_21 : decode cX2_fitsNotes 21 = .ok (.aload_n 0, 1) := by decide +kernel
theorem dX2_fitsNotes_22 : decode cX2_fitsNotes 22 = .ok (.getfield 27, 3) := by decide +kernel
theorem dX2_fitsNotes_25 : decode cX2_fitsNotes 25 = .ok (.iload_n 2, 1) := by decide +kernel
theorem dX2_fitsNotes_26 : decode cX2_fitsNotes 26 = .ok (.iaload, 1) := by decide +kernel
theorem dX2_fitsNotes_27 : decode cX2_fitsNotes 27 = .ok (.if_icmp .eq 5, 3) := by decide +kernel
theorem dX2_fitsNotes_30 : decode cX2_fitsNotes 30 = .ok (.iconst 0, 1) := by decide +kernel
theorem dX2_fitsNotes_31 : decode cX2_fitsNotes 31 = .ok (.ireturn, 1) := by decide +kernel
theorem dX2_fitsNotes_32 : decode cX2_fitsNotes 32 = .ok (.iinc 2 1, 3) := by decide +kernel
theorem dX2_fitsNotes_35 : decode cX2_fitsNotes 35 = .ok (.goto (-33), 3) := by decide +kernel
theorem dX2_fitsNotes_38 : decode cX2_fitsNotes 38 = .ok (.iconst 1, 1) := by decide +kernel
theorem dX2_fitsNotes_39 : decode cX2_fitsNotes 39 = .ok (.ireturn, 1) := by decide +kernel
theorem dX2_mixAll_0 : decode cX2_mixAll 0 = .ok (.lload_n 1, 1) := by decide +kernel
theorem dX2_mixAll_1 : decode cX2_mixAll 1 = .ok (.lstore_n 3, 1) := by decide +kernel
theorem dX2_mixAll_2 : decode cX2_mixAll 2 = .ok (.iconst 0, 1) := by decide +kernel
theorem dX2_mixAll_3 : decode cX2_mixAll 3 = .ok (.istore 5, 2) := by decide +kernel
theorem dX2_mixAll_5 : decode cX2_mixAll 5 = .ok (.iload 5, 2) := by decide +kernel
theorem dX2_mixAll_7 : decode cX2_mixAll 7 = .ok (.bipush 8, 2) := by decide +kernel
theorem dX2_mixAll_9 : decode cX2_mixAll 9 = .ok (.if_icmp .ge 42, 3) := by decide +kernel
theorem dX2_mixAll_12 : decode cX2_mixAll 12 = .ok (.iload 5, 2) := by decide +kernel
theorem dX2_mixAll_14 : decode cX2_mixAll 14 = .ok (.iconst 1, 1) := by decide +kernel
theorem dX2_mixAll_15 : decode cX2_mixAll 15 = .ok (.iadd, 1) := by decide +kernel
theorem dX2_mixAll_16 : decode cX2_mixAll 16 = .ok (.istore 6, 2) := by decide +kernel
theorem dX2_mixAll_18 : decode cX2_mixAll 18 = .ok (.iload 6, 2) := by decide +kernel
theorem dX2_mixAll_20 : decode cX2_mixAll 20 = .ok (.bipush 8, 2) := by decide +kernel
theorem dX2_mixAll_22 : decode cX2_mixAll 22 = .ok (.if_icmp .ge 23, 3) := by decide +kernel
theorem dX2_mixAll_25 : decode cX2_mixAll 25 = .ok (.lload_n 3, 1) := by decide +kernel
theorem dX2_mixAll_26 : decode cX2_mixAll 26 = .ok (.aload_n 0, 1) := by decide +kernel
theorem dX2_mixAll_27 : decode cX2_mixAll 27 = .ok (.iload 5, 2) := by decide +kernel
theorem dX2_mixAll_29 : decode cX2_mixAll 29 = .ok (.iload 6, 2) := by decide +kernel
theorem dX2_mixAll_31 : decode cX2_mixAll 31 = .ok (.invokevirtual 150, 3) := by decide +kernel
theorem dX2_mixAll_34 : decode cX2_mixAll 34 = .ok (.i2l, 1) := by decide +kernel
theorem dX2_mixAll_35 : decode cX2_mixAll 35 = .ok (.invokestatic 159, 3) := by decide +kernel
theorem dX2_mixAll_38 : decode cX2_mixAll 38 = .ok (.lstore_n 3, 1) := by decide +kernel
theorem dX2_mixAll_39 : decode cX2_mixAll 39 = .ok (.iinc 6 1, 3) := by decide +kernel
theorem dX2_mixAll_42 : decode cX2_mixAll 42 = .ok (.goto (-24), 3) := by decide +kernel
theorem dX2_mixAll_45 : decode cX2_mixAll 45 = .ok (.iinc 5 1, 3) := by decide +kernel
theorem dX2_mixAll_48 : decode cX2_mixAll 48 = .ok (.goto (-43), 3) := by decide +kernel
theorem dX2_mixAll_51 : decode cX2_mixAll 51 = .ok (.iconst 0, 1) := by decide +kernel
theorem dX2_mixAll_52 : decode cX2_mixAll 52 = .ok (.istore 5, 2) := by decide +kernel
theorem dX2_mixAll_54 : decode cX2_mixAll 54 = .ok (.iload 5, 2) := by decide +kernel
theorem dX2_mixAll_56 : decode cX2_mixAll 56 = .ok (.aload_n 0, 1) := by decide +kernel
theorem dX2_mixAll_57 : decode cX2_mixAll 57 = .ok (.getfield 70, 3) := by decide +kernel
theorem dX2_mixAll_60 : decode cX2_mixAll 60 = .ok (.if_icmp .ge 65, 3) := by decide +kernel
theorem dX2_mixAll_63 : decode cX2_mixAll 63 = .ok (.lload_n 3, 1) := by decide +kernel
theorem dX2_mixAll_64 : decode cX2_mixAll 64 = .ok (.aload_n 0, 1) := by decide +kernel
theorem dX2_mixAll_65 : decode cX2_mixAll 65 = .ok (.getfield 18, 3) := by decide +kernel
theorem dX2_mixAll_68 : decode cX2_mixAll 68 = .ok (.iload 5, 2) := by decide +kernel
theorem dX2_mixAll_70 : decode cX2_mixAll 70 = .ok (.iaload, 1) := by decide +kernel
theorem dX2_mixAll_71 : decode cX2_mixAll 71 = .ok (.i2l, 1) := by decide +kernel
theorem dX2_mixAll_72 : decode cX2_mixAll 72 = .ok (.invokestatic 159, 3) := by decide +kernel
theorem dX2_mixAll_75 : decode cX2_mixAll 75 = .ok (.aload_n 0, 1) := by decide +kernel
theorem dX2_mixAll_76 : decode cX2_mixAll 76 = .ok (.getfield 21, 3) := by decide +kernel
theorem dX2_mixAll_79 : decode cX2_mixAll 79 = .ok (.iload 5, 2) := by decide +kernel
theorem dX2_mixAll_81 : decode cX2_mixAll 81 = .ok (.iaload, 1) := by decide +kernel
theorem dX2_mixAll_82 : decode cX2_mixAll 82 = .ok (.i2l, 1) := by decide +kernel
theorem dX2_mixAll_83 : decode cX2_mixAll 83 = .ok (.invokestatic 159, 3) := by decide +kernel
theorem dX2_mixAll_86 : decode cX2_mixAll 86 = .ok (.lstore_n 3, 1) := by decide +kernel
theorem dX2_mixAll_87 : decode cX2_mixAll 87 = .ok (.lload_n 3, 1) := by decide +kernel
theorem dX2_mixAll_88 : decode cX2_mixAll 88 = .ok (.aload_n 0, 1) := by decide +kernel
theorem dX2_mixAll_89 : decode cX2_mixAll 89 = .ok (.getfield 33, 3) := by decide +kernel
theorem dX2_mixAll_92 : decode cX2_mixAll 92 = .ok (.getfield 102, 3) := by decide +kernel
theorem dX2_mixAll_95 : decode cX2_mixAll 95 = .ok (.iload 5, 2) := by decide +kernel
theorem dX2_mixAll_97 : decode cX2_mixAll 97 = .ok (.iaload, 1) := by decide +kernel
theorem dX2_mixAll_98 : decode cX2_mixAll 98 = .ok (.i2l, 1) := by decide +kernel
theorem dX2_mixAll_99 : decode cX2_mixAll 99 = .ok (.invokestatic 159, 3) := by decide +kernel
theorem dX2_mixAll_102 : decode cX2_mixAll 102 = .ok (.aload_n 0, 1) := by decide +kernel
theorem dX2_mixAll_103 : decode cX2_mixAll 103 = .ok (.getfield 33, 3) := by decide +kernel
theorem dX2_mixAll_106 : decode cX2_mixAll 106 = .ok (.getfield 89, 3) := by decide +kernel
theorem dX2_mixAll_109 : decode cX2_mixAll 109 = .ok (.iload 5, 2) := by decide +kernel
theorem dX2_mixAll_111 : decode cX2_mixAll 111 = .ok (.ishr, 1) := by decide +kernel
theorem dX2_mixAll_112 : decode cX2_mixAll 112 = .ok (.iconst 1, 1) := by decide +kernel
theorem dX2_mixAll_113 : decode cX2_mixAll 113 = .ok (.iand, 1) := by decide +kernel
theorem dX2_mixAll_114 : decode cX2_mixAll 114 = .ok (.i2l, 1) := by decide +kernel
theorem dX2_mixAll_115 : decode cX2_mixAll 115 = .ok (.invokestatic 159, 3) := by decide +kernel
theorem dX2_mixAll_118 : decode cX2_mixAll 118 = .ok (.lstore_n 3, 1) := by decide +kernel
theorem dX2_mixAll_119 : decode cX2_mixAll 119 = .ok (.iinc 5 1, 3) := by decide +kernel
theorem dX2_mixAll_122 : decode cX2_mixAll 122 = .ok (.goto (-68), 3) := by decide +kernel
theorem dX2_mixAll_125 : decode cX2_mixAll 125 = .ok (.iconst 0, 1) := by decide +kernel
theorem dX2_mixAll_126 : decode cX2_mixAll 126 = .ok (.istore 5, 2) := by decide +kernel
theorem dX2_mixAll_128 : decode cX2_mixAll 128 = .ok (.iload 5, 2) := by decide +kernel
theorem dX2_mixAll_130 : decode cX2_mixAll 130 = .ok (.aload_n 0, 1) := by decide +kernel
theorem dX2_mixAll_131 : decode cX2_mixAll 131 = .ok (.getfield 74, 3) := by decide +kernel
theorem dX2_mixAll_134 : decode cX2_mixAll 134 = .ok (.if_icmp .ge 33, 3) := by decide +kernel
theorem dX2_mixAll_137 : decode cX2_mixAll 137 = .ok (.lload_n 3, 1) := by decide +kernel
theorem dX2_mixAll_138 : decode cX2_mixAll 138 = .ok (.aload_n 0, 1) := by decide +kernel
theorem dX2_mixAll_139 : decode cX2_mixAll 139 = .ok (.getfield 24, 3) := by decide +kernel
theorem dX2_mixAll_142 : decode cX2_mixAll 142 = .ok (.iload 5, 2) := by decide +kernel
theorem dX2_mixAll_144 : decode cX2_mixAll 144 = .ok (.iaload, 1) := by decide +kernel
theorem dX2_mixAll_145 : decode cX2_mixAll 145 = .ok (.i2l, 1) := by decide +kernel
theorem dX2_mixAll_146 : decode cX2_mixAll 146 = .ok (.invokestatic 159, 3) := by decide +kernel
theorem dX2_mixAll_149 : decode cX2_mixAll 149 = .ok (.aload_n 0, 1) := by decide +kernel
theorem dX2_mixAll_150 : decode cX2_mixAll 150 = .ok (.getfield 27, 3) := by decide +kernel
theorem dX2_mixAll_153 : decode cX2_mixAll 153 = .ok (.iload 5, 2) := by decide +kernel
theorem dX2_mixAll_155 : decode cX2_mixAll 155 = .ok (.iaload, 1) := by decide +kernel
theorem dX2_mixAll_156 : decode cX2_mixAll 156 = .ok (.i2l, 1) := by decide +kernel
theorem dX2_mixAll_157 : decode cX2_mixAll 157 = .ok (.invokestatic 159, 3) := by decide +kernel
theorem dX2_mixAll_160 : decode cX2_mixAll 160 = .ok (.lstore_n 3, 1) := by decide +kernel
theorem dX2_mixAll_161 : decode cX2_mixAll 161 = .ok (.iinc 5 1, 3) := by decide +kernel
theorem dX2_mixAll_164 : decode cX2_mixAll 164 = .ok (.goto (-36), 3) := by decide +kernel
theorem dX2_mixAll_167 : decode cX2_mixAll 167 = .ok (.lload_n 3, 1) := by decide +kernel
theorem dX2_mixAll_168 : decode cX2_mixAll 168 = .ok (.lreturn, 1) := by decide +kernel
theorem dX3_init_0 : decode cX3_init 0 = .ok (.aload_n 0, 1) := by decide +kernel
theorem dX3_init_1 : decode cX3_init 1 = .ok (.invokespecial 3, 3) := by decide +kernel
theorem dX3_init_4 : decode cX3_init 4 = .ok (.aload_n 0, 1) := by decide +kernel
theorem dX3_init_5 : decode cX3_init 5 = .ok (.bipush 6, 2) := by decide +kernel
theorem dX3_init_7 : decode cX3_init 7 = .ok (.newarray .int, 2) := by decide +kernel
theorem dX3_init_9 : decode cX3_init 9 = .ok (.putfield 9, 3) := by decide +kernel
theorem dX3_init_12 : decode cX3_init 12 = .ok (.return_, 1) := by decide +kernel
theorem dX3_copyFrom_0 : decode cX3_copyFrom 0 = .ok (.aload_n 1, 1) := by decide +kernel
theorem dX3_copyFrom_1 : decode cX3_copyFrom 1 = .ok (.getfield 9, 3) := by decide +kernel
theorem dX3_copyFrom_4 : decode cX3_copyFrom 4 = .ok (.iconst 0, 1) := by decide +kernel
theorem dX3_copyFrom_5 : decode cX3_copyFrom 5 = .ok (.aload_n 0, 1) := by decide +kernel
theorem dX3_copyFrom_6 : decode cX3_copyFrom 6 = .ok (.getfield 9, 3) := by decide +kernel
theorem dX3_copyFrom_9 : decode cX3_copyFrom 9 = .ok (.iconst 0, 1) := by decide +kernel
theorem dX3_copyFrom_10 : decode cX3_copyFrom 10 = .ok (.bipush 6, 2) := by decide +kernel
theorem dX3_copyFrom_12 : decode cX3_copyFrom 12 = .ok (.invokestatic 15, 3) := by decide +kernel
theorem dX3_copyFrom_15 : decode cX3_copyFrom 15 = .ok (.aload_n 0, 1) := by decide +kernel
theorem dX3_copyFrom_16 : decode cX3_copyFrom 16 = .ok (.aload_n 1, 1) := by decide +kernel
theorem dX3_copyFrom_17 : decode cX3_copyFrom 17 = .ok (.getfield 21, 3) := by decide +kernel
theorem dX3_copyFrom_20 : decode cX3_copyFrom 20 = .ok (.putfield 21, 3) := by decide +kernel
theorem dX3_copyFrom_23 : decode cX3_copyFrom 23 = .ok (.aload_n 0, 1) := by decide +kernel
theorem dX3_copyFrom_24 : decode cX3_copyFrom 24 = .ok (.aload_n 1, 1) := by decide +kernel
theorem dX3_copyFrom_25 : decode cX3_copyFrom 25 = .ok (.getfield 25, 3) := by decide +kernel
theorem dX3_copyFrom_28 : decode cX3_copyFrom 28 = .ok (.putfield 25, 3) := by decide +kernel
theorem dX3_copyFrom_31 : decode cX3_copyFrom 31 = .ok (.aload_n 0, 1) := by decide +kernel
theorem dX3_copyFrom_32 : decode cX3_copyFrom 32 = .ok (.aload_n 1, 1) := by decide +kernel
theorem dX3_copyFrom_33 : decode cX3_copyFrom 33 = .ok (.getfield 28, 3) := by decide +kernel
theorem dX3_copyFrom_36 : decode cX3_copyFrom 36 = .ok (.putfield 28, 3) := by decide +kernel
theorem dX3_copyFrom_39 : decode cX3_copyFrom 39 = .ok (.aload_n 0, 1) := by decide +kernel
theorem dX3_copyFrom_40 : decode cX3_copyFrom 40 = .ok (.aload_n 1, 1) := by decide +kernel
theorem dX3_copyFrom_41 : decode cX3_copyFrom 41 = .ok (.getfield 31, 3) := by decide +kernel
theorem dX3_copyFrom_44 : decode cX3_copyFrom 44 = .ok (.putfield 31, 3) := by decide +kernel
theorem dX3_copyFrom_47 : decode cX3_copyFrom 47 = .ok (.return_, 1) := by decide +kernel
theorem dX3_setDown_0 : decode cX3_setDown 0 = .ok (.aload_n 0, 1) := by decide +kernel
theorem dX3_setDown_1 : decode cX3_setDown 1 = .ok (.aload_n 0, 1) := by decide +kernel
theorem dX3_setDown_2 : decode cX3_setDown 2 = .ok (.getfield 31, 3) := by decide +kernel
theorem dX3_setDown_5 : decode cX3_setDown 5 = .ok (.iconst 1, 1) := by decide +kernel
theorem dX3_setDown_6 : decode cX3_setDown 6 = .ok (.iload_n 1, 1) := by decide +kernel
theorem dX3_setDown_7 : decode cX3_setDown 7 = .ok (.ishl, 1) := by decide +kernel
theorem dX3_setDown_8 : decode cX3_setDown 8 = .ok (.iconst (-1), 1) := by decide +kernel
theorem dX3_setDown_9 : decode cX3_setDown 9 = .ok (.ixor, 1) := by decide +kernel
theorem dX3_setDown_10 : decode cX3_setDown 10 = .ok (.iand, 1) := by decide +kernel
theorem dX3_setDown_11 : decode cX3_setDown 11 = .ok (.iload_n 2, 1) := by decide +kernel
theorem dX3_setDown_12 : decode cX3_setDown 12 = .ok (.iload_n 1, 1) := by decide +kernel
theorem dX3_setDown_13 : decode cX3_setDown 13 = .ok (.ishl, 1) := by decide +kernel
theorem dX3_setDown_14 : decode cX3_setDown 14 = .ok (.ior, 1) := by decide +kernel
theorem dX3_setDown_15 : decode cX3_setDown 15 = .ok (.putfield 31, 3) := by decide +kernel
theorem dX3_setDown_18 : decode cX3_setDown 18 = .ok (.return_, 1) := by decide +kernel
theorem dX4_init_0 : decode cX4_init 0 = .ok (.aload_n 0, 1) := by decide +kernel
theorem dX4_init_1 : decode cX4_init 1 = .ok (.invokespecial 1, 3) := by decide +kernel
theorem dX4_init_4 : decode cX4_init 4 = .ok (.return_, 1) := by decide +kernel
theorem dX4_sounds_0 : decode cX4_sounds 0 = .ok (.aload_n 0, 1) := by decide +kernel
theorem dX4_sounds_1 : decode cX4_sounds 1 = .ok (.iload_n 1, 1) := by decide +kernel
theorem dX4_sounds_2 : decode cX4_sounds 2 = .ok (.iload_n 2, 1) := by decide +kernel
theorem dX4_sounds_3 : decode cX4_sounds 3 = .ok (.iload_n 3, 1) := by decide +kernel
theorem dX4_sounds_4 : decode cX4_sounds 4 = .ok (.bipush 10, 2) := by decide +kernel
theorem dX4_sounds_6 : decode cX4_sounds 6 = .ok (.isub, 1) := by decide +kernel
theorem dX4_sounds_7 : decode cX4_sounds 7 = .ok (.invokespecial 7, 3) := by decide +kernel
theorem dX4_sounds_10 : decode cX4_sounds 10 = .ok (.ireturn, 1) := by decide +kernel
theorem dX5_init_0 : decode cX5_init 0 = .ok (.aload_n 0, 1) := by decide +kernel
theorem dX5_init_1 : decode cX5_init 1 = .ok (.invokespecial 1, 3) := by decide +kernel
theorem dX5_init_4 : decode cX5_init 4 = .ok (.return_, 1) := by decide +kernel
theorem dX5_sounds_0 : decode cX5_sounds 0 = .ok (.iload_n 1, 1) := by decide +kernel
theorem dX5_sounds_1 : decode cX5_sounds 1 = .ok (.bipush 30, 2) := by decide +kernel
theorem dX5_sounds_3 : decode cX5_sounds 3 = .ok (.irem, 1) := by decide +kernel
theorem dX5_sounds_4 : decode cX5_sounds 4 = .ok (.bipush 7, 2) := by decide +kernel
theorem dX5_sounds_6 : decode cX5_sounds 6 = .ok (.if_icmp .ne 7, 3) := by decide +kernel
theorem dX5_sounds_9 : decode cX5_sounds 9 = .ok (.iconst 1, 1) := by decide +kernel
theorem dX5_sounds_10 : decode cX5_sounds 10 = .ok (.goto 4, 3) := by decide +kernel
theorem dX5_sounds_13 : decode cX5_sounds 13 = .ok (.iconst 0, 1) := by decide +kernel
theorem dX5_sounds_14 : decode cX5_sounds 14 = .ok (.ireturn, 1) := by decide +kernel
theorem dX5_loud_0 : decode cX5_loud 0 = .ok (.aload_n 0, 1) := by decide +kernel
theorem dX5_loud_1 : decode cX5_loud 1 = .ok (.invokespecial 7, 3) := by decide +kernel
theorem dX5_loud_4 : decode cX5_loud 4 = .ok (.iconst 1, 1) := by decide +kernel
theorem dX5_loud_5 : decode cX5_loud 5 = .ok (.iadd, 1) := by decide +kernel
theorem dX5_loud_6 : decode cX5_loud 6 = .ok (.ireturn, 1) := by decide +kernel
theorem dX6_init_0 : decode cX6_init 0 = .ok (.aload_n 0, 1) := by decide +kernel
theorem dX6_init_1 : decode cX6_init 1 = .ok (.invokespecial 1, 3) := by decide +kernel
theorem dX6_init_4 : decode cX6_init 4 = .ok (.return_, 1) := by decide +kernel
theorem dX6_sounds_0 : decode cX6_sounds 0 = .ok (.iload_n 1, 1) := by decide +kernel
theorem dX6_sounds_1 : decode cX6_sounds 1 = .ok (.bipush 41, 2) := by decide +kernel
theorem dX6_sounds_3 : decode cX6_sounds 3 = .ok (.irem, 1) := by decide +kernel
theorem dX6_sounds_4 : decode cX6_sounds 4 = .ok (.ifCond .ne 15, 3) := by decide +kernel
theorem dX6_sounds_7 : decode cX6_sounds 7 = .ok (.iload_n 3, 1) := by decide +kernel
theorem dX6_sounds_8 : decode cX6_sounds 8 = .ok (.iload_n 2, 1) := by decide +kernel
theorem dX6_sounds_9 : decode cX6_sounds 9 = .ok (.isub, 1) := by decide +kernel
theorem dX6_sounds_10 : decode cX6_sounds 10 = .ok (.bipush 20, 2) := by decide +kernel
theorem dX6_sounds_12 : decode cX6_sounds 12 = .ok (.if_icmp .ge 7, 3) := by decide +kernel
theorem dX6_sounds_15 : decode cX6_sounds 15 = .ok (.iconst 1, 1) := by decide +kernel
theorem dX6_sounds_16 : decode cX6_sounds 16 = .ok (.goto 4, 3) := by decide +kernel
theorem dX6_sounds_19 : decode cX6_sounds 19 = .ok (.iconst 0, 1) := by decide +kernel
theorem dX6_sounds_20 : decode cX6_sounds 20 = .ok (.ireturn, 1) := by decide +kernel
theorem dX6_loud_0 : decode cX6_loud 0 = .ok (.bipush 20, 2) := by decide +kernel
theorem dX6_loud_2 : decode cX6_loud 2 = .ok (.ireturn, 1) := by decide +kernel
theorem dX6_soundsDown_0 : decode cX6_soundsDown 0 = .ok (.iconst 0, 1) := by decide +kernel
theorem dX6_soundsDown_1 : decode cX6_soundsDown 1 = .ok (.ireturn, 1) := by decide +kernel
theorem dX6_everSounds_0 : decode cX6_everSounds 0 = .ok (.iconst 0, 1) := by decide +kernel
theorem dX6_everSounds_1 : decode cX6_everSounds 1 = .ok (.istore_n 3, 1) := by decide +kernel
theorem dX6_everSounds_2 : decode cX6_everSounds 2 = .ok (.iload_n 3, 1) := by decide +kernel
theorem dX6_everSounds_3 : decode cX6_everSounds 3 = .ok (.getstatic 7, 3) := by decide +kernel
theorem dX6_everSounds_6 : decode cX6_everSounds 6 = .ok (.arraylength, 1) := by decide +kernel
theorem dX6_everSounds_7 : decode cX6_everSounds 7 = .ok (.if_icmp .ge 25, 3) := by decide +kernel
theorem dX6_everSounds_10 : decode cX6_everSounds 10 = .ok (.aload_n 0, 1) := by decide +kernel
theorem dX6_everSounds_11 : decode cX6_everSounds 11 = .ok (.getstatic 7, 3) := by decide +kernel
theorem dX6_everSounds_14 : decode cX6_everSounds 14 = .ok (.iload_n 3, 1) := by decide +kernel
theorem dX6_everSounds_15 : decode cX6_everSounds 15 = .ok (.iaload, 1) := by decide +kernel
theorem dX6_everSounds_16 : decode cX6_everSounds 16 = .ok (.iload_n 1, 1) := by decide +kernel
theorem dX6_everSounds_17 : decode cX6_everSounds 17 = .ok (.iload_n 2, 1) := by decide +kernel
theorem dX6_everSounds_18 : decode cX6_everSounds 18 = .ok (.invokevirtual 13, 3) := by decide +kernel
theorem dX6_everSounds_21 : decode cX6_everSounds 21 = .ok (.ifCond .eq 5, 3) := by decide +kernel
theorem dX6_everSounds_24 : decode cX6_everSounds 24 = .ok (.iconst 1, 1) := by decide +kernel
theorem dX6_everSounds_25 : decode cX6_everSounds 25 = .ok (.ireturn, 1) := by decide +kernel
theorem dX6_everSounds_26 : decode cX6_everSounds 26 = .ok (.iinc 3 1, 3) := by decide +kernel
theorem dX6_everSounds_29 : decode cX6_everSounds 29 = .ok (.goto (-27), 3) := by decide +kernel
theorem dX6_everSounds_32 : decode cX6_everSounds 32 = .ok (.iconst 0, 1) := by decide +kernel
theorem dX6_everSounds_33 : decode cX6_everSounds 33 = .ok (.ireturn, 1) := by decide +kernel
theorem dX7_init_0 : decode cX7_init 0 = .ok (.aload_n 0, 1) := by decide +kernel
theorem dX7_init_1 : decode cX7_init 1 = .ok (.invokespecial 3, 3) := by decide +kernel
theorem dX7_init_4 : decode cX7_init 4 = .ok (.aload_n 0, 1) := by decide +kernel
theorem dX7_init_5 : decode cX7_init 5 = .ok (.bipush 48, 2) := by decide +kernel
theorem dX7_init_7 : decode cX7_init 7 = .ok (.newarray .int, 2) := by decide +kernel
theorem dX7_init_9 : decode cX7_init 9 = .ok (.putfield 9, 3) := by decide +kernel
theorem dX7_init_12 : decode cX7_init 12 = .ok (.aload_n 0, 1) := by decide +kernel
theorem dX7_init_13 : decode cX7_init 13 = .ok (.bipush 64, 2) := by decide +kernel
theorem dX7_init_15 : decode cX7_init 15 = .ok (.newarray .int, 2) := by decide +kernel
theorem dX7_init_17 : decode cX7_init 17 = .ok (.putfield 15, 3) := by decide +kernel
theorem dX7_init_20 : decode cX7_init 20 = .ok (.aload_n 0, 1) := by decide +kernel
theorem dX7_init_21 : decode cX7_init 21 = .ok (.bipush 64, 2) := by decide +kernel
theorem dX7_init_23 : decode cX7_init 23 = .ok (.newarray .int, 2) := by decide +kernel
theorem dX7_init_25 : decode cX7_init 25 = .ok (.putfield 18, 3) := by decide +kernel
theorem dX7_init_28 : decode cX7_init 28 = .ok (.aload_n 0, 1) := by decide +kernel
theorem dX7_init_29 : decode cX7_init 29 = .ok (.bipush 6, 2) := by decide +kernel
theorem dX7_init_31 : decode cX7_init 31 = .ok (.newarray .int, 2) := by decide +kernel
theorem dX7_init_33 : decode cX7_init 33 = .ok (.putfield 21, 3) := by decide +kernel
theorem dX7_init_36 : decode cX7_init 36 = .ok (.aload_n 0, 1) := by decide +kernel
theorem dX7_init_37 : decode cX7_init 37 = .ok (.bipush 6, 2) := by decide +kernel
theorem dX7_init_39 : decode cX7_init 39 = .ok (.newarray .int, 2) := by decide +kernel
theorem dX7_init_41 : decode cX7_init 41 = .ok (.putfield 24, 3) := by decide +kernel
theorem dX7_init_44 : decode cX7_init 44 = .ok (.aload_n 0, 1) := by decide +kernel
theorem dX7_init_45 : decode cX7_init 45 = .ok (.bipush 42, 2) := by decide +kernel
theorem dX7_init_47 : decode cX7_init 47 = .ok (.newarray .int, 2) := by decide +kernel
theorem dX7_init_49 : decode cX7_init 49 = .ok (.putfield 27, 3) := by decide +kernel
theorem dX7_init_52 : decode cX7_init 52 = .ok (.aload_n 0, 1) := by decide +kernel
theorem dX7_init_53 : decode cX7_init 53 = .ok (.sipush 384, 3) := by decide +kernel
theorem dX7_init_56 : decode cX7_init 56 = .ok (.newarray .int, 2) := by decide +kernel
theorem dX7_init_58 : decode cX7_init 58 = .ok (.putfield 30, 3) := by decide +kernel
theorem dX7_init_61 : decode cX7_init 61 = .ok (.return_, 1) := by decide +kernel
theorem dX7_learnAlike_0 : decode cX7_learnAlike 0 = .ok (.iconst 0, 1) := by decide +kernel
theorem dX7_learnAlike_1 : decode cX7_learnAlike 1 = .ok (.istore_n 2, 1) := by decide +kernel
theorem dX7_learnAlike_2 : decode cX7_learnAlike 2 = .ok (.iload_n 2, 1) := by decide +kernel
theorem dX7_learnAlike_3 : decode cX7_learnAlike 3 = .ok (.bipush 8, 2) := by decide +kernel
theorem dX7_learnAlike_5 : decode cX7_learnAlike 5 = .ok (.if_icmp .ge 118, 3) := by decide +kernel
theorem dX7_learnAlike_8 : decode cX7_learnAlike 8 = .ok (.iconst 0, 1) := by decide +kernel
theorem dX7_learnAlike_9 : decode cX7_learnAlike 9 = .ok (.istore_n 3, 1) := by decide +kernel
theorem dX7_learnAlike_10 : decode cX7_learnAlike 10 = .ok (.iload_n 3, 1) := by decide +kernel
theorem dX7_learnAlike_11 : decode cX7_learnAlike 11 = .ok (.aload_n 1, 1) := by decide +kernel
theorem dX7_learnAlike_12 : decode cX7_learnAlike 12 = .ok (.getfield 33, 3) := by decide +kernel
theorem dX7_learnAlike_15 : decode cX7_learnAlike 15 = .ok (.if_icmp .ge 102, 3) := by decide +kernel
theorem dX7_learnAlike_18 : decode cX7_learnAlike 18 = .ok (.aload_n 0, 1) := by decide +kernel
theorem dX7_learnAlike_19 : decode cX7_learnAlike 19 = .ok (.getfield 9, 3) := by decide +kernel
theorem dX7_learnAlike_22 : decode cX7_learnAlike 22 = .ok (.iload_n 2, 1) := by decide +kernel
theorem dX7_learnAlike_23 : decode cX7_learnAlike 23 = .ok (.bipush 6, 2) := by decide +kernel
theorem dX7_learnAlike_25 : decode cX7_learnAlike 25 = .ok (.imul, 1) := by decide +kernel
theorem dX7_learnAlike_26 : decode cX7_learnAlike 26 = .ok (.iload_n 3, 1) := by decide +kernel
theorem dX7_learnAlike_27 : decode cX7_learnAlike 27 = .ok (.iadd, 1) := by decide +kernel
theorem dX7_learnAlike_28 : decode cX7_learnAlike 28 = .ok (.iconst 1, 1) := by decide +kernel
theorem dX7_learnAlike_29 : decode cX7_learnAlike 29 = .ok (.iload_n 3, 1) := by decide +kernel
theorem dX7_learnAlike_30 : decode cX7_learnAlike 30 = .ok (.ishl, 1) := by decide +kernel
theorem dX7_learnAlike_31 : decode cX7_learnAlike 31 = .ok (.iastore, 1) := by decide +kernel
theorem dX7_learnAlike_32 : decode cX7_learnAlike 32 = .ok (.aload_n 0, 1) := by decide +kernel
theorem dX7_learnAlike_33 : decode cX7_learnAlike 33 = .ok (.getfield 21, 3) := by decide +kernel
theorem dX7_learnAlike_36 : decode cX7_learnAlike 36 = .ok (.iload_n 3, 1) := by decide +kernel
theorem dX7_learnAlike_37 : decode cX7_learnAlike 37 = .ok (.aload_n 1, 1) := by decide +kernel
theorem dX7_learnAlike_38 : decode cX7_learnAlike 38 = .ok (.iload_n 2, 1) := by decide +kernel
theorem dX7_learnAlike_39 : decode cX7_learnAlike 39 = .ok (.iload_n 3, 1) := by decide +kernel
theorem dX7_learnAlike_40 : decode cX7_learnAlike 40 = .ok (.invokevirtual 39, 3) := by decide +kernel
theorem dX7_learnAlike_43 : decode cX7_learnAlike 43 = .ok (.iastore, 1) := by decide +kernel
theorem dX7_learnAlike_44 : decode cX7_learnAlike 44 = .ok (.iconst 0, 1) := by decide +kernel
theorem dX7_learnAlike_45 : decode cX7_learnAlike 45 = .ok (.istore 4, 2) := by decide +kernel
theorem dX7_learnAlike_47 : decode cX7_learnAlike 47 = .ok (.iload 4, 2) := by decide +kernel
theorem dX7_learnAlike_49 : decode cX7_learnAlike 49 = .ok (.iload_n 3, 1) := by decide +kernel
theorem dX7_learnAlike_50 : decode cX7_learnAlike 50 = .ok (.if_icmp .ge 61, 3) := by decide +kernel
theorem dX7_learnAlike_53 : decode cX7_learnAlike 53 = .ok (.aload_n 0, 1) := by decide +kernel
theorem dX7_learnAlike_54 : decode cX7_learnAlike 54 = .ok (.getfield 21, 3) := by decide +kernel
theorem dX7_learnAlike_57 : decode cX7_learnAlike 57 = .ok (.iload 4, 2) := by decide +kernel
theorem dX7_learnAlike_59 : decode cX7_learnAlike 59 = .ok (.iaload, 1) := by decide +kernel
theorem dX7_learnAlike_60 : decode cX7_learnAlike 60 = .ok (.aload_n 0, 1) := by decide +kernel
theorem dX7_learnAlike_61 : decode cX7_learnAlike 61 = .ok (.getfield 21, 3) := by decide +kernel
theorem dX7_learnAlike_64 : decode cX7_learnAlike 64 = .ok (.iload_n 3, 1) := by decide +kernel
theorem dX7_learnAlike_65 : decode cX7_learnAlike 65 = .ok (.iaload, 1) := by decide +kernel
theorem dX7_learnAlike_66 : decode cX7_learnAlike 66 = .ok (.if_icmp .ne 39, 3) := by decide +kernel
theorem dX7_learnAlike_69 : decode cX7_learnAlike 69 = .ok (.aload_n 0, 1) := by decide +kernel
theorem dX7_learnAlike_70 : decode cX7_learnAlike 70 = .ok (.getfield 9, 3) := by decide +kernel
theorem dX7_learnAlike_73 : decode cX7_learnAlike 73 = .ok (.iload_n 2, 1) := by decide +kernel
theorem dX7_learnAlike_74 : decode cX7_learnAlike 74 = .ok (.bipush 6, 2) := by decide +kernel
theorem dX7_learnAlike_76 : decode cX7_learnAlike 76 = .ok (.imul, 1) := by decide +kernel
theorem dX7_learnAlike_77 : decode cX7_learnAlike 77 = .ok (.iload_n 3, 1) := by decide +kernel
theorem dX7_learnAlike_78 : decode cX7_learnAlike 78 = .ok (.iadd, 1) := by decide +kernel
theorem dX7_learnAlike_79 : decode cX7_learnAlike 79 = .ok (.dup2, 1) := by decide +kernel
theorem dX7_learnAlike_80 : decode cX7_learnAlike 80 = .ok (.iaload, 1) := by decide +kernel
theorem dX7_learnAlike_81 : decode cX7_learnAlike 81 = .ok (.iconst 1, 1) := by decide +kernel
theorem dX7_learnAlike_82 : decode cX7_learnAlike 82 = .ok (.iload 4, 2) := by decide +kernel
theorem dX7_learnAlike_84 : decode cX7_learnAlike 84 = .ok (.ishl, 1) := by decide +kernel
theorem dX7_learnAlike_85 : decode cX7_learnAlike 85 = .ok (.ior, 1) := by decide +kernel
theorem dX7_learnAlike_86 : decode cX7_learnAlike 86 = .ok (.iastore, 1) := by decide +kernel
theorem dX7_learnAlike_87 : decode cX7_learnAlike 87 = .ok (.aload_n 0, 1) := by decide +kernel
theorem dX7_learnAlike_88 : decode cX7_learnAlike 88 = .ok (.getfield 9, 3) := by decide +kernel
theorem dX7_learnAlike_91 : decode cX7_learnAlike 91 = .ok (.iload_n 2, 1) := by decide +kernel
theorem dX7_learnAlike_92 : decode cX7_learnAlike 92 = .ok (.bipush 6, 2) := by decide +kernel
theorem dX7_learnAlike_94 : decode cX7_learnAlike 94 = .ok (.imul, 1) := by decide +kernel
theorem dX7_learnAlike_95 : decode cX7_learnAlike 95 = .ok (.iload 4, 2) := by decide +kernel
theorem dX7_learnAlike_97 : decode cX7_learnAlike 97 = .ok (.iadd, 1) := by decide +kernel
theorem dX7_learnAlike_98 : decode cX7_learnAlike 98 = .ok (.dup2, 1) := by decide +kernel
theorem dX7_learnAlike_99 : decode cX7_learnAlike 99 = .ok (.iaload, 1) := by decide +kernel
theorem dX7_learnAlike_100 : decode cX7_learnAlike 100 = .ok (.iconst 1, 1) := by decide +kernel
theorem dX7_learnAlike_101 : decode cX7_learnAlike 101 = .ok (.iload_n 3, 1) := by decide +kernel
theorem dX7_learnAlike_102 : decode cX7_learnAlike 102 = .ok (.ishl, 1) := by decide +kernel
theorem dX7_learnAlike_103 : decode cX7_learnAlike 103 = .ok (.ior, 1) := by decide +kernel
theorem dX7_learnAlike_104 : decode cX7_learnAlike 104 = .ok (.iastore, 1) := by decide +kernel
theorem dX7_learnAlike_105 : decode cX7_learnAlike 105 = .ok (.iinc 4 1, 3) := by decide +kernel
theorem dX7_learnAlike_108 : decode cX7_learnAlike 108 = .ok (.goto (-61), 3) := by decide +kernel
theorem dX7_learnAlike_111 : decode cX7_learnAlike 111 = .ok (.iinc 3 1, 3) := by decide +kernel
theorem dX7_learnAlike_114 : decode cX7_learnAlike 114 = .ok (.goto (-104), 3) := by decide +kernel
theorem dX7_learnAlike_117 : decode cX7_learnAlike 117 = .ok (.iinc 2 1, 3) := by decide +kernel
theorem dX7_learnAlike_120 : decode cX7_learnAlike 120 = .ok (.goto (-118), 3) := by decide +kernel
theorem dX7_learnAlike_123 : decode cX7_learnAlike 123 = .ok (.return_, 1) := by decide +kernel
theorem dX7_settleAll_0 : decode cX7_settleAll 0 = .ok (.iconst 1, 1) := by decide +kernel
theorem dX7_settleAll_1 : decode cX7_settleAll 1 = .ok (.istore_n 2, 1) := by decide +kernel
theorem dX7_settleAll_2 : decode cX7_settleAll 2 = .ok (.iload_n 2, 1) := by decide +kernel
theorem dX7_settleAll_3 : decode cX7_settleAll 3 = .ok (.iload_n 1, 1) := by decide +kernel
theorem dX7_settleAll_4 : decode cX7_settleAll 4 = .ok (.if_icmp .gt 31, 3) := by decide +kernel
theorem dX7_settleAll_7 : decode cX7_settleAll 7 = .ok (.iload_n 2, 1) := by decide +kernel
theorem dX7_settleAll_8 : decode cX7_settleAll 8 = .ok (.aload_n 0, 1) := by decide +kernel
theorem dX7_settleAll_9 : decode cX7_settleAll 9 = .ok (.getfield 15, 3) := by decide +kernel
theorem dX7_settleAll_12 : decode cX7_settleAll 12 = .ok (.arraylength, 1) := by decide +kernel
theorem dX7_settleAll_13 : decode cX7_settleAll 13 = .ok (.if_icmp .ge 22, 3) := by decide +kernel
theorem dX7_settleAll_16 : decode cX7_settleAll 16 = .ok (.iload_n 2, 1) := by decide +kernel
theorem dX7_settleAll_17 : decode cX7_settleAll 17 = .ok (.iload_n 1, 1) := by decide +kernel
theorem dX7_settleAll_18 : decode cX7_settleAll 18 = .ok (.iconst (-1), 1) := by decide +kernel
theorem dX7_settleAll_19 : decode cX7_settleAll 19 = .ok (.ixor, 1) := by decide +kernel
theorem dX7_settleAll_20 : decode cX7_settleAll 20 = .ok (.iand, 1) := by decide +kernel
theorem dX7_settleAll_21 : decode cX7_settleAll 21 = .ok (.ifCond .ne 8, 3) := by decide +kernel
theorem dX7_settleAll_24 : decode cX7_settleAll 24 = .ok (.aload_n 0, 1) := by decide +kernel
theorem dX7_settleAll_25 : decode cX7_settleAll 25 = .ok (.iload_n 2, 1) := by decide +kernel
theorem dX7_settleAll_26 : decode cX7_settleAll 26 = .ok (.invokevirtual 43, 3) := by decide +kernel
theorem dX7_settleAll_29 : decode cX7_settleAll 29 = .ok (.iinc 2 1, 3) := by decide +kernel
theorem dX7_settleAll_32 : decode cX7_settleAll 32 = .ok (.goto (-30), 3) := by decide +kernel
theorem dX7_settleAll_35 : decode cX7_settleAll 35 = .ok (.return_, 1) := by decide +kernel
theorem dX7_settle_0 : decode cX7_settle 0 = .ok (.aload_n 0, 1) := by decide +kernel
theorem dX7_settle_1 : decode cX7_settle 1 = .ok (.getfield 18, 3) := by decide +kernel
theorem dX7_settle_4 : decode cX7_settle 4 = .ok (.iload_n 1, 1) := by decide +kernel
theorem dX7_settle_5 : decode cX7_settle 5 = .ok (.iconst 0, 1) := by decide +kernel
theorem dX7_settle_6 : decode cX7_settle 6 = .ok (.iastore, 1) := by decide +kernel
theorem dX7_settle_7 : decode cX7_settle 7 = .ok (.iload_n 1, 1) := by decide +kernel
theorem dX7_settle_8 : decode cX7_settle 8 = .ok (.invokestatic 47, 3) := by decide +kernel
theorem dX7_settle_11 : decode cX7_settle 11 = .ok (.iconst 1, 1) := by decide +kernel
theorem dX7_settle_12 : decode cX7_settle 12 = .ok (.if_icmp .ne 11, 3) := by decide +kernel
theorem dX7_settle_15 : decode cX7_settle 15 = .ok (.aload_n 0, 1) := by decide +kernel
theorem dX7_settle_16 : decode cX7_settle 16 = .ok (.getfield 15, 3) := by decide +kernel
theorem dX7_settle_19 : decode cX7_settle 19 = .ok (.iload_n 1, 1) := by decide +kernel
theorem dX7_settle_20 : decode cX7_settle 20 = .ok (.iconst 0, 1) := by decide +kernel
theorem dX7_settle_21 : decode cX7_settle 21 = .ok (.iastore, 1) := by decide +kernel
theorem dX7_settle_22 : decode cX7_settle 22 = .ok (.return_, 1) := by decide +kernel
theorem dX7_settle_23 : decode cX7_settle 23 = .ok (.aload_n 0, 1) := by decide +kernel
theorem dX7_settle_24 : decode cX7_settle 24 = .ok (.getfield 15, 3) := by decide +kernel
theorem dX7_settle_27 : decode cX7_settle 27 = .ok (.iload_n 1, 1) := by decide +kernel
theorem dX7_settle_28 : decode cX7_settle 28 = .ok (.bipush 100, 2) := by decide +kernel
theorem dX7_settle_30 : decode cX7_settle 30 = .ok (.iastore, 1) := by decide +kernel
theorem dX7_settle_31 : decode cX7_settle 31 = .ok (.iconst 0, 1) := by decide +kernel
theorem dX7_settle_32 : decode cX7_settle 32 = .ok (.istore_n 2, 1) := by decide +kernel
theorem dX7_settle_33 : decode cX7_settle 33 = .ok (.iload_n 2, 1) := by decide +kernel
theorem dX7_settle_34 : decode cX7_settle 34 = .ok (.bipush 8, 2) := by decide +kernel
theorem dX7_settle_36 : decode cX7_settle 36 = .ok (.if_icmp .ge 42, 3) := by decide +kernel
theorem dX7_settle_39 : decode cX7_settle 39 = .ok (.iconst 1, 1) := by decide +kernel
theorem dX7_settle_40 : decode cX7_settle 40 = .ok (.aload_n 0, 1) := by decide +kernel
theorem dX7_settle_41 : decode cX7_settle 41 = .ok (.iload_n 1, 1) := by decide +kernel
theorem dX7_settle_42 : decode cX7_settle 42 = .ok (.iload_n 2, 1) := by decide +kernel
theorem dX7_settle_43 : decode cX7_settle 43 = .ok (.invokevirtual 53, 3) := by decide +kernel
theorem dX7_settle_46 : decode cX7_settle 46 = .ok (.iadd, 1) := by decide +kernel
theorem dX7_settle_47 : decode cX7_settle 47 = .ok (.istore_n 3, 1) := by decide +kernel
theorem dX7_settle_48 : decode cX7_settle 48 = .ok (.iload_n 3, 1) := by decide +kernel
theorem dX7_settle_49 : decode cX7_settle 49 = .ok (.aload_n 0, 1) := by decide +kernel
theorem dX7_settle_50 : decode cX7_settle 50 = .ok (.getfield 15, 3) := by decide +kernel
theorem dX7_settle_53 : decode cX7_settle 53 = .ok (.iload_n 1, 1) := by decide +kernel
theorem dX7_settle_54 : decode cX7_settle 54 = .ok (.iaload, 1) := by decide +kernel
theorem dX7_settle_55 : decode cX7_settle 55 = .ok (.if_icmp .ge 17, 3) := by decide +kernel
theorem dX7_settle_58 : decode cX7_settle 58 = .ok (.aload_n 0, 1) := by decide +kernel
theorem dX7_settle_59 : decode cX7_settle 59 = .ok (.getfield 15, 3) := by decide +kernel
theorem dX7_settle_62 : decode cX7_settle 62 = .ok (.iload_n 1, 1) := by decide +kernel
theorem dX7_settle_63 : decode cX7_settle 63 = .ok (.iload_n 3, 1) := by decide +kernel
theorem dX7_settle_64 : decode cX7_settle 64 = .ok (.iastore, 1) := by decide +kernel
theorem dX7_settle_65 : decode cX7_settle 65 = .ok (.aload_n 0, 1) := by decide +kernel
theorem dX7_settle_66 : decode cX7_settle 66 = .ok (.getfield 18, 3) := by decide +kernel
theorem dX7_settle_69 : decode cX7_settle 69 = .ok (.iload_n 1, 1) := by decide +kernel
theorem dX7_settle_70 : decode cX7_settle 70 = .ok (.iload_n 2, 1) := by decide +kernel
theorem dX7_settle_71 : decode cX7_settle 71 = .ok (.iastore, 1) := by decide +kernel
theorem dX7_settle_72 : decode cX7_settle 72 = .ok (.iinc 2 1, 3) := by decide +kernel
theorem dX7_settle_75 : decode cX7_settle 75 = .ok (.goto (-42), 3) := by decide +kernel
theorem dX7_settle_78 : decode cX7_settle 78 = .ok (.return_, 1) := by decide +kernel
theorem dX7_worstPart_0 : decode cX7_worstPart 0 = .ok (.iconst 0, 1) := by decide +kernel
theorem dX7_worstPart_1 : decode cX7_worstPart 1 = .ok (.istore_n 3, 1) := by decide +kernel
theorem dX7_worstPart_2 : decode cX7_worstPart 2 = .ok (.iconst 0, 1) := by decide +kernel
theorem dX7_worstPart_3 : decode cX7_worstPart 3 = .ok (.istore 4, 2) := by decide +kernel
theorem dX7_worstPart_5 : decode cX7_worstPart 5 = .ok (.iload 4, 2) := by decide +kernel
theorem dX7_worstPart_7 : decode cX7_worstPart 7 = .ok (.bipush 6, 2) := by decide +kernel
theorem dX7_worstPart_9 : decode cX7_worstPart 9 = .ok (.if_icmp .ge 55, 3) := by decide +kernel
theorem dX7_worstPart_12 : decode cX7_worstPart 12 = .ok (.iload_n 1, 1) := by decide +kernel
theorem dX7_worstPart_13 : decode cX7_worstPart 13 = .ok (.iload 4, 2) := by decide +kernel
theorem dX7_worstPart_15 : decode cX7_worstPart 15 = .ok (.invokestatic 56, 3) := by decide +kernel
theorem dX7_worstPart_18 : decode cX7_worstPart 18 = .ok (.ifCond .eq 40, 3) := by decide +kernel
theorem dX7_worstPart_21 : decode cX7_worstPart 21 = .ok (.iload_n 1, 1) := by decide +kernel
theorem dX7_worstPart_22 : decode cX7_worstPart 22 = .ok (.aload_n 0, 1) := by decide +kernel
theorem dX7_worstPart_23 : decode cX7_worstPart 23 = .ok (.getfield 9, 3) := by decide +kernel
theorem dX7_worstPart_26 : decode cX7_worstPart 26 = .ok (.iload_n 2, 1) := by decide +kernel
theorem dX7_worstPart_27 : decode cX7_worstPart 27 = .ok (.bipush 6, 2) := by decide +kernel
theorem dX7_worstPart_29 : decode cX7_worstPart 29 = .ok (.imul, 1) := by decide +kernel
theorem dX7_worstPart_30 : decode cX7_worstPart 30 = .ok (.iload 4, 2) := by decide +kernel
theorem dX7_worstPart_32 : decode cX7_worstPart 32 = .ok (.iadd, 1) := by decide +kernel
theorem dX7_worstPart_33 : decode cX7_worstPart 33 = .ok (.iaload, 1) := by decide +kernel
theorem dX7_worstPart_34 : decode cX7_worstPart 34 = .ok (.iand, 1) := by decide +kernel
theorem dX7_worstPart_35 : decode cX7_worstPart 35 = .ok (.istore 5, 2) := by decide +kernel
theorem dX7_worstPart_37 : decode cX7_worstPart 37 = .ok (.iload 5, 2) := by decide +kernel
theorem dX7_worstPart_39 : decode cX7_worstPart 39 = .ok (.iload_n 1, 1) := by decide +kernel
theorem dX7_worstPart_40 : decode cX7_worstPart 40 = .ok (.if_icmp .ne 6, 3) := by decide +kernel
theorem dX7_worstPart_43 : decode cX7_worstPart 43 = .ok (.bipush 100, 2) := by decide +kernel
theorem dX7_worstPart_45 : decode cX7_worstPart 45 = .ok (.ireturn, 1) := by decide +kernel
theorem dX7_worstPart_46 : decode cX7_worstPart 46 = .ok (.iload_n 3, 1) := by decide +kernel
theorem dX7_worstPart_47 : decode cX7_worstPart 47 = .ok (.aload_n 0, 1) := by decide +kernel
theorem dX7_worstPart_48 : decode cX7_worstPart 48 = .ok (.getfield 15, 3) := by decide +kernel
theorem dX7_worstPart_51 : decode cX7_worstPart 51 = .ok (.iload 5, 2) := by decide +kernel
theorem dX7_worstPart_53 : decode cX7_worstPart 53 = .ok (.iaload, 1) := by decide +kernel
theorem dX7_worstPart_54 : decode cX7_worstPart 54 = .ok (.invokestatic 60, 3) := by decide +kernel
end
section
theorem dX7_worstPart_57 : decode cX7_worstPart 57 = .ok (.istore_n 3, 1) := by decide +kernel
theorem dX7_worstPart_58 : decode cX7_worstPart 58 = .ok (.iinc 4 1, 3) := by decide +kernel
theorem dX7_worstPart_61 : decode cX7_worstPart 61 = .ok (.goto (-56), 3) := by decide +kernel
theorem dX7_worstPart_64 : decode cX7_worstPart 64 = .ok (.iload_n 3, 1) := by decide +kernel
theorem dX7_worstPart_65 : decode cX7_worstPart 65 = .ok (.ireturn, 1) := by decide +kernel
theorem dX7_roomOfSmallestGroups_0 : decode cX7_roomOfSmallestGroups 0 = .ok (.iconst 0, 1) := by decide +kernel
theorem dX7_roomOfSmallestGroups_1 : decode cX7_roomOfSmallestGroups 1 = .ok (.istore_n 2, 1) := by decide +kernel
theorem dX7_roomOfSmallestGroups_2 : decode cX7_roomOfSmallestGroups 2 = .ok (.aload_n 0, 1) := by decide +kernel
theorem dX7_roomOfSmallestGroups_3 : decode cX7_roomOfSmallestGroups 3 = .ok (.iload_n 1, 1) := by decide +kernel
theorem dX7_roomOfSmallestGroups_4 : decode cX7_roomOfSmallestGroups 4 = .ok (.iconst 0, 1) := by decide +kernel
theorem dX7_roomOfSmallestGroups_5 : decode cX7_roomOfSmallestGroups 5 = .ok (.invokevirtual 65, 3) := by decide +kernel
theorem dX7_roomOfSmallestGroups_8 : decode cX7_roomOfSmallestGroups 8 = .ok (.istore_n 3, 1) := by decide +kernel
theorem dX7_roomOfSmallestGroups_9 : decode cX7_roomOfSmallestGroups 9 = .ok (.iconst 1, 1) := by decide +kernel
theorem dX7_roomOfSmallestGroups_10 : decode cX7_roomOfSmallestGroups 10 = .ok (.istore 4, 2) := by decide +kernel
theorem dX7_roomOfSmallestGroups_12 : decode cX7_roomOfSmallestGroups 12 = .ok (.iload 4, 2) := by decide +kernel
theorem dX7_roomOfSmallestGroups_14 : decode cX7_roomOfSmallestGroups 14 = .ok (.bipush 8, 2) := by decide +kernel
theorem dX7_roomOfSmallestGroups_16 : decode cX7_roomOfSmallestGroups 16 = .ok (.if_icmp .ge 30, 3) := by decide +kernel
theorem dX7_roomOfSmallestGroups_19 : decode cX7_roomOfSmallestGroups 19 = .ok (.aload_n 0, 1) := by decide +kernel
theorem dX7_roomOfSmallestGroups_20 : decode cX7_roomOfSmallestGroups 20 = .ok (.iload_n 1, 1) := by decide +kernel
theorem dX7_roomOfSmallestGroups_21 : decode cX7_roomOfSmallestGroups 21 = .ok (.iload 4, 2) := by decide +kernel
theorem dX7_roomOfSmallestGroups_23 : decode cX7_roomOfSmallestGroups 23 = .ok (.invokevirtual 65, 3) := by decide +kernel
theorem dX7_roomOfSmallestGroups_26 : decode cX7_roomOfSmallestGroups 26 = .ok (.istore 5, 2) := by decide +kernel
theorem dX7_roomOfSmallestGroups_28 : decode cX7_roomOfSmallestGroups 28 = .ok (.iload 5, 2) := by decide +kernel
theorem dX7_roomOfSmallestGroups_30 : decode cX7_roomOfSmallestGroups 30 = .ok (.iload_n 3, 1) := by decide +kernel
theorem dX7_roomOfSmallestGroups_31 : decode cX7_roomOfSmallestGroups 31 = .ok (.if_icmp .ge 9, 3) := by decide +kernel
theorem dX7_roomOfSmallestGroups_34 : decode cX7_roomOfSmallestGroups 34 = .ok (.iload 4, 2) := by decide +kernel
theorem dX7_roomOfSmallestGroups_36 : decode cX7_roomOfSmallestGroups 36 = .ok (.istore_n 2, 1) := by decide +kernel
theorem dX7_roomOfSmallestGroups_37 : decode cX7_roomOfSmallestGroups 37 = .ok (.iload 5, 2) := by decide +kernel
theorem dX7_roomOfSmallestGroups_39 : decode cX7_roomOfSmallestGroups 39 = .ok (.istore_n 3, 1) := by decide +kernel
theorem dX7_roomOfSmallestGroups_40 : decode cX7_roomOfSmallestGroups 40 = .ok (.iinc 4 1, 3) := by decide +kernel
theorem dX7_roomOfSmallestGroups_43 : decode cX7_roomOfSmallestGroups 43 = .ok (.goto (-31), 3) := by decide +kernel
theorem dX7_roomOfSmallestGroups_46 : decode cX7_roomOfSmallestGroups 46 = .ok (.iload_n 2, 1) := by decide +kernel
theorem dX7_roomOfSmallestGroups_47 : decode cX7_roomOfSmallestGroups 47 = .ok (.ireturn, 1) := by decide +kernel
theorem dX7_greatestGroup_0 : decode cX7_greatestGroup 0 = .ok (.iconst 0, 1) := by decide +kernel
theorem dX7_greatestGroup_1 : decode cX7_greatestGroup 1 = .ok (.istore_n 3, 1) := by decide +kernel
theorem dX7_greatestGroup_2 : decode cX7_greatestGroup 2 = .ok (.iconst 0, 1) := by decide +kernel
theorem dX7_greatestGroup_3 : decode cX7_greatestGroup 3 = .ok (.istore 4, 2) := by decide +kernel
theorem dX7_greatestGroup_5 : decode cX7_greatestGroup 5 = .ok (.iload 4, 2) := by decide +kernel
theorem dX7_greatestGroup_7 : decode cX7_greatestGroup 7 = .ok (.bipush 6, 2) := by decide +kernel
theorem dX7_greatestGroup_9 : decode cX7_greatestGroup 9 = .ok (.if_icmp .ge 40, 3) := by decide +kernel
theorem dX7_greatestGroup_12 : decode cX7_greatestGroup 12 = .ok (.iload_n 1, 1) := by decide +kernel
theorem dX7_greatestGroup_13 : decode cX7_greatestGroup 13 = .ok (.iload 4, 2) := by decide +kernel
theorem dX7_greatestGroup_15 : decode cX7_greatestGroup 15 = .ok (.invokestatic 56, 3) := by decide +kernel
theorem dX7_greatestGroup_18 : decode cX7_greatestGroup 18 = .ok (.ifCond .eq 25, 3) := by decide +kernel
theorem dX7_greatestGroup_21 : decode cX7_greatestGroup 21 = .ok (.iload_n 3, 1) := by decide +kernel
theorem dX7_greatestGroup_22 : decode cX7_greatestGroup 22 = .ok (.iload_n 1, 1) := by decide +kernel
theorem dX7_greatestGroup_23 : decode cX7_greatestGroup 23 = .ok (.aload_n 0, 1) := by decide +kernel
theorem dX7_greatestGroup_24 : decode cX7_greatestGroup 24 = .ok (.getfield 9, 3) := by decide +kernel
theorem dX7_greatestGroup_27 : decode cX7_greatestGroup 27 = .ok (.iload_n 2, 1) := by decide +kernel
theorem dX7_greatestGroup_28 : decode cX7_greatestGroup 28 = .ok (.bipush 6, 2) := by decide +kernel
theorem dX7_greatestGroup_30 : decode cX7_greatestGroup 30 = .ok (.imul, 1) := by decide +kernel
theorem dX7_greatestGroup_31 : decode cX7_greatestGroup 31 = .ok (.iload 4, 2) := by decide +kernel
theorem dX7_greatestGroup_33 : decode cX7_greatestGroup 33 = .ok (.iadd, 1) := by decide +kernel
theorem dX7_greatestGroup_34 : decode cX7_greatestGroup 34 = .ok (.iaload, 1) := by decide +kernel
theorem dX7_greatestGroup_35 : decode cX7_greatestGroup 35 = .ok (.iand, 1) := by decide +kernel
theorem dX7_greatestGroup_36 : decode cX7_greatestGroup 36 = .ok (.invokestatic 47, 3) := by decide +kernel
theorem dX7_greatestGroup_39 : decode cX7_greatestGroup 39 = .ok (.invokestatic 60, 3) := by decide +kernel
theorem dX7_greatestGroup_42 : decode cX7_greatestGroup 42 = .ok (.istore_n 3, 1) := by decide +kernel
theorem dX7_greatestGroup_43 : decode cX7_greatestGroup 43 = .ok (.iinc 4 1, 3) := by decide +kernel
theorem dX7_greatestGroup_46 : decode cX7_greatestGroup 46 = .ok (.goto (-41), 3) := by decide +kernel
theorem dX7_greatestGroup_49 : decode cX7_greatestGroup 49 = .ok (.iload_n 3, 1) := by decide +kernel
theorem dX7_greatestGroup_50 : decode cX7_greatestGroup 50 = .ok (.ireturn, 1) := by decide +kernel
theorem dX7_findTargets_0 : decode cX7_findTargets 0 = .ok (.aload_n 0, 1) := by decide +kernel
theorem dX7_findTargets_1 : decode cX7_findTargets 1 = .ok (.iconst 0, 1) := by decide +kernel
theorem dX7_findTargets_2 : decode cX7_findTargets 2 = .ok (.putfield 68, 3) := by decide +kernel
theorem dX7_findTargets_5 : decode cX7_findTargets 5 = .ok (.iconst 0, 1) := by decide +kernel
theorem dX7_findTargets_6 : decode cX7_findTargets 6 = .ok (.istore_n 2, 1) := by decide +kernel
theorem dX7_findTargets_7 : decode cX7_findTargets 7 = .ok (.iload_n 2, 1) := by decide +kernel
theorem dX7_findTargets_8 : decode cX7_findTargets 8 = .ok (.aload_n 1, 1) := by decide +kernel
theorem dX7_findTargets_9 : decode cX7_findTargets 9 = .ok (.getfield 33, 3) := by decide +kernel
theorem dX7_findTargets_12 : decode cX7_findTargets 12 = .ok (.if_icmp .ge 91, 3) := by decide +kernel
theorem dX7_findTargets_15 : decode cX7_findTargets 15 = .ok (.aload_n 1, 1) := by decide +kernel
theorem dX7_findTargets_16 : decode cX7_findTargets 16 = .ok (.iload_n 2, 1) := by decide +kernel
theorem dX7_findTargets_17 : decode cX7_findTargets 17 = .ok (.invokevirtual 71, 3) := by decide +kernel
theorem dX7_findTargets_20 : decode cX7_findTargets 20 = .ok (.astore_n 3, 1) := by decide +kernel
theorem dX7_findTargets_21 : decode cX7_findTargets 21 = .ok (.aload_n 1, 1) := by decide +kernel
theorem dX7_findTargets_22 : decode cX7_findTargets 22 = .ok (.getfield 75, 3) := by decide +kernel
theorem dX7_findTargets_25 : decode cX7_findTargets 25 = .ok (.getfield 79, 3) := by decide +kernel
theorem dX7_findTargets_28 : decode cX7_findTargets 28 = .ok (.iload_n 2, 1) := by decide +kernel
theorem dX7_findTargets_29 : decode cX7_findTargets 29 = .ok (.invokestatic 56, 3) := by decide +kernel
theorem dX7_findTargets_32 : decode cX7_findTargets 32 = .ok (.ifCond .ne 14, 3) := by decide +kernel
theorem dX7_findTargets_35 : decode cX7_findTargets 35 = .ok (.aload_n 3, 1) := by decide +kernel
theorem dX7_findTargets_36 : decode cX7_findTargets 36 = .ok (.invokevirtual 84, 3) := by decide +kernel
theorem dX7_findTargets_39 : decode cX7_findTargets 39 = .ok (.ifCond .ne 7, 3) := by decide +kernel
theorem dX7_findTargets_42 : decode cX7_findTargets 42 = .ok (.iconst 1, 1) := by decide +kernel
theorem dX7_findTargets_43 : decode cX7_findTargets 43 = .ok (.goto 4, 3) := by decide +kernel
theorem dX7_findTargets_46 : decode cX7_findTargets 46 = .ok (.iconst 0, 1) := by decide +kernel
theorem dX7_findTargets_47 : decode cX7_findTargets 47 = .ok (.istore 4, 2) := by decide +kernel
theorem dX7_findTargets_49 : decode cX7_findTargets 49 = .ok (.iload 4, 2) := by decide +kernel
theorem dX7_findTargets_51 : decode cX7_findTargets 51 = .ok (.ifCond .eq 46, 3) := by decide +kernel
theorem dX7_findTargets_54 : decode cX7_findTargets 54 = .ok (.aload_n 3, 1) := by decide +kernel
theorem dX7_findTargets_55 : decode cX7_findTargets 55 = .ok (.aload_n 1, 1) := by decide +kernel
theorem dX7_findTargets_56 : decode cX7_findTargets 56 = .ok (.getfield 75, 3) := by decide +kernel
theorem dX7_findTargets_59 : decode cX7_findTargets 59 = .ok (.getfield 90, 3) := by decide +kernel
theorem dX7_findTargets_62 : decode cX7_findTargets 62 = .ok (.aload_n 1, 1) := by decide +kernel
theorem dX7_findTargets_63 : decode cX7_findTargets 63 = .ok (.getfield 75, 3) := by decide +kernel
theorem dX7_findTargets_66 : decode cX7_findTargets 66 = .ok (.getfield 93, 3) := by decide +kernel
theorem dX7_findTargets_69 : decode cX7_findTargets 69 = .ok (.iload_n 2, 1) := by decide +kernel
theorem dX7_findTargets_70 : decode cX7_findTargets 70 = .ok (.iaload, 1) := by decide +kernel
theorem dX7_findTargets_71 : decode cX7_findTargets 71 = .ok (.invokevirtual 96, 3) := by decide +kernel
theorem dX7_findTargets_74 : decode cX7_findTargets 74 = .ok (.ifCond .eq 23, 3) := by decide +kernel
theorem dX7_findTargets_77 : decode cX7_findTargets 77 = .ok (.aload_n 0, 1) := by decide +kernel
theorem dX7_findTargets_78 : decode cX7_findTargets 78 = .ok (.getfield 24, 3) := by decide +kernel
theorem dX7_findTargets_81 : decode cX7_findTargets 81 = .ok (.aload_n 0, 1) := by decide +kernel
theorem dX7_findTargets_82 : decode cX7_findTargets 82 = .ok (.getfield 68, 3) := by decide +kernel
theorem dX7_findTargets_85 : decode cX7_findTargets 85 = .ok (.iload_n 2, 1) := by decide +kernel
theorem dX7_findTargets_86 : decode cX7_findTargets 86 = .ok (.iastore, 1) := by decide +kernel
theorem dX7_findTargets_87 : decode cX7_findTargets 87 = .ok (.aload_n 0, 1) := by decide +kernel
theorem dX7_findTargets_88 : decode cX7_findTargets 88 = .ok (.dup, 1) := by decide +kernel
theorem dX7_findTargets_89 : decode cX7_findTargets 89 = .ok (.getfield 68, 3) := by decide +kernel
theorem dX7_findTargets_92 : decode cX7_findTargets 92 = .ok (.iconst 1, 1) := by decide +kernel
theorem dX7_findTargets_93 : decode cX7_findTargets 93 = .ok (.iadd, 1) := by decide +kernel
theorem dX7_findTargets_94 : decode cX7_findTargets 94 = .ok (.putfield 68, 3) := by decide +kernel
theorem dX7_findTargets_97 : decode cX7_findTargets 97 = .ok (.iinc 2 1, 3) := by decide +kernel
theorem dX7_findTargets_100 : decode cX7_findTargets 100 = .ok (.goto (-93), 3) := by decide +kernel
theorem dX7_findTargets_103 : decode cX7_findTargets 103 = .ok (.return_, 1) := by decide +kernel
theorem dX7_measureLegs_0 : decode cX7_measureLegs 0 = .ok (.iconst 0, 1) := by decide +kernel
theorem dX7_measureLegs_1 : decode cX7_measureLegs 1 = .ok (.istore_n 2, 1) := by decide +kernel
theorem dX7_measureLegs_2 : decode cX7_measureLegs 2 = .ok (.iload_n 2, 1) := by decide +kernel
theorem dX7_measureLegs_3 : decode cX7_measureLegs 3 = .ok (.aload_n 0, 1) := by decide +kernel
theorem dX7_measureLegs_4 : decode cX7_measureLegs 4 = .ok (.getfield 68, 3) := by decide +kernel
theorem dX7_measureLegs_7 : decode cX7_measureLegs 7 = .ok (.if_icmp .ge 89, 3) := by decide +kernel
theorem dX7_measureLegs_10 : decode cX7_measureLegs 10 = .ok (.aload_n 1, 1) := by decide +kernel
theorem dX7_measureLegs_11 : decode cX7_measureLegs 11 = .ok (.getfield 99, 3) := by decide +kernel
theorem dX7_measureLegs_14 : decode cX7_measureLegs 14 = .ok (.aload_n 0, 1) := by decide +kernel
theorem dX7_measureLegs_15 : decode cX7_measureLegs 15 = .ok (.getfield 24, 3) := by decide +kernel
theorem dX7_measureLegs_18 : decode cX7_measureLegs 18 = .ok (.iload_n 2, 1) := by decide +kernel
theorem dX7_measureLegs_19 : decode cX7_measureLegs 19 = .ok (.iaload, 1) := by decide +kernel
theorem dX7_measureLegs_20 : decode cX7_measureLegs 20 = .ok (.iaload, 1) := by decide +kernel
theorem dX7_measureLegs_21 : decode cX7_measureLegs 21 = .ok (.istore_n 3, 1) := by decide +kernel
theorem dX7_measureLegs_22 : decode cX7_measureLegs 22 = .ok (.aload_n 0, 1) := by decide +kernel
theorem dX7_measureLegs_23 : decode cX7_measureLegs 23 = .ok (.getfield 27, 3) := by decide +kernel
theorem dX7_measureLegs_26 : decode cX7_measureLegs 26 = .ok (.bipush 36, 2) := by decide +kernel
theorem dX7_measureLegs_28 : decode cX7_measureLegs 28 = .ok (.iload_n 2, 1) := by decide +kernel
theorem dX7_measureLegs_29 : decode cX7_measureLegs 29 = .ok (.iadd, 1) := by decide +kernel
theorem dX7_measureLegs_30 : decode cX7_measureLegs 30 = .ok (.aload_n 1, 1) := by decide +kernel
theorem dX7_measureLegs_31 : decode cX7_measureLegs 31 = .ok (.aload_n 1, 1) := by decide +kernel
theorem dX7_measureLegs_32 : decode cX7_measureLegs 32 = .ok (.getfield 75, 3) := by decide +kernel
theorem dX7_measureLegs_35 : decode cX7_measureLegs 35 = .ok (.getfield 102, 3) := by decide +kernel
theorem dX7_measureLegs_38 : decode cX7_measureLegs 38 = .ok (.iload_n 3, 1) := by decide +kernel
theorem dX7_measureLegs_39 : decode cX7_measureLegs 39 = .ok (.invokevirtual 105, 3) := by decide +kernel
theorem dX7_measureLegs_42 : decode cX7_measureLegs 42 = .ok (.iastore, 1) := by decide +kernel
theorem dX7_measureLegs_43 : decode cX7_measureLegs 43 = .ok (.iconst 0, 1) := by decide +kernel
theorem dX7_measureLegs_44 : decode cX7_measureLegs 44 = .ok (.istore 4, 2) := by decide +kernel
theorem dX7_measureLegs_46 : decode cX7_measureLegs 46 = .ok (.iload 4, 2) := by decide +kernel
theorem dX7_measureLegs_48 : decode cX7_measureLegs 48 = .ok (.aload_n 0, 1) := by decide +kernel
theorem dX7_measureLegs_49 : decode cX7_measureLegs 49 = .ok (.getfield 68, 3) := by decide +kernel
theorem dX7_measureLegs_52 : decode cX7_measureLegs 52 = .ok (.if_icmp .ge 38, 3) := by decide +kernel
theorem dX7_measureLegs_55 : decode cX7_measureLegs 55 = .ok (.aload_n 0, 1) := by decide +kernel
theorem dX7_measureLegs_56 : decode cX7_measureLegs 56 = .ok (.getfield 27, 3) := by decide +kernel
theorem dX7_measureLegs_59 : decode cX7_measureLegs 59 = .ok (.iload 4, 2) := by decide +kernel
theorem dX7_measureLegs_61 : decode cX7_measureLegs 61 = .ok (.bipush 6, 2) := by decide +kernel
theorem dX7_measureLegs_63 : decode cX7_measureLegs 63 = .ok (.imul, 1) := by decide +kernel
theorem dX7_measureLegs_64 : decode cX7_measureLegs 64 = .ok (.iload_n 2, 1) := by decide +kernel
theorem dX7_measureLegs_65 : decode cX7_measureLegs 65 = .ok (.iadd, 1) := by decide +kernel
theorem dX7_measureLegs_66 : decode cX7_measureLegs 66 = .ok (.aload_n 1, 1) := by decide +kernel
theorem dX7_measureLegs_67 : decode cX7_measureLegs 67 = .ok (.aload_n 1, 1) := by decide +kernel
theorem dX7_measureLegs_68 : decode cX7_measureLegs 68 = .ok (.getfield 99, 3) := by decide +kernel
theorem dX7_measureLegs_71 : decode cX7_measureLegs 71 = .ok (.aload_n 0, 1) := by decide +kernel
theorem dX7_measureLegs_72 : decode cX7_measureLegs 72 = .ok (.getfield 24, 3) := by decide +kernel
theorem dX7_measureLegs_75 : decode cX7_measureLegs 75 = .ok (.iload 4, 2) := by decide +kernel
theorem dX7_measureLegs_77 : decode cX7_measureLegs 77 = .ok (.iaload, 1) := by decide +kernel
theorem dX7_measureLegs_78 : decode cX7_measureLegs 78 = .ok (.iaload, 1) := by decide +kernel
theorem dX7_measureLegs_79 : decode cX7_measureLegs 79 = .ok (.iload_n 3, 1) := by decide +kernel
theorem dX7_measureLegs_80 : decode cX7_measureLegs 80 = .ok (.invokevirtual 105, 3) := by decide +kernel
theorem dX7_measureLegs_83 : decode cX7_measureLegs 83 = .ok (.iastore, 1) := by decide +kernel
theorem dX7_measureLegs_84 : decode cX7_measureLegs 84 = .ok (.iinc 4 1, 3) := by decide +kernel
theorem dX7_measureLegs_87 : decode cX7_measureLegs 87 = .ok (.goto (-41), 3) := by decide +kernel
theorem dX7_measureLegs_90 : decode cX7_measureLegs 90 = .ok (.iinc 2 1, 3) := by decide +kernel
theorem dX7_measureLegs_93 : decode cX7_measureLegs 93 = .ok (.goto (-91), 3) := by decide +kernel
theorem dX7_measureLegs_96 : decode cX7_measureLegs 96 = .ok (.return_, 1) := by decide +kernel
theorem dX7_allJoined_0 : decode cX7_allJoined 0 = .ok (.iconst 0, 1) := by decide +kernel
theorem dX7_allJoined_1 : decode cX7_allJoined 1 = .ok (.istore_n 1, 1) := by decide +kernel
theorem dX7_allJoined_2 : decode cX7_allJoined 2 = .ok (.iload_n 1, 1) := by decide +kernel
theorem dX7_allJoined_3 : decode cX7_allJoined 3 = .ok (.aload_n 0, 1) := by decide +kernel
theorem dX7_allJoined_4 : decode cX7_allJoined 4 = .ok (.getfield 68, 3) := by decide +kernel
theorem dX7_allJoined_7 : decode cX7_allJoined 7 = .ok (.if_icmp .ge 26, 3) := by decide +kernel
theorem dX7_allJoined_10 : decode cX7_allJoined 10 = .ok (.aload_n 0, 1) := by decide +kernel
theorem dX7_allJoined_11 : decode cX7_allJoined 11 = .ok (.getfield 27, 3) := by decide +kernel
theorem dX7_allJoined_14 : decode cX7_allJoined 14 = .ok (.bipush 36, 2) := by decide +kernel
theorem dX7_allJoined_16 : decode cX7_allJoined 16 = .ok (.iload_n 1, 1) := by decide +kernel
theorem dX7_allJoined_17 : decode cX7_allJoined 17 = .ok (.iadd, 1) := by decide +kernel
theorem dX7_allJoined_18 : decode cX7_allJoined 18 = .ok (.iaload, 1) := by decide +kernel
theorem dX7_allJoined_19 : decode cX7_allJoined 19 = .ok (.sipush 1000, 3) := by decide +kernel
theorem dX7_allJoined_22 : decode cX7_allJoined 22 = .ok (.if_icmp .lt 5, 3) := by decide +kernel
theorem dX7_allJoined_25 : decode cX7_allJoined 25 = .ok (.iconst 0, 1) := by decide +kernel
theorem dX7_allJoined_26 : decode cX7_allJoined 26 = .ok (.ireturn, 1) := by decide +kernel
theorem dX7_allJoined_27 : decode cX7_allJoined 27 = .ok (.iinc 1 1, 3) := by decide +kernel
theorem dX7_allJoined_30 : decode cX7_allJoined 30 = .ok (.goto (-28), 3) := by decide +kernel
theorem dX7_allJoined_33 : decode cX7_allJoined 33 = .ok (.iconst 1, 1) := by decide +kernel
theorem dX7_allJoined_34 : decode cX7_allJoined 34 = .ok (.ireturn, 1) := by decide +kernel
theorem dX7_fillRest_0 : decode cX7_fillRest 0 = .ok (.iconst 1, 1) := by decide +kernel
theorem dX7_fillRest_1 : decode cX7_fillRest 1 = .ok (.istore_n 1, 1) := by decide +kernel
theorem dX7_fillRest_2 : decode cX7_fillRest 2 = .ok (.iload_n 1, 1) := by decide +kernel
theorem dX7_fillRest_3 : decode cX7_fillRest 3 = .ok (.iconst 1, 1) := by decide +kernel
theorem dX7_fillRest_4 : decode cX7_fillRest 4 = .ok (.aload_n 0, 1) := by decide +kernel
theorem dX7_fillRest_5 : decode cX7_fillRest 5 = .ok (.getfield 68, 3) := by decide +kernel
theorem dX7_fillRest_8 : decode cX7_fillRest 8 = .ok (.ishl, 1) := by decide +kernel
theorem dX7_fillRest_9 : decode cX7_fillRest 9 = .ok (.if_icmp .ge 50, 3) := by decide +kernel
theorem dX7_fillRest_12 : decode cX7_fillRest 12 = .ok (.iconst 0, 1) := by decide +kernel
theorem dX7_fillRest_13 : decode cX7_fillRest 13 = .ok (.istore_n 2, 1) := by decide +kernel
theorem dX7_fillRest_14 : decode cX7_fillRest 14 = .ok (.iload_n 2, 1) := by decide +kernel
theorem dX7_fillRest_15 : decode cX7_fillRest 15 = .ok (.aload_n 0, 1) := by decide +kernel
theorem dX7_fillRest_16 : decode cX7_fillRest 16 = .ok (.getfield 68, 3) := by decide +kernel
theorem dX7_fillRest_19 : decode cX7_fillRest 19 = .ok (.if_icmp .ge 34, 3) := by decide +kernel
theorem dX7_fillRest_22 : decode cX7_fillRest 22 = .ok (.iload_n 1, 1) := by decide +kernel
theorem dX7_fillRest_23 : decode cX7_fillRest 23 = .ok (.iload_n 2, 1) := by decide +kernel
theorem dX7_fillRest_24 : decode cX7_fillRest 24 = .ok (.invokestatic 56, 3) := by decide +kernel
theorem dX7_fillRest_27 : decode cX7_fillRest 27 = .ok (.ifCond .ne 20, 3) := by decide +kernel
theorem dX7_fillRest_30 : decode cX7_fillRest 30 = .ok (.aload_n 0, 1) := by decide +kernel
theorem dX7_fillRest_31 : decode cX7_fillRest 31 = .ok (.getfield 30, 3) := by decide +kernel
theorem dX7_fillRest_34 : decode cX7_fillRest 34 = .ok (.iload_n 1, 1) := by decide +kernel
theorem dX7_fillRest_35 : decode cX7_fillRest 35 = .ok (.bipush 6, 2) := by decide +kernel
theorem dX7_fillRest_37 : decode cX7_fillRest 37 = .ok (.imul, 1) := by decide +kernel
theorem dX7_fillRest_38 : decode cX7_fillRest 38 = .ok (.iload_n 2, 1) := by decide +kernel
theorem dX7_fillRest_39 : decode cX7_fillRest 39 = .ok (.iadd, 1) := by decide +kernel
theorem dX7_fillRest_40 : decode cX7_fillRest 40 = .ok (.aload_n 0, 1) := by decide +kernel
theorem dX7_fillRest_41 : decode cX7_fillRest 41 = .ok (.iload_n 1, 1) := by decide +kernel
theorem dX7_fillRest_42 : decode cX7_fillRest 42 = .ok (.iload_n 2, 1) := by decide +kernel
theorem dX7_fillRest_43 : decode cX7_fillRest 43 = .ok (.invokevirtual 108, 3) := by decide +kernel
theorem dX7_fillRest_46 : decode cX7_fillRest 46 = .ok (.iastore, 1) := by decide +kernel
theorem dX7_fillRest_47 : decode cX7_fillRest 47 = .ok (.iinc 2 1, 3) := by decide +kernel
theorem dX7_fillRest_50 : decode cX7_fillRest 50 = .ok (.goto (-36), 3) := by decide +kernel
theorem dX7_fillRest_53 : decode cX7_fillRest 53 = .ok (.iinc 1 1, 3) := by decide +kernel
theorem dX7_fillRest_56 : decode cX7_fillRest 56 = .ok (.goto (-54), 3) := by decide +kernel
theorem dX7_fillRest_59 : decode cX7_fillRest 59 = .ok (.return_, 1) := by decide +kernel
theorem dX7_leastFrom_0 : decode cX7_leastFrom 0 = .ok (.iload_n 1, 1) := by decide +kernel
theorem dX7_leastFrom_1 : decode cX7_leastFrom 1 = .ok (.ifCond .ne 7, 3) := by decide +kernel
theorem dX7_leastFrom_4 : decode cX7_leastFrom 4 = .ok (.iconst 0, 1) := by decide +kernel
theorem dX7_leastFrom_5 : decode cX7_leastFrom 5 = .ok (.goto 6, 3) := by decide +kernel
theorem dX7_leastFrom_8 : decode cX7_leastFrom 8 = .ok (.sipush 1000, 3) := by decide +kernel
theorem dX7_leastFrom_11 : decode cX7_leastFrom 11 = .ok (.istore_n 3, 1) := by decide +kernel
theorem dX7_leastFrom_12 : decode cX7_leastFrom 12 = .ok (.iconst 0, 1) := by decide +kernel
theorem dX7_leastFrom_13 : decode cX7_leastFrom 13 = .ok (.istore 4, 2) := by decide +kernel
theorem dX7_leastFrom_15 : decode cX7_leastFrom 15 = .ok (.iload 4, 2) := by decide +kernel
theorem dX7_leastFrom_17 : decode cX7_leastFrom 17 = .ok (.aload_n 0, 1) := by decide +kernel
theorem dX7_leastFrom_18 : decode cX7_leastFrom 18 = .ok (.getfield 68, 3) := by decide +kernel
theorem dX7_leastFrom_21 : decode cX7_leastFrom 21 = .ok (.if_icmp .ge 31, 3) := by decide +kernel
theorem dX7_leastFrom_24 : decode cX7_leastFrom 24 = .ok (.iload_n 1, 1) := by decide +kernel
theorem dX7_leastFrom_25 : decode cX7_leastFrom 25 = .ok (.iload 4, 2) := by decide +kernel
theorem dX7_leastFrom_27 : decode cX7_leastFrom 27 = .ok (.invokestatic 56, 3) := by decide +kernel
theorem dX7_leastFrom_30 : decode cX7_leastFrom 30 = .ok (.ifCond .eq 16, 3) := by decide +kernel
theorem dX7_leastFrom_33 : decode cX7_leastFrom 33 = .ok (.iload_n 3, 1) := by decide +kernel
theorem dX7_leastFrom_34 : decode cX7_leastFrom 34 = .ok (.aload_n 0, 1) := by decide +kernel
theorem dX7_leastFrom_35 : decode cX7_leastFrom 35 = .ok (.iload_n 1, 1) := by decide +kernel
theorem dX7_leastFrom_36 : decode cX7_leastFrom 36 = .ok (.iload_n 2, 1) := by decide +kernel
theorem dX7_leastFrom_37 : decode cX7_leastFrom 37 = .ok (.iload 4, 2) := by decide +kernel
theorem dX7_leastFrom_39 : decode cX7_leastFrom 39 = .ok (.invokevirtual 111, 3) := by decide +kernel
theorem dX7_leastFrom_42 : decode cX7_leastFrom 42 = .ok (.invokestatic 115, 3) := by decide +kernel
theorem dX7_leastFrom_45 : decode cX7_leastFrom 45 = .ok (.istore_n 3, 1) := by decide +kernel
theorem dX7_leastFrom_46 : decode cX7_leastFrom 46 = .ok (.iinc 4 1, 3) := by decide +kernel
theorem dX7_leastFrom_49 : decode cX7_leastFrom 49 = .ok (.goto (-34), 3) := by decide +kernel
theorem dX7_leastFrom_52 : decode cX7_leastFrom 52 = .ok (.iload_n 3, 1) := by decide +kernel
theorem dX7_leastFrom_53 : decode cX7_leastFrom 53 = .ok (.ireturn, 1) := by decide +kernel
theorem dX7_leastBy_0 : decode cX7_leastBy 0 = .ok (.aload_n 0, 1) := by decide +kernel
theorem dX7_leastBy_1 : decode cX7_leastBy 1 = .ok (.getfield 27, 3) := by decide +kernel
theorem dX7_leastBy_4 : decode cX7_leastBy 4 = .ok (.iload_n 2, 1) := by decide +kernel
theorem dX7_leastBy_5 : decode cX7_leastBy 5 = .ok (.bipush 6, 2) := by decide +kernel
theorem dX7_leastBy_7 : decode cX7_leastBy 7 = .ok (.imul, 1) := by decide +kernel
theorem dX7_leastBy_8 : decode cX7_leastBy 8 = .ok (.iload_n 3, 1) := by decide +kernel
theorem dX7_leastBy_9 : decode cX7_leastBy 9 = .ok (.iadd, 1) := by decide +kernel
theorem dX7_leastBy_10 : decode cX7_leastBy 10 = .ok (.iaload, 1) := by decide +kernel
theorem dX7_leastBy_11 : decode cX7_leastBy 11 = .ok (.aload_n 0, 1) := by decide +kernel
theorem dX7_leastBy_12 : decode cX7_leastBy 12 = .ok (.getfield 30, 3) := by decide +kernel
theorem dX7_leastBy_15 : decode cX7_leastBy 15 = .ok (.iload_n 1, 1) := by decide +kernel
theorem dX7_leastBy_16 : decode cX7_leastBy 16 = .ok (.iconst 1, 1) := by decide +kernel
theorem dX7_leastBy_17 : decode cX7_leastBy 17 = .ok (.iload_n 3, 1) := by decide +kernel
theorem dX7_leastBy_18 : decode cX7_leastBy 18 = .ok (.ishl, 1) := by decide +kernel
theorem dX7_leastBy_19 : decode cX7_leastBy 19 = .ok (.iconst (-1), 1) := by decide +kernel
theorem dX7_leastBy_20 : decode cX7_leastBy 20 = .ok (.ixor, 1) := by decide +kernel
theorem dX7_leastBy_21 : decode cX7_leastBy 21 = .ok (.iand, 1) := by decide +kernel
theorem dX7_leastBy_22 : decode cX7_leastBy 22 = .ok (.bipush 6, 2) := by decide +kernel
theorem dX7_leastBy_24 : decode cX7_leastBy 24 = .ok (.imul, 1) := by decide +kernel
theorem dX7_leastBy_25 : decode cX7_leastBy 25 = .ok (.iload_n 3, 1) := by decide +kernel
theorem dX7_leastBy_26 : decode cX7_leastBy 26 = .ok (.iadd, 1) := by decide +kernel
theorem dX7_leastBy_27 : decode cX7_leastBy 27 = .ok (.iaload, 1) := by decide +kernel
theorem dX7_leastBy_28 : decode cX7_leastBy 28 = .ok (.iadd, 1) := by decide +kernel
theorem dX7_leastBy_29 : decode cX7_leastBy 29 = .ok (.ireturn, 1) := by decide +kernel
theorem dX7_wholeWay_0 : decode cX7_wholeWay 0 = .ok (.aload_n 0, 1) := by decide +kernel
theorem dX7_wholeWay_1 : decode cX7_wholeWay 1 = .ok (.iconst 1, 1) := by decide +kernel
theorem dX7_wholeWay_2 : decode cX7_wholeWay 2 = .ok (.aload_n 0, 1) := by decide +kernel
theorem dX7_wholeWay_3 : decode cX7_wholeWay 3 = .ok (.getfield 68, 3) := by decide +kernel
theorem dX7_wholeWay_6 : decode cX7_wholeWay 6 = .ok (.ishl, 1) := by decide +kernel
theorem dX7_wholeWay_7 : decode cX7_wholeWay 7 = .ok (.iconst 1, 1) := by decide +kernel
theorem dX7_wholeWay_8 : decode cX7_wholeWay 8 = .ok (.isub, 1) := by decide +kernel
theorem dX7_wholeWay_9 : decode cX7_wholeWay 9 = .ok (.bipush 6, 2) := by decide +kernel
theorem dX7_wholeWay_11 : decode cX7_wholeWay 11 = .ok (.invokevirtual 108, 3) := by decide +kernel
theorem dX7_wholeWay_14 : decode cX7_wholeWay 14 = .ok (.ireturn, 1) := by decide +kernel
theorem dX7_targetAt_0 : decode cX7_targetAt 0 = .ok (.iconst 1, 1) := by decide +kernel
theorem dX7_targetAt_1 : decode cX7_targetAt 1 = .ok (.aload_n 0, 1) := by decide +kernel
theorem dX7_targetAt_2 : decode cX7_targetAt 2 = .ok (.getfield 68, 3) := by decide +kernel
theorem dX7_targetAt_5 : decode cX7_targetAt 5 = .ok (.ishl, 1) := by decide +kernel
theorem dX7_targetAt_6 : decode cX7_targetAt 6 = .ok (.iconst 1, 1) := by decide +kernel
theorem dX7_targetAt_7 : decode cX7_targetAt 7 = .ok (.isub, 1) := by decide +kernel
theorem dX7_targetAt_8 : decode cX7_targetAt 8 = .ok (.istore_n 2, 1) := by decide +kernel
theorem dX7_targetAt_9 : decode cX7_targetAt 9 = .ok (.bipush 6, 2) := by decide +kernel
theorem dX7_targetAt_11 : decode cX7_targetAt 11 = .ok (.istore_n 3, 1) := by decide +kernel
theorem dX7_targetAt_12 : decode cX7_targetAt 12 = .ok (.iconst 0, 1) := by decide +kernel
theorem dX7_targetAt_13 : decode cX7_targetAt 13 = .ok (.istore 4, 2) := by decide +kernel
theorem dX7_targetAt_15 : decode cX7_targetAt 15 = .ok (.iload 4, 2) := by decide +kernel
theorem dX7_targetAt_17 : decode cX7_targetAt 17 = .ok (.iload_n 1, 1) := by decide +kernel
theorem dX7_targetAt_18 : decode cX7_targetAt 18 = .ok (.if_icmp .gt 28, 3) := by decide +kernel
theorem dX7_targetAt_21 : decode cX7_targetAt 21 = .ok (.iload_n 2, 1) := by decide +kernel
theorem dX7_targetAt_22 : decode cX7_targetAt 22 = .ok (.ifCond .eq 24, 3) := by decide +kernel
theorem dX7_targetAt_25 : decode cX7_targetAt 25 = .ok (.aload_n 0, 1) := by decide +kernel
theorem dX7_targetAt_26 : decode cX7_targetAt 26 = .ok (.iload_n 2, 1) := by decide +kernel
theorem dX7_targetAt_27 : decode cX7_targetAt 27 = .ok (.iload_n 3, 1) := by decide +kernel
theorem dX7_targetAt_28 : decode cX7_targetAt 28 = .ok (.invokevirtual 118, 3) := by decide +kernel
theorem dX7_targetAt_31 : decode cX7_targetAt 31 = .ok (.istore_n 3, 1) := by decide +kernel
theorem dX7_targetAt_32 : decode cX7_targetAt 32 = .ok (.iload_n 2, 1) := by decide +kernel
theorem dX7_targetAt_33 : decode cX7_targetAt 33 = .ok (.iconst 1, 1) := by decide +kernel
theorem dX7_targetAt_34 : decode cX7_targetAt 34 = .ok (.iload_n 3, 1) := by decide +kernel
theorem dX7_targetAt_35 : decode cX7_targetAt 35 = .ok (.ishl, 1) := by decide +kernel
theorem dX7_targetAt_36 : decode cX7_targetAt 36 = .ok (.iconst (-1), 1) := by decide +kernel
theorem dX7_targetAt_37 : decode cX7_targetAt 37 = .ok (.ixor, 1) := by decide +kernel
theorem dX7_targetAt_38 : decode cX7_targetAt 38 = .ok (.iand, 1) := by decide +kernel
theorem dX7_targetAt_39 : decode cX7_targetAt 39 = .ok (.istore_n 2, 1) := by decide +kernel
theorem dX7_targetAt_40 : decode cX7_targetAt 40 = .ok (.iinc 4 1, 3) := by decide +kernel
theorem dX7_targetAt_43 : decode cX7_targetAt 43 = .ok (.goto (-28), 3) := by decide +kernel
theorem dX7_targetAt_46 : decode cX7_targetAt 46 = .ok (.iload_n 3, 1) := by decide +kernel
theorem dX7_targetAt_47 : decode cX7_targetAt 47 = .ok (.aload_n 0, 1) := by decide +kernel
theorem dX7_targetAt_48 : decode cX7_targetAt 48 = .ok (.getfield 68, 3) := by decide +kernel
theorem dX7_targetAt_51 : decode cX7_targetAt 51 = .ok (.if_icmp .ge 12, 3) := by decide +kernel
theorem dX7_targetAt_54 : decode cX7_targetAt 54 = .ok (.aload_n 0, 1) := by decide +kernel
theorem dX7_targetAt_55 : decode cX7_targetAt 55 = .ok (.getfield 24, 3) := by decide +kernel
theorem dX7_targetAt_58 : decode cX7_targetAt 58 = .ok (.iload_n 3, 1) := by decide +kernel
theorem dX7_targetAt_59 : decode cX7_targetAt 59 = .ok (.iaload, 1) := by decide +kernel
theorem dX7_targetAt_60 : decode cX7_targetAt 60 = .ok (.goto 4, 3) := by decide +kernel
theorem dX7_targetAt_63 : decode cX7_targetAt 63 = .ok (.iconst (-1), 1) := by decide +kernel
theorem dX7_targetAt_64 : decode cX7_targetAt 64 = .ok (.ireturn, 1) := by decide +kernel
theorem dX7_firstOfLeast_0 : decode cX7_firstOfLeast 0 = .ok (.aload_n 0, 1) := by decide +kernel
theorem dX7_firstOfLeast_1 : decode cX7_firstOfLeast 1 = .ok (.iload_n 1, 1) := by decide +kernel
theorem dX7_firstOfLeast_2 : decode cX7_firstOfLeast 2 = .ok (.iload_n 2, 1) := by decide +kernel
theorem dX7_firstOfLeast_3 : decode cX7_firstOfLeast 3 = .ok (.invokevirtual 108, 3) := by decide +kernel
theorem dX7_firstOfLeast_6 : decode cX7_firstOfLeast 6 = .ok (.istore_n 3, 1) := by decide +kernel
theorem dX7_firstOfLeast_7 : decode cX7_firstOfLeast 7 = .ok (.iconst 0, 1) := by decide +kernel
theorem dX7_firstOfLeast_8 : decode cX7_firstOfLeast 8 = .ok (.istore 4, 2) := by decide +kernel
theorem dX7_firstOfLeast_10 : decode cX7_firstOfLeast 10 = .ok (.aload_n 0, 1) := by decide +kernel
theorem dX7_firstOfLeast_11 : decode cX7_firstOfLeast 11 = .ok (.getfield 68, 3) := by decide +kernel
theorem dX7_firstOfLeast_14 : decode cX7_firstOfLeast 14 = .ok (.iconst 1, 1) := by decide +kernel
theorem dX7_firstOfLeast_15 : decode cX7_firstOfLeast 15 = .ok (.isub, 1) := by decide +kernel
theorem dX7_firstOfLeast_16 : decode cX7_firstOfLeast 16 = .ok (.istore 5, 2) := by decide +kernel
theorem dX7_firstOfLeast_18 : decode cX7_firstOfLeast 18 = .ok (.iload 5, 2) := by decide +kernel
theorem dX7_firstOfLeast_20 : decode cX7_firstOfLeast 20 = .ok (.ifCond .lt 34, 3) := by decide +kernel
theorem dX7_firstOfLeast_23 : decode cX7_firstOfLeast 23 = .ok (.iload_n 1, 1) := by decide +kernel
theorem dX7_firstOfLeast_24 : decode cX7_firstOfLeast 24 = .ok (.iload 5, 2) := by decide +kernel
theorem dX7_firstOfLeast_26 : decode cX7_firstOfLeast 26 = .ok (.invokestatic 56, 3) := by decide +kernel
theorem dX7_firstOfLeast_29 : decode cX7_firstOfLeast 29 = .ok (.ifCond .eq 19, 3) := by decide +kernel
theorem dX7_firstOfLeast_32 : decode cX7_firstOfLeast 32 = .ok (.aload_n 0, 1) := by decide +kernel
theorem dX7_firstOfLeast_33 : decode cX7_firstOfLeast 33 = .ok (.iload_n 1, 1) := by decide +kernel
theorem dX7_firstOfLeast_34 : decode cX7_firstOfLeast 34 = .ok (.iload_n 2, 1) := by decide +kernel
theorem dX7_firstOfLeast_35 : decode cX7_firstOfLeast 35 = .ok (.iload 5, 2) := by decide +kernel
theorem dX7_firstOfLeast_37 : decode cX7_firstOfLeast 37 = .ok (.invokevirtual 111, 3) := by decide +kernel
theorem dX7_firstOfLeast_40 : decode cX7_firstOfLeast 40 = .ok (.iload_n 3, 1) := by decide +kernel
theorem dX7_firstOfLeast_41 : decode cX7_firstOfLeast 41 = .ok (.if_icmp .ne 7, 3) := by decide +kernel
theorem dX7_firstOfLeast_44 : decode cX7_firstOfLeast 44 = .ok (.iload 5, 2) := by decide +kernel
theorem dX7_firstOfLeast_46 : decode cX7_firstOfLeast 46 = .ok (.istore 4, 2) := by decide +kernel
theorem dX7_firstOfLeast_48 : decode cX7_firstOfLeast 48 = .ok (.iinc 5 (-1), 3) := by decide +kernel
theorem dX7_firstOfLeast_51 : decode cX7_firstOfLeast 51 = .ok (.goto (-33), 3) := by decide +kernel
theorem dX7_firstOfLeast_54 : decode cX7_firstOfLeast 54 = .ok (.iload 4, 2) := by decide +kernel
theorem dX7_firstOfLeast_56 : decode cX7_firstOfLeast 56 = .ok (.ireturn, 1) := by decide +kernel
theorem dX8_init_0 : decode cX8_init 0 = .ok (.aload_n 0, 1) := by decide +kernel
theorem dX8_init_1 : decode cX8_init 1 = .ok (.invokespecial 3, 3) := by decide +kernel
theorem dX8_init_4 : decode cX8_init 4 = .ok (.aload_n 0, 1) := by decide +kernel
theorem dX8_init_5 : decode cX8_init 5 = .ok (.sipush 150, 3) := by decide +kernel
theorem dX8_init_8 : decode cX8_init 8 = .ok (.newarray .char, 2) := by decide +kernel
theorem dX8_init_10 : decode cX8_init 10 = .ok (.putfield 9, 3) := by decide +kernel
theorem dX8_init_13 : decode cX8_init 13 = .ok (.return_, 1) := by decide +kernel
theorem dX8_add_0 : decode cX8_add 0 = .ok (.aload_n 0, 1) := by decide +kernel
theorem dX8_add_1 : decode cX8_add 1 = .ok (.getfield 15, 3) := by decide +kernel
theorem dX8_add_4 : decode cX8_add 4 = .ok (.aload_n 0, 1) := by decide +kernel
theorem dX8_add_5 : decode cX8_add 5 = .ok (.getfield 9, 3) := by decide +kernel
theorem dX8_add_8 : decode cX8_add 8 = .ok (.arraylength, 1) := by decide +kernel
theorem dX8_add_9 : decode cX8_add 9 = .ok (.if_icmp .ge 23, 3) := by decide +kernel
theorem dX8_add_12 : decode cX8_add 12 = .ok (.aload_n 0, 1) := by decide +kernel
theorem dX8_add_13 : decode cX8_add 13 = .ok (.getfield 9, 3) := by decide +kernel
theorem dX8_add_16 : decode cX8_add 16 = .ok (.aload_n 0, 1) := by decide +kernel
theorem dX8_add_17 : decode cX8_add 17 = .ok (.getfield 15, 3) := by decide +kernel
theorem dX8_add_20 : decode cX8_add 20 = .ok (.iload_n 1, 1) := by decide +kernel
theorem dX8_add_21 : decode cX8_add 21 = .ok (.castore, 1) := by decide +kernel
theorem dX8_add_22 : decode cX8_add 22 = .ok (.aload_n 0, 1) := by decide +kernel
theorem dX8_add_23 : decode cX8_add 23 = .ok (.dup, 1) := by decide +kernel
theorem dX8_add_24 : decode cX8_add 24 = .ok (.getfield 15, 3) := by decide +kernel
theorem dX8_add_27 : decode cX8_add 27 = .ok (.iconst 1, 1) := by decide +kernel
theorem dX8_add_28 : decode cX8_add 28 = .ok (.iadd, 1) := by decide +kernel
theorem dX8_add_29 : decode cX8_add 29 = .ok (.putfield 15, 3) := by decide +kernel
theorem dX8_add_32 : decode cX8_add 32 = .ok (.return_, 1) := by decide +kernel
theorem dX8_tell_0 : decode cX8_tell 0 = .ok (.aload_n 0, 1) := by decide +kernel
theorem dX8_tell_1 : decode cX8_tell 1 = .ok (.iconst 0, 1) := by decide +kernel
theorem dX8_tell_2 : decode cX8_tell 2 = .ok (.putfield 19, 3) := by decide +kernel
theorem dX8_tell_5 : decode cX8_tell 5 = .ok (.aload_n 0, 1) := by decide +kernel
theorem dX8_tell_6 : decode cX8_tell 6 = .ok (.invokevirtual 22, 3) := by decide +kernel
theorem dX8_tell_9 : decode cX8_tell 9 = .ok (.iconst 0, 1) := by decide +kernel
theorem dX8_tell_10 : decode cX8_tell 10 = .ok (.istore_n 2, 1) := by decide +kernel
theorem dX8_tell_11 : decode cX8_tell 11 = .ok (.iload_n 2, 1) := by decide +kernel
theorem dX8_tell_12 : decode cX8_tell 12 = .ok (.sipush 150, 3) := by decide +kernel
theorem dX8_tell_15 : decode cX8_tell 15 = .ok (.if_icmp .ge 42, 3) := by decide +kernel
theorem dX8_tell_18 : decode cX8_tell 18 = .ok (.iload_n 2, 1) := by decide +kernel
theorem dX8_tell_19 : decode cX8_tell 19 = .ok (.ifCond .le 12, 3) := by decide +kernel
theorem dX8_tell_22 : decode cX8_tell 22 = .ok (.aload_n 0, 1) := by decide +kernel
theorem dX8_tell_23 : decode cX8_tell 23 = .ok (.getfield 25, 3) := by decide +kernel
theorem dX8_tell_26 : decode cX8_tell 26 = .ok (.ifCond .ne 5, 3) := by decide +kernel
theorem dX8_tell_29 : decode cX8_tell 29 = .ok (.iload_n 2, 1) := by decide +kernel
theorem dX8_tell_30 : decode cX8_tell 30 = .ok (.ireturn, 1) := by decide +kernel
theorem dX8_tell_31 : decode cX8_tell 31 = .ok (.aload_n 0, 1) := by decide +kernel
theorem dX8_tell_32 : decode cX8_tell 32 = .ok (.aload_n 1, 1) := by decide +kernel
theorem dX8_tell_33 : decode cX8_tell 33 = .ok (.iload_n 2, 1) := by decide +kernel
theorem dX8_tell_34 : decode cX8_tell 34 = .ok (.ifCond .ne 7, 3) := by decide +kernel
theorem dX8_tell_37 : decode cX8_tell 37 = .ok (.iconst 1, 1) := by decide +kernel
theorem dX8_tell_38 : decode cX8_tell 38 = .ok (.goto 4, 3) := by decide +kernel
theorem dX8_tell_41 : decode cX8_tell 41 = .ok (.iconst 0, 1) := by decide +kernel
theorem dX8_tell_42 : decode cX8_tell 42 = .ok (.invokevirtual 28, 3) := by decide +kernel
theorem dX8_tell_45 : decode cX8_tell 45 = .ok (.ifCond .ne 6, 3) := by decide +kernel
theorem dX8_tell_48 : decode cX8_tell 48 = .ok (.goto 9, 3) := by decide +kernel
theorem dX8_tell_51 : decode cX8_tell 51 = .ok (.iinc 2 1, 3) := by decide +kernel
theorem dX8_tell_54 : decode cX8_tell 54 = .ok (.goto (-43), 3) := by decide +kernel
theorem dX8_tell_57 : decode cX8_tell 57 = .ok (.bipush (-10), 2) := by decide +kernel
theorem dX8_tell_59 : decode cX8_tell 59 = .ok (.aload_n 0, 1) := by decide +kernel
theorem dX8_tell_60 : decode cX8_tell 60 = .ok (.getfield 32, 3) := by decide +kernel
theorem dX8_tell_63 : decode cX8_tell 63 = .ok (.isub, 1) := by decide +kernel
theorem dX8_tell_64 : decode cX8_tell 64 = .ok (.ireturn, 1) := by decide +kernel
theorem dX8_item_0 : decode cX8_item 0 = .ok (.aload_n 0, 1) := by decide +kernel
theorem dX8_item_1 : decode cX8_item 1 = .ok (.ldc 35, 2) := by decide +kernel
theorem dX8_item_3 : decode cX8_item 3 = .ok (.invokevirtual 37, 3) := by decide +kernel
theorem dX8_item_6 : decode cX8_item 6 = .ok (.ifCond .eq 21, 3) := by decide +kernel
theorem dX8_item_9 : decode cX8_item 9 = .ok (.iload_n 2, 1) := by decide +kernel
theorem dX8_item_10 : decode cX8_item 10 = .ok (.ifCond .eq 15, 3) := by decide +kernel
theorem dX8_item_13 : decode cX8_item 13 = .ok (.aload_n 0, 1) := by decide +kernel
theorem dX8_item_14 : decode cX8_item 14 = .ok (.aload_n 1, 1) := by decide +kernel
theorem dX8_item_15 : decode cX8_item 15 = .ok (.invokevirtual 41, 3) := by decide +kernel
theorem dX8_item_18 : decode cX8_item 18 = .ok (.ifCond .eq 7, 3) := by decide +kernel
theorem dX8_item_21 : decode cX8_item 21 = .ok (.iconst 1, 1) := by decide +kernel
theorem dX8_item_22 : decode cX8_item 22 = .ok (.goto 4, 3) := by decide +kernel
theorem dX8_item_25 : decode cX8_item 25 = .ok (.iconst 0, 1) := by decide +kernel
theorem dX8_item_26 : decode cX8_item 26 = .ok (.ireturn, 1) := by decide +kernel
theorem dX8_item_27 : decode cX8_item 27 = .ok (.iload_n 2, 1) := by decide +kernel
theorem dX8_item_28 : decode cX8_item 28 = .ok (.ifCond .eq 5, 3) := by decide +kernel
theorem dX8_item_31 : decode cX8_item 31 = .ok (.iconst 0, 1) := by decide +kernel
theorem dX8_item_32 : decode cX8_item 32 = .ok (.ireturn, 1) := by decide +kernel
theorem dX8_item_33 : decode cX8_item 33 = .ok (.aload_n 0, 1) := by decide +kernel
theorem dX8_item_34 : decode cX8_item 34 = .ok (.ldc 45, 2) := by decide +kernel
theorem dX8_item_36 : decode cX8_item 36 = .ok (.invokevirtual 37, 3) := by decide +kernel
theorem dX8_item_39 : decode cX8_item 39 = .ok (.ifCond .eq 9, 3) := by decide +kernel
theorem dX8_item_42 : decode cX8_item 42 = .ok (.aload_n 0, 1) := by decide +kernel
theorem dX8_item_43 : decode cX8_item 43 = .ok (.aload_n 1, 1) := by decide +kernel
theorem dX8_item_44 : decode cX8_item 44 = .ok (.invokevirtual 47, 3) := by decide +kernel
theorem dX8_item_47 : decode cX8_item 47 = .ok (.ireturn, 1) := by decide +kernel
theorem dX8_item_48 : decode cX8_item 48 = .ok (.aload_n 0, 1) := by decide +kernel
theorem dX8_item_49 : decode cX8_item 49 = .ok (.ldc 50, 2) := by decide +kernel
theorem dX8_item_51 : decode cX8_item 51 = .ok (.invokevirtual 37, 3) := by decide +kernel
theorem dX8_item_54 : decode cX8_item 54 = .ok (.ifCond .eq 26, 3) := by decide +kernel
theorem dX8_item_57 : decode cX8_item 57 = .ok (.aload_n 1, 1) := by decide +kernel
theorem dX8_item_58 : decode cX8_item 58 = .ok (.getfield 52, 3) := by decide +kernel
theorem dX8_item_61 : decode cX8_item 61 = .ok (.bipush 6, 2) := by decide +kernel
theorem dX8_item_63 : decode cX8_item 63 = .ok (.if_icmp .ge 15, 3) := by decide +kernel
theorem dX8_item_66 : decode cX8_item 66 = .ok (.aload_n 0, 1) := by decide +kernel
theorem dX8_item_67 : decode cX8_item 67 = .ok (.aload_n 1, 1) := by decide +kernel
theorem dX8_item_68 : decode cX8_item 68 = .ok (.invokevirtual 57, 3) := by decide +kernel
theorem dX8_item_71 : decode cX8_item 71 = .ok (.ifCond .eq 7, 3) := by decide +kernel
theorem dX8_item_74 : decode cX8_item 74 = .ok (.iconst 1, 1) := by decide +kernel
theorem dX8_item_75 : decode cX8_item 75 = .ok (.goto 4, 3) := by decide +kernel
theorem dX8_item_78 : decode cX8_item 78 = .ok (.iconst 0, 1) := by decide +kernel
theorem dX8_item_79 : decode cX8_item 79 = .ok (.ireturn, 1) := by decide +kernel
theorem dX8_item_80 : decode cX8_item 80 = .ok (.aload_n 0, 1) := by decide +kernel
theorem dX8_item_81 : decode cX8_item 81 = .ok (.ldc 60, 2) := by decide +kernel
theorem dX8_item_83 : decode cX8_item 83 = .ok (.invokevirtual 37, 3) := by decide +kernel
theorem dX8_item_86 : decode cX8_item 86 = .ok (.ifCond .eq 15, 3) := by decide +kernel
theorem dX8_item_89 : decode cX8_item 89 = .ok (.aload_n 0, 1) := by decide +kernel
theorem dX8_item_90 : decode cX8_item 90 = .ok (.aload_n 1, 1) := by decide +kernel
theorem dX8_item_91 : decode cX8_item 91 = .ok (.invokevirtual 62, 3) := by decide +kernel
theorem dX8_item_94 : decode cX8_item 94 = .ok (.ifCond .eq 7, 3) := by decide +kernel
theorem dX8_item_97 : decode cX8_item 97 = .ok (.iconst 1, 1) := by decide +kernel
theorem dX8_item_98 : decode cX8_item 98 = .ok (.goto 4, 3) := by decide +kernel
theorem dX8_item_101 : decode cX8_item 101 = .ok (.iconst 0, 1) := by decide +kernel
theorem dX8_item_102 : decode cX8_item 102 = .ok (.ireturn, 1) := by decide +kernel
theorem dX8_houseItem_0 : decode cX8_houseItem 0 = .ok (.aload_n 0, 1) := by decide +kernel
theorem dX8_houseItem_1 : decode cX8_houseItem 1 = .ok (.invokevirtual 22, 3) := by decide +kernel
theorem dX8_houseItem_4 : decode cX8_houseItem 4 = .ok (.aload_n 0, 1) := by decide +kernel
theorem dX8_houseItem_5 : decode cX8_houseItem 5 = .ok (.iconst 0, 1) := by decide +kernel
theorem dX8_houseItem_6 : decode cX8_houseItem 6 = .ok (.bipush 9, 2) := by decide +kernel
theorem dX8_houseItem_8 : decode cX8_houseItem 8 = .ok (.invokevirtual 65, 3) := by decide +kernel
theorem dX8_houseItem_11 : decode cX8_houseItem 11 = .ok (.istore_n 2, 1) := by decide +kernel
theorem dX8_houseItem_12 : decode cX8_houseItem 12 = .ok (.iload_n 2, 1) := by decide +kernel
theorem dX8_houseItem_13 : decode cX8_houseItem 13 = .ok (.iconst (-1), 1) := by decide +kernel
theorem dX8_houseItem_14 : decode cX8_houseItem 14 = .ok (.if_icmp .eq 10, 3) := by decide +kernel
theorem dX8_houseItem_17 : decode cX8_houseItem 17 = .ok (.aload_n 0, 1) := by decide +kernel
theorem dX8_houseItem_18 : decode cX8_houseItem 18 = .ok (.invokevirtual 69, 3) := by decide +kernel
theorem dX8_houseItem_21 : decode cX8_houseItem 21 = .ok (.ifCond .ne 5, 3) := by decide +kernel
theorem dX8_houseItem_24 : decode cX8_houseItem 24 = .ok (.iconst 0, 1) := by decide +kernel
theorem dX8_houseItem_25 : decode cX8_houseItem 25 = .ok (.ireturn, 1) := by decide +kernel
theorem dX8_houseItem_26 : decode cX8_houseItem 26 = .ok (.aload_n 1, 1) := by decide +kernel
theorem dX8_houseItem_27 : decode cX8_houseItem 27 = .ok (.getfield 73, 3) := by decide +kernel
theorem dX8_houseItem_30 : decode cX8_houseItem 30 = .ok (.iload_n 2, 1) := by decide +kernel
theorem dX8_houseItem_31 : decode cX8_houseItem 31 = .ok (.putfield 77, 3) := by decide +kernel
theorem dX8_houseItem_34 : decode cX8_houseItem 34 = .ok (.iconst 1, 1) := by decide +kernel
theorem dX8_houseItem_35 : decode cX8_houseItem 35 = .ok (.ireturn, 1) := by decide +kernel
theorem dX8_doorItem_0 : decode cX8_doorItem 0 = .ok (.aload_n 0, 1) := by decide +kernel
theorem dX8_doorItem_1 : decode cX8_doorItem 1 = .ok (.invokevirtual 22, 3) := by decide +kernel
theorem dX8_doorItem_4 : decode cX8_doorItem 4 = .ok (.aload_n 0, 1) := by decide +kernel
theorem dX8_doorItem_5 : decode cX8_doorItem 5 = .ok (.iconst 0, 1) := by decide +kernel
theorem dX8_doorItem_6 : decode cX8_doorItem 6 = .ok (.bipush 7, 2) := by decide +kernel
theorem dX8_doorItem_8 : decode cX8_doorItem 8 = .ok (.invokevirtual 65, 3) := by decide +kernel
theorem dX8_doorItem_11 : decode cX8_doorItem 11 = .ok (.istore_n 2, 1) := by decide +kernel
theorem dX8_doorItem_12 : decode cX8_doorItem 12 = .ok (.iload_n 2, 1) := by decide +kernel
theorem dX8_doorItem_13 : decode cX8_doorItem 13 = .ok (.iconst (-1), 1) := by decide +kernel
theorem dX8_doorItem_14 : decode cX8_doorItem 14 = .ok (.if_icmp .eq 11, 3) := by decide +kernel
theorem dX8_doorItem_17 : decode cX8_doorItem 17 = .ok (.aload_n 0, 1) := by decide +kernel
theorem dX8_doorItem_18 : decode cX8_doorItem 18 = .ok (.getfield 82, 3) := by decide +kernel
theorem dX8_doorItem_21 : decode cX8_doorItem 21 = .ok (.iload_n 2, 1) := by decide +kernel
theorem dX8_doorItem_22 : decode cX8_doorItem 22 = .ok (.if_icmp .ne 5, 3) := by decide +kernel
theorem dX8_doorItem_25 : decode cX8_doorItem 25 = .ok (.iconst 0, 1) := by decide +kernel
theorem dX8_doorItem_26 : decode cX8_doorItem 26 = .ok (.ireturn, 1) := by decide +kernel
theorem dX8_doorItem_27 : decode cX8_doorItem 27 = .ok (.aload_n 0, 1) := by decide +kernel
theorem dX8_doorItem_28 : decode cX8_doorItem 28 = .ok (.iconst 0, 1) := by decide +kernel
theorem dX8_doorItem_29 : decode cX8_doorItem 29 = .ok (.bipush 7, 2) := by decide +kernel
theorem dX8_doorItem_31 : decode cX8_doorItem 31 = .ok (.invokevirtual 65, 3) := by decide +kernel
theorem dX8_doorItem_34 : decode cX8_doorItem 34 = .ok (.istore_n 3, 1) := by decide +kernel
theorem dX8_doorItem_35 : decode cX8_doorItem 35 = .ok (.iload_n 3, 1) := by decide +kernel
theorem dX8_doorItem_36 : decode cX8_doorItem 36 = .ok (.iconst (-1), 1) := by decide +kernel
theorem dX8_doorItem_37 : decode cX8_doorItem 37 = .ok (.if_icmp .ne 5, 3) := by decide +kernel
theorem dX8_doorItem_40 : decode cX8_doorItem 40 = .ok (.iconst 0, 1) := by decide +kernel
theorem dX8_doorItem_41 : decode cX8_doorItem 41 = .ok (.ireturn, 1) := by decide +kernel
theorem dX8_doorItem_42 : decode cX8_doorItem 42 = .ok (.aload_n 0, 1) := by decide +kernel
theorem dX8_doorItem_43 : decode cX8_doorItem 43 = .ok (.iconst 1, 1) := by decide +kernel
theorem dX8_doorItem_44 : decode cX8_doorItem 44 = .ok (.bipush 9, 2) := by decide +kernel
theorem dX8_doorItem_46 : decode cX8_doorItem 46 = .ok (.invokevirtual 65, 3) := by decide +kernel
theorem dX8_doorItem_49 : decode cX8_doorItem 49 = .ok (.istore 4, 2) := by decide +kernel
theorem dX8_doorItem_51 : decode cX8_doorItem 51 = .ok (.iload 4, 2) := by decide +kernel
theorem dX8_doorItem_53 : decode cX8_doorItem 53 = .ok (.iconst (-1), 1) := by decide +kernel
theorem dX8_doorItem_54 : decode cX8_doorItem 54 = .ok (.if_icmp .eq 10, 3) := by decide +kernel
theorem dX8_doorItem_57 : decode cX8_doorItem 57 = .ok (.aload_n 0, 1) := by decide +kernel
theorem dX8_doorItem_58 : decode cX8_doorItem 58 = .ok (.invokevirtual 69, 3) := by decide +kernel
theorem dX8_doorItem_61 : decode cX8_doorItem 61 = .ok (.ifCond .ne 5, 3) := by decide +kernel
theorem dX8_doorItem_64 : decode cX8_doorItem 64 = .ok (.iconst 0, 1) := by decide +kernel
theorem dX8_doorItem_65 : decode cX8_doorItem 65 = .ok (.ireturn, 1) := by decide +kernel
theorem dX8_doorItem_66 : decode cX8_doorItem 66 = .ok (.aload_n 1, 1) := by decide +kernel
theorem dX8_doorItem_67 : decode cX8_doorItem 67 = .ok (.iload_n 2, 1) := by decide +kernel
theorem dX8_doorItem_68 : decode cX8_doorItem 68 = .ok (.iload_n 3, 1) := by decide +kernel
theorem dX8_doorItem_69 : decode cX8_doorItem 69 = .ok (.iload 4, 2) := by decide +kernel
theorem dX8_doorItem_71 : decode cX8_doorItem 71 = .ok (.invokevirtual 85, 3) := by decide +kernel
theorem dX8_doorItem_74 : decode cX8_doorItem 74 = .ok (.iconst 1, 1) := by decide +kernel
theorem dX8_doorItem_75 : decode cX8_doorItem 75 = .ok (.ireturn, 1) := by decide +kernel
theorem dX8_alarmItem_0 : decode cX8_alarmItem 0 = .ok (.aload_n 0, 1) := by decide +kernel
theorem dX8_alarmItem_1 : decode cX8_alarmItem 1 = .ok (.invokevirtual 22, 3) := by decide +kernel
theorem dX8_alarmItem_4 : decode cX8_alarmItem 4 = .ok (.aload_n 0, 1) := by decide +kernel
theorem dX8_alarmItem_5 : decode cX8_alarmItem 5 = .ok (.iconst 0, 1) := by decide +kernel
theorem dX8_alarmItem_6 : decode cX8_alarmItem 6 = .ok (.iconst 5, 1) := by decide +kernel
theorem dX8_alarmItem_7 : decode cX8_alarmItem 7 = .ok (.invokevirtual 65, 3) := by decide +kernel
theorem dX8_alarmItem_10 : decode cX8_alarmItem 10 = .ok (.istore_n 2, 1) := by decide +kernel
theorem dX8_alarmItem_11 : decode cX8_alarmItem 11 = .ok (.iload_n 2, 1) := by decide +kernel
theorem dX8_alarmItem_12 : decode cX8_alarmItem 12 = .ok (.iconst (-1), 1) := by decide +kernel
theorem dX8_alarmItem_13 : decode cX8_alarmItem 13 = .ok (.if_icmp .ne 5, 3) := by decide +kernel
theorem dX8_alarmItem_16 : decode cX8_alarmItem 16 = .ok (.iconst 0, 1) := by decide +kernel
theorem dX8_alarmItem_17 : decode cX8_alarmItem 17 = .ok (.ireturn, 1) := by decide +kernel
theorem dX8_alarmItem_18 : decode cX8_alarmItem 18 = .ok (.aload_n 0, 1) := by decide +kernel
theorem dX8_alarmItem_19 : decode cX8_alarmItem 19 = .ok (.iconst 0, 1) := by decide +kernel
theorem dX8_alarmItem_20 : decode cX8_alarmItem 20 = .ok (.bipush 7, 2) := by decide +kernel
theorem dX8_alarmItem_22 : decode cX8_alarmItem 22 = .ok (.invokevirtual 65, 3) := by decide +kernel
theorem dX8_alarmItem_25 : decode cX8_alarmItem 25 = .ok (.istore_n 3, 1) := by decide +kernel
theorem dX8_alarmItem_26 : decode cX8_alarmItem 26 = .ok (.iload_n 3, 1) := by decide +kernel
theorem dX8_alarmItem_27 : decode cX8_alarmItem 27 = .ok (.iconst (-1), 1) := by decide +kernel
theorem dX8_alarmItem_28 : decode cX8_alarmItem 28 = .ok (.if_icmp .ne 5, 3) := by decide +kernel
theorem dX8_alarmItem_31 : decode cX8_alarmItem 31 = .ok (.iconst 0, 1) := by decide +kernel
theorem dX8_alarmItem_32 : decode cX8_alarmItem 32 = .ok (.ireturn, 1) := by decide +kernel
theorem dX8_alarmItem_33 : decode cX8_alarmItem 33 = .ok (.aload_n 0, 1) := by decide +kernel
theorem dX8_alarmItem_34 : decode cX8_alarmItem 34 = .ok (.iconst 0, 1) := by decide +kernel
theorem dX8_alarmItem_35 : decode cX8_alarmItem 35 = .ok (.bipush 99, 2) := by decide +kernel
theorem dX8_alarmItem_37 : decode cX8_alarmItem 37 = .ok (.invokevirtual 65, 3) := by decide +kernel
theorem dX8_alarmItem_40 : decode cX8_alarmItem 40 = .ok (.istore 4, 2) := by decide +kernel
theorem dX8_alarmItem_42 : decode cX8_alarmItem 42 = .ok (.iload 4, 2) := by decide +kernel
theorem dX8_alarmItem_44 : decode cX8_alarmItem 44 = .ok (.iconst (-1), 1) := by decide +kernel
theorem dX8_alarmItem_45 : decode cX8_alarmItem 45 = .ok (.if_icmp .eq 10, 3) := by decide +kernel
theorem dX8_alarmItem_48 : decode cX8_alarmItem 48 = .ok (.aload_n 0, 1) := by decide +kernel
theorem dX8_alarmItem_49 : decode cX8_alarmItem 49 = .ok (.invokevirtual 69, 3) := by decide +kernel
theorem dX8_alarmItem_52 : decode cX8_alarmItem 52 = .ok (.ifCond .ne 5, 3) := by decide +kernel
theorem dX8_alarmItem_55 : decode cX8_alarmItem 55 = .ok (.iconst 0, 1) := by decide +kernel
theorem dX8_alarmItem_56 : decode cX8_alarmItem 56 = .ok (.ireturn, 1) := by decide +kernel
theorem dX8_alarmItem_57 : decode cX8_alarmItem 57 = .ok (.aload_n 1, 1) := by decide +kernel
theorem dX8_alarmItem_58 : decode cX8_alarmItem 58 = .ok (.iload_n 2, 1) := by decide +kernel
theorem dX8_alarmItem_59 : decode cX8_alarmItem 59 = .ok (.iload_n 3, 1) := by decide +kernel
theorem dX8_alarmItem_60 : decode cX8_alarmItem 60 = .ok (.iload 4, 2) := by decide +kernel
theorem dX8_alarmItem_62 : decode cX8_alarmItem 62 = .ok (.invokevirtual 89, 3) := by decide +kernel
theorem dX8_alarmItem_65 : decode cX8_alarmItem 65 = .ok (.iconst 1, 1) := by decide +kernel
theorem dX8_alarmItem_66 : decode cX8_alarmItem 66 = .ok (.ireturn, 1) := by decide +kernel
theorem dX8_downItem_0 : decode cX8_downItem 0 = .ok (.aload_n 0, 1) := by decide +kernel
theorem dX8_downItem_1 : decode cX8_downItem 1 = .ok (.invokevirtual 22, 3) := by decide +kernel
theorem dX8_downItem_4 : decode cX8_downItem 4 = .ok (.aload_n 0, 1) := by decide +kernel
theorem dX8_downItem_5 : decode cX8_downItem 5 = .ok (.iconst 0, 1) := by decide +kernel
theorem dX8_downItem_6 : decode cX8_downItem 6 = .ok (.aload_n 1, 1) := by decide +kernel
theorem dX8_downItem_7 : decode cX8_downItem 7 = .ok (.getfield 52, 3) := by decide +kernel
theorem dX8_downItem_10 : decode cX8_downItem 10 = .ok (.iconst 1, 1) := by decide +kernel
theorem dX8_downItem_11 : decode cX8_downItem 11 = .ok (.isub, 1) := by decide +kernel
theorem dX8_downItem_12 : decode cX8_downItem 12 = .ok (.invokevirtual 65, 3) := by decide +kernel
theorem dX8_downItem_15 : decode cX8_downItem 15 = .ok (.istore_n 2, 1) := by decide +kernel
theorem dX8_downItem_16 : decode cX8_downItem 16 = .ok (.iload_n 2, 1) := by decide +kernel
theorem dX8_downItem_17 : decode cX8_downItem 17 = .ok (.iconst (-1), 1) := by decide +kernel
theorem dX8_downItem_18 : decode cX8_downItem 18 = .ok (.if_icmp .eq 10, 3) := by decide +kernel
theorem dX8_downItem_21 : decode cX8_downItem 21 = .ok (.aload_n 0, 1) := by decide +kernel
theorem dX8_downItem_22 : decode cX8_downItem 22 = .ok (.invokevirtual 69, 3) := by decide +kernel
theorem dX8_downItem_25 : decode cX8_downItem 25 = .ok (.ifCond .ne 5, 3) := by decide +kernel
theorem dX8_downItem_28 : decode cX8_downItem 28 = .ok (.iconst 0, 1) := by decide +kernel
theorem dX8_downItem_29 : decode cX8_downItem 29 = .ok (.ireturn, 1) := by decide +kernel
theorem dX8_downItem_30 : decode cX8_downItem 30 = .ok (.aload_n 1, 1) := by decide +kernel
theorem dX8_downItem_31 : decode cX8_downItem 31 = .ok (.getfield 73, 3) := by decide +kernel
theorem dX8_downItem_34 : decode cX8_downItem 34 = .ok (.iload_n 2, 1) := by decide +kernel
theorem dX8_downItem_35 : decode cX8_downItem 35 = .ok (.iconst 1, 1) := by decide +kernel
theorem dX8_downItem_36 : decode cX8_downItem 36 = .ok (.invokevirtual 92, 3) := by decide +kernel
theorem dX8_downItem_39 : decode cX8_downItem 39 = .ok (.iconst 1, 1) := by decide +kernel
theorem dX8_downItem_40 : decode cX8_downItem 40 = .ok (.ireturn, 1) := by decide +kernel
theorem dX8_number_0 : decode cX8_number 0 = .ok (.aload_n 0, 1) := by decide +kernel
theorem dX8_number_1 : decode cX8_number 1 = .ok (.getfield 25, 3) := by decide +kernel
theorem dX8_number_4 : decode cX8_number 4 = .ok (.iconst 2, 1) := by decide +kernel
theorem dX8_number_5 : decode cX8_number 5 = .ok (.if_icmp .ne 15, 3) := by decide +kernel
theorem dX8_number_8 : decode cX8_number 8 = .ok (.aload_n 0, 1) := by decide +kernel
theorem dX8_number_9 : decode cX8_number 9 = .ok (.getfield 82, 3) := by decide +kernel
theorem dX8_number_12 : decode cX8_number 12 = .ok (.iload_n 1, 1) := by decide +kernel
theorem dX8_number_13 : decode cX8_number 13 = .ok (.iload_n 2, 1) := by decide +kernel
theorem dX8_number_14 : decode cX8_number 14 = .ok (.invokestatic 96, 3) := by decide +kernel
theorem dX8_number_17 : decode cX8_number 17 = .ok (.ifCond .ne 5, 3) := by decide +kernel
theorem dX8_number_20 : decode cX8_number 20 = .ok (.iconst (-1), 1) := by decide +kernel
theorem dX8_number_21 : decode cX8_number 21 = .ok (.ireturn, 1) := by decide +kernel
theorem dX8_number_22 : decode cX8_number 22 = .ok (.aload_n 0, 1) := by decide +kernel
theorem dX8_number_23 : decode cX8_number 23 = .ok (.getfield 82, 3) := by decide +kernel
theorem dX8_number_26 : decode cX8_number 26 = .ok (.istore_n 3, 1) := by decide +kernel
theorem dX8_number_27 : decode cX8_number 27 = .ok (.aload_n 0, 1) := by decide +kernel
theorem dX8_number_28 : decode cX8_number 28 = .ok (.invokevirtual 22, 3) := by decide +kernel
theorem dX8_number_31 : decode cX8_number 31 = .ok (.iload_n 3, 1) := by decide +kernel
theorem dX8_number_32 : decode cX8_number 32 = .ok (.ireturn, 1) := by decide +kernel
theorem dX8_stop_0 : decode cX8_stop 0 = .ok (.aload_n 0, 1) := by decide +kernel
theorem dX8_stop_1 : decode cX8_stop 1 = .ok (.getfield 25, 3) := by decide +kernel
theorem dX8_stop_4 : decode cX8_stop 4 = .ok (.iconst 3, 1) := by decide +kernel
theorem dX8_stop_5 : decode cX8_stop 5 = .ok (.if_icmp .eq 5, 3) := by decide +kernel
theorem dX8_stop_8 : decode cX8_stop 8 = .ok (.iconst 0, 1) := by decide +kernel
theorem dX8_stop_9 : decode cX8_stop 9 = .ok (.ireturn, 1) := by decide +kernel
theorem dX8_stop_10 : decode cX8_stop 10 = .ok (.aload_n 0, 1) := by decide +kernel
theorem dX8_stop_11 : decode cX8_stop 11 = .ok (.invokevirtual 22, 3) := by decide +kernel
theorem dX8_stop_14 : decode cX8_stop 14 = .ok (.iconst 1, 1) := by decide +kernel
theorem dX8_stop_15 : decode cX8_stop 15 = .ok (.ireturn, 1) := by decide +kernel
theorem dX8_says_0 : decode cX8_says 0 = .ok (.aload_n 0, 1) := by decide +kernel
theorem dX8_says_1 : decode cX8_says 1 = .ok (.getfield 25, 3) := by decide +kernel
theorem dX8_says_4 : decode cX8_says 4 = .ok (.iconst 1, 1) := by decide +kernel
theorem dX8_says_5 : decode cX8_says 5 = .ok (.if_icmp .ne 19, 3) := by decide +kernel
theorem dX8_says_8 : decode cX8_says 8 = .ok (.aload_n 0, 1) := by decide +kernel
theorem dX8_says_9 : decode cX8_says 9 = .ok (.getfield 19, 3) := by decide +kernel
theorem dX8_says_12 : decode cX8_says 12 = .ok (.aload_n 0, 1) := by decide +kernel
theorem dX8_says_13 : decode cX8_says 13 = .ok (.getfield 32, 3) := by decide +kernel
theorem dX8_says_16 : decode cX8_says 16 = .ok (.isub, 1) := by decide +kernel
theorem dX8_says_17 : decode cX8_says 17 = .ok (.aload_n 1, 1) := by decide +kernel
theorem dX8_says_18 : decode cX8_says 18 = .ok (.invokevirtual 100, 3) := by decide +kernel
theorem dX8_says_21 : decode cX8_says 21 = .ok (.if_icmp .eq 5, 3) := by decide +kernel
theorem dX8_says_24 : decode cX8_says 24 = .ok (.iconst 0, 1) := by decide +kernel
theorem dX8_says_25 : decode cX8_says 25 = .ok (.ireturn, 1) := by decide +kernel
theorem dX8_says_26 : decode cX8_says 26 = .ok (.iconst 0, 1) := by decide +kernel
theorem dX8_says_27 : decode cX8_says 27 = .ok (.istore_n 2, 1) := by decide +kernel
theorem dX8_says_28 : decode cX8_says 28 = .ok (.iload_n 2, 1) := by decide +kernel
theorem dX8_says_29 : decode cX8_says 29 = .ok (.aload_n 1, 1) := by decide +kernel
theorem dX8_says_30 : decode cX8_says 30 = .ok (.invokevirtual 100, 3) := by decide +kernel
theorem dX8_says_33 : decode cX8_says 33 = .ok (.if_icmp .ge 30, 3) := by decide +kernel
theorem dX8_says_36 : decode cX8_says 36 = .ok (.aload_n 0, 1) := by decide +kernel
theorem dX8_says_37 : decode cX8_says 37 = .ok (.getfield 9, 3) := by decide +kernel
theorem dX8_says_40 : decode cX8_says 40 = .ok (.aload_n 0, 1) := by decide +kernel
theorem dX8_says_41 : decode cX8_says 41 = .ok (.getfield 32, 3) := by decide +kernel
theorem dX8_says_44 : decode cX8_says 44 = .ok (.iload_n 2, 1) := by decide +kernel
theorem dX8_says_45 : decode cX8_says 45 = .ok (.iadd, 1) := by decide +kernel
theorem dX8_says_46 : decode cX8_says 46 = .ok (.caload, 1) := by decide +kernel
theorem dX8_says_47 : decode cX8_says 47 = .ok (.aload_n 1, 1) := by decide +kernel
theorem dX8_says_48 : decode cX8_says 48 = .ok (.iload_n 2, 1) := by decide +kernel
theorem dX8_says_49 : decode cX8_says 49 = .ok (.invokevirtual 105, 3) := by decide +kernel
theorem dX8_says_52 : decode cX8_says 52 = .ok (.if_icmp .eq 5, 3) := by decide +kernel
theorem dX8_says_55 : decode cX8_says 55 = .ok (.iconst 0, 1) := by decide +kernel
theorem dX8_says_56 : decode cX8_says 56 = .ok (.ireturn, 1) := by decide +kernel
theorem dX8_says_57 : decode cX8_says 57 = .ok (.iinc 2 1, 3) := by decide +kernel
theorem dX8_says_60 : decode cX8_says 60 = .ok (.goto (-32), 3) := by decide +kernel
theorem dX8_says_63 : decode cX8_says 63 = .ok (.iconst 1, 1) := by decide +kernel
theorem dX8_says_64 : decode cX8_says 64 = .ok (.ireturn, 1) := by decide +kernel
theorem dX8_step_0 : decode cX8_step 0 = .ok (.aload_n 0, 1) := by decide +kernel
theorem dX8_step_1 : decode cX8_step 1 = .ok (.aload_n 0, 1) := by decide +kernel
theorem dX8_step_2 : decode cX8_step 2 = .ok (.aload_n 0, 1) := by decide +kernel
theorem dX8_step_3 : decode cX8_step 3 = .ok (.getfield 19, 3) := by decide +kernel
theorem dX8_step_6 : decode cX8_step 6 = .ok (.bipush 32, 2) := by decide +kernel
theorem dX8_step_8 : decode cX8_step 8 = .ok (.bipush 32, 2) := by decide +kernel
theorem dX8_step_10 : decode cX8_step 10 = .ok (.invokevirtual 109, 3) := by decide +kernel
theorem dX8_step_13 : decode cX8_step 13 = .ok (.putfield 32, 3) := by decide +kernel
theorem dX8_step_16 : decode cX8_step 16 = .ok (.aload_n 0, 1) := by decide +kernel
theorem dX8_step_17 : decode cX8_step 17 = .ok (.iconst (-1), 1) := by decide +kernel
theorem dX8_step_18 : decode cX8_step 18 = .ok (.putfield 82, 3) := by decide +kernel
theorem dX8_step_21 : decode cX8_step 21 = .ok (.aload_n 0, 1) := by decide +kernel
theorem dX8_step_22 : decode cX8_step 22 = .ok (.getfield 32, 3) := by decide +kernel
theorem dX8_step_25 : decode cX8_step 25 = .ok (.aload_n 0, 1) := by decide +kernel
theorem dX8_step_26 : decode cX8_step 26 = .ok (.getfield 15, 3) := by decide +kernel
theorem dX8_step_29 : decode cX8_step 29 = .ok (.if_icmp .lt 19, 3) := by decide +kernel
theorem dX8_step_32 : decode cX8_step 32 = .ok (.aload_n 0, 1) := by decide +kernel
theorem dX8_step_33 : decode cX8_step 33 = .ok (.iconst 0, 1) := by decide +kernel
theorem dX8_step_34 : decode cX8_step 34 = .ok (.putfield 25, 3) := by decide +kernel
theorem dX8_step_37 : decode cX8_step 37 = .ok (.aload_n 0, 1) := by decide +kernel
theorem dX8_step_38 : decode cX8_step 38 = .ok (.aload_n 0, 1) := by decide +kernel
theorem dX8_step_39 : decode cX8_step 39 = .ok (.getfield 32, 3) := by decide +kernel
theorem dX8_step_42 : decode cX8_step 42 = .ok (.putfield 19, 3) := by decide +kernel
theorem dX8_step_45 : decode cX8_step 45 = .ok (.goto 130, 3) := by decide +kernel
theorem dX8_step_48 : decode cX8_step 48 = .ok (.aload_n 0, 1) := by decide +kernel
theorem dX8_step_49 : decode cX8_step 49 = .ok (.getfield 9, 3) := by decide +kernel
theorem dX8_step_52 : decode cX8_step 52 = .ok (.aload_n 0, 1) := by decide +kernel
theorem dX8_step_53 : decode cX8_step 53 = .ok (.getfield 32, 3) := by decide +kernel
theorem dX8_step_56 : decode cX8_step 56 = .ok (.caload, 1) := by decide +kernel
theorem dX8_step_57 : decode cX8_step 57 = .ok (.bipush 97, 2) := by decide +kernel
theorem dX8_step_59 : decode cX8_step 59 = .ok (.bipush 122, 2) := by decide +kernel
theorem dX8_step_61 : decode cX8_step 61 = .ok (.invokestatic 96, 3) := by decide +kernel
theorem dX8_step_64 : decode cX8_step 64 = .ok (.ifCond .eq 27, 3) := by decide +kernel
theorem dX8_step_67 : decode cX8_step 67 = .ok (.aload_n 0, 1) := by decide +kernel
theorem dX8_step_68 : decode cX8_step 68 = .ok (.iconst 1, 1) := by decide +kernel
theorem dX8_step_69 : decode cX8_step 69 = .ok (.putfield 25, 3) := by decide +kernel
theorem dX8_step_72 : decode cX8_step 72 = .ok (.aload_n 0, 1) := by decide +kernel
theorem dX8_step_73 : decode cX8_step 73 = .ok (.aload_n 0, 1) := by decide +kernel
theorem dX8_step_74 : decode cX8_step 74 = .ok (.aload_n 0, 1) := by decide +kernel
theorem dX8_step_75 : decode cX8_step 75 = .ok (.getfield 32, 3) := by decide +kernel
theorem dX8_step_78 : decode cX8_step 78 = .ok (.bipush 97, 2) := by decide +kernel
theorem dX8_step_80 : decode cX8_step 80 = .ok (.bipush 122, 2) := by decide +kernel
theorem dX8_step_82 : decode cX8_step 82 = .ok (.invokevirtual 109, 3) := by decide +kernel
theorem dX8_step_85 : decode cX8_step 85 = .ok (.putfield 19, 3) := by decide +kernel
theorem dX8_step_88 : decode cX8_step 88 = .ok (.goto 87, 3) := by decide +kernel
theorem dX8_step_91 : decode cX8_step 91 = .ok (.aload_n 0, 1) := by decide +kernel
theorem dX8_step_92 : decode cX8_step 92 = .ok (.getfield 9, 3) := by decide +kernel
theorem dX8_step_95 : decode cX8_step 95 = .ok (.aload_n 0, 1) := by decide +kernel
theorem dX8_step_96 : decode cX8_step 96 = .ok (.getfield 32, 3) := by decide +kernel
theorem dX8_step_99 : decode cX8_step 99 = .ok (.caload, 1) := by decide +kernel
theorem dX8_step_100 : decode cX8_step 100 = .ok (.bipush 48, 2) := by decide +kernel
theorem dX8_step_102 : decode cX8_step 102 = .ok (.bipush 57, 2) := by decide +kernel
theorem dX8_step_104 : decode cX8_step 104 = .ok (.invokestatic 96, 3) := by decide +kernel
theorem dX8_step_107 : decode cX8_step 107 = .ok (.ifCond .eq 35, 3) := by decide +kernel
theorem dX8_step_110 : decode cX8_step 110 = .ok (.aload_n 0, 1) := by decide +kernel
theorem dX8_step_111 : decode cX8_step 111 = .ok (.iconst 2, 1) := by decide +kernel
theorem dX8_step_112 : decode cX8_step 112 = .ok (.putfield 25, 3) := by decide +kernel
theorem dX8_step_115 : decode cX8_step 115 = .ok (.aload_n 0, 1) := by decide +kernel
theorem dX8_step_116 : decode cX8_step 116 = .ok (.aload_n 0, 1) := by decide +kernel
theorem dX8_step_117 : decode cX8_step 117 = .ok (.aload_n 0, 1) := by decide +kernel
theorem dX8_step_118 : decode cX8_step 118 = .ok (.getfield 32, 3) := by decide +kernel
theorem dX8_step_121 : decode cX8_step 121 = .ok (.bipush 48, 2) := by decide +kernel
theorem dX8_step_123 : decode cX8_step 123 = .ok (.bipush 57, 2) := by decide +kernel
theorem dX8_step_125 : decode cX8_step 125 = .ok (.invokevirtual 109, 3) := by decide +kernel
theorem dX8_step_128 : decode cX8_step 128 = .ok (.putfield 19, 3) := by decide +kernel
theorem dX8_step_131 : decode cX8_step 131 = .ok (.aload_n 0, 1) := by decide +kernel
theorem dX8_step_132 : decode cX8_step 132 = .ok (.aload_n 0, 1) := by decide +kernel
theorem dX8_step_133 : decode cX8_step 133 = .ok (.invokevirtual 113, 3) := by decide +kernel
theorem dX8_step_136 : decode cX8_step 136 = .ok (.putfield 82, 3) := by decide +kernel
theorem dX8_step_139 : decode cX8_step 139 = .ok (.goto 36, 3) := by decide +kernel
theorem dX8_step_142 : decode cX8_step 142 = .ok (.aload_n 0, 1) := by decide +kernel
theorem dX8_step_143 : decode cX8_step 143 = .ok (.aload_n 0, 1) := by decide +kernel
theorem dX8_step_144 : decode cX8_step 144 = .ok (.getfield 9, 3) := by decide +kernel
theorem dX8_step_147 : decode cX8_step 147 = .ok (.aload_n 0, 1) := by decide +kernel
theorem dX8_step_148 : decode cX8_step 148 = .ok (.getfield 32, 3) := by decide +kernel
theorem dX8_step_151 : decode cX8_step 151 = .ok (.caload, 1) := by decide +kernel
theorem dX8_step_152 : decode cX8_step 152 = .ok (.bipush 59, 2) := by decide +kernel
theorem dX8_step_154 : decode cX8_step 154 = .ok (.if_icmp .ne 7, 3) := by decide +kernel
theorem dX8_step_157 : decode cX8_step 157 = .ok (.iconst 3, 1) := by decide +kernel
theorem dX8_step_158 : decode cX8_step 158 = .ok (.goto 4, 3) := by decide +kernel
theorem dX8_step_161 : decode cX8_step 161 = .ok (.iconst 4, 1) := by decide +kernel
theorem dX8_step_162 : decode cX8_step 162 = .ok (.putfield 25, 3) := by decide +kernel
theorem dX8_step_165 : decode cX8_step 165 = .ok (.aload_n 0, 1) := by decide +kernel
theorem dX8_step_166 : decode cX8_step 166 = .ok (.aload_n 0, 1) := by decide +kernel
theorem dX8_step_167 : decode cX8_step 167 = .ok (.getfield 32, 3) := by decide +kernel
theorem dX8_step_170 : decode cX8_step 170 = .ok (.iconst 1, 1) := by decide +kernel
theorem dX8_step_171 : decode cX8_step 171 = .ok (.iadd, 1) := by decide +kernel
theorem dX8_step_172 : decode cX8_step 172 = .ok (.putfield 19, 3) := by decide +kernel
theorem dX8_step_175 : decode cX8_step 175 = .ok (.return_, 1) := by decide +kernel
theorem dX8_behindRun_0 : decode cX8_behindRun 0 = .ok (.iload_n 1, 1) := by decide +kernel
theorem dX8_behindRun_1 : decode cX8_behindRun 1 = .ok (.istore 4, 2) := by decide +kernel
theorem dX8_behindRun_3 : decode cX8_behindRun 3 = .ok (.iload 4, 2) := by decide +kernel
theorem dX8_behindRun_5 : decode cX8_behindRun 5 = .ok (.aload_n 0, 1) := by decide +kernel
theorem dX8_behindRun_6 : decode cX8_behindRun 6 = .ok (.getfield 15, 3) := by decide +kernel
theorem dX8_behindRun_9 : decode cX8_behindRun 9 = .ok (.if_icmp .ge 31, 3) := by decide +kernel
theorem dX8_behindRun_12 : decode cX8_behindRun 12 = .ok (.aload_n 0, 1) := by decide +kernel
theorem dX8_behindRun_13 : decode cX8_behindRun 13 = .ok (.getfield 9, 3) := by decide +kernel
theorem dX8_behindRun_16 : decode cX8_behindRun 16 = .ok (.iload 4, 2) := by decide +kernel
theorem dX8_behindRun_18 : decode cX8_behindRun 18 = .ok (.caload, 1) := by decide +kernel
theorem dX8_behindRun_19 : decode cX8_behindRun 19 = .ok (.iload_n 2, 1) := by decide +kernel
theorem dX8_behindRun_20 : decode cX8_behindRun 20 = .ok (.if_icmp .lt 20, 3) := by decide +kernel
theorem dX8_behindRun_23 : decode cX8_behindRun 23 = .ok (.aload_n 0, 1) := by decide +kernel
theorem dX8_behindRun_24 : decode cX8_behindRun 24 = .ok (.getfield 9, 3) := by decide +kernel
theorem dX8_behindRun_27 : decode cX8_behindRun 27 = .ok (.iload 4, 2) := by decide +kernel
theorem dX8_behindRun_29 : decode cX8_behindRun 29 = .ok (.caload, 1) := by decide +kernel
theorem dX8_behindRun_30 : decode cX8_behindRun 30 = .ok (.iload_n 3, 1) := by decide +kernel
theorem dX8_behindRun_31 : decode cX8_behindRun 31 = .ok (.if_icmp .gt 9, 3) := by decide +kernel
theorem dX8_behindRun_34 : decode cX8_behindRun 34 = .ok (.iinc 4 1, 3) := by decide +kernel
theorem dX8_behindRun_37 : decode cX8_behindRun 37 = .ok (.goto (-34), 3) := by decide +kernel
theorem dX8_behindRun_40 : decode cX8_behindRun 40 = .ok (.iload 4, 2) := by decide +kernel
theorem dX8_behindRun_42 : decode cX8_behindRun 42 = .ok (.ireturn, 1) := by decide +kernel
theorem dX8_valueOfFigures_0 : decode cX8_valueOfFigures 0 = .ok (.aload_n 0, 1) := by decide +kernel
theorem dX8_valueOfFigures_1 : decode cX8_valueOfFigures 1 = .ok (.getfield 19, 3) := by decide +kernel
theorem dX8_valueOfFigures_4 : decode cX8_valueOfFigures 4 = .ok (.aload_n 0, 1) := by decide +kernel
theorem dX8_valueOfFigures_5 : decode cX8_valueOfFigures 5 = .ok (.getfield 32, 3) := by decide +kernel
theorem dX8_valueOfFigures_8 : decode cX8_valueOfFigures 8 = .ok (.isub, 1) := by decide +kernel
theorem dX8_valueOfFigures_9 : decode cX8_valueOfFigures 9 = .ok (.iconst 2, 1) := by decide +kernel
theorem dX8_valueOfFigures_10 : decode cX8_valueOfFigures 10 = .ok (.if_icmp .le 5, 3) := by decide +kernel
theorem dX8_valueOfFigures_13 : decode cX8_valueOfFigures 13 = .ok (.iconst (-1), 1) := by decide +kernel
theorem dX8_valueOfFigures_14 : decode cX8_valueOfFigures 14 = .ok (.ireturn, 1) := by decide +kernel
theorem dX8_valueOfFigures_15 : decode cX8_valueOfFigures 15 = .ok (.iconst 0, 1) := by decide +kernel
theorem dX8_valueOfFigures_16 : decode cX8_valueOfFigures 16 = .ok (.istore_n 1, 1) := by decide +kernel
theorem dX8_valueOfFigures_17 : decode cX8_valueOfFigures 17 = .ok (.aload_n 0, 1) := by decide +kernel
theorem dX8_valueOfFigures_18 : decode cX8_valueOfFigures 18 = .ok (.getfield 32, 3) := by decide +kernel
theorem dX8_valueOfFigures_21 : decode cX8_valueOfFigures 21 = .ok (.istore_n 2, 1) := by decide +kernel
theorem dX8_valueOfFigures_22 : decode cX8_valueOfFigures 22 = .ok (.iload_n 2, 1) := by decide +kernel
theorem dX8_valueOfFigures_23 : decode cX8_valueOfFigures 23 = .ok (.aload_n 0, 1) := by decide +kernel
theorem dX8_valueOfFigures_24 : decode cX8_valueOfFigures 24 = .ok (.getfield 19, 3) := by decide +kernel
theorem dX8_valueOfFigures_27 : decode cX8_valueOfFigures 27 = .ok (.if_icmp .ge 24, 3) := by decide +kernel
theorem dX8_valueOfFigures_30 : decode cX8_valueOfFigures 30 = .ok (.bipush 10, 2) := by decide +kernel
theorem dX8_valueOfFigures_32 : decode cX8_valueOfFigures 32 = .ok (.iload_n 1, 1) := by decide +kernel
theorem dX8_valueOfFigures_33 : decode cX8_valueOfFigures 33 = .ok (.imul, 1) := by decide +kernel
theorem dX8_valueOfFigures_34 : decode cX8_valueOfFigures 34 = .ok (.aload_n 0, 1) := by decide +kernel
theorem dX8_valueOfFigures_35 : decode cX8_valueOfFigures 35 = .ok (.getfield 9, 3) := by decide +kernel
theorem dX8_valueOfFigures_38 : decode cX8_valueOfFigures 38 = .ok (.iload_n 2, 1) := by decide +kernel
theorem dX8_valueOfFigures_39 : decode cX8_valueOfFigures 39 = .ok (.caload, 1) := by decide +kernel
theorem dX8_valueOfFigures_40 : decode cX8_valueOfFigures 40 = .ok (.bipush 48, 2) := by decide +kernel
theorem dX8_valueOfFigures_42 : decode cX8_valueOfFigures 42 = .ok (.isub, 1) := by decide +kernel
theorem dX8_valueOfFigures_43 : decode cX8_valueOfFigures 43 = .ok (.iadd, 1) := by decide +kernel
theorem dX8_valueOfFigures_44 : decode cX8_valueOfFigures 44 = .ok (.istore_n 1, 1) := by decide +kernel
theorem dX8_valueOfFigures_45 : decode cX8_valueOfFigures 45 = .ok (.iinc 2 1, 3) := by decide +kernel
theorem dX8_valueOfFigures_48 : decode cX8_valueOfFigures 48 = .ok (.goto (-26), 3) := by decide +kernel
theorem dX8_valueOfFigures_51 : decode cX8_valueOfFigures 51 = .ok (.iload_n 1, 1) := by decide +kernel
theorem dX8_valueOfFigures_52 : decode cX8_valueOfFigures 52 = .ok (.ireturn, 1) := by decide +kernel
theorem dX9_init_0 : decode cX9_init 0 = .ok (.aload_n 0, 1) := by decide +kernel
theorem dX9_init_1 : decode cX9_init 1 = .ok (.invokespecial 1, 3) := by decide +kernel
theorem dX9_init_4 : decode cX9_init 4 = .ok (.return_, 1) := by decide +kernel
theorem dX9_sounds_0 : decode cX9_sounds 0 = .ok (.aload_n 0, 1) := by decide +kernel
theorem dX9_sounds_1 : decode cX9_sounds 1 = .ok (.iload_n 1, 1) := by decide +kernel
theorem dX9_sounds_2 : decode cX9_sounds 2 = .ok (.iload_n 2, 1) := by decide +kernel
theorem dX9_sounds_3 : decode cX9_sounds 3 = .ok (.iload_n 3, 1) := by decide +kernel
theorem dX9_sounds_4 : decode cX9_sounds 4 = .ok (.invokespecial 7, 3) := by decide +kernel
theorem dX9_sounds_7 : decode cX9_sounds 7 = .ok (.ifCond .ne 20, 3) := by decide +kernel
theorem dX9_sounds_10 : decode cX9_sounds 10 = .ok (.iload_n 1, 1) := by decide +kernel
theorem dX9_sounds_11 : decode cX9_sounds 11 = .ok (.bipush 41, 2) := by decide +kernel
theorem dX9_sounds_13 : decode cX9_sounds 13 = .ok (.irem, 1) := by decide +kernel
theorem dX9_sounds_14 : decode cX9_sounds 14 = .ok (.bipush 20, 2) := by decide +kernel
theorem dX9_sounds_16 : decode cX9_sounds 16 = .ok (.if_icmp .ne 15, 3) := by decide +kernel
theorem dX9_sounds_19 : decode cX9_sounds 19 = .ok (.iload_n 3, 1) := by decide +kernel
theorem dX9_sounds_20 : decode cX9_sounds 20 = .ok (.iload_n 2, 1) := by decide +kernel
theorem dX9_sounds_21 : decode cX9_sounds 21 = .ok (.isub, 1) := by decide +kernel
theorem dX9_sounds_22 : decode cX9_sounds 22 = .ok (.bipush 10, 2) := by decide +kernel
theorem dX9_sounds_24 : decode cX9_sounds 24 = .ok (.if_icmp .ge 7, 3) := by decide +kernel
theorem dX9_sounds_27 : decode cX9_sounds 27 = .ok (.iconst 1, 1) := by decide +kernel
theorem dX9_sounds_28 : decode cX9_sounds 28 = .ok (.goto 4, 3) := by decide +kernel
theorem dX9_sounds_31 : decode cX9_sounds 31 = .ok (.iconst 0, 1) := by decide +kernel
theorem dX9_sounds_32 : decode cX9_sounds 32 = .ok (.ireturn, 1) := by decide +kernel
theorem dX9_loud_0 : decode cX9_loud 0 = .ok (.iconst 2, 1) := by decide +kernel
theorem dX9_loud_1 : decode cX9_loud 1 = .ok (.aload_n 0, 1) := by decide +kernel
theorem dX9_loud_2 : decode cX9_loud 2 = .ok (.invokespecial 11, 3) := by decide +kernel
theorem dX9_loud_5 : decode cX9_loud 5 = .ok (.imul, 1) := by decide +kernel
theorem dX9_loud_6 : decode cX9_loud 6 = .ok (.ireturn, 1) := by decide +kernel
theorem dX10_init_0 : decode cX10_init 0 = .ok (.aload_n 0, 1) := by decide +kernel
theorem dX10_init_1 : decode cX10_init 1 = .ok (.invokespecial 1, 3) := by decide +kernel
theorem dX10_init_4 : decode cX10_init 4 = .ok (.aload_n 0, 1) := by decide +kernel
theorem dX10_init_5 : decode cX10_init 5 = .ok (.new 7, 3) := by decide +kernel
theorem dX10_init_8 : decode cX10_init 8 = .ok (.dup, 1) := by decide +kernel
theorem dX10_init_9 : decode cX10_init 9 = .ok (.invokespecial 9, 3) := by decide +kernel
theorem dX10_init_12 : decode cX10_init 12 = .ok (.putfield 10, 3) := by decide +kernel
theorem dX10_init_15 : decode cX10_init 15 = .ok (.aload_n 0, 1) := by decide +kernel
theorem dX10_init_16 : decode cX10_init 16 = .ok (.new 16, 3) := by decide +kernel
theorem dX10_init_19 : decode cX10_init 19 = .ok (.dup, 1) := by decide +kernel
theorem dX10_init_20 : decode cX10_init 20 = .ok (.invokespecial 18, 3) := by decide +kernel
theorem dX10_init_23 : decode cX10_init 23 = .ok (.putfield 19, 3) := by decide +kernel
theorem dX10_init_26 : decode cX10_init 26 = .ok (.aload_n 0, 1) := by decide +kernel
theorem dX10_init_27 : decode cX10_init 27 = .ok (.new 23, 3) := by decide +kernel
theorem dX10_init_30 : decode cX10_init 30 = .ok (.dup, 1) := by decide +kernel
theorem dX10_init_31 : decode cX10_init 31 = .ok (.invokespecial 25, 3) := by decide +kernel
theorem dX10_init_34 : decode cX10_init 34 = .ok (.putfield 26, 3) := by decide +kernel
theorem dX10_init_37 : decode cX10_init 37 = .ok (.aload_n 0, 1) := by decide +kernel
theorem dX10_init_38 : decode cX10_init 38 = .ok (.new 23, 3) := by decide +kernel
theorem dX10_init_41 : decode cX10_init 41 = .ok (.dup, 1) := by decide +kernel
theorem dX10_init_42 : decode cX10_init 42 = .ok (.invokespecial 25, 3) := by decide +kernel
theorem dX10_init_45 : decode cX10_init 45 = .ok (.putfield 30, 3) := by decide +kernel
theorem dX10_init_48 : decode cX10_init 48 = .ok (.aload_n 0, 1) := by decide +kernel
theorem dX10_init_49 : decode cX10_init 49 = .ok (.iconst 2, 1) := by decide +kernel
theorem dX10_init_50 : decode cX10_init 50 = .ok (.anewarray 23, 3) := by decide +kernel
theorem dX10_init_53 : decode cX10_init 53 = .ok (.dup, 1) := by decide +kernel
theorem dX10_init_54 : decode cX10_init 54 = .ok (.iconst 0, 1) := by decide +kernel
theorem dX10_init_55 : decode cX10_init 55 = .ok (.new 23, 3) := by decide +kernel
theorem dX10_init_58 : decode cX10_init 58 = .ok (.dup, 1) := by decide +kernel
theorem dX10_init_59 : decode cX10_init 59 = .ok (.invokespecial 25, 3) := by decide +kernel
theorem dX10_init_62 : decode cX10_init 62 = .ok (.aastore, 1) := by decide +kernel
theorem dX10_init_63 : decode cX10_init 63 = .ok (.dup, 1) := by decide +kernel
theorem dX10_init_64 : decode cX10_init 64 = .ok (.iconst 1, 1) := by decide +kernel
theorem dX10_init_65 : decode cX10_init 65 = .ok (.new 23, 3) := by decide +kernel
theorem dX10_init_68 : decode cX10_init 68 = .ok (.dup, 1) := by decide +kernel
theorem dX10_init_69 : decode cX10_init 69 = .ok (.invokespecial 25, 3) := by decide +kernel
theorem dX10_init_72 : decode cX10_init 72 = .ok (.aastore, 1) := by decide +kernel
theorem dX10_init_73 : decode cX10_init 73 = .ok (.putfield 33, 3) := by decide +kernel
theorem dX10_init_76 : decode cX10_init 76 = .ok (.aload_n 0, 1) := by decide +kernel
theorem dX10_init_77 : decode cX10_init 77 = .ok (.iconst 2, 1) := by decide +kernel
theorem dX10_init_78 : decode cX10_init 78 = .ok (.newarray .boolean, 2) := by decide +kernel
theorem dX10_init_80 : decode cX10_init 80 = .ok (.putfield 37, 3) := by decide +kernel
theorem dX10_init_83 : decode cX10_init 83 = .ok (.aload_n 0, 1) := by decide +kernel
theorem dX10_init_84 : decode cX10_init 84 = .ok (.lconst 0, 1) := by decide +kernel
theorem dX10_init_85 : decode cX10_init 85 = .ok (.putfield 41, 3) := by decide +kernel
theorem dX10_init_88 : decode cX10_init 88 = .ok (.aload_n 0, 1) := by decide +kernel
theorem dX10_init_89 : decode cX10_init 89 = .ok (.lconst 1, 1) := by decide +kernel
theorem dX10_init_90 : decode cX10_init 90 = .ok (.putfield 45, 3) := by decide +kernel
theorem dX10_init_93 : decode cX10_init 93 = .ok (.return_, 1) := by decide +kernel
theorem dX10_house_0 : decode cX10_house 0 = .ok (.aload_n 0, 1) := by decide +kernel
theorem dX10_house_1 : decode cX10_house 1 = .ok (.getfield 26, 3) := by decide +kernel
theorem dX10_house_4 : decode cX10_house 4 = .ok (.getfield 48, 3) := by decide +kernel
theorem dX10_house_7 : decode cX10_house 7 = .ok (.istore_n 1, 1) := by decide +kernel
theorem dX10_house_8 : decode cX10_house 8 = .ok (.aload_n 0, 1) := by decide +kernel
theorem dX10_house_9 : decode cX10_house 9 = .ok (.getfield 26, 3) := by decide +kernel
theorem dX10_house_12 : decode cX10_house 12 = .ok (.invokevirtual 52, 3) := by decide +kernel
theorem dX10_house_15 : decode cX10_house 15 = .ok (.iload_n 1, 1) := by decide +kernel
theorem dX10_house_16 : decode cX10_house 16 = .ok (.ireturn, 1) := by decide +kernel
theorem dX10_door_0 : decode cX10_door 0 = .ok (.iload_n 1, 1) := by decide +kernel
theorem dX10_door_1 : decode cX10_door 1 = .ok (.invokestatic 55, 3) := by decide +kernel
theorem dX10_door_4 : decode cX10_door 4 = .ok (.ifCond .eq 25, 3) := by decide +kernel
theorem dX10_door_7 : decode cX10_door 7 = .ok (.iload_n 2, 1) := by decide +kernel
theorem dX10_door_8 : decode cX10_door 8 = .ok (.invokestatic 55, 3) := by decide +kernel
theorem dX10_door_11 : decode cX10_door 11 = .ok (.ifCond .eq 18, 3) := by decide +kernel
theorem dX10_door_14 : decode cX10_door 14 = .ok (.iload_n 1, 1) := by decide +kernel
theorem dX10_door_15 : decode cX10_door 15 = .ok (.iload_n 2, 1) := by decide +kernel
theorem dX10_door_16 : decode cX10_door 16 = .ok (.if_icmp .eq 13, 3) := by decide +kernel
theorem dX10_door_19 : decode cX10_door 19 = .ok (.iload_n 3, 1) := by decide +kernel
theorem dX10_door_20 : decode cX10_door 20 = .ok (.iconst 1, 1) := by decide +kernel
theorem dX10_door_21 : decode cX10_door 21 = .ok (.bipush 9, 2) := by decide +kernel
theorem dX10_door_23 : decode cX10_door 23 = .ok (.invokestatic 59, 3) := by decide +kernel
theorem dX10_door_26 : decode cX10_door 26 = .ok (.ifCond .ne 16, 3) := by decide +kernel
theorem dX10_door_29 : decode cX10_door 29 = .ok (.aload_n 0, 1) := by decide +kernel
theorem dX10_door_30 : decode cX10_door 30 = .ok (.dup, 1) := by decide +kernel
theorem dX10_door_31 : decode cX10_door 31 = .ok (.getfield 63, 3) := by decide +kernel
theorem dX10_door_34 : decode cX10_door 34 = .ok (.iconst 1, 1) := by decide +kernel
theorem dX10_door_35 : decode cX10_door 35 = .ok (.iadd, 1) := by decide +kernel
theorem dX10_door_36 : decode cX10_door 36 = .ok (.putfield 63, 3) := by decide +kernel
theorem dX10_door_39 : decode cX10_door 39 = .ok (.bipush (-10), 2) := by decide +kernel
theorem dX10_door_41 : decode cX10_door 41 = .ok (.ireturn, 1) := by decide +kernel
theorem dX10_door_42 : decode cX10_door 42 = .ok (.aload_n 0, 1) := by decide +kernel
theorem dX10_door_43 : decode cX10_door 43 = .ok (.getfield 26, 3) := by decide +kernel
theorem dX10_door_46 : decode cX10_door 46 = .ok (.iload_n 1, 1) := by decide +kernel
theorem dX10_door_47 : decode cX10_door 47 = .ok (.iload_n 2, 1) := by decide +kernel
theorem dX10_door_48 : decode cX10_door 48 = .ok (.invokevirtual 66, 3) := by decide +kernel
theorem dX10_door_51 : decode cX10_door 51 = .ok (.istore 4, 2) := by decide +kernel
theorem dX10_door_53 : decode cX10_door 53 = .ok (.aload_n 0, 1) := by decide +kernel
theorem dX10_door_54 : decode cX10_door 54 = .ok (.getfield 26, 3) := by decide +kernel
theorem dX10_door_57 : decode cX10_door 57 = .ok (.iload_n 1, 1) := by decide +kernel
theorem dX10_door_58 : decode cX10_door 58 = .ok (.iload_n 2, 1) := by decide +kernel
theorem dX10_door_59 : decode cX10_door 59 = .ok (.iload_n 3, 1) := by decide +kernel
theorem dX10_door_60 : decode cX10_door 60 = .ok (.invokevirtual 70, 3) := by decide +kernel
theorem dX10_door_63 : decode cX10_door 63 = .ok (.iload 4, 2) := by decide +kernel
theorem dX10_door_65 : decode cX10_door 65 = .ok (.ireturn, 1) := by decide +kernel
theorem dX10_alarm_0 : decode cX10_alarm 0 = .ok (.iload_n 1, 1) := by decide +kernel
theorem dX10_alarm_1 : decode cX10_alarm 1 = .ok (.iconst 0, 1) := by decide +kernel
theorem dX10_alarm_2 : decode cX10_alarm 2 = .ok (.iconst 5, 1) := by decide +kernel
theorem dX10_alarm_3 : decode cX10_alarm 3 = .ok (.invokestatic 59, 3) := by decide +kernel
theorem dX10_alarm_6 : decode cX10_alarm 6 = .ok (.ifCond .eq 20, 3) := by decide +kernel
theorem dX10_alarm_9 : decode cX10_alarm 9 = .ok (.iload_n 2, 1) := by decide +kernel
theorem dX10_alarm_10 : decode cX10_alarm 10 = .ok (.invokestatic 55, 3) := by decide +kernel
theorem dX10_alarm_13 : decode cX10_alarm 13 = .ok (.ifCond .eq 13, 3) := by decide +kernel
theorem dX10_alarm_16 : decode cX10_alarm 16 = .ok (.iload_n 3, 1) := by decide +kernel
theorem dX10_alarm_17 : decode cX10_alarm 17 = .ok (.iconst 0, 1) := by decide +kernel
theorem dX10_alarm_18 : decode cX10_alarm 18 = .ok (.bipush 99, 2) := by decide +kernel
theorem dX10_alarm_20 : decode cX10_alarm 20 = .ok (.invokestatic 59, 3) := by decide +kernel
theorem dX10_alarm_23 : decode cX10_alarm 23 = .ok (.ifCond .ne 8, 3) := by decide +kernel
theorem dX10_alarm_26 : decode cX10_alarm 26 = .ok (.aload_n 0, 1) := by decide +kernel
theorem dX10_alarm_27 : decode cX10_alarm 27 = .ok (.invokevirtual 74, 3) := by decide +kernel
theorem dX10_alarm_30 : decode cX10_alarm 30 = .ok (.ireturn, 1) := by decide +kernel
theorem dX10_alarm_31 : decode cX10_alarm 31 = .ok (.aload_n 0, 1) := by decide +kernel
theorem dX10_alarm_32 : decode cX10_alarm 32 = .ok (.getfield 26, 3) := by decide +kernel
theorem dX10_alarm_35 : decode cX10_alarm 35 = .ok (.getfield 48, 3) := by decide +kernel
theorem dX10_alarm_38 : decode cX10_alarm 38 = .ok (.bipush 6, 2) := by decide +kernel
theorem dX10_alarm_40 : decode cX10_alarm 40 = .ok (.if_icmp .lt 8, 3) := by decide +kernel
theorem dX10_alarm_43 : decode cX10_alarm 43 = .ok (.aload_n 0, 1) := by decide +kernel
theorem dX10_alarm_44 : decode cX10_alarm 44 = .ok (.invokevirtual 78, 3) := by decide +kernel
theorem dX10_alarm_47 : decode cX10_alarm 47 = .ok (.ireturn, 1) := by decide +kernel
theorem dX10_alarm_48 : decode cX10_alarm 48 = .ok (.aload_n 0, 1) := by decide +kernel
theorem dX10_alarm_49 : decode cX10_alarm 49 = .ok (.getfield 26, 3) := by decide +kernel
theorem dX10_alarm_52 : decode cX10_alarm 52 = .ok (.iload_n 1, 1) := by decide +kernel
theorem dX10_alarm_53 : decode cX10_alarm 53 = .ok (.iload_n 2, 1) := by decide +kernel
theorem dX10_alarm_54 : decode cX10_alarm 54 = .ok (.iload_n 3, 1) := by decide +kernel
theorem dX10_alarm_55 : decode cX10_alarm 55 = .ok (.invokevirtual 81, 3) := by decide +kernel
theorem dX10_alarm_58 : decode cX10_alarm 58 = .ok (.aload_n 0, 1) := by decide +kernel
theorem dX10_alarm_59 : decode cX10_alarm 59 = .ok (.getfield 26, 3) := by decide +kernel
theorem dX10_alarm_62 : decode cX10_alarm 62 = .ok (.getfield 48, 3) := by decide +kernel
theorem dX10_alarm_65 : decode cX10_alarm 65 = .ok (.iconst 1, 1) := by decide +kernel
theorem dX10_alarm_66 : decode cX10_alarm 66 = .ok (.isub, 1) := by decide +kernel
theorem dX10_alarm_67 : decode cX10_alarm 67 = .ok (.ireturn, 1) := by decide +kernel
theorem dX10_type_0 : decode cX10_type 0 = .ok (.iload_n 1, 1) := by decide +kernel
theorem dX10_type_1 : decode cX10_type 1 = .ok (.iconst 0, 1) := by decide +kernel
theorem dX10_type_2 : decode cX10_type 2 = .ok (.bipush 127, 2) := by decide +kernel
theorem dX10_type_4 : decode cX10_type 4 = .ok (.invokestatic 59, 3) := by decide +kernel
theorem dX10_type_7 : decode cX10_type 7 = .ok (.ifCond .ne 8, 3) := by decide +kernel
theorem dX10_type_10 : decode cX10_type 10 = .ok (.aload_n 0, 1) := by decide +kernel
theorem dX10_type_11 : decode cX10_type 11 = .ok (.invokevirtual 74, 3) := by decide +kernel
theorem dX10_type_14 : decode cX10_type 14 = .ok (.ireturn, 1) := by decide +kernel
theorem dX10_type_15 : decode cX10_type 15 = .ok (.aload_n 0, 1) := by decide +kernel
theorem dX10_type_16 : decode cX10_type 16 = .ok (.getfield 10, 3) := by decide +kernel
theorem dX10_type_19 : decode cX10_type 19 = .ok (.getfield 84, 3) := by decide +kernel
theorem dX10_type_22 : decode cX10_type 22 = .ok (.sipush 150, 3) := by decide +kernel
theorem dX10_type_25 : decode cX10_type 25 = .ok (.if_icmp .lt 8, 3) := by decide +kernel
theorem dX10_type_28 : decode cX10_type 28 = .ok (.aload_n 0, 1) := by decide +kernel
theorem dX10_type_29 : decode cX10_type 29 = .ok (.invokevirtual 78, 3) := by decide +kernel
theorem dX10_type_32 : decode cX10_type 32 = .ok (.ireturn, 1) := by decide +kernel
theorem dX10_type_33 : decode cX10_type 33 = .ok (.aload_n 0, 1) := by decide +kernel
theorem dX10_type_34 : decode cX10_type 34 = .ok (.getfield 10, 3) := by decide +kernel
theorem dX10_type_37 : decode cX10_type 37 = .ok (.iload_n 1, 1) := by decide +kernel
theorem dX10_type_38 : decode cX10_type 38 = .ok (.i2c, 1) := by decide +kernel
theorem dX10_type_39 : decode cX10_type 39 = .ok (.invokevirtual 87, 3) := by decide +kernel
theorem dX10_type_42 : decode cX10_type 42 = .ok (.aload_n 0, 1) := by decide +kernel
theorem dX10_type_43 : decode cX10_type 43 = .ok (.getfield 10, 3) := by decide +kernel
theorem dX10_type_46 : decode cX10_type 46 = .ok (.getfield 84, 3) := by decide +kernel
theorem dX10_type_49 : decode cX10_type 49 = .ok (.ireturn, 1) := by decide +kernel
theorem dX10_clear_0 : decode cX10_clear 0 = .ok (.aload_n 0, 1) := by decide +kernel
theorem dX10_clear_1 : decode cX10_clear 1 = .ok (.getfield 10, 3) := by decide +kernel
theorem dX10_clear_4 : decode cX10_clear 4 = .ok (.getfield 84, 3) := by decide +kernel
theorem dX10_clear_7 : decode cX10_clear 7 = .ok (.istore_n 1, 1) := by decide +kernel
theorem dX10_clear_8 : decode cX10_clear 8 = .ok (.aload_n 0, 1) := by decide +kernel
theorem dX10_clear_9 : decode cX10_clear 9 = .ok (.getfield 10, 3) := by decide +kernel
theorem dX10_clear_12 : decode cX10_clear 12 = .ok (.iconst 0, 1) := by decide +kernel
theorem dX10_clear_13 : decode cX10_clear 13 = .ok (.putfield 84, 3) := by decide +kernel
theorem dX10_clear_16 : decode cX10_clear 16 = .ok (.iload_n 1, 1) := by decide +kernel
theorem dX10_clear_17 : decode cX10_clear 17 = .ok (.ireturn, 1) := by decide +kernel
theorem dX10_read_0 : decode cX10_read 0 = .ok (.aload_n 0, 1) := by decide +kernel
theorem dX10_read_1 : decode cX10_read 1 = .ok (.getfield 30, 3) := by decide +kernel
theorem dX10_read_4 : decode cX10_read 4 = .ok (.invokevirtual 52, 3) := by decide +kernel
theorem dX10_read_7 : decode cX10_read 7 = .ok (.aload_n 0, 1) := by decide +kernel
theorem dX10_read_8 : decode cX10_read 8 = .ok (.getfield 10, 3) := by decide +kernel
theorem dX10_read_11 : decode cX10_read 11 = .ok (.aload_n 0, 1) := by decide +kernel
theorem dX10_read_12 : decode cX10_read 12 = .ok (.getfield 30, 3) := by decide +kernel
theorem dX10_read_15 : decode cX10_read 15 = .ok (.invokevirtual 91, 3) := by decide +kernel
theorem dX10_read_18 : decode cX10_read 18 = .ok (.istore_n 1, 1) := by decide +kernel
theorem dX10_read_19 : decode cX10_read 19 = .ok (.iload_n 1, 1) := by decide +kernel
theorem dX10_read_20 : decode cX10_read 20 = .ok (.ifCond .le 21, 3) := by decide +kernel
theorem dX10_read_23 : decode cX10_read 23 = .ok (.aload_n 0, 1) := by decide +kernel
theorem dX10_read_24 : decode cX10_read 24 = .ok (.getfield 26, 3) := by decide +kernel
theorem dX10_read_27 : decode cX10_read 27 = .ok (.astore_n 2, 1) := by decide +kernel
theorem dX10_read_28 : decode cX10_read 28 = .ok (.aload_n 0, 1) := by decide +kernel
theorem dX10_read_29 : decode cX10_read 29 = .ok (.aload_n 0, 1) := by decide +kernel
theorem dX10_read_30 : decode cX10_read 30 = .ok (.getfield 30, 3) := by decide +kernel
theorem dX10_read_33 : decode cX10_read 33 = .ok (.putfield 26, 3) := by decide +kernel
theorem dX10_read_36 : decode cX10_read 36 = .ok (.aload_n 0, 1) := by decide +kernel
theorem dX10_read_37 : decode cX10_read 37 = .ok (.aload_n 2, 1) := by decide +kernel
theorem dX10_read_38 : decode cX10_read 38 = .ok (.putfield 30, 3) := by decide +kernel
theorem dX10_read_41 : decode cX10_read 41 = .ok (.iload_n 1, 1) := by decide +kernel
theorem dX10_read_42 : decode cX10_read 42 = .ok (.ireturn, 1) := by decide +kernel
theorem dX10_waits_0 : decode cX10_waits 0 = .ok (.iload_n 1, 1) := by decide +kernel
theorem dX10_waits_1 : decode cX10_waits 1 = .ok (.iconst 1, 1) := by decide +kernel
theorem dX10_waits_2 : decode cX10_waits 2 = .ok (.bipush 99, 2) := by decide +kernel
theorem dX10_waits_4 : decode cX10_waits 4 = .ok (.invokestatic 59, 3) := by decide +kernel
theorem dX10_waits_7 : decode cX10_waits 7 = .ok (.ifCond .ne 8, 3) := by decide +kernel
theorem dX10_waits_10 : decode cX10_waits 10 = .ok (.aload_n 0, 1) := by decide +kernel
theorem dX10_waits_11 : decode cX10_waits 11 = .ok (.invokevirtual 74, 3) := by decide +kernel
theorem dX10_waits_14 : decode cX10_waits 14 = .ok (.ireturn, 1) := by decide +kernel
theorem dX10_waits_15 : decode cX10_waits 15 = .ok (.aload_n 0, 1) := by decide +kernel
theorem dX10_waits_16 : decode cX10_waits 16 = .ok (.getfield 26, 3) := by decide +kernel
theorem dX10_waits_19 : decode cX10_waits 19 = .ok (.invokevirtual 95, 3) := by decide +kernel
theorem dX10_waits_22 : decode cX10_waits 22 = .ok (.aload_n 0, 1) := by decide +kernel
theorem dX10_waits_23 : decode cX10_waits 23 = .ok (.getfield 26, 3) := by decide +kernel
theorem dX10_waits_26 : decode cX10_waits 26 = .ok (.iload_n 1, 1) := by decide +kernel
theorem dX10_waits_27 : decode cX10_waits 27 = .ok (.invokevirtual 98, 3) := by decide +kernel
theorem dX10_waits_30 : decode cX10_waits 30 = .ok (.aload_n 0, 1) := by decide +kernel
theorem dX10_waits_31 : decode cX10_waits 31 = .ok (.getfield 26, 3) := by decide +kernel
theorem dX10_waits_34 : decode cX10_waits 34 = .ok (.aload_n 0, 1) := by decide +kernel
theorem dX10_waits_35 : decode cX10_waits 35 = .ok (.getfield 26, 3) := by decide +kernel
theorem dX10_waits_38 : decode cX10_waits 38 = .ok (.getfield 102, 3) := by decide +kernel
theorem dX10_waits_41 : decode cX10_waits 41 = .ok (.getfield 106, 3) := by decide +kernel
theorem dX10_waits_44 : decode cX10_waits 44 = .ok (.aload_n 0, 1) := by decide +kernel
theorem dX10_waits_45 : decode cX10_waits 45 = .ok (.getfield 26, 3) := by decide +kernel
theorem dX10_waits_48 : decode cX10_waits 48 = .ok (.getfield 102, 3) := by decide +kernel
theorem dX10_waits_51 : decode cX10_waits 51 = .ok (.getfield 111, 3) := by decide +kernel
theorem dX10_waits_54 : decode cX10_waits 54 = .ok (.invokevirtual 114, 3) := by decide +kernel
theorem dX10_waits_57 : decode cX10_waits 57 = .ok (.ireturn, 1) := by decide +kernel
theorem dX10_walk_0 : decode cX10_walk 0 = .ok (.iload_n 1, 1) := by decide +kernel
theorem dX10_walk_1 : decode cX10_walk 1 = .ok (.invokestatic 55, 3) := by decide +kernel
theorem dX10_walk_4 : decode cX10_walk 4 = .ok (.ifCond .ne 8, 3) := by decide +kernel
theorem dX10_walk_7 : decode cX10_walk 7 = .ok (.aload_n 0, 1) := by decide +kernel
theorem dX10_walk_8 : decode cX10_walk 8 = .ok (.invokevirtual 74, 3) := by decide +kernel
theorem dX10_walk_11 : decode cX10_walk 11 = .ok (.ireturn, 1) := by decide +kernel
theorem dX10_walk_12 : decode cX10_walk 12 = .ok (.aload_n 0, 1) := by decide +kernel
theorem dX10_walk_13 : decode cX10_walk 13 = .ok (.getfield 26, 3) := by decide +kernel
theorem dX10_walk_16 : decode cX10_walk 16 = .ok (.aload_n 0, 1) := by decide +kernel
theorem dX10_walk_17 : decode cX10_walk 17 = .ok (.getfield 26, 3) := by decide +kernel
theorem dX10_walk_20 : decode cX10_walk 20 = .ok (.getfield 102, 3) := by decide +kernel
theorem dX10_walk_23 : decode cX10_walk 23 = .ok (.getfield 106, 3) := by decide +kernel
theorem dX10_walk_26 : decode cX10_walk 26 = .ok (.iload_n 1, 1) := by decide +kernel
theorem dX10_walk_27 : decode cX10_walk 27 = .ok (.invokevirtual 117, 3) := by decide +kernel
theorem dX10_walk_30 : decode cX10_walk 30 = .ok (.istore_n 2, 1) := by decide +kernel
theorem dX10_walk_31 : decode cX10_walk 31 = .ok (.iload_n 2, 1) := by decide +kernel
theorem dX10_walk_32 : decode cX10_walk 32 = .ok (.sipush 1000, 3) := by decide +kernel
theorem dX10_walk_35 : decode cX10_walk 35 = .ok (.if_icmp .lt 8, 3) := by decide +kernel
theorem dX10_walk_38 : decode cX10_walk 38 = .ok (.aload_n 0, 1) := by decide +kernel
theorem dX10_walk_39 : decode cX10_walk 39 = .ok (.invokevirtual 120, 3) := by decide +kernel
theorem dX10_walk_42 : decode cX10_walk 42 = .ok (.ireturn, 1) := by decide +kernel
theorem dX10_walk_43 : decode cX10_walk 43 = .ok (.aload_n 0, 1) := by decide +kernel
theorem dX10_walk_44 : decode cX10_walk 44 = .ok (.getfield 26, 3) := by decide +kernel
theorem dX10_walk_47 : decode cX10_walk 47 = .ok (.invokevirtual 95, 3) := by decide +kernel
theorem dX10_walk_50 : decode cX10_walk 50 = .ok (.aload_n 0, 1) := by decide +kernel
theorem dX10_walk_51 : decode cX10_walk 51 = .ok (.getfield 26, 3) := by decide +kernel
theorem dX10_walk_54 : decode cX10_walk 54 = .ok (.iload_n 2, 1) := by decide +kernel
theorem dX10_walk_55 : decode cX10_walk 55 = .ok (.invokevirtual 98, 3) := by decide +kernel
theorem dX10_walk_58 : decode cX10_walk 58 = .ok (.aload_n 0, 1) := by decide +kernel
theorem dX10_walk_59 : decode cX10_walk 59 = .ok (.getfield 26, 3) := by decide +kernel
theorem dX10_walk_62 : decode cX10_walk 62 = .ok (.getfield 102, 3) := by decide +kernel
theorem dX10_walk_65 : decode cX10_walk 65 = .ok (.iload_n 1, 1) := by decide +kernel
theorem dX10_walk_66 : decode cX10_walk 66 = .ok (.putfield 106, 3) := by decide +kernel
theorem dX10_walk_69 : decode cX10_walk 69 = .ok (.iload_n 2, 1) := by decide +kernel
theorem dX10_walk_70 : decode cX10_walk 70 = .ok (.ireturn, 1) := by decide +kernel
theorem dX10_take_0 : decode cX10_take 0 = .ok (.aload_n 0, 1) := by decide +kernel
theorem dX10_take_1 : decode cX10_take 1 = .ok (.iload_n 1, 1) := by decide +kernel
theorem dX10_take_2 : decode cX10_take 2 = .ok (.invokevirtual 123, 3) := by decide +kernel
theorem dX10_take_5 : decode cX10_take 5 = .ok (.ifCond .eq 12, 3) := by decide +kernel
theorem dX10_take_8 : decode cX10_take 8 = .ok (.iload_n 2, 1) := by decide +kernel
theorem dX10_take_9 : decode cX10_take 9 = .ok (.iconst 0, 1) := by decide +kernel
theorem dX10_take_10 : decode cX10_take 10 = .ok (.iconst 1, 1) := by decide +kernel
theorem dX10_take_11 : decode cX10_take 11 = .ok (.invokestatic 59, 3) := by decide +kernel
theorem dX10_take_14 : decode cX10_take 14 = .ok (.ifCond .ne 8, 3) := by decide +kernel
theorem dX10_take_17 : decode cX10_take 17 = .ok (.aload_n 0, 1) := by decide +kernel
theorem dX10_take_18 : decode cX10_take 18 = .ok (.invokevirtual 74, 3) := by decide +kernel
theorem dX10_take_21 : decode cX10_take 21 = .ok (.ireturn, 1) := by decide +kernel
theorem dX10_take_22 : decode cX10_take 22 = .ok (.aload_n 0, 1) := by decide +kernel
theorem dX10_take_23 : decode cX10_take 23 = .ok (.getfield 26, 3) := by decide +kernel
theorem dX10_take_26 : decode cX10_take 26 = .ok (.getfield 126, 3) := by decide +kernel
theorem dX10_take_29 : decode cX10_take 29 = .ok (.iload_n 1, 1) := by decide +kernel
theorem dX10_take_30 : decode cX10_take 30 = .ok (.iaload, 1) := by decide +kernel
theorem dX10_take_31 : decode cX10_take 31 = .ok (.aload_n 0, 1) := by decide +kernel
theorem dX10_take_32 : decode cX10_take 32 = .ok (.getfield 26, 3) := by decide +kernel
theorem dX10_take_35 : decode cX10_take 35 = .ok (.getfield 102, 3) := by decide +kernel
theorem dX10_take_38 : decode cX10_take 38 = .ok (.getfield 106, 3) := by decide +kernel
theorem dX10_take_41 : decode cX10_take 41 = .ok (.if_icmp .eq 8, 3) := by decide +kernel
theorem dX10_take_44 : decode cX10_take 44 = .ok (.aload_n 0, 1) := by decide +kernel
theorem dX10_take_45 : decode cX10_take 45 = .ok (.invokevirtual 120, 3) := by decide +kernel
theorem dX10_take_48 : decode cX10_take 48 = .ok (.ireturn, 1) := by decide +kernel
theorem dX10_take_49 : decode cX10_take 49 = .ok (.aload_n 0, 1) := by decide +kernel
theorem dX10_take_50 : decode cX10_take 50 = .ok (.getfield 26, 3) := by decide +kernel
theorem dX10_take_53 : decode cX10_take 53 = .ok (.invokevirtual 95, 3) := by decide +kernel
theorem dX10_take_56 : decode cX10_take 56 = .ok (.aload_n 0, 1) := by decide +kernel
theorem dX10_take_57 : decode cX10_take 57 = .ok (.getfield 26, 3) := by decide +kernel
theorem dX10_take_60 : decode cX10_take 60 = .ok (.getfield 102, 3) := by decide +kernel
theorem dX10_take_63 : decode cX10_take 63 = .ok (.iload_n 1, 1) := by decide +kernel
theorem dX10_take_64 : decode cX10_take 64 = .ok (.iload_n 2, 1) := by decide +kernel
theorem dX10_take_65 : decode cX10_take 65 = .ok (.invokevirtual 130, 3) := by decide +kernel
theorem dX10_take_68 : decode cX10_take 68 = .ok (.iconst 1, 1) := by decide +kernel
theorem dX10_take_69 : decode cX10_take 69 = .ok (.ireturn, 1) := by decide +kernel
theorem dX10_battery_0 : decode cX10_battery 0 = .ok (.aload_n 0, 1) := by decide +kernel
theorem dX10_battery_1 : decode cX10_battery 1 = .ok (.iload_n 1, 1) := by decide +kernel
theorem dX10_battery_2 : decode cX10_battery 2 = .ok (.invokevirtual 123, 3) := by decide +kernel
theorem dX10_battery_5 : decode cX10_battery 5 = .ok (.ifCond .eq 13, 3) := by decide +kernel
theorem dX10_battery_8 : decode cX10_battery 8 = .ok (.iload_n 2, 1) := by decide +kernel
theorem dX10_battery_9 : decode cX10_battery 9 = .ok (.iconst 0, 1) := by decide +kernel
theorem dX10_battery_10 : decode cX10_battery 10 = .ok (.bipush 99, 2) := by decide +kernel
theorem dX10_battery_12 : decode cX10_battery 12 = .ok (.invokestatic 59, 3) := by decide +kernel
theorem dX10_battery_15 : decode cX10_battery 15 = .ok (.ifCond .ne 8, 3) := by decide +kernel
theorem dX10_battery_18 : decode cX10_battery 18 = .ok (.aload_n 0, 1) := by decide +kernel
theorem dX10_battery_19 : decode cX10_battery 19 = .ok (.invokevirtual 74, 3) := by decide +kernel
theorem dX10_battery_22 : decode cX10_battery 22 = .ok (.ireturn, 1) := by decide +kernel
theorem dX10_battery_23 : decode cX10_battery 23 = .ok (.aload_n 0, 1) := by decide +kernel
theorem dX10_battery_24 : decode cX10_battery 24 = .ok (.getfield 26, 3) := by decide +kernel
theorem dX10_battery_27 : decode cX10_battery 27 = .ok (.getfield 102, 3) := by decide +kernel
theorem dX10_battery_30 : decode cX10_battery 30 = .ok (.getfield 134, 3) := by decide +kernel
theorem dX10_battery_33 : decode cX10_battery 33 = .ok (.iload_n 1, 1) := by decide +kernel
theorem dX10_battery_34 : decode cX10_battery 34 = .ok (.iaload, 1) := by decide +kernel
theorem dX10_battery_35 : decode cX10_battery 35 = .ok (.istore_n 3, 1) := by decide +kernel
theorem dX10_battery_36 : decode cX10_battery 36 = .ok (.aload_n 0, 1) := by decide +kernel
theorem dX10_battery_37 : decode cX10_battery 37 = .ok (.getfield 26, 3) := by decide +kernel
theorem dX10_battery_40 : decode cX10_battery 40 = .ok (.invokevirtual 95, 3) := by decide +kernel
theorem dX10_battery_43 : decode cX10_battery 43 = .ok (.aload_n 0, 1) := by decide +kernel
theorem dX10_battery_44 : decode cX10_battery 44 = .ok (.getfield 26, 3) := by decide +kernel
theorem dX10_battery_47 : decode cX10_battery 47 = .ok (.getfield 102, 3) := by decide +kernel
theorem dX10_battery_50 : decode cX10_battery 50 = .ok (.getfield 134, 3) := by decide +kernel
theorem dX10_battery_53 : decode cX10_battery 53 = .ok (.iload_n 1, 1) := by decide +kernel
theorem dX10_battery_54 : decode cX10_battery 54 = .ok (.iload_n 2, 1) := by decide +kernel
theorem dX10_battery_55 : decode cX10_battery 55 = .ok (.iastore, 1) := by decide +kernel
theorem dX10_battery_56 : decode cX10_battery 56 = .ok (.iload_n 3, 1) := by decide +kernel
theorem dX10_battery_57 : decode cX10_battery 57 = .ok (.ireturn, 1) := by decide +kernel
theorem dX10_cold_0 : decode cX10_cold 0 = .ok (.iload_n 1, 1) := by decide +kernel
theorem dX10_cold_1 : decode cX10_cold 1 = .ok (.iconst 0, 1) := by decide +kernel
theorem dX10_cold_2 : decode cX10_cold 2 = .ok (.bipush 9, 2) := by decide +kernel
theorem dX10_cold_4 : decode cX10_cold 4 = .ok (.invokestatic 59, 3) := by decide +kernel
theorem dX10_cold_7 : decode cX10_cold 7 = .ok (.ifCond .ne 8, 3) := by decide +kernel
theorem dX10_cold_10 : decode cX10_cold 10 = .ok (.aload_n 0, 1) := by decide +kernel
theorem dX10_cold_11 : decode cX10_cold 11 = .ok (.invokevirtual 74, 3) := by decide +kernel
theorem dX10_cold_14 : decode cX10_cold 14 = .ok (.ireturn, 1) := by decide +kernel
theorem dX10_cold_15 : decode cX10_cold 15 = .ok (.aload_n 0, 1) := by decide +kernel
theorem dX10_cold_16 : decode cX10_cold 16 = .ok (.getfield 26, 3) := by decide +kernel
theorem dX10_cold_19 : decode cX10_cold 19 = .ok (.getfield 102, 3) := by decide +kernel
theorem dX10_cold_22 : decode cX10_cold 22 = .ok (.getfield 137, 3) := by decide +kernel
theorem dX10_cold_25 : decode cX10_cold 25 = .ok (.istore_n 2, 1) := by decide +kernel
theorem dX10_cold_26 : decode cX10_cold 26 = .ok (.aload_n 0, 1) := by decide +kernel
theorem dX10_cold_27 : decode cX10_cold 27 = .ok (.getfield 26, 3) := by decide +kernel
theorem dX10_cold_30 : decode cX10_cold 30 = .ok (.invokevirtual 95, 3) := by decide +kernel
theorem dX10_cold_33 : decode cX10_cold 33 = .ok (.aload_n 0, 1) := by decide +kernel
theorem dX10_cold_34 : decode cX10_cold 34 = .ok (.getfield 26, 3) := by decide +kernel
theorem dX10_cold_37 : decode cX10_cold 37 = .ok (.getfield 102, 3) := by decide +kernel
theorem dX10_cold_40 : decode cX10_cold 40 = .ok (.iload_n 1, 1) := by decide +kernel
theorem dX10_cold_41 : decode cX10_cold 41 = .ok (.putfield 137, 3) := by decide +kernel
theorem dX10_cold_44 : decode cX10_cold 44 = .ok (.iload_n 2, 1) := by decide +kernel
theorem dX10_cold_45 : decode cX10_cold 45 = .ok (.ireturn, 1) := by decide +kernel
theorem dX10_undo_0 : decode cX10_undo 0 = .ok (.aload_n 0, 1) := by decide +kernel
theorem dX10_undo_1 : decode cX10_undo 1 = .ok (.getfield 26, 3) := by decide +kernel
theorem dX10_undo_4 : decode cX10_undo 4 = .ok (.getfield 140, 3) := by decide +kernel
theorem dX10_undo_7 : decode cX10_undo 7 = .ok (.ifCond .gt 8, 3) := by decide +kernel
theorem dX10_undo_10 : decode cX10_undo 10 = .ok (.aload_n 0, 1) := by decide +kernel
theorem dX10_undo_11 : decode cX10_undo 11 = .ok (.invokevirtual 120, 3) := by decide +kernel
theorem dX10_undo_14 : decode cX10_undo 14 = .ok (.ireturn, 1) := by decide +kernel
theorem dX10_undo_15 : decode cX10_undo 15 = .ok (.aload_n 0, 1) := by decide +kernel
theorem dX10_undo_16 : decode cX10_undo 16 = .ok (.getfield 26, 3) := by decide +kernel
theorem dX10_undo_19 : decode cX10_undo 19 = .ok (.invokevirtual 143, 3) := by decide +kernel
theorem dX10_undo_22 : decode cX10_undo 22 = .ok (.aload_n 0, 1) := by decide +kernel
theorem dX10_undo_23 : decode cX10_undo 23 = .ok (.getfield 26, 3) := by decide +kernel
theorem dX10_undo_26 : decode cX10_undo 26 = .ok (.getfield 102, 3) := by decide +kernel
end
section
theorem dX10_undo_29 : decode cX10_undo 29 = .ok (.getfield 111, 3) := by decide +kernel
theorem dX10_undo_32 : decode cX10_undo 32 = .ok (.ireturn, 1) := by decide +kernel
theorem dX10_of_0 : decode cX10_of 0 = .ok (.aload_n 0, 1) := by decide +kernel
theorem dX10_of_1 : decode cX10_of 1 = .ok (.iload_n 1, 1) := by decide +kernel
theorem dX10_of_2 : decode cX10_of 2 = .ok (.invokevirtual 123, 3) := by decide +kernel
theorem dX10_of_5 : decode cX10_of 5 = .ok (.ifCond .ne 8, 3) := by decide +kernel
theorem dX10_of_8 : decode cX10_of 8 = .ok (.aload_n 0, 1) := by decide +kernel
theorem dX10_of_9 : decode cX10_of 9 = .ok (.invokevirtual 74, 3) := by decide +kernel
theorem dX10_of_12 : decode cX10_of 12 = .ok (.ireturn, 1) := by decide +kernel
theorem dX10_of_13 : decode cX10_of 13 = .ok (.iload_n 2, 1) := by decide +kernel
theorem dX10_of_14 : decode cX10_of 14 = .ok (.tableswitch 94 0 4 #[34, 44, 54, 67, 82], 34) := by decide +kernel
theorem dX10_of_48 : decode cX10_of 48 = .ok (.aload_n 0, 1) := by decide +kernel
theorem dX10_of_49 : decode cX10_of 49 = .ok (.getfield 26, 3) := by decide +kernel
theorem dX10_of_52 : decode cX10_of 52 = .ok (.getfield 146, 3) := by decide +kernel
theorem dX10_of_55 : decode cX10_of 55 = .ok (.iload_n 1, 1) := by decide +kernel
theorem dX10_of_56 : decode cX10_of 56 = .ok (.iaload, 1) := by decide +kernel
theorem dX10_of_57 : decode cX10_of 57 = .ok (.ireturn, 1) := by decide +kernel
theorem dX10_of_58 : decode cX10_of 58 = .ok (.aload_n 0, 1) := by decide +kernel
theorem dX10_of_59 : decode cX10_of 59 = .ok (.getfield 26, 3) := by decide +kernel
theorem dX10_of_62 : decode cX10_of 62 = .ok (.getfield 126, 3) := by decide +kernel
theorem dX10_of_65 : decode cX10_of 65 = .ok (.iload_n 1, 1) := by decide +kernel
theorem dX10_of_66 : decode cX10_of 66 = .ok (.iaload, 1) := by decide +kernel
theorem dX10_of_67 : decode cX10_of 67 = .ok (.ireturn, 1) := by decide +kernel
theorem dX10_of_68 : decode cX10_of 68 = .ok (.aload_n 0, 1) := by decide +kernel
theorem dX10_of_69 : decode cX10_of 69 = .ok (.getfield 26, 3) := by decide +kernel
theorem dX10_of_72 : decode cX10_of 72 = .ok (.getfield 102, 3) := by decide +kernel
theorem dX10_of_75 : decode cX10_of 75 = .ok (.getfield 134, 3) := by decide +kernel
theorem dX10_of_78 : decode cX10_of 78 = .ok (.iload_n 1, 1) := by decide +kernel
theorem dX10_of_79 : decode cX10_of 79 = .ok (.iaload, 1) := by decide +kernel
theorem dX10_of_80 : decode cX10_of 80 = .ok (.ireturn, 1) := by decide +kernel
theorem dX10_of_81 : decode cX10_of 81 = .ok (.aload_n 0, 1) := by decide +kernel
theorem dX10_of_82 : decode cX10_of 82 = .ok (.getfield 26, 3) := by decide +kernel
theorem dX10_of_85 : decode cX10_of 85 = .ok (.getfield 102, 3) := by decide +kernel
theorem dX10_of_88 : decode cX10_of 88 = .ok (.getfield 149, 3) := by decide +kernel
theorem dX10_of_91 : decode cX10_of 91 = .ok (.iload_n 1, 1) := by decide +kernel
theorem dX10_of_92 : decode cX10_of 92 = .ok (.ishr, 1) := by decide +kernel
theorem dX10_of_93 : decode cX10_of 93 = .ok (.iconst 1, 1) := by decide +kernel
theorem dX10_of_94 : decode cX10_of 94 = .ok (.iand, 1) := by decide +kernel
theorem dX10_of_95 : decode cX10_of 95 = .ok (.ireturn, 1) := by decide +kernel
theorem dX10_of_96 : decode cX10_of 96 = .ok (.aload_n 0, 1) := by decide +kernel
theorem dX10_of_97 : decode cX10_of 97 = .ok (.getfield 26, 3) := by decide +kernel
theorem dX10_of_100 : decode cX10_of 100 = .ok (.iload_n 1, 1) := by decide +kernel
theorem dX10_of_101 : decode cX10_of 101 = .ok (.invokevirtual 152, 3) := by decide +kernel
theorem dX10_of_104 : decode cX10_of 104 = .ok (.invokevirtual 156, 3) := by decide +kernel
theorem dX10_of_107 : decode cX10_of 107 = .ok (.ireturn, 1) := by decide +kernel
theorem dX10_of_108 : decode cX10_of 108 = .ok (.aload_n 0, 1) := by decide +kernel
theorem dX10_of_109 : decode cX10_of 109 = .ok (.invokevirtual 74, 3) := by decide +kernel
theorem dX10_of_112 : decode cX10_of 112 = .ok (.ireturn, 1) := by decide +kernel
theorem dX10_far_0 : decode cX10_far 0 = .ok (.iload_n 1, 1) := by decide +kernel
theorem dX10_far_1 : decode cX10_far 1 = .ok (.invokestatic 55, 3) := by decide +kernel
theorem dX10_far_4 : decode cX10_far 4 = .ok (.ifCond .eq 10, 3) := by decide +kernel
theorem dX10_far_7 : decode cX10_far 7 = .ok (.iload_n 2, 1) := by decide +kernel
theorem dX10_far_8 : decode cX10_far 8 = .ok (.invokestatic 55, 3) := by decide +kernel
theorem dX10_far_11 : decode cX10_far 11 = .ok (.ifCond .ne 8, 3) := by decide +kernel
theorem dX10_far_14 : decode cX10_far 14 = .ok (.aload_n 0, 1) := by decide +kernel
theorem dX10_far_15 : decode cX10_far 15 = .ok (.invokevirtual 74, 3) := by decide +kernel
theorem dX10_far_18 : decode cX10_far 18 = .ok (.ireturn, 1) := by decide +kernel
theorem dX10_far_19 : decode cX10_far 19 = .ok (.aload_n 0, 1) := by decide +kernel
theorem dX10_far_20 : decode cX10_far 20 = .ok (.getfield 26, 3) := by decide +kernel
theorem dX10_far_23 : decode cX10_far 23 = .ok (.iload_n 1, 1) := by decide +kernel
theorem dX10_far_24 : decode cX10_far 24 = .ok (.iload_n 2, 1) := by decide +kernel
theorem dX10_far_25 : decode cX10_far 25 = .ok (.invokevirtual 117, 3) := by decide +kernel
theorem dX10_far_28 : decode cX10_far 28 = .ok (.istore_n 3, 1) := by decide +kernel
theorem dX10_far_29 : decode cX10_far 29 = .ok (.iload_n 3, 1) := by decide +kernel
theorem dX10_far_30 : decode cX10_far 30 = .ok (.sipush 1000, 3) := by decide +kernel
theorem dX10_far_33 : decode cX10_far 33 = .ok (.if_icmp .lt 7, 3) := by decide +kernel
theorem dX10_far_36 : decode cX10_far 36 = .ok (.iconst (-1), 1) := by decide +kernel
theorem dX10_far_37 : decode cX10_far 37 = .ok (.goto 4, 3) := by decide +kernel
theorem dX10_far_40 : decode cX10_far 40 = .ok (.iload_n 3, 1) := by decide +kernel
theorem dX10_far_41 : decode cX10_far 41 = .ok (.ireturn, 1) := by decide +kernel
theorem dX10_beeps_0 : decode cX10_beeps 0 = .ok (.aload_n 0, 1) := by decide +kernel
theorem dX10_beeps_1 : decode cX10_beeps 1 = .ok (.iload_n 1, 1) := by decide +kernel
theorem dX10_beeps_2 : decode cX10_beeps 2 = .ok (.invokevirtual 123, 3) := by decide +kernel
theorem dX10_beeps_5 : decode cX10_beeps 5 = .ok (.ifCond .eq 10, 3) := by decide +kernel
theorem dX10_beeps_8 : decode cX10_beeps 8 = .ok (.iload_n 2, 1) := by decide +kernel
theorem dX10_beeps_9 : decode cX10_beeps 9 = .ok (.invokestatic 161, 3) := by decide +kernel
theorem dX10_beeps_12 : decode cX10_beeps 12 = .ok (.ifCond .ne 8, 3) := by decide +kernel
theorem dX10_beeps_15 : decode cX10_beeps 15 = .ok (.aload_n 0, 1) := by decide +kernel
theorem dX10_beeps_16 : decode cX10_beeps 16 = .ok (.invokevirtual 74, 3) := by decide +kernel
theorem dX10_beeps_19 : decode cX10_beeps 19 = .ok (.ireturn, 1) := by decide +kernel
theorem dX10_beeps_20 : decode cX10_beeps 20 = .ok (.aload_n 0, 1) := by decide +kernel
theorem dX10_beeps_21 : decode cX10_beeps 21 = .ok (.getfield 26, 3) := by decide +kernel
theorem dX10_beeps_24 : decode cX10_beeps 24 = .ok (.iload_n 1, 1) := by decide +kernel
theorem dX10_beeps_25 : decode cX10_beeps 25 = .ok (.iload_n 2, 1) := by decide +kernel
theorem dX10_beeps_26 : decode cX10_beeps 26 = .ok (.invokevirtual 164, 3) := by decide +kernel
theorem dX10_beeps_29 : decode cX10_beeps 29 = .ok (.ifCond .eq 7, 3) := by decide +kernel
theorem dX10_beeps_32 : decode cX10_beeps 32 = .ok (.iconst 1, 1) := by decide +kernel
theorem dX10_beeps_33 : decode cX10_beeps 33 = .ok (.goto 4, 3) := by decide +kernel
theorem dX10_beeps_36 : decode cX10_beeps 36 = .ok (.iconst 0, 1) := by decide +kernel
theorem dX10_beeps_37 : decode cX10_beeps 37 = .ok (.ireturn, 1) := by decide +kernel
theorem dX10_heard_0 : decode cX10_heard 0 = .ok (.iload_n 1, 1) := by decide +kernel
theorem dX10_heard_1 : decode cX10_heard 1 = .ok (.invokestatic 55, 3) := by decide +kernel
theorem dX10_heard_4 : decode cX10_heard 4 = .ok (.ifCond .eq 10, 3) := by decide +kernel
theorem dX10_heard_7 : decode cX10_heard 7 = .ok (.iload_n 2, 1) := by decide +kernel
theorem dX10_heard_8 : decode cX10_heard 8 = .ok (.invokestatic 161, 3) := by decide +kernel
theorem dX10_heard_11 : decode cX10_heard 11 = .ok (.ifCond .ne 8, 3) := by decide +kernel
theorem dX10_heard_14 : decode cX10_heard 14 = .ok (.aload_n 0, 1) := by decide +kernel
theorem dX10_heard_15 : decode cX10_heard 15 = .ok (.invokevirtual 74, 3) := by decide +kernel
theorem dX10_heard_18 : decode cX10_heard 18 = .ok (.ireturn, 1) := by decide +kernel
theorem dX10_heard_19 : decode cX10_heard 19 = .ok (.aload_n 0, 1) := by decide +kernel
theorem dX10_heard_20 : decode cX10_heard 20 = .ok (.getfield 26, 3) := by decide +kernel
theorem dX10_heard_23 : decode cX10_heard 23 = .ok (.iload_n 1, 1) := by decide +kernel
theorem dX10_heard_24 : decode cX10_heard 24 = .ok (.iload_n 2, 1) := by decide +kernel
theorem dX10_heard_25 : decode cX10_heard 25 = .ok (.invokevirtual 114, 3) := by decide +kernel
theorem dX10_heard_28 : decode cX10_heard 28 = .ok (.ireturn, 1) := by decide +kernel
theorem dX10_through_0 : decode cX10_through 0 = .ok (.iload_n 1, 1) := by decide +kernel
theorem dX10_through_1 : decode cX10_through 1 = .ok (.invokestatic 55, 3) := by decide +kernel
theorem dX10_through_4 : decode cX10_through 4 = .ok (.ifCond .eq 11, 3) := by decide +kernel
theorem dX10_through_7 : decode cX10_through 7 = .ok (.aload_n 0, 1) := by decide +kernel
theorem dX10_through_8 : decode cX10_through 8 = .ok (.iload_n 2, 1) := by decide +kernel
theorem dX10_through_9 : decode cX10_through 9 = .ok (.invokevirtual 123, 3) := by decide +kernel
theorem dX10_through_12 : decode cX10_through 12 = .ok (.ifCond .ne 8, 3) := by decide +kernel
theorem dX10_through_15 : decode cX10_through 15 = .ok (.aload_n 0, 1) := by decide +kernel
theorem dX10_through_16 : decode cX10_through 16 = .ok (.invokevirtual 74, 3) := by decide +kernel
theorem dX10_through_19 : decode cX10_through 19 = .ok (.ireturn, 1) := by decide +kernel
theorem dX10_through_20 : decode cX10_through 20 = .ok (.aload_n 0, 1) := by decide +kernel
theorem dX10_through_21 : decode cX10_through 21 = .ok (.getfield 26, 3) := by decide +kernel
theorem dX10_through_24 : decode cX10_through 24 = .ok (.iload_n 1, 1) := by decide +kernel
theorem dX10_through_25 : decode cX10_through 25 = .ok (.iload_n 2, 1) := by decide +kernel
theorem dX10_through_26 : decode cX10_through 26 = .ok (.invokevirtual 168, 3) := by decide +kernel
theorem dX10_through_29 : decode cX10_through 29 = .ok (.ireturn, 1) := by decide +kernel
theorem dX10_next_0 : decode cX10_next 0 = .ok (.iload_n 2, 1) := by decide +kernel
theorem dX10_next_1 : decode cX10_next 1 = .ok (.iconst 0, 1) := by decide +kernel
theorem dX10_next_2 : decode cX10_next 2 = .ok (.iconst 1, 1) := by decide +kernel
theorem dX10_next_3 : decode cX10_next 3 = .ok (.invokestatic 59, 3) := by decide +kernel
theorem dX10_next_6 : decode cX10_next 6 = .ok (.ifCond .eq 25, 3) := by decide +kernel
theorem dX10_next_9 : decode cX10_next 9 = .ok (.iload_n 2, 1) := by decide +kernel
theorem dX10_next_10 : decode cX10_next 10 = .ok (.ifCond .ne 13, 3) := by decide +kernel
theorem dX10_next_13 : decode cX10_next 13 = .ok (.iload_n 1, 1) := by decide +kernel
theorem dX10_next_14 : decode cX10_next 14 = .ok (.invokestatic 55, 3) := by decide +kernel
theorem dX10_next_17 : decode cX10_next 17 = .ok (.ifCond .eq 14, 3) := by decide +kernel
theorem dX10_next_20 : decode cX10_next 20 = .ok (.goto 16, 3) := by decide +kernel
theorem dX10_next_23 : decode cX10_next 23 = .ok (.aload_n 0, 1) := by decide +kernel
theorem dX10_next_24 : decode cX10_next 24 = .ok (.iload_n 1, 1) := by decide +kernel
theorem dX10_next_25 : decode cX10_next 25 = .ok (.invokevirtual 123, 3) := by decide +kernel
theorem dX10_next_28 : decode cX10_next 28 = .ok (.ifCond .ne 8, 3) := by decide +kernel
theorem dX10_next_31 : decode cX10_next 31 = .ok (.aload_n 0, 1) := by decide +kernel
theorem dX10_next_32 : decode cX10_next 32 = .ok (.invokevirtual 74, 3) := by decide +kernel
theorem dX10_next_35 : decode cX10_next 35 = .ok (.ireturn, 1) := by decide +kernel
theorem dX10_next_36 : decode cX10_next 36 = .ok (.iconst 0, 1) := by decide +kernel
theorem dX10_next_37 : decode cX10_next 37 = .ok (.istore_n 3, 1) := by decide +kernel
theorem dX10_next_38 : decode cX10_next 38 = .ok (.iload_n 3, 1) := by decide +kernel
theorem dX10_next_39 : decode cX10_next 39 = .ok (.bipush 120, 2) := by decide +kernel
theorem dX10_next_41 : decode cX10_next 41 = .ok (.if_icmp .gt 58, 3) := by decide +kernel
theorem dX10_next_44 : decode cX10_next 44 = .ok (.aload_n 0, 1) := by decide +kernel
theorem dX10_next_45 : decode cX10_next 45 = .ok (.getfield 26, 3) := by decide +kernel
theorem dX10_next_48 : decode cX10_next 48 = .ok (.getfield 102, 3) := by decide +kernel
theorem dX10_next_51 : decode cX10_next 51 = .ok (.getfield 111, 3) := by decide +kernel
theorem dX10_next_54 : decode cX10_next 54 = .ok (.iload_n 3, 1) := by decide +kernel
theorem dX10_next_55 : decode cX10_next 55 = .ok (.iadd, 1) := by decide +kernel
theorem dX10_next_56 : decode cX10_next 56 = .ok (.istore 4, 2) := by decide +kernel
theorem dX10_next_58 : decode cX10_next 58 = .ok (.iload_n 2, 1) := by decide +kernel
theorem dX10_next_59 : decode cX10_next 59 = .ok (.ifCond .ne 19, 3) := by decide +kernel
theorem dX10_next_62 : decode cX10_next 62 = .ok (.aload_n 0, 1) := by decide +kernel
theorem dX10_next_63 : decode cX10_next 63 = .ok (.getfield 26, 3) := by decide +kernel
theorem dX10_next_66 : decode cX10_next 66 = .ok (.iload_n 1, 1) := by decide +kernel
theorem dX10_next_67 : decode cX10_next 67 = .ok (.iload 4, 2) := by decide +kernel
theorem dX10_next_69 : decode cX10_next 69 = .ok (.invokevirtual 114, 3) := by decide +kernel
theorem dX10_next_72 : decode cX10_next 72 = .ok (.ifCond .eq 21, 3) := by decide +kernel
theorem dX10_next_75 : decode cX10_next 75 = .ok (.goto 16, 3) := by decide +kernel
theorem dX10_next_78 : decode cX10_next 78 = .ok (.aload_n 0, 1) := by decide +kernel
theorem dX10_next_79 : decode cX10_next 79 = .ok (.getfield 26, 3) := by decide +kernel
theorem dX10_next_82 : decode cX10_next 82 = .ok (.iload_n 1, 1) := by decide +kernel
theorem dX10_next_83 : decode cX10_next 83 = .ok (.iload 4, 2) := by decide +kernel
theorem dX10_next_85 : decode cX10_next 85 = .ok (.invokevirtual 164, 3) := by decide +kernel
theorem dX10_next_88 : decode cX10_next 88 = .ok (.ifCond .eq 5, 3) := by decide +kernel
theorem dX10_next_91 : decode cX10_next 91 = .ok (.iload_n 3, 1) := by decide +kernel
theorem dX10_next_92 : decode cX10_next 92 = .ok (.ireturn, 1) := by decide +kernel
theorem dX10_next_93 : decode cX10_next 93 = .ok (.iinc 3 1, 3) := by decide +kernel
theorem dX10_next_96 : decode cX10_next 96 = .ok (.goto (-58), 3) := by decide +kernel
theorem dX10_next_99 : decode cX10_next 99 = .ok (.iconst (-1), 1) := by decide +kernel
theorem dX10_next_100 : decode cX10_next 100 = .ok (.ireturn, 1) := by decide +kernel
theorem dX10_coldest_0 : decode cX10_coldest 0 = .ok (.aload_n 0, 1) := by decide +kernel
theorem dX10_coldest_1 : decode cX10_coldest 1 = .ok (.iload_n 1, 1) := by decide +kernel
theorem dX10_coldest_2 : decode cX10_coldest 2 = .ok (.invokevirtual 123, 3) := by decide +kernel
theorem dX10_coldest_5 : decode cX10_coldest 5 = .ok (.ifCond .ne 8, 3) := by decide +kernel
theorem dX10_coldest_8 : decode cX10_coldest 8 = .ok (.aload_n 0, 1) := by decide +kernel
theorem dX10_coldest_9 : decode cX10_coldest 9 = .ok (.invokevirtual 74, 3) := by decide +kernel
theorem dX10_coldest_12 : decode cX10_coldest 12 = .ok (.ireturn, 1) := by decide +kernel
theorem dX10_coldest_13 : decode cX10_coldest 13 = .ok (.iconst 0, 1) := by decide +kernel
theorem dX10_coldest_14 : decode cX10_coldest 14 = .ok (.istore_n 2, 1) := by decide +kernel
theorem dX10_coldest_15 : decode cX10_coldest 15 = .ok (.iload_n 2, 1) := by decide +kernel
theorem dX10_coldest_16 : decode cX10_coldest 16 = .ok (.bipush 9, 2) := by decide +kernel
theorem dX10_coldest_18 : decode cX10_coldest 18 = .ok (.if_icmp .gt 38, 3) := by decide +kernel
theorem dX10_coldest_21 : decode cX10_coldest 21 = .ok (.aload_n 0, 1) := by decide +kernel
theorem dX10_coldest_22 : decode cX10_coldest 22 = .ok (.getfield 26, 3) := by decide +kernel
theorem dX10_coldest_25 : decode cX10_coldest 25 = .ok (.iload_n 1, 1) := by decide +kernel
theorem dX10_coldest_26 : decode cX10_coldest 26 = .ok (.invokevirtual 152, 3) := by decide +kernel
theorem dX10_coldest_29 : decode cX10_coldest 29 = .ok (.iload_n 2, 1) := by decide +kernel
theorem dX10_coldest_30 : decode cX10_coldest 30 = .ok (.aload_n 0, 1) := by decide +kernel
theorem dX10_coldest_31 : decode cX10_coldest 31 = .ok (.getfield 26, 3) := by decide +kernel
theorem dX10_coldest_34 : decode cX10_coldest 34 = .ok (.getfield 102, 3) := by decide +kernel
theorem dX10_coldest_37 : decode cX10_coldest 37 = .ok (.getfield 134, 3) := by decide +kernel
theorem dX10_coldest_40 : decode cX10_coldest 40 = .ok (.iload_n 1, 1) := by decide +kernel
theorem dX10_coldest_41 : decode cX10_coldest 41 = .ok (.iaload, 1) := by decide +kernel
theorem dX10_coldest_42 : decode cX10_coldest 42 = .ok (.invokevirtual 171, 3) := by decide +kernel
theorem dX10_coldest_45 : decode cX10_coldest 45 = .ok (.ifCond .eq 5, 3) := by decide +kernel
theorem dX10_coldest_48 : decode cX10_coldest 48 = .ok (.iload_n 2, 1) := by decide +kernel
theorem dX10_coldest_49 : decode cX10_coldest 49 = .ok (.ireturn, 1) := by decide +kernel
theorem dX10_coldest_50 : decode cX10_coldest 50 = .ok (.iinc 2 1, 3) := by decide +kernel
theorem dX10_coldest_53 : decode cX10_coldest 53 = .ok (.goto (-38), 3) := by decide +kernel
theorem dX10_coldest_56 : decode cX10_coldest 56 = .ok (.iconst (-1), 1) := by decide +kernel
theorem dX10_coldest_57 : decode cX10_coldest 57 = .ok (.ireturn, 1) := by decide +kernel
theorem dX10_sure_0 : decode cX10_sure 0 = .ok (.iload_n 1, 1) := by decide +kernel
theorem dX10_sure_1 : decode cX10_sure 1 = .ok (.iconst 1, 1) := by decide +kernel
theorem dX10_sure_2 : decode cX10_sure 2 = .ok (.aload_n 0, 1) := by decide +kernel
theorem dX10_sure_3 : decode cX10_sure 3 = .ok (.getfield 26, 3) := by decide +kernel
theorem dX10_sure_6 : decode cX10_sure 6 = .ok (.invokevirtual 174, 3) := by decide +kernel
theorem dX10_sure_9 : decode cX10_sure 9 = .ok (.invokestatic 59, 3) := by decide +kernel
theorem dX10_sure_12 : decode cX10_sure 12 = .ok (.ifCond .eq 12, 3) := by decide +kernel
theorem dX10_sure_15 : decode cX10_sure 15 = .ok (.iload_n 2, 1) := by decide +kernel
theorem dX10_sure_16 : decode cX10_sure 16 = .ok (.iconst 0, 1) := by decide +kernel
theorem dX10_sure_17 : decode cX10_sure 17 = .ok (.iconst 1, 1) := by decide +kernel
theorem dX10_sure_18 : decode cX10_sure 18 = .ok (.invokestatic 59, 3) := by decide +kernel
theorem dX10_sure_21 : decode cX10_sure 21 = .ok (.ifCond .ne 8, 3) := by decide +kernel
theorem dX10_sure_24 : decode cX10_sure 24 = .ok (.aload_n 0, 1) := by decide +kernel
theorem dX10_sure_25 : decode cX10_sure 25 = .ok (.invokevirtual 74, 3) := by decide +kernel
theorem dX10_sure_28 : decode cX10_sure 28 = .ok (.ireturn, 1) := by decide +kernel
theorem dX10_sure_29 : decode cX10_sure 29 = .ok (.aload_n 0, 1) := by decide +kernel
theorem dX10_sure_30 : decode cX10_sure 30 = .ok (.getfield 19, 3) := by decide +kernel
theorem dX10_sure_33 : decode cX10_sure 33 = .ok (.aload_n 0, 1) := by decide +kernel
theorem dX10_sure_34 : decode cX10_sure 34 = .ok (.getfield 26, 3) := by decide +kernel
theorem dX10_sure_37 : decode cX10_sure 37 = .ok (.invokevirtual 177, 3) := by decide +kernel
theorem dX10_sure_40 : decode cX10_sure 40 = .ok (.aload_n 0, 1) := by decide +kernel
theorem dX10_sure_41 : decode cX10_sure 41 = .ok (.getfield 19, 3) := by decide +kernel
theorem dX10_sure_44 : decode cX10_sure 44 = .ok (.iload_n 1, 1) := by decide +kernel
theorem dX10_sure_45 : decode cX10_sure 45 = .ok (.invokevirtual 181, 3) := by decide +kernel
theorem dX10_sure_48 : decode cX10_sure 48 = .ok (.aload_n 0, 1) := by decide +kernel
theorem dX10_sure_49 : decode cX10_sure 49 = .ok (.getfield 19, 3) := by decide +kernel
theorem dX10_sure_52 : decode cX10_sure 52 = .ok (.getfield 184, 3) := by decide +kernel
theorem dX10_sure_55 : decode cX10_sure 55 = .ok (.iload_n 1, 1) := by decide +kernel
theorem dX10_sure_56 : decode cX10_sure 56 = .ok (.iaload, 1) := by decide +kernel
theorem dX10_sure_57 : decode cX10_sure 57 = .ok (.bipush 100, 2) := by decide +kernel
theorem dX10_sure_59 : decode cX10_sure 59 = .ok (.if_icmp .lt 5, 3) := by decide +kernel
theorem dX10_sure_62 : decode cX10_sure 62 = .ok (.iconst (-1), 1) := by decide +kernel
theorem dX10_sure_63 : decode cX10_sure 63 = .ok (.ireturn, 1) := by decide +kernel
theorem dX10_sure_64 : decode cX10_sure 64 = .ok (.iload_n 2, 1) := by decide +kernel
theorem dX10_sure_65 : decode cX10_sure 65 = .ok (.ifCond .ne 15, 3) := by decide +kernel
theorem dX10_sure_68 : decode cX10_sure 68 = .ok (.aload_n 0, 1) := by decide +kernel
theorem dX10_sure_69 : decode cX10_sure 69 = .ok (.getfield 19, 3) := by decide +kernel
theorem dX10_sure_72 : decode cX10_sure 72 = .ok (.getfield 184, 3) := by decide +kernel
theorem dX10_sure_75 : decode cX10_sure 75 = .ok (.iload_n 1, 1) := by decide +kernel
theorem dX10_sure_76 : decode cX10_sure 76 = .ok (.iaload, 1) := by decide +kernel
theorem dX10_sure_77 : decode cX10_sure 77 = .ok (.goto 12, 3) := by decide +kernel
theorem dX10_sure_80 : decode cX10_sure 80 = .ok (.aload_n 0, 1) := by decide +kernel
theorem dX10_sure_81 : decode cX10_sure 81 = .ok (.getfield 19, 3) := by decide +kernel
theorem dX10_sure_84 : decode cX10_sure 84 = .ok (.getfield 187, 3) := by decide +kernel
theorem dX10_sure_87 : decode cX10_sure 87 = .ok (.iload_n 1, 1) := by decide +kernel
theorem dX10_sure_88 : decode cX10_sure 88 = .ok (.iaload, 1) := by decide +kernel
theorem dX10_sure_89 : decode cX10_sure 89 = .ok (.ireturn, 1) := by decide +kernel
theorem dX10_way_0 : decode cX10_way 0 = .ok (.iload_n 1, 1) := by decide +kernel
theorem dX10_way_1 : decode cX10_way 1 = .ok (.iconst (-1), 1) := by decide +kernel
theorem dX10_way_2 : decode cX10_way 2 = .ok (.if_icmp .ge 16, 3) := by decide +kernel
theorem dX10_way_5 : decode cX10_way 5 = .ok (.aload_n 0, 1) := by decide +kernel
theorem dX10_way_6 : decode cX10_way 6 = .ok (.dup, 1) := by decide +kernel
theorem dX10_way_7 : decode cX10_way 7 = .ok (.getfield 63, 3) := by decide +kernel
theorem dX10_way_10 : decode cX10_way 10 = .ok (.iconst 1, 1) := by decide +kernel
theorem dX10_way_11 : decode cX10_way 11 = .ok (.iadd, 1) := by decide +kernel
theorem dX10_way_12 : decode cX10_way 12 = .ok (.putfield 63, 3) := by decide +kernel
theorem dX10_way_15 : decode cX10_way 15 = .ok (.bipush (-10), 2) := by decide +kernel
theorem dX10_way_17 : decode cX10_way 17 = .ok (.ireturn, 1) := by decide +kernel
theorem dX10_way_18 : decode cX10_way 18 = .ok (.aload_n 0, 1) := by decide +kernel
theorem dX10_way_19 : decode cX10_way 19 = .ok (.getfield 19, 3) := by decide +kernel
theorem dX10_way_22 : decode cX10_way 22 = .ok (.aload_n 0, 1) := by decide +kernel
theorem dX10_way_23 : decode cX10_way 23 = .ok (.getfield 26, 3) := by decide +kernel
theorem dX10_way_26 : decode cX10_way 26 = .ok (.invokevirtual 190, 3) := by decide +kernel
theorem dX10_way_29 : decode cX10_way 29 = .ok (.aload_n 0, 1) := by decide +kernel
theorem dX10_way_30 : decode cX10_way 30 = .ok (.getfield 19, 3) := by decide +kernel
theorem dX10_way_33 : decode cX10_way 33 = .ok (.aload_n 0, 1) := by decide +kernel
theorem dX10_way_34 : decode cX10_way 34 = .ok (.getfield 26, 3) := by decide +kernel
theorem dX10_way_37 : decode cX10_way 37 = .ok (.invokevirtual 193, 3) := by decide +kernel
theorem dX10_way_40 : decode cX10_way 40 = .ok (.aload_n 0, 1) := by decide +kernel
theorem dX10_way_41 : decode cX10_way 41 = .ok (.getfield 19, 3) := by decide +kernel
theorem dX10_way_44 : decode cX10_way 44 = .ok (.invokevirtual 196, 3) := by decide +kernel
theorem dX10_way_47 : decode cX10_way 47 = .ok (.ifCond .ne 5, 3) := by decide +kernel
theorem dX10_way_50 : decode cX10_way 50 = .ok (.iconst (-1), 1) := by decide +kernel
theorem dX10_way_51 : decode cX10_way 51 = .ok (.ireturn, 1) := by decide +kernel
theorem dX10_way_52 : decode cX10_way 52 = .ok (.aload_n 0, 1) := by decide +kernel
theorem dX10_way_53 : decode cX10_way 53 = .ok (.getfield 19, 3) := by decide +kernel
theorem dX10_way_56 : decode cX10_way 56 = .ok (.invokevirtual 200, 3) := by decide +kernel
theorem dX10_way_59 : decode cX10_way 59 = .ok (.iload_n 1, 1) := by decide +kernel
theorem dX10_way_60 : decode cX10_way 60 = .ok (.iconst (-1), 1) := by decide +kernel
theorem dX10_way_61 : decode cX10_way 61 = .ok (.if_icmp .ne 11, 3) := by decide +kernel
theorem dX10_way_64 : decode cX10_way 64 = .ok (.aload_n 0, 1) := by decide +kernel
theorem dX10_way_65 : decode cX10_way 65 = .ok (.getfield 19, 3) := by decide +kernel
theorem dX10_way_68 : decode cX10_way 68 = .ok (.invokevirtual 203, 3) := by decide +kernel
theorem dX10_way_71 : decode cX10_way 71 = .ok (.ireturn, 1) := by decide +kernel
theorem dX10_way_72 : decode cX10_way 72 = .ok (.iload_n 1, 1) := by decide +kernel
theorem dX10_way_73 : decode cX10_way 73 = .ok (.aload_n 0, 1) := by decide +kernel
theorem dX10_way_74 : decode cX10_way 74 = .ok (.getfield 19, 3) := by decide +kernel
theorem dX10_way_77 : decode cX10_way 77 = .ok (.getfield 206, 3) := by decide +kernel
theorem dX10_way_80 : decode cX10_way 80 = .ok (.if_icmp .lt 8, 3) := by decide +kernel
theorem dX10_way_83 : decode cX10_way 83 = .ok (.bipush (-5), 2) := by decide +kernel
theorem dX10_way_85 : decode cX10_way 85 = .ok (.goto 11, 3) := by decide +kernel
theorem dX10_way_88 : decode cX10_way 88 = .ok (.aload_n 0, 1) := by decide +kernel
theorem dX10_way_89 : decode cX10_way 89 = .ok (.getfield 19, 3) := by decide +kernel
theorem dX10_way_92 : decode cX10_way 92 = .ok (.iload_n 1, 1) := by decide +kernel
theorem dX10_way_93 : decode cX10_way 93 = .ok (.invokevirtual 209, 3) := by decide +kernel
theorem dX10_way_96 : decode cX10_way 96 = .ok (.ireturn, 1) := by decide +kernel
theorem dX10_two_0 : decode cX10_two 0 = .ok (.iload_n 1, 1) := by decide +kernel
theorem dX10_two_1 : decode cX10_two 1 = .ok (.invokestatic 55, 3) := by decide +kernel
theorem dX10_two_4 : decode cX10_two 4 = .ok (.ifCond .eq 10, 3) := by decide +kernel
theorem dX10_two_7 : decode cX10_two 7 = .ok (.iload_n 2, 1) := by decide +kernel
theorem dX10_two_8 : decode cX10_two 8 = .ok (.invokestatic 55, 3) := by decide +kernel
theorem dX10_two_11 : decode cX10_two 11 = .ok (.ifCond .ne 8, 3) := by decide +kernel
theorem dX10_two_14 : decode cX10_two 14 = .ok (.aload_n 0, 1) := by decide +kernel
theorem dX10_two_15 : decode cX10_two 15 = .ok (.invokevirtual 74, 3) := by decide +kernel
theorem dX10_two_18 : decode cX10_two 18 = .ok (.ireturn, 1) := by decide +kernel
theorem dX10_two_19 : decode cX10_two 19 = .ok (.iconst 0, 1) := by decide +kernel
theorem dX10_two_20 : decode cX10_two 20 = .ok (.istore_n 3, 1) := by decide +kernel
theorem dX10_two_21 : decode cX10_two 21 = .ok (.iconst 1, 1) := by decide +kernel
theorem dX10_two_22 : decode cX10_two 22 = .ok (.istore 4, 2) := by decide +kernel
theorem dX10_two_24 : decode cX10_two 24 = .ok (.iload 4, 2) := by decide +kernel
theorem dX10_two_26 : decode cX10_two 26 = .ok (.aload_n 0, 1) := by decide +kernel
theorem dX10_two_27 : decode cX10_two 27 = .ok (.getfield 26, 3) := by decide +kernel
theorem dX10_two_30 : decode cX10_two 30 = .ok (.getfield 48, 3) := by decide +kernel
theorem dX10_two_33 : decode cX10_two 33 = .ok (.if_icmp .ge 58, 3) := by decide +kernel
theorem dX10_two_36 : decode cX10_two 36 = .ok (.iconst 0, 1) := by decide +kernel
theorem dX10_two_37 : decode cX10_two 37 = .ok (.istore 5, 2) := by decide +kernel
theorem dX10_two_39 : decode cX10_two 39 = .ok (.iload 5, 2) := by decide +kernel
theorem dX10_two_41 : decode cX10_two 41 = .ok (.iload 4, 2) := by decide +kernel
theorem dX10_two_43 : decode cX10_two 43 = .ok (.if_icmp .ge 42, 3) := by decide +kernel
theorem dX10_two_46 : decode cX10_two 46 = .ok (.aload_n 0, 1) := by decide +kernel
theorem dX10_two_47 : decode cX10_two 47 = .ok (.getfield 26, 3) := by decide +kernel
theorem dX10_two_50 : decode cX10_two 50 = .ok (.iload_n 1, 1) := by decide +kernel
theorem dX10_two_51 : decode cX10_two 51 = .ok (.iload 5, 2) := by decide +kernel
theorem dX10_two_53 : decode cX10_two 53 = .ok (.iload 4, 2) := by decide +kernel
theorem dX10_two_55 : decode cX10_two 55 = .ok (.invokevirtual 213, 3) := by decide +kernel
theorem dX10_two_58 : decode cX10_two 58 = .ok (.ifCond .ne 18, 3) := by decide +kernel
theorem dX10_two_61 : decode cX10_two 61 = .ok (.aload_n 0, 1) := by decide +kernel
theorem dX10_two_62 : decode cX10_two 62 = .ok (.getfield 26, 3) := by decide +kernel
theorem dX10_two_65 : decode cX10_two 65 = .ok (.iload_n 2, 1) := by decide +kernel
theorem dX10_two_66 : decode cX10_two 66 = .ok (.iload 5, 2) := by decide +kernel
theorem dX10_two_68 : decode cX10_two 68 = .ok (.iload 4, 2) := by decide +kernel
theorem dX10_two_70 : decode cX10_two 70 = .ok (.invokevirtual 213, 3) := by decide +kernel
theorem dX10_two_73 : decode cX10_two 73 = .ok (.ifCond .eq 6, 3) := by decide +kernel
theorem dX10_two_76 : decode cX10_two 76 = .ok (.iinc 3 1, 3) := by decide +kernel
theorem dX10_two_79 : decode cX10_two 79 = .ok (.iinc 5 1, 3) := by decide +kernel
theorem dX10_two_82 : decode cX10_two 82 = .ok (.goto (-43), 3) := by decide +kernel
theorem dX10_two_85 : decode cX10_two 85 = .ok (.iinc 4 1, 3) := by decide +kernel
theorem dX10_two_88 : decode cX10_two 88 = .ok (.goto (-64), 3) := by decide +kernel
theorem dX10_two_91 : decode cX10_two 91 = .ok (.iload_n 3, 1) := by decide +kernel
theorem dX10_two_92 : decode cX10_two 92 = .ok (.ireturn, 1) := by decide +kernel
theorem dX10_beside_0 : decode cX10_beside 0 = .ok (.iconst 0, 1) := by decide +kernel
theorem dX10_beside_1 : decode cX10_beside 1 = .ok (.istore_n 1, 1) := by decide +kernel
theorem dX10_beside_2 : decode cX10_beside 2 = .ok (.aload_n 0, 1) := by decide +kernel
theorem dX10_beside_3 : decode cX10_beside 3 = .ok (.getfield 26, 3) := by decide +kernel
theorem dX10_beside_6 : decode cX10_beside 6 = .ok (.iconst 0, 1) := by decide +kernel
theorem dX10_beside_7 : decode cX10_beside 7 = .ok (.invokevirtual 216, 3) := by decide +kernel
theorem dX10_beside_10 : decode cX10_beside 10 = .ok (.istore_n 2, 1) := by decide +kernel
theorem dX10_beside_11 : decode cX10_beside 11 = .ok (.iconst 1, 1) := by decide +kernel
theorem dX10_beside_12 : decode cX10_beside 12 = .ok (.istore_n 3, 1) := by decide +kernel
theorem dX10_beside_13 : decode cX10_beside 13 = .ok (.iload_n 3, 1) := by decide +kernel
theorem dX10_beside_14 : decode cX10_beside 14 = .ok (.bipush 8, 2) := by decide +kernel
theorem dX10_beside_16 : decode cX10_beside 16 = .ok (.if_icmp .ge 30, 3) := by decide +kernel
theorem dX10_beside_19 : decode cX10_beside 19 = .ok (.aload_n 0, 1) := by decide +kernel
theorem dX10_beside_20 : decode cX10_beside 20 = .ok (.getfield 26, 3) := by decide +kernel
theorem dX10_beside_23 : decode cX10_beside 23 = .ok (.iload_n 3, 1) := by decide +kernel
theorem dX10_beside_24 : decode cX10_beside 24 = .ok (.invokevirtual 216, 3) := by decide +kernel
theorem dX10_beside_27 : decode cX10_beside 27 = .ok (.istore 4, 2) := by decide +kernel
theorem dX10_beside_29 : decode cX10_beside 29 = .ok (.iload 4, 2) := by decide +kernel
theorem dX10_beside_31 : decode cX10_beside 31 = .ok (.iload_n 2, 1) := by decide +kernel
theorem dX10_beside_32 : decode cX10_beside 32 = .ok (.if_icmp .le 8, 3) := by decide +kernel
theorem dX10_beside_35 : decode cX10_beside 35 = .ok (.iload_n 3, 1) := by decide +kernel
theorem dX10_beside_36 : decode cX10_beside 36 = .ok (.istore_n 1, 1) := by decide +kernel
theorem dX10_beside_37 : decode cX10_beside 37 = .ok (.iload 4, 2) := by decide +kernel
theorem dX10_beside_39 : decode cX10_beside 39 = .ok (.istore_n 2, 1) := by decide +kernel
theorem dX10_beside_40 : decode cX10_beside 40 = .ok (.iinc 3 1, 3) := by decide +kernel
theorem dX10_beside_43 : decode cX10_beside 43 = .ok (.goto (-30), 3) := by decide +kernel
theorem dX10_beside_46 : decode cX10_beside 46 = .ok (.iload_n 1, 1) := by decide +kernel
theorem dX10_beside_47 : decode cX10_beside 47 = .ok (.ireturn, 1) := by decide +kernel
theorem dX10_note_0 : decode cX10_note 0 = .ok (.iload_n 1, 1) := by decide +kernel
theorem dX10_note_1 : decode cX10_note 1 = .ok (.invokestatic 55, 3) := by decide +kernel
theorem dX10_note_4 : decode cX10_note 4 = .ok (.ifCond .eq 13, 3) := by decide +kernel
theorem dX10_note_7 : decode cX10_note 7 = .ok (.iload_n 2, 1) := by decide +kernel
theorem dX10_note_8 : decode cX10_note 8 = .ok (.iconst (-1), 1) := by decide +kernel
theorem dX10_note_9 : decode cX10_note 9 = .ok (.bipush 7, 2) := by decide +kernel
theorem dX10_note_11 : decode cX10_note 11 = .ok (.invokestatic 59, 3) := by decide +kernel
theorem dX10_note_14 : decode cX10_note 14 = .ok (.ifCond .ne 8, 3) := by decide +kernel
theorem dX10_note_17 : decode cX10_note 17 = .ok (.aload_n 0, 1) := by decide +kernel
theorem dX10_note_18 : decode cX10_note 18 = .ok (.invokevirtual 74, 3) := by decide +kernel
theorem dX10_note_21 : decode cX10_note 21 = .ok (.ireturn, 1) := by decide +kernel
theorem dX10_note_22 : decode cX10_note 22 = .ok (.aload_n 0, 1) := by decide +kernel
theorem dX10_note_23 : decode cX10_note 23 = .ok (.getfield 26, 3) := by decide +kernel
theorem dX10_note_26 : decode cX10_note 26 = .ok (.getfield 219, 3) := by decide +kernel
theorem dX10_note_29 : decode cX10_note 29 = .ok (.bipush 6, 2) := by decide +kernel
theorem dX10_note_31 : decode cX10_note 31 = .ok (.if_icmp .lt 8, 3) := by decide +kernel
theorem dX10_note_34 : decode cX10_note 34 = .ok (.aload_n 0, 1) := by decide +kernel
theorem dX10_note_35 : decode cX10_note 35 = .ok (.invokevirtual 78, 3) := by decide +kernel
theorem dX10_note_38 : decode cX10_note 38 = .ok (.ireturn, 1) := by decide +kernel
theorem dX10_note_39 : decode cX10_note 39 = .ok (.aload_n 0, 1) := by decide +kernel
theorem dX10_note_40 : decode cX10_note 40 = .ok (.getfield 26, 3) := by decide +kernel
theorem dX10_note_43 : decode cX10_note 43 = .ok (.iload_n 1, 1) := by decide +kernel
theorem dX10_note_44 : decode cX10_note 44 = .ok (.iload_n 2, 1) := by decide +kernel
theorem dX10_note_45 : decode cX10_note 45 = .ok (.invokevirtual 222, 3) := by decide +kernel
theorem dX10_note_48 : decode cX10_note 48 = .ok (.aload_n 0, 1) := by decide +kernel
theorem dX10_note_49 : decode cX10_note 49 = .ok (.getfield 26, 3) := by decide +kernel
theorem dX10_note_52 : decode cX10_note 52 = .ok (.getfield 219, 3) := by decide +kernel
theorem dX10_note_55 : decode cX10_note 55 = .ok (.ireturn, 1) := by decide +kernel
theorem dX10_forget_0 : decode cX10_forget 0 = .ok (.aload_n 0, 1) := by decide +kernel
theorem dX10_forget_1 : decode cX10_forget 1 = .ok (.getfield 26, 3) := by decide +kernel
theorem dX10_forget_4 : decode cX10_forget 4 = .ok (.getfield 219, 3) := by decide +kernel
theorem dX10_forget_7 : decode cX10_forget 7 = .ok (.istore_n 1, 1) := by decide +kernel
theorem dX10_forget_8 : decode cX10_forget 8 = .ok (.aload_n 0, 1) := by decide +kernel
theorem dX10_forget_9 : decode cX10_forget 9 = .ok (.getfield 26, 3) := by decide +kernel
theorem dX10_forget_12 : decode cX10_forget 12 = .ok (.iconst 0, 1) := by decide +kernel
theorem dX10_forget_13 : decode cX10_forget 13 = .ok (.putfield 219, 3) := by decide +kernel
theorem dX10_forget_16 : decode cX10_forget 16 = .ok (.iload_n 1, 1) := by decide +kernel
theorem dX10_forget_17 : decode cX10_forget 17 = .ok (.ireturn, 1) := by decide +kernel
theorem dX10_which_0 : decode cX10_which 0 = .ok (.aload_n 0, 1) := by decide +kernel
theorem dX10_which_1 : decode cX10_which 1 = .ok (.getfield 26, 3) := by decide +kernel
theorem dX10_which_4 : decode cX10_which 4 = .ok (.invokevirtual 225, 3) := by decide +kernel
theorem dX10_which_7 : decode cX10_which 7 = .ok (.ireturn, 1) := by decide +kernel
theorem dX10_stand_0 : decode cX10_stand 0 = .ok (.aload_n 0, 1) := by decide +kernel
theorem dX10_stand_1 : decode cX10_stand 1 = .ok (.getfield 26, 3) := by decide +kernel
theorem dX10_stand_4 : decode cX10_stand 4 = .ok (.invokevirtual 225, 3) := by decide +kernel
theorem dX10_stand_7 : decode cX10_stand 7 = .ok (.istore_n 1, 1) := by decide +kernel
theorem dX10_stand_8 : decode cX10_stand 8 = .ok (.iload_n 1, 1) := by decide +kernel
theorem dX10_stand_9 : decode cX10_stand 9 = .ok (.ifCond .ne 5, 3) := by decide +kernel
theorem dX10_stand_12 : decode cX10_stand 12 = .ok (.iconst (-1), 1) := by decide +kernel
theorem dX10_stand_13 : decode cX10_stand 13 = .ok (.ireturn, 1) := by decide +kernel
theorem dX10_stand_14 : decode cX10_stand 14 = .ok (.aload_n 0, 1) := by decide +kernel
theorem dX10_stand_15 : decode cX10_stand 15 = .ok (.getfield 19, 3) := by decide +kernel
theorem dX10_stand_18 : decode cX10_stand 18 = .ok (.aload_n 0, 1) := by decide +kernel
theorem dX10_stand_19 : decode cX10_stand 19 = .ok (.getfield 26, 3) := by decide +kernel
theorem dX10_stand_22 : decode cX10_stand 22 = .ok (.invokevirtual 177, 3) := by decide +kernel
theorem dX10_stand_25 : decode cX10_stand 25 = .ok (.aload_n 0, 1) := by decide +kernel
theorem dX10_stand_26 : decode cX10_stand 26 = .ok (.getfield 19, 3) := by decide +kernel
theorem dX10_stand_29 : decode cX10_stand 29 = .ok (.iload_n 1, 1) := by decide +kernel
theorem dX10_stand_30 : decode cX10_stand 30 = .ok (.invokevirtual 228, 3) := by decide +kernel
theorem dX10_stand_33 : decode cX10_stand 33 = .ok (.ireturn, 1) := by decide +kernel
theorem dX10_is_0 : decode cX10_is 0 = .ok (.aload_n 0, 1) := by decide +kernel
theorem dX10_is_1 : decode cX10_is 1 = .ok (.iload_n 1, 1) := by decide +kernel
theorem dX10_is_2 : decode cX10_is 2 = .ok (.invokevirtual 123, 3) := by decide +kernel
theorem dX10_is_5 : decode cX10_is 5 = .ok (.ifCond .eq 19, 3) := by decide +kernel
theorem dX10_is_8 : decode cX10_is 8 = .ok (.iload_n 2, 1) := by decide +kernel
theorem dX10_is_9 : decode cX10_is 9 = .ok (.invokestatic 161, 3) := by decide +kernel
theorem dX10_is_12 : decode cX10_is 12 = .ok (.ifCond .eq 12, 3) := by decide +kernel
theorem dX10_is_15 : decode cX10_is 15 = .ok (.iload_n 3, 1) := by decide +kernel
theorem dX10_is_16 : decode cX10_is 16 = .ok (.iconst 0, 1) := by decide +kernel
theorem dX10_is_17 : decode cX10_is 17 = .ok (.iconst 1, 1) := by decide +kernel
theorem dX10_is_18 : decode cX10_is 18 = .ok (.invokestatic 59, 3) := by decide +kernel
theorem dX10_is_21 : decode cX10_is 21 = .ok (.ifCond .ne 8, 3) := by decide +kernel
theorem dX10_is_24 : decode cX10_is 24 = .ok (.aload_n 0, 1) := by decide +kernel
theorem dX10_is_25 : decode cX10_is 25 = .ok (.invokevirtual 74, 3) := by decide +kernel
theorem dX10_is_28 : decode cX10_is 28 = .ok (.ireturn, 1) := by decide +kernel
theorem dX10_is_29 : decode cX10_is 29 = .ok (.iconst 0, 1) := by decide +kernel
theorem dX10_is_30 : decode cX10_is 30 = .ok (.istore 4, 2) := by decide +kernel
theorem dX10_is_32 : decode cX10_is 32 = .ok (.iconst 0, 1) := by decide +kernel
theorem dX10_is_33 : decode cX10_is 33 = .ok (.istore 5, 2) := by decide +kernel
theorem dX10_is_35 : decode cX10_is 35 = .ok (.iload 5, 2) := by decide +kernel
theorem dX10_is_37 : decode cX10_is 37 = .ok (.bipush 6, 2) := by decide +kernel
theorem dX10_is_39 : decode cX10_is 39 = .ok (.if_icmp .ge 67, 3) := by decide +kernel
theorem dX10_is_42 : decode cX10_is 42 = .ok (.aload_n 0, 1) := by decide +kernel
theorem dX10_is_43 : decode cX10_is 43 = .ok (.getfield 26, 3) := by decide +kernel
theorem dX10_is_46 : decode cX10_is 46 = .ok (.getfield 231, 3) := by decide +kernel
theorem dX10_is_49 : decode cX10_is 49 = .ok (.iload 5, 2) := by decide +kernel
theorem dX10_is_51 : decode cX10_is 51 = .ok (.aaload, 1) := by decide +kernel
theorem dX10_is_52 : decode cX10_is 52 = .ok (.iload_n 2, 1) := by decide +kernel
theorem dX10_is_53 : decode cX10_is 53 = .ok (.aload_n 0, 1) := by decide +kernel
theorem dX10_is_54 : decode cX10_is 54 = .ok (.getfield 26, 3) := by decide +kernel
theorem dX10_is_57 : decode cX10_is 57 = .ok (.getfield 102, 3) := by decide +kernel
theorem dX10_is_60 : decode cX10_is 60 = .ok (.getfield 137, 3) := by decide +kernel
theorem dX10_is_63 : decode cX10_is 63 = .ok (.aload_n 0, 1) := by decide +kernel
theorem dX10_is_64 : decode cX10_is 64 = .ok (.getfield 26, 3) := by decide +kernel
theorem dX10_is_67 : decode cX10_is 67 = .ok (.getfield 102, 3) := by decide +kernel
theorem dX10_is_70 : decode cX10_is 70 = .ok (.getfield 134, 3) := by decide +kernel
theorem dX10_is_73 : decode cX10_is 73 = .ok (.iload_n 1, 1) := by decide +kernel
theorem dX10_is_74 : decode cX10_is 74 = .ok (.iaload, 1) := by decide +kernel
theorem dX10_is_75 : decode cX10_is 75 = .ok (.invokevirtual 235, 3) := by decide +kernel
theorem dX10_is_78 : decode cX10_is 78 = .ok (.iload_n 3, 1) := by decide +kernel
theorem dX10_is_79 : decode cX10_is 79 = .ok (.iconst 1, 1) := by decide +kernel
theorem dX10_is_80 : decode cX10_is 80 = .ok (.if_icmp .ne 7, 3) := by decide +kernel
theorem dX10_is_83 : decode cX10_is 83 = .ok (.iconst 1, 1) := by decide +kernel
theorem dX10_is_84 : decode cX10_is 84 = .ok (.goto 4, 3) := by decide +kernel
theorem dX10_is_87 : decode cX10_is 87 = .ok (.iconst 0, 1) := by decide +kernel
theorem dX10_is_88 : decode cX10_is 88 = .ok (.if_icmp .ne 12, 3) := by decide +kernel
theorem dX10_is_91 : decode cX10_is 91 = .ok (.iload 4, 2) := by decide +kernel
theorem dX10_is_93 : decode cX10_is 93 = .ok (.iconst 1, 1) := by decide +kernel
theorem dX10_is_94 : decode cX10_is 94 = .ok (.iload 5, 2) := by decide +kernel
theorem dX10_is_96 : decode cX10_is 96 = .ok (.ishl, 1) := by decide +kernel
theorem dX10_is_97 : decode cX10_is 97 = .ok (.ior, 1) := by decide +kernel
theorem dX10_is_98 : decode cX10_is 98 = .ok (.istore 4, 2) := by decide +kernel
theorem dX10_is_100 : decode cX10_is 100 = .ok (.iinc 5 1, 3) := by decide +kernel
theorem dX10_is_103 : decode cX10_is 103 = .ok (.goto (-68), 3) := by decide +kernel
theorem dX10_is_106 : decode cX10_is 106 = .ok (.iload 4, 2) := by decide +kernel
theorem dX10_is_108 : decode cX10_is 108 = .ok (.ireturn, 1) := by decide +kernel
theorem dX10_missed_0 : decode cX10_missed 0 = .ok (.iload_n 1, 1) := by decide +kernel
theorem dX10_missed_1 : decode cX10_missed 1 = .ok (.invokestatic 55, 3) := by decide +kernel
theorem dX10_missed_4 : decode cX10_missed 4 = .ok (.ifCond .eq 20, 3) := by decide +kernel
theorem dX10_missed_7 : decode cX10_missed 7 = .ok (.iload_n 2, 1) := by decide +kernel
theorem dX10_missed_8 : decode cX10_missed 8 = .ok (.invokestatic 161, 3) := by decide +kernel
theorem dX10_missed_11 : decode cX10_missed 11 = .ok (.ifCond .eq 13, 3) := by decide +kernel
theorem dX10_missed_14 : decode cX10_missed 14 = .ok (.iload_n 3, 1) := by decide +kernel
theorem dX10_missed_15 : decode cX10_missed 15 = .ok (.iconst 0, 1) := by decide +kernel
theorem dX10_missed_16 : decode cX10_missed 16 = .ok (.bipush 10, 2) := by decide +kernel
theorem dX10_missed_18 : decode cX10_missed 18 = .ok (.invokestatic 59, 3) := by decide +kernel
theorem dX10_missed_21 : decode cX10_missed 21 = .ok (.ifCond .ne 8, 3) := by decide +kernel
theorem dX10_missed_24 : decode cX10_missed 24 = .ok (.aload_n 0, 1) := by decide +kernel
theorem dX10_missed_25 : decode cX10_missed 25 = .ok (.invokevirtual 74, 3) := by decide +kernel
theorem dX10_missed_28 : decode cX10_missed 28 = .ok (.ireturn, 1) := by decide +kernel
theorem dX10_missed_29 : decode cX10_missed 29 = .ok (.aload_n 0, 1) := by decide +kernel
theorem dX10_missed_30 : decode cX10_missed 30 = .ok (.aload_n 0, 1) := by decide +kernel
theorem dX10_missed_31 : decode cX10_missed 31 = .ok (.getfield 26, 3) := by decide +kernel
theorem dX10_missed_34 : decode cX10_missed 34 = .ok (.iload_n 1, 1) := by decide +kernel
theorem dX10_missed_35 : decode cX10_missed 35 = .ok (.iload_n 2, 1) := by decide +kernel
theorem dX10_missed_36 : decode cX10_missed 36 = .ok (.invokevirtual 114, 3) := by decide +kernel
theorem dX10_missed_39 : decode cX10_missed 39 = .ok (.invokestatic 238, 3) := by decide +kernel
theorem dX10_missed_42 : decode cX10_missed 42 = .ok (.bipush 10, 2) := by decide +kernel
theorem dX10_missed_44 : decode cX10_missed 44 = .ok (.iload_n 3, 1) := by decide +kernel
theorem dX10_missed_45 : decode cX10_missed 45 = .ok (.isub, 1) := by decide +kernel
theorem dX10_missed_46 : decode cX10_missed 46 = .ok (.imul, 1) := by decide +kernel
theorem dX10_missed_47 : decode cX10_missed 47 = .ok (.invokevirtual 243, 3) := by decide +kernel
theorem dX10_missed_50 : decode cX10_missed 50 = .ok (.iconst 1, 1) := by decide +kernel
theorem dX10_missed_51 : decode cX10_missed 51 = .ok (.ireturn, 1) := by decide +kernel
theorem dX10_nights_0 : decode cX10_nights 0 = .ok (.iload_n 1, 1) := by decide +kernel
theorem dX10_nights_1 : decode cX10_nights 1 = .ok (.iconst 0, 1) := by decide +kernel
theorem dX10_nights_2 : decode cX10_nights 2 = .ok (.ldc 246, 2) := by decide +kernel
theorem dX10_nights_4 : decode cX10_nights 4 = .ok (.invokestatic 59, 3) := by decide +kernel
theorem dX10_nights_7 : decode cX10_nights 7 = .ok (.ifCond .eq 13, 3) := by decide +kernel
theorem dX10_nights_10 : decode cX10_nights 10 = .ok (.iload_n 2, 1) := by decide +kernel
theorem dX10_nights_11 : decode cX10_nights 11 = .ok (.iconst 0, 1) := by decide +kernel
theorem dX10_nights_12 : decode cX10_nights 12 = .ok (.bipush 60, 2) := by decide +kernel
theorem dX10_nights_14 : decode cX10_nights 14 = .ok (.invokestatic 59, 3) := by decide +kernel
theorem dX10_nights_17 : decode cX10_nights 17 = .ok (.ifCond .ne 8, 3) := by decide +kernel
theorem dX10_nights_20 : decode cX10_nights 20 = .ok (.aload_n 0, 1) := by decide +kernel
theorem dX10_nights_21 : decode cX10_nights 21 = .ok (.invokevirtual 74, 3) := by decide +kernel
theorem dX10_nights_24 : decode cX10_nights 24 = .ok (.ireturn, 1) := by decide +kernel
theorem dX10_nights_25 : decode cX10_nights 25 = .ok (.iconst 0, 1) := by decide +kernel
theorem dX10_nights_26 : decode cX10_nights 26 = .ok (.istore_n 3, 1) := by decide +kernel
theorem dX10_nights_27 : decode cX10_nights 27 = .ok (.iload_n 1, 1) := by decide +kernel
theorem dX10_nights_28 : decode cX10_nights 28 = .ok (.i2l, 1) := by decide +kernel
theorem dX10_nights_29 : decode cX10_nights 29 = .ok (.lstore 4, 2) := by decide +kernel
theorem dX10_nights_31 : decode cX10_nights 31 = .ok (.iconst 0, 1) := by decide +kernel
theorem dX10_nights_32 : decode cX10_nights 32 = .ok (.istore 6, 2) := by decide +kernel
theorem dX10_nights_34 : decode cX10_nights 34 = .ok (.iload 6, 2) := by decide +kernel
theorem dX10_nights_36 : decode cX10_nights 36 = .ok (.iload_n 2, 1) := by decide +kernel
theorem dX10_nights_37 : decode cX10_nights 37 = .ok (.if_icmp .ge 68, 3) := by decide +kernel
theorem dX10_nights_40 : decode cX10_nights 40 = .ok (.lload 4, 2) := by decide +kernel
theorem dX10_nights_42 : decode cX10_nights 42 = .ok (.ldc2_w 247, 3) := by decide +kernel
theorem dX10_nights_45 : decode cX10_nights 45 = .ok (.lmul, 1) := by decide +kernel
theorem dX10_nights_46 : decode cX10_nights 46 = .ok (.ldc2_w 249, 3) := by decide +kernel
theorem dX10_nights_49 : decode cX10_nights 49 = .ok (.ladd, 1) := by decide +kernel
theorem dX10_nights_50 : decode cX10_nights 50 = .ok (.ldc2_w 251, 3) := by decide +kernel
theorem dX10_nights_53 : decode cX10_nights 53 = .ok (.lrem, 1) := by decide +kernel
theorem dX10_nights_54 : decode cX10_nights 54 = .ok (.lstore 4, 2) := by decide +kernel
theorem dX10_nights_56 : decode cX10_nights 56 = .ok (.lload 4, 2) := by decide +kernel
theorem dX10_nights_58 : decode cX10_nights 58 = .ok (.ldc2_w 253, 3) := by decide +kernel
theorem dX10_nights_61 : decode cX10_nights 61 = .ok (.ldiv, 1) := by decide +kernel
theorem dX10_nights_62 : decode cX10_nights 62 = .ok (.ldc2_w 255, 3) := by decide +kernel
theorem dX10_nights_65 : decode cX10_nights 65 = .ok (.lrem, 1) := by decide +kernel
theorem dX10_nights_66 : decode cX10_nights 66 = .ok (.l2i, 1) := by decide +kernel
theorem dX10_nights_67 : decode cX10_nights 67 = .ok (.istore 7, 2) := by decide +kernel
theorem dX10_nights_69 : decode cX10_nights 69 = .ok (.lload 4, 2) := by decide +kernel
theorem dX10_nights_71 : decode cX10_nights 71 = .ok (.ldc2_w 257, 3) := by decide +kernel
theorem dX10_nights_74 : decode cX10_nights 74 = .ok (.ldiv, 1) := by decide +kernel
theorem dX10_nights_75 : decode cX10_nights 75 = .ok (.ldc2_w 259, 3) := by decide +kernel
theorem dX10_nights_78 : decode cX10_nights 78 = .ok (.lrem, 1) := by decide +kernel
theorem dX10_nights_79 : decode cX10_nights 79 = .ok (.l2i, 1) := by decide +kernel
theorem dX10_nights_80 : decode cX10_nights 80 = .ok (.istore 8, 2) := by decide +kernel
theorem dX10_nights_82 : decode cX10_nights 82 = .ok (.aload_n 0, 1) := by decide +kernel
theorem dX10_nights_83 : decode cX10_nights 83 = .ok (.getfield 26, 3) := by decide +kernel
theorem dX10_nights_86 : decode cX10_nights 86 = .ok (.iload 7, 2) := by decide +kernel
theorem dX10_nights_88 : decode cX10_nights 88 = .ok (.iload 8, 2) := by decide +kernel
theorem dX10_nights_90 : decode cX10_nights 90 = .ok (.invokevirtual 261, 3) := by decide +kernel
theorem dX10_nights_93 : decode cX10_nights 93 = .ok (.ifCond .eq 6, 3) := by decide +kernel
theorem dX10_nights_96 : decode cX10_nights 96 = .ok (.iinc 3 1, 3) := by decide +kernel
theorem dX10_nights_99 : decode cX10_nights 99 = .ok (.iinc 6 1, 3) := by decide +kernel
theorem dX10_nights_102 : decode cX10_nights 102 = .ok (.goto (-68), 3) := by decide +kernel
theorem dX10_nights_105 : decode cX10_nights 105 = .ok (.iload_n 3, 1) := by decide +kernel
theorem dX10_nights_106 : decode cX10_nights 106 = .ok (.ireturn, 1) := by decide +kernel
theorem dX10_part_0 : decode cX10_part 0 = .ok (.iload_n 1, 1) := by decide +kernel
theorem dX10_part_1 : decode cX10_part 1 = .ok (.iconst 0, 1) := by decide +kernel
theorem dX10_part_2 : decode cX10_part 2 = .ok (.iconst 1, 1) := by decide +kernel
theorem dX10_part_3 : decode cX10_part 3 = .ok (.invokestatic 59, 3) := by decide +kernel
theorem dX10_part_6 : decode cX10_part 6 = .ok (.ifCond .ne 9, 3) := by decide +kernel
theorem dX10_part_9 : decode cX10_part 9 = .ok (.aload_n 0, 1) := by decide +kernel
theorem dX10_part_10 : decode cX10_part 10 = .ok (.invokevirtual 74, 3) := by decide +kernel
theorem dX10_part_13 : decode cX10_part 13 = .ok (.i2l, 1) := by decide +kernel
theorem dX10_part_14 : decode cX10_part 14 = .ok (.lreturn, 1) := by decide +kernel
theorem dX10_part_15 : decode cX10_part 15 = .ok (.iload_n 1, 1) := by decide +kernel
theorem dX10_part_16 : decode cX10_part 16 = .ok (.ifCond .ne 10, 3) := by decide +kernel
theorem dX10_part_19 : decode cX10_part 19 = .ok (.aload_n 0, 1) := by decide +kernel
theorem dX10_part_20 : decode cX10_part 20 = .ok (.getfield 41, 3) := by decide +kernel
theorem dX10_part_23 : decode cX10_part 23 = .ok (.goto 7, 3) := by decide +kernel
theorem dX10_part_26 : decode cX10_part 26 = .ok (.aload_n 0, 1) := by decide +kernel
theorem dX10_part_27 : decode cX10_part 27 = .ok (.getfield 45, 3) := by decide +kernel
theorem dX10_part_30 : decode cX10_part 30 = .ok (.lreturn, 1) := by decide +kernel
theorem dX10_image_0 : decode cX10_image 0 = .ok (.iload_n 1, 1) := by decide +kernel
theorem dX10_image_1 : decode cX10_image 1 = .ok (.iconst 0, 1) := by decide +kernel
theorem dX10_image_2 : decode cX10_image 2 = .ok (.iconst 1, 1) := by decide +kernel
theorem dX10_image_3 : decode cX10_image 3 = .ok (.invokestatic 59, 3) := by decide +kernel
theorem dX10_image_6 : decode cX10_image 6 = .ok (.ifCond .ne 8, 3) := by decide +kernel
theorem dX10_image_9 : decode cX10_image 9 = .ok (.aload_n 0, 1) := by decide +kernel
theorem dX10_image_10 : decode cX10_image 10 = .ok (.invokevirtual 74, 3) := by decide +kernel
theorem dX10_image_13 : decode cX10_image 13 = .ok (.ireturn, 1) := by decide +kernel
theorem dX10_image_14 : decode cX10_image 14 = .ok (.aload_n 0, 1) := by decide +kernel
theorem dX10_image_15 : decode cX10_image 15 = .ok (.getfield 33, 3) := by decide +kernel
theorem dX10_image_18 : decode cX10_image 18 = .ok (.iload_n 1, 1) := by decide +kernel
theorem dX10_image_19 : decode cX10_image 19 = .ok (.aaload, 1) := by decide +kernel
theorem dX10_image_20 : decode cX10_image 20 = .ok (.aload_n 0, 1) := by decide +kernel
theorem dX10_image_21 : decode cX10_image 21 = .ok (.getfield 26, 3) := by decide +kernel
theorem dX10_image_24 : decode cX10_image 24 = .ok (.invokevirtual 264, 3) := by decide +kernel
theorem dX10_image_27 : decode cX10_image 27 = .ok (.aload_n 0, 1) := by decide +kernel
theorem dX10_image_28 : decode cX10_image 28 = .ok (.getfield 37, 3) := by decide +kernel
theorem dX10_image_31 : decode cX10_image 31 = .ok (.iload_n 1, 1) := by decide +kernel
theorem dX10_image_32 : decode cX10_image 32 = .ok (.iconst 1, 1) := by decide +kernel
theorem dX10_image_33 : decode cX10_image 33 = .ok (.bastore, 1) := by decide +kernel
theorem dX10_image_34 : decode cX10_image 34 = .ok (.iconst 1, 1) := by decide +kernel
theorem dX10_image_35 : decode cX10_image 35 = .ok (.ireturn, 1) := by decide +kernel
theorem dX10_from_0 : decode cX10_from 0 = .ok (.iload_n 1, 1) := by decide +kernel
theorem dX10_from_1 : decode cX10_from 1 = .ok (.iconst 0, 1) := by decide +kernel
theorem dX10_from_2 : decode cX10_from 2 = .ok (.iconst 1, 1) := by decide +kernel
theorem dX10_from_3 : decode cX10_from 3 = .ok (.invokestatic 59, 3) := by decide +kernel
theorem dX10_from_6 : decode cX10_from 6 = .ok (.ifCond .ne 8, 3) := by decide +kernel
theorem dX10_from_9 : decode cX10_from 9 = .ok (.aload_n 0, 1) := by decide +kernel
theorem dX10_from_10 : decode cX10_from 10 = .ok (.invokevirtual 74, 3) := by decide +kernel
theorem dX10_from_13 : decode cX10_from 13 = .ok (.ireturn, 1) := by decide +kernel
theorem dX10_from_14 : decode cX10_from 14 = .ok (.aload_n 0, 1) := by decide +kernel
theorem dX10_from_15 : decode cX10_from 15 = .ok (.getfield 37, 3) := by decide +kernel
theorem dX10_from_18 : decode cX10_from 18 = .ok (.iload_n 1, 1) := by decide +kernel
theorem dX10_from_19 : decode cX10_from 19 = .ok (.baload, 1) := by decide +kernel
theorem dX10_from_20 : decode cX10_from 20 = .ok (.ifCond .ne 8, 3) := by decide +kernel
theorem dX10_from_23 : decode cX10_from 23 = .ok (.aload_n 0, 1) := by decide +kernel
theorem dX10_from_24 : decode cX10_from 24 = .ok (.invokevirtual 120, 3) := by decide +kernel
theorem dX10_from_27 : decode cX10_from 27 = .ok (.ireturn, 1) := by decide +kernel
theorem dX10_from_28 : decode cX10_from 28 = .ok (.aload_n 0, 1) := by decide +kernel
theorem dX10_from_29 : decode cX10_from 29 = .ok (.getfield 26, 3) := by decide +kernel
theorem dX10_from_32 : decode cX10_from 32 = .ok (.aload_n 0, 1) := by decide +kernel
theorem dX10_from_33 : decode cX10_from 33 = .ok (.getfield 33, 3) := by decide +kernel
theorem dX10_from_36 : decode cX10_from 36 = .ok (.iload_n 1, 1) := by decide +kernel
theorem dX10_from_37 : decode cX10_from 37 = .ok (.aaload, 1) := by decide +kernel
theorem dX10_from_38 : decode cX10_from 38 = .ok (.invokevirtual 264, 3) := by decide +kernel
theorem dX10_from_41 : decode cX10_from 41 = .ok (.iconst 1, 1) := by decide +kernel
theorem dX10_from_42 : decode cX10_from 42 = .ok (.ireturn, 1) := by decide +kernel
theorem dX10_status_0 : decode cX10_status 0 = .ok (.iload_n 1, 1) := by decide +kernel
theorem dX10_status_1 : decode cX10_status 1 = .ok (.tableswitch 42 0 2 #[27, 32, 37], 27) := by decide +kernel
theorem dX10_status_28 : decode cX10_status 28 = .ok (.aload_n 0, 1) := by decide +kernel
theorem dX10_status_29 : decode cX10_status 29 = .ok (.getfield 63, 3) := by decide +kernel
theorem dX10_status_32 : decode cX10_status 32 = .ok (.ireturn, 1) := by decide +kernel
theorem dX10_status_33 : decode cX10_status 33 = .ok (.aload_n 0, 1) := by decide +kernel
theorem dX10_status_34 : decode cX10_status 34 = .ok (.getfield 267, 3) := by decide +kernel
theorem dX10_status_37 : decode cX10_status 37 = .ok (.ireturn, 1) := by decide +kernel
theorem dX10_status_38 : decode cX10_status 38 = .ok (.aload_n 0, 1) := by decide +kernel
theorem dX10_status_39 : decode cX10_status 39 = .ok (.getfield 270, 3) := by decide +kernel
theorem dX10_status_42 : decode cX10_status 42 = .ok (.ireturn, 1) := by decide +kernel
theorem dX10_status_43 : decode cX10_status 43 = .ok (.aload_n 0, 1) := by decide +kernel
theorem dX10_status_44 : decode cX10_status 44 = .ok (.dup, 1) := by decide +kernel
theorem dX10_status_45 : decode cX10_status 45 = .ok (.getfield 63, 3) := by decide +kernel
theorem dX10_status_48 : decode cX10_status 48 = .ok (.iconst 1, 1) := by decide +kernel
theorem dX10_status_49 : decode cX10_status 49 = .ok (.iadd, 1) := by decide +kernel
theorem dX10_status_50 : decode cX10_status 50 = .ok (.putfield 63, 3) := by decide +kernel
theorem dX10_status_53 : decode cX10_status 53 = .ok (.iconst (-1), 1) := by decide +kernel
theorem dX10_status_54 : decode cX10_status 54 = .ok (.ireturn, 1) := by decide +kernel
theorem dX10_count_0 : decode cX10_count 0 = .ok (.iload_n 1, 1) := by decide +kernel
theorem dX10_count_1 : decode cX10_count 1 = .ok (.iconst 0, 1) := by decide +kernel
theorem dX10_count_2 : decode cX10_count 2 = .ok (.bipush 7, 2) := by decide +kernel
theorem dX10_count_4 : decode cX10_count 4 = .ok (.invokestatic 59, 3) := by decide +kernel
theorem dX10_count_7 : decode cX10_count 7 = .ok (.ifCond .eq 11, 3) := by decide +kernel
theorem dX10_count_10 : decode cX10_count 10 = .ok (.aload_n 0, 1) := by decide +kernel
theorem dX10_count_11 : decode cX10_count 11 = .ok (.iload_n 1, 1) := by decide +kernel
theorem dX10_count_12 : decode cX10_count 12 = .ok (.invokevirtual 273, 3) := by decide +kernel
theorem dX10_count_15 : decode cX10_count 15 = .ok (.goto 7, 3) := by decide +kernel
theorem dX10_count_18 : decode cX10_count 18 = .ok (.aload_n 0, 1) := by decide +kernel
theorem dX10_count_19 : decode cX10_count 19 = .ok (.invokevirtual 74, 3) := by decide +kernel
theorem dX10_count_22 : decode cX10_count 22 = .ok (.ireturn, 1) := by decide +kernel
theorem dX10_digest_0 : decode cX10_digest 0 = .ok (.ldc2_w 276, 3) := by decide +kernel
theorem dX10_digest_3 : decode cX10_digest 3 = .ok (.lstore_n 1, 1) := by decide +kernel
theorem dX10_digest_4 : decode cX10_digest 4 = .ok (.iconst 0, 1) := by decide +kernel
theorem dX10_digest_5 : decode cX10_digest 5 = .ok (.istore_n 3, 1) := by decide +kernel
theorem dX10_digest_6 : decode cX10_digest 6 = .ok (.iload_n 3, 1) := by decide +kernel
theorem dX10_digest_7 : decode cX10_digest 7 = .ok (.bipush 8, 2) := by decide +kernel
theorem dX10_digest_9 : decode cX10_digest 9 = .ok (.if_icmp .ge 20, 3) := by decide +kernel
theorem dX10_digest_12 : decode cX10_digest 12 = .ok (.lload_n 1, 1) := by decide +kernel
theorem dX10_digest_13 : decode cX10_digest 13 = .ok (.aload_n 0, 1) := by decide +kernel
theorem dX10_digest_14 : decode cX10_digest 14 = .ok (.iload_n 3, 1) := by decide +kernel
theorem dX10_digest_15 : decode cX10_digest 15 = .ok (.invokevirtual 273, 3) := by decide +kernel
theorem dX10_digest_18 : decode cX10_digest 18 = .ok (.i2l, 1) := by decide +kernel
theorem dX10_digest_19 : decode cX10_digest 19 = .ok (.invokestatic 278, 3) := by decide +kernel
theorem dX10_digest_22 : decode cX10_digest 22 = .ok (.lstore_n 1, 1) := by decide +kernel
theorem dX10_digest_23 : decode cX10_digest 23 = .ok (.iinc 3 1, 3) := by decide +kernel
theorem dX10_digest_26 : decode cX10_digest 26 = .ok (.goto (-20), 3) := by decide +kernel
theorem dX10_digest_29 : decode cX10_digest 29 = .ok (.aload_n 0, 1) := by decide +kernel
theorem dX10_digest_30 : decode cX10_digest 30 = .ok (.getfield 26, 3) := by decide +kernel
theorem dX10_digest_33 : decode cX10_digest 33 = .ok (.lload_n 1, 1) := by decide +kernel
theorem dX10_digest_34 : decode cX10_digest 34 = .ok (.invokevirtual 282, 3) := by decide +kernel
theorem dX10_digest_37 : decode cX10_digest 37 = .ok (.lstore_n 1, 1) := by decide +kernel
theorem dX10_digest_38 : decode cX10_digest 38 = .ok (.lload_n 1, 1) := by decide +kernel
theorem dX10_digest_39 : decode cX10_digest 39 = .ok (.aload_n 0, 1) := by decide +kernel
theorem dX10_digest_40 : decode cX10_digest 40 = .ok (.getfield 41, 3) := by decide +kernel
theorem dX10_digest_43 : decode cX10_digest 43 = .ok (.invokestatic 278, 3) := by decide +kernel
theorem dX10_digest_46 : decode cX10_digest 46 = .ok (.aload_n 0, 1) := by decide +kernel
theorem dX10_digest_47 : decode cX10_digest 47 = .ok (.getfield 45, 3) := by decide +kernel
theorem dX10_digest_50 : decode cX10_digest 50 = .ok (.invokestatic 278, 3) := by decide +kernel
theorem dX10_digest_53 : decode cX10_digest 53 = .ok (.lreturn, 1) := by decide +kernel
theorem dX10_howMany_0 : decode cX10_howMany 0 = .ok (.iload_n 1, 1) := by decide +kernel
theorem dX10_howMany_1 : decode cX10_howMany 1 = .ok (.tableswitch 114 0 6 #[43, 51, 62, 73, 84, 98, 106], 43) := by decide +kernel
theorem dX10_howMany_44 : decode cX10_howMany 44 = .ok (.aload_n 0, 1) := by decide +kernel
theorem dX10_howMany_45 : decode cX10_howMany 45 = .ok (.getfield 26, 3) := by decide +kernel
theorem dX10_howMany_48 : decode cX10_howMany 48 = .ok (.getfield 48, 3) := by decide +kernel
theorem dX10_howMany_51 : decode cX10_howMany 51 = .ok (.ireturn, 1) := by decide +kernel
theorem dX10_howMany_52 : decode cX10_howMany 52 = .ok (.aload_n 0, 1) := by decide +kernel
theorem dX10_howMany_53 : decode cX10_howMany 53 = .ok (.getfield 26, 3) := by decide +kernel
theorem dX10_howMany_56 : decode cX10_howMany 56 = .ok (.getfield 102, 3) := by decide +kernel
theorem dX10_howMany_59 : decode cX10_howMany 59 = .ok (.getfield 111, 3) := by decide +kernel
theorem dX10_howMany_62 : decode cX10_howMany 62 = .ok (.ireturn, 1) := by decide +kernel
theorem dX10_howMany_63 : decode cX10_howMany 63 = .ok (.aload_n 0, 1) := by decide +kernel
theorem dX10_howMany_64 : decode cX10_howMany 64 = .ok (.getfield 26, 3) := by decide +kernel
theorem dX10_howMany_67 : decode cX10_howMany 67 = .ok (.getfield 102, 3) := by decide +kernel
theorem dX10_howMany_70 : decode cX10_howMany 70 = .ok (.getfield 106, 3) := by decide +kernel
theorem dX10_howMany_73 : decode cX10_howMany 73 = .ok (.ireturn, 1) := by decide +kernel
theorem dX10_howMany_74 : decode cX10_howMany 74 = .ok (.aload_n 0, 1) := by decide +kernel
theorem dX10_howMany_75 : decode cX10_howMany 75 = .ok (.getfield 26, 3) := by decide +kernel
theorem dX10_howMany_78 : decode cX10_howMany 78 = .ok (.getfield 102, 3) := by decide +kernel
theorem dX10_howMany_81 : decode cX10_howMany 81 = .ok (.getfield 137, 3) := by decide +kernel
theorem dX10_howMany_84 : decode cX10_howMany 84 = .ok (.ireturn, 1) := by decide +kernel
theorem dX10_howMany_85 : decode cX10_howMany 85 = .ok (.aload_n 0, 1) := by decide +kernel
theorem dX10_howMany_86 : decode cX10_howMany 86 = .ok (.getfield 26, 3) := by decide +kernel
theorem dX10_howMany_89 : decode cX10_howMany 89 = .ok (.getfield 102, 3) := by decide +kernel
theorem dX10_howMany_92 : decode cX10_howMany 92 = .ok (.getfield 149, 3) := by decide +kernel
theorem dX10_howMany_95 : decode cX10_howMany 95 = .ok (.invokestatic 238, 3) := by decide +kernel
theorem dX10_howMany_98 : decode cX10_howMany 98 = .ok (.ireturn, 1) := by decide +kernel
theorem dX10_howMany_99 : decode cX10_howMany 99 = .ok (.aload_n 0, 1) := by decide +kernel
theorem dX10_howMany_100 : decode cX10_howMany 100 = .ok (.getfield 26, 3) := by decide +kernel
theorem dX10_howMany_103 : decode cX10_howMany 103 = .ok (.getfield 219, 3) := by decide +kernel
theorem dX10_howMany_106 : decode cX10_howMany 106 = .ok (.ireturn, 1) := by decide +kernel
theorem dX10_howMany_107 : decode cX10_howMany 107 = .ok (.aload_n 0, 1) := by decide +kernel
theorem dX10_howMany_108 : decode cX10_howMany 108 = .ok (.getfield 26, 3) := by decide +kernel
theorem dX10_howMany_111 : decode cX10_howMany 111 = .ok (.getfield 140, 3) := by decide +kernel
theorem dX10_howMany_114 : decode cX10_howMany 114 = .ok (.ireturn, 1) := by decide +kernel
theorem dX10_howMany_115 : decode cX10_howMany 115 = .ok (.aload_n 0, 1) := by decide +kernel
theorem dX10_howMany_116 : decode cX10_howMany 116 = .ok (.getfield 10, 3) := by decide +kernel
theorem dX10_howMany_119 : decode cX10_howMany 119 = .ok (.getfield 84, 3) := by decide +kernel
theorem dX10_howMany_122 : decode cX10_howMany 122 = .ok (.ireturn, 1) := by decide +kernel
theorem dX10_setTenths_0 : decode cX10_setTenths 0 = .ok (.bipush 10, 2) := by decide +kernel
theorem dX10_setTenths_2 : decode cX10_setTenths 2 = .ok (.istore_n 2, 1) := by decide +kernel
theorem dX10_setTenths_3 : decode cX10_setTenths 3 = .ok (.iload_n 2, 1) := by decide +kernel
theorem dX10_setTenths_4 : decode cX10_setTenths 4 = .ok (.ifCond .le 40, 3) := by decide +kernel
theorem dX10_setTenths_7 : decode cX10_setTenths 7 = .ok (.bipush 10, 2) := by decide +kernel
theorem dX10_setTenths_9 : decode cX10_setTenths 9 = .ok (.iload_n 2, 1) := by decide +kernel
theorem dX10_setTenths_10 : decode cX10_setTenths 10 = .ok (.irem, 1) := by decide +kernel
theorem dX10_setTenths_11 : decode cX10_setTenths 11 = .ok (.ifCond .ne 27, 3) := by decide +kernel
theorem dX10_setTenths_14 : decode cX10_setTenths 14 = .ok (.iload_n 1, 1) := by decide +kernel
theorem dX10_setTenths_15 : decode cX10_setTenths 15 = .ok (.iload_n 2, 1) := by decide +kernel
theorem dX10_setTenths_16 : decode cX10_setTenths 16 = .ok (.irem, 1) := by decide +kernel
theorem dX10_setTenths_17 : decode cX10_setTenths 17 = .ok (.ifCond .ne 21, 3) := by decide +kernel
theorem dX10_setTenths_20 : decode cX10_setTenths 20 = .ok (.aload_n 0, 1) := by decide +kernel
theorem dX10_setTenths_21 : decode cX10_setTenths 21 = .ok (.iload_n 1, 1) := by decide +kernel
theorem dX10_setTenths_22 : decode cX10_setTenths 22 = .ok (.iload_n 2, 1) := by decide +kernel
theorem dX10_setTenths_23 : decode cX10_setTenths 23 = .ok (.idiv, 1) := by decide +kernel
theorem dX10_setTenths_24 : decode cX10_setTenths 24 = .ok (.i2l, 1) := by decide +kernel
theorem dX10_setTenths_25 : decode cX10_setTenths 25 = .ok (.putfield 41, 3) := by decide +kernel
theorem dX10_setTenths_28 : decode cX10_setTenths 28 = .ok (.aload_n 0, 1) := by decide +kernel
theorem dX10_setTenths_29 : decode cX10_setTenths 29 = .ok (.bipush 10, 2) := by decide +kernel
theorem dX10_setTenths_31 : decode cX10_setTenths 31 = .ok (.iload_n 2, 1) := by decide +kernel
theorem dX10_setTenths_32 : decode cX10_setTenths 32 = .ok (.idiv, 1) := by decide +kernel
theorem dX10_setTenths_33 : decode cX10_setTenths 33 = .ok (.i2l, 1) := by decide +kernel
theorem dX10_setTenths_34 : decode cX10_setTenths 34 = .ok (.putfield 45, 3) := by decide +kernel
theorem dX10_setTenths_37 : decode cX10_setTenths 37 = .ok (.return_, 1) := by decide +kernel
theorem dX10_setTenths_38 : decode cX10_setTenths 38 = .ok (.iinc 2 (-1), 3) := by decide +kernel
theorem dX10_setTenths_41 : decode cX10_setTenths 41 = .ok (.goto (-38), 3) := by decide +kernel
theorem dX10_setTenths_44 : decode cX10_setTenths 44 = .ok (.return_, 1) := by decide +kernel
theorem dX10_refuseBad_0 : decode cX10_refuseBad 0 = .ok (.aload_n 0, 1) := by decide +kernel
theorem dX10_refuseBad_1 : decode cX10_refuseBad 1 = .ok (.dup, 1) := by decide +kernel
theorem dX10_refuseBad_2 : decode cX10_refuseBad 2 = .ok (.getfield 63, 3) := by decide +kernel
theorem dX10_refuseBad_5 : decode cX10_refuseBad 5 = .ok (.iconst 1, 1) := by decide +kernel
theorem dX10_refuseBad_6 : decode cX10_refuseBad 6 = .ok (.iadd, 1) := by decide +kernel
theorem dX10_refuseBad_7 : decode cX10_refuseBad 7 = .ok (.putfield 63, 3) := by decide +kernel
theorem dX10_refuseBad_10 : decode cX10_refuseBad 10 = .ok (.bipush (-2), 2) := by decide +kernel
theorem dX10_refuseBad_12 : decode cX10_refuseBad 12 = .ok (.ireturn, 1) := by decide +kernel
theorem dX10_refuseNo_0 : decode cX10_refuseNo 0 = .ok (.aload_n 0, 1) := by decide +kernel
theorem dX10_refuseNo_1 : decode cX10_refuseNo 1 = .ok (.dup, 1) := by decide +kernel
theorem dX10_refuseNo_2 : decode cX10_refuseNo 2 = .ok (.getfield 267, 3) := by decide +kernel
theorem dX10_refuseNo_5 : decode cX10_refuseNo 5 = .ok (.iconst 1, 1) := by decide +kernel
theorem dX10_refuseNo_6 : decode cX10_refuseNo 6 = .ok (.iadd, 1) := by decide +kernel
theorem dX10_refuseNo_7 : decode cX10_refuseNo 7 = .ok (.putfield 267, 3) := by decide +kernel
theorem dX10_refuseNo_10 : decode cX10_refuseNo 10 = .ok (.bipush (-3), 2) := by decide +kernel
theorem dX10_refuseNo_12 : decode cX10_refuseNo 12 = .ok (.ireturn, 1) := by decide +kernel
theorem dX10_refuseFull_0 : decode cX10_refuseFull 0 = .ok (.aload_n 0, 1) := by decide +kernel
theorem dX10_refuseFull_1 : decode cX10_refuseFull 1 = .ok (.dup, 1) := by decide +kernel
theorem dX10_refuseFull_2 : decode cX10_refuseFull 2 = .ok (.getfield 270, 3) := by decide +kernel
theorem dX10_refuseFull_5 : decode cX10_refuseFull 5 = .ok (.iconst 1, 1) := by decide +kernel
theorem dX10_refuseFull_6 : decode cX10_refuseFull 6 = .ok (.iadd, 1) := by decide +kernel
theorem dX10_refuseFull_7 : decode cX10_refuseFull 7 = .ok (.putfield 270, 3) := by decide +kernel
theorem dX10_refuseFull_10 : decode cX10_refuseFull 10 = .ok (.bipush (-4), 2) := by decide +kernel
theorem dX10_refuseFull_12 : decode cX10_refuseFull 12 = .ok (.ireturn, 1) := by decide +kernel
theorem dX10_isAlarm_0 : decode cX10_isAlarm 0 = .ok (.iload_n 1, 1) := by decide +kernel
theorem dX10_isAlarm_1 : decode cX10_isAlarm 1 = .ok (.iconst 0, 1) := by decide +kernel
theorem dX10_isAlarm_2 : decode cX10_isAlarm 2 = .ok (.aload_n 0, 1) := by decide +kernel
theorem dX10_isAlarm_3 : decode cX10_isAlarm 3 = .ok (.getfield 26, 3) := by decide +kernel
theorem dX10_isAlarm_6 : decode cX10_isAlarm 6 = .ok (.getfield 48, 3) := by decide +kernel
theorem dX10_isAlarm_9 : decode cX10_isAlarm 9 = .ok (.iconst 1, 1) := by decide +kernel
theorem dX10_isAlarm_10 : decode cX10_isAlarm 10 = .ok (.isub, 1) := by decide +kernel
theorem dX10_isAlarm_11 : decode cX10_isAlarm 11 = .ok (.invokestatic 59, 3) := by decide +kernel
theorem dX10_isAlarm_14 : decode cX10_isAlarm 14 = .ok (.ireturn, 1) := by decide +kernel
theorem dX10_isRoom_0 : decode cX10_isRoom 0 = .ok (.iload_n 0, 1) := by decide +kernel
theorem dX10_isRoom_1 : decode cX10_isRoom 1 = .ok (.iconst 0, 1) := by decide +kernel
theorem dX10_isRoom_2 : decode cX10_isRoom 2 = .ok (.bipush 7, 2) := by decide +kernel
theorem dX10_isRoom_4 : decode cX10_isRoom 4 = .ok (.invokestatic 59, 3) := by decide +kernel
theorem dX10_isRoom_7 : decode cX10_isRoom 7 = .ok (.ireturn, 1) := by decide +kernel
theorem dX10_isSecond_0 : decode cX10_isSecond 0 = .ok (.iload_n 0, 1) := by decide +kernel
theorem dX10_isSecond_1 : decode cX10_isSecond 1 = .ok (.iconst 0, 1) := by decide +kernel
theorem dX10_isSecond_2 : decode cX10_isSecond 2 = .ok (.sipush 9999, 3) := by decide +kernel
theorem dX10_isSecond_5 : decode cX10_isSecond 5 = .ok (.invokestatic 59, 3) := by decide +kernel
theorem dX10_isSecond_8 : decode cX10_isSecond 8 = .ok (.ireturn, 1) := by decide +kernel
theorem dX10_within_0 : decode cX10_within 0 = .ok (.iload_n 0, 1) := by decide +kernel
theorem dX10_within_1 : decode cX10_within 1 = .ok (.iload_n 1, 1) := by decide +kernel
theorem dX10_within_2 : decode cX10_within 2 = .ok (.if_icmp .lt 12, 3) := by decide +kernel
theorem dX10_within_5 : decode cX10_within 5 = .ok (.iload_n 0, 1) := by decide +kernel
theorem dX10_within_6 : decode cX10_within 6 = .ok (.iload_n 2, 1) := by decide +kernel
theorem dX10_within_7 : decode cX10_within 7 = .ok (.if_icmp .gt 7, 3) := by decide +kernel
theorem dX10_within_10 : decode cX10_within 10 = .ok (.iconst 1, 1) := by decide +kernel
theorem dX10_within_11 : decode cX10_within 11 = .ok (.goto 4, 3) := by decide +kernel
theorem dX10_within_14 : decode cX10_within 14 = .ok (.iconst 0, 1) := by decide +kernel
theorem dX10_within_15 : decode cX10_within 15 = .ok (.ireturn, 1) := by decide +kernel
theorem dX10_has_0 : decode cX10_has 0 = .ok (.iload_n 0, 1) := by decide +kernel
theorem dX10_has_1 : decode cX10_has 1 = .ok (.iload_n 1, 1) := by decide +kernel
theorem dX10_has_2 : decode cX10_has 2 = .ok (.ishr, 1) := by decide +kernel
theorem dX10_has_3 : decode cX10_has 3 = .ok (.iconst 1, 1) := by decide +kernel
theorem dX10_has_4 : decode cX10_has 4 = .ok (.iand, 1) := by decide +kernel
theorem dX10_has_5 : decode cX10_has 5 = .ok (.iconst 1, 1) := by decide +kernel
theorem dX10_has_6 : decode cX10_has 6 = .ok (.if_icmp .ne 7, 3) := by decide +kernel
theorem dX10_has_9 : decode cX10_has 9 = .ok (.iconst 1, 1) := by decide +kernel
theorem dX10_has_10 : decode cX10_has 10 = .ok (.goto 4, 3) := by decide +kernel
theorem dX10_has_13 : decode cX10_has 13 = .ok (.iconst 0, 1) := by decide +kernel
theorem dX10_has_14 : decode cX10_has 14 = .ok (.ireturn, 1) := by decide +kernel
theorem dX10_mix_0 : decode cX10_mix 0 = .ok (.ldc2_w 286, 3) := by decide +kernel
theorem dX10_mix_3 : decode cX10_mix 3 = .ok (.lload_n 0, 1) := by decide +kernel
theorem dX10_mix_4 : decode cX10_mix 4 = .ok (.lmul, 1) := by decide +kernel
theorem dX10_mix_5 : decode cX10_mix 5 = .ok (.lload_n 2, 1) := by decide +kernel
theorem dX10_mix_6 : decode cX10_mix 6 = .ok (.ladd, 1) := by decide +kernel
theorem dX10_mix_7 : decode cX10_mix 7 = .ok (.lreturn, 1) := by decide +kernel
theorem dX11_init_0 : decode cX11_init 0 = .ok (.aload_n 0, 1) := by decide +kernel
theorem dX11_init_1 : decode cX11_init 1 = .ok (.invokespecial 1, 3) := by decide +kernel
theorem dX11_init_4 : decode cX11_init 4 = .ok (.aload_n 0, 1) := by decide +kernel
theorem dX11_init_5 : decode cX11_init 5 = .ok (.sipush 181, 3) := by decide +kernel
theorem dX11_init_8 : decode cX11_init 8 = .ok (.newarray .int, 2) := by decide +kernel
theorem dX11_init_10 : decode cX11_init 10 = .ok (.putfield 7, 3) := by decide +kernel
theorem dX11_init_13 : decode cX11_init 13 = .ok (.aload_n 0, 1) := by decide +kernel
theorem dX11_init_14 : decode cX11_init 14 = .ok (.sipush 181, 3) := by decide +kernel
theorem dX11_init_17 : decode cX11_init 17 = .ok (.newarray .int, 2) := by decide +kernel
theorem dX11_init_19 : decode cX11_init 19 = .ok (.putfield 13, 3) := by decide +kernel
theorem dX11_init_22 : decode cX11_init 22 = .ok (.aload_n 0, 1) := by decide +kernel
theorem dX11_init_23 : decode cX11_init 23 = .ok (.sipush 362, 3) := by decide +kernel
theorem dX11_init_26 : decode cX11_init 26 = .ok (.newarray .int, 2) := by decide +kernel
theorem dX11_init_28 : decode cX11_init 28 = .ok (.putfield 16, 3) := by decide +kernel
theorem dX11_init_31 : decode cX11_init 31 = .ok (.aload_n 0, 1) := by decide +kernel
theorem dX11_init_32 : decode cX11_init 32 = .ok (.iconst 2, 1) := by decide +kernel
theorem dX11_init_33 : decode cX11_init 33 = .ok (.newarray .boolean, 2) := by decide +kernel
theorem dX11_init_35 : decode cX11_init 35 = .ok (.putfield 19, 3) := by decide +kernel
theorem dX11_init_38 : decode cX11_init 38 = .ok (.aload_n 0, 1) := by decide +kernel
theorem dX11_init_39 : decode cX11_init 39 = .ok (.iconst 3, 1) := by decide +kernel
theorem dX11_init_40 : decode cX11_init 40 = .ok (.newarray .int, 2) := by decide +kernel
theorem dX11_init_42 : decode cX11_init 42 = .ok (.putfield 23, 3) := by decide +kernel
theorem dX11_init_45 : decode cX11_init 45 = .ok (.aload_n 0, 1) := by decide +kernel
theorem dX11_init_46 : decode cX11_init 46 = .ok (.lconst 1, 1) := by decide +kernel
theorem dX11_init_47 : decode cX11_init 47 = .ok (.putfield 26, 3) := by decide +kernel
theorem dX11_init_50 : decode cX11_init 50 = .ok (.aload_n 0, 1) := by decide +kernel
theorem dX11_init_51 : decode cX11_init 51 = .ok (.sipush 150, 3) := by decide +kernel
theorem dX11_init_54 : decode cX11_init 54 = .ok (.newarray .int, 2) := by decide +kernel
theorem dX11_init_56 : decode cX11_init 56 = .ok (.putfield 30, 3) := by decide +kernel
theorem dX11_init_59 : decode cX11_init 59 = .ok (.aload_n 0, 1) := by decide +kernel
theorem dX11_init_60 : decode cX11_init 60 = .ok (.bipush 64, 2) := by decide +kernel
theorem dX11_init_62 : decode cX11_init 62 = .ok (.newarray .int, 2) := by decide +kernel
theorem dX11_init_64 : decode cX11_init 64 = .ok (.putfield 33, 3) := by decide +kernel
theorem dX11_init_67 : decode cX11_init 67 = .ok (.aload_n 0, 1) := by decide +kernel
theorem dX11_init_68 : decode cX11_init 68 = .ok (.bipush 64, 2) := by decide +kernel
theorem dX11_init_70 : decode cX11_init 70 = .ok (.newarray .int, 2) := by decide +kernel
theorem dX11_init_72 : decode cX11_init 72 = .ok (.putfield 36, 3) := by decide +kernel
theorem dX11_init_75 : decode cX11_init 75 = .ok (.aload_n 0, 1) := by decide +kernel
theorem dX11_init_76 : decode cX11_init 76 = .ok (.bipush 64, 2) := by decide +kernel
theorem dX11_init_78 : decode cX11_init 78 = .ok (.newarray .int, 2) := by decide +kernel
theorem dX11_init_80 : decode cX11_init 80 = .ok (.putfield 39, 3) := by decide +kernel
theorem dX11_init_83 : decode cX11_init 83 = .ok (.aload_n 0, 1) := by decide +kernel
theorem dX11_init_84 : decode cX11_init 84 = .ok (.bipush 6, 2) := by decide +kernel
theorem dX11_init_86 : decode cX11_init 86 = .ok (.newarray .int, 2) := by decide +kernel
theorem dX11_init_88 : decode cX11_init 88 = .ok (.putfield 42, 3) := by decide +kernel
theorem dX11_init_91 : decode cX11_init 91 = .ok (.aload_n 0, 1) := by decide +kernel
theorem dX11_init_92 : decode cX11_init 92 = .ok (.bipush 6, 2) := by decide +kernel
theorem dX11_init_94 : decode cX11_init 94 = .ok (.newarray .int, 2) := by decide +kernel
theorem dX11_init_96 : decode cX11_init 96 = .ok (.putfield 45, 3) := by decide +kernel
theorem dX11_init_99 : decode cX11_init 99 = .ok (.aload_n 0, 1) := by decide +kernel
theorem dX11_init_100 : decode cX11_init 100 = .ok (.getfield 7, 3) := by decide +kernel
theorem dX11_init_103 : decode cX11_init 103 = .ok (.invokestatic 48, 3) := by decide +kernel
theorem dX11_init_106 : decode cX11_init 106 = .ok (.return_, 1) := by decide +kernel
theorem dX11_begin_0 : decode cX11_begin 0 = .ok (.iconst 0, 1) := by decide +kernel
theorem dX11_begin_1 : decode cX11_begin 1 = .ok (.istore_n 1, 1) := by decide +kernel
theorem dX11_begin_2 : decode cX11_begin 2 = .ok (.iload_n 1, 1) := by decide +kernel
theorem dX11_begin_3 : decode cX11_begin 3 = .ok (.sipush 181, 3) := by decide +kernel
theorem dX11_begin_6 : decode cX11_begin 6 = .ok (.if_icmp .ge 13, 3) := by decide +kernel
theorem dX11_begin_9 : decode cX11_begin 9 = .ok (.aload_n 0, 1) := by decide +kernel
theorem dX11_begin_10 : decode cX11_begin 10 = .ok (.iload_n 1, 1) := by decide +kernel
theorem dX11_begin_11 : decode cX11_begin 11 = .ok (.iconst 0, 1) := by decide +kernel
theorem dX11_begin_12 : decode cX11_begin 12 = .ok (.iastore, 1) := by decide +kernel
theorem dX11_begin_13 : decode cX11_begin 13 = .ok (.iinc 1 1, 3) := by decide +kernel
theorem dX11_begin_16 : decode cX11_begin 16 = .ok (.goto (-14), 3) := by decide +kernel
theorem dX11_begin_19 : decode cX11_begin 19 = .ok (.aload_n 0, 1) := by decide +kernel
theorem dX11_begin_20 : decode cX11_begin 20 = .ok (.bipush 92, 2) := by decide +kernel
theorem dX11_begin_22 : decode cX11_begin 22 = .ok (.iconst 3, 1) := by decide +kernel
theorem dX11_begin_23 : decode cX11_begin 23 = .ok (.iastore, 1) := by decide +kernel
theorem dX11_begin_24 : decode cX11_begin 24 = .ok (.return_, 1) := by decide +kernel
theorem dX11_in_0 : decode cX11_in 0 = .ok (.iload_n 0, 1) := by decide +kernel
theorem dX11_in_1 : decode cX11_in 1 = .ok (.iload_n 1, 1) := by decide +kernel
theorem dX11_in_2 : decode cX11_in 2 = .ok (.if_icmp .lt 12, 3) := by decide +kernel
theorem dX11_in_5 : decode cX11_in 5 = .ok (.iload_n 0, 1) := by decide +kernel
theorem dX11_in_6 : decode cX11_in 6 = .ok (.iload_n 2, 1) := by decide +kernel
theorem dX11_in_7 : decode cX11_in 7 = .ok (.if_icmp .gt 7, 3) := by decide +kernel
theorem dX11_in_10 : decode cX11_in 10 = .ok (.iconst 1, 1) := by decide +kernel
theorem dX11_in_11 : decode cX11_in 11 = .ok (.goto 4, 3) := by decide +kernel
theorem dX11_in_14 : decode cX11_in 14 = .ok (.iconst 0, 1) := by decide +kernel
theorem dX11_in_15 : decode cX11_in 15 = .ok (.ireturn, 1) := by decide +kernel
theorem dX11_has_0 : decode cX11_has 0 = .ok (.iload_n 0, 1) := by decide +kernel
theorem dX11_has_1 : decode cX11_has 1 = .ok (.iload_n 1, 1) := by decide +kernel
theorem dX11_has_2 : decode cX11_has 2 = .ok (.ishr, 1) := by decide +kernel
theorem dX11_has_3 : decode cX11_has 3 = .ok (.iconst 1, 1) := by decide +kernel
theorem dX11_has_4 : decode cX11_has 4 = .ok (.iand, 1) := by decide +kernel
theorem dX11_has_5 : decode cX11_has 5 = .ok (.iconst 1, 1) := by decide +kernel
theorem dX11_has_6 : decode cX11_has 6 = .ok (.if_icmp .ne 7, 3) := by decide +kernel
theorem dX11_has_9 : decode cX11_has 9 = .ok (.iconst 1, 1) := by decide +kernel
theorem dX11_has_10 : decode cX11_has 10 = .ok (.goto 4, 3) := by decide +kernel
theorem dX11_has_13 : decode cX11_has 13 = .ok (.iconst 0, 1) := by decide +kernel
theorem dX11_has_14 : decode cX11_has 14 = .ok (.ireturn, 1) := by decide +kernel
theorem dX11_bits_0 : decode cX11_bits 0 = .ok (.iconst 0, 1) := by decide +kernel
theorem dX11_bits_1 : decode cX11_bits 1 = .ok (.istore_n 1, 1) := by decide +kernel
theorem dX11_bits_2 : decode cX11_bits 2 = .ok (.iconst 0, 1) := by decide +kernel
theorem dX11_bits_3 : decode cX11_bits 3 = .ok (.istore_n 2, 1) := by decide +kernel
theorem dX11_bits_4 : decode cX11_bits 4 = .ok (.iload_n 2, 1) := by decide +kernel
theorem dX11_bits_5 : decode cX11_bits 5 = .ok (.bipush 6, 2) := by decide +kernel
theorem dX11_bits_7 : decode cX11_bits 7 = .ok (.if_icmp .ge 17, 3) := by decide +kernel
theorem dX11_bits_10 : decode cX11_bits 10 = .ok (.iload_n 1, 1) := by decide +kernel
theorem dX11_bits_11 : decode cX11_bits 11 = .ok (.iload_n 0, 1) := by decide +kernel
theorem dX11_bits_12 : decode cX11_bits 12 = .ok (.iload_n 2, 1) := by decide +kernel
theorem dX11_bits_13 : decode cX11_bits 13 = .ok (.ishr, 1) := by decide +kernel
theorem dX11_bits_14 : decode cX11_bits 14 = .ok (.iconst 1, 1) := by decide +kernel
theorem dX11_bits_15 : decode cX11_bits 15 = .ok (.iand, 1) := by decide +kernel
theorem dX11_bits_16 : decode cX11_bits 16 = .ok (.iadd, 1) := by decide +kernel
theorem dX11_bits_17 : decode cX11_bits 17 = .ok (.istore_n 1, 1) := by decide +kernel
theorem dX11_bits_18 : decode cX11_bits 18 = .ok (.iinc 2 1, 3) := by decide +kernel
theorem dX11_bits_21 : decode cX11_bits 21 = .ok (.goto (-17), 3) := by decide +kernel
theorem dX11_bits_24 : decode cX11_bits 24 = .ok (.iload_n 1, 1) := by decide +kernel
theorem dX11_bits_25 : decode cX11_bits 25 = .ok (.ireturn, 1) := by decide +kernel
theorem dX11_bad_0 : decode cX11_bad 0 = .ok (.aload_n 0, 1) := by decide +kernel
theorem dX11_bad_1 : decode cX11_bad 1 = .ok (.getfield 23, 3) := by decide +kernel
theorem dX11_bad_4 : decode cX11_bad 4 = .ok (.iconst 0, 1) := by decide +kernel
theorem dX11_bad_5 : decode cX11_bad 5 = .ok (.dup2, 1) := by decide +kernel
theorem dX11_bad_6 : decode cX11_bad 6 = .ok (.iaload, 1) := by decide +kernel
theorem dX11_bad_7 : decode cX11_bad 7 = .ok (.iconst 1, 1) := by decide +kernel
theorem dX11_bad_8 : decode cX11_bad 8 = .ok (.iadd, 1) := by decide +kernel
theorem dX11_bad_9 : decode cX11_bad 9 = .ok (.iastore, 1) := by decide +kernel
theorem dX11_bad_10 : decode cX11_bad 10 = .ok (.bipush (-2), 2) := by decide +kernel
theorem dX11_bad_12 : decode cX11_bad 12 = .ok (.ireturn, 1) := by decide +kernel
theorem dX11_no_0 : decode cX11_no 0 = .ok (.aload_n 0, 1) := by decide +kernel
theorem dX11_no_1 : decode cX11_no 1 = .ok (.getfield 23, 3) := by decide +kernel
theorem dX11_no_4 : decode cX11_no 4 = .ok (.iconst 1, 1) := by decide +kernel
theorem dX11_no_5 : decode cX11_no 5 = .ok (.dup2, 1) := by decide +kernel
theorem dX11_no_6 : decode cX11_no 6 = .ok (.iaload, 1) := by decide +kernel
theorem dX11_no_7 : decode cX11_no 7 = .ok (.iconst 1, 1) := by decide +kernel
theorem dX11_no_8 : decode cX11_no 8 = .ok (.iadd, 1) := by decide +kernel
theorem dX11_no_9 : decode cX11_no 9 = .ok (.iastore, 1) := by decide +kernel
theorem dX11_no_10 : decode cX11_no 10 = .ok (.bipush (-3), 2) := by decide +kernel
theorem dX11_no_12 : decode cX11_no 12 = .ok (.ireturn, 1) := by decide +kernel
theorem dX11_full_0 : decode cX11_full 0 = .ok (.aload_n 0, 1) := by decide +kernel
theorem dX11_full_1 : decode cX11_full 1 = .ok (.getfield 23, 3) := by decide +kernel
theorem dX11_full_4 : decode cX11_full 4 = .ok (.iconst 2, 1) := by decide +kernel
theorem dX11_full_5 : decode cX11_full 5 = .ok (.dup2, 1) := by decide +kernel
theorem dX11_full_6 : decode cX11_full 6 = .ok (.iaload, 1) := by decide +kernel
theorem dX11_full_7 : decode cX11_full 7 = .ok (.iconst 1, 1) := by decide +kernel
theorem dX11_full_8 : decode cX11_full 8 = .ok (.iadd, 1) := by decide +kernel
theorem dX11_full_9 : decode cX11_full 9 = .ok (.iastore, 1) := by decide +kernel
theorem dX11_full_10 : decode cX11_full 10 = .ok (.bipush (-4), 2) := by decide +kernel
theorem dX11_full_12 : decode cX11_full 12 = .ok (.ireturn, 1) := by decide +kernel
theorem dX11_isAlarm_0 : decode cX11_isAlarm 0 = .ok (.iload_n 1, 1) := by decide +kernel
theorem dX11_isAlarm_1 : decode cX11_isAlarm 1 = .ok (.iconst 0, 1) := by decide +kernel
theorem dX11_isAlarm_2 : decode cX11_isAlarm 2 = .ok (.aload_n 0, 1) := by decide +kernel
theorem dX11_isAlarm_3 : decode cX11_isAlarm 3 = .ok (.getfield 7, 3) := by decide +kernel
theorem dX11_isAlarm_6 : decode cX11_isAlarm 6 = .ok (.bipush 64, 2) := by decide +kernel
theorem dX11_isAlarm_8 : decode cX11_isAlarm 8 = .ok (.iaload, 1) := by decide +kernel
theorem dX11_isAlarm_9 : decode cX11_isAlarm 9 = .ok (.iconst 1, 1) := by decide +kernel
theorem dX11_isAlarm_10 : decode cX11_isAlarm 10 = .ok (.isub, 1) := by decide +kernel
theorem dX11_isAlarm_11 : decode cX11_isAlarm 11 = .ok (.invokestatic 52, 3) := by decide +kernel
theorem dX11_isAlarm_14 : decode cX11_isAlarm 14 = .ok (.ireturn, 1) := by decide +kernel
theorem dX11_isRoom_0 : decode cX11_isRoom 0 = .ok (.iload_n 0, 1) := by decide +kernel
theorem dX11_isRoom_1 : decode cX11_isRoom 1 = .ok (.iconst 0, 1) := by decide +kernel
theorem dX11_isRoom_2 : decode cX11_isRoom 2 = .ok (.bipush 7, 2) := by decide +kernel
theorem dX11_isRoom_4 : decode cX11_isRoom 4 = .ok (.invokestatic 52, 3) := by decide +kernel
theorem dX11_isRoom_7 : decode cX11_isRoom 7 = .ok (.ireturn, 1) := by decide +kernel
theorem dX11_house_0 : decode cX11_house 0 = .ok (.aload_n 0, 1) := by decide +kernel
theorem dX11_house_1 : decode cX11_house 1 = .ok (.getfield 7, 3) := by decide +kernel
theorem dX11_house_4 : decode cX11_house 4 = .ok (.bipush 64, 2) := by decide +kernel
theorem dX11_house_6 : decode cX11_house 6 = .ok (.iaload, 1) := by decide +kernel
theorem dX11_house_7 : decode cX11_house 7 = .ok (.istore_n 1, 1) := by decide +kernel
theorem dX11_house_8 : decode cX11_house 8 = .ok (.aload_n 0, 1) := by decide +kernel
theorem dX11_house_9 : decode cX11_house 9 = .ok (.getfield 7, 3) := by decide +kernel
theorem dX11_house_12 : decode cX11_house 12 = .ok (.invokestatic 48, 3) := by decide +kernel
theorem dX11_house_15 : decode cX11_house 15 = .ok (.iload_n 1, 1) := by decide +kernel
theorem dX11_house_16 : decode cX11_house 16 = .ok (.ireturn, 1) := by decide +kernel
theorem dX11_door_0 : decode cX11_door 0 = .ok (.iload_n 1, 1) := by decide +kernel
theorem dX11_door_1 : decode cX11_door 1 = .ok (.invokestatic 56, 3) := by decide +kernel
theorem dX11_door_4 : decode cX11_door 4 = .ok (.ifCond .eq 25, 3) := by decide +kernel
theorem dX11_door_7 : decode cX11_door 7 = .ok (.iload_n 2, 1) := by decide +kernel
theorem dX11_door_8 : decode cX11_door 8 = .ok (.invokestatic 56, 3) := by decide +kernel
theorem dX11_door_11 : decode cX11_door 11 = .ok (.ifCond .eq 18, 3) := by decide +kernel
theorem dX11_door_14 : decode cX11_door 14 = .ok (.iload_n 1, 1) := by decide +kernel
theorem dX11_door_15 : decode cX11_door 15 = .ok (.iload_n 2, 1) := by decide +kernel
theorem dX11_door_16 : decode cX11_door 16 = .ok (.if_icmp .eq 13, 3) := by decide +kernel
theorem dX11_door_19 : decode cX11_door 19 = .ok (.iload_n 3, 1) := by decide +kernel
theorem dX11_door_20 : decode cX11_door 20 = .ok (.iconst 1, 1) := by decide +kernel
theorem dX11_door_21 : decode cX11_door 21 = .ok (.bipush 9, 2) := by decide +kernel
theorem dX11_door_23 : decode cX11_door 23 = .ok (.invokestatic 52, 3) := by decide +kernel
theorem dX11_door_26 : decode cX11_door 26 = .ok (.ifCond .ne 16, 3) := by decide +kernel
theorem dX11_door_29 : decode cX11_door 29 = .ok (.aload_n 0, 1) := by decide +kernel
theorem dX11_door_30 : decode cX11_door 30 = .ok (.getfield 23, 3) := by decide +kernel
theorem dX11_door_33 : decode cX11_door 33 = .ok (.iconst 0, 1) := by decide +kernel
theorem dX11_door_34 : decode cX11_door 34 = .ok (.dup2, 1) := by decide +kernel
theorem dX11_door_35 : decode cX11_door 35 = .ok (.iaload, 1) := by decide +kernel
theorem dX11_door_36 : decode cX11_door 36 = .ok (.iconst 1, 1) := by decide +kernel
theorem dX11_door_37 : decode cX11_door 37 = .ok (.iadd, 1) := by decide +kernel
theorem dX11_door_38 : decode cX11_door 38 = .ok (.iastore, 1) := by decide +kernel
theorem dX11_door_39 : decode cX11_door 39 = .ok (.bipush (-10), 2) := by decide +kernel
theorem dX11_door_41 : decode cX11_door 41 = .ok (.ireturn, 1) := by decide +kernel
theorem dX11_door_42 : decode cX11_door 42 = .ok (.aload_n 0, 1) := by decide +kernel
theorem dX11_door_43 : decode cX11_door 43 = .ok (.getfield 7, 3) := by decide +kernel
theorem dX11_door_46 : decode cX11_door 46 = .ok (.bipush 8, 2) := by decide +kernel
theorem dX11_door_48 : decode cX11_door 48 = .ok (.iload_n 1, 1) := by decide +kernel
theorem dX11_door_49 : decode cX11_door 49 = .ok (.imul, 1) := by decide +kernel
theorem dX11_door_50 : decode cX11_door 50 = .ok (.iload_n 2, 1) := by decide +kernel
theorem dX11_door_51 : decode cX11_door 51 = .ok (.iadd, 1) := by decide +kernel
theorem dX11_door_52 : decode cX11_door 52 = .ok (.iaload, 1) := by decide +kernel
theorem dX11_door_53 : decode cX11_door 53 = .ok (.istore 4, 2) := by decide +kernel
theorem dX11_door_55 : decode cX11_door 55 = .ok (.aload_n 0, 1) := by decide +kernel
theorem dX11_door_56 : decode cX11_door 56 = .ok (.getfield 7, 3) := by decide +kernel
theorem dX11_door_59 : decode cX11_door 59 = .ok (.bipush 8, 2) := by decide +kernel
theorem dX11_door_61 : decode cX11_door 61 = .ok (.iload_n 1, 1) := by decide +kernel
theorem dX11_door_62 : decode cX11_door 62 = .ok (.imul, 1) := by decide +kernel
theorem dX11_door_63 : decode cX11_door 63 = .ok (.iload_n 2, 1) := by decide +kernel
theorem dX11_door_64 : decode cX11_door 64 = .ok (.iadd, 1) := by decide +kernel
theorem dX11_door_65 : decode cX11_door 65 = .ok (.iload_n 3, 1) := by decide +kernel
theorem dX11_door_66 : decode cX11_door 66 = .ok (.iastore, 1) := by decide +kernel
theorem dX11_door_67 : decode cX11_door 67 = .ok (.aload_n 0, 1) := by decide +kernel
theorem dX11_door_68 : decode cX11_door 68 = .ok (.getfield 7, 3) := by decide +kernel
theorem dX11_door_71 : decode cX11_door 71 = .ok (.bipush 8, 2) := by decide +kernel
theorem dX11_door_73 : decode cX11_door 73 = .ok (.iload_n 2, 1) := by decide +kernel
theorem dX11_door_74 : decode cX11_door 74 = .ok (.imul, 1) := by decide +kernel
theorem dX11_door_75 : decode cX11_door 75 = .ok (.iload_n 1, 1) := by decide +kernel
theorem dX11_door_76 : decode cX11_door 76 = .ok (.iadd, 1) := by decide +kernel
theorem dX11_door_77 : decode cX11_door 77 = .ok (.iload_n 3, 1) := by decide +kernel
theorem dX11_door_78 : decode cX11_door 78 = .ok (.iastore, 1) := by decide +kernel
theorem dX11_door_79 : decode cX11_door 79 = .ok (.iload 4, 2) := by decide +kernel
theorem dX11_door_81 : decode cX11_door 81 = .ok (.ifCond .ne 7, 3) := by decide +kernel
theorem dX11_door_84 : decode cX11_door 84 = .ok (.iconst (-1), 1) := by decide +kernel
theorem dX11_door_85 : decode cX11_door 85 = .ok (.goto 5, 3) := by decide +kernel
theorem dX11_door_88 : decode cX11_door 88 = .ok (.iload 4, 2) := by decide +kernel
theorem dX11_door_90 : decode cX11_door 90 = .ok (.ireturn, 1) := by decide +kernel
theorem dX11_addAlarm_0 : decode cX11_addAlarm 0 = .ok (.aload_n 0, 1) := by decide +kernel
theorem dX11_addAlarm_1 : decode cX11_addAlarm 1 = .ok (.bipush 64, 2) := by decide +kernel
theorem dX11_addAlarm_3 : decode cX11_addAlarm 3 = .ok (.iaload, 1) := by decide +kernel
theorem dX11_addAlarm_4 : decode cX11_addAlarm 4 = .ok (.istore 4, 2) := by decide +kernel
theorem dX11_addAlarm_6 : decode cX11_addAlarm 6 = .ok (.aload_n 0, 1) := by decide +kernel
theorem dX11_addAlarm_7 : decode cX11_addAlarm 7 = .ok (.bipush 65, 2) := by decide +kernel
theorem dX11_addAlarm_9 : decode cX11_addAlarm 9 = .ok (.iload 4, 2) := by decide +kernel
theorem dX11_addAlarm_11 : decode cX11_addAlarm 11 = .ok (.iadd, 1) := by decide +kernel
theorem dX11_addAlarm_12 : decode cX11_addAlarm 12 = .ok (.iload_n 1, 1) := by decide +kernel
theorem dX11_addAlarm_13 : decode cX11_addAlarm 13 = .ok (.iastore, 1) := by decide +kernel
theorem dX11_addAlarm_14 : decode cX11_addAlarm 14 = .ok (.aload_n 0, 1) := by decide +kernel
theorem dX11_addAlarm_15 : decode cX11_addAlarm 15 = .ok (.bipush 71, 2) := by decide +kernel
theorem dX11_addAlarm_17 : decode cX11_addAlarm 17 = .ok (.iload 4, 2) := by decide +kernel
theorem dX11_addAlarm_19 : decode cX11_addAlarm 19 = .ok (.iadd, 1) := by decide +kernel
theorem dX11_addAlarm_20 : decode cX11_addAlarm 20 = .ok (.iload_n 2, 1) := by decide +kernel
theorem dX11_addAlarm_21 : decode cX11_addAlarm 21 = .ok (.iastore, 1) := by decide +kernel
theorem dX11_addAlarm_22 : decode cX11_addAlarm 22 = .ok (.aload_n 0, 1) := by decide +kernel
theorem dX11_addAlarm_23 : decode cX11_addAlarm 23 = .ok (.bipush 94, 2) := by decide +kernel
theorem dX11_addAlarm_25 : decode cX11_addAlarm 25 = .ok (.iload 4, 2) := by decide +kernel
theorem dX11_addAlarm_27 : decode cX11_addAlarm 27 = .ok (.iadd, 1) := by decide +kernel
theorem dX11_addAlarm_28 : decode cX11_addAlarm 28 = .ok (.iload_n 3, 1) := by decide +kernel
theorem dX11_addAlarm_29 : decode cX11_addAlarm 29 = .ok (.iastore, 1) := by decide +kernel
theorem dX11_addAlarm_30 : decode cX11_addAlarm 30 = .ok (.aload_n 0, 1) := by decide +kernel
theorem dX11_addAlarm_31 : decode cX11_addAlarm 31 = .ok (.bipush 64, 2) := by decide +kernel
theorem dX11_addAlarm_33 : decode cX11_addAlarm 33 = .ok (.dup2, 1) := by decide +kernel
theorem dX11_addAlarm_34 : decode cX11_addAlarm 34 = .ok (.iaload, 1) := by decide +kernel
theorem dX11_addAlarm_35 : decode cX11_addAlarm 35 = .ok (.iconst 1, 1) := by decide +kernel
theorem dX11_addAlarm_36 : decode cX11_addAlarm 36 = .ok (.iadd, 1) := by decide +kernel
theorem dX11_addAlarm_37 : decode cX11_addAlarm 37 = .ok (.iastore, 1) := by decide +kernel
theorem dX11_addAlarm_38 : decode cX11_addAlarm 38 = .ok (.iload 4, 2) := by decide +kernel
theorem dX11_addAlarm_40 : decode cX11_addAlarm 40 = .ok (.ireturn, 1) := by decide +kernel
theorem dX11_alarm_0 : decode cX11_alarm 0 = .ok (.iload_n 1, 1) := by decide +kernel
theorem dX11_alarm_1 : decode cX11_alarm 1 = .ok (.iconst 0, 1) := by decide +kernel
theorem dX11_alarm_2 : decode cX11_alarm 2 = .ok (.iconst 5, 1) := by decide +kernel
theorem dX11_alarm_3 : decode cX11_alarm 3 = .ok (.invokestatic 52, 3) := by decide +kernel
theorem dX11_alarm_6 : decode cX11_alarm 6 = .ok (.ifCond .eq 20, 3) := by decide +kernel
theorem dX11_alarm_9 : decode cX11_alarm 9 = .ok (.iload_n 2, 1) := by decide +kernel
theorem dX11_alarm_10 : decode cX11_alarm 10 = .ok (.invokestatic 56, 3) := by decide +kernel
theorem dX11_alarm_13 : decode cX11_alarm 13 = .ok (.ifCond .eq 13, 3) := by decide +kernel
theorem dX11_alarm_16 : decode cX11_alarm 16 = .ok (.iload_n 3, 1) := by decide +kernel
theorem dX11_alarm_17 : decode cX11_alarm 17 = .ok (.iconst 0, 1) := by decide +kernel
theorem dX11_alarm_18 : decode cX11_alarm 18 = .ok (.bipush 99, 2) := by decide +kernel
theorem dX11_alarm_20 : decode cX11_alarm 20 = .ok (.invokestatic 52, 3) := by decide +kernel
theorem dX11_alarm_23 : decode cX11_alarm 23 = .ok (.ifCond .ne 8, 3) := by decide +kernel
theorem dX11_alarm_26 : decode cX11_alarm 26 = .ok (.aload_n 0, 1) := by decide +kernel
theorem dX11_alarm_27 : decode cX11_alarm 27 = .ok (.invokevirtual 60, 3) := by decide +kernel
theorem dX11_alarm_30 : decode cX11_alarm 30 = .ok (.ireturn, 1) := by decide +kernel
theorem dX11_alarm_31 : decode cX11_alarm 31 = .ok (.aload_n 0, 1) := by decide +kernel
theorem dX11_alarm_32 : decode cX11_alarm 32 = .ok (.getfield 7, 3) := by decide +kernel
theorem dX11_alarm_35 : decode cX11_alarm 35 = .ok (.bipush 64, 2) := by decide +kernel
theorem dX11_alarm_37 : decode cX11_alarm 37 = .ok (.iaload, 1) := by decide +kernel
theorem dX11_alarm_38 : decode cX11_alarm 38 = .ok (.bipush 6, 2) := by decide +kernel
theorem dX11_alarm_40 : decode cX11_alarm 40 = .ok (.if_icmp .ne 8, 3) := by decide +kernel
theorem dX11_alarm_43 : decode cX11_alarm 43 = .ok (.aload_n 0, 1) := by decide +kernel
theorem dX11_alarm_44 : decode cX11_alarm 44 = .ok (.invokevirtual 64, 3) := by decide +kernel
theorem dX11_alarm_47 : decode cX11_alarm 47 = .ok (.ireturn, 1) := by decide +kernel
theorem dX11_alarm_48 : decode cX11_alarm 48 = .ok (.aload_n 0, 1) := by decide +kernel
theorem dX11_alarm_49 : decode cX11_alarm 49 = .ok (.getfield 7, 3) := by decide +kernel
theorem dX11_alarm_52 : decode cX11_alarm 52 = .ok (.bipush 100, 2) := by decide +kernel
theorem dX11_alarm_54 : decode cX11_alarm 54 = .ok (.iconst 0, 1) := by decide +kernel
theorem dX11_alarm_55 : decode cX11_alarm 55 = .ok (.iastore, 1) := by decide +kernel
theorem dX11_alarm_56 : decode cX11_alarm 56 = .ok (.aload_n 0, 1) := by decide +kernel
theorem dX11_alarm_57 : decode cX11_alarm 57 = .ok (.getfield 7, 3) := by decide +kernel
theorem dX11_alarm_60 : decode cX11_alarm 60 = .ok (.iload_n 1, 1) := by decide +kernel
theorem dX11_alarm_61 : decode cX11_alarm 61 = .ok (.iload_n 2, 1) := by decide +kernel
theorem dX11_alarm_62 : decode cX11_alarm 62 = .ok (.iload_n 3, 1) := by decide +kernel
theorem dX11_alarm_63 : decode cX11_alarm 63 = .ok (.invokestatic 67, 3) := by decide +kernel
theorem dX11_alarm_66 : decode cX11_alarm 66 = .ok (.ireturn, 1) := by decide +kernel
theorem dX11_type_0 : decode cX11_type 0 = .ok (.iload_n 1, 1) := by decide +kernel
theorem dX11_type_1 : decode cX11_type 1 = .ok (.iconst 0, 1) := by decide +kernel
theorem dX11_type_2 : decode cX11_type 2 = .ok (.bipush 127, 2) := by decide +kernel
theorem dX11_type_4 : decode cX11_type 4 = .ok (.invokestatic 52, 3) := by decide +kernel
theorem dX11_type_7 : decode cX11_type 7 = .ok (.ifCond .ne 8, 3) := by decide +kernel
theorem dX11_type_10 : decode cX11_type 10 = .ok (.aload_n 0, 1) := by decide +kernel
theorem dX11_type_11 : decode cX11_type 11 = .ok (.invokevirtual 60, 3) := by decide +kernel
theorem dX11_type_14 : decode cX11_type 14 = .ok (.ireturn, 1) := by decide +kernel
theorem dX11_type_15 : decode cX11_type 15 = .ok (.aload_n 0, 1) := by decide +kernel
theorem dX11_type_16 : decode cX11_type 16 = .ok (.getfield 71, 3) := by decide +kernel
theorem dX11_type_19 : decode cX11_type 19 = .ok (.sipush 150, 3) := by decide +kernel
theorem dX11_type_22 : decode cX11_type 22 = .ok (.if_icmp .ne 8, 3) := by decide +kernel
theorem dX11_type_25 : decode cX11_type 25 = .ok (.aload_n 0, 1) := by decide +kernel
theorem dX11_type_26 : decode cX11_type 26 = .ok (.invokevirtual 64, 3) := by decide +kernel
theorem dX11_type_29 : decode cX11_type 29 = .ok (.ireturn, 1) := by decide +kernel
theorem dX11_type_30 : decode cX11_type 30 = .ok (.aload_n 0, 1) := by decide +kernel
theorem dX11_type_31 : decode cX11_type 31 = .ok (.getfield 30, 3) := by decide +kernel
theorem dX11_type_34 : decode cX11_type 34 = .ok (.aload_n 0, 1) := by decide +kernel
theorem dX11_type_35 : decode cX11_type 35 = .ok (.getfield 71, 3) := by decide +kernel
theorem dX11_type_38 : decode cX11_type 38 = .ok (.iload_n 1, 1) := by decide +kernel
theorem dX11_type_39 : decode cX11_type 39 = .ok (.iastore, 1) := by decide +kernel
theorem dX11_type_40 : decode cX11_type 40 = .ok (.aload_n 0, 1) := by decide +kernel
theorem dX11_type_41 : decode cX11_type 41 = .ok (.dup, 1) := by decide +kernel
theorem dX11_type_42 : decode cX11_type 42 = .ok (.getfield 71, 3) := by decide +kernel
theorem dX11_type_45 : decode cX11_type 45 = .ok (.iconst 1, 1) := by decide +kernel
theorem dX11_type_46 : decode cX11_type 46 = .ok (.iadd, 1) := by decide +kernel
theorem dX11_type_47 : decode cX11_type 47 = .ok (.putfield 71, 3) := by decide +kernel
theorem dX11_type_50 : decode cX11_type 50 = .ok (.aload_n 0, 1) := by decide +kernel
theorem dX11_type_51 : decode cX11_type 51 = .ok (.getfield 71, 3) := by decide +kernel
theorem dX11_type_54 : decode cX11_type 54 = .ok (.ireturn, 1) := by decide +kernel
theorem dX11_clear_0 : decode cX11_clear 0 = .ok (.aload_n 0, 1) := by decide +kernel
theorem dX11_clear_1 : decode cX11_clear 1 = .ok (.getfield 71, 3) := by decide +kernel
theorem dX11_clear_4 : decode cX11_clear 4 = .ok (.istore_n 1, 1) := by decide +kernel
theorem dX11_clear_5 : decode cX11_clear 5 = .ok (.aload_n 0, 1) := by decide +kernel
theorem dX11_clear_6 : decode cX11_clear 6 = .ok (.iconst 0, 1) := by decide +kernel
theorem dX11_clear_7 : decode cX11_clear 7 = .ok (.putfield 71, 3) := by decide +kernel
theorem dX11_clear_10 : decode cX11_clear 10 = .ok (.iload_n 1, 1) := by decide +kernel
theorem dX11_clear_11 : decode cX11_clear 11 = .ok (.ireturn, 1) := by decide +kernel
theorem dX11_kindAt_0 : decode cX11_kindAt 0 = .ok (.iload_n 1, 1) := by decide +kernel
theorem dX11_kindAt_1 : decode cX11_kindAt 1 = .ok (.aload_n 0, 1) := by decide +kernel
theorem dX11_kindAt_2 : decode cX11_kindAt 2 = .ok (.getfield 71, 3) := by decide +kernel
theorem dX11_kindAt_5 : decode cX11_kindAt 5 = .ok (.if_icmp .ge 12, 3) := by decide +kernel
theorem dX11_kindAt_8 : decode cX11_kindAt 8 = .ok (.aload_n 0, 1) := by decide +kernel
theorem dX11_kindAt_9 : decode cX11_kindAt 9 = .ok (.getfield 30, 3) := by decide +kernel
theorem dX11_kindAt_12 : decode cX11_kindAt 12 = .ok (.iload_n 1, 1) := by decide +kernel
theorem dX11_kindAt_13 : decode cX11_kindAt 13 = .ok (.iaload, 1) := by decide +kernel
theorem dX11_kindAt_14 : decode cX11_kindAt 14 = .ok (.goto 4, 3) := by decide +kernel
theorem dX11_kindAt_17 : decode cX11_kindAt 17 = .ok (.iconst 0, 1) := by decide +kernel
theorem dX11_kindAt_18 : decode cX11_kindAt 18 = .ok (.istore_n 2, 1) := by decide +kernel
theorem dX11_kindAt_19 : decode cX11_kindAt 19 = .ok (.iload_n 2, 1) := by decide +kernel
theorem dX11_kindAt_20 : decode cX11_kindAt 20 = .ok (.bipush 97, 2) := by decide +kernel
theorem dX11_kindAt_22 : decode cX11_kindAt 22 = .ok (.bipush 122, 2) := by decide +kernel
theorem dX11_kindAt_24 : decode cX11_kindAt 24 = .ok (.invokestatic 52, 3) := by decide +kernel
theorem dX11_kindAt_27 : decode cX11_kindAt 27 = .ok (.ifCond .eq 7, 3) := by decide +kernel
theorem dX11_kindAt_30 : decode cX11_kindAt 30 = .ok (.iconst 1, 1) := by decide +kernel
theorem dX11_kindAt_31 : decode cX11_kindAt 31 = .ok (.goto 19, 3) := by decide +kernel
theorem dX11_kindAt_34 : decode cX11_kindAt 34 = .ok (.iload_n 2, 1) := by decide +kernel
theorem dX11_kindAt_35 : decode cX11_kindAt 35 = .ok (.bipush 48, 2) := by decide +kernel
theorem dX11_kindAt_37 : decode cX11_kindAt 37 = .ok (.bipush 57, 2) := by decide +kernel
theorem dX11_kindAt_39 : decode cX11_kindAt 39 = .ok (.invokestatic 52, 3) := by decide +kernel
theorem dX11_kindAt_42 : decode cX11_kindAt 42 = .ok (.ifCond .eq 7, 3) := by decide +kernel
theorem dX11_kindAt_45 : decode cX11_kindAt 45 = .ok (.iconst 2, 1) := by decide +kernel
theorem dX11_kindAt_46 : decode cX11_kindAt 46 = .ok (.goto 4, 3) := by decide +kernel
theorem dX11_kindAt_49 : decode cX11_kindAt 49 = .ok (.iconst 0, 1) := by decide +kernel
theorem dX11_kindAt_50 : decode cX11_kindAt 50 = .ok (.ireturn, 1) := by decide +kernel
theorem dX11_nextToken_0 : decode cX11_nextToken 0 = .ok (.aload_n 0, 1) := by decide +kernel
theorem dX11_nextToken_1 : decode cX11_nextToken 1 = .ok (.getfield 75, 3) := by decide +kernel
theorem dX11_nextToken_4 : decode cX11_nextToken 4 = .ok (.aload_n 0, 1) := by decide +kernel
theorem dX11_nextToken_5 : decode cX11_nextToken 5 = .ok (.getfield 71, 3) := by decide +kernel
theorem dX11_nextToken_8 : decode cX11_nextToken 8 = .ok (.if_icmp .ge 30, 3) := by decide +kernel
theorem dX11_nextToken_11 : decode cX11_nextToken 11 = .ok (.aload_n 0, 1) := by decide +kernel
theorem dX11_nextToken_12 : decode cX11_nextToken 12 = .ok (.getfield 30, 3) := by decide +kernel
theorem dX11_nextToken_15 : decode cX11_nextToken 15 = .ok (.aload_n 0, 1) := by decide +kernel
theorem dX11_nextToken_16 : decode cX11_nextToken 16 = .ok (.getfield 75, 3) := by decide +kernel
theorem dX11_nextToken_19 : decode cX11_nextToken 19 = .ok (.iaload, 1) := by decide +kernel
theorem dX11_nextToken_20 : decode cX11_nextToken 20 = .ok (.bipush 32, 2) := by decide +kernel
theorem dX11_nextToken_22 : decode cX11_nextToken 22 = .ok (.if_icmp .ne 16, 3) := by decide +kernel
theorem dX11_nextToken_25 : decode cX11_nextToken 25 = .ok (.aload_n 0, 1) := by decide +kernel
theorem dX11_nextToken_26 : decode cX11_nextToken 26 = .ok (.dup, 1) := by decide +kernel
end
section
theorem dX11_nextToken_27 : decode cX11_nextToken 27 = .ok (.getfield 75, 3) := by decide +kernel
theorem dX11_nextToken_30 : decode cX11_nextToken 30 = .ok (.iconst 1, 1) := by decide +kernel
theorem dX11_nextToken_31 : decode cX11_nextToken 31 = .ok (.iadd, 1) := by decide +kernel
theorem dX11_nextToken_32 : decode cX11_nextToken 32 = .ok (.putfield 75, 3) := by decide +kernel
theorem dX11_nextToken_35 : decode cX11_nextToken 35 = .ok (.goto (-35), 3) := by decide +kernel
theorem dX11_nextToken_38 : decode cX11_nextToken 38 = .ok (.aload_n 0, 1) := by decide +kernel
theorem dX11_nextToken_39 : decode cX11_nextToken 39 = .ok (.aload_n 0, 1) := by decide +kernel
theorem dX11_nextToken_40 : decode cX11_nextToken 40 = .ok (.getfield 75, 3) := by decide +kernel
theorem dX11_nextToken_43 : decode cX11_nextToken 43 = .ok (.putfield 78, 3) := by decide +kernel
theorem dX11_nextToken_46 : decode cX11_nextToken 46 = .ok (.aload_n 0, 1) := by decide +kernel
theorem dX11_nextToken_47 : decode cX11_nextToken 47 = .ok (.lconst 0, 1) := by decide +kernel
theorem dX11_nextToken_48 : decode cX11_nextToken 48 = .ok (.putfield 81, 3) := by decide +kernel
theorem dX11_nextToken_51 : decode cX11_nextToken 51 = .ok (.aload_n 0, 1) := by decide +kernel
theorem dX11_nextToken_52 : decode cX11_nextToken 52 = .ok (.iconst 0, 1) := by decide +kernel
theorem dX11_nextToken_53 : decode cX11_nextToken 53 = .ok (.putfield 84, 3) := by decide +kernel
theorem dX11_nextToken_56 : decode cX11_nextToken 56 = .ok (.aload_n 0, 1) := by decide +kernel
theorem dX11_nextToken_57 : decode cX11_nextToken 57 = .ok (.getfield 75, 3) := by decide +kernel
theorem dX11_nextToken_60 : decode cX11_nextToken 60 = .ok (.aload_n 0, 1) := by decide +kernel
theorem dX11_nextToken_61 : decode cX11_nextToken 61 = .ok (.getfield 71, 3) := by decide +kernel
theorem dX11_nextToken_64 : decode cX11_nextToken 64 = .ok (.if_icmp .ne 9, 3) := by decide +kernel
theorem dX11_nextToken_67 : decode cX11_nextToken 67 = .ok (.aload_n 0, 1) := by decide +kernel
theorem dX11_nextToken_68 : decode cX11_nextToken 68 = .ok (.iconst 0, 1) := by decide +kernel
theorem dX11_nextToken_69 : decode cX11_nextToken 69 = .ok (.putfield 87, 3) := by decide +kernel
theorem dX11_nextToken_72 : decode cX11_nextToken 72 = .ok (.return_, 1) := by decide +kernel
theorem dX11_nextToken_73 : decode cX11_nextToken 73 = .ok (.aload_n 0, 1) := by decide +kernel
theorem dX11_nextToken_74 : decode cX11_nextToken 74 = .ok (.aload_n 0, 1) := by decide +kernel
theorem dX11_nextToken_75 : decode cX11_nextToken 75 = .ok (.aload_n 0, 1) := by decide +kernel
theorem dX11_nextToken_76 : decode cX11_nextToken 76 = .ok (.getfield 75, 3) := by decide +kernel
theorem dX11_nextToken_79 : decode cX11_nextToken 79 = .ok (.invokevirtual 90, 3) := by decide +kernel
theorem dX11_nextToken_82 : decode cX11_nextToken 82 = .ok (.putfield 87, 3) := by decide +kernel
theorem dX11_nextToken_85 : decode cX11_nextToken 85 = .ok (.aload_n 0, 1) := by decide +kernel
theorem dX11_nextToken_86 : decode cX11_nextToken 86 = .ok (.getfield 87, 3) := by decide +kernel
theorem dX11_nextToken_89 : decode cX11_nextToken 89 = .ok (.ifCond .ne 37, 3) := by decide +kernel
theorem dX11_nextToken_92 : decode cX11_nextToken 92 = .ok (.aload_n 0, 1) := by decide +kernel
theorem dX11_nextToken_93 : decode cX11_nextToken 93 = .ok (.aload_n 0, 1) := by decide +kernel
theorem dX11_nextToken_94 : decode cX11_nextToken 94 = .ok (.getfield 30, 3) := by decide +kernel
theorem dX11_nextToken_97 : decode cX11_nextToken 97 = .ok (.aload_n 0, 1) := by decide +kernel
theorem dX11_nextToken_98 : decode cX11_nextToken 98 = .ok (.getfield 75, 3) := by decide +kernel
theorem dX11_nextToken_101 : decode cX11_nextToken 101 = .ok (.iaload, 1) := by decide +kernel
theorem dX11_nextToken_102 : decode cX11_nextToken 102 = .ok (.bipush 59, 2) := by decide +kernel
theorem dX11_nextToken_104 : decode cX11_nextToken 104 = .ok (.if_icmp .ne 7, 3) := by decide +kernel
theorem dX11_nextToken_107 : decode cX11_nextToken 107 = .ok (.iconst 3, 1) := by decide +kernel
theorem dX11_nextToken_108 : decode cX11_nextToken 108 = .ok (.goto 4, 3) := by decide +kernel
theorem dX11_nextToken_111 : decode cX11_nextToken 111 = .ok (.iconst 4, 1) := by decide +kernel
theorem dX11_nextToken_112 : decode cX11_nextToken 112 = .ok (.putfield 87, 3) := by decide +kernel
theorem dX11_nextToken_115 : decode cX11_nextToken 115 = .ok (.aload_n 0, 1) := by decide +kernel
theorem dX11_nextToken_116 : decode cX11_nextToken 116 = .ok (.dup, 1) := by decide +kernel
theorem dX11_nextToken_117 : decode cX11_nextToken 117 = .ok (.getfield 75, 3) := by decide +kernel
theorem dX11_nextToken_120 : decode cX11_nextToken 120 = .ok (.iconst 1, 1) := by decide +kernel
theorem dX11_nextToken_121 : decode cX11_nextToken 121 = .ok (.iadd, 1) := by decide +kernel
theorem dX11_nextToken_122 : decode cX11_nextToken 122 = .ok (.putfield 75, 3) := by decide +kernel
theorem dX11_nextToken_125 : decode cX11_nextToken 125 = .ok (.return_, 1) := by decide +kernel
theorem dX11_nextToken_126 : decode cX11_nextToken 126 = .ok (.aload_n 0, 1) := by decide +kernel
theorem dX11_nextToken_127 : decode cX11_nextToken 127 = .ok (.aload_n 0, 1) := by decide +kernel
theorem dX11_nextToken_128 : decode cX11_nextToken 128 = .ok (.getfield 75, 3) := by decide +kernel
theorem dX11_nextToken_131 : decode cX11_nextToken 131 = .ok (.invokevirtual 90, 3) := by decide +kernel
theorem dX11_nextToken_134 : decode cX11_nextToken 134 = .ok (.aload_n 0, 1) := by decide +kernel
theorem dX11_nextToken_135 : decode cX11_nextToken 135 = .ok (.getfield 87, 3) := by decide +kernel
theorem dX11_nextToken_138 : decode cX11_nextToken 138 = .ok (.if_icmp .ne 97, 3) := by decide +kernel
theorem dX11_nextToken_141 : decode cX11_nextToken 141 = .ok (.aload_n 0, 1) := by decide +kernel
theorem dX11_nextToken_142 : decode cX11_nextToken 142 = .ok (.getfield 75, 3) := by decide +kernel
theorem dX11_nextToken_145 : decode cX11_nextToken 145 = .ok (.aload_n 0, 1) := by decide +kernel
theorem dX11_nextToken_146 : decode cX11_nextToken 146 = .ok (.getfield 78, 3) := by decide +kernel
theorem dX11_nextToken_149 : decode cX11_nextToken 149 = .ok (.isub, 1) := by decide +kernel
theorem dX11_nextToken_150 : decode cX11_nextToken 150 = .ok (.istore_n 1, 1) := by decide +kernel
theorem dX11_nextToken_151 : decode cX11_nextToken 151 = .ok (.aload_n 0, 1) := by decide +kernel
theorem dX11_nextToken_152 : decode cX11_nextToken 152 = .ok (.iload_n 1, 1) := by decide +kernel
theorem dX11_nextToken_153 : decode cX11_nextToken 153 = .ok (.bipush 7, 2) := by decide +kernel
theorem dX11_nextToken_155 : decode cX11_nextToken 155 = .ok (.if_icmp .ge 25, 3) := by decide +kernel
theorem dX11_nextToken_158 : decode cX11_nextToken 158 = .ok (.ldc2_w 94, 3) := by decide +kernel
theorem dX11_nextToken_161 : decode cX11_nextToken 161 = .ok (.aload_n 0, 1) := by decide +kernel
theorem dX11_nextToken_162 : decode cX11_nextToken 162 = .ok (.getfield 81, 3) := by decide +kernel
theorem dX11_nextToken_165 : decode cX11_nextToken 165 = .ok (.lmul, 1) := by decide +kernel
theorem dX11_nextToken_166 : decode cX11_nextToken 166 = .ok (.aload_n 0, 1) := by decide +kernel
theorem dX11_nextToken_167 : decode cX11_nextToken 167 = .ok (.getfield 30, 3) := by decide +kernel
theorem dX11_nextToken_170 : decode cX11_nextToken 170 = .ok (.aload_n 0, 1) := by decide +kernel
theorem dX11_nextToken_171 : decode cX11_nextToken 171 = .ok (.getfield 75, 3) := by decide +kernel
theorem dX11_nextToken_174 : decode cX11_nextToken 174 = .ok (.iaload, 1) := by decide +kernel
theorem dX11_nextToken_175 : decode cX11_nextToken 175 = .ok (.i2l, 1) := by decide +kernel
theorem dX11_nextToken_176 : decode cX11_nextToken 176 = .ok (.ladd, 1) := by decide +kernel
theorem dX11_nextToken_177 : decode cX11_nextToken 177 = .ok (.goto 6, 3) := by decide +kernel
theorem dX11_nextToken_180 : decode cX11_nextToken 180 = .ok (.ldc2_w 96, 3) := by decide +kernel
theorem dX11_nextToken_183 : decode cX11_nextToken 183 = .ok (.putfield 81, 3) := by decide +kernel
theorem dX11_nextToken_186 : decode cX11_nextToken 186 = .ok (.aload_n 0, 1) := by decide +kernel
theorem dX11_nextToken_187 : decode cX11_nextToken 187 = .ok (.iload_n 1, 1) := by decide +kernel
theorem dX11_nextToken_188 : decode cX11_nextToken 188 = .ok (.iconst 2, 1) := by decide +kernel
theorem dX11_nextToken_189 : decode cX11_nextToken 189 = .ok (.if_icmp .ge 26, 3) := by decide +kernel
theorem dX11_nextToken_192 : decode cX11_nextToken 192 = .ok (.bipush 10, 2) := by decide +kernel
theorem dX11_nextToken_194 : decode cX11_nextToken 194 = .ok (.aload_n 0, 1) := by decide +kernel
theorem dX11_nextToken_195 : decode cX11_nextToken 195 = .ok (.getfield 84, 3) := by decide +kernel
theorem dX11_nextToken_198 : decode cX11_nextToken 198 = .ok (.imul, 1) := by decide +kernel
theorem dX11_nextToken_199 : decode cX11_nextToken 199 = .ok (.aload_n 0, 1) := by decide +kernel
theorem dX11_nextToken_200 : decode cX11_nextToken 200 = .ok (.getfield 30, 3) := by decide +kernel
theorem dX11_nextToken_203 : decode cX11_nextToken 203 = .ok (.aload_n 0, 1) := by decide +kernel
theorem dX11_nextToken_204 : decode cX11_nextToken 204 = .ok (.getfield 75, 3) := by decide +kernel
theorem dX11_nextToken_207 : decode cX11_nextToken 207 = .ok (.iaload, 1) := by decide +kernel
theorem dX11_nextToken_208 : decode cX11_nextToken 208 = .ok (.iadd, 1) := by decide +kernel
theorem dX11_nextToken_209 : decode cX11_nextToken 209 = .ok (.bipush 48, 2) := by decide +kernel
theorem dX11_nextToken_211 : decode cX11_nextToken 211 = .ok (.isub, 1) := by decide +kernel
theorem dX11_nextToken_212 : decode cX11_nextToken 212 = .ok (.goto 7, 3) := by decide +kernel
theorem dX11_nextToken_215 : decode cX11_nextToken 215 = .ok (.aload_n 0, 1) := by decide +kernel
theorem dX11_nextToken_216 : decode cX11_nextToken 216 = .ok (.getfield 84, 3) := by decide +kernel
theorem dX11_nextToken_219 : decode cX11_nextToken 219 = .ok (.putfield 84, 3) := by decide +kernel
theorem dX11_nextToken_222 : decode cX11_nextToken 222 = .ok (.aload_n 0, 1) := by decide +kernel
theorem dX11_nextToken_223 : decode cX11_nextToken 223 = .ok (.dup, 1) := by decide +kernel
theorem dX11_nextToken_224 : decode cX11_nextToken 224 = .ok (.getfield 75, 3) := by decide +kernel
theorem dX11_nextToken_227 : decode cX11_nextToken 227 = .ok (.iconst 1, 1) := by decide +kernel
theorem dX11_nextToken_228 : decode cX11_nextToken 228 = .ok (.iadd, 1) := by decide +kernel
theorem dX11_nextToken_229 : decode cX11_nextToken 229 = .ok (.putfield 75, 3) := by decide +kernel
theorem dX11_nextToken_232 : decode cX11_nextToken 232 = .ok (.goto (-106), 3) := by decide +kernel
theorem dX11_nextToken_235 : decode cX11_nextToken 235 = .ok (.aload_n 0, 1) := by decide +kernel
theorem dX11_nextToken_236 : decode cX11_nextToken 236 = .ok (.aload_n 0, 1) := by decide +kernel
theorem dX11_nextToken_237 : decode cX11_nextToken 237 = .ok (.getfield 87, 3) := by decide +kernel
theorem dX11_nextToken_240 : decode cX11_nextToken 240 = .ok (.iconst 2, 1) := by decide +kernel
theorem dX11_nextToken_241 : decode cX11_nextToken 241 = .ok (.if_icmp .ne 20, 3) := by decide +kernel
theorem dX11_nextToken_244 : decode cX11_nextToken 244 = .ok (.aload_n 0, 1) := by decide +kernel
theorem dX11_nextToken_245 : decode cX11_nextToken 245 = .ok (.getfield 75, 3) := by decide +kernel
theorem dX11_nextToken_248 : decode cX11_nextToken 248 = .ok (.aload_n 0, 1) := by decide +kernel
theorem dX11_nextToken_249 : decode cX11_nextToken 249 = .ok (.getfield 78, 3) := by decide +kernel
theorem dX11_nextToken_252 : decode cX11_nextToken 252 = .ok (.isub, 1) := by decide +kernel
theorem dX11_nextToken_253 : decode cX11_nextToken 253 = .ok (.iconst 2, 1) := by decide +kernel
theorem dX11_nextToken_254 : decode cX11_nextToken 254 = .ok (.if_icmp .le 7, 3) := by decide +kernel
theorem dX11_nextToken_257 : decode cX11_nextToken 257 = .ok (.iconst 4, 1) := by decide +kernel
theorem dX11_nextToken_258 : decode cX11_nextToken 258 = .ok (.goto 7, 3) := by decide +kernel
theorem dX11_nextToken_261 : decode cX11_nextToken 261 = .ok (.aload_n 0, 1) := by decide +kernel
theorem dX11_nextToken_262 : decode cX11_nextToken 262 = .ok (.getfield 87, 3) := by decide +kernel
theorem dX11_nextToken_265 : decode cX11_nextToken 265 = .ok (.putfield 87, 3) := by decide +kernel
theorem dX11_nextToken_268 : decode cX11_nextToken 268 = .ok (.return_, 1) := by decide +kernel
theorem dX11_isNumber_0 : decode cX11_isNumber 0 = .ok (.aload_n 0, 1) := by decide +kernel
theorem dX11_isNumber_1 : decode cX11_isNumber 1 = .ok (.invokevirtual 98, 3) := by decide +kernel
theorem dX11_isNumber_4 : decode cX11_isNumber 4 = .ok (.aload_n 0, 1) := by decide +kernel
theorem dX11_isNumber_5 : decode cX11_isNumber 5 = .ok (.getfield 87, 3) := by decide +kernel
theorem dX11_isNumber_8 : decode cX11_isNumber 8 = .ok (.iconst 2, 1) := by decide +kernel
theorem dX11_isNumber_9 : decode cX11_isNumber 9 = .ok (.if_icmp .ne 19, 3) := by decide +kernel
theorem dX11_isNumber_12 : decode cX11_isNumber 12 = .ok (.aload_n 0, 1) := by decide +kernel
theorem dX11_isNumber_13 : decode cX11_isNumber 13 = .ok (.getfield 84, 3) := by decide +kernel
theorem dX11_isNumber_16 : decode cX11_isNumber 16 = .ok (.iload_n 1, 1) := by decide +kernel
theorem dX11_isNumber_17 : decode cX11_isNumber 17 = .ok (.iload_n 2, 1) := by decide +kernel
theorem dX11_isNumber_18 : decode cX11_isNumber 18 = .ok (.invokestatic 52, 3) := by decide +kernel
theorem dX11_isNumber_21 : decode cX11_isNumber 21 = .ok (.ifCond .eq 7, 3) := by decide +kernel
theorem dX11_isNumber_24 : decode cX11_isNumber 24 = .ok (.iconst 1, 1) := by decide +kernel
theorem dX11_isNumber_25 : decode cX11_isNumber 25 = .ok (.goto 4, 3) := by decide +kernel
theorem dX11_isNumber_28 : decode cX11_isNumber 28 = .ok (.iconst 0, 1) := by decide +kernel
theorem dX11_isNumber_29 : decode cX11_isNumber 29 = .ok (.ireturn, 1) := by decide +kernel
theorem dX11_isDoor_0 : decode cX11_isDoor 0 = .ok (.aload_n 0, 1) := by decide +kernel
theorem dX11_isDoor_1 : decode cX11_isDoor 1 = .ok (.iconst 0, 1) := by decide +kernel
theorem dX11_isDoor_2 : decode cX11_isDoor 2 = .ok (.bipush 7, 2) := by decide +kernel
theorem dX11_isDoor_4 : decode cX11_isDoor 4 = .ok (.invokevirtual 101, 3) := by decide +kernel
theorem dX11_isDoor_7 : decode cX11_isDoor 7 = .ok (.ifCond .ne 5, 3) := by decide +kernel
theorem dX11_isDoor_10 : decode cX11_isDoor 10 = .ok (.iconst 0, 1) := by decide +kernel
theorem dX11_isDoor_11 : decode cX11_isDoor 11 = .ok (.ireturn, 1) := by decide +kernel
theorem dX11_isDoor_12 : decode cX11_isDoor 12 = .ok (.aload_n 0, 1) := by decide +kernel
theorem dX11_isDoor_13 : decode cX11_isDoor 13 = .ok (.getfield 84, 3) := by decide +kernel
theorem dX11_isDoor_16 : decode cX11_isDoor 16 = .ok (.istore_n 1, 1) := by decide +kernel
theorem dX11_isDoor_17 : decode cX11_isDoor 17 = .ok (.aload_n 0, 1) := by decide +kernel
theorem dX11_isDoor_18 : decode cX11_isDoor 18 = .ok (.iconst 0, 1) := by decide +kernel
theorem dX11_isDoor_19 : decode cX11_isDoor 19 = .ok (.bipush 7, 2) := by decide +kernel
theorem dX11_isDoor_21 : decode cX11_isDoor 21 = .ok (.invokevirtual 101, 3) := by decide +kernel
theorem dX11_isDoor_24 : decode cX11_isDoor 24 = .ok (.ifCond .eq 11, 3) := by decide +kernel
theorem dX11_isDoor_27 : decode cX11_isDoor 27 = .ok (.aload_n 0, 1) := by decide +kernel
theorem dX11_isDoor_28 : decode cX11_isDoor 28 = .ok (.getfield 84, 3) := by decide +kernel
theorem dX11_isDoor_31 : decode cX11_isDoor 31 = .ok (.iload_n 1, 1) := by decide +kernel
theorem dX11_isDoor_32 : decode cX11_isDoor 32 = .ok (.if_icmp .ne 5, 3) := by decide +kernel
theorem dX11_isDoor_35 : decode cX11_isDoor 35 = .ok (.iconst 0, 1) := by decide +kernel
theorem dX11_isDoor_36 : decode cX11_isDoor 36 = .ok (.ireturn, 1) := by decide +kernel
theorem dX11_isDoor_37 : decode cX11_isDoor 37 = .ok (.aload_n 0, 1) := by decide +kernel
theorem dX11_isDoor_38 : decode cX11_isDoor 38 = .ok (.getfield 84, 3) := by decide +kernel
theorem dX11_isDoor_41 : decode cX11_isDoor 41 = .ok (.istore_n 2, 1) := by decide +kernel
theorem dX11_isDoor_42 : decode cX11_isDoor 42 = .ok (.aload_n 0, 1) := by decide +kernel
theorem dX11_isDoor_43 : decode cX11_isDoor 43 = .ok (.iconst 1, 1) := by decide +kernel
theorem dX11_isDoor_44 : decode cX11_isDoor 44 = .ok (.bipush 9, 2) := by decide +kernel
theorem dX11_isDoor_46 : decode cX11_isDoor 46 = .ok (.invokevirtual 101, 3) := by decide +kernel
theorem dX11_isDoor_49 : decode cX11_isDoor 49 = .ok (.ifCond .ne 5, 3) := by decide +kernel
theorem dX11_isDoor_52 : decode cX11_isDoor 52 = .ok (.iconst 0, 1) := by decide +kernel
theorem dX11_isDoor_53 : decode cX11_isDoor 53 = .ok (.ireturn, 1) := by decide +kernel
theorem dX11_isDoor_54 : decode cX11_isDoor 54 = .ok (.aload_n 0, 1) := by decide +kernel
theorem dX11_isDoor_55 : decode cX11_isDoor 55 = .ok (.getfield 13, 3) := by decide +kernel
theorem dX11_isDoor_58 : decode cX11_isDoor 58 = .ok (.bipush 8, 2) := by decide +kernel
theorem dX11_isDoor_60 : decode cX11_isDoor 60 = .ok (.iload_n 1, 1) := by decide +kernel
theorem dX11_isDoor_61 : decode cX11_isDoor 61 = .ok (.imul, 1) := by decide +kernel
theorem dX11_isDoor_62 : decode cX11_isDoor 62 = .ok (.iload_n 2, 1) := by decide +kernel
theorem dX11_isDoor_63 : decode cX11_isDoor 63 = .ok (.iadd, 1) := by decide +kernel
theorem dX11_isDoor_64 : decode cX11_isDoor 64 = .ok (.aload_n 0, 1) := by decide +kernel
theorem dX11_isDoor_65 : decode cX11_isDoor 65 = .ok (.getfield 84, 3) := by decide +kernel
theorem dX11_isDoor_68 : decode cX11_isDoor 68 = .ok (.iastore, 1) := by decide +kernel
theorem dX11_isDoor_69 : decode cX11_isDoor 69 = .ok (.aload_n 0, 1) := by decide +kernel
theorem dX11_isDoor_70 : decode cX11_isDoor 70 = .ok (.getfield 13, 3) := by decide +kernel
theorem dX11_isDoor_73 : decode cX11_isDoor 73 = .ok (.bipush 8, 2) := by decide +kernel
theorem dX11_isDoor_75 : decode cX11_isDoor 75 = .ok (.iload_n 2, 1) := by decide +kernel
theorem dX11_isDoor_76 : decode cX11_isDoor 76 = .ok (.imul, 1) := by decide +kernel
theorem dX11_isDoor_77 : decode cX11_isDoor 77 = .ok (.iload_n 1, 1) := by decide +kernel
theorem dX11_isDoor_78 : decode cX11_isDoor 78 = .ok (.iadd, 1) := by decide +kernel
theorem dX11_isDoor_79 : decode cX11_isDoor 79 = .ok (.aload_n 0, 1) := by decide +kernel
theorem dX11_isDoor_80 : decode cX11_isDoor 80 = .ok (.getfield 84, 3) := by decide +kernel
theorem dX11_isDoor_83 : decode cX11_isDoor 83 = .ok (.iastore, 1) := by decide +kernel
theorem dX11_isDoor_84 : decode cX11_isDoor 84 = .ok (.iconst 1, 1) := by decide +kernel
theorem dX11_isDoor_85 : decode cX11_isDoor 85 = .ok (.ireturn, 1) := by decide +kernel
theorem dX11_isAlarmItem_0 : decode cX11_isAlarmItem 0 = .ok (.aload_n 0, 1) := by decide +kernel
theorem dX11_isAlarmItem_1 : decode cX11_isAlarmItem 1 = .ok (.getfield 13, 3) := by decide +kernel
theorem dX11_isAlarmItem_4 : decode cX11_isAlarmItem 4 = .ok (.bipush 64, 2) := by decide +kernel
theorem dX11_isAlarmItem_6 : decode cX11_isAlarmItem 6 = .ok (.iaload, 1) := by decide +kernel
theorem dX11_isAlarmItem_7 : decode cX11_isAlarmItem 7 = .ok (.bipush 6, 2) := by decide +kernel
theorem dX11_isAlarmItem_9 : decode cX11_isAlarmItem 9 = .ok (.if_icmp .eq 12, 3) := by decide +kernel
theorem dX11_isAlarmItem_12 : decode cX11_isAlarmItem 12 = .ok (.aload_n 0, 1) := by decide +kernel
theorem dX11_isAlarmItem_13 : decode cX11_isAlarmItem 13 = .ok (.iconst 0, 1) := by decide +kernel
theorem dX11_isAlarmItem_14 : decode cX11_isAlarmItem 14 = .ok (.iconst 5, 1) := by decide +kernel
theorem dX11_isAlarmItem_15 : decode cX11_isAlarmItem 15 = .ok (.invokevirtual 101, 3) := by decide +kernel
theorem dX11_isAlarmItem_18 : decode cX11_isAlarmItem 18 = .ok (.ifCond .ne 5, 3) := by decide +kernel
theorem dX11_isAlarmItem_21 : decode cX11_isAlarmItem 21 = .ok (.iconst 0, 1) := by decide +kernel
theorem dX11_isAlarmItem_22 : decode cX11_isAlarmItem 22 = .ok (.ireturn, 1) := by decide +kernel
theorem dX11_isAlarmItem_23 : decode cX11_isAlarmItem 23 = .ok (.aload_n 0, 1) := by decide +kernel
theorem dX11_isAlarmItem_24 : decode cX11_isAlarmItem 24 = .ok (.getfield 84, 3) := by decide +kernel
theorem dX11_isAlarmItem_27 : decode cX11_isAlarmItem 27 = .ok (.istore_n 1, 1) := by decide +kernel
theorem dX11_isAlarmItem_28 : decode cX11_isAlarmItem 28 = .ok (.aload_n 0, 1) := by decide +kernel
theorem dX11_isAlarmItem_29 : decode cX11_isAlarmItem 29 = .ok (.iconst 0, 1) := by decide +kernel
theorem dX11_isAlarmItem_30 : decode cX11_isAlarmItem 30 = .ok (.bipush 7, 2) := by decide +kernel
theorem dX11_isAlarmItem_32 : decode cX11_isAlarmItem 32 = .ok (.invokevirtual 101, 3) := by decide +kernel
theorem dX11_isAlarmItem_35 : decode cX11_isAlarmItem 35 = .ok (.ifCond .ne 5, 3) := by decide +kernel
theorem dX11_isAlarmItem_38 : decode cX11_isAlarmItem 38 = .ok (.iconst 0, 1) := by decide +kernel
theorem dX11_isAlarmItem_39 : decode cX11_isAlarmItem 39 = .ok (.ireturn, 1) := by decide +kernel
theorem dX11_isAlarmItem_40 : decode cX11_isAlarmItem 40 = .ok (.aload_n 0, 1) := by decide +kernel
theorem dX11_isAlarmItem_41 : decode cX11_isAlarmItem 41 = .ok (.getfield 84, 3) := by decide +kernel
theorem dX11_isAlarmItem_44 : decode cX11_isAlarmItem 44 = .ok (.istore_n 2, 1) := by decide +kernel
theorem dX11_isAlarmItem_45 : decode cX11_isAlarmItem 45 = .ok (.aload_n 0, 1) := by decide +kernel
theorem dX11_isAlarmItem_46 : decode cX11_isAlarmItem 46 = .ok (.iconst 0, 1) := by decide +kernel
theorem dX11_isAlarmItem_47 : decode cX11_isAlarmItem 47 = .ok (.bipush 99, 2) := by decide +kernel
theorem dX11_isAlarmItem_49 : decode cX11_isAlarmItem 49 = .ok (.invokevirtual 101, 3) := by decide +kernel
theorem dX11_isAlarmItem_52 : decode cX11_isAlarmItem 52 = .ok (.ifCond .ne 5, 3) := by decide +kernel
theorem dX11_isAlarmItem_55 : decode cX11_isAlarmItem 55 = .ok (.iconst 0, 1) := by decide +kernel
theorem dX11_isAlarmItem_56 : decode cX11_isAlarmItem 56 = .ok (.ireturn, 1) := by decide +kernel
theorem dX11_isAlarmItem_57 : decode cX11_isAlarmItem 57 = .ok (.aload_n 0, 1) := by decide +kernel
theorem dX11_isAlarmItem_58 : decode cX11_isAlarmItem 58 = .ok (.getfield 13, 3) := by decide +kernel
theorem dX11_isAlarmItem_61 : decode cX11_isAlarmItem 61 = .ok (.iload_n 1, 1) := by decide +kernel
theorem dX11_isAlarmItem_62 : decode cX11_isAlarmItem 62 = .ok (.iload_n 2, 1) := by decide +kernel
theorem dX11_isAlarmItem_63 : decode cX11_isAlarmItem 63 = .ok (.aload_n 0, 1) := by decide +kernel
theorem dX11_isAlarmItem_64 : decode cX11_isAlarmItem 64 = .ok (.getfield 84, 3) := by decide +kernel
theorem dX11_isAlarmItem_67 : decode cX11_isAlarmItem 67 = .ok (.invokestatic 67, 3) := by decide +kernel
theorem dX11_isAlarmItem_70 : decode cX11_isAlarmItem 70 = .ok (.pop, 1) := by decide +kernel
theorem dX11_isAlarmItem_71 : decode cX11_isAlarmItem 71 = .ok (.iconst 1, 1) := by decide +kernel
theorem dX11_isAlarmItem_72 : decode cX11_isAlarmItem 72 = .ok (.ireturn, 1) := by decide +kernel
theorem dX11_isDown_0 : decode cX11_isDown 0 = .ok (.aload_n 0, 1) := by decide +kernel
theorem dX11_isDown_1 : decode cX11_isDown 1 = .ok (.iconst 0, 1) := by decide +kernel
theorem dX11_isDown_2 : decode cX11_isDown 2 = .ok (.aload_n 0, 1) := by decide +kernel
theorem dX11_isDown_3 : decode cX11_isDown 3 = .ok (.getfield 13, 3) := by decide +kernel
theorem dX11_isDown_6 : decode cX11_isDown 6 = .ok (.bipush 64, 2) := by decide +kernel
theorem dX11_isDown_8 : decode cX11_isDown 8 = .ok (.iaload, 1) := by decide +kernel
theorem dX11_isDown_9 : decode cX11_isDown 9 = .ok (.iconst 1, 1) := by decide +kernel
theorem dX11_isDown_10 : decode cX11_isDown 10 = .ok (.isub, 1) := by decide +kernel
theorem dX11_isDown_11 : decode cX11_isDown 11 = .ok (.invokevirtual 101, 3) := by decide +kernel
theorem dX11_isDown_14 : decode cX11_isDown 14 = .ok (.ifCond .ne 5, 3) := by decide +kernel
theorem dX11_isDown_17 : decode cX11_isDown 17 = .ok (.iconst 0, 1) := by decide +kernel
theorem dX11_isDown_18 : decode cX11_isDown 18 = .ok (.ireturn, 1) := by decide +kernel
theorem dX11_isDown_19 : decode cX11_isDown 19 = .ok (.aload_n 0, 1) := by decide +kernel
theorem dX11_isDown_20 : decode cX11_isDown 20 = .ok (.getfield 13, 3) := by decide +kernel
theorem dX11_isDown_23 : decode cX11_isDown 23 = .ok (.bipush 93, 2) := by decide +kernel
theorem dX11_isDown_25 : decode cX11_isDown 25 = .ok (.aload_n 0, 1) := by decide +kernel
theorem dX11_isDown_26 : decode cX11_isDown 26 = .ok (.getfield 13, 3) := by decide +kernel
theorem dX11_isDown_29 : decode cX11_isDown 29 = .ok (.bipush 93, 2) := by decide +kernel
theorem dX11_isDown_31 : decode cX11_isDown 31 = .ok (.iaload, 1) := by decide +kernel
theorem dX11_isDown_32 : decode cX11_isDown 32 = .ok (.iconst 1, 1) := by decide +kernel
theorem dX11_isDown_33 : decode cX11_isDown 33 = .ok (.aload_n 0, 1) := by decide +kernel
theorem dX11_isDown_34 : decode cX11_isDown 34 = .ok (.getfield 84, 3) := by decide +kernel
theorem dX11_isDown_37 : decode cX11_isDown 37 = .ok (.ishl, 1) := by decide +kernel
theorem dX11_isDown_38 : decode cX11_isDown 38 = .ok (.ior, 1) := by decide +kernel
theorem dX11_isDown_39 : decode cX11_isDown 39 = .ok (.iastore, 1) := by decide +kernel
theorem dX11_isDown_40 : decode cX11_isDown 40 = .ok (.iconst 1, 1) := by decide +kernel
theorem dX11_isDown_41 : decode cX11_isDown 41 = .ok (.ireturn, 1) := by decide +kernel
theorem dX11_isCold_0 : decode cX11_isCold 0 = .ok (.aload_n 0, 1) := by decide +kernel
theorem dX11_isCold_1 : decode cX11_isCold 1 = .ok (.iconst 0, 1) := by decide +kernel
theorem dX11_isCold_2 : decode cX11_isCold 2 = .ok (.bipush 9, 2) := by decide +kernel
theorem dX11_isCold_4 : decode cX11_isCold 4 = .ok (.invokevirtual 101, 3) := by decide +kernel
theorem dX11_isCold_7 : decode cX11_isCold 7 = .ok (.ifCond .ne 5, 3) := by decide +kernel
theorem dX11_isCold_10 : decode cX11_isCold 10 = .ok (.iconst 0, 1) := by decide +kernel
theorem dX11_isCold_11 : decode cX11_isCold 11 = .ok (.ireturn, 1) := by decide +kernel
theorem dX11_isCold_12 : decode cX11_isCold 12 = .ok (.aload_n 0, 1) := by decide +kernel
theorem dX11_isCold_13 : decode cX11_isCold 13 = .ok (.getfield 13, 3) := by decide +kernel
theorem dX11_isCold_16 : decode cX11_isCold 16 = .ok (.bipush 92, 2) := by decide +kernel
theorem dX11_isCold_18 : decode cX11_isCold 18 = .ok (.aload_n 0, 1) := by decide +kernel
theorem dX11_isCold_19 : decode cX11_isCold 19 = .ok (.getfield 84, 3) := by decide +kernel
theorem dX11_isCold_22 : decode cX11_isCold 22 = .ok (.iastore, 1) := by decide +kernel
theorem dX11_isCold_23 : decode cX11_isCold 23 = .ok (.iconst 1, 1) := by decide +kernel
theorem dX11_isCold_24 : decode cX11_isCold 24 = .ok (.ireturn, 1) := by decide +kernel
theorem dX11_isItem_0 : decode cX11_isItem 0 = .ok (.aload_n 0, 1) := by decide +kernel
theorem dX11_isItem_1 : decode cX11_isItem 1 = .ok (.getfield 105, 3) := by decide +kernel
theorem dX11_isItem_4 : decode cX11_isItem 4 = .ok (.ifCond .ne 7, 3) := by decide +kernel
theorem dX11_isItem_7 : decode cX11_isItem 7 = .ok (.iconst 1, 1) := by decide +kernel
theorem dX11_isItem_8 : decode cX11_isItem 8 = .ok (.goto 4, 3) := by decide +kernel
theorem dX11_isItem_11 : decode cX11_isItem 11 = .ok (.iconst 0, 1) := by decide +kernel
theorem dX11_isItem_12 : decode cX11_isItem 12 = .ok (.istore_n 1, 1) := by decide +kernel
theorem dX11_isItem_13 : decode cX11_isItem 13 = .ok (.aload_n 0, 1) := by decide +kernel
theorem dX11_isItem_14 : decode cX11_isItem 14 = .ok (.getfield 87, 3) := by decide +kernel
theorem dX11_isItem_17 : decode cX11_isItem 17 = .ok (.iconst 1, 1) := by decide +kernel
theorem dX11_isItem_18 : decode cX11_isItem 18 = .ok (.if_icmp .ne 23, 3) := by decide +kernel
theorem dX11_isItem_21 : decode cX11_isItem 21 = .ok (.iload_n 1, 1) := by decide +kernel
theorem dX11_isItem_22 : decode cX11_isItem 22 = .ok (.aload_n 0, 1) := by decide +kernel
theorem dX11_isItem_23 : decode cX11_isItem 23 = .ok (.getfield 81, 3) := by decide +kernel
theorem dX11_isItem_26 : decode cX11_isItem 26 = .ok (.ldc2_w 108, 3) := by decide +kernel
theorem dX11_isItem_29 : decode cX11_isItem 29 = .ok (.lcmp, 1) := by decide +kernel
theorem dX11_isItem_30 : decode cX11_isItem 30 = .ok (.ifCond .ne 7, 3) := by decide +kernel
theorem dX11_isItem_33 : decode cX11_isItem 33 = .ok (.iconst 1, 1) := by decide +kernel
theorem dX11_isItem_34 : decode cX11_isItem 34 = .ok (.goto 4, 3) := by decide +kernel
theorem dX11_isItem_37 : decode cX11_isItem 37 = .ok (.iconst 0, 1) := by decide +kernel
theorem dX11_isItem_38 : decode cX11_isItem 38 = .ok (.if_icmp .eq 5, 3) := by decide +kernel
theorem dX11_isItem_41 : decode cX11_isItem 41 = .ok (.iconst 0, 1) := by decide +kernel
theorem dX11_isItem_42 : decode cX11_isItem 42 = .ok (.ireturn, 1) := by decide +kernel
theorem dX11_isItem_43 : decode cX11_isItem 43 = .ok (.iload_n 1, 1) := by decide +kernel
theorem dX11_isItem_44 : decode cX11_isItem 44 = .ok (.ifCond .eq 8, 3) := by decide +kernel
theorem dX11_isItem_47 : decode cX11_isItem 47 = .ok (.aload_n 0, 1) := by decide +kernel
theorem dX11_isItem_48 : decode cX11_isItem 48 = .ok (.invokevirtual 110, 3) := by decide +kernel
theorem dX11_isItem_51 : decode cX11_isItem 51 = .ok (.ireturn, 1) := by decide +kernel
theorem dX11_isItem_52 : decode cX11_isItem 52 = .ok (.aload_n 0, 1) := by decide +kernel
theorem dX11_isItem_53 : decode cX11_isItem 53 = .ok (.getfield 81, 3) := by decide +kernel
theorem dX11_isItem_56 : decode cX11_isItem 56 = .ok (.ldc2_w 114, 3) := by decide +kernel
theorem dX11_isItem_59 : decode cX11_isItem 59 = .ok (.lcmp, 1) := by decide +kernel
theorem dX11_isItem_60 : decode cX11_isItem 60 = .ok (.ifCond .ne 8, 3) := by decide +kernel
theorem dX11_isItem_63 : decode cX11_isItem 63 = .ok (.aload_n 0, 1) := by decide +kernel
theorem dX11_isItem_64 : decode cX11_isItem 64 = .ok (.invokevirtual 116, 3) := by decide +kernel
theorem dX11_isItem_67 : decode cX11_isItem 67 = .ok (.ireturn, 1) := by decide +kernel
theorem dX11_isItem_68 : decode cX11_isItem 68 = .ok (.aload_n 0, 1) := by decide +kernel
theorem dX11_isItem_69 : decode cX11_isItem 69 = .ok (.getfield 81, 3) := by decide +kernel
theorem dX11_isItem_72 : decode cX11_isItem 72 = .ok (.ldc2_w 119, 3) := by decide +kernel
theorem dX11_isItem_75 : decode cX11_isItem 75 = .ok (.lcmp, 1) := by decide +kernel
theorem dX11_isItem_76 : decode cX11_isItem 76 = .ok (.ifCond .ne 10, 3) := by decide +kernel
theorem dX11_isItem_79 : decode cX11_isItem 79 = .ok (.aload_n 0, 1) := by decide +kernel
theorem dX11_isItem_80 : decode cX11_isItem 80 = .ok (.invokevirtual 121, 3) := by decide +kernel
theorem dX11_isItem_83 : decode cX11_isItem 83 = .ok (.goto 26, 3) := by decide +kernel
theorem dX11_isItem_86 : decode cX11_isItem 86 = .ok (.aload_n 0, 1) := by decide +kernel
theorem dX11_isItem_87 : decode cX11_isItem 87 = .ok (.getfield 81, 3) := by decide +kernel
theorem dX11_isItem_90 : decode cX11_isItem 90 = .ok (.ldc2_w 124, 3) := by decide +kernel
theorem dX11_isItem_93 : decode cX11_isItem 93 = .ok (.lcmp, 1) := by decide +kernel
theorem dX11_isItem_94 : decode cX11_isItem 94 = .ok (.ifCond .ne 14, 3) := by decide +kernel
theorem dX11_isItem_97 : decode cX11_isItem 97 = .ok (.aload_n 0, 1) := by decide +kernel
theorem dX11_isItem_98 : decode cX11_isItem 98 = .ok (.invokevirtual 126, 3) := by decide +kernel
theorem dX11_isItem_101 : decode cX11_isItem 101 = .ok (.ifCond .eq 7, 3) := by decide +kernel
theorem dX11_isItem_104 : decode cX11_isItem 104 = .ok (.iconst 1, 1) := by decide +kernel
theorem dX11_isItem_105 : decode cX11_isItem 105 = .ok (.goto 4, 3) := by decide +kernel
theorem dX11_isItem_108 : decode cX11_isItem 108 = .ok (.iconst 0, 1) := by decide +kernel
theorem dX11_isItem_109 : decode cX11_isItem 109 = .ok (.ireturn, 1) := by decide +kernel
theorem dX11_isRead_0 : decode cX11_isRead 0 = .ok (.aload_n 0, 1) := by decide +kernel
theorem dX11_isRead_1 : decode cX11_isRead 1 = .ok (.getfield 13, 3) := by decide +kernel
theorem dX11_isRead_4 : decode cX11_isRead 4 = .ok (.invokestatic 48, 3) := by decide +kernel
theorem dX11_isRead_7 : decode cX11_isRead 7 = .ok (.aload_n 0, 1) := by decide +kernel
theorem dX11_isRead_8 : decode cX11_isRead 8 = .ok (.iconst 0, 1) := by decide +kernel
theorem dX11_isRead_9 : decode cX11_isRead 9 = .ok (.putfield 75, 3) := by decide +kernel
theorem dX11_isRead_12 : decode cX11_isRead 12 = .ok (.aload_n 0, 1) := by decide +kernel
theorem dX11_isRead_13 : decode cX11_isRead 13 = .ok (.iconst 0, 1) := by decide +kernel
theorem dX11_isRead_14 : decode cX11_isRead 14 = .ok (.putfield 105, 3) := by decide +kernel
theorem dX11_isRead_17 : decode cX11_isRead 17 = .ok (.aload_n 0, 1) := by decide +kernel
theorem dX11_isRead_18 : decode cX11_isRead 18 = .ok (.invokevirtual 98, 3) := by decide +kernel
theorem dX11_isRead_21 : decode cX11_isRead 21 = .ok (.aload_n 0, 1) := by decide +kernel
theorem dX11_isRead_22 : decode cX11_isRead 22 = .ok (.getfield 87, 3) := by decide +kernel
theorem dX11_isRead_25 : decode cX11_isRead 25 = .ok (.ifCond .ne 10, 3) := by decide +kernel
theorem dX11_isRead_28 : decode cX11_isRead 28 = .ok (.aload_n 0, 1) := by decide +kernel
theorem dX11_isRead_29 : decode cX11_isRead 29 = .ok (.getfield 105, 3) := by decide +kernel
theorem dX11_isRead_32 : decode cX11_isRead 32 = .ok (.ifCond .ne 43, 3) := by decide +kernel
theorem dX11_isRead_35 : decode cX11_isRead 35 = .ok (.aload_n 0, 1) := by decide +kernel
theorem dX11_isRead_36 : decode cX11_isRead 36 = .ok (.invokevirtual 129, 3) := by decide +kernel
theorem dX11_isRead_39 : decode cX11_isRead 39 = .ok (.ifCond .ne 5, 3) := by decide +kernel
theorem dX11_isRead_42 : decode cX11_isRead 42 = .ok (.iconst 0, 1) := by decide +kernel
theorem dX11_isRead_43 : decode cX11_isRead 43 = .ok (.ireturn, 1) := by decide +kernel
theorem dX11_isRead_44 : decode cX11_isRead 44 = .ok (.aload_n 0, 1) := by decide +kernel
theorem dX11_isRead_45 : decode cX11_isRead 45 = .ok (.invokevirtual 98, 3) := by decide +kernel
theorem dX11_isRead_48 : decode cX11_isRead 48 = .ok (.aload_n 0, 1) := by decide +kernel
theorem dX11_isRead_49 : decode cX11_isRead 49 = .ok (.getfield 87, 3) := by decide +kernel
theorem dX11_isRead_52 : decode cX11_isRead 52 = .ok (.iconst 3, 1) := by decide +kernel
theorem dX11_isRead_53 : decode cX11_isRead 53 = .ok (.if_icmp .eq 5, 3) := by decide +kernel
theorem dX11_isRead_56 : decode cX11_isRead 56 = .ok (.iconst 0, 1) := by decide +kernel
theorem dX11_isRead_57 : decode cX11_isRead 57 = .ok (.ireturn, 1) := by decide +kernel
theorem dX11_isRead_58 : decode cX11_isRead 58 = .ok (.aload_n 0, 1) := by decide +kernel
theorem dX11_isRead_59 : decode cX11_isRead 59 = .ok (.dup, 1) := by decide +kernel
theorem dX11_isRead_60 : decode cX11_isRead 60 = .ok (.getfield 105, 3) := by decide +kernel
theorem dX11_isRead_63 : decode cX11_isRead 63 = .ok (.iconst 1, 1) := by decide +kernel
theorem dX11_isRead_64 : decode cX11_isRead 64 = .ok (.iadd, 1) := by decide +kernel
theorem dX11_isRead_65 : decode cX11_isRead 65 = .ok (.putfield 105, 3) := by decide +kernel
theorem dX11_isRead_68 : decode cX11_isRead 68 = .ok (.aload_n 0, 1) := by decide +kernel
theorem dX11_isRead_69 : decode cX11_isRead 69 = .ok (.invokevirtual 98, 3) := by decide +kernel
theorem dX11_isRead_72 : decode cX11_isRead 72 = .ok (.goto (-51), 3) := by decide +kernel
theorem dX11_isRead_75 : decode cX11_isRead 75 = .ok (.iconst 1, 1) := by decide +kernel
theorem dX11_isRead_76 : decode cX11_isRead 76 = .ok (.ireturn, 1) := by decide +kernel
theorem dX11_read_0 : decode cX11_read 0 = .ok (.aload_n 0, 1) := by decide +kernel
theorem dX11_read_1 : decode cX11_read 1 = .ok (.invokevirtual 132, 3) := by decide +kernel
theorem dX11_read_4 : decode cX11_read 4 = .ok (.ifCond .ne 11, 3) := by decide +kernel
theorem dX11_read_7 : decode cX11_read 7 = .ok (.bipush (-10), 2) := by decide +kernel
theorem dX11_read_9 : decode cX11_read 9 = .ok (.aload_n 0, 1) := by decide +kernel
theorem dX11_read_10 : decode cX11_read 10 = .ok (.getfield 78, 3) := by decide +kernel
theorem dX11_read_13 : decode cX11_read 13 = .ok (.isub, 1) := by decide +kernel
theorem dX11_read_14 : decode cX11_read 14 = .ok (.ireturn, 1) := by decide +kernel
theorem dX11_read_15 : decode cX11_read 15 = .ok (.aload_n 0, 1) := by decide +kernel
theorem dX11_read_16 : decode cX11_read 16 = .ok (.getfield 13, 3) := by decide +kernel
theorem dX11_read_19 : decode cX11_read 19 = .ok (.iconst 0, 1) := by decide +kernel
theorem dX11_read_20 : decode cX11_read 20 = .ok (.aload_n 0, 1) := by decide +kernel
theorem dX11_read_21 : decode cX11_read 21 = .ok (.getfield 7, 3) := by decide +kernel
theorem dX11_read_24 : decode cX11_read 24 = .ok (.iconst 0, 1) := by decide +kernel
theorem dX11_read_25 : decode cX11_read 25 = .ok (.sipush 181, 3) := by decide +kernel
theorem dX11_read_28 : decode cX11_read 28 = .ok (.invokestatic 135, 3) := by decide +kernel
theorem dX11_read_31 : decode cX11_read 31 = .ok (.aload_n 0, 1) := by decide +kernel
theorem dX11_read_32 : decode cX11_read 32 = .ok (.getfield 105, 3) := by decide +kernel
theorem dX11_read_35 : decode cX11_read 35 = .ok (.ireturn, 1) := by decide +kernel
theorem dX11_bring_0 : decode cX11_bring 0 = .ok (.iconst 0, 1) := by decide +kernel
theorem dX11_bring_1 : decode cX11_bring 1 = .ok (.istore 5, 2) := by decide +kernel
theorem dX11_bring_3 : decode cX11_bring 3 = .ok (.iload 5, 2) := by decide +kernel
theorem dX11_bring_5 : decode cX11_bring 5 = .ok (.iload 4, 2) := by decide +kernel
theorem dX11_bring_7 : decode cX11_bring 7 = .ok (.if_icmp .ge 21, 3) := by decide +kernel
theorem dX11_bring_10 : decode cX11_bring 10 = .ok (.aload_n 2, 1) := by decide +kernel
theorem dX11_bring_11 : decode cX11_bring 11 = .ok (.iload_n 3, 1) := by decide +kernel
theorem dX11_bring_12 : decode cX11_bring 12 = .ok (.iload 5, 2) := by decide +kernel
theorem dX11_bring_14 : decode cX11_bring 14 = .ok (.iadd, 1) := by decide +kernel
theorem dX11_bring_15 : decode cX11_bring 15 = .ok (.aload_n 0, 1) := by decide +kernel
theorem dX11_bring_16 : decode cX11_bring 16 = .ok (.iload_n 1, 1) := by decide +kernel
theorem dX11_bring_17 : decode cX11_bring 17 = .ok (.iload 5, 2) := by decide +kernel
theorem dX11_bring_19 : decode cX11_bring 19 = .ok (.iadd, 1) := by decide +kernel
theorem dX11_bring_20 : decode cX11_bring 20 = .ok (.iaload, 1) := by decide +kernel
theorem dX11_bring_21 : decode cX11_bring 21 = .ok (.iastore, 1) := by decide +kernel
theorem dX11_bring_22 : decode cX11_bring 22 = .ok (.iinc 5 1, 3) := by decide +kernel
theorem dX11_bring_25 : decode cX11_bring 25 = .ok (.goto (-22), 3) := by decide +kernel
theorem dX11_bring_28 : decode cX11_bring 28 = .ok (.return_, 1) := by decide +kernel
theorem dX11_keepBack_0 : decode cX11_keepBack 0 = .ok (.aload_n 0, 1) := by decide +kernel
theorem dX11_keepBack_1 : decode cX11_keepBack 1 = .ok (.getfield 7, 3) := by decide +kernel
theorem dX11_keepBack_4 : decode cX11_keepBack 4 = .ok (.bipush 100, 2) := by decide +kernel
theorem dX11_keepBack_6 : decode cX11_keepBack 6 = .ok (.iaload, 1) := by decide +kernel
theorem dX11_keepBack_7 : decode cX11_keepBack 7 = .ok (.bipush 8, 2) := by decide +kernel
theorem dX11_keepBack_9 : decode cX11_keepBack 9 = .ok (.if_icmp .ne 46, 3) := by decide +kernel
theorem dX11_keepBack_12 : decode cX11_keepBack 12 = .ok (.iconst 0, 1) := by decide +kernel
theorem dX11_keepBack_13 : decode cX11_keepBack 13 = .ok (.istore_n 1, 1) := by decide +kernel
theorem dX11_keepBack_14 : decode cX11_keepBack 14 = .ok (.iload_n 1, 1) := by decide +kernel
theorem dX11_keepBack_15 : decode cX11_keepBack 15 = .ok (.bipush 70, 2) := by decide +kernel
theorem dX11_keepBack_17 : decode cX11_keepBack 17 = .ok (.if_icmp .ge 27, 3) := by decide +kernel
theorem dX11_keepBack_20 : decode cX11_keepBack 20 = .ok (.aload_n 0, 1) := by decide +kernel
theorem dX11_keepBack_21 : decode cX11_keepBack 21 = .ok (.getfield 7, 3) := by decide +kernel
theorem dX11_keepBack_24 : decode cX11_keepBack 24 = .ok (.bipush 101, 2) := by decide +kernel
theorem dX11_keepBack_26 : decode cX11_keepBack 26 = .ok (.iload_n 1, 1) := by decide +kernel
theorem dX11_keepBack_27 : decode cX11_keepBack 27 = .ok (.iadd, 1) := by decide +kernel
theorem dX11_keepBack_28 : decode cX11_keepBack 28 = .ok (.aload_n 0, 1) := by decide +kernel
theorem dX11_keepBack_29 : decode cX11_keepBack 29 = .ok (.getfield 7, 3) := by decide +kernel
theorem dX11_keepBack_32 : decode cX11_keepBack 32 = .ok (.bipush 111, 2) := by decide +kernel
theorem dX11_keepBack_34 : decode cX11_keepBack 34 = .ok (.iload_n 1, 1) := by decide +kernel
theorem dX11_keepBack_35 : decode cX11_keepBack 35 = .ok (.iadd, 1) := by decide +kernel
theorem dX11_keepBack_36 : decode cX11_keepBack 36 = .ok (.iaload, 1) := by decide +kernel
theorem dX11_keepBack_37 : decode cX11_keepBack 37 = .ok (.iastore, 1) := by decide +kernel
theorem dX11_keepBack_38 : decode cX11_keepBack 38 = .ok (.iinc 1 1, 3) := by decide +kernel
theorem dX11_keepBack_41 : decode cX11_keepBack 41 = .ok (.goto (-27), 3) := by decide +kernel
theorem dX11_keepBack_44 : decode cX11_keepBack 44 = .ok (.aload_n 0, 1) := by decide +kernel
theorem dX11_keepBack_45 : decode cX11_keepBack 45 = .ok (.getfield 7, 3) := by decide +kernel
theorem dX11_keepBack_48 : decode cX11_keepBack 48 = .ok (.bipush 100, 2) := by decide +kernel
theorem dX11_keepBack_50 : decode cX11_keepBack 50 = .ok (.dup2, 1) := by decide +kernel
theorem dX11_keepBack_51 : decode cX11_keepBack 51 = .ok (.iaload, 1) := by decide +kernel
theorem dX11_keepBack_52 : decode cX11_keepBack 52 = .ok (.iconst 1, 1) := by decide +kernel
theorem dX11_keepBack_53 : decode cX11_keepBack 53 = .ok (.isub, 1) := by decide +kernel
theorem dX11_keepBack_54 : decode cX11_keepBack 54 = .ok (.iastore, 1) := by decide +kernel
theorem dX11_keepBack_55 : decode cX11_keepBack 55 = .ok (.aload_n 0, 1) := by decide +kernel
theorem dX11_keepBack_56 : decode cX11_keepBack 56 = .ok (.getfield 7, 3) := by decide +kernel
theorem dX11_keepBack_59 : decode cX11_keepBack 59 = .ok (.bipush 90, 2) := by decide +kernel
theorem dX11_keepBack_61 : decode cX11_keepBack 61 = .ok (.aload_n 0, 1) := by decide +kernel
theorem dX11_keepBack_62 : decode cX11_keepBack 62 = .ok (.getfield 7, 3) := by decide +kernel
theorem dX11_keepBack_65 : decode cX11_keepBack 65 = .ok (.bipush 101, 2) := by decide +kernel
theorem dX11_keepBack_67 : decode cX11_keepBack 67 = .ok (.bipush 10, 2) := by decide +kernel
theorem dX11_keepBack_69 : decode cX11_keepBack 69 = .ok (.aload_n 0, 1) := by decide +kernel
theorem dX11_keepBack_70 : decode cX11_keepBack 70 = .ok (.getfield 7, 3) := by decide +kernel
theorem dX11_keepBack_73 : decode cX11_keepBack 73 = .ok (.bipush 100, 2) := by decide +kernel
theorem dX11_keepBack_75 : decode cX11_keepBack 75 = .ok (.iaload, 1) := by decide +kernel
theorem dX11_keepBack_76 : decode cX11_keepBack 76 = .ok (.imul, 1) := by decide +kernel
theorem dX11_keepBack_77 : decode cX11_keepBack 77 = .ok (.iadd, 1) := by decide +kernel
theorem dX11_keepBack_78 : decode cX11_keepBack 78 = .ok (.bipush 10, 2) := by decide +kernel
theorem dX11_keepBack_80 : decode cX11_keepBack 80 = .ok (.invokestatic 135, 3) := by decide +kernel
theorem dX11_keepBack_83 : decode cX11_keepBack 83 = .ok (.aload_n 0, 1) := by decide +kernel
theorem dX11_keepBack_84 : decode cX11_keepBack 84 = .ok (.getfield 7, 3) := by decide +kernel
theorem dX11_keepBack_87 : decode cX11_keepBack 87 = .ok (.bipush 100, 2) := by decide +kernel
theorem dX11_keepBack_89 : decode cX11_keepBack 89 = .ok (.dup2, 1) := by decide +kernel
theorem dX11_keepBack_90 : decode cX11_keepBack 90 = .ok (.iaload, 1) := by decide +kernel
theorem dX11_keepBack_91 : decode cX11_keepBack 91 = .ok (.iconst 1, 1) := by decide +kernel
theorem dX11_keepBack_92 : decode cX11_keepBack 92 = .ok (.iadd, 1) := by decide +kernel
theorem dX11_keepBack_93 : decode cX11_keepBack 93 = .ok (.iastore, 1) := by decide +kernel
theorem dX11_keepBack_94 : decode cX11_keepBack 94 = .ok (.return_, 1) := by decide +kernel
theorem dX11_pass_0 : decode cX11_pass 0 = .ok (.aload_n 0, 1) := by decide +kernel
theorem dX11_pass_1 : decode cX11_pass 1 = .ok (.getfield 7, 3) := by decide +kernel
theorem dX11_pass_4 : decode cX11_pass 4 = .ok (.bipush 90, 2) := by decide +kernel
theorem dX11_pass_6 : decode cX11_pass 6 = .ok (.iaload, 1) := by decide +kernel
theorem dX11_pass_7 : decode cX11_pass 7 = .ok (.iload_n 1, 1) := by decide +kernel
theorem dX11_pass_8 : decode cX11_pass 8 = .ok (.iadd, 1) := by decide +kernel
theorem dX11_pass_9 : decode cX11_pass 9 = .ok (.istore_n 2, 1) := by decide +kernel
theorem dX11_pass_10 : decode cX11_pass 10 = .ok (.aload_n 0, 1) := by decide +kernel
theorem dX11_pass_11 : decode cX11_pass 11 = .ok (.getfield 7, 3) := by decide +kernel
theorem dX11_pass_14 : decode cX11_pass 14 = .ok (.bipush 90, 2) := by decide +kernel
theorem dX11_pass_16 : decode cX11_pass 16 = .ok (.iload_n 2, 1) := by decide +kernel
theorem dX11_pass_17 : decode cX11_pass 17 = .ok (.sipush 9999, 3) := by decide +kernel
theorem dX11_pass_20 : decode cX11_pass 20 = .ok (.if_icmp .le 9, 3) := by decide +kernel
theorem dX11_pass_23 : decode cX11_pass 23 = .ok (.sipush 9999, 3) := by decide +kernel
theorem dX11_pass_26 : decode cX11_pass 26 = .ok (.goto 4, 3) := by decide +kernel
theorem dX11_pass_29 : decode cX11_pass 29 = .ok (.iload_n 2, 1) := by decide +kernel
theorem dX11_pass_30 : decode cX11_pass 30 = .ok (.iastore, 1) := by decide +kernel
theorem dX11_pass_31 : decode cX11_pass 31 = .ok (.return_, 1) := by decide +kernel
theorem dX11_waits_0 : decode cX11_waits 0 = .ok (.iload_n 1, 1) := by decide +kernel
theorem dX11_waits_1 : decode cX11_waits 1 = .ok (.iconst 1, 1) := by decide +kernel
theorem dX11_waits_2 : decode cX11_waits 2 = .ok (.bipush 99, 2) := by decide +kernel
theorem dX11_waits_4 : decode cX11_waits 4 = .ok (.invokestatic 52, 3) := by decide +kernel
theorem dX11_waits_7 : decode cX11_waits 7 = .ok (.ifCond .ne 8, 3) := by decide +kernel
theorem dX11_waits_10 : decode cX11_waits 10 = .ok (.aload_n 0, 1) := by decide +kernel
theorem dX11_waits_11 : decode cX11_waits 11 = .ok (.invokevirtual 60, 3) := by decide +kernel
theorem dX11_waits_14 : decode cX11_waits 14 = .ok (.ireturn, 1) := by decide +kernel
theorem dX11_waits_15 : decode cX11_waits 15 = .ok (.aload_n 0, 1) := by decide +kernel
theorem dX11_waits_16 : decode cX11_waits 16 = .ok (.invokevirtual 139, 3) := by decide +kernel
theorem dX11_waits_19 : decode cX11_waits 19 = .ok (.aload_n 0, 1) := by decide +kernel
theorem dX11_waits_20 : decode cX11_waits 20 = .ok (.iload_n 1, 1) := by decide +kernel
theorem dX11_waits_21 : decode cX11_waits 21 = .ok (.invokevirtual 142, 3) := by decide +kernel
theorem dX11_waits_24 : decode cX11_waits 24 = .ok (.aload_n 0, 1) := by decide +kernel
theorem dX11_waits_25 : decode cX11_waits 25 = .ok (.invokevirtual 146, 3) := by decide +kernel
theorem dX11_waits_28 : decode cX11_waits 28 = .ok (.aload_n 0, 1) := by decide +kernel
theorem dX11_waits_29 : decode cX11_waits 29 = .ok (.aload_n 0, 1) := by decide +kernel
theorem dX11_waits_30 : decode cX11_waits 30 = .ok (.getfield 7, 3) := by decide +kernel
theorem dX11_waits_33 : decode cX11_waits 33 = .ok (.bipush 91, 2) := by decide +kernel
theorem dX11_waits_35 : decode cX11_waits 35 = .ok (.iaload, 1) := by decide +kernel
theorem dX11_waits_36 : decode cX11_waits 36 = .ok (.aload_n 0, 1) := by decide +kernel
theorem dX11_waits_37 : decode cX11_waits 37 = .ok (.getfield 7, 3) := by decide +kernel
theorem dX11_waits_40 : decode cX11_waits 40 = .ok (.bipush 90, 2) := by decide +kernel
theorem dX11_waits_42 : decode cX11_waits 42 = .ok (.iaload, 1) := by decide +kernel
theorem dX11_waits_43 : decode cX11_waits 43 = .ok (.aload_n 0, 1) := by decide +kernel
theorem dX11_waits_44 : decode cX11_waits 44 = .ok (.getfield 7, 3) := by decide +kernel
theorem dX11_waits_47 : decode cX11_waits 47 = .ok (.bipush 92, 2) := by decide +kernel
theorem dX11_waits_49 : decode cX11_waits 49 = .ok (.iaload, 1) := by decide +kernel
theorem dX11_waits_50 : decode cX11_waits 50 = .ok (.invokevirtual 149, 3) := by decide +kernel
theorem dX11_waits_53 : decode cX11_waits 53 = .ok (.ireturn, 1) := by decide +kernel
theorem dX11_walk_0 : decode cX11_walk 0 = .ok (.iload_n 1, 1) := by decide +kernel
theorem dX11_walk_1 : decode cX11_walk 1 = .ok (.invokestatic 56, 3) := by decide +kernel
theorem dX11_walk_4 : decode cX11_walk 4 = .ok (.ifCond .ne 8, 3) := by decide +kernel
theorem dX11_walk_7 : decode cX11_walk 7 = .ok (.aload_n 0, 1) := by decide +kernel
theorem dX11_walk_8 : decode cX11_walk 8 = .ok (.invokevirtual 60, 3) := by decide +kernel
theorem dX11_walk_11 : decode cX11_walk 11 = .ok (.ireturn, 1) := by decide +kernel
theorem dX11_walk_12 : decode cX11_walk 12 = .ok (.aload_n 0, 1) := by decide +kernel
theorem dX11_walk_13 : decode cX11_walk 13 = .ok (.invokevirtual 146, 3) := by decide +kernel
theorem dX11_walk_16 : decode cX11_walk 16 = .ok (.aload_n 0, 1) := by decide +kernel
theorem dX11_walk_17 : decode cX11_walk 17 = .ok (.aload_n 0, 1) := by decide +kernel
theorem dX11_walk_18 : decode cX11_walk 18 = .ok (.getfield 7, 3) := by decide +kernel
theorem dX11_walk_21 : decode cX11_walk 21 = .ok (.bipush 91, 2) := by decide +kernel
theorem dX11_walk_23 : decode cX11_walk 23 = .ok (.iaload, 1) := by decide +kernel
theorem dX11_walk_24 : decode cX11_walk 24 = .ok (.iload_n 1, 1) := by decide +kernel
theorem dX11_walk_25 : decode cX11_walk 25 = .ok (.invokevirtual 153, 3) := by decide +kernel
theorem dX11_walk_28 : decode cX11_walk 28 = .ok (.istore_n 2, 1) := by decide +kernel
theorem dX11_walk_29 : decode cX11_walk 29 = .ok (.iload_n 2, 1) := by decide +kernel
theorem dX11_walk_30 : decode cX11_walk 30 = .ok (.iconst (-1), 1) := by decide +kernel
theorem dX11_walk_31 : decode cX11_walk 31 = .ok (.if_icmp .ne 8, 3) := by decide +kernel
theorem dX11_walk_34 : decode cX11_walk 34 = .ok (.aload_n 0, 1) := by decide +kernel
theorem dX11_walk_35 : decode cX11_walk 35 = .ok (.invokevirtual 157, 3) := by decide +kernel
theorem dX11_walk_38 : decode cX11_walk 38 = .ok (.ireturn, 1) := by decide +kernel
theorem dX11_walk_39 : decode cX11_walk 39 = .ok (.aload_n 0, 1) := by decide +kernel
theorem dX11_walk_40 : decode cX11_walk 40 = .ok (.invokevirtual 139, 3) := by decide +kernel
theorem dX11_walk_43 : decode cX11_walk 43 = .ok (.aload_n 0, 1) := by decide +kernel
theorem dX11_walk_44 : decode cX11_walk 44 = .ok (.getfield 7, 3) := by decide +kernel
theorem dX11_walk_47 : decode cX11_walk 47 = .ok (.bipush 91, 2) := by decide +kernel
theorem dX11_walk_49 : decode cX11_walk 49 = .ok (.iload_n 1, 1) := by decide +kernel
theorem dX11_walk_50 : decode cX11_walk 50 = .ok (.iastore, 1) := by decide +kernel
theorem dX11_walk_51 : decode cX11_walk 51 = .ok (.aload_n 0, 1) := by decide +kernel
theorem dX11_walk_52 : decode cX11_walk 52 = .ok (.iload_n 2, 1) := by decide +kernel
theorem dX11_walk_53 : decode cX11_walk 53 = .ok (.invokevirtual 142, 3) := by decide +kernel
theorem dX11_walk_56 : decode cX11_walk 56 = .ok (.iload_n 2, 1) := by decide +kernel
theorem dX11_walk_57 : decode cX11_walk 57 = .ok (.ireturn, 1) := by decide +kernel
theorem dX11_take_0 : decode cX11_take 0 = .ok (.aload_n 0, 1) := by decide +kernel
theorem dX11_take_1 : decode cX11_take 1 = .ok (.iload_n 1, 1) := by decide +kernel
theorem dX11_take_2 : decode cX11_take 2 = .ok (.invokevirtual 160, 3) := by decide +kernel
theorem dX11_take_5 : decode cX11_take 5 = .ok (.ifCond .eq 12, 3) := by decide +kernel
theorem dX11_take_8 : decode cX11_take 8 = .ok (.iload_n 2, 1) := by decide +kernel
theorem dX11_take_9 : decode cX11_take 9 = .ok (.iconst 0, 1) := by decide +kernel
theorem dX11_take_10 : decode cX11_take 10 = .ok (.iconst 1, 1) := by decide +kernel
theorem dX11_take_11 : decode cX11_take 11 = .ok (.invokestatic 52, 3) := by decide +kernel
theorem dX11_take_14 : decode cX11_take 14 = .ok (.ifCond .ne 8, 3) := by decide +kernel
theorem dX11_take_17 : decode cX11_take 17 = .ok (.aload_n 0, 1) := by decide +kernel
theorem dX11_take_18 : decode cX11_take 18 = .ok (.invokevirtual 60, 3) := by decide +kernel
theorem dX11_take_21 : decode cX11_take 21 = .ok (.ireturn, 1) := by decide +kernel
theorem dX11_take_22 : decode cX11_take 22 = .ok (.aload_n 0, 1) := by decide +kernel
theorem dX11_take_23 : decode cX11_take 23 = .ok (.getfield 7, 3) := by decide +kernel
theorem dX11_take_26 : decode cX11_take 26 = .ok (.bipush 71, 2) := by decide +kernel
theorem dX11_take_28 : decode cX11_take 28 = .ok (.iload_n 1, 1) := by decide +kernel
theorem dX11_take_29 : decode cX11_take 29 = .ok (.iadd, 1) := by decide +kernel
theorem dX11_take_30 : decode cX11_take 30 = .ok (.iaload, 1) := by decide +kernel
theorem dX11_take_31 : decode cX11_take 31 = .ok (.aload_n 0, 1) := by decide +kernel
theorem dX11_take_32 : decode cX11_take 32 = .ok (.getfield 7, 3) := by decide +kernel
theorem dX11_take_35 : decode cX11_take 35 = .ok (.bipush 91, 2) := by decide +kernel
theorem dX11_take_37 : decode cX11_take 37 = .ok (.iaload, 1) := by decide +kernel
theorem dX11_take_38 : decode cX11_take 38 = .ok (.if_icmp .eq 8, 3) := by decide +kernel
theorem dX11_take_41 : decode cX11_take 41 = .ok (.aload_n 0, 1) := by decide +kernel
theorem dX11_take_42 : decode cX11_take 42 = .ok (.invokevirtual 157, 3) := by decide +kernel
theorem dX11_take_45 : decode cX11_take 45 = .ok (.ireturn, 1) := by decide +kernel
theorem dX11_take_46 : decode cX11_take 46 = .ok (.aload_n 0, 1) := by decide +kernel
theorem dX11_take_47 : decode cX11_take 47 = .ok (.invokevirtual 139, 3) := by decide +kernel
theorem dX11_take_50 : decode cX11_take 50 = .ok (.aload_n 0, 1) := by decide +kernel
theorem dX11_take_51 : decode cX11_take 51 = .ok (.getfield 7, 3) := by decide +kernel
theorem dX11_take_54 : decode cX11_take 54 = .ok (.bipush 93, 2) := by decide +kernel
theorem dX11_take_56 : decode cX11_take 56 = .ok (.aload_n 0, 1) := by decide +kernel
theorem dX11_take_57 : decode cX11_take 57 = .ok (.getfield 7, 3) := by decide +kernel
theorem dX11_take_60 : decode cX11_take 60 = .ok (.bipush 93, 2) := by decide +kernel
theorem dX11_take_62 : decode cX11_take 62 = .ok (.iaload, 1) := by decide +kernel
theorem dX11_take_63 : decode cX11_take 63 = .ok (.iconst 1, 1) := by decide +kernel
theorem dX11_take_64 : decode cX11_take 64 = .ok (.iload_n 1, 1) := by decide +kernel
theorem dX11_take_65 : decode cX11_take 65 = .ok (.ishl, 1) := by decide +kernel
theorem dX11_take_66 : decode cX11_take 66 = .ok (.iconst (-1), 1) := by decide +kernel
theorem dX11_take_67 : decode cX11_take 67 = .ok (.ixor, 1) := by decide +kernel
theorem dX11_take_68 : decode cX11_take 68 = .ok (.iand, 1) := by decide +kernel
theorem dX11_take_69 : decode cX11_take 69 = .ok (.iload_n 2, 1) := by decide +kernel
theorem dX11_take_70 : decode cX11_take 70 = .ok (.iload_n 1, 1) := by decide +kernel
theorem dX11_take_71 : decode cX11_take 71 = .ok (.ishl, 1) := by decide +kernel
theorem dX11_take_72 : decode cX11_take 72 = .ok (.ior, 1) := by decide +kernel
theorem dX11_take_73 : decode cX11_take 73 = .ok (.iastore, 1) := by decide +kernel
theorem dX11_take_74 : decode cX11_take 74 = .ok (.iconst 1, 1) := by decide +kernel
theorem dX11_take_75 : decode cX11_take 75 = .ok (.ireturn, 1) := by decide +kernel
theorem dX11_battery_0 : decode cX11_battery 0 = .ok (.aload_n 0, 1) := by decide +kernel
theorem dX11_battery_1 : decode cX11_battery 1 = .ok (.iload_n 1, 1) := by decide +kernel
theorem dX11_battery_2 : decode cX11_battery 2 = .ok (.invokevirtual 160, 3) := by decide +kernel
theorem dX11_battery_5 : decode cX11_battery 5 = .ok (.ifCond .eq 13, 3) := by decide +kernel
theorem dX11_battery_8 : decode cX11_battery 8 = .ok (.iload_n 2, 1) := by decide +kernel
theorem dX11_battery_9 : decode cX11_battery 9 = .ok (.iconst 0, 1) := by decide +kernel
theorem dX11_battery_10 : decode cX11_battery 10 = .ok (.bipush 99, 2) := by decide +kernel
theorem dX11_battery_12 : decode cX11_battery 12 = .ok (.invokestatic 52, 3) := by decide +kernel
theorem dX11_battery_15 : decode cX11_battery 15 = .ok (.ifCond .ne 8, 3) := by decide +kernel
theorem dX11_battery_18 : decode cX11_battery 18 = .ok (.aload_n 0, 1) := by decide +kernel
theorem dX11_battery_19 : decode cX11_battery 19 = .ok (.invokevirtual 60, 3) := by decide +kernel
theorem dX11_battery_22 : decode cX11_battery 22 = .ok (.ireturn, 1) := by decide +kernel
theorem dX11_battery_23 : decode cX11_battery 23 = .ok (.aload_n 0, 1) := by decide +kernel
theorem dX11_battery_24 : decode cX11_battery 24 = .ok (.invokevirtual 139, 3) := by decide +kernel
theorem dX11_battery_27 : decode cX11_battery 27 = .ok (.aload_n 0, 1) := by decide +kernel
theorem dX11_battery_28 : decode cX11_battery 28 = .ok (.getfield 7, 3) := by decide +kernel
theorem dX11_battery_31 : decode cX11_battery 31 = .ok (.bipush 94, 2) := by decide +kernel
theorem dX11_battery_33 : decode cX11_battery 33 = .ok (.iload_n 1, 1) := by decide +kernel
theorem dX11_battery_34 : decode cX11_battery 34 = .ok (.iadd, 1) := by decide +kernel
theorem dX11_battery_35 : decode cX11_battery 35 = .ok (.iaload, 1) := by decide +kernel
theorem dX11_battery_36 : decode cX11_battery 36 = .ok (.istore_n 3, 1) := by decide +kernel
theorem dX11_battery_37 : decode cX11_battery 37 = .ok (.aload_n 0, 1) := by decide +kernel
theorem dX11_battery_38 : decode cX11_battery 38 = .ok (.getfield 7, 3) := by decide +kernel
theorem dX11_battery_41 : decode cX11_battery 41 = .ok (.bipush 94, 2) := by decide +kernel
theorem dX11_battery_43 : decode cX11_battery 43 = .ok (.iload_n 1, 1) := by decide +kernel
theorem dX11_battery_44 : decode cX11_battery 44 = .ok (.iadd, 1) := by decide +kernel
theorem dX11_battery_45 : decode cX11_battery 45 = .ok (.iload_n 2, 1) := by decide +kernel
theorem dX11_battery_46 : decode cX11_battery 46 = .ok (.iastore, 1) := by decide +kernel
theorem dX11_battery_47 : decode cX11_battery 47 = .ok (.iload_n 3, 1) := by decide +kernel
theorem dX11_battery_48 : decode cX11_battery 48 = .ok (.ireturn, 1) := by decide +kernel
theorem dX11_cold_0 : decode cX11_cold 0 = .ok (.iload_n 1, 1) := by decide +kernel
theorem dX11_cold_1 : decode cX11_cold 1 = .ok (.iconst 0, 1) := by decide +kernel
theorem dX11_cold_2 : decode cX11_cold 2 = .ok (.bipush 9, 2) := by decide +kernel
theorem dX11_cold_4 : decode cX11_cold 4 = .ok (.invokestatic 52, 3) := by decide +kernel
theorem dX11_cold_7 : decode cX11_cold 7 = .ok (.ifCond .ne 8, 3) := by decide +kernel
theorem dX11_cold_10 : decode cX11_cold 10 = .ok (.aload_n 0, 1) := by decide +kernel
theorem dX11_cold_11 : decode cX11_cold 11 = .ok (.invokevirtual 60, 3) := by decide +kernel
theorem dX11_cold_14 : decode cX11_cold 14 = .ok (.ireturn, 1) := by decide +kernel
theorem dX11_cold_15 : decode cX11_cold 15 = .ok (.aload_n 0, 1) := by decide +kernel
theorem dX11_cold_16 : decode cX11_cold 16 = .ok (.invokevirtual 139, 3) := by decide +kernel
theorem dX11_cold_19 : decode cX11_cold 19 = .ok (.aload_n 0, 1) := by decide +kernel
theorem dX11_cold_20 : decode cX11_cold 20 = .ok (.getfield 7, 3) := by decide +kernel
theorem dX11_cold_23 : decode cX11_cold 23 = .ok (.bipush 92, 2) := by decide +kernel
theorem dX11_cold_25 : decode cX11_cold 25 = .ok (.iaload, 1) := by decide +kernel
theorem dX11_cold_26 : decode cX11_cold 26 = .ok (.istore_n 2, 1) := by decide +kernel
theorem dX11_cold_27 : decode cX11_cold 27 = .ok (.aload_n 0, 1) := by decide +kernel
theorem dX11_cold_28 : decode cX11_cold 28 = .ok (.getfield 7, 3) := by decide +kernel
theorem dX11_cold_31 : decode cX11_cold 31 = .ok (.bipush 92, 2) := by decide +kernel
theorem dX11_cold_33 : decode cX11_cold 33 = .ok (.iload_n 1, 1) := by decide +kernel
theorem dX11_cold_34 : decode cX11_cold 34 = .ok (.iastore, 1) := by decide +kernel
theorem dX11_cold_35 : decode cX11_cold 35 = .ok (.iload_n 2, 1) := by decide +kernel
theorem dX11_cold_36 : decode cX11_cold 36 = .ok (.ireturn, 1) := by decide +kernel
theorem dX11_undo_0 : decode cX11_undo 0 = .ok (.aload_n 0, 1) := by decide +kernel
theorem dX11_undo_1 : decode cX11_undo 1 = .ok (.getfield 7, 3) := by decide +kernel
theorem dX11_undo_4 : decode cX11_undo 4 = .ok (.bipush 100, 2) := by decide +kernel
theorem dX11_undo_6 : decode cX11_undo 6 = .ok (.iaload, 1) := by decide +kernel
theorem dX11_undo_7 : decode cX11_undo 7 = .ok (.ifCond .ne 8, 3) := by decide +kernel
theorem dX11_undo_10 : decode cX11_undo 10 = .ok (.aload_n 0, 1) := by decide +kernel
theorem dX11_undo_11 : decode cX11_undo 11 = .ok (.invokevirtual 157, 3) := by decide +kernel
theorem dX11_undo_14 : decode cX11_undo 14 = .ok (.ireturn, 1) := by decide +kernel
theorem dX11_undo_15 : decode cX11_undo 15 = .ok (.aload_n 0, 1) := by decide +kernel
theorem dX11_undo_16 : decode cX11_undo 16 = .ok (.getfield 7, 3) := by decide +kernel
theorem dX11_undo_19 : decode cX11_undo 19 = .ok (.bipush 100, 2) := by decide +kernel
theorem dX11_undo_21 : decode cX11_undo 21 = .ok (.dup2, 1) := by decide +kernel
theorem dX11_undo_22 : decode cX11_undo 22 = .ok (.iaload, 1) := by decide +kernel
theorem dX11_undo_23 : decode cX11_undo 23 = .ok (.iconst 1, 1) := by decide +kernel
theorem dX11_undo_24 : decode cX11_undo 24 = .ok (.isub, 1) := by decide +kernel
theorem dX11_undo_25 : decode cX11_undo 25 = .ok (.iastore, 1) := by decide +kernel
theorem dX11_undo_26 : decode cX11_undo 26 = .ok (.aload_n 0, 1) := by decide +kernel
theorem dX11_undo_27 : decode cX11_undo 27 = .ok (.getfield 7, 3) := by decide +kernel
theorem dX11_undo_30 : decode cX11_undo 30 = .ok (.bipush 101, 2) := by decide +kernel
theorem dX11_undo_32 : decode cX11_undo 32 = .ok (.bipush 10, 2) := by decide +kernel
theorem dX11_undo_34 : decode cX11_undo 34 = .ok (.aload_n 0, 1) := by decide +kernel
theorem dX11_undo_35 : decode cX11_undo 35 = .ok (.getfield 7, 3) := by decide +kernel
theorem dX11_undo_38 : decode cX11_undo 38 = .ok (.bipush 100, 2) := by decide +kernel
theorem dX11_undo_40 : decode cX11_undo 40 = .ok (.iaload, 1) := by decide +kernel
theorem dX11_undo_41 : decode cX11_undo 41 = .ok (.imul, 1) := by decide +kernel
theorem dX11_undo_42 : decode cX11_undo 42 = .ok (.iadd, 1) := by decide +kernel
theorem dX11_undo_43 : decode cX11_undo 43 = .ok (.aload_n 0, 1) := by decide +kernel
theorem dX11_undo_44 : decode cX11_undo 44 = .ok (.getfield 7, 3) := by decide +kernel
theorem dX11_undo_47 : decode cX11_undo 47 = .ok (.bipush 90, 2) := by decide +kernel
theorem dX11_undo_49 : decode cX11_undo 49 = .ok (.bipush 10, 2) := by decide +kernel
theorem dX11_undo_51 : decode cX11_undo 51 = .ok (.invokestatic 135, 3) := by decide +kernel
theorem dX11_undo_54 : decode cX11_undo 54 = .ok (.aload_n 0, 1) := by decide +kernel
theorem dX11_undo_55 : decode cX11_undo 55 = .ok (.getfield 7, 3) := by decide +kernel
theorem dX11_undo_58 : decode cX11_undo 58 = .ok (.bipush 90, 2) := by decide +kernel
theorem dX11_undo_60 : decode cX11_undo 60 = .ok (.iaload, 1) := by decide +kernel
theorem dX11_undo_61 : decode cX11_undo 61 = .ok (.ireturn, 1) := by decide +kernel
theorem dX11_loudOf_0 : decode cX11_loudOf 0 = .ok (.iload_n 0, 1) := by decide +kernel
theorem dX11_loudOf_1 : decode cX11_loudOf 1 = .ok (.iconst 2, 1) := by decide +kernel
theorem dX11_loudOf_2 : decode cX11_loudOf 2 = .ok (.if_icmp .ne 8, 3) := by decide +kernel
theorem dX11_loudOf_5 : decode cX11_loudOf 5 = .ok (.bipush 40, 2) := by decide +kernel
theorem dX11_loudOf_7 : decode cX11_loudOf 7 = .ok (.goto 25, 3) := by decide +kernel
theorem dX11_loudOf_10 : decode cX11_loudOf 10 = .ok (.iload_n 0, 1) := by decide +kernel
theorem dX11_loudOf_11 : decode cX11_loudOf 11 = .ok (.iconst 3, 1) := by decide +kernel
theorem dX11_loudOf_12 : decode cX11_loudOf 12 = .ok (.if_icmp .ne 8, 3) := by decide +kernel
theorem dX11_loudOf_15 : decode cX11_loudOf 15 = .ok (.bipush 8, 2) := by decide +kernel
theorem dX11_loudOf_17 : decode cX11_loudOf 17 = .ok (.goto 15, 3) := by decide +kernel
theorem dX11_loudOf_20 : decode cX11_loudOf 20 = .ok (.iload_n 0, 1) := by decide +kernel
theorem dX11_loudOf_21 : decode cX11_loudOf 21 = .ok (.iconst 4, 1) := by decide +kernel
theorem dX11_loudOf_22 : decode cX11_loudOf 22 = .ok (.if_icmp .ne 8, 3) := by decide +kernel
theorem dX11_loudOf_25 : decode cX11_loudOf 25 = .ok (.bipush 9, 2) := by decide +kernel
theorem dX11_loudOf_27 : decode cX11_loudOf 27 = .ok (.goto 5, 3) := by decide +kernel
theorem dX11_loudOf_30 : decode cX11_loudOf 30 = .ok (.bipush 20, 2) := by decide +kernel
theorem dX11_loudOf_32 : decode cX11_loudOf 32 = .ok (.ireturn, 1) := by decide +kernel
theorem dX11_of_0 : decode cX11_of 0 = .ok (.aload_n 0, 1) := by decide +kernel
theorem dX11_of_1 : decode cX11_of 1 = .ok (.iload_n 1, 1) := by decide +kernel
theorem dX11_of_2 : decode cX11_of 2 = .ok (.invokevirtual 160, 3) := by decide +kernel
theorem dX11_of_5 : decode cX11_of 5 = .ok (.ifCond .ne 8, 3) := by decide +kernel
theorem dX11_of_8 : decode cX11_of 8 = .ok (.aload_n 0, 1) := by decide +kernel
theorem dX11_of_9 : decode cX11_of 9 = .ok (.invokevirtual 60, 3) := by decide +kernel
theorem dX11_of_12 : decode cX11_of 12 = .ok (.ireturn, 1) := by decide +kernel
theorem dX11_of_13 : decode cX11_of 13 = .ok (.iload_n 2, 1) := by decide +kernel
theorem dX11_of_14 : decode cX11_of 14 = .ok (.tableswitch 89 0 4 #[34, 44, 54, 64, 76], 34) := by decide +kernel
theorem dX11_of_48 : decode cX11_of 48 = .ok (.aload_n 0, 1) := by decide +kernel
theorem dX11_of_49 : decode cX11_of 49 = .ok (.getfield 7, 3) := by decide +kernel
theorem dX11_of_52 : decode cX11_of 52 = .ok (.bipush 65, 2) := by decide +kernel
theorem dX11_of_54 : decode cX11_of 54 = .ok (.iload_n 1, 1) := by decide +kernel
theorem dX11_of_55 : decode cX11_of 55 = .ok (.iadd, 1) := by decide +kernel
theorem dX11_of_56 : decode cX11_of 56 = .ok (.iaload, 1) := by decide +kernel
theorem dX11_of_57 : decode cX11_of 57 = .ok (.ireturn, 1) := by decide +kernel
theorem dX11_of_58 : decode cX11_of 58 = .ok (.aload_n 0, 1) := by decide +kernel
theorem dX11_of_59 : decode cX11_of 59 = .ok (.getfield 7, 3) := by decide +kernel
theorem dX11_of_62 : decode cX11_of 62 = .ok (.bipush 71, 2) := by decide +kernel
theorem dX11_of_64 : decode cX11_of 64 = .ok (.iload_n 1, 1) := by decide +kernel
theorem dX11_of_65 : decode cX11_of 65 = .ok (.iadd, 1) := by decide +kernel
theorem dX11_of_66 : decode cX11_of 66 = .ok (.iaload, 1) := by decide +kernel
theorem dX11_of_67 : decode cX11_of 67 = .ok (.ireturn, 1) := by decide +kernel
theorem dX11_of_68 : decode cX11_of 68 = .ok (.aload_n 0, 1) := by decide +kernel
theorem dX11_of_69 : decode cX11_of 69 = .ok (.getfield 7, 3) := by decide +kernel
theorem dX11_of_72 : decode cX11_of 72 = .ok (.bipush 94, 2) := by decide +kernel
theorem dX11_of_74 : decode cX11_of 74 = .ok (.iload_n 1, 1) := by decide +kernel
theorem dX11_of_75 : decode cX11_of 75 = .ok (.iadd, 1) := by decide +kernel
theorem dX11_of_76 : decode cX11_of 76 = .ok (.iaload, 1) := by decide +kernel
theorem dX11_of_77 : decode cX11_of 77 = .ok (.ireturn, 1) := by decide +kernel
theorem dX11_of_78 : decode cX11_of 78 = .ok (.aload_n 0, 1) := by decide +kernel
theorem dX11_of_79 : decode cX11_of 79 = .ok (.getfield 7, 3) := by decide +kernel
theorem dX11_of_82 : decode cX11_of 82 = .ok (.bipush 93, 2) := by decide +kernel
theorem dX11_of_84 : decode cX11_of 84 = .ok (.iaload, 1) := by decide +kernel
theorem dX11_of_85 : decode cX11_of 85 = .ok (.iload_n 1, 1) := by decide +kernel
theorem dX11_of_86 : decode cX11_of 86 = .ok (.ishr, 1) := by decide +kernel
theorem dX11_of_87 : decode cX11_of 87 = .ok (.iconst 1, 1) := by decide +kernel
theorem dX11_of_88 : decode cX11_of 88 = .ok (.iand, 1) := by decide +kernel
theorem dX11_of_89 : decode cX11_of 89 = .ok (.ireturn, 1) := by decide +kernel
theorem dX11_of_90 : decode cX11_of 90 = .ok (.aload_n 0, 1) := by decide +kernel
theorem dX11_of_91 : decode cX11_of 91 = .ok (.getfield 7, 3) := by decide +kernel
theorem dX11_of_94 : decode cX11_of 94 = .ok (.bipush 65, 2) := by decide +kernel
theorem dX11_of_96 : decode cX11_of 96 = .ok (.iload_n 1, 1) := by decide +kernel
theorem dX11_of_97 : decode cX11_of 97 = .ok (.iadd, 1) := by decide +kernel
theorem dX11_of_98 : decode cX11_of 98 = .ok (.iaload, 1) := by decide +kernel
theorem dX11_of_99 : decode cX11_of 99 = .ok (.invokestatic 163, 3) := by decide +kernel
theorem dX11_of_102 : decode cX11_of 102 = .ok (.ireturn, 1) := by decide +kernel
theorem dX11_of_103 : decode cX11_of 103 = .ok (.aload_n 0, 1) := by decide +kernel
theorem dX11_of_104 : decode cX11_of 104 = .ok (.invokevirtual 60, 3) := by decide +kernel
theorem dX11_of_107 : decode cX11_of 107 = .ok (.ireturn, 1) := by decide +kernel
theorem dX11_farOf_0 : decode cX11_farOf 0 = .ok (.aload_n 0, 1) := by decide +kernel
theorem dX11_farOf_1 : decode cX11_farOf 1 = .ok (.getfield 33, 3) := by decide +kernel
theorem dX11_farOf_4 : decode cX11_farOf 4 = .ok (.bipush 8, 2) := by decide +kernel
theorem dX11_farOf_6 : decode cX11_farOf 6 = .ok (.iload_n 1, 1) := by decide +kernel
theorem dX11_farOf_7 : decode cX11_farOf 7 = .ok (.imul, 1) := by decide +kernel
theorem dX11_farOf_8 : decode cX11_farOf 8 = .ok (.iload_n 2, 1) := by decide +kernel
theorem dX11_farOf_9 : decode cX11_farOf 9 = .ok (.iadd, 1) := by decide +kernel
theorem dX11_farOf_10 : decode cX11_farOf 10 = .ok (.iaload, 1) := by decide +kernel
theorem dX11_farOf_11 : decode cX11_farOf 11 = .ok (.ireturn, 1) := by decide +kernel
theorem dX11_layFar_0 : decode cX11_layFar 0 = .ok (.iconst 0, 1) := by decide +kernel
theorem dX11_layFar_1 : decode cX11_layFar 1 = .ok (.istore_n 1, 1) := by decide +kernel
theorem dX11_layFar_2 : decode cX11_layFar 2 = .ok (.iload_n 1, 1) := by decide +kernel
theorem dX11_layFar_3 : decode cX11_layFar 3 = .ok (.bipush 8, 2) := by decide +kernel
theorem dX11_layFar_5 : decode cX11_layFar 5 = .ok (.if_icmp .ge 64, 3) := by decide +kernel
theorem dX11_layFar_8 : decode cX11_layFar 8 = .ok (.iconst 0, 1) := by decide +kernel
theorem dX11_layFar_9 : decode cX11_layFar 9 = .ok (.istore_n 2, 1) := by decide +kernel
theorem dX11_layFar_10 : decode cX11_layFar 10 = .ok (.iload_n 2, 1) := by decide +kernel
theorem dX11_layFar_11 : decode cX11_layFar 11 = .ok (.bipush 8, 2) := by decide +kernel
theorem dX11_layFar_13 : decode cX11_layFar 13 = .ok (.if_icmp .ge 50, 3) := by decide +kernel
theorem dX11_layFar_16 : decode cX11_layFar 16 = .ok (.aload_n 0, 1) := by decide +kernel
theorem dX11_layFar_17 : decode cX11_layFar 17 = .ok (.getfield 7, 3) := by decide +kernel
theorem dX11_layFar_20 : decode cX11_layFar 20 = .ok (.bipush 8, 2) := by decide +kernel
theorem dX11_layFar_22 : decode cX11_layFar 22 = .ok (.iload_n 1, 1) := by decide +kernel
theorem dX11_layFar_23 : decode cX11_layFar 23 = .ok (.imul, 1) := by decide +kernel
theorem dX11_layFar_24 : decode cX11_layFar 24 = .ok (.iload_n 2, 1) := by decide +kernel
theorem dX11_layFar_25 : decode cX11_layFar 25 = .ok (.iadd, 1) := by decide +kernel
theorem dX11_layFar_26 : decode cX11_layFar 26 = .ok (.iaload, 1) := by decide +kernel
theorem dX11_layFar_27 : decode cX11_layFar 27 = .ok (.istore_n 3, 1) := by decide +kernel
theorem dX11_layFar_28 : decode cX11_layFar 28 = .ok (.aload_n 0, 1) := by decide +kernel
theorem dX11_layFar_29 : decode cX11_layFar 29 = .ok (.getfield 33, 3) := by decide +kernel
theorem dX11_layFar_32 : decode cX11_layFar 32 = .ok (.bipush 8, 2) := by decide +kernel
theorem dX11_layFar_34 : decode cX11_layFar 34 = .ok (.iload_n 1, 1) := by decide +kernel
theorem dX11_layFar_35 : decode cX11_layFar 35 = .ok (.imul, 1) := by decide +kernel
theorem dX11_layFar_36 : decode cX11_layFar 36 = .ok (.iload_n 2, 1) := by decide +kernel
theorem dX11_layFar_37 : decode cX11_layFar 37 = .ok (.iadd, 1) := by decide +kernel
theorem dX11_layFar_38 : decode cX11_layFar 38 = .ok (.iload_n 1, 1) := by decide +kernel
theorem dX11_layFar_39 : decode cX11_layFar 39 = .ok (.iload_n 2, 1) := by decide +kernel
theorem dX11_layFar_40 : decode cX11_layFar 40 = .ok (.if_icmp .ne 7, 3) := by decide +kernel
theorem dX11_layFar_43 : decode cX11_layFar 43 = .ok (.iconst 0, 1) := by decide +kernel
theorem dX11_layFar_44 : decode cX11_layFar 44 = .ok (.goto 12, 3) := by decide +kernel
theorem dX11_layFar_47 : decode cX11_layFar 47 = .ok (.iload_n 3, 1) := by decide +kernel
theorem dX11_layFar_48 : decode cX11_layFar 48 = .ok (.ifCond .ne 7, 3) := by decide +kernel
theorem dX11_layFar_51 : decode cX11_layFar 51 = .ok (.iconst (-1), 1) := by decide +kernel
theorem dX11_layFar_52 : decode cX11_layFar 52 = .ok (.goto 4, 3) := by decide +kernel
theorem dX11_layFar_55 : decode cX11_layFar 55 = .ok (.iload_n 3, 1) := by decide +kernel
theorem dX11_layFar_56 : decode cX11_layFar 56 = .ok (.iastore, 1) := by decide +kernel
theorem dX11_layFar_57 : decode cX11_layFar 57 = .ok (.iinc 2 1, 3) := by decide +kernel
theorem dX11_layFar_60 : decode cX11_layFar 60 = .ok (.goto (-50), 3) := by decide +kernel
theorem dX11_layFar_63 : decode cX11_layFar 63 = .ok (.iinc 1 1, 3) := by decide +kernel
theorem dX11_layFar_66 : decode cX11_layFar 66 = .ok (.goto (-64), 3) := by decide +kernel
theorem dX11_layFar_69 : decode cX11_layFar 69 = .ok (.iconst 0, 1) := by decide +kernel
theorem dX11_layFar_70 : decode cX11_layFar 70 = .ok (.istore_n 1, 1) := by decide +kernel
theorem dX11_layFar_71 : decode cX11_layFar 71 = .ok (.iload_n 1, 1) := by decide +kernel
theorem dX11_layFar_72 : decode cX11_layFar 72 = .ok (.bipush 8, 2) := by decide +kernel
theorem dX11_layFar_74 : decode cX11_layFar 74 = .ok (.if_icmp .ge 133, 3) := by decide +kernel
theorem dX11_layFar_77 : decode cX11_layFar 77 = .ok (.iconst 0, 1) := by decide +kernel
theorem dX11_layFar_78 : decode cX11_layFar 78 = .ok (.istore_n 2, 1) := by decide +kernel
theorem dX11_layFar_79 : decode cX11_layFar 79 = .ok (.iload_n 2, 1) := by decide +kernel
theorem dX11_layFar_80 : decode cX11_layFar 80 = .ok (.bipush 8, 2) := by decide +kernel
theorem dX11_layFar_82 : decode cX11_layFar 82 = .ok (.if_icmp .ge 119, 3) := by decide +kernel
theorem dX11_layFar_85 : decode cX11_layFar 85 = .ok (.iconst 0, 1) := by decide +kernel
theorem dX11_layFar_86 : decode cX11_layFar 86 = .ok (.istore_n 3, 1) := by decide +kernel
theorem dX11_layFar_87 : decode cX11_layFar 87 = .ok (.iload_n 3, 1) := by decide +kernel
theorem dX11_layFar_88 : decode cX11_layFar 88 = .ok (.bipush 8, 2) := by decide +kernel
theorem dX11_layFar_90 : decode cX11_layFar 90 = .ok (.if_icmp .ge 105, 3) := by decide +kernel
theorem dX11_layFar_93 : decode cX11_layFar 93 = .ok (.aload_n 0, 1) := by decide +kernel
theorem dX11_layFar_94 : decode cX11_layFar 94 = .ok (.iload_n 2, 1) := by decide +kernel
theorem dX11_layFar_95 : decode cX11_layFar 95 = .ok (.iload_n 1, 1) := by decide +kernel
theorem dX11_layFar_96 : decode cX11_layFar 96 = .ok (.invokevirtual 153, 3) := by decide +kernel
theorem dX11_layFar_99 : decode cX11_layFar 99 = .ok (.ifCond .lt 12, 3) := by decide +kernel
theorem dX11_layFar_102 : decode cX11_layFar 102 = .ok (.aload_n 0, 1) := by decide +kernel
theorem dX11_layFar_103 : decode cX11_layFar 103 = .ok (.iload_n 1, 1) := by decide +kernel
theorem dX11_layFar_104 : decode cX11_layFar 104 = .ok (.iload_n 3, 1) := by decide +kernel
theorem dX11_layFar_105 : decode cX11_layFar 105 = .ok (.invokevirtual 153, 3) := by decide +kernel
theorem dX11_layFar_108 : decode cX11_layFar 108 = .ok (.ifCond .ge 7, 3) := by decide +kernel
theorem dX11_layFar_111 : decode cX11_layFar 111 = .ok (.iconst (-1), 1) := by decide +kernel
theorem dX11_layFar_112 : decode cX11_layFar 112 = .ok (.goto 16, 3) := by decide +kernel
theorem dX11_layFar_115 : decode cX11_layFar 115 = .ok (.aload_n 0, 1) := by decide +kernel
theorem dX11_layFar_116 : decode cX11_layFar 116 = .ok (.iload_n 2, 1) := by decide +kernel
theorem dX11_layFar_117 : decode cX11_layFar 117 = .ok (.iload_n 1, 1) := by decide +kernel
theorem dX11_layFar_118 : decode cX11_layFar 118 = .ok (.invokevirtual 153, 3) := by decide +kernel
theorem dX11_layFar_121 : decode cX11_layFar 121 = .ok (.aload_n 0, 1) := by decide +kernel
theorem dX11_layFar_122 : decode cX11_layFar 122 = .ok (.iload_n 1, 1) := by decide +kernel
theorem dX11_layFar_123 : decode cX11_layFar 123 = .ok (.iload_n 3, 1) := by decide +kernel
theorem dX11_layFar_124 : decode cX11_layFar 124 = .ok (.invokevirtual 153, 3) := by decide +kernel
theorem dX11_layFar_127 : decode cX11_layFar 127 = .ok (.iadd, 1) := by decide +kernel
theorem dX11_layFar_128 : decode cX11_layFar 128 = .ok (.istore 4, 2) := by decide +kernel
theorem dX11_layFar_130 : decode cX11_layFar 130 = .ok (.iload 4, 2) := by decide +kernel
theorem dX11_layFar_132 : decode cX11_layFar 132 = .ok (.ifCond .lt 27, 3) := by decide +kernel
theorem dX11_layFar_135 : decode cX11_layFar 135 = .ok (.aload_n 0, 1) := by decide +kernel
theorem dX11_layFar_136 : decode cX11_layFar 136 = .ok (.iload_n 2, 1) := by decide +kernel
theorem dX11_layFar_137 : decode cX11_layFar 137 = .ok (.iload_n 3, 1) := by decide +kernel
theorem dX11_layFar_138 : decode cX11_layFar 138 = .ok (.invokevirtual 153, 3) := by decide +kernel
theorem dX11_layFar_141 : decode cX11_layFar 141 = .ok (.ifCond .lt 14, 3) := by decide +kernel
theorem dX11_layFar_144 : decode cX11_layFar 144 = .ok (.iload 4, 2) := by decide +kernel
theorem dX11_layFar_146 : decode cX11_layFar 146 = .ok (.aload_n 0, 1) := by decide +kernel
theorem dX11_layFar_147 : decode cX11_layFar 147 = .ok (.iload_n 2, 1) := by decide +kernel
theorem dX11_layFar_148 : decode cX11_layFar 148 = .ok (.iload_n 3, 1) := by decide +kernel
theorem dX11_layFar_149 : decode cX11_layFar 149 = .ok (.invokevirtual 153, 3) := by decide +kernel
theorem dX11_layFar_152 : decode cX11_layFar 152 = .ok (.if_icmp .ge 7, 3) := by decide +kernel
theorem dX11_layFar_155 : decode cX11_layFar 155 = .ok (.iconst 1, 1) := by decide +kernel
theorem dX11_layFar_156 : decode cX11_layFar 156 = .ok (.goto 4, 3) := by decide +kernel
theorem dX11_layFar_159 : decode cX11_layFar 159 = .ok (.iconst 0, 1) := by decide +kernel
theorem dX11_layFar_160 : decode cX11_layFar 160 = .ok (.istore 5, 2) := by decide +kernel
theorem dX11_layFar_162 : decode cX11_layFar 162 = .ok (.aload_n 0, 1) := by decide +kernel
theorem dX11_layFar_163 : decode cX11_layFar 163 = .ok (.getfield 33, 3) := by decide +kernel
theorem dX11_layFar_166 : decode cX11_layFar 166 = .ok (.bipush 8, 2) := by decide +kernel
theorem dX11_layFar_168 : decode cX11_layFar 168 = .ok (.iload_n 2, 1) := by decide +kernel
theorem dX11_layFar_169 : decode cX11_layFar 169 = .ok (.imul, 1) := by decide +kernel
theorem dX11_layFar_170 : decode cX11_layFar 170 = .ok (.iload_n 3, 1) := by decide +kernel
theorem dX11_layFar_171 : decode cX11_layFar 171 = .ok (.iadd, 1) := by decide +kernel
theorem dX11_layFar_172 : decode cX11_layFar 172 = .ok (.iload 5, 2) := by decide +kernel
theorem dX11_layFar_174 : decode cX11_layFar 174 = .ok (.ifCond .eq 8, 3) := by decide +kernel
theorem dX11_layFar_177 : decode cX11_layFar 177 = .ok (.iload 4, 2) := by decide +kernel
theorem dX11_layFar_179 : decode cX11_layFar 179 = .ok (.goto 9, 3) := by decide +kernel
theorem dX11_layFar_182 : decode cX11_layFar 182 = .ok (.aload_n 0, 1) := by decide +kernel
theorem dX11_layFar_183 : decode cX11_layFar 183 = .ok (.iload_n 2, 1) := by decide +kernel
theorem dX11_layFar_184 : decode cX11_layFar 184 = .ok (.iload_n 3, 1) := by decide +kernel
theorem dX11_layFar_185 : decode cX11_layFar 185 = .ok (.invokevirtual 153, 3) := by decide +kernel
theorem dX11_layFar_188 : decode cX11_layFar 188 = .ok (.iastore, 1) := by decide +kernel
theorem dX11_layFar_189 : decode cX11_layFar 189 = .ok (.iinc 3 1, 3) := by decide +kernel
theorem dX11_layFar_192 : decode cX11_layFar 192 = .ok (.goto (-105), 3) := by decide +kernel
theorem dX11_layFar_195 : decode cX11_layFar 195 = .ok (.iinc 2 1, 3) := by decide +kernel
theorem dX11_layFar_198 : decode cX11_layFar 198 = .ok (.goto (-119), 3) := by decide +kernel
theorem dX11_layFar_201 : decode cX11_layFar 201 = .ok (.iinc 1 1, 3) := by decide +kernel
theorem dX11_layFar_204 : decode cX11_layFar 204 = .ok (.goto (-133), 3) := by decide +kernel
theorem dX11_layFar_207 : decode cX11_layFar 207 = .ok (.return_, 1) := by decide +kernel
theorem dX11_far_0 : decode cX11_far 0 = .ok (.iload_n 1, 1) := by decide +kernel
theorem dX11_far_1 : decode cX11_far 1 = .ok (.invokestatic 56, 3) := by decide +kernel
theorem dX11_far_4 : decode cX11_far 4 = .ok (.ifCond .eq 10, 3) := by decide +kernel
theorem dX11_far_7 : decode cX11_far 7 = .ok (.iload_n 2, 1) := by decide +kernel
theorem dX11_far_8 : decode cX11_far 8 = .ok (.invokestatic 56, 3) := by decide +kernel
theorem dX11_far_11 : decode cX11_far 11 = .ok (.ifCond .ne 8, 3) := by decide +kernel
theorem dX11_far_14 : decode cX11_far 14 = .ok (.aload_n 0, 1) := by decide +kernel
theorem dX11_far_15 : decode cX11_far 15 = .ok (.invokevirtual 60, 3) := by decide +kernel
theorem dX11_far_18 : decode cX11_far 18 = .ok (.ireturn, 1) := by decide +kernel
theorem dX11_far_19 : decode cX11_far 19 = .ok (.aload_n 0, 1) := by decide +kernel
theorem dX11_far_20 : decode cX11_far 20 = .ok (.invokevirtual 146, 3) := by decide +kernel
theorem dX11_far_23 : decode cX11_far 23 = .ok (.aload_n 0, 1) := by decide +kernel
theorem dX11_far_24 : decode cX11_far 24 = .ok (.iload_n 1, 1) := by decide +kernel
theorem dX11_far_25 : decode cX11_far 25 = .ok (.iload_n 2, 1) := by decide +kernel
theorem dX11_far_26 : decode cX11_far 26 = .ok (.invokevirtual 153, 3) := by decide +kernel
theorem dX11_far_29 : decode cX11_far 29 = .ok (.ireturn, 1) := by decide +kernel
theorem dX11_beepsBy_0 : decode cX11_beepsBy 0 = .ok (.iload_n 1, 1) := by decide +kernel
theorem dX11_beepsBy_1 : decode cX11_beepsBy 1 = .ok (.iload_n 3, 1) := by decide +kernel
theorem dX11_beepsBy_2 : decode cX11_beepsBy 2 = .ok (.isub, 1) := by decide +kernel
theorem dX11_beepsBy_3 : decode cX11_beepsBy 3 = .ok (.istore 4, 2) := by decide +kernel
theorem dX11_beepsBy_5 : decode cX11_beepsBy 5 = .ok (.iload_n 2, 1) := by decide +kernel
theorem dX11_beepsBy_6 : decode cX11_beepsBy 6 = .ok (.bipush 41, 2) := by decide +kernel
theorem dX11_beepsBy_8 : decode cX11_beepsBy 8 = .ok (.irem, 1) := by decide +kernel
theorem dX11_beepsBy_9 : decode cX11_beepsBy 9 = .ok (.ifCond .ne 7, 3) := by decide +kernel
theorem dX11_beepsBy_12 : decode cX11_beepsBy 12 = .ok (.iconst 1, 1) := by decide +kernel
theorem dX11_beepsBy_13 : decode cX11_beepsBy 13 = .ok (.goto 4, 3) := by decide +kernel
theorem dX11_beepsBy_16 : decode cX11_beepsBy 16 = .ok (.iconst 0, 1) := by decide +kernel
theorem dX11_beepsBy_17 : decode cX11_beepsBy 17 = .ok (.istore 5, 2) := by decide +kernel
theorem dX11_beepsBy_19 : decode cX11_beepsBy 19 = .ok (.iload_n 0, 1) := by decide +kernel
theorem dX11_beepsBy_20 : decode cX11_beepsBy 20 = .ok (.tableswitch 126 1 5 #[36, 54, 126, 88, 103], 36) := by decide +kernel
theorem dX11_beepsBy_56 : decode cX11_beepsBy 56 = .ok (.iload 5, 2) := by decide +kernel
theorem dX11_beepsBy_58 : decode cX11_beepsBy 58 = .ok (.ifCond .eq 14, 3) := by decide +kernel
theorem dX11_beepsBy_61 : decode cX11_beepsBy 61 = .ok (.iload 4, 2) := by decide +kernel
theorem dX11_beepsBy_63 : decode cX11_beepsBy 63 = .ok (.bipush 30, 2) := by decide +kernel
theorem dX11_beepsBy_65 : decode cX11_beepsBy 65 = .ok (.if_icmp .ge 7, 3) := by decide +kernel
theorem dX11_beepsBy_68 : decode cX11_beepsBy 68 = .ok (.iconst 1, 1) := by decide +kernel
theorem dX11_beepsBy_69 : decode cX11_beepsBy 69 = .ok (.goto 4, 3) := by decide +kernel
theorem dX11_beepsBy_72 : decode cX11_beepsBy 72 = .ok (.iconst 0, 1) := by decide +kernel
theorem dX11_beepsBy_73 : decode cX11_beepsBy 73 = .ok (.ireturn, 1) := by decide +kernel
theorem dX11_beepsBy_74 : decode cX11_beepsBy 74 = .ok (.iload 5, 2) := by decide +kernel
theorem dX11_beepsBy_76 : decode cX11_beepsBy 76 = .ok (.ifCond .eq 10, 3) := by decide +kernel
theorem dX11_beepsBy_79 : decode cX11_beepsBy 79 = .ok (.iload 4, 2) := by decide +kernel
theorem dX11_beepsBy_81 : decode cX11_beepsBy 81 = .ok (.bipush 20, 2) := by decide +kernel
theorem dX11_beepsBy_83 : decode cX11_beepsBy 83 = .ok (.if_icmp .lt 19, 3) := by decide +kernel
theorem dX11_beepsBy_86 : decode cX11_beepsBy 86 = .ok (.iload_n 2, 1) := by decide +kernel
theorem dX11_beepsBy_87 : decode cX11_beepsBy 87 = .ok (.bipush 41, 2) := by decide +kernel
theorem dX11_beepsBy_89 : decode cX11_beepsBy 89 = .ok (.irem, 1) := by decide +kernel
theorem dX11_beepsBy_90 : decode cX11_beepsBy 90 = .ok (.bipush 20, 2) := by decide +kernel
theorem dX11_beepsBy_92 : decode cX11_beepsBy 92 = .ok (.if_icmp .ne 14, 3) := by decide +kernel
theorem dX11_beepsBy_95 : decode cX11_beepsBy 95 = .ok (.iload 4, 2) := by decide +kernel
theorem dX11_beepsBy_97 : decode cX11_beepsBy 97 = .ok (.bipush 10, 2) := by decide +kernel
theorem dX11_beepsBy_99 : decode cX11_beepsBy 99 = .ok (.if_icmp .ge 7, 3) := by decide +kernel
theorem dX11_beepsBy_102 : decode cX11_beepsBy 102 = .ok (.iconst 1, 1) := by decide +kernel
theorem dX11_beepsBy_103 : decode cX11_beepsBy 103 = .ok (.goto 4, 3) := by decide +kernel
theorem dX11_beepsBy_106 : decode cX11_beepsBy 106 = .ok (.iconst 0, 1) := by decide +kernel
theorem dX11_beepsBy_107 : decode cX11_beepsBy 107 = .ok (.ireturn, 1) := by decide +kernel
theorem dX11_beepsBy_108 : decode cX11_beepsBy 108 = .ok (.iload_n 2, 1) := by decide +kernel
theorem dX11_beepsBy_109 : decode cX11_beepsBy 109 = .ok (.bipush 30, 2) := by decide +kernel
theorem dX11_beepsBy_111 : decode cX11_beepsBy 111 = .ok (.irem, 1) := by decide +kernel
theorem dX11_beepsBy_112 : decode cX11_beepsBy 112 = .ok (.bipush 7, 2) := by decide +kernel
theorem dX11_beepsBy_114 : decode cX11_beepsBy 114 = .ok (.if_icmp .ne 7, 3) := by decide +kernel
theorem dX11_beepsBy_117 : decode cX11_beepsBy 117 = .ok (.iconst 1, 1) := by decide +kernel
theorem dX11_beepsBy_118 : decode cX11_beepsBy 118 = .ok (.goto 4, 3) := by decide +kernel
theorem dX11_beepsBy_121 : decode cX11_beepsBy 121 = .ok (.iconst 0, 1) := by decide +kernel
theorem dX11_beepsBy_122 : decode cX11_beepsBy 122 = .ok (.ireturn, 1) := by decide +kernel
theorem dX11_beepsBy_123 : decode cX11_beepsBy 123 = .ok (.iload 5, 2) := by decide +kernel
theorem dX11_beepsBy_125 : decode cX11_beepsBy 125 = .ok (.ifCond .eq 19, 3) := by decide +kernel
theorem dX11_beepsBy_128 : decode cX11_beepsBy 128 = .ok (.iload 4, 2) := by decide +kernel
theorem dX11_beepsBy_130 : decode cX11_beepsBy 130 = .ok (.bipush 30, 2) := by decide +kernel
theorem dX11_beepsBy_132 : decode cX11_beepsBy 132 = .ok (.if_icmp .ge 12, 3) := by decide +kernel
theorem dX11_beepsBy_135 : decode cX11_beepsBy 135 = .ok (.iload_n 3, 1) := by decide +kernel
theorem dX11_beepsBy_136 : decode cX11_beepsBy 136 = .ok (.iconst 5, 1) := by decide +kernel
theorem dX11_beepsBy_137 : decode cX11_beepsBy 137 = .ok (.if_icmp .lt 7, 3) := by decide +kernel
theorem dX11_beepsBy_140 : decode cX11_beepsBy 140 = .ok (.iconst 1, 1) := by decide +kernel
theorem dX11_beepsBy_141 : decode cX11_beepsBy 141 = .ok (.goto 4, 3) := by decide +kernel
theorem dX11_beepsBy_144 : decode cX11_beepsBy 144 = .ok (.iconst 0, 1) := by decide +kernel
theorem dX11_beepsBy_145 : decode cX11_beepsBy 145 = .ok (.ireturn, 1) := by decide +kernel
theorem dX11_beepsBy_146 : decode cX11_beepsBy 146 = .ok (.iload 5, 2) := by decide +kernel
theorem dX11_beepsBy_148 : decode cX11_beepsBy 148 = .ok (.ifCond .eq 14, 3) := by decide +kernel
theorem dX11_beepsBy_151 : decode cX11_beepsBy 151 = .ok (.iload 4, 2) := by decide +kernel
theorem dX11_beepsBy_153 : decode cX11_beepsBy 153 = .ok (.bipush 20, 2) := by decide +kernel
theorem dX11_beepsBy_155 : decode cX11_beepsBy 155 = .ok (.if_icmp .ge 7, 3) := by decide +kernel
theorem dX11_beepsBy_158 : decode cX11_beepsBy 158 = .ok (.iconst 1, 1) := by decide +kernel
theorem dX11_beepsBy_159 : decode cX11_beepsBy 159 = .ok (.goto 4, 3) := by decide +kernel
theorem dX11_beepsBy_162 : decode cX11_beepsBy 162 = .ok (.iconst 0, 1) := by decide +kernel
theorem dX11_beepsBy_163 : decode cX11_beepsBy 163 = .ok (.ireturn, 1) := by decide +kernel
theorem dX11_isSilent_0 : decode cX11_isSilent 0 = .ok (.aload_n 0, 1) := by decide +kernel
theorem dX11_isSilent_1 : decode cX11_isSilent 1 = .ok (.getfield 7, 3) := by decide +kernel
theorem dX11_isSilent_4 : decode cX11_isSilent 4 = .ok (.bipush 93, 2) := by decide +kernel
theorem dX11_isSilent_6 : decode cX11_isSilent 6 = .ok (.iaload, 1) := by decide +kernel
theorem dX11_isSilent_7 : decode cX11_isSilent 7 = .ok (.iload_n 1, 1) := by decide +kernel
theorem dX11_isSilent_8 : decode cX11_isSilent 8 = .ok (.invokestatic 166, 3) := by decide +kernel
theorem dX11_isSilent_11 : decode cX11_isSilent 11 = .ok (.ifCond .eq 33, 3) := by decide +kernel
theorem dX11_isSilent_14 : decode cX11_isSilent 14 = .ok (.aload_n 0, 1) := by decide +kernel
theorem dX11_isSilent_15 : decode cX11_isSilent 15 = .ok (.getfield 7, 3) := by decide +kernel
theorem dX11_isSilent_18 : decode cX11_isSilent 18 = .ok (.bipush 65, 2) := by decide +kernel
theorem dX11_isSilent_20 : decode cX11_isSilent 20 = .ok (.iload_n 1, 1) := by decide +kernel
theorem dX11_isSilent_21 : decode cX11_isSilent 21 = .ok (.iadd, 1) := by decide +kernel
theorem dX11_isSilent_22 : decode cX11_isSilent 22 = .ok (.iaload, 1) := by decide +kernel
theorem dX11_isSilent_23 : decode cX11_isSilent 23 = .ok (.iconst 3, 1) := by decide +kernel
theorem dX11_isSilent_24 : decode cX11_isSilent 24 = .ok (.if_icmp .eq 20, 3) := by decide +kernel
theorem dX11_isSilent_27 : decode cX11_isSilent 27 = .ok (.aload_n 0, 1) := by decide +kernel
theorem dX11_isSilent_28 : decode cX11_isSilent 28 = .ok (.getfield 7, 3) := by decide +kernel
theorem dX11_isSilent_31 : decode cX11_isSilent 31 = .ok (.bipush 65, 2) := by decide +kernel
theorem dX11_isSilent_33 : decode cX11_isSilent 33 = .ok (.iload_n 1, 1) := by decide +kernel
theorem dX11_isSilent_34 : decode cX11_isSilent 34 = .ok (.iadd, 1) := by decide +kernel
theorem dX11_isSilent_35 : decode cX11_isSilent 35 = .ok (.iaload, 1) := by decide +kernel
theorem dX11_isSilent_36 : decode cX11_isSilent 36 = .ok (.iconst 4, 1) := by decide +kernel
theorem dX11_isSilent_37 : decode cX11_isSilent 37 = .ok (.if_icmp .eq 7, 3) := by decide +kernel
theorem dX11_isSilent_40 : decode cX11_isSilent 40 = .ok (.iconst 1, 1) := by decide +kernel
theorem dX11_isSilent_41 : decode cX11_isSilent 41 = .ok (.goto 4, 3) := by decide +kernel
theorem dX11_isSilent_44 : decode cX11_isSilent 44 = .ok (.iconst 0, 1) := by decide +kernel
theorem dX11_isSilent_45 : decode cX11_isSilent 45 = .ok (.ireturn, 1) := by decide +kernel
theorem dX11_beepsNow_0 : decode cX11_beepsNow 0 = .ok (.aload_n 0, 1) := by decide +kernel
theorem dX11_beepsNow_1 : decode cX11_beepsNow 1 = .ok (.iload_n 1, 1) := by decide +kernel
theorem dX11_beepsNow_2 : decode cX11_beepsNow 2 = .ok (.invokevirtual 169, 3) := by decide +kernel
theorem dX11_beepsNow_5 : decode cX11_beepsNow 5 = .ok (.ifCond .ne 33, 3) := by decide +kernel
theorem dX11_beepsNow_8 : decode cX11_beepsNow 8 = .ok (.aload_n 0, 1) := by decide +kernel
theorem dX11_beepsNow_9 : decode cX11_beepsNow 9 = .ok (.getfield 7, 3) := by decide +kernel
theorem dX11_beepsNow_12 : decode cX11_beepsNow 12 = .ok (.bipush 65, 2) := by decide +kernel
theorem dX11_beepsNow_14 : decode cX11_beepsNow 14 = .ok (.iload_n 1, 1) := by decide +kernel
theorem dX11_beepsNow_15 : decode cX11_beepsNow 15 = .ok (.iadd, 1) := by decide +kernel
theorem dX11_beepsNow_16 : decode cX11_beepsNow 16 = .ok (.iaload, 1) := by decide +kernel
theorem dX11_beepsNow_17 : decode cX11_beepsNow 17 = .ok (.aload_n 0, 1) := by decide +kernel
theorem dX11_beepsNow_18 : decode cX11_beepsNow 18 = .ok (.getfield 7, 3) := by decide +kernel
theorem dX11_beepsNow_21 : decode cX11_beepsNow 21 = .ok (.bipush 94, 2) := by decide +kernel
theorem dX11_beepsNow_23 : decode cX11_beepsNow 23 = .ok (.iload_n 1, 1) := by decide +kernel
theorem dX11_beepsNow_24 : decode cX11_beepsNow 24 = .ok (.iadd, 1) := by decide +kernel
theorem dX11_beepsNow_25 : decode cX11_beepsNow 25 = .ok (.iaload, 1) := by decide +kernel
theorem dX11_beepsNow_26 : decode cX11_beepsNow 26 = .ok (.iload_n 2, 1) := by decide +kernel
theorem dX11_beepsNow_27 : decode cX11_beepsNow 27 = .ok (.iload_n 3, 1) := by decide +kernel
theorem dX11_beepsNow_28 : decode cX11_beepsNow 28 = .ok (.invokestatic 172, 3) := by decide +kernel
theorem dX11_beepsNow_31 : decode cX11_beepsNow 31 = .ok (.ifCond .eq 7, 3) := by decide +kernel
theorem dX11_beepsNow_34 : decode cX11_beepsNow 34 = .ok (.iconst 1, 1) := by decide +kernel
theorem dX11_beepsNow_35 : decode cX11_beepsNow 35 = .ok (.goto 4, 3) := by decide +kernel
theorem dX11_beepsNow_38 : decode cX11_beepsNow 38 = .ok (.iconst 0, 1) := by decide +kernel
theorem dX11_beepsNow_39 : decode cX11_beepsNow 39 = .ok (.ireturn, 1) := by decide +kernel
theorem dX11_beeps_0 : decode cX11_beeps 0 = .ok (.aload_n 0, 1) := by decide +kernel
theorem dX11_beeps_1 : decode cX11_beeps 1 = .ok (.iload_n 1, 1) := by decide +kernel
theorem dX11_beeps_2 : decode cX11_beeps 2 = .ok (.invokevirtual 160, 3) := by decide +kernel
theorem dX11_beeps_5 : decode cX11_beeps 5 = .ok (.ifCond .eq 14, 3) := by decide +kernel
theorem dX11_beeps_8 : decode cX11_beeps 8 = .ok (.iload_n 2, 1) := by decide +kernel
theorem dX11_beeps_9 : decode cX11_beeps 9 = .ok (.iconst 0, 1) := by decide +kernel
theorem dX11_beeps_10 : decode cX11_beeps 10 = .ok (.sipush 9999, 3) := by decide +kernel
theorem dX11_beeps_13 : decode cX11_beeps 13 = .ok (.invokestatic 52, 3) := by decide +kernel
theorem dX11_beeps_16 : decode cX11_beeps 16 = .ok (.ifCond .ne 8, 3) := by decide +kernel
theorem dX11_beeps_19 : decode cX11_beeps 19 = .ok (.aload_n 0, 1) := by decide +kernel
theorem dX11_beeps_20 : decode cX11_beeps 20 = .ok (.invokevirtual 60, 3) := by decide +kernel
theorem dX11_beeps_23 : decode cX11_beeps 23 = .ok (.ireturn, 1) := by decide +kernel
theorem dX11_beeps_24 : decode cX11_beeps 24 = .ok (.aload_n 0, 1) := by decide +kernel
theorem dX11_beeps_25 : decode cX11_beeps 25 = .ok (.iload_n 1, 1) := by decide +kernel
theorem dX11_beeps_26 : decode cX11_beeps 26 = .ok (.iload_n 2, 1) := by decide +kernel
theorem dX11_beeps_27 : decode cX11_beeps 27 = .ok (.aload_n 0, 1) := by decide +kernel
theorem dX11_beeps_28 : decode cX11_beeps 28 = .ok (.getfield 7, 3) := by decide +kernel
theorem dX11_beeps_31 : decode cX11_beeps 31 = .ok (.bipush 92, 2) := by decide +kernel
theorem dX11_beeps_33 : decode cX11_beeps 33 = .ok (.iaload, 1) := by decide +kernel
theorem dX11_beeps_34 : decode cX11_beeps 34 = .ok (.invokevirtual 176, 3) := by decide +kernel
theorem dX11_beeps_37 : decode cX11_beeps 37 = .ok (.ifCond .eq 7, 3) := by decide +kernel
theorem dX11_beeps_40 : decode cX11_beeps 40 = .ok (.iconst 1, 1) := by decide +kernel
theorem dX11_beeps_41 : decode cX11_beeps 41 = .ok (.goto 4, 3) := by decide +kernel
theorem dX11_beeps_44 : decode cX11_beeps 44 = .ok (.iconst 0, 1) := by decide +kernel
theorem dX11_beeps_45 : decode cX11_beeps 45 = .ok (.ireturn, 1) := by decide +kernel
theorem dX11_reaches_0 : decode cX11_reaches 0 = .ok (.aload_n 0, 1) := by decide +kernel
theorem dX11_reaches_1 : decode cX11_reaches 1 = .ok (.iload_n 1, 1) := by decide +kernel
theorem dX11_reaches_2 : decode cX11_reaches 2 = .ok (.aload_n 0, 1) := by decide +kernel
theorem dX11_reaches_3 : decode cX11_reaches 3 = .ok (.getfield 7, 3) := by decide +kernel
theorem dX11_reaches_6 : decode cX11_reaches 6 = .ok (.bipush 71, 2) := by decide +kernel
theorem dX11_reaches_8 : decode cX11_reaches 8 = .ok (.iload_n 2, 1) := by decide +kernel
theorem dX11_reaches_9 : decode cX11_reaches 9 = .ok (.iadd, 1) := by decide +kernel
theorem dX11_reaches_10 : decode cX11_reaches 10 = .ok (.iaload, 1) := by decide +kernel
theorem dX11_reaches_11 : decode cX11_reaches 11 = .ok (.invokevirtual 153, 3) := by decide +kernel
theorem dX11_reaches_14 : decode cX11_reaches 14 = .ok (.istore_n 3, 1) := by decide +kernel
theorem dX11_reaches_15 : decode cX11_reaches 15 = .ok (.iload_n 3, 1) := by decide +kernel
theorem dX11_reaches_16 : decode cX11_reaches 16 = .ok (.ifCond .lt 23, 3) := by decide +kernel
theorem dX11_reaches_19 : decode cX11_reaches 19 = .ok (.aload_n 0, 1) := by decide +kernel
theorem dX11_reaches_20 : decode cX11_reaches 20 = .ok (.getfield 7, 3) := by decide +kernel
theorem dX11_reaches_23 : decode cX11_reaches 23 = .ok (.bipush 65, 2) := by decide +kernel
theorem dX11_reaches_25 : decode cX11_reaches 25 = .ok (.iload_n 2, 1) := by decide +kernel
theorem dX11_reaches_26 : decode cX11_reaches 26 = .ok (.iadd, 1) := by decide +kernel
theorem dX11_reaches_27 : decode cX11_reaches 27 = .ok (.iaload, 1) := by decide +kernel
theorem dX11_reaches_28 : decode cX11_reaches 28 = .ok (.invokestatic 163, 3) := by decide +kernel
theorem dX11_reaches_31 : decode cX11_reaches 31 = .ok (.iload_n 3, 1) := by decide +kernel
theorem dX11_reaches_32 : decode cX11_reaches 32 = .ok (.if_icmp .le 7, 3) := by decide +kernel
theorem dX11_reaches_35 : decode cX11_reaches 35 = .ok (.iconst 1, 1) := by decide +kernel
theorem dX11_reaches_36 : decode cX11_reaches 36 = .ok (.goto 4, 3) := by decide +kernel
theorem dX11_reaches_39 : decode cX11_reaches 39 = .ok (.iconst 0, 1) := by decide +kernel
theorem dX11_reaches_40 : decode cX11_reaches 40 = .ok (.ireturn, 1) := by decide +kernel
theorem dX11_heardBy_0 : decode cX11_heardBy 0 = .ok (.iconst 0, 1) := by decide +kernel
theorem dX11_heardBy_1 : decode cX11_heardBy 1 = .ok (.istore 4, 2) := by decide +kernel
theorem dX11_heardBy_3 : decode cX11_heardBy 3 = .ok (.iconst 0, 1) := by decide +kernel
theorem dX11_heardBy_4 : decode cX11_heardBy 4 = .ok (.istore 5, 2) := by decide +kernel
theorem dX11_heardBy_6 : decode cX11_heardBy 6 = .ok (.iload 5, 2) := by decide +kernel
theorem dX11_heardBy_8 : decode cX11_heardBy 8 = .ok (.aload_n 0, 1) := by decide +kernel
theorem dX11_heardBy_9 : decode cX11_heardBy 9 = .ok (.getfield 7, 3) := by decide +kernel
theorem dX11_heardBy_12 : decode cX11_heardBy 12 = .ok (.bipush 64, 2) := by decide +kernel
theorem dX11_heardBy_14 : decode cX11_heardBy 14 = .ok (.iaload, 1) := by decide +kernel
theorem dX11_heardBy_15 : decode cX11_heardBy 15 = .ok (.if_icmp .ge 43, 3) := by decide +kernel
theorem dX11_heardBy_18 : decode cX11_heardBy 18 = .ok (.iload 4, 2) := by decide +kernel
theorem dX11_heardBy_20 : decode cX11_heardBy 20 = .ok (.aload_n 0, 1) := by decide +kernel
theorem dX11_heardBy_21 : decode cX11_heardBy 21 = .ok (.iload 5, 2) := by decide +kernel
theorem dX11_heardBy_23 : decode cX11_heardBy 23 = .ok (.iload_n 2, 1) := by decide +kernel
theorem dX11_heardBy_24 : decode cX11_heardBy 24 = .ok (.iload_n 3, 1) := by decide +kernel
theorem dX11_heardBy_25 : decode cX11_heardBy 25 = .ok (.invokevirtual 176, 3) := by decide +kernel
theorem dX11_heardBy_28 : decode cX11_heardBy 28 = .ok (.ifCond .eq 20, 3) := by decide +kernel
theorem dX11_heardBy_31 : decode cX11_heardBy 31 = .ok (.aload_n 0, 1) := by decide +kernel
theorem dX11_heardBy_32 : decode cX11_heardBy 32 = .ok (.iload_n 1, 1) := by decide +kernel
theorem dX11_heardBy_33 : decode cX11_heardBy 33 = .ok (.iload 5, 2) := by decide +kernel
theorem dX11_heardBy_35 : decode cX11_heardBy 35 = .ok (.invokevirtual 179, 3) := by decide +kernel
theorem dX11_heardBy_38 : decode cX11_heardBy 38 = .ok (.ifCond .eq 10, 3) := by decide +kernel
theorem dX11_heardBy_41 : decode cX11_heardBy 41 = .ok (.iconst 1, 1) := by decide +kernel
theorem dX11_heardBy_42 : decode cX11_heardBy 42 = .ok (.iload 5, 2) := by decide +kernel
theorem dX11_heardBy_44 : decode cX11_heardBy 44 = .ok (.ishl, 1) := by decide +kernel
theorem dX11_heardBy_45 : decode cX11_heardBy 45 = .ok (.goto 4, 3) := by decide +kernel
theorem dX11_heardBy_48 : decode cX11_heardBy 48 = .ok (.iconst 0, 1) := by decide +kernel
theorem dX11_heardBy_49 : decode cX11_heardBy 49 = .ok (.ior, 1) := by decide +kernel
theorem dX11_heardBy_50 : decode cX11_heardBy 50 = .ok (.istore 4, 2) := by decide +kernel
theorem dX11_heardBy_52 : decode cX11_heardBy 52 = .ok (.iinc 5 1, 3) := by decide +kernel
theorem dX11_heardBy_55 : decode cX11_heardBy 55 = .ok (.goto (-49), 3) := by decide +kernel
theorem dX11_heardBy_58 : decode cX11_heardBy 58 = .ok (.iload 4, 2) := by decide +kernel
theorem dX11_heardBy_60 : decode cX11_heardBy 60 = .ok (.ireturn, 1) := by decide +kernel
theorem dX11_heard_0 : decode cX11_heard 0 = .ok (.iload_n 1, 1) := by decide +kernel
theorem dX11_heard_1 : decode cX11_heard 1 = .ok (.invokestatic 56, 3) := by decide +kernel
theorem dX11_heard_4 : decode cX11_heard 4 = .ok (.ifCond .eq 14, 3) := by decide +kernel
theorem dX11_heard_7 : decode cX11_heard 7 = .ok (.iload_n 2, 1) := by decide +kernel
theorem dX11_heard_8 : decode cX11_heard 8 = .ok (.iconst 0, 1) := by decide +kernel
theorem dX11_heard_9 : decode cX11_heard 9 = .ok (.sipush 9999, 3) := by decide +kernel
theorem dX11_heard_12 : decode cX11_heard 12 = .ok (.invokestatic 52, 3) := by decide +kernel
theorem dX11_heard_15 : decode cX11_heard 15 = .ok (.ifCond .ne 8, 3) := by decide +kernel
theorem dX11_heard_18 : decode cX11_heard 18 = .ok (.aload_n 0, 1) := by decide +kernel
theorem dX11_heard_19 : decode cX11_heard 19 = .ok (.invokevirtual 60, 3) := by decide +kernel
theorem dX11_heard_22 : decode cX11_heard 22 = .ok (.ireturn, 1) := by decide +kernel
theorem dX11_heard_23 : decode cX11_heard 23 = .ok (.aload_n 0, 1) := by decide +kernel
theorem dX11_heard_24 : decode cX11_heard 24 = .ok (.invokevirtual 146, 3) := by decide +kernel
theorem dX11_heard_27 : decode cX11_heard 27 = .ok (.aload_n 0, 1) := by decide +kernel
theorem dX11_heard_28 : decode cX11_heard 28 = .ok (.iload_n 1, 1) := by decide +kernel
theorem dX11_heard_29 : decode cX11_heard 29 = .ok (.iload_n 2, 1) := by decide +kernel
theorem dX11_heard_30 : decode cX11_heard 30 = .ok (.aload_n 0, 1) := by decide +kernel
theorem dX11_heard_31 : decode cX11_heard 31 = .ok (.getfield 7, 3) := by decide +kernel
theorem dX11_heard_34 : decode cX11_heard 34 = .ok (.bipush 92, 2) := by decide +kernel
theorem dX11_heard_36 : decode cX11_heard 36 = .ok (.iaload, 1) := by decide +kernel
theorem dX11_heard_37 : decode cX11_heard 37 = .ok (.invokevirtual 149, 3) := by decide +kernel
theorem dX11_heard_40 : decode cX11_heard 40 = .ok (.ireturn, 1) := by decide +kernel
theorem dX11_throughBy_0 : decode cX11_throughBy 0 = .ok (.aload_n 0, 1) := by decide +kernel
theorem dX11_throughBy_1 : decode cX11_throughBy 1 = .ok (.getfield 7, 3) := by decide +kernel
theorem dX11_throughBy_4 : decode cX11_throughBy 4 = .ok (.bipush 71, 2) := by decide +kernel
theorem dX11_throughBy_6 : decode cX11_throughBy 6 = .ok (.iload_n 2, 1) := by decide +kernel
theorem dX11_throughBy_7 : decode cX11_throughBy 7 = .ok (.iadd, 1) := by decide +kernel
theorem dX11_throughBy_8 : decode cX11_throughBy 8 = .ok (.iaload, 1) := by decide +kernel
theorem dX11_throughBy_9 : decode cX11_throughBy 9 = .ok (.istore_n 3, 1) := by decide +kernel
theorem dX11_throughBy_10 : decode cX11_throughBy 10 = .ok (.aload_n 0, 1) := by decide +kernel
theorem dX11_throughBy_11 : decode cX11_throughBy 11 = .ok (.iload_n 1, 1) := by decide +kernel
theorem dX11_throughBy_12 : decode cX11_throughBy 12 = .ok (.iload_n 2, 1) := by decide +kernel
theorem dX11_throughBy_13 : decode cX11_throughBy 13 = .ok (.invokevirtual 179, 3) := by decide +kernel
theorem dX11_throughBy_16 : decode cX11_throughBy 16 = .ok (.ifCond .ne 5, 3) := by decide +kernel
theorem dX11_throughBy_19 : decode cX11_throughBy 19 = .ok (.iconst (-1), 1) := by decide +kernel
theorem dX11_throughBy_20 : decode cX11_throughBy 20 = .ok (.ireturn, 1) := by decide +kernel
theorem dX11_throughBy_21 : decode cX11_throughBy 21 = .ok (.iload_n 3, 1) := by decide +kernel
theorem dX11_throughBy_22 : decode cX11_throughBy 22 = .ok (.iload_n 1, 1) := by decide +kernel
theorem dX11_throughBy_23 : decode cX11_throughBy 23 = .ok (.if_icmp .ne 5, 3) := by decide +kernel
theorem dX11_throughBy_26 : decode cX11_throughBy 26 = .ok (.iload_n 1, 1) := by decide +kernel
theorem dX11_throughBy_27 : decode cX11_throughBy 27 = .ok (.ireturn, 1) := by decide +kernel
theorem dX11_throughBy_28 : decode cX11_throughBy 28 = .ok (.iconst (-1), 1) := by decide +kernel
theorem dX11_throughBy_29 : decode cX11_throughBy 29 = .ok (.istore 4, 2) := by decide +kernel
theorem dX11_throughBy_31 : decode cX11_throughBy 31 = .ok (.bipush 7, 2) := by decide +kernel
theorem dX11_throughBy_33 : decode cX11_throughBy 33 = .ok (.istore 5, 2) := by decide +kernel
theorem dX11_throughBy_35 : decode cX11_throughBy 35 = .ok (.iload 5, 2) := by decide +kernel
theorem dX11_throughBy_37 : decode cX11_throughBy 37 = .ok (.ifCond .lt 78, 3) := by decide +kernel
theorem dX11_throughBy_40 : decode cX11_throughBy 40 = .ok (.aload_n 0, 1) := by decide +kernel
theorem dX11_throughBy_41 : decode cX11_throughBy 41 = .ok (.getfield 7, 3) := by decide +kernel
theorem dX11_throughBy_44 : decode cX11_throughBy 44 = .ok (.bipush 8, 2) := by decide +kernel
theorem dX11_throughBy_46 : decode cX11_throughBy 46 = .ok (.iload_n 1, 1) := by decide +kernel
theorem dX11_throughBy_47 : decode cX11_throughBy 47 = .ok (.imul, 1) := by decide +kernel
theorem dX11_throughBy_48 : decode cX11_throughBy 48 = .ok (.iload 5, 2) := by decide +kernel
theorem dX11_throughBy_50 : decode cX11_throughBy 50 = .ok (.iadd, 1) := by decide +kernel
theorem dX11_throughBy_51 : decode cX11_throughBy 51 = .ok (.iaload, 1) := by decide +kernel
theorem dX11_throughBy_52 : decode cX11_throughBy 52 = .ok (.istore 6, 2) := by decide +kernel
theorem dX11_throughBy_54 : decode cX11_throughBy 54 = .ok (.iload 6, 2) := by decide +kernel
theorem dX11_throughBy_56 : decode cX11_throughBy 56 = .ok (.ifCond .le 36, 3) := by decide +kernel
theorem dX11_throughBy_59 : decode cX11_throughBy 59 = .ok (.aload_n 0, 1) := by decide +kernel
theorem dX11_throughBy_60 : decode cX11_throughBy 60 = .ok (.iload 5, 2) := by decide +kernel
theorem dX11_throughBy_62 : decode cX11_throughBy 62 = .ok (.iload_n 3, 1) := by decide +kernel
theorem dX11_throughBy_63 : decode cX11_throughBy 63 = .ok (.invokevirtual 153, 3) := by decide +kernel
theorem dX11_throughBy_66 : decode cX11_throughBy 66 = .ok (.ifCond .lt 26, 3) := by decide +kernel
theorem dX11_throughBy_69 : decode cX11_throughBy 69 = .ok (.iload 6, 2) := by decide +kernel
theorem dX11_throughBy_71 : decode cX11_throughBy 71 = .ok (.aload_n 0, 1) := by decide +kernel
theorem dX11_throughBy_72 : decode cX11_throughBy 72 = .ok (.iload 5, 2) := by decide +kernel
theorem dX11_throughBy_74 : decode cX11_throughBy 74 = .ok (.iload_n 3, 1) := by decide +kernel
theorem dX11_throughBy_75 : decode cX11_throughBy 75 = .ok (.invokevirtual 153, 3) := by decide +kernel
theorem dX11_throughBy_78 : decode cX11_throughBy 78 = .ok (.iadd, 1) := by decide +kernel
theorem dX11_throughBy_79 : decode cX11_throughBy 79 = .ok (.aload_n 0, 1) := by decide +kernel
theorem dX11_throughBy_80 : decode cX11_throughBy 80 = .ok (.iload_n 1, 1) := by decide +kernel
theorem dX11_throughBy_81 : decode cX11_throughBy 81 = .ok (.iload_n 3, 1) := by decide +kernel
theorem dX11_throughBy_82 : decode cX11_throughBy 82 = .ok (.invokevirtual 153, 3) := by decide +kernel
theorem dX11_throughBy_85 : decode cX11_throughBy 85 = .ok (.if_icmp .ne 7, 3) := by decide +kernel
theorem dX11_throughBy_88 : decode cX11_throughBy 88 = .ok (.iconst 1, 1) := by decide +kernel
theorem dX11_throughBy_89 : decode cX11_throughBy 89 = .ok (.goto 4, 3) := by decide +kernel
theorem dX11_throughBy_92 : decode cX11_throughBy 92 = .ok (.iconst 0, 1) := by decide +kernel
theorem dX11_throughBy_93 : decode cX11_throughBy 93 = .ok (.istore 7, 2) := by decide +kernel
theorem dX11_throughBy_95 : decode cX11_throughBy 95 = .ok (.iload 7, 2) := by decide +kernel
theorem dX11_throughBy_97 : decode cX11_throughBy 97 = .ok (.ifCond .eq 8, 3) := by decide +kernel
theorem dX11_throughBy_100 : decode cX11_throughBy 100 = .ok (.iload 5, 2) := by decide +kernel
theorem dX11_throughBy_102 : decode cX11_throughBy 102 = .ok (.goto 5, 3) := by decide +kernel
theorem dX11_throughBy_105 : decode cX11_throughBy 105 = .ok (.iload 4, 2) := by decide +kernel
theorem dX11_throughBy_107 : decode cX11_throughBy 107 = .ok (.istore 4, 2) := by decide +kernel
theorem dX11_throughBy_109 : decode cX11_throughBy 109 = .ok (.iinc 5 (-1), 3) := by decide +kernel
theorem dX11_throughBy_112 : decode cX11_throughBy 112 = .ok (.goto (-77), 3) := by decide +kernel
theorem dX11_throughBy_115 : decode cX11_throughBy 115 = .ok (.iload 4, 2) := by decide +kernel
theorem dX11_throughBy_117 : decode cX11_throughBy 117 = .ok (.ireturn, 1) := by decide +kernel
theorem dX11_through_0 : decode cX11_through 0 = .ok (.iload_n 1, 1) := by decide +kernel
theorem dX11_through_1 : decode cX11_through 1 = .ok (.invokestatic 56, 3) := by decide +kernel
theorem dX11_through_4 : decode cX11_through 4 = .ok (.ifCond .eq 11, 3) := by decide +kernel
theorem dX11_through_7 : decode cX11_through 7 = .ok (.aload_n 0, 1) := by decide +kernel
theorem dX11_through_8 : decode cX11_through 8 = .ok (.iload_n 2, 1) := by decide +kernel
theorem dX11_through_9 : decode cX11_through 9 = .ok (.invokevirtual 160, 3) := by decide +kernel
theorem dX11_through_12 : decode cX11_through 12 = .ok (.ifCond .ne 8, 3) := by decide +kernel
end
section
theorem dX11_through_15 : decode cX11_through 15 = .ok (.aload_n 0, 1) := by decide +kernel
theorem dX11_through_16 : decode cX11_through 16 = .ok (.invokevirtual 60, 3) := by decide +kernel
theorem dX11_through_19 : decode cX11_through 19 = .ok (.ireturn, 1) := by decide +kernel
theorem dX11_through_20 : decode cX11_through 20 = .ok (.aload_n 0, 1) := by decide +kernel
theorem dX11_through_21 : decode cX11_through 21 = .ok (.invokevirtual 146, 3) := by decide +kernel
theorem dX11_through_24 : decode cX11_through 24 = .ok (.aload_n 0, 1) := by decide +kernel
theorem dX11_through_25 : decode cX11_through 25 = .ok (.iload_n 1, 1) := by decide +kernel
theorem dX11_through_26 : decode cX11_through 26 = .ok (.iload_n 2, 1) := by decide +kernel
theorem dX11_through_27 : decode cX11_through 27 = .ok (.invokevirtual 182, 3) := by decide +kernel
theorem dX11_through_30 : decode cX11_through 30 = .ok (.ireturn, 1) := by decide +kernel
theorem dX11_next_0 : decode cX11_next 0 = .ok (.iload_n 2, 1) := by decide +kernel
theorem dX11_next_1 : decode cX11_next 1 = .ok (.iconst 0, 1) := by decide +kernel
theorem dX11_next_2 : decode cX11_next 2 = .ok (.iconst 1, 1) := by decide +kernel
theorem dX11_next_3 : decode cX11_next 3 = .ok (.invokestatic 52, 3) := by decide +kernel
theorem dX11_next_6 : decode cX11_next 6 = .ok (.ifCond .eq 25, 3) := by decide +kernel
theorem dX11_next_9 : decode cX11_next 9 = .ok (.iload_n 2, 1) := by decide +kernel
theorem dX11_next_10 : decode cX11_next 10 = .ok (.ifCond .ne 13, 3) := by decide +kernel
theorem dX11_next_13 : decode cX11_next 13 = .ok (.iload_n 1, 1) := by decide +kernel
theorem dX11_next_14 : decode cX11_next 14 = .ok (.invokestatic 56, 3) := by decide +kernel
theorem dX11_next_17 : decode cX11_next 17 = .ok (.ifCond .ne 19, 3) := by decide +kernel
theorem dX11_next_20 : decode cX11_next 20 = .ok (.goto 11, 3) := by decide +kernel
theorem dX11_next_23 : decode cX11_next 23 = .ok (.aload_n 0, 1) := by decide +kernel
theorem dX11_next_24 : decode cX11_next 24 = .ok (.iload_n 1, 1) := by decide +kernel
theorem dX11_next_25 : decode cX11_next 25 = .ok (.invokevirtual 160, 3) := by decide +kernel
theorem dX11_next_28 : decode cX11_next 28 = .ok (.ifCond .ne 8, 3) := by decide +kernel
theorem dX11_next_31 : decode cX11_next 31 = .ok (.aload_n 0, 1) := by decide +kernel
theorem dX11_next_32 : decode cX11_next 32 = .ok (.invokevirtual 60, 3) := by decide +kernel
theorem dX11_next_35 : decode cX11_next 35 = .ok (.ireturn, 1) := by decide +kernel
theorem dX11_next_36 : decode cX11_next 36 = .ok (.aload_n 0, 1) := by decide +kernel
theorem dX11_next_37 : decode cX11_next 37 = .ok (.invokevirtual 146, 3) := by decide +kernel
theorem dX11_next_40 : decode cX11_next 40 = .ok (.iconst 0, 1) := by decide +kernel
theorem dX11_next_41 : decode cX11_next 41 = .ok (.istore_n 3, 1) := by decide +kernel
theorem dX11_next_42 : decode cX11_next 42 = .ok (.iload_n 3, 1) := by decide +kernel
theorem dX11_next_43 : decode cX11_next 43 = .ok (.bipush 120, 2) := by decide +kernel
theorem dX11_next_45 : decode cX11_next 45 = .ok (.if_icmp .gt 72, 3) := by decide +kernel
theorem dX11_next_48 : decode cX11_next 48 = .ok (.aload_n 0, 1) := by decide +kernel
theorem dX11_next_49 : decode cX11_next 49 = .ok (.getfield 7, 3) := by decide +kernel
theorem dX11_next_52 : decode cX11_next 52 = .ok (.bipush 90, 2) := by decide +kernel
theorem dX11_next_54 : decode cX11_next 54 = .ok (.iaload, 1) := by decide +kernel
theorem dX11_next_55 : decode cX11_next 55 = .ok (.iload_n 3, 1) := by decide +kernel
theorem dX11_next_56 : decode cX11_next 56 = .ok (.iadd, 1) := by decide +kernel
theorem dX11_next_57 : decode cX11_next 57 = .ok (.istore 4, 2) := by decide +kernel
theorem dX11_next_59 : decode cX11_next 59 = .ok (.iload_n 2, 1) := by decide +kernel
theorem dX11_next_60 : decode cX11_next 60 = .ok (.ifCond .ne 28, 3) := by decide +kernel
theorem dX11_next_63 : decode cX11_next 63 = .ok (.aload_n 0, 1) := by decide +kernel
theorem dX11_next_64 : decode cX11_next 64 = .ok (.iload_n 1, 1) := by decide +kernel
theorem dX11_next_65 : decode cX11_next 65 = .ok (.iload 4, 2) := by decide +kernel
theorem dX11_next_67 : decode cX11_next 67 = .ok (.aload_n 0, 1) := by decide +kernel
theorem dX11_next_68 : decode cX11_next 68 = .ok (.getfield 7, 3) := by decide +kernel
theorem dX11_next_71 : decode cX11_next 71 = .ok (.bipush 92, 2) := by decide +kernel
theorem dX11_next_73 : decode cX11_next 73 = .ok (.iaload, 1) := by decide +kernel
theorem dX11_next_74 : decode cX11_next 74 = .ok (.invokevirtual 149, 3) := by decide +kernel
theorem dX11_next_77 : decode cX11_next 77 = .ok (.ifCond .eq 7, 3) := by decide +kernel
theorem dX11_next_80 : decode cX11_next 80 = .ok (.iconst 1, 1) := by decide +kernel
theorem dX11_next_81 : decode cX11_next 81 = .ok (.goto 21, 3) := by decide +kernel
theorem dX11_next_84 : decode cX11_next 84 = .ok (.iconst 0, 1) := by decide +kernel
theorem dX11_next_85 : decode cX11_next 85 = .ok (.goto 17, 3) := by decide +kernel
theorem dX11_next_88 : decode cX11_next 88 = .ok (.aload_n 0, 1) := by decide +kernel
theorem dX11_next_89 : decode cX11_next 89 = .ok (.iload_n 1, 1) := by decide +kernel
theorem dX11_next_90 : decode cX11_next 90 = .ok (.iload 4, 2) := by decide +kernel
theorem dX11_next_92 : decode cX11_next 92 = .ok (.aload_n 0, 1) := by decide +kernel
theorem dX11_next_93 : decode cX11_next 93 = .ok (.getfield 7, 3) := by decide +kernel
theorem dX11_next_96 : decode cX11_next 96 = .ok (.bipush 92, 2) := by decide +kernel
theorem dX11_next_98 : decode cX11_next 98 = .ok (.iaload, 1) := by decide +kernel
theorem dX11_next_99 : decode cX11_next 99 = .ok (.invokevirtual 176, 3) := by decide +kernel
theorem dX11_next_102 : decode cX11_next 102 = .ok (.istore 5, 2) := by decide +kernel
theorem dX11_next_104 : decode cX11_next 104 = .ok (.iload 5, 2) := by decide +kernel
theorem dX11_next_106 : decode cX11_next 106 = .ok (.ifCond .eq 5, 3) := by decide +kernel
theorem dX11_next_109 : decode cX11_next 109 = .ok (.iload_n 3, 1) := by decide +kernel
theorem dX11_next_110 : decode cX11_next 110 = .ok (.ireturn, 1) := by decide +kernel
theorem dX11_next_111 : decode cX11_next 111 = .ok (.iinc 3 1, 3) := by decide +kernel
theorem dX11_next_114 : decode cX11_next 114 = .ok (.goto (-72), 3) := by decide +kernel
theorem dX11_next_117 : decode cX11_next 117 = .ok (.iconst (-1), 1) := by decide +kernel
theorem dX11_next_118 : decode cX11_next 118 = .ok (.ireturn, 1) := by decide +kernel
theorem dX11_beepsEver_0 : decode cX11_beepsEver 0 = .ok (.iconst 0, 1) := by decide +kernel
theorem dX11_beepsEver_1 : decode cX11_beepsEver 1 = .ok (.istore_n 3, 1) := by decide +kernel
theorem dX11_beepsEver_2 : decode cX11_beepsEver 2 = .ok (.iconst 0, 1) := by decide +kernel
theorem dX11_beepsEver_3 : decode cX11_beepsEver 3 = .ok (.istore 4, 2) := by decide +kernel
theorem dX11_beepsEver_5 : decode cX11_beepsEver 5 = .ok (.iload 4, 2) := by decide +kernel
theorem dX11_beepsEver_7 : decode cX11_beepsEver 7 = .ok (.sipush 1230, 3) := by decide +kernel
theorem dX11_beepsEver_10 : decode cX11_beepsEver 10 = .ok (.if_icmp .ge 46, 3) := by decide +kernel
theorem dX11_beepsEver_13 : decode cX11_beepsEver 13 = .ok (.iload_n 3, 1) := by decide +kernel
theorem dX11_beepsEver_14 : decode cX11_beepsEver 14 = .ok (.ifCond .ne 30, 3) := by decide +kernel
theorem dX11_beepsEver_17 : decode cX11_beepsEver 17 = .ok (.aload_n 0, 1) := by decide +kernel
theorem dX11_beepsEver_18 : decode cX11_beepsEver 18 = .ok (.getfield 7, 3) := by decide +kernel
theorem dX11_beepsEver_21 : decode cX11_beepsEver 21 = .ok (.bipush 65, 2) := by decide +kernel
theorem dX11_beepsEver_23 : decode cX11_beepsEver 23 = .ok (.iload_n 1, 1) := by decide +kernel
theorem dX11_beepsEver_24 : decode cX11_beepsEver 24 = .ok (.iadd, 1) := by decide +kernel
theorem dX11_beepsEver_25 : decode cX11_beepsEver 25 = .ok (.iaload, 1) := by decide +kernel
theorem dX11_beepsEver_26 : decode cX11_beepsEver 26 = .ok (.aload_n 0, 1) := by decide +kernel
theorem dX11_beepsEver_27 : decode cX11_beepsEver 27 = .ok (.getfield 7, 3) := by decide +kernel
theorem dX11_beepsEver_30 : decode cX11_beepsEver 30 = .ok (.bipush 94, 2) := by decide +kernel
theorem dX11_beepsEver_32 : decode cX11_beepsEver 32 = .ok (.iload_n 1, 1) := by decide +kernel
theorem dX11_beepsEver_33 : decode cX11_beepsEver 33 = .ok (.iadd, 1) := by decide +kernel
theorem dX11_beepsEver_34 : decode cX11_beepsEver 34 = .ok (.iaload, 1) := by decide +kernel
theorem dX11_beepsEver_35 : decode cX11_beepsEver 35 = .ok (.iload 4, 2) := by decide +kernel
theorem dX11_beepsEver_37 : decode cX11_beepsEver 37 = .ok (.iload_n 2, 1) := by decide +kernel
theorem dX11_beepsEver_38 : decode cX11_beepsEver 38 = .ok (.invokestatic 172, 3) := by decide +kernel
theorem dX11_beepsEver_41 : decode cX11_beepsEver 41 = .ok (.ifCond .eq 7, 3) := by decide +kernel
theorem dX11_beepsEver_44 : decode cX11_beepsEver 44 = .ok (.iconst 1, 1) := by decide +kernel
theorem dX11_beepsEver_45 : decode cX11_beepsEver 45 = .ok (.goto 4, 3) := by decide +kernel
theorem dX11_beepsEver_48 : decode cX11_beepsEver 48 = .ok (.iconst 0, 1) := by decide +kernel
theorem dX11_beepsEver_49 : decode cX11_beepsEver 49 = .ok (.istore_n 3, 1) := by decide +kernel
theorem dX11_beepsEver_50 : decode cX11_beepsEver 50 = .ok (.iinc 4 1, 3) := by decide +kernel
theorem dX11_beepsEver_53 : decode cX11_beepsEver 53 = .ok (.goto (-48), 3) := by decide +kernel
theorem dX11_beepsEver_56 : decode cX11_beepsEver 56 = .ok (.iload_n 3, 1) := by decide +kernel
theorem dX11_beepsEver_57 : decode cX11_beepsEver 57 = .ok (.ireturn, 1) := by decide +kernel
theorem dX11_coldest_0 : decode cX11_coldest 0 = .ok (.aload_n 0, 1) := by decide +kernel
theorem dX11_coldest_1 : decode cX11_coldest 1 = .ok (.iload_n 1, 1) := by decide +kernel
theorem dX11_coldest_2 : decode cX11_coldest 2 = .ok (.invokevirtual 160, 3) := by decide +kernel
theorem dX11_coldest_5 : decode cX11_coldest 5 = .ok (.ifCond .ne 8, 3) := by decide +kernel
theorem dX11_coldest_8 : decode cX11_coldest 8 = .ok (.aload_n 0, 1) := by decide +kernel
theorem dX11_coldest_9 : decode cX11_coldest 9 = .ok (.invokevirtual 60, 3) := by decide +kernel
theorem dX11_coldest_12 : decode cX11_coldest 12 = .ok (.ireturn, 1) := by decide +kernel
theorem dX11_coldest_13 : decode cX11_coldest 13 = .ok (.iconst 0, 1) := by decide +kernel
theorem dX11_coldest_14 : decode cX11_coldest 14 = .ok (.istore_n 2, 1) := by decide +kernel
theorem dX11_coldest_15 : decode cX11_coldest 15 = .ok (.iload_n 2, 1) := by decide +kernel
theorem dX11_coldest_16 : decode cX11_coldest 16 = .ok (.bipush 10, 2) := by decide +kernel
theorem dX11_coldest_18 : decode cX11_coldest 18 = .ok (.if_icmp .ge 20, 3) := by decide +kernel
theorem dX11_coldest_21 : decode cX11_coldest 21 = .ok (.aload_n 0, 1) := by decide +kernel
theorem dX11_coldest_22 : decode cX11_coldest 22 = .ok (.iload_n 1, 1) := by decide +kernel
theorem dX11_coldest_23 : decode cX11_coldest 23 = .ok (.iload_n 2, 1) := by decide +kernel
theorem dX11_coldest_24 : decode cX11_coldest 24 = .ok (.invokevirtual 185, 3) := by decide +kernel
theorem dX11_coldest_27 : decode cX11_coldest 27 = .ok (.ifCond .eq 5, 3) := by decide +kernel
theorem dX11_coldest_30 : decode cX11_coldest 30 = .ok (.iload_n 2, 1) := by decide +kernel
theorem dX11_coldest_31 : decode cX11_coldest 31 = .ok (.ireturn, 1) := by decide +kernel
theorem dX11_coldest_32 : decode cX11_coldest 32 = .ok (.iinc 2 1, 3) := by decide +kernel
theorem dX11_coldest_35 : decode cX11_coldest 35 = .ok (.goto (-20), 3) := by decide +kernel
theorem dX11_coldest_38 : decode cX11_coldest 38 = .ok (.iconst (-1), 1) := by decide +kernel
theorem dX11_coldest_39 : decode cX11_coldest 39 = .ok (.ireturn, 1) := by decide +kernel
theorem dX11_alikeBy_0 : decode cX11_alikeBy 0 = .ok (.iconst 0, 1) := by decide +kernel
theorem dX11_alikeBy_1 : decode cX11_alikeBy 1 = .ok (.istore 4, 2) := by decide +kernel
theorem dX11_alikeBy_3 : decode cX11_alikeBy 3 = .ok (.iconst 0, 1) := by decide +kernel
theorem dX11_alikeBy_4 : decode cX11_alikeBy 4 = .ok (.istore 5, 2) := by decide +kernel
theorem dX11_alikeBy_6 : decode cX11_alikeBy 6 = .ok (.iload 5, 2) := by decide +kernel
theorem dX11_alikeBy_8 : decode cX11_alikeBy 8 = .ok (.aload_n 0, 1) := by decide +kernel
theorem dX11_alikeBy_9 : decode cX11_alikeBy 9 = .ok (.getfield 7, 3) := by decide +kernel
theorem dX11_alikeBy_12 : decode cX11_alikeBy 12 = .ok (.bipush 64, 2) := by decide +kernel
theorem dX11_alikeBy_14 : decode cX11_alikeBy 14 = .ok (.iaload, 1) := by decide +kernel
theorem dX11_alikeBy_15 : decode cX11_alikeBy 15 = .ok (.if_icmp .ge 47, 3) := by decide +kernel
theorem dX11_alikeBy_18 : decode cX11_alikeBy 18 = .ok (.iload 4, 2) := by decide +kernel
theorem dX11_alikeBy_20 : decode cX11_alikeBy 20 = .ok (.iload_n 2, 1) := by decide +kernel
theorem dX11_alikeBy_21 : decode cX11_alikeBy 21 = .ok (.iload 5, 2) := by decide +kernel
theorem dX11_alikeBy_23 : decode cX11_alikeBy 23 = .ok (.invokestatic 166, 3) := by decide +kernel
theorem dX11_alikeBy_26 : decode cX11_alikeBy 26 = .ok (.ifCond .eq 26, 3) := by decide +kernel
theorem dX11_alikeBy_29 : decode cX11_alikeBy 29 = .ok (.aload_n 0, 1) := by decide +kernel
theorem dX11_alikeBy_30 : decode cX11_alikeBy 30 = .ok (.iload_n 1, 1) := by decide +kernel
theorem dX11_alikeBy_31 : decode cX11_alikeBy 31 = .ok (.iload 5, 2) := by decide +kernel
theorem dX11_alikeBy_33 : decode cX11_alikeBy 33 = .ok (.invokevirtual 182, 3) := by decide +kernel
theorem dX11_alikeBy_36 : decode cX11_alikeBy 36 = .ok (.aload_n 0, 1) := by decide +kernel
theorem dX11_alikeBy_37 : decode cX11_alikeBy 37 = .ok (.iload_n 1, 1) := by decide +kernel
theorem dX11_alikeBy_38 : decode cX11_alikeBy 38 = .ok (.iload_n 3, 1) := by decide +kernel
theorem dX11_alikeBy_39 : decode cX11_alikeBy 39 = .ok (.invokevirtual 182, 3) := by decide +kernel
theorem dX11_alikeBy_42 : decode cX11_alikeBy 42 = .ok (.if_icmp .ne 10, 3) := by decide +kernel
theorem dX11_alikeBy_45 : decode cX11_alikeBy 45 = .ok (.iconst 1, 1) := by decide +kernel
theorem dX11_alikeBy_46 : decode cX11_alikeBy 46 = .ok (.iload 5, 2) := by decide +kernel
theorem dX11_alikeBy_48 : decode cX11_alikeBy 48 = .ok (.ishl, 1) := by decide +kernel
theorem dX11_alikeBy_49 : decode cX11_alikeBy 49 = .ok (.goto 4, 3) := by decide +kernel
theorem dX11_alikeBy_52 : decode cX11_alikeBy 52 = .ok (.iconst 0, 1) := by decide +kernel
theorem dX11_alikeBy_53 : decode cX11_alikeBy 53 = .ok (.ior, 1) := by decide +kernel
theorem dX11_alikeBy_54 : decode cX11_alikeBy 54 = .ok (.istore 4, 2) := by decide +kernel
theorem dX11_alikeBy_56 : decode cX11_alikeBy 56 = .ok (.iinc 5 1, 3) := by decide +kernel
theorem dX11_alikeBy_59 : decode cX11_alikeBy 59 = .ok (.goto (-53), 3) := by decide +kernel
theorem dX11_alikeBy_62 : decode cX11_alikeBy 62 = .ok (.iload 4, 2) := by decide +kernel
theorem dX11_alikeBy_64 : decode cX11_alikeBy 64 = .ok (.ireturn, 1) := by decide +kernel
theorem dX11_laySure_0 : decode cX11_laySure 0 = .ok (.iconst 0, 1) := by decide +kernel
theorem dX11_laySure_1 : decode cX11_laySure 1 = .ok (.istore_n 1, 1) := by decide +kernel
theorem dX11_laySure_2 : decode cX11_laySure 2 = .ok (.iload_n 1, 1) := by decide +kernel
theorem dX11_laySure_3 : decode cX11_laySure 3 = .ok (.iconst 1, 1) := by decide +kernel
theorem dX11_laySure_4 : decode cX11_laySure 4 = .ok (.aload_n 0, 1) := by decide +kernel
theorem dX11_laySure_5 : decode cX11_laySure 5 = .ok (.getfield 7, 3) := by decide +kernel
theorem dX11_laySure_8 : decode cX11_laySure 8 = .ok (.bipush 64, 2) := by decide +kernel
theorem dX11_laySure_10 : decode cX11_laySure 10 = .ok (.iaload, 1) := by decide +kernel
theorem dX11_laySure_11 : decode cX11_laySure 11 = .ok (.ishl, 1) := by decide +kernel
theorem dX11_laySure_12 : decode cX11_laySure 12 = .ok (.if_icmp .ge 228, 3) := by decide +kernel
theorem dX11_laySure_15 : decode cX11_laySure 15 = .ok (.aload_n 0, 1) := by decide +kernel
theorem dX11_laySure_16 : decode cX11_laySure 16 = .ok (.getfield 36, 3) := by decide +kernel
theorem dX11_laySure_19 : decode cX11_laySure 19 = .ok (.iload_n 1, 1) := by decide +kernel
theorem dX11_laySure_20 : decode cX11_laySure 20 = .ok (.iload_n 1, 1) := by decide +kernel
theorem dX11_laySure_21 : decode cX11_laySure 21 = .ok (.invokestatic 188, 3) := by decide +kernel
theorem dX11_laySure_24 : decode cX11_laySure 24 = .ok (.iconst 2, 1) := by decide +kernel
theorem dX11_laySure_25 : decode cX11_laySure 25 = .ok (.if_icmp .ge 7, 3) := by decide +kernel
theorem dX11_laySure_28 : decode cX11_laySure 28 = .ok (.iconst 0, 1) := by decide +kernel
theorem dX11_laySure_29 : decode cX11_laySure 29 = .ok (.goto 4, 3) := by decide +kernel
theorem dX11_laySure_32 : decode cX11_laySure 32 = .ok (.iconst (-1), 1) := by decide +kernel
theorem dX11_laySure_33 : decode cX11_laySure 33 = .ok (.iastore, 1) := by decide +kernel
theorem dX11_laySure_34 : decode cX11_laySure 34 = .ok (.aload_n 0, 1) := by decide +kernel
theorem dX11_laySure_35 : decode cX11_laySure 35 = .ok (.getfield 39, 3) := by decide +kernel
theorem dX11_laySure_38 : decode cX11_laySure 38 = .ok (.iload_n 1, 1) := by decide +kernel
theorem dX11_laySure_39 : decode cX11_laySure 39 = .ok (.iconst 0, 1) := by decide +kernel
theorem dX11_laySure_40 : decode cX11_laySure 40 = .ok (.iastore, 1) := by decide +kernel
theorem dX11_laySure_41 : decode cX11_laySure 41 = .ok (.iconst 0, 1) := by decide +kernel
theorem dX11_laySure_42 : decode cX11_laySure 42 = .ok (.istore_n 2, 1) := by decide +kernel
theorem dX11_laySure_43 : decode cX11_laySure 43 = .ok (.iload_n 2, 1) := by decide +kernel
theorem dX11_laySure_44 : decode cX11_laySure 44 = .ok (.bipush 8, 2) := by decide +kernel
theorem dX11_laySure_46 : decode cX11_laySure 46 = .ok (.if_icmp .ge 188, 3) := by decide +kernel
theorem dX11_laySure_49 : decode cX11_laySure 49 = .ok (.iload_n 1, 1) := by decide +kernel
theorem dX11_laySure_50 : decode cX11_laySure 50 = .ok (.invokestatic 188, 3) := by decide +kernel
theorem dX11_laySure_53 : decode cX11_laySure 53 = .ok (.iconst 1, 1) := by decide +kernel
theorem dX11_laySure_54 : decode cX11_laySure 54 = .ok (.if_icmp .le 180, 3) := by decide +kernel
theorem dX11_laySure_57 : decode cX11_laySure 57 = .ok (.iconst 0, 1) := by decide +kernel
theorem dX11_laySure_58 : decode cX11_laySure 58 = .ok (.istore_n 3, 1) := by decide +kernel
theorem dX11_laySure_59 : decode cX11_laySure 59 = .ok (.iconst 0, 1) := by decide +kernel
theorem dX11_laySure_60 : decode cX11_laySure 60 = .ok (.istore 4, 2) := by decide +kernel
theorem dX11_laySure_62 : decode cX11_laySure 62 = .ok (.iload 4, 2) := by decide +kernel
theorem dX11_laySure_64 : decode cX11_laySure 64 = .ok (.aload_n 0, 1) := by decide +kernel
theorem dX11_laySure_65 : decode cX11_laySure 65 = .ok (.getfield 7, 3) := by decide +kernel
theorem dX11_laySure_68 : decode cX11_laySure 68 = .ok (.bipush 64, 2) := by decide +kernel
theorem dX11_laySure_70 : decode cX11_laySure 70 = .ok (.iaload, 1) := by decide +kernel
theorem dX11_laySure_71 : decode cX11_laySure 71 = .ok (.if_icmp .ge 77, 3) := by decide +kernel
theorem dX11_laySure_74 : decode cX11_laySure 74 = .ok (.iload_n 1, 1) := by decide +kernel
theorem dX11_laySure_75 : decode cX11_laySure 75 = .ok (.iload 4, 2) := by decide +kernel
theorem dX11_laySure_77 : decode cX11_laySure 77 = .ok (.invokestatic 166, 3) := by decide +kernel
theorem dX11_laySure_80 : decode cX11_laySure 80 = .ok (.ifCond .eq 14, 3) := by decide +kernel
theorem dX11_laySure_83 : decode cX11_laySure 83 = .ok (.aload_n 0, 1) := by decide +kernel
theorem dX11_laySure_84 : decode cX11_laySure 84 = .ok (.iload_n 2, 1) := by decide +kernel
theorem dX11_laySure_85 : decode cX11_laySure 85 = .ok (.iload_n 1, 1) := by decide +kernel
theorem dX11_laySure_86 : decode cX11_laySure 86 = .ok (.iload 4, 2) := by decide +kernel
theorem dX11_laySure_88 : decode cX11_laySure 88 = .ok (.invokevirtual 191, 3) := by decide +kernel
theorem dX11_laySure_91 : decode cX11_laySure 91 = .ok (.goto 4, 3) := by decide +kernel
theorem dX11_laySure_94 : decode cX11_laySure 94 = .ok (.iconst 0, 1) := by decide +kernel
theorem dX11_laySure_95 : decode cX11_laySure 95 = .ok (.istore 5, 2) := by decide +kernel
theorem dX11_laySure_97 : decode cX11_laySure 97 = .ok (.iload 5, 2) := by decide +kernel
theorem dX11_laySure_99 : decode cX11_laySure 99 = .ok (.iload_n 1, 1) := by decide +kernel
theorem dX11_laySure_100 : decode cX11_laySure 100 = .ok (.if_icmp .eq 14, 3) := by decide +kernel
theorem dX11_laySure_103 : decode cX11_laySure 103 = .ok (.aload_n 0, 1) := by decide +kernel
theorem dX11_laySure_104 : decode cX11_laySure 104 = .ok (.getfield 36, 3) := by decide +kernel
theorem dX11_laySure_107 : decode cX11_laySure 107 = .ok (.iload 5, 2) := by decide +kernel
theorem dX11_laySure_109 : decode cX11_laySure 109 = .ok (.iaload, 1) := by decide +kernel
theorem dX11_laySure_110 : decode cX11_laySure 110 = .ok (.iconst (-1), 1) := by decide +kernel
theorem dX11_laySure_111 : decode cX11_laySure 111 = .ok (.if_icmp .ne 9, 3) := by decide +kernel
theorem dX11_laySure_114 : decode cX11_laySure 114 = .ok (.sipush 999, 3) := by decide +kernel
theorem dX11_laySure_117 : decode cX11_laySure 117 = .ok (.goto 10, 3) := by decide +kernel
theorem dX11_laySure_120 : decode cX11_laySure 120 = .ok (.aload_n 0, 1) := by decide +kernel
theorem dX11_laySure_121 : decode cX11_laySure 121 = .ok (.getfield 36, 3) := by decide +kernel
theorem dX11_laySure_124 : decode cX11_laySure 124 = .ok (.iload 5, 2) := by decide +kernel
theorem dX11_laySure_126 : decode cX11_laySure 126 = .ok (.iaload, 1) := by decide +kernel
theorem dX11_laySure_127 : decode cX11_laySure 127 = .ok (.istore 6, 2) := by decide +kernel
theorem dX11_laySure_129 : decode cX11_laySure 129 = .ok (.iload 6, 2) := by decide +kernel
theorem dX11_laySure_131 : decode cX11_laySure 131 = .ok (.iload_n 3, 1) := by decide +kernel
theorem dX11_laySure_132 : decode cX11_laySure 132 = .ok (.if_icmp .le 8, 3) := by decide +kernel
theorem dX11_laySure_135 : decode cX11_laySure 135 = .ok (.iload 6, 2) := by decide +kernel
theorem dX11_laySure_137 : decode cX11_laySure 137 = .ok (.goto 4, 3) := by decide +kernel
theorem dX11_laySure_140 : decode cX11_laySure 140 = .ok (.iload_n 3, 1) := by decide +kernel
theorem dX11_laySure_141 : decode cX11_laySure 141 = .ok (.istore_n 3, 1) := by decide +kernel
theorem dX11_laySure_142 : decode cX11_laySure 142 = .ok (.iinc 4 1, 3) := by decide +kernel
theorem dX11_laySure_145 : decode cX11_laySure 145 = .ok (.goto (-83), 3) := by decide +kernel
theorem dX11_laySure_148 : decode cX11_laySure 148 = .ok (.iload_n 3, 1) := by decide +kernel
theorem dX11_laySure_149 : decode cX11_laySure 149 = .ok (.sipush 999, 3) := by decide +kernel
theorem dX11_laySure_152 : decode cX11_laySure 152 = .ok (.if_icmp .ge 29, 3) := by decide +kernel
theorem dX11_laySure_155 : decode cX11_laySure 155 = .ok (.aload_n 0, 1) := by decide +kernel
theorem dX11_laySure_156 : decode cX11_laySure 156 = .ok (.getfield 36, 3) := by decide +kernel
theorem dX11_laySure_159 : decode cX11_laySure 159 = .ok (.iload_n 1, 1) := by decide +kernel
theorem dX11_laySure_160 : decode cX11_laySure 160 = .ok (.iaload, 1) := by decide +kernel
theorem dX11_laySure_161 : decode cX11_laySure 161 = .ok (.iconst (-1), 1) := by decide +kernel
theorem dX11_laySure_162 : decode cX11_laySure 162 = .ok (.if_icmp .eq 15, 3) := by decide +kernel
theorem dX11_laySure_165 : decode cX11_laySure 165 = .ok (.iconst 1, 1) := by decide +kernel
theorem dX11_laySure_166 : decode cX11_laySure 166 = .ok (.iload_n 3, 1) := by decide +kernel
theorem dX11_laySure_167 : decode cX11_laySure 167 = .ok (.iadd, 1) := by decide +kernel
theorem dX11_laySure_168 : decode cX11_laySure 168 = .ok (.aload_n 0, 1) := by decide +kernel
theorem dX11_laySure_169 : decode cX11_laySure 169 = .ok (.getfield 36, 3) := by decide +kernel
theorem dX11_laySure_172 : decode cX11_laySure 172 = .ok (.iload_n 1, 1) := by decide +kernel
theorem dX11_laySure_173 : decode cX11_laySure 173 = .ok (.iaload, 1) := by decide +kernel
theorem dX11_laySure_174 : decode cX11_laySure 174 = .ok (.if_icmp .ge 7, 3) := by decide +kernel
theorem dX11_laySure_177 : decode cX11_laySure 177 = .ok (.iconst 1, 1) := by decide +kernel
theorem dX11_laySure_178 : decode cX11_laySure 178 = .ok (.goto 4, 3) := by decide +kernel
theorem dX11_laySure_181 : decode cX11_laySure 181 = .ok (.iconst 0, 1) := by decide +kernel
theorem dX11_laySure_182 : decode cX11_laySure 182 = .ok (.istore 4, 2) := by decide +kernel
theorem dX11_laySure_184 : decode cX11_laySure 184 = .ok (.aload_n 0, 1) := by decide +kernel
theorem dX11_laySure_185 : decode cX11_laySure 185 = .ok (.getfield 39, 3) := by decide +kernel
theorem dX11_laySure_188 : decode cX11_laySure 188 = .ok (.iload_n 1, 1) := by decide +kernel
theorem dX11_laySure_189 : decode cX11_laySure 189 = .ok (.iload 4, 2) := by decide +kernel
theorem dX11_laySure_191 : decode cX11_laySure 191 = .ok (.ifCond .eq 7, 3) := by decide +kernel
theorem dX11_laySure_194 : decode cX11_laySure 194 = .ok (.iload_n 2, 1) := by decide +kernel
theorem dX11_laySure_195 : decode cX11_laySure 195 = .ok (.goto 9, 3) := by decide +kernel
theorem dX11_laySure_198 : decode cX11_laySure 198 = .ok (.aload_n 0, 1) := by decide +kernel
theorem dX11_laySure_199 : decode cX11_laySure 199 = .ok (.getfield 39, 3) := by decide +kernel
theorem dX11_laySure_202 : decode cX11_laySure 202 = .ok (.iload_n 1, 1) := by decide +kernel
theorem dX11_laySure_203 : decode cX11_laySure 203 = .ok (.iaload, 1) := by decide +kernel
theorem dX11_laySure_204 : decode cX11_laySure 204 = .ok (.iastore, 1) := by decide +kernel
theorem dX11_laySure_205 : decode cX11_laySure 205 = .ok (.aload_n 0, 1) := by decide +kernel
theorem dX11_laySure_206 : decode cX11_laySure 206 = .ok (.getfield 36, 3) := by decide +kernel
theorem dX11_laySure_209 : decode cX11_laySure 209 = .ok (.iload_n 1, 1) := by decide +kernel
theorem dX11_laySure_210 : decode cX11_laySure 210 = .ok (.iload 4, 2) := by decide +kernel
theorem dX11_laySure_212 : decode cX11_laySure 212 = .ok (.ifCond .eq 9, 3) := by decide +kernel
theorem dX11_laySure_215 : decode cX11_laySure 215 = .ok (.iconst 1, 1) := by decide +kernel
theorem dX11_laySure_216 : decode cX11_laySure 216 = .ok (.iload_n 3, 1) := by decide +kernel
theorem dX11_laySure_217 : decode cX11_laySure 217 = .ok (.iadd, 1) := by decide +kernel
theorem dX11_laySure_218 : decode cX11_laySure 218 = .ok (.goto 9, 3) := by decide +kernel
theorem dX11_laySure_221 : decode cX11_laySure 221 = .ok (.aload_n 0, 1) := by decide +kernel
theorem dX11_laySure_222 : decode cX11_laySure 222 = .ok (.getfield 36, 3) := by decide +kernel
theorem dX11_laySure_225 : decode cX11_laySure 225 = .ok (.iload_n 1, 1) := by decide +kernel
theorem dX11_laySure_226 : decode cX11_laySure 226 = .ok (.iaload, 1) := by decide +kernel
theorem dX11_laySure_227 : decode cX11_laySure 227 = .ok (.iastore, 1) := by decide +kernel
theorem dX11_laySure_228 : decode cX11_laySure 228 = .ok (.iinc 2 1, 3) := by decide +kernel
theorem dX11_laySure_231 : decode cX11_laySure 231 = .ok (.goto (-188), 3) := by decide +kernel
theorem dX11_laySure_234 : decode cX11_laySure 234 = .ok (.iinc 1 1, 3) := by decide +kernel
theorem dX11_laySure_237 : decode cX11_laySure 237 = .ok (.goto (-235), 3) := by decide +kernel
theorem dX11_laySure_240 : decode cX11_laySure 240 = .ok (.return_, 1) := by decide +kernel
theorem dX11_sure_0 : decode cX11_sure 0 = .ok (.iload_n 1, 1) := by decide +kernel
theorem dX11_sure_1 : decode cX11_sure 1 = .ok (.iconst 1, 1) := by decide +kernel
theorem dX11_sure_2 : decode cX11_sure 2 = .ok (.iconst 1, 1) := by decide +kernel
theorem dX11_sure_3 : decode cX11_sure 3 = .ok (.aload_n 0, 1) := by decide +kernel
theorem dX11_sure_4 : decode cX11_sure 4 = .ok (.getfield 7, 3) := by decide +kernel
theorem dX11_sure_7 : decode cX11_sure 7 = .ok (.bipush 64, 2) := by decide +kernel
theorem dX11_sure_9 : decode cX11_sure 9 = .ok (.iaload, 1) := by decide +kernel
theorem dX11_sure_10 : decode cX11_sure 10 = .ok (.ishl, 1) := by decide +kernel
theorem dX11_sure_11 : decode cX11_sure 11 = .ok (.iconst 1, 1) := by decide +kernel
theorem dX11_sure_12 : decode cX11_sure 12 = .ok (.isub, 1) := by decide +kernel
theorem dX11_sure_13 : decode cX11_sure 13 = .ok (.invokestatic 52, 3) := by decide +kernel
theorem dX11_sure_16 : decode cX11_sure 16 = .ok (.ifCond .eq 12, 3) := by decide +kernel
theorem dX11_sure_19 : decode cX11_sure 19 = .ok (.iload_n 2, 1) := by decide +kernel
theorem dX11_sure_20 : decode cX11_sure 20 = .ok (.iconst 0, 1) := by decide +kernel
theorem dX11_sure_21 : decode cX11_sure 21 = .ok (.iconst 1, 1) := by decide +kernel
theorem dX11_sure_22 : decode cX11_sure 22 = .ok (.invokestatic 52, 3) := by decide +kernel
theorem dX11_sure_25 : decode cX11_sure 25 = .ok (.ifCond .ne 8, 3) := by decide +kernel
theorem dX11_sure_28 : decode cX11_sure 28 = .ok (.aload_n 0, 1) := by decide +kernel
theorem dX11_sure_29 : decode cX11_sure 29 = .ok (.invokevirtual 60, 3) := by decide +kernel
theorem dX11_sure_32 : decode cX11_sure 32 = .ok (.ireturn, 1) := by decide +kernel
theorem dX11_sure_33 : decode cX11_sure 33 = .ok (.aload_n 0, 1) := by decide +kernel
theorem dX11_sure_34 : decode cX11_sure 34 = .ok (.invokevirtual 146, 3) := by decide +kernel
theorem dX11_sure_37 : decode cX11_sure 37 = .ok (.aload_n 0, 1) := by decide +kernel
theorem dX11_sure_38 : decode cX11_sure 38 = .ok (.invokevirtual 194, 3) := by decide +kernel
theorem dX11_sure_41 : decode cX11_sure 41 = .ok (.aload_n 0, 1) := by decide +kernel
theorem dX11_sure_42 : decode cX11_sure 42 = .ok (.getfield 36, 3) := by decide +kernel
theorem dX11_sure_45 : decode cX11_sure 45 = .ok (.iload_n 1, 1) := by decide +kernel
theorem dX11_sure_46 : decode cX11_sure 46 = .ok (.iaload, 1) := by decide +kernel
theorem dX11_sure_47 : decode cX11_sure 47 = .ok (.iconst (-1), 1) := by decide +kernel
theorem dX11_sure_48 : decode cX11_sure 48 = .ok (.if_icmp .ne 7, 3) := by decide +kernel
theorem dX11_sure_51 : decode cX11_sure 51 = .ok (.iconst (-1), 1) := by decide +kernel
theorem dX11_sure_52 : decode cX11_sure 52 = .ok (.goto 22, 3) := by decide +kernel
theorem dX11_sure_55 : decode cX11_sure 55 = .ok (.iload_n 2, 1) := by decide +kernel
theorem dX11_sure_56 : decode cX11_sure 56 = .ok (.ifCond .ne 12, 3) := by decide +kernel
theorem dX11_sure_59 : decode cX11_sure 59 = .ok (.aload_n 0, 1) := by decide +kernel
theorem dX11_sure_60 : decode cX11_sure 60 = .ok (.getfield 36, 3) := by decide +kernel
theorem dX11_sure_63 : decode cX11_sure 63 = .ok (.iload_n 1, 1) := by decide +kernel
theorem dX11_sure_64 : decode cX11_sure 64 = .ok (.iaload, 1) := by decide +kernel
theorem dX11_sure_65 : decode cX11_sure 65 = .ok (.goto 9, 3) := by decide +kernel
theorem dX11_sure_68 : decode cX11_sure 68 = .ok (.aload_n 0, 1) := by decide +kernel
theorem dX11_sure_69 : decode cX11_sure 69 = .ok (.getfield 39, 3) := by decide +kernel
theorem dX11_sure_72 : decode cX11_sure 72 = .ok (.iload_n 1, 1) := by decide +kernel
theorem dX11_sure_73 : decode cX11_sure 73 = .ok (.iaload, 1) := by decide +kernel
theorem dX11_sure_74 : decode cX11_sure 74 = .ok (.ireturn, 1) := by decide +kernel
theorem dX11_loudOnes_0 : decode cX11_loudOnes 0 = .ok (.iconst 0, 1) := by decide +kernel
theorem dX11_loudOnes_1 : decode cX11_loudOnes 1 = .ok (.istore_n 1, 1) := by decide +kernel
theorem dX11_loudOnes_2 : decode cX11_loudOnes 2 = .ok (.iconst 0, 1) := by decide +kernel
theorem dX11_loudOnes_3 : decode cX11_loudOnes 3 = .ok (.istore_n 2, 1) := by decide +kernel
theorem dX11_loudOnes_4 : decode cX11_loudOnes 4 = .ok (.iload_n 2, 1) := by decide +kernel
theorem dX11_loudOnes_5 : decode cX11_loudOnes 5 = .ok (.aload_n 0, 1) := by decide +kernel
theorem dX11_loudOnes_6 : decode cX11_loudOnes 6 = .ok (.getfield 7, 3) := by decide +kernel
theorem dX11_loudOnes_9 : decode cX11_loudOnes 9 = .ok (.bipush 64, 2) := by decide +kernel
theorem dX11_loudOnes_11 : decode cX11_loudOnes 11 = .ok (.iaload, 1) := by decide +kernel
theorem dX11_loudOnes_12 : decode cX11_loudOnes 12 = .ok (.if_icmp .ge 84, 3) := by decide +kernel
theorem dX11_loudOnes_15 : decode cX11_loudOnes 15 = .ok (.aload_n 0, 1) := by decide +kernel
theorem dX11_loudOnes_16 : decode cX11_loudOnes 16 = .ok (.getfield 7, 3) := by decide +kernel
theorem dX11_loudOnes_19 : decode cX11_loudOnes 19 = .ok (.bipush 65, 2) := by decide +kernel
theorem dX11_loudOnes_21 : decode cX11_loudOnes 21 = .ok (.iload_n 2, 1) := by decide +kernel
theorem dX11_loudOnes_22 : decode cX11_loudOnes 22 = .ok (.iadd, 1) := by decide +kernel
theorem dX11_loudOnes_23 : decode cX11_loudOnes 23 = .ok (.iaload, 1) := by decide +kernel
theorem dX11_loudOnes_24 : decode cX11_loudOnes 24 = .ok (.iconst 3, 1) := by decide +kernel
theorem dX11_loudOnes_25 : decode cX11_loudOnes 25 = .ok (.if_icmp .eq 16, 3) := by decide +kernel
theorem dX11_loudOnes_28 : decode cX11_loudOnes 28 = .ok (.aload_n 0, 1) := by decide +kernel
theorem dX11_loudOnes_29 : decode cX11_loudOnes 29 = .ok (.getfield 7, 3) := by decide +kernel
theorem dX11_loudOnes_32 : decode cX11_loudOnes 32 = .ok (.bipush 65, 2) := by decide +kernel
theorem dX11_loudOnes_34 : decode cX11_loudOnes 34 = .ok (.iload_n 2, 1) := by decide +kernel
theorem dX11_loudOnes_35 : decode cX11_loudOnes 35 = .ok (.iadd, 1) := by decide +kernel
theorem dX11_loudOnes_36 : decode cX11_loudOnes 36 = .ok (.iaload, 1) := by decide +kernel
theorem dX11_loudOnes_37 : decode cX11_loudOnes 37 = .ok (.iconst 4, 1) := by decide +kernel
theorem dX11_loudOnes_38 : decode cX11_loudOnes 38 = .ok (.if_icmp .ne 7, 3) := by decide +kernel
theorem dX11_loudOnes_41 : decode cX11_loudOnes 41 = .ok (.iconst 1, 1) := by decide +kernel
theorem dX11_loudOnes_42 : decode cX11_loudOnes 42 = .ok (.goto 4, 3) := by decide +kernel
theorem dX11_loudOnes_45 : decode cX11_loudOnes 45 = .ok (.iconst 0, 1) := by decide +kernel
theorem dX11_loudOnes_46 : decode cX11_loudOnes 46 = .ok (.istore_n 3, 1) := by decide +kernel
theorem dX11_loudOnes_47 : decode cX11_loudOnes 47 = .ok (.iload_n 1, 1) := by decide +kernel
theorem dX11_loudOnes_48 : decode cX11_loudOnes 48 = .ok (.iload_n 3, 1) := by decide +kernel
theorem dX11_loudOnes_49 : decode cX11_loudOnes 49 = .ok (.ifCond .ne 38, 3) := by decide +kernel
theorem dX11_loudOnes_52 : decode cX11_loudOnes 52 = .ok (.aload_n 0, 1) := by decide +kernel
theorem dX11_loudOnes_53 : decode cX11_loudOnes 53 = .ok (.getfield 7, 3) := by decide +kernel
theorem dX11_loudOnes_56 : decode cX11_loudOnes 56 = .ok (.bipush 93, 2) := by decide +kernel
theorem dX11_loudOnes_58 : decode cX11_loudOnes 58 = .ok (.iaload, 1) := by decide +kernel
theorem dX11_loudOnes_59 : decode cX11_loudOnes 59 = .ok (.iload_n 2, 1) := by decide +kernel
theorem dX11_loudOnes_60 : decode cX11_loudOnes 60 = .ok (.invokestatic 166, 3) := by decide +kernel
theorem dX11_loudOnes_63 : decode cX11_loudOnes 63 = .ok (.ifCond .ne 24, 3) := by decide +kernel
theorem dX11_loudOnes_66 : decode cX11_loudOnes 66 = .ok (.aload_n 0, 1) := by decide +kernel
theorem dX11_loudOnes_67 : decode cX11_loudOnes 67 = .ok (.iload_n 2, 1) := by decide +kernel
theorem dX11_loudOnes_68 : decode cX11_loudOnes 68 = .ok (.aload_n 0, 1) := by decide +kernel
theorem dX11_loudOnes_69 : decode cX11_loudOnes 69 = .ok (.getfield 7, 3) := by decide +kernel
theorem dX11_loudOnes_72 : decode cX11_loudOnes 72 = .ok (.bipush 92, 2) := by decide +kernel
theorem dX11_loudOnes_74 : decode cX11_loudOnes 74 = .ok (.iaload, 1) := by decide +kernel
theorem dX11_loudOnes_75 : decode cX11_loudOnes 75 = .ok (.invokevirtual 185, 3) := by decide +kernel
theorem dX11_loudOnes_78 : decode cX11_loudOnes 78 = .ok (.ifCond .eq 9, 3) := by decide +kernel
theorem dX11_loudOnes_81 : decode cX11_loudOnes 81 = .ok (.iconst 1, 1) := by decide +kernel
theorem dX11_loudOnes_82 : decode cX11_loudOnes 82 = .ok (.iload_n 2, 1) := by decide +kernel
theorem dX11_loudOnes_83 : decode cX11_loudOnes 83 = .ok (.ishl, 1) := by decide +kernel
theorem dX11_loudOnes_84 : decode cX11_loudOnes 84 = .ok (.goto 4, 3) := by decide +kernel
theorem dX11_loudOnes_87 : decode cX11_loudOnes 87 = .ok (.iconst 0, 1) := by decide +kernel
theorem dX11_loudOnes_88 : decode cX11_loudOnes 88 = .ok (.ior, 1) := by decide +kernel
theorem dX11_loudOnes_89 : decode cX11_loudOnes 89 = .ok (.istore_n 1, 1) := by decide +kernel
theorem dX11_loudOnes_90 : decode cX11_loudOnes 90 = .ok (.iinc 2 1, 3) := by decide +kernel
theorem dX11_loudOnes_93 : decode cX11_loudOnes 93 = .ok (.goto (-89), 3) := by decide +kernel
theorem dX11_loudOnes_96 : decode cX11_loudOnes 96 = .ok (.iload_n 1, 1) := by decide +kernel
theorem dX11_loudOnes_97 : decode cX11_loudOnes 97 = .ok (.ireturn, 1) := by decide +kernel
theorem dX11_wayBy_0 : decode cX11_wayBy 0 = .ok (.aload_n 0, 1) := by decide +kernel
theorem dX11_wayBy_1 : decode cX11_wayBy 1 = .ok (.getfield 7, 3) := by decide +kernel
theorem dX11_wayBy_4 : decode cX11_wayBy 4 = .ok (.bipush 91, 2) := by decide +kernel
theorem dX11_wayBy_6 : decode cX11_wayBy 6 = .ok (.iaload, 1) := by decide +kernel
theorem dX11_wayBy_7 : decode cX11_wayBy 7 = .ok (.istore_n 2, 1) := by decide +kernel
theorem dX11_wayBy_8 : decode cX11_wayBy 8 = .ok (.iconst 0, 1) := by decide +kernel
theorem dX11_wayBy_9 : decode cX11_wayBy 9 = .ok (.istore_n 3, 1) := by decide +kernel
theorem dX11_wayBy_10 : decode cX11_wayBy 10 = .ok (.iconst 0, 1) := by decide +kernel
theorem dX11_wayBy_11 : decode cX11_wayBy 11 = .ok (.istore 4, 2) := by decide +kernel
theorem dX11_wayBy_13 : decode cX11_wayBy 13 = .ok (.iload 4, 2) := by decide +kernel
theorem dX11_wayBy_15 : decode cX11_wayBy 15 = .ok (.iload_n 1, 1) := by decide +kernel
theorem dX11_wayBy_16 : decode cX11_wayBy 16 = .ok (.if_icmp .ge 57, 3) := by decide +kernel
theorem dX11_wayBy_19 : decode cX11_wayBy 19 = .ok (.iload_n 3, 1) := by decide +kernel
theorem dX11_wayBy_20 : decode cX11_wayBy 20 = .ok (.ifCond .lt 53, 3) := by decide +kernel
theorem dX11_wayBy_23 : decode cX11_wayBy 23 = .ok (.aload_n 0, 1) := by decide +kernel
theorem dX11_wayBy_24 : decode cX11_wayBy 24 = .ok (.getfield 7, 3) := by decide +kernel
theorem dX11_wayBy_27 : decode cX11_wayBy 27 = .ok (.bipush 71, 2) := by decide +kernel
theorem dX11_wayBy_29 : decode cX11_wayBy 29 = .ok (.aload_n 0, 1) := by decide +kernel
theorem dX11_wayBy_30 : decode cX11_wayBy 30 = .ok (.getfield 42, 3) := by decide +kernel
theorem dX11_wayBy_33 : decode cX11_wayBy 33 = .ok (.iload 4, 2) := by decide +kernel
theorem dX11_wayBy_35 : decode cX11_wayBy 35 = .ok (.iaload, 1) := by decide +kernel
theorem dX11_wayBy_36 : decode cX11_wayBy 36 = .ok (.iadd, 1) := by decide +kernel
theorem dX11_wayBy_37 : decode cX11_wayBy 37 = .ok (.iaload, 1) := by decide +kernel
theorem dX11_wayBy_38 : decode cX11_wayBy 38 = .ok (.istore 5, 2) := by decide +kernel
theorem dX11_wayBy_40 : decode cX11_wayBy 40 = .ok (.aload_n 0, 1) := by decide +kernel
theorem dX11_wayBy_41 : decode cX11_wayBy 41 = .ok (.iload_n 2, 1) := by decide +kernel
theorem dX11_wayBy_42 : decode cX11_wayBy 42 = .ok (.iload 5, 2) := by decide +kernel
theorem dX11_wayBy_44 : decode cX11_wayBy 44 = .ok (.invokevirtual 153, 3) := by decide +kernel
theorem dX11_wayBy_47 : decode cX11_wayBy 47 = .ok (.ifCond .ge 7, 3) := by decide +kernel
theorem dX11_wayBy_50 : decode cX11_wayBy 50 = .ok (.iconst (-1), 1) := by decide +kernel
theorem dX11_wayBy_51 : decode cX11_wayBy 51 = .ok (.goto 12, 3) := by decide +kernel
theorem dX11_wayBy_54 : decode cX11_wayBy 54 = .ok (.iload_n 3, 1) := by decide +kernel
theorem dX11_wayBy_55 : decode cX11_wayBy 55 = .ok (.aload_n 0, 1) := by decide +kernel
theorem dX11_wayBy_56 : decode cX11_wayBy 56 = .ok (.iload_n 2, 1) := by decide +kernel
theorem dX11_wayBy_57 : decode cX11_wayBy 57 = .ok (.iload 5, 2) := by decide +kernel
theorem dX11_wayBy_59 : decode cX11_wayBy 59 = .ok (.invokevirtual 153, 3) := by decide +kernel
theorem dX11_wayBy_62 : decode cX11_wayBy 62 = .ok (.iadd, 1) := by decide +kernel
theorem dX11_wayBy_63 : decode cX11_wayBy 63 = .ok (.istore_n 3, 1) := by decide +kernel
theorem dX11_wayBy_64 : decode cX11_wayBy 64 = .ok (.iload 5, 2) := by decide +kernel
theorem dX11_wayBy_66 : decode cX11_wayBy 66 = .ok (.istore_n 2, 1) := by decide +kernel
theorem dX11_wayBy_67 : decode cX11_wayBy 67 = .ok (.iinc 4 1, 3) := by decide +kernel
theorem dX11_wayBy_70 : decode cX11_wayBy 70 = .ok (.goto (-57), 3) := by decide +kernel
theorem dX11_wayBy_73 : decode cX11_wayBy 73 = .ok (.iload_n 3, 1) := by decide +kernel
theorem dX11_wayBy_74 : decode cX11_wayBy 74 = .ok (.ireturn, 1) := by decide +kernel
theorem dX11_layWay_0 : decode cX11_layWay 0 = .ok (.aload_n 0, 1) := by decide +kernel
theorem dX11_layWay_1 : decode cX11_layWay 1 = .ok (.invokevirtual 197, 3) := by decide +kernel
theorem dX11_layWay_4 : decode cX11_layWay 4 = .ok (.istore_n 1, 1) := by decide +kernel
theorem dX11_layWay_5 : decode cX11_layWay 5 = .ok (.iload_n 1, 1) := by decide +kernel
theorem dX11_layWay_6 : decode cX11_layWay 6 = .ok (.invokestatic 188, 3) := by decide +kernel
theorem dX11_layWay_9 : decode cX11_layWay 9 = .ok (.istore_n 2, 1) := by decide +kernel
theorem dX11_layWay_10 : decode cX11_layWay 10 = .ok (.iconst 1, 1) := by decide +kernel
theorem dX11_layWay_11 : decode cX11_layWay 11 = .ok (.istore_n 3, 1) := by decide +kernel
theorem dX11_layWay_12 : decode cX11_layWay 12 = .ok (.iconst 0, 1) := by decide +kernel
theorem dX11_layWay_13 : decode cX11_layWay 13 = .ok (.istore 4, 2) := by decide +kernel
theorem dX11_layWay_15 : decode cX11_layWay 15 = .ok (.iload 4, 2) := by decide +kernel
theorem dX11_layWay_17 : decode cX11_layWay 17 = .ok (.iload_n 2, 1) := by decide +kernel
theorem dX11_layWay_18 : decode cX11_layWay 18 = .ok (.if_icmp .ge 14, 3) := by decide +kernel
theorem dX11_layWay_21 : decode cX11_layWay 21 = .ok (.iload_n 3, 1) := by decide +kernel
theorem dX11_layWay_22 : decode cX11_layWay 22 = .ok (.bipush 6, 2) := by decide +kernel
theorem dX11_layWay_24 : decode cX11_layWay 24 = .ok (.imul, 1) := by decide +kernel
theorem dX11_layWay_25 : decode cX11_layWay 25 = .ok (.istore_n 3, 1) := by decide +kernel
theorem dX11_layWay_26 : decode cX11_layWay 26 = .ok (.iinc 4 1, 3) := by decide +kernel
theorem dX11_layWay_29 : decode cX11_layWay 29 = .ok (.goto (-14), 3) := by decide +kernel
theorem dX11_layWay_32 : decode cX11_layWay 32 = .ok (.iconst (-1), 1) := by decide +kernel
theorem dX11_layWay_33 : decode cX11_layWay 33 = .ok (.istore 4, 2) := by decide +kernel
theorem dX11_layWay_35 : decode cX11_layWay 35 = .ok (.aload_n 0, 1) := by decide +kernel
theorem dX11_layWay_36 : decode cX11_layWay 36 = .ok (.iload_n 2, 1) := by decide +kernel
theorem dX11_layWay_37 : decode cX11_layWay 37 = .ok (.putfield 200, 3) := by decide +kernel
theorem dX11_layWay_40 : decode cX11_layWay 40 = .ok (.iconst 0, 1) := by decide +kernel
theorem dX11_layWay_41 : decode cX11_layWay 41 = .ok (.istore 5, 2) := by decide +kernel
theorem dX11_layWay_43 : decode cX11_layWay 43 = .ok (.iload 5, 2) := by decide +kernel
theorem dX11_layWay_45 : decode cX11_layWay 45 = .ok (.iload_n 3, 1) := by decide +kernel
theorem dX11_layWay_46 : decode cX11_layWay 46 = .ok (.if_icmp .ge 120, 3) := by decide +kernel
theorem dX11_layWay_49 : decode cX11_layWay 49 = .ok (.iload 5, 2) := by decide +kernel
theorem dX11_layWay_51 : decode cX11_layWay 51 = .ok (.istore 6, 2) := by decide +kernel
theorem dX11_layWay_53 : decode cX11_layWay 53 = .ok (.iconst 0, 1) := by decide +kernel
theorem dX11_layWay_54 : decode cX11_layWay 54 = .ok (.istore 7, 2) := by decide +kernel
theorem dX11_layWay_56 : decode cX11_layWay 56 = .ok (.iload_n 2, 1) := by decide +kernel
theorem dX11_layWay_57 : decode cX11_layWay 57 = .ok (.iconst 1, 1) := by decide +kernel
theorem dX11_layWay_58 : decode cX11_layWay 58 = .ok (.isub, 1) := by decide +kernel
theorem dX11_layWay_59 : decode cX11_layWay 59 = .ok (.istore 8, 2) := by decide +kernel
theorem dX11_layWay_61 : decode cX11_layWay 61 = .ok (.iload 8, 2) := by decide +kernel
theorem dX11_layWay_63 : decode cX11_layWay 63 = .ok (.ifCond .lt 42, 3) := by decide +kernel
theorem dX11_layWay_66 : decode cX11_layWay 66 = .ok (.aload_n 0, 1) := by decide +kernel
theorem dX11_layWay_67 : decode cX11_layWay 67 = .ok (.getfield 42, 3) := by decide +kernel
theorem dX11_layWay_70 : decode cX11_layWay 70 = .ok (.iload 8, 2) := by decide +kernel
theorem dX11_layWay_72 : decode cX11_layWay 72 = .ok (.iload 6, 2) := by decide +kernel
theorem dX11_layWay_74 : decode cX11_layWay 74 = .ok (.bipush 6, 2) := by decide +kernel
theorem dX11_layWay_76 : decode cX11_layWay 76 = .ok (.irem, 1) := by decide +kernel
theorem dX11_layWay_77 : decode cX11_layWay 77 = .ok (.iastore, 1) := by decide +kernel
theorem dX11_layWay_78 : decode cX11_layWay 78 = .ok (.iload 6, 2) := by decide +kernel
theorem dX11_layWay_80 : decode cX11_layWay 80 = .ok (.bipush 6, 2) := by decide +kernel
theorem dX11_layWay_82 : decode cX11_layWay 82 = .ok (.idiv, 1) := by decide +kernel
theorem dX11_layWay_83 : decode cX11_layWay 83 = .ok (.istore 6, 2) := by decide +kernel
theorem dX11_layWay_85 : decode cX11_layWay 85 = .ok (.iload 7, 2) := by decide +kernel
theorem dX11_layWay_87 : decode cX11_layWay 87 = .ok (.iconst 1, 1) := by decide +kernel
theorem dX11_layWay_88 : decode cX11_layWay 88 = .ok (.aload_n 0, 1) := by decide +kernel
theorem dX11_layWay_89 : decode cX11_layWay 89 = .ok (.getfield 42, 3) := by decide +kernel
theorem dX11_layWay_92 : decode cX11_layWay 92 = .ok (.iload 8, 2) := by decide +kernel
theorem dX11_layWay_94 : decode cX11_layWay 94 = .ok (.iaload, 1) := by decide +kernel
theorem dX11_layWay_95 : decode cX11_layWay 95 = .ok (.ishl, 1) := by decide +kernel
theorem dX11_layWay_96 : decode cX11_layWay 96 = .ok (.ior, 1) := by decide +kernel
theorem dX11_layWay_97 : decode cX11_layWay 97 = .ok (.istore 7, 2) := by decide +kernel
theorem dX11_layWay_99 : decode cX11_layWay 99 = .ok (.iinc 8 (-1), 3) := by decide +kernel
theorem dX11_layWay_102 : decode cX11_layWay 102 = .ok (.goto (-41), 3) := by decide +kernel
theorem dX11_layWay_105 : decode cX11_layWay 105 = .ok (.iload 7, 2) := by decide +kernel
theorem dX11_layWay_107 : decode cX11_layWay 107 = .ok (.iload_n 1, 1) := by decide +kernel
theorem dX11_layWay_108 : decode cX11_layWay 108 = .ok (.if_icmp .ne 11, 3) := by decide +kernel
theorem dX11_layWay_111 : decode cX11_layWay 111 = .ok (.aload_n 0, 1) := by decide +kernel
theorem dX11_layWay_112 : decode cX11_layWay 112 = .ok (.iload_n 2, 1) := by decide +kernel
theorem dX11_layWay_113 : decode cX11_layWay 113 = .ok (.invokevirtual 203, 3) := by decide +kernel
theorem dX11_layWay_116 : decode cX11_layWay 116 = .ok (.goto 4, 3) := by decide +kernel
theorem dX11_layWay_119 : decode cX11_layWay 119 = .ok (.iconst (-1), 1) := by decide +kernel
theorem dX11_layWay_120 : decode cX11_layWay 120 = .ok (.istore 8, 2) := by decide +kernel
theorem dX11_layWay_122 : decode cX11_layWay 122 = .ok (.iload 8, 2) := by decide +kernel
theorem dX11_layWay_124 : decode cX11_layWay 124 = .ok (.iconst (-1), 1) := by decide +kernel
theorem dX11_layWay_125 : decode cX11_layWay 125 = .ok (.if_icmp .eq 35, 3) := by decide +kernel
theorem dX11_layWay_128 : decode cX11_layWay 128 = .ok (.iload 4, 2) := by decide +kernel
theorem dX11_layWay_130 : decode cX11_layWay 130 = .ok (.iconst (-1), 1) := by decide +kernel
theorem dX11_layWay_131 : decode cX11_layWay 131 = .ok (.if_icmp .eq 10, 3) := by decide +kernel
theorem dX11_layWay_134 : decode cX11_layWay 134 = .ok (.iload 8, 2) := by decide +kernel
theorem dX11_layWay_136 : decode cX11_layWay 136 = .ok (.iload 4, 2) := by decide +kernel
theorem dX11_layWay_138 : decode cX11_layWay 138 = .ok (.if_icmp .ge 22, 3) := by decide +kernel
theorem dX11_layWay_141 : decode cX11_layWay 141 = .ok (.iload 8, 2) := by decide +kernel
theorem dX11_layWay_143 : decode cX11_layWay 143 = .ok (.istore 4, 2) := by decide +kernel
theorem dX11_layWay_145 : decode cX11_layWay 145 = .ok (.aload_n 0, 1) := by decide +kernel
theorem dX11_layWay_146 : decode cX11_layWay 146 = .ok (.getfield 42, 3) := by decide +kernel
theorem dX11_layWay_149 : decode cX11_layWay 149 = .ok (.iconst 0, 1) := by decide +kernel
theorem dX11_layWay_150 : decode cX11_layWay 150 = .ok (.aload_n 0, 1) := by decide +kernel
theorem dX11_layWay_151 : decode cX11_layWay 151 = .ok (.getfield 45, 3) := by decide +kernel
theorem dX11_layWay_154 : decode cX11_layWay 154 = .ok (.iconst 0, 1) := by decide +kernel
theorem dX11_layWay_155 : decode cX11_layWay 155 = .ok (.bipush 6, 2) := by decide +kernel
theorem dX11_layWay_157 : decode cX11_layWay 157 = .ok (.invokestatic 135, 3) := by decide +kernel
theorem dX11_layWay_160 : decode cX11_layWay 160 = .ok (.iinc 5 1, 3) := by decide +kernel
theorem dX11_layWay_163 : decode cX11_layWay 163 = .ok (.goto (-120), 3) := by decide +kernel
theorem dX11_layWay_166 : decode cX11_layWay 166 = .ok (.iload 4, 2) := by decide +kernel
theorem dX11_layWay_168 : decode cX11_layWay 168 = .ok (.ireturn, 1) := by decide +kernel
theorem dX11_way_0 : decode cX11_way 0 = .ok (.iload_n 1, 1) := by decide +kernel
theorem dX11_way_1 : decode cX11_way 1 = .ok (.iconst (-1), 1) := by decide +kernel
theorem dX11_way_2 : decode cX11_way 2 = .ok (.if_icmp .ge 16, 3) := by decide +kernel
theorem dX11_way_5 : decode cX11_way 5 = .ok (.aload_n 0, 1) := by decide +kernel
theorem dX11_way_6 : decode cX11_way 6 = .ok (.getfield 23, 3) := by decide +kernel
theorem dX11_way_9 : decode cX11_way 9 = .ok (.iconst 0, 1) := by decide +kernel
theorem dX11_way_10 : decode cX11_way 10 = .ok (.dup2, 1) := by decide +kernel
theorem dX11_way_11 : decode cX11_way 11 = .ok (.iaload, 1) := by decide +kernel
theorem dX11_way_12 : decode cX11_way 12 = .ok (.iconst 1, 1) := by decide +kernel
theorem dX11_way_13 : decode cX11_way 13 = .ok (.iadd, 1) := by decide +kernel
theorem dX11_way_14 : decode cX11_way 14 = .ok (.iastore, 1) := by decide +kernel
theorem dX11_way_15 : decode cX11_way 15 = .ok (.bipush (-10), 2) := by decide +kernel
theorem dX11_way_17 : decode cX11_way 17 = .ok (.ireturn, 1) := by decide +kernel
theorem dX11_way_18 : decode cX11_way 18 = .ok (.aload_n 0, 1) := by decide +kernel
theorem dX11_way_19 : decode cX11_way 19 = .ok (.invokevirtual 146, 3) := by decide +kernel
theorem dX11_way_22 : decode cX11_way 22 = .ok (.aload_n 0, 1) := by decide +kernel
theorem dX11_way_23 : decode cX11_way 23 = .ok (.invokevirtual 206, 3) := by decide +kernel
theorem dX11_way_26 : decode cX11_way 26 = .ok (.istore_n 2, 1) := by decide +kernel
theorem dX11_way_27 : decode cX11_way 27 = .ok (.iload_n 2, 1) := by decide +kernel
theorem dX11_way_28 : decode cX11_way 28 = .ok (.iconst (-1), 1) := by decide +kernel
theorem dX11_way_29 : decode cX11_way 29 = .ok (.if_icmp .eq 8, 3) := by decide +kernel
theorem dX11_way_32 : decode cX11_way 32 = .ok (.iload_n 1, 1) := by decide +kernel
theorem dX11_way_33 : decode cX11_way 33 = .ok (.iconst (-1), 1) := by decide +kernel
theorem dX11_way_34 : decode cX11_way 34 = .ok (.if_icmp .ne 5, 3) := by decide +kernel
theorem dX11_way_37 : decode cX11_way 37 = .ok (.iload_n 2, 1) := by decide +kernel
theorem dX11_way_38 : decode cX11_way 38 = .ok (.ireturn, 1) := by decide +kernel
theorem dX11_way_39 : decode cX11_way 39 = .ok (.iload_n 1, 1) := by decide +kernel
theorem dX11_way_40 : decode cX11_way 40 = .ok (.aload_n 0, 1) := by decide +kernel
theorem dX11_way_41 : decode cX11_way 41 = .ok (.getfield 200, 3) := by decide +kernel
theorem dX11_way_44 : decode cX11_way 44 = .ok (.if_icmp .ge 12, 3) := by decide +kernel
theorem dX11_way_47 : decode cX11_way 47 = .ok (.aload_n 0, 1) := by decide +kernel
theorem dX11_way_48 : decode cX11_way 48 = .ok (.getfield 45, 3) := by decide +kernel
theorem dX11_way_51 : decode cX11_way 51 = .ok (.iload_n 1, 1) := by decide +kernel
theorem dX11_way_52 : decode cX11_way 52 = .ok (.iaload, 1) := by decide +kernel
theorem dX11_way_53 : decode cX11_way 53 = .ok (.goto 5, 3) := by decide +kernel
theorem dX11_way_56 : decode cX11_way 56 = .ok (.bipush (-5), 2) := by decide +kernel
theorem dX11_way_58 : decode cX11_way 58 = .ok (.ireturn, 1) := by decide +kernel
theorem dX11_two_0 : decode cX11_two 0 = .ok (.iload_n 1, 1) := by decide +kernel
theorem dX11_two_1 : decode cX11_two 1 = .ok (.invokestatic 56, 3) := by decide +kernel
theorem dX11_two_4 : decode cX11_two 4 = .ok (.ifCond .eq 10, 3) := by decide +kernel
theorem dX11_two_7 : decode cX11_two 7 = .ok (.iload_n 2, 1) := by decide +kernel
theorem dX11_two_8 : decode cX11_two 8 = .ok (.invokestatic 56, 3) := by decide +kernel
theorem dX11_two_11 : decode cX11_two 11 = .ok (.ifCond .ne 8, 3) := by decide +kernel
theorem dX11_two_14 : decode cX11_two 14 = .ok (.aload_n 0, 1) := by decide +kernel
theorem dX11_two_15 : decode cX11_two 15 = .ok (.invokevirtual 60, 3) := by decide +kernel
theorem dX11_two_18 : decode cX11_two 18 = .ok (.ireturn, 1) := by decide +kernel
theorem dX11_two_19 : decode cX11_two 19 = .ok (.aload_n 0, 1) := by decide +kernel
theorem dX11_two_20 : decode cX11_two 20 = .ok (.invokevirtual 146, 3) := by decide +kernel
theorem dX11_two_23 : decode cX11_two 23 = .ok (.iconst 0, 1) := by decide +kernel
theorem dX11_two_24 : decode cX11_two 24 = .ok (.istore_n 3, 1) := by decide +kernel
theorem dX11_two_25 : decode cX11_two 25 = .ok (.iconst 0, 1) := by decide +kernel
theorem dX11_two_26 : decode cX11_two 26 = .ok (.istore 4, 2) := by decide +kernel
theorem dX11_two_28 : decode cX11_two 28 = .ok (.iload 4, 2) := by decide +kernel
theorem dX11_two_30 : decode cX11_two 30 = .ok (.aload_n 0, 1) := by decide +kernel
theorem dX11_two_31 : decode cX11_two 31 = .ok (.getfield 7, 3) := by decide +kernel
theorem dX11_two_34 : decode cX11_two 34 = .ok (.bipush 64, 2) := by decide +kernel
theorem dX11_two_36 : decode cX11_two 36 = .ok (.iaload, 1) := by decide +kernel
theorem dX11_two_37 : decode cX11_two 37 = .ok (.if_icmp .ge 67, 3) := by decide +kernel
theorem dX11_two_40 : decode cX11_two 40 = .ok (.iconst 0, 1) := by decide +kernel
theorem dX11_two_41 : decode cX11_two 41 = .ok (.istore 5, 2) := by decide +kernel
theorem dX11_two_43 : decode cX11_two 43 = .ok (.iload 5, 2) := by decide +kernel
theorem dX11_two_45 : decode cX11_two 45 = .ok (.iload 4, 2) := by decide +kernel
theorem dX11_two_47 : decode cX11_two 47 = .ok (.if_icmp .ge 51, 3) := by decide +kernel
theorem dX11_two_50 : decode cX11_two 50 = .ok (.iload_n 3, 1) := by decide +kernel
theorem dX11_two_51 : decode cX11_two 51 = .ok (.aload_n 0, 1) := by decide +kernel
theorem dX11_two_52 : decode cX11_two 52 = .ok (.iload_n 1, 1) := by decide +kernel
theorem dX11_two_53 : decode cX11_two 53 = .ok (.iload 4, 2) := by decide +kernel
theorem dX11_two_55 : decode cX11_two 55 = .ok (.invokevirtual 182, 3) := by decide +kernel
theorem dX11_two_58 : decode cX11_two 58 = .ok (.aload_n 0, 1) := by decide +kernel
theorem dX11_two_59 : decode cX11_two 59 = .ok (.iload_n 1, 1) := by decide +kernel
theorem dX11_two_60 : decode cX11_two 60 = .ok (.iload 5, 2) := by decide +kernel
theorem dX11_two_62 : decode cX11_two 62 = .ok (.invokevirtual 182, 3) := by decide +kernel
theorem dX11_two_65 : decode cX11_two 65 = .ok (.if_icmp .ne 20, 3) := by decide +kernel
theorem dX11_two_68 : decode cX11_two 68 = .ok (.aload_n 0, 1) := by decide +kernel
theorem dX11_two_69 : decode cX11_two 69 = .ok (.iload_n 2, 1) := by decide +kernel
theorem dX11_two_70 : decode cX11_two 70 = .ok (.iload 4, 2) := by decide +kernel
theorem dX11_two_72 : decode cX11_two 72 = .ok (.invokevirtual 182, 3) := by decide +kernel
theorem dX11_two_75 : decode cX11_two 75 = .ok (.aload_n 0, 1) := by decide +kernel
theorem dX11_two_76 : decode cX11_two 76 = .ok (.iload_n 2, 1) := by decide +kernel
theorem dX11_two_77 : decode cX11_two 77 = .ok (.iload 5, 2) := by decide +kernel
theorem dX11_two_79 : decode cX11_two 79 = .ok (.invokevirtual 182, 3) := by decide +kernel
theorem dX11_two_82 : decode cX11_two 82 = .ok (.if_icmp .eq 7, 3) := by decide +kernel
theorem dX11_two_85 : decode cX11_two 85 = .ok (.iconst 1, 1) := by decide +kernel
theorem dX11_two_86 : decode cX11_two 86 = .ok (.goto 4, 3) := by decide +kernel
theorem dX11_two_89 : decode cX11_two 89 = .ok (.iconst 0, 1) := by decide +kernel
theorem dX11_two_90 : decode cX11_two 90 = .ok (.iadd, 1) := by decide +kernel
theorem dX11_two_91 : decode cX11_two 91 = .ok (.istore_n 3, 1) := by decide +kernel
theorem dX11_two_92 : decode cX11_two 92 = .ok (.iinc 5 1, 3) := by decide +kernel
theorem dX11_two_95 : decode cX11_two 95 = .ok (.goto (-52), 3) := by decide +kernel
theorem dX11_two_98 : decode cX11_two 98 = .ok (.iinc 4 1, 3) := by decide +kernel
theorem dX11_two_101 : decode cX11_two 101 = .ok (.goto (-73), 3) := by decide +kernel
theorem dX11_two_104 : decode cX11_two 104 = .ok (.iload_n 3, 1) := by decide +kernel
theorem dX11_two_105 : decode cX11_two 105 = .ok (.ireturn, 1) := by decide +kernel
theorem dX11_beside_0 : decode cX11_beside 0 = .ok (.aload_n 0, 1) := by decide +kernel
theorem dX11_beside_1 : decode cX11_beside 1 = .ok (.invokevirtual 146, 3) := by decide +kernel
theorem dX11_beside_4 : decode cX11_beside 4 = .ok (.iconst 0, 1) := by decide +kernel
theorem dX11_beside_5 : decode cX11_beside 5 = .ok (.istore_n 1, 1) := by decide +kernel
theorem dX11_beside_6 : decode cX11_beside 6 = .ok (.iconst 0, 1) := by decide +kernel
theorem dX11_beside_7 : decode cX11_beside 7 = .ok (.istore_n 2, 1) := by decide +kernel
theorem dX11_beside_8 : decode cX11_beside 8 = .ok (.iconst 0, 1) := by decide +kernel
theorem dX11_beside_9 : decode cX11_beside 9 = .ok (.istore_n 3, 1) := by decide +kernel
theorem dX11_beside_10 : decode cX11_beside 10 = .ok (.iload_n 3, 1) := by decide +kernel
theorem dX11_beside_11 : decode cX11_beside 11 = .ok (.bipush 8, 2) := by decide +kernel
theorem dX11_beside_13 : decode cX11_beside 13 = .ok (.if_icmp .ge 78, 3) := by decide +kernel
theorem dX11_beside_16 : decode cX11_beside 16 = .ok (.iconst 0, 1) := by decide +kernel
theorem dX11_beside_17 : decode cX11_beside 17 = .ok (.istore 4, 2) := by decide +kernel
theorem dX11_beside_19 : decode cX11_beside 19 = .ok (.iconst 0, 1) := by decide +kernel
theorem dX11_beside_20 : decode cX11_beside 20 = .ok (.istore 5, 2) := by decide +kernel
theorem dX11_beside_22 : decode cX11_beside 22 = .ok (.iload 5, 2) := by decide +kernel
theorem dX11_beside_24 : decode cX11_beside 24 = .ok (.aload_n 0, 1) := by decide +kernel
theorem dX11_beside_25 : decode cX11_beside 25 = .ok (.getfield 7, 3) := by decide +kernel
theorem dX11_beside_28 : decode cX11_beside 28 = .ok (.bipush 64, 2) := by decide +kernel
theorem dX11_beside_30 : decode cX11_beside 30 = .ok (.iaload, 1) := by decide +kernel
theorem dX11_beside_31 : decode cX11_beside 31 = .ok (.if_icmp .ge 29, 3) := by decide +kernel
theorem dX11_beside_34 : decode cX11_beside 34 = .ok (.iload 4, 2) := by decide +kernel
theorem dX11_beside_36 : decode cX11_beside 36 = .ok (.aload_n 0, 1) := by decide +kernel
theorem dX11_beside_37 : decode cX11_beside 37 = .ok (.iload_n 3, 1) := by decide +kernel
theorem dX11_beside_38 : decode cX11_beside 38 = .ok (.iload 5, 2) := by decide +kernel
theorem dX11_beside_40 : decode cX11_beside 40 = .ok (.invokevirtual 179, 3) := by decide +kernel
theorem dX11_beside_43 : decode cX11_beside 43 = .ok (.ifCond .eq 7, 3) := by decide +kernel
theorem dX11_beside_46 : decode cX11_beside 46 = .ok (.iconst 1, 1) := by decide +kernel
theorem dX11_beside_47 : decode cX11_beside 47 = .ok (.goto 4, 3) := by decide +kernel
theorem dX11_beside_50 : decode cX11_beside 50 = .ok (.iconst 0, 1) := by decide +kernel
theorem dX11_beside_51 : decode cX11_beside 51 = .ok (.iadd, 1) := by decide +kernel
theorem dX11_beside_52 : decode cX11_beside 52 = .ok (.istore 4, 2) := by decide +kernel
theorem dX11_beside_54 : decode cX11_beside 54 = .ok (.iinc 5 1, 3) := by decide +kernel
theorem dX11_beside_57 : decode cX11_beside 57 = .ok (.goto (-35), 3) := by decide +kernel
theorem dX11_beside_60 : decode cX11_beside 60 = .ok (.iload 4, 2) := by decide +kernel
theorem dX11_beside_62 : decode cX11_beside 62 = .ok (.iload_n 2, 1) := by decide +kernel
theorem dX11_beside_63 : decode cX11_beside 63 = .ok (.if_icmp .le 7, 3) := by decide +kernel
theorem dX11_beside_66 : decode cX11_beside 66 = .ok (.iload_n 3, 1) := by decide +kernel
theorem dX11_beside_67 : decode cX11_beside 67 = .ok (.goto 4, 3) := by decide +kernel
theorem dX11_beside_70 : decode cX11_beside 70 = .ok (.iload_n 1, 1) := by decide +kernel
theorem dX11_beside_71 : decode cX11_beside 71 = .ok (.istore_n 1, 1) := by decide +kernel
theorem dX11_beside_72 : decode cX11_beside 72 = .ok (.iload 4, 2) := by decide +kernel
theorem dX11_beside_74 : decode cX11_beside 74 = .ok (.iload_n 2, 1) := by decide +kernel
theorem dX11_beside_75 : decode cX11_beside 75 = .ok (.if_icmp .le 8, 3) := by decide +kernel
theorem dX11_beside_78 : decode cX11_beside 78 = .ok (.iload 4, 2) := by decide +kernel
theorem dX11_beside_80 : decode cX11_beside 80 = .ok (.goto 4, 3) := by decide +kernel
theorem dX11_beside_83 : decode cX11_beside 83 = .ok (.iload_n 2, 1) := by decide +kernel
theorem dX11_beside_84 : decode cX11_beside 84 = .ok (.istore_n 2, 1) := by decide +kernel
theorem dX11_beside_85 : decode cX11_beside 85 = .ok (.iinc 3 1, 3) := by decide +kernel
theorem dX11_beside_88 : decode cX11_beside 88 = .ok (.goto (-78), 3) := by decide +kernel
theorem dX11_beside_91 : decode cX11_beside 91 = .ok (.iload_n 1, 1) := by decide +kernel
theorem dX11_beside_92 : decode cX11_beside 92 = .ok (.ireturn, 1) := by decide +kernel
theorem dX11_note_0 : decode cX11_note 0 = .ok (.iload_n 1, 1) := by decide +kernel
theorem dX11_note_1 : decode cX11_note 1 = .ok (.invokestatic 56, 3) := by decide +kernel
theorem dX11_note_4 : decode cX11_note 4 = .ok (.ifCond .eq 13, 3) := by decide +kernel
theorem dX11_note_7 : decode cX11_note 7 = .ok (.iload_n 2, 1) := by decide +kernel
theorem dX11_note_8 : decode cX11_note 8 = .ok (.iconst (-1), 1) := by decide +kernel
theorem dX11_note_9 : decode cX11_note 9 = .ok (.bipush 7, 2) := by decide +kernel
theorem dX11_note_11 : decode cX11_note 11 = .ok (.invokestatic 52, 3) := by decide +kernel
theorem dX11_note_14 : decode cX11_note 14 = .ok (.ifCond .ne 8, 3) := by decide +kernel
theorem dX11_note_17 : decode cX11_note 17 = .ok (.aload_n 0, 1) := by decide +kernel
theorem dX11_note_18 : decode cX11_note 18 = .ok (.invokevirtual 60, 3) := by decide +kernel
theorem dX11_note_21 : decode cX11_note 21 = .ok (.ireturn, 1) := by decide +kernel
theorem dX11_note_22 : decode cX11_note 22 = .ok (.aload_n 0, 1) := by decide +kernel
theorem dX11_note_23 : decode cX11_note 23 = .ok (.getfield 7, 3) := by decide +kernel
theorem dX11_note_26 : decode cX11_note 26 = .ok (.bipush 77, 2) := by decide +kernel
theorem dX11_note_28 : decode cX11_note 28 = .ok (.iaload, 1) := by decide +kernel
theorem dX11_note_29 : decode cX11_note 29 = .ok (.bipush 6, 2) := by decide +kernel
theorem dX11_note_31 : decode cX11_note 31 = .ok (.if_icmp .ne 8, 3) := by decide +kernel
theorem dX11_note_34 : decode cX11_note 34 = .ok (.aload_n 0, 1) := by decide +kernel
theorem dX11_note_35 : decode cX11_note 35 = .ok (.invokevirtual 64, 3) := by decide +kernel
theorem dX11_note_38 : decode cX11_note 38 = .ok (.ireturn, 1) := by decide +kernel
theorem dX11_note_39 : decode cX11_note 39 = .ok (.aload_n 0, 1) := by decide +kernel
theorem dX11_note_40 : decode cX11_note 40 = .ok (.getfield 7, 3) := by decide +kernel
theorem dX11_note_43 : decode cX11_note 43 = .ok (.bipush 78, 2) := by decide +kernel
theorem dX11_note_45 : decode cX11_note 45 = .ok (.iconst 2, 1) := by decide +kernel
theorem dX11_note_46 : decode cX11_note 46 = .ok (.aload_n 0, 1) := by decide +kernel
theorem dX11_note_47 : decode cX11_note 47 = .ok (.getfield 7, 3) := by decide +kernel
theorem dX11_note_50 : decode cX11_note 50 = .ok (.bipush 77, 2) := by decide +kernel
theorem dX11_note_52 : decode cX11_note 52 = .ok (.iaload, 1) := by decide +kernel
theorem dX11_note_53 : decode cX11_note 53 = .ok (.imul, 1) := by decide +kernel
theorem dX11_note_54 : decode cX11_note 54 = .ok (.iadd, 1) := by decide +kernel
theorem dX11_note_55 : decode cX11_note 55 = .ok (.iload_n 1, 1) := by decide +kernel
theorem dX11_note_56 : decode cX11_note 56 = .ok (.iastore, 1) := by decide +kernel
theorem dX11_note_57 : decode cX11_note 57 = .ok (.aload_n 0, 1) := by decide +kernel
theorem dX11_note_58 : decode cX11_note 58 = .ok (.getfield 7, 3) := by decide +kernel
theorem dX11_note_61 : decode cX11_note 61 = .ok (.bipush 78, 2) := by decide +kernel
theorem dX11_note_63 : decode cX11_note 63 = .ok (.iconst 2, 1) := by decide +kernel
theorem dX11_note_64 : decode cX11_note 64 = .ok (.aload_n 0, 1) := by decide +kernel
theorem dX11_note_65 : decode cX11_note 65 = .ok (.getfield 7, 3) := by decide +kernel
theorem dX11_note_68 : decode cX11_note 68 = .ok (.bipush 77, 2) := by decide +kernel
theorem dX11_note_70 : decode cX11_note 70 = .ok (.iaload, 1) := by decide +kernel
theorem dX11_note_71 : decode cX11_note 71 = .ok (.imul, 1) := by decide +kernel
theorem dX11_note_72 : decode cX11_note 72 = .ok (.iadd, 1) := by decide +kernel
theorem dX11_note_73 : decode cX11_note 73 = .ok (.iconst 1, 1) := by decide +kernel
theorem dX11_note_74 : decode cX11_note 74 = .ok (.iadd, 1) := by decide +kernel
theorem dX11_note_75 : decode cX11_note 75 = .ok (.iload_n 2, 1) := by decide +kernel
theorem dX11_note_76 : decode cX11_note 76 = .ok (.iastore, 1) := by decide +kernel
theorem dX11_note_77 : decode cX11_note 77 = .ok (.aload_n 0, 1) := by decide +kernel
theorem dX11_note_78 : decode cX11_note 78 = .ok (.getfield 7, 3) := by decide +kernel
theorem dX11_note_81 : decode cX11_note 81 = .ok (.bipush 77, 2) := by decide +kernel
theorem dX11_note_83 : decode cX11_note 83 = .ok (.dup2, 1) := by decide +kernel
theorem dX11_note_84 : decode cX11_note 84 = .ok (.iaload, 1) := by decide +kernel
theorem dX11_note_85 : decode cX11_note 85 = .ok (.iconst 1, 1) := by decide +kernel
theorem dX11_note_86 : decode cX11_note 86 = .ok (.iadd, 1) := by decide +kernel
theorem dX11_note_87 : decode cX11_note 87 = .ok (.iastore, 1) := by decide +kernel
theorem dX11_note_88 : decode cX11_note 88 = .ok (.aload_n 0, 1) := by decide +kernel
theorem dX11_note_89 : decode cX11_note 89 = .ok (.getfield 7, 3) := by decide +kernel
theorem dX11_note_92 : decode cX11_note 92 = .ok (.bipush 77, 2) := by decide +kernel
theorem dX11_note_94 : decode cX11_note 94 = .ok (.iaload, 1) := by decide +kernel
theorem dX11_note_95 : decode cX11_note 95 = .ok (.ireturn, 1) := by decide +kernel
theorem dX11_forget_0 : decode cX11_forget 0 = .ok (.aload_n 0, 1) := by decide +kernel
theorem dX11_forget_1 : decode cX11_forget 1 = .ok (.getfield 7, 3) := by decide +kernel
theorem dX11_forget_4 : decode cX11_forget 4 = .ok (.bipush 77, 2) := by decide +kernel
theorem dX11_forget_6 : decode cX11_forget 6 = .ok (.iaload, 1) := by decide +kernel
theorem dX11_forget_7 : decode cX11_forget 7 = .ok (.istore_n 1, 1) := by decide +kernel
theorem dX11_forget_8 : decode cX11_forget 8 = .ok (.aload_n 0, 1) := by decide +kernel
theorem dX11_forget_9 : decode cX11_forget 9 = .ok (.getfield 7, 3) := by decide +kernel
theorem dX11_forget_12 : decode cX11_forget 12 = .ok (.bipush 77, 2) := by decide +kernel
theorem dX11_forget_14 : decode cX11_forget 14 = .ok (.iconst 0, 1) := by decide +kernel
theorem dX11_forget_15 : decode cX11_forget 15 = .ok (.iastore, 1) := by decide +kernel
theorem dX11_forget_16 : decode cX11_forget 16 = .ok (.iload_n 1, 1) := by decide +kernel
theorem dX11_forget_17 : decode cX11_forget 17 = .ok (.ireturn, 1) := by decide +kernel
theorem dX11_whichOnes_0 : decode cX11_whichOnes 0 = .ok (.iconst 0, 1) := by decide +kernel
theorem dX11_whichOnes_1 : decode cX11_whichOnes 1 = .ok (.istore_n 1, 1) := by decide +kernel
theorem dX11_whichOnes_2 : decode cX11_whichOnes 2 = .ok (.iconst 0, 1) := by decide +kernel
theorem dX11_whichOnes_3 : decode cX11_whichOnes 3 = .ok (.istore_n 2, 1) := by decide +kernel
theorem dX11_whichOnes_4 : decode cX11_whichOnes 4 = .ok (.iload_n 2, 1) := by decide +kernel
theorem dX11_whichOnes_5 : decode cX11_whichOnes 5 = .ok (.aload_n 0, 1) := by decide +kernel
theorem dX11_whichOnes_6 : decode cX11_whichOnes 6 = .ok (.getfield 7, 3) := by decide +kernel
theorem dX11_whichOnes_9 : decode cX11_whichOnes 9 = .ok (.bipush 64, 2) := by decide +kernel
theorem dX11_whichOnes_11 : decode cX11_whichOnes 11 = .ok (.iaload, 1) := by decide +kernel
theorem dX11_whichOnes_12 : decode cX11_whichOnes 12 = .ok (.if_icmp .ge 90, 3) := by decide +kernel
theorem dX11_whichOnes_15 : decode cX11_whichOnes 15 = .ok (.iconst 1, 1) := by decide +kernel
theorem dX11_whichOnes_16 : decode cX11_whichOnes 16 = .ok (.istore_n 3, 1) := by decide +kernel
theorem dX11_whichOnes_17 : decode cX11_whichOnes 17 = .ok (.iconst 0, 1) := by decide +kernel
theorem dX11_whichOnes_18 : decode cX11_whichOnes 18 = .ok (.istore 4, 2) := by decide +kernel
theorem dX11_whichOnes_20 : decode cX11_whichOnes 20 = .ok (.iload 4, 2) := by decide +kernel
theorem dX11_whichOnes_22 : decode cX11_whichOnes 22 = .ok (.aload_n 0, 1) := by decide +kernel
theorem dX11_whichOnes_23 : decode cX11_whichOnes 23 = .ok (.getfield 7, 3) := by decide +kernel
theorem dX11_whichOnes_26 : decode cX11_whichOnes 26 = .ok (.bipush 77, 2) := by decide +kernel
theorem dX11_whichOnes_28 : decode cX11_whichOnes 28 = .ok (.iaload, 1) := by decide +kernel
theorem dX11_whichOnes_29 : decode cX11_whichOnes 29 = .ok (.if_icmp .ge 53, 3) := by decide +kernel
theorem dX11_whichOnes_32 : decode cX11_whichOnes 32 = .ok (.iload_n 3, 1) := by decide +kernel
theorem dX11_whichOnes_33 : decode cX11_whichOnes 33 = .ok (.ifCond .eq 41, 3) := by decide +kernel
theorem dX11_whichOnes_36 : decode cX11_whichOnes 36 = .ok (.aload_n 0, 1) := by decide +kernel
theorem dX11_whichOnes_37 : decode cX11_whichOnes 37 = .ok (.aload_n 0, 1) := by decide +kernel
theorem dX11_whichOnes_38 : decode cX11_whichOnes 38 = .ok (.getfield 7, 3) := by decide +kernel
theorem dX11_whichOnes_41 : decode cX11_whichOnes 41 = .ok (.bipush 78, 2) := by decide +kernel
theorem dX11_whichOnes_43 : decode cX11_whichOnes 43 = .ok (.iconst 2, 1) := by decide +kernel
theorem dX11_whichOnes_44 : decode cX11_whichOnes 44 = .ok (.iload 4, 2) := by decide +kernel
theorem dX11_whichOnes_46 : decode cX11_whichOnes 46 = .ok (.imul, 1) := by decide +kernel
theorem dX11_whichOnes_47 : decode cX11_whichOnes 47 = .ok (.iadd, 1) := by decide +kernel
theorem dX11_whichOnes_48 : decode cX11_whichOnes 48 = .ok (.iaload, 1) := by decide +kernel
theorem dX11_whichOnes_49 : decode cX11_whichOnes 49 = .ok (.iload_n 2, 1) := by decide +kernel
theorem dX11_whichOnes_50 : decode cX11_whichOnes 50 = .ok (.invokevirtual 182, 3) := by decide +kernel
theorem dX11_whichOnes_53 : decode cX11_whichOnes 53 = .ok (.aload_n 0, 1) := by decide +kernel
theorem dX11_whichOnes_54 : decode cX11_whichOnes 54 = .ok (.getfield 7, 3) := by decide +kernel
theorem dX11_whichOnes_57 : decode cX11_whichOnes 57 = .ok (.bipush 78, 2) := by decide +kernel
theorem dX11_whichOnes_59 : decode cX11_whichOnes 59 = .ok (.iconst 2, 1) := by decide +kernel
theorem dX11_whichOnes_60 : decode cX11_whichOnes 60 = .ok (.iload 4, 2) := by decide +kernel
theorem dX11_whichOnes_62 : decode cX11_whichOnes 62 = .ok (.imul, 1) := by decide +kernel
theorem dX11_whichOnes_63 : decode cX11_whichOnes 63 = .ok (.iadd, 1) := by decide +kernel
theorem dX11_whichOnes_64 : decode cX11_whichOnes 64 = .ok (.iconst 1, 1) := by decide +kernel
theorem dX11_whichOnes_65 : decode cX11_whichOnes 65 = .ok (.iadd, 1) := by decide +kernel
theorem dX11_whichOnes_66 : decode cX11_whichOnes 66 = .ok (.iaload, 1) := by decide +kernel
theorem dX11_whichOnes_67 : decode cX11_whichOnes 67 = .ok (.if_icmp .ne 7, 3) := by decide +kernel
theorem dX11_whichOnes_70 : decode cX11_whichOnes 70 = .ok (.iconst 1, 1) := by decide +kernel
theorem dX11_whichOnes_71 : decode cX11_whichOnes 71 = .ok (.goto 4, 3) := by decide +kernel
theorem dX11_whichOnes_74 : decode cX11_whichOnes 74 = .ok (.iconst 0, 1) := by decide +kernel
theorem dX11_whichOnes_75 : decode cX11_whichOnes 75 = .ok (.istore_n 3, 1) := by decide +kernel
theorem dX11_whichOnes_76 : decode cX11_whichOnes 76 = .ok (.iinc 4 1, 3) := by decide +kernel
theorem dX11_whichOnes_79 : decode cX11_whichOnes 79 = .ok (.goto (-59), 3) := by decide +kernel
theorem dX11_whichOnes_82 : decode cX11_whichOnes 82 = .ok (.iload_n 1, 1) := by decide +kernel
theorem dX11_whichOnes_83 : decode cX11_whichOnes 83 = .ok (.iload_n 3, 1) := by decide +kernel
theorem dX11_whichOnes_84 : decode cX11_whichOnes 84 = .ok (.ifCond .eq 9, 3) := by decide +kernel
theorem dX11_whichOnes_87 : decode cX11_whichOnes 87 = .ok (.iconst 1, 1) := by decide +kernel
theorem dX11_whichOnes_88 : decode cX11_whichOnes 88 = .ok (.iload_n 2, 1) := by decide +kernel
theorem dX11_whichOnes_89 : decode cX11_whichOnes 89 = .ok (.ishl, 1) := by decide +kernel
theorem dX11_whichOnes_90 : decode cX11_whichOnes 90 = .ok (.goto 4, 3) := by decide +kernel
theorem dX11_whichOnes_93 : decode cX11_whichOnes 93 = .ok (.iconst 0, 1) := by decide +kernel
theorem dX11_whichOnes_94 : decode cX11_whichOnes 94 = .ok (.ior, 1) := by decide +kernel
theorem dX11_whichOnes_95 : decode cX11_whichOnes 95 = .ok (.istore_n 1, 1) := by decide +kernel
theorem dX11_whichOnes_96 : decode cX11_whichOnes 96 = .ok (.iinc 2 1, 3) := by decide +kernel
theorem dX11_whichOnes_99 : decode cX11_whichOnes 99 = .ok (.goto (-95), 3) := by decide +kernel
theorem dX11_whichOnes_102 : decode cX11_whichOnes 102 = .ok (.iload_n 1, 1) := by decide +kernel
theorem dX11_whichOnes_103 : decode cX11_whichOnes 103 = .ok (.ireturn, 1) := by decide +kernel
theorem dX11_which_0 : decode cX11_which 0 = .ok (.aload_n 0, 1) := by decide +kernel
theorem dX11_which_1 : decode cX11_which 1 = .ok (.invokevirtual 146, 3) := by decide +kernel
theorem dX11_which_4 : decode cX11_which 4 = .ok (.aload_n 0, 1) := by decide +kernel
theorem dX11_which_5 : decode cX11_which 5 = .ok (.invokevirtual 209, 3) := by decide +kernel
theorem dX11_which_8 : decode cX11_which 8 = .ok (.ireturn, 1) := by decide +kernel
theorem dX11_stand_0 : decode cX11_stand 0 = .ok (.aload_n 0, 1) := by decide +kernel
theorem dX11_stand_1 : decode cX11_stand 1 = .ok (.invokevirtual 146, 3) := by decide +kernel
theorem dX11_stand_4 : decode cX11_stand 4 = .ok (.aload_n 0, 1) := by decide +kernel
theorem dX11_stand_5 : decode cX11_stand 5 = .ok (.invokevirtual 209, 3) := by decide +kernel
theorem dX11_stand_8 : decode cX11_stand 8 = .ok (.istore_n 1, 1) := by decide +kernel
theorem dX11_stand_9 : decode cX11_stand 9 = .ok (.iconst (-1), 1) := by decide +kernel
theorem dX11_stand_10 : decode cX11_stand 10 = .ok (.istore_n 2, 1) := by decide +kernel
theorem dX11_stand_11 : decode cX11_stand 11 = .ok (.bipush 99, 2) := by decide +kernel
theorem dX11_stand_13 : decode cX11_stand 13 = .ok (.istore_n 3, 1) := by decide +kernel
theorem dX11_stand_14 : decode cX11_stand 14 = .ok (.iconst 0, 1) := by decide +kernel
theorem dX11_stand_15 : decode cX11_stand 15 = .ok (.istore 4, 2) := by decide +kernel
theorem dX11_stand_17 : decode cX11_stand 17 = .ok (.iload 4, 2) := by decide +kernel
theorem dX11_stand_19 : decode cX11_stand 19 = .ok (.bipush 8, 2) := by decide +kernel
theorem dX11_stand_21 : decode cX11_stand 21 = .ok (.if_icmp .ge 106, 3) := by decide +kernel
theorem dX11_stand_24 : decode cX11_stand 24 = .ok (.iload_n 1, 1) := by decide +kernel
theorem dX11_stand_25 : decode cX11_stand 25 = .ok (.ifCond .eq 102, 3) := by decide +kernel
theorem dX11_stand_28 : decode cX11_stand 28 = .ok (.iconst 0, 1) := by decide +kernel
theorem dX11_stand_29 : decode cX11_stand 29 = .ok (.istore 5, 2) := by decide +kernel
theorem dX11_stand_31 : decode cX11_stand 31 = .ok (.iconst 0, 1) := by decide +kernel
theorem dX11_stand_32 : decode cX11_stand 32 = .ok (.istore 6, 2) := by decide +kernel
theorem dX11_stand_34 : decode cX11_stand 34 = .ok (.iload 6, 2) := by decide +kernel
theorem dX11_stand_36 : decode cX11_stand 36 = .ok (.aload_n 0, 1) := by decide +kernel
theorem dX11_stand_37 : decode cX11_stand 37 = .ok (.getfield 7, 3) := by decide +kernel
theorem dX11_stand_40 : decode cX11_stand 40 = .ok (.bipush 64, 2) := by decide +kernel
theorem dX11_stand_42 : decode cX11_stand 42 = .ok (.iaload, 1) := by decide +kernel
theorem dX11_stand_43 : decode cX11_stand 43 = .ok (.if_icmp .ge 52, 3) := by decide +kernel
theorem dX11_stand_46 : decode cX11_stand 46 = .ok (.iload_n 1, 1) := by decide +kernel
theorem dX11_stand_47 : decode cX11_stand 47 = .ok (.iload 6, 2) := by decide +kernel
theorem dX11_stand_49 : decode cX11_stand 49 = .ok (.invokestatic 166, 3) := by decide +kernel
theorem dX11_stand_52 : decode cX11_stand 52 = .ok (.ifCond .eq 18, 3) := by decide +kernel
theorem dX11_stand_55 : decode cX11_stand 55 = .ok (.aload_n 0, 1) := by decide +kernel
theorem dX11_stand_56 : decode cX11_stand 56 = .ok (.iload 4, 2) := by decide +kernel
theorem dX11_stand_58 : decode cX11_stand 58 = .ok (.iload_n 1, 1) := by decide +kernel
theorem dX11_stand_59 : decode cX11_stand 59 = .ok (.iload 6, 2) := by decide +kernel
theorem dX11_stand_61 : decode cX11_stand 61 = .ok (.invokevirtual 191, 3) := by decide +kernel
theorem dX11_stand_64 : decode cX11_stand 64 = .ok (.invokestatic 188, 3) := by decide +kernel
theorem dX11_stand_67 : decode cX11_stand 67 = .ok (.goto 4, 3) := by decide +kernel
theorem dX11_stand_70 : decode cX11_stand 70 = .ok (.iconst 0, 1) := by decide +kernel
theorem dX11_stand_71 : decode cX11_stand 71 = .ok (.istore 7, 2) := by decide +kernel
theorem dX11_stand_73 : decode cX11_stand 73 = .ok (.iload 7, 2) := by decide +kernel
theorem dX11_stand_75 : decode cX11_stand 75 = .ok (.iload 5, 2) := by decide +kernel
theorem dX11_stand_77 : decode cX11_stand 77 = .ok (.if_icmp .le 8, 3) := by decide +kernel
theorem dX11_stand_80 : decode cX11_stand 80 = .ok (.iload 7, 2) := by decide +kernel
theorem dX11_stand_82 : decode cX11_stand 82 = .ok (.goto 5, 3) := by decide +kernel
theorem dX11_stand_85 : decode cX11_stand 85 = .ok (.iload 5, 2) := by decide +kernel
theorem dX11_stand_87 : decode cX11_stand 87 = .ok (.istore 5, 2) := by decide +kernel
theorem dX11_stand_89 : decode cX11_stand 89 = .ok (.iinc 6 1, 3) := by decide +kernel
theorem dX11_stand_92 : decode cX11_stand 92 = .ok (.goto (-58), 3) := by decide +kernel
theorem dX11_stand_95 : decode cX11_stand 95 = .ok (.iload 5, 2) := by decide +kernel
theorem dX11_stand_97 : decode cX11_stand 97 = .ok (.iload_n 3, 1) := by decide +kernel
theorem dX11_stand_98 : decode cX11_stand 98 = .ok (.if_icmp .ge 8, 3) := by decide +kernel
theorem dX11_stand_101 : decode cX11_stand 101 = .ok (.iload 4, 2) := by decide +kernel
theorem dX11_stand_103 : decode cX11_stand 103 = .ok (.goto 4, 3) := by decide +kernel
theorem dX11_stand_106 : decode cX11_stand 106 = .ok (.iload_n 2, 1) := by decide +kernel
theorem dX11_stand_107 : decode cX11_stand 107 = .ok (.istore_n 2, 1) := by decide +kernel
theorem dX11_stand_108 : decode cX11_stand 108 = .ok (.iload 5, 2) := by decide +kernel
theorem dX11_stand_110 : decode cX11_stand 110 = .ok (.iload_n 3, 1) := by decide +kernel
theorem dX11_stand_111 : decode cX11_stand 111 = .ok (.if_icmp .ge 8, 3) := by decide +kernel
theorem dX11_stand_114 : decode cX11_stand 114 = .ok (.iload 5, 2) := by decide +kernel
theorem dX11_stand_116 : decode cX11_stand 116 = .ok (.goto 4, 3) := by decide +kernel
theorem dX11_stand_119 : decode cX11_stand 119 = .ok (.iload_n 3, 1) := by decide +kernel
theorem dX11_stand_120 : decode cX11_stand 120 = .ok (.istore_n 3, 1) := by decide +kernel
theorem dX11_stand_121 : decode cX11_stand 121 = .ok (.iinc 4 1, 3) := by decide +kernel
theorem dX11_stand_124 : decode cX11_stand 124 = .ok (.goto (-107), 3) := by decide +kernel
theorem dX11_stand_127 : decode cX11_stand 127 = .ok (.iload_n 2, 1) := by decide +kernel
theorem dX11_stand_128 : decode cX11_stand 128 = .ok (.ireturn, 1) := by decide +kernel
theorem dX11_is_0 : decode cX11_is 0 = .ok (.aload_n 0, 1) := by decide +kernel
theorem dX11_is_1 : decode cX11_is 1 = .ok (.iload_n 1, 1) := by decide +kernel
theorem dX11_is_2 : decode cX11_is 2 = .ok (.invokevirtual 160, 3) := by decide +kernel
theorem dX11_is_5 : decode cX11_is 5 = .ok (.ifCond .eq 23, 3) := by decide +kernel
theorem dX11_is_8 : decode cX11_is 8 = .ok (.iload_n 2, 1) := by decide +kernel
theorem dX11_is_9 : decode cX11_is 9 = .ok (.iconst 0, 1) := by decide +kernel
theorem dX11_is_10 : decode cX11_is 10 = .ok (.sipush 9999, 3) := by decide +kernel
theorem dX11_is_13 : decode cX11_is 13 = .ok (.invokestatic 52, 3) := by decide +kernel
theorem dX11_is_16 : decode cX11_is 16 = .ok (.ifCond .eq 12, 3) := by decide +kernel
theorem dX11_is_19 : decode cX11_is 19 = .ok (.iload_n 3, 1) := by decide +kernel
theorem dX11_is_20 : decode cX11_is 20 = .ok (.iconst 0, 1) := by decide +kernel
theorem dX11_is_21 : decode cX11_is 21 = .ok (.iconst 1, 1) := by decide +kernel
theorem dX11_is_22 : decode cX11_is 22 = .ok (.invokestatic 52, 3) := by decide +kernel
theorem dX11_is_25 : decode cX11_is 25 = .ok (.ifCond .ne 8, 3) := by decide +kernel
theorem dX11_is_28 : decode cX11_is 28 = .ok (.aload_n 0, 1) := by decide +kernel
theorem dX11_is_29 : decode cX11_is 29 = .ok (.invokevirtual 60, 3) := by decide +kernel
theorem dX11_is_32 : decode cX11_is 32 = .ok (.ireturn, 1) := by decide +kernel
theorem dX11_is_33 : decode cX11_is 33 = .ok (.iconst 0, 1) := by decide +kernel
theorem dX11_is_34 : decode cX11_is 34 = .ok (.istore 4, 2) := by decide +kernel
theorem dX11_is_36 : decode cX11_is 36 = .ok (.iconst 0, 1) := by decide +kernel
theorem dX11_is_37 : decode cX11_is 37 = .ok (.istore 5, 2) := by decide +kernel
theorem dX11_is_39 : decode cX11_is 39 = .ok (.iload 5, 2) := by decide +kernel
theorem dX11_is_41 : decode cX11_is 41 = .ok (.bipush 6, 2) := by decide +kernel
theorem dX11_is_43 : decode cX11_is 43 = .ok (.if_icmp .ge 57, 3) := by decide +kernel
theorem dX11_is_46 : decode cX11_is 46 = .ok (.iload 4, 2) := by decide +kernel
theorem dX11_is_48 : decode cX11_is 48 = .ok (.iload 5, 2) := by decide +kernel
theorem dX11_is_50 : decode cX11_is 50 = .ok (.aload_n 0, 1) := by decide +kernel
theorem dX11_is_51 : decode cX11_is 51 = .ok (.getfield 7, 3) := by decide +kernel
theorem dX11_is_54 : decode cX11_is 54 = .ok (.bipush 94, 2) := by decide +kernel
theorem dX11_is_56 : decode cX11_is 56 = .ok (.iload_n 1, 1) := by decide +kernel
theorem dX11_is_57 : decode cX11_is 57 = .ok (.iadd, 1) := by decide +kernel
theorem dX11_is_58 : decode cX11_is 58 = .ok (.iaload, 1) := by decide +kernel
theorem dX11_is_59 : decode cX11_is 59 = .ok (.iload_n 2, 1) := by decide +kernel
theorem dX11_is_60 : decode cX11_is 60 = .ok (.aload_n 0, 1) := by decide +kernel
theorem dX11_is_61 : decode cX11_is 61 = .ok (.getfield 7, 3) := by decide +kernel
theorem dX11_is_64 : decode cX11_is 64 = .ok (.bipush 92, 2) := by decide +kernel
theorem dX11_is_66 : decode cX11_is 66 = .ok (.iaload, 1) := by decide +kernel
theorem dX11_is_67 : decode cX11_is 67 = .ok (.invokestatic 172, 3) := by decide +kernel
theorem dX11_is_70 : decode cX11_is 70 = .ok (.iload_n 3, 1) := by decide +kernel
theorem dX11_is_71 : decode cX11_is 71 = .ok (.iconst 1, 1) := by decide +kernel
theorem dX11_is_72 : decode cX11_is 72 = .ok (.if_icmp .ne 7, 3) := by decide +kernel
theorem dX11_is_75 : decode cX11_is 75 = .ok (.iconst 1, 1) := by decide +kernel
theorem dX11_is_76 : decode cX11_is 76 = .ok (.goto 4, 3) := by decide +kernel
theorem dX11_is_79 : decode cX11_is 79 = .ok (.iconst 0, 1) := by decide +kernel
theorem dX11_is_80 : decode cX11_is 80 = .ok (.if_icmp .ne 10, 3) := by decide +kernel
theorem dX11_is_83 : decode cX11_is 83 = .ok (.iconst 1, 1) := by decide +kernel
theorem dX11_is_84 : decode cX11_is 84 = .ok (.iload 5, 2) := by decide +kernel
theorem dX11_is_86 : decode cX11_is 86 = .ok (.ishl, 1) := by decide +kernel
theorem dX11_is_87 : decode cX11_is 87 = .ok (.goto 4, 3) := by decide +kernel
theorem dX11_is_90 : decode cX11_is 90 = .ok (.iconst 0, 1) := by decide +kernel
theorem dX11_is_91 : decode cX11_is 91 = .ok (.ior, 1) := by decide +kernel
theorem dX11_is_92 : decode cX11_is 92 = .ok (.istore 4, 2) := by decide +kernel
theorem dX11_is_94 : decode cX11_is 94 = .ok (.iinc 5 1, 3) := by decide +kernel
theorem dX11_is_97 : decode cX11_is 97 = .ok (.goto (-58), 3) := by decide +kernel
theorem dX11_is_100 : decode cX11_is 100 = .ok (.iload 4, 2) := by decide +kernel
theorem dX11_is_102 : decode cX11_is 102 = .ok (.ireturn, 1) := by decide +kernel
theorem dX11_missed_0 : decode cX11_missed 0 = .ok (.iload_n 1, 1) := by decide +kernel
theorem dX11_missed_1 : decode cX11_missed 1 = .ok (.invokestatic 56, 3) := by decide +kernel
theorem dX11_missed_4 : decode cX11_missed 4 = .ok (.ifCond .eq 24, 3) := by decide +kernel
theorem dX11_missed_7 : decode cX11_missed 7 = .ok (.iload_n 2, 1) := by decide +kernel
theorem dX11_missed_8 : decode cX11_missed 8 = .ok (.iconst 0, 1) := by decide +kernel
theorem dX11_missed_9 : decode cX11_missed 9 = .ok (.sipush 9999, 3) := by decide +kernel
theorem dX11_missed_12 : decode cX11_missed 12 = .ok (.invokestatic 52, 3) := by decide +kernel
theorem dX11_missed_15 : decode cX11_missed 15 = .ok (.ifCond .eq 13, 3) := by decide +kernel
theorem dX11_missed_18 : decode cX11_missed 18 = .ok (.iload_n 3, 1) := by decide +kernel
theorem dX11_missed_19 : decode cX11_missed 19 = .ok (.iconst 0, 1) := by decide +kernel
theorem dX11_missed_20 : decode cX11_missed 20 = .ok (.bipush 10, 2) := by decide +kernel
theorem dX11_missed_22 : decode cX11_missed 22 = .ok (.invokestatic 52, 3) := by decide +kernel
theorem dX11_missed_25 : decode cX11_missed 25 = .ok (.ifCond .ne 8, 3) := by decide +kernel
theorem dX11_missed_28 : decode cX11_missed 28 = .ok (.aload_n 0, 1) := by decide +kernel
theorem dX11_missed_29 : decode cX11_missed 29 = .ok (.invokevirtual 60, 3) := by decide +kernel
theorem dX11_missed_32 : decode cX11_missed 32 = .ok (.ireturn, 1) := by decide +kernel
theorem dX11_missed_33 : decode cX11_missed 33 = .ok (.aload_n 0, 1) := by decide +kernel
theorem dX11_missed_34 : decode cX11_missed 34 = .ok (.invokevirtual 146, 3) := by decide +kernel
theorem dX11_missed_37 : decode cX11_missed 37 = .ok (.aload_n 0, 1) := by decide +kernel
theorem dX11_missed_38 : decode cX11_missed 38 = .ok (.iload_n 1, 1) := by decide +kernel
theorem dX11_missed_39 : decode cX11_missed 39 = .ok (.iload_n 2, 1) := by decide +kernel
theorem dX11_missed_40 : decode cX11_missed 40 = .ok (.aload_n 0, 1) := by decide +kernel
theorem dX11_missed_41 : decode cX11_missed 41 = .ok (.getfield 7, 3) := by decide +kernel
theorem dX11_missed_44 : decode cX11_missed 44 = .ok (.bipush 92, 2) := by decide +kernel
theorem dX11_missed_46 : decode cX11_missed 46 = .ok (.iaload, 1) := by decide +kernel
theorem dX11_missed_47 : decode cX11_missed 47 = .ok (.invokevirtual 149, 3) := by decide +kernel
theorem dX11_missed_50 : decode cX11_missed 50 = .ok (.invokestatic 188, 3) := by decide +kernel
theorem dX11_missed_53 : decode cX11_missed 53 = .ok (.i2l, 1) := by decide +kernel
theorem dX11_missed_54 : decode cX11_missed 54 = .ok (.ldc2_w 212, 3) := by decide +kernel
theorem dX11_missed_57 : decode cX11_missed 57 = .ok (.iload_n 3, 1) := by decide +kernel
theorem dX11_missed_58 : decode cX11_missed 58 = .ok (.i2l, 1) := by decide +kernel
theorem dX11_missed_59 : decode cX11_missed 59 = .ok (.lsub, 1) := by decide +kernel
theorem dX11_missed_60 : decode cX11_missed 60 = .ok (.lmul, 1) := by decide +kernel
theorem dX11_missed_61 : decode cX11_missed 61 = .ok (.lstore 4, 2) := by decide +kernel
theorem dX11_missed_63 : decode cX11_missed 63 = .ok (.lload 4, 2) := by decide +kernel
theorem dX11_missed_65 : decode cX11_missed 65 = .ok (.lstore 6, 2) := by decide +kernel
theorem dX11_missed_67 : decode cX11_missed 67 = .ok (.ldc2_w 212, 3) := by decide +kernel
theorem dX11_missed_70 : decode cX11_missed 70 = .ok (.lstore 8, 2) := by decide +kernel
theorem dX11_missed_72 : decode cX11_missed 72 = .ok (.lload 8, 2) := by decide +kernel
theorem dX11_missed_74 : decode cX11_missed 74 = .ok (.lconst 0, 1) := by decide +kernel
theorem dX11_missed_75 : decode cX11_missed 75 = .ok (.lcmp, 1) := by decide +kernel
theorem dX11_missed_76 : decode cX11_missed 76 = .ok (.ifCond .le 21, 3) := by decide +kernel
theorem dX11_missed_79 : decode cX11_missed 79 = .ok (.lload 6, 2) := by decide +kernel
theorem dX11_missed_81 : decode cX11_missed 81 = .ok (.lload 8, 2) := by decide +kernel
theorem dX11_missed_83 : decode cX11_missed 83 = .ok (.lrem, 1) := by decide +kernel
theorem dX11_missed_84 : decode cX11_missed 84 = .ok (.lstore 10, 2) := by decide +kernel
theorem dX11_missed_86 : decode cX11_missed 86 = .ok (.lload 8, 2) := by decide +kernel
theorem dX11_missed_88 : decode cX11_missed 88 = .ok (.lstore 6, 2) := by decide +kernel
theorem dX11_missed_90 : decode cX11_missed 90 = .ok (.lload 10, 2) := by decide +kernel
theorem dX11_missed_92 : decode cX11_missed 92 = .ok (.lstore 8, 2) := by decide +kernel
theorem dX11_missed_94 : decode cX11_missed 94 = .ok (.goto (-22), 3) := by decide +kernel
theorem dX11_missed_97 : decode cX11_missed 97 = .ok (.aload_n 0, 1) := by decide +kernel
theorem dX11_missed_98 : decode cX11_missed 98 = .ok (.lload 4, 2) := by decide +kernel
theorem dX11_missed_100 : decode cX11_missed 100 = .ok (.lload 6, 2) := by decide +kernel
theorem dX11_missed_102 : decode cX11_missed 102 = .ok (.ldiv, 1) := by decide +kernel
theorem dX11_missed_103 : decode cX11_missed 103 = .ok (.putfield 214, 3) := by decide +kernel
theorem dX11_missed_106 : decode cX11_missed 106 = .ok (.aload_n 0, 1) := by decide +kernel
theorem dX11_missed_107 : decode cX11_missed 107 = .ok (.ldc2_w 212, 3) := by decide +kernel
theorem dX11_missed_110 : decode cX11_missed 110 = .ok (.lload 6, 2) := by decide +kernel
theorem dX11_missed_112 : decode cX11_missed 112 = .ok (.ldiv, 1) := by decide +kernel
theorem dX11_missed_113 : decode cX11_missed 113 = .ok (.putfield 26, 3) := by decide +kernel
theorem dX11_missed_116 : decode cX11_missed 116 = .ok (.iconst 1, 1) := by decide +kernel
theorem dX11_missed_117 : decode cX11_missed 117 = .ok (.ireturn, 1) := by decide +kernel
theorem dX11_nights_0 : decode cX11_nights 0 = .ok (.iload_n 1, 1) := by decide +kernel
theorem dX11_nights_1 : decode cX11_nights 1 = .ok (.iconst 0, 1) := by decide +kernel
theorem dX11_nights_2 : decode cX11_nights 2 = .ok (.ldc 217, 2) := by decide +kernel
theorem dX11_nights_4 : decode cX11_nights 4 = .ok (.invokestatic 52, 3) := by decide +kernel
theorem dX11_nights_7 : decode cX11_nights 7 = .ok (.ifCond .eq 13, 3) := by decide +kernel
theorem dX11_nights_10 : decode cX11_nights 10 = .ok (.iload_n 2, 1) := by decide +kernel
theorem dX11_nights_11 : decode cX11_nights 11 = .ok (.iconst 0, 1) := by decide +kernel
theorem dX11_nights_12 : decode cX11_nights 12 = .ok (.bipush 60, 2) := by decide +kernel
theorem dX11_nights_14 : decode cX11_nights 14 = .ok (.invokestatic 52, 3) := by decide +kernel
theorem dX11_nights_17 : decode cX11_nights 17 = .ok (.ifCond .ne 8, 3) := by decide +kernel
theorem dX11_nights_20 : decode cX11_nights 20 = .ok (.aload_n 0, 1) := by decide +kernel
theorem dX11_nights_21 : decode cX11_nights 21 = .ok (.invokevirtual 60, 3) := by decide +kernel
theorem dX11_nights_24 : decode cX11_nights 24 = .ok (.ireturn, 1) := by decide +kernel
theorem dX11_nights_25 : decode cX11_nights 25 = .ok (.aload_n 0, 1) := by decide +kernel
theorem dX11_nights_26 : decode cX11_nights 26 = .ok (.invokevirtual 146, 3) := by decide +kernel
theorem dX11_nights_29 : decode cX11_nights 29 = .ok (.iload_n 1, 1) := by decide +kernel
theorem dX11_nights_30 : decode cX11_nights 30 = .ok (.i2l, 1) := by decide +kernel
theorem dX11_nights_31 : decode cX11_nights 31 = .ok (.lstore_n 3, 1) := by decide +kernel
theorem dX11_nights_32 : decode cX11_nights 32 = .ok (.iconst 0, 1) := by decide +kernel
theorem dX11_nights_33 : decode cX11_nights 33 = .ok (.istore 5, 2) := by decide +kernel
theorem dX11_nights_35 : decode cX11_nights 35 = .ok (.iconst 0, 1) := by decide +kernel
theorem dX11_nights_36 : decode cX11_nights 36 = .ok (.istore 6, 2) := by decide +kernel
theorem dX11_nights_38 : decode cX11_nights 38 = .ok (.iload 6, 2) := by decide +kernel
theorem dX11_nights_40 : decode cX11_nights 40 = .ok (.iload_n 2, 1) := by decide +kernel
theorem dX11_nights_41 : decode cX11_nights 41 = .ok (.if_icmp .ge 106, 3) := by decide +kernel
theorem dX11_nights_44 : decode cX11_nights 44 = .ok (.lload_n 3, 1) := by decide +kernel
theorem dX11_nights_45 : decode cX11_nights 45 = .ok (.ldc2_w 218, 3) := by decide +kernel
theorem dX11_nights_48 : decode cX11_nights 48 = .ok (.lmul, 1) := by decide +kernel
theorem dX11_nights_49 : decode cX11_nights 49 = .ok (.ldc2_w 220, 3) := by decide +kernel
theorem dX11_nights_52 : decode cX11_nights 52 = .ok (.ladd, 1) := by decide +kernel
theorem dX11_nights_53 : decode cX11_nights 53 = .ok (.ldc2_w 222, 3) := by decide +kernel
theorem dX11_nights_56 : decode cX11_nights 56 = .ok (.lrem, 1) := by decide +kernel
theorem dX11_nights_57 : decode cX11_nights 57 = .ok (.lstore_n 3, 1) := by decide +kernel
theorem dX11_nights_58 : decode cX11_nights 58 = .ok (.lload_n 3, 1) := by decide +kernel
theorem dX11_nights_59 : decode cX11_nights 59 = .ok (.ldc2_w 224, 3) := by decide +kernel
theorem dX11_nights_62 : decode cX11_nights 62 = .ok (.ldiv, 1) := by decide +kernel
theorem dX11_nights_63 : decode cX11_nights 63 = .ok (.ldc2_w 226, 3) := by decide +kernel
theorem dX11_nights_66 : decode cX11_nights 66 = .ok (.lrem, 1) := by decide +kernel
theorem dX11_nights_67 : decode cX11_nights 67 = .ok (.l2i, 1) := by decide +kernel
theorem dX11_nights_68 : decode cX11_nights 68 = .ok (.istore 7, 2) := by decide +kernel
theorem dX11_nights_70 : decode cX11_nights 70 = .ok (.lload_n 3, 1) := by decide +kernel
theorem dX11_nights_71 : decode cX11_nights 71 = .ok (.ldc2_w 228, 3) := by decide +kernel
theorem dX11_nights_74 : decode cX11_nights 74 = .ok (.ldiv, 1) := by decide +kernel
theorem dX11_nights_75 : decode cX11_nights 75 = .ok (.ldc2_w 212, 3) := by decide +kernel
theorem dX11_nights_78 : decode cX11_nights 78 = .ok (.lrem, 1) := by decide +kernel
theorem dX11_nights_79 : decode cX11_nights 79 = .ok (.l2i, 1) := by decide +kernel
theorem dX11_nights_80 : decode cX11_nights 80 = .ok (.istore 8, 2) := by decide +kernel
theorem dX11_nights_82 : decode cX11_nights 82 = .ok (.iconst 0, 1) := by decide +kernel
theorem dX11_nights_83 : decode cX11_nights 83 = .ok (.istore 9, 2) := by decide +kernel
theorem dX11_nights_85 : decode cX11_nights 85 = .ok (.iconst 0, 1) := by decide +kernel
theorem dX11_nights_86 : decode cX11_nights 86 = .ok (.istore 10, 2) := by decide +kernel
theorem dX11_nights_88 : decode cX11_nights 88 = .ok (.iload 10, 2) := by decide +kernel
theorem dX11_nights_90 : decode cX11_nights 90 = .ok (.bipush 120, 2) := by decide +kernel
theorem dX11_nights_92 : decode cX11_nights 92 = .ok (.if_icmp .ge 34, 3) := by decide +kernel
theorem dX11_nights_95 : decode cX11_nights 95 = .ok (.iload 9, 2) := by decide +kernel
theorem dX11_nights_97 : decode cX11_nights 97 = .ok (.ifCond .ne 16, 3) := by decide +kernel
theorem dX11_nights_100 : decode cX11_nights 100 = .ok (.aload_n 0, 1) := by decide +kernel
theorem dX11_nights_101 : decode cX11_nights 101 = .ok (.iload 7, 2) := by decide +kernel
theorem dX11_nights_103 : decode cX11_nights 103 = .ok (.iload 10, 2) := by decide +kernel
theorem dX11_nights_105 : decode cX11_nights 105 = .ok (.iload 8, 2) := by decide +kernel
theorem dX11_nights_107 : decode cX11_nights 107 = .ok (.invokevirtual 149, 3) := by decide +kernel
theorem dX11_nights_110 : decode cX11_nights 110 = .ok (.ifCond .eq 7, 3) := by decide +kernel
theorem dX11_nights_113 : decode cX11_nights 113 = .ok (.iconst 1, 1) := by decide +kernel
theorem dX11_nights_114 : decode cX11_nights 114 = .ok (.goto 4, 3) := by decide +kernel
theorem dX11_nights_117 : decode cX11_nights 117 = .ok (.iconst 0, 1) := by decide +kernel
theorem dX11_nights_118 : decode cX11_nights 118 = .ok (.istore 9, 2) := by decide +kernel
theorem dX11_nights_120 : decode cX11_nights 120 = .ok (.iinc 10 1, 3) := by decide +kernel
theorem dX11_nights_123 : decode cX11_nights 123 = .ok (.goto (-35), 3) := by decide +kernel
theorem dX11_nights_126 : decode cX11_nights 126 = .ok (.iload 5, 2) := by decide +kernel
theorem dX11_nights_128 : decode cX11_nights 128 = .ok (.iload 9, 2) := by decide +kernel
theorem dX11_nights_130 : decode cX11_nights 130 = .ok (.ifCond .eq 7, 3) := by decide +kernel
theorem dX11_nights_133 : decode cX11_nights 133 = .ok (.iconst 1, 1) := by decide +kernel
theorem dX11_nights_134 : decode cX11_nights 134 = .ok (.goto 4, 3) := by decide +kernel
theorem dX11_nights_137 : decode cX11_nights 137 = .ok (.iconst 0, 1) := by decide +kernel
theorem dX11_nights_138 : decode cX11_nights 138 = .ok (.iadd, 1) := by decide +kernel
theorem dX11_nights_139 : decode cX11_nights 139 = .ok (.istore 5, 2) := by decide +kernel
theorem dX11_nights_141 : decode cX11_nights 141 = .ok (.iinc 6 1, 3) := by decide +kernel
theorem dX11_nights_144 : decode cX11_nights 144 = .ok (.goto (-106), 3) := by decide +kernel
theorem dX11_nights_147 : decode cX11_nights 147 = .ok (.iload 5, 2) := by decide +kernel
theorem dX11_nights_149 : decode cX11_nights 149 = .ok (.ireturn, 1) := by decide +kernel
theorem dX11_part_0 : decode cX11_part 0 = .ok (.iload_n 1, 1) := by decide +kernel
theorem dX11_part_1 : decode cX11_part 1 = .ok (.ifCond .ne 10, 3) := by decide +kernel
theorem dX11_part_4 : decode cX11_part 4 = .ok (.aload_n 0, 1) := by decide +kernel
theorem dX11_part_5 : decode cX11_part 5 = .ok (.getfield 214, 3) := by decide +kernel
theorem dX11_part_8 : decode cX11_part 8 = .ok (.goto 20, 3) := by decide +kernel
theorem dX11_part_11 : decode cX11_part 11 = .ok (.iload_n 1, 1) := by decide +kernel
theorem dX11_part_12 : decode cX11_part 12 = .ok (.iconst 1, 1) := by decide +kernel
theorem dX11_part_13 : decode cX11_part 13 = .ok (.if_icmp .ne 10, 3) := by decide +kernel
theorem dX11_part_16 : decode cX11_part 16 = .ok (.aload_n 0, 1) := by decide +kernel
theorem dX11_part_17 : decode cX11_part 17 = .ok (.getfield 26, 3) := by decide +kernel
theorem dX11_part_20 : decode cX11_part 20 = .ok (.goto 8, 3) := by decide +kernel
theorem dX11_part_23 : decode cX11_part 23 = .ok (.aload_n 0, 1) := by decide +kernel
theorem dX11_part_24 : decode cX11_part 24 = .ok (.invokevirtual 60, 3) := by decide +kernel
theorem dX11_part_27 : decode cX11_part 27 = .ok (.i2l, 1) := by decide +kernel
theorem dX11_part_28 : decode cX11_part 28 = .ok (.lreturn, 1) := by decide +kernel
theorem dX11_image_0 : decode cX11_image 0 = .ok (.iload_n 1, 1) := by decide +kernel
theorem dX11_image_1 : decode cX11_image 1 = .ok (.iconst 0, 1) := by decide +kernel
theorem dX11_image_2 : decode cX11_image 2 = .ok (.iconst 1, 1) := by decide +kernel
theorem dX11_image_3 : decode cX11_image 3 = .ok (.invokestatic 52, 3) := by decide +kernel
theorem dX11_image_6 : decode cX11_image 6 = .ok (.ifCond .ne 8, 3) := by decide +kernel
theorem dX11_image_9 : decode cX11_image 9 = .ok (.aload_n 0, 1) := by decide +kernel
theorem dX11_image_10 : decode cX11_image 10 = .ok (.invokevirtual 60, 3) := by decide +kernel
theorem dX11_image_13 : decode cX11_image 13 = .ok (.ireturn, 1) := by decide +kernel
theorem dX11_image_14 : decode cX11_image 14 = .ok (.aload_n 0, 1) := by decide +kernel
theorem dX11_image_15 : decode cX11_image 15 = .ok (.getfield 7, 3) := by decide +kernel
theorem dX11_image_18 : decode cX11_image 18 = .ok (.iconst 0, 1) := by decide +kernel
theorem dX11_image_19 : decode cX11_image 19 = .ok (.aload_n 0, 1) := by decide +kernel
theorem dX11_image_20 : decode cX11_image 20 = .ok (.getfield 16, 3) := by decide +kernel
theorem dX11_image_23 : decode cX11_image 23 = .ok (.sipush 181, 3) := by decide +kernel
theorem dX11_image_26 : decode cX11_image 26 = .ok (.iload_n 1, 1) := by decide +kernel
theorem dX11_image_27 : decode cX11_image 27 = .ok (.imul, 1) := by decide +kernel
theorem dX11_image_28 : decode cX11_image 28 = .ok (.sipush 181, 3) := by decide +kernel
theorem dX11_image_31 : decode cX11_image 31 = .ok (.invokestatic 135, 3) := by decide +kernel
theorem dX11_image_34 : decode cX11_image 34 = .ok (.aload_n 0, 1) := by decide +kernel
theorem dX11_image_35 : decode cX11_image 35 = .ok (.getfield 19, 3) := by decide +kernel
theorem dX11_image_38 : decode cX11_image 38 = .ok (.iload_n 1, 1) := by decide +kernel
theorem dX11_image_39 : decode cX11_image 39 = .ok (.iconst 1, 1) := by decide +kernel
theorem dX11_image_40 : decode cX11_image 40 = .ok (.bastore, 1) := by decide +kernel
theorem dX11_image_41 : decode cX11_image 41 = .ok (.iconst 1, 1) := by decide +kernel
theorem dX11_image_42 : decode cX11_image 42 = .ok (.ireturn, 1) := by decide +kernel
theorem dX11_from_0 : decode cX11_from 0 = .ok (.iload_n 1, 1) := by decide +kernel
theorem dX11_from_1 : decode cX11_from 1 = .ok (.iconst 0, 1) := by decide +kernel
theorem dX11_from_2 : decode cX11_from 2 = .ok (.iconst 1, 1) := by decide +kernel
theorem dX11_from_3 : decode cX11_from 3 = .ok (.invokestatic 52, 3) := by decide +kernel
theorem dX11_from_6 : decode cX11_from 6 = .ok (.ifCond .ne 8, 3) := by decide +kernel
theorem dX11_from_9 : decode cX11_from 9 = .ok (.aload_n 0, 1) := by decide +kernel
theorem dX11_from_10 : decode cX11_from 10 = .ok (.invokevirtual 60, 3) := by decide +kernel
theorem dX11_from_13 : decode cX11_from 13 = .ok (.ireturn, 1) := by decide +kernel
theorem dX11_from_14 : decode cX11_from 14 = .ok (.aload_n 0, 1) := by decide +kernel
theorem dX11_from_15 : decode cX11_from 15 = .ok (.getfield 19, 3) := by decide +kernel
theorem dX11_from_18 : decode cX11_from 18 = .ok (.iload_n 1, 1) := by decide +kernel
theorem dX11_from_19 : decode cX11_from 19 = .ok (.baload, 1) := by decide +kernel
theorem dX11_from_20 : decode cX11_from 20 = .ok (.ifCond .ne 8, 3) := by decide +kernel
theorem dX11_from_23 : decode cX11_from 23 = .ok (.aload_n 0, 1) := by decide +kernel
theorem dX11_from_24 : decode cX11_from 24 = .ok (.invokevirtual 157, 3) := by decide +kernel
theorem dX11_from_27 : decode cX11_from 27 = .ok (.ireturn, 1) := by decide +kernel
theorem dX11_from_28 : decode cX11_from 28 = .ok (.aload_n 0, 1) := by decide +kernel
theorem dX11_from_29 : decode cX11_from 29 = .ok (.getfield 16, 3) := by decide +kernel
theorem dX11_from_32 : decode cX11_from 32 = .ok (.sipush 181, 3) := by decide +kernel
theorem dX11_from_35 : decode cX11_from 35 = .ok (.iload_n 1, 1) := by decide +kernel
theorem dX11_from_36 : decode cX11_from 36 = .ok (.imul, 1) := by decide +kernel
theorem dX11_from_37 : decode cX11_from 37 = .ok (.aload_n 0, 1) := by decide +kernel
theorem dX11_from_38 : decode cX11_from 38 = .ok (.getfield 7, 3) := by decide +kernel
theorem dX11_from_41 : decode cX11_from 41 = .ok (.iconst 0, 1) := by decide +kernel
theorem dX11_from_42 : decode cX11_from 42 = .ok (.sipush 181, 3) := by decide +kernel
theorem dX11_from_45 : decode cX11_from 45 = .ok (.invokestatic 135, 3) := by decide +kernel
theorem dX11_from_48 : decode cX11_from 48 = .ok (.iconst 1, 1) := by decide +kernel
theorem dX11_from_49 : decode cX11_from 49 = .ok (.ireturn, 1) := by decide +kernel
theorem dX11_status_0 : decode cX11_status 0 = .ok (.iload_n 1, 1) := by decide +kernel
theorem dX11_status_1 : decode cX11_status 1 = .ok (.iconst 0, 1) := by decide +kernel
theorem dX11_status_2 : decode cX11_status 2 = .ok (.iconst 2, 1) := by decide +kernel
theorem dX11_status_3 : decode cX11_status 3 = .ok (.invokestatic 52, 3) := by decide +kernel
theorem dX11_status_6 : decode cX11_status 6 = .ok (.ifCond .ne 15, 3) := by decide +kernel
theorem dX11_status_9 : decode cX11_status 9 = .ok (.aload_n 0, 1) := by decide +kernel
theorem dX11_status_10 : decode cX11_status 10 = .ok (.getfield 23, 3) := by decide +kernel
theorem dX11_status_13 : decode cX11_status 13 = .ok (.iconst 0, 1) := by decide +kernel
theorem dX11_status_14 : decode cX11_status 14 = .ok (.dup2, 1) := by decide +kernel
theorem dX11_status_15 : decode cX11_status 15 = .ok (.iaload, 1) := by decide +kernel
theorem dX11_status_16 : decode cX11_status 16 = .ok (.iconst 1, 1) := by decide +kernel
theorem dX11_status_17 : decode cX11_status 17 = .ok (.iadd, 1) := by decide +kernel
theorem dX11_status_18 : decode cX11_status 18 = .ok (.iastore, 1) := by decide +kernel
theorem dX11_status_19 : decode cX11_status 19 = .ok (.iconst (-1), 1) := by decide +kernel
theorem dX11_status_20 : decode cX11_status 20 = .ok (.ireturn, 1) := by decide +kernel
theorem dX11_status_21 : decode cX11_status 21 = .ok (.aload_n 0, 1) := by decide +kernel
theorem dX11_status_22 : decode cX11_status 22 = .ok (.getfield 23, 3) := by decide +kernel
theorem dX11_status_25 : decode cX11_status 25 = .ok (.iload_n 1, 1) := by decide +kernel
theorem dX11_status_26 : decode cX11_status 26 = .ok (.iaload, 1) := by decide +kernel
theorem dX11_status_27 : decode cX11_status 27 = .ok (.ireturn, 1) := by decide +kernel
theorem dX11_counted_0 : decode cX11_counted 0 = .ok (.iload_n 1, 1) := by decide +kernel
theorem dX11_counted_1 : decode cX11_counted 1 = .ok (.tableswitch 102 0 6 #[43, 51, 59, 67, 75, 86, 94], 43) := by decide +kernel
theorem dX11_counted_44 : decode cX11_counted 44 = .ok (.aload_n 0, 1) := by decide +kernel
theorem dX11_counted_45 : decode cX11_counted 45 = .ok (.getfield 7, 3) := by decide +kernel
theorem dX11_counted_48 : decode cX11_counted 48 = .ok (.bipush 64, 2) := by decide +kernel
theorem dX11_counted_50 : decode cX11_counted 50 = .ok (.iaload, 1) := by decide +kernel
theorem dX11_counted_51 : decode cX11_counted 51 = .ok (.ireturn, 1) := by decide +kernel
theorem dX11_counted_52 : decode cX11_counted 52 = .ok (.aload_n 0, 1) := by decide +kernel
theorem dX11_counted_53 : decode cX11_counted 53 = .ok (.getfield 7, 3) := by decide +kernel
theorem dX11_counted_56 : decode cX11_counted 56 = .ok (.bipush 90, 2) := by decide +kernel
theorem dX11_counted_58 : decode cX11_counted 58 = .ok (.iaload, 1) := by decide +kernel
theorem dX11_counted_59 : decode cX11_counted 59 = .ok (.ireturn, 1) := by decide +kernel
theorem dX11_counted_60 : decode cX11_counted 60 = .ok (.aload_n 0, 1) := by decide +kernel
theorem dX11_counted_61 : decode cX11_counted 61 = .ok (.getfield 7, 3) := by decide +kernel
theorem dX11_counted_64 : decode cX11_counted 64 = .ok (.bipush 91, 2) := by decide +kernel
theorem dX11_counted_66 : decode cX11_counted 66 = .ok (.iaload, 1) := by decide +kernel
theorem dX11_counted_67 : decode cX11_counted 67 = .ok (.ireturn, 1) := by decide +kernel
theorem dX11_counted_68 : decode cX11_counted 68 = .ok (.aload_n 0, 1) := by decide +kernel
theorem dX11_counted_69 : decode cX11_counted 69 = .ok (.getfield 7, 3) := by decide +kernel
theorem dX11_counted_72 : decode cX11_counted 72 = .ok (.bipush 92, 2) := by decide +kernel
theorem dX11_counted_74 : decode cX11_counted 74 = .ok (.iaload, 1) := by decide +kernel
theorem dX11_counted_75 : decode cX11_counted 75 = .ok (.ireturn, 1) := by decide +kernel
theorem dX11_counted_76 : decode cX11_counted 76 = .ok (.aload_n 0, 1) := by decide +kernel
end
section
theorem dX11_counted_77 : decode cX11_counted 77 = .ok (.getfield 7, 3) := by decide +kernel
theorem dX11_counted_80 : decode cX11_counted 80 = .ok (.bipush 93, 2) := by decide +kernel
theorem dX11_counted_82 : decode cX11_counted 82 = .ok (.iaload, 1) := by decide +kernel
theorem dX11_counted_83 : decode cX11_counted 83 = .ok (.invokestatic 188, 3) := by decide +kernel
theorem dX11_counted_86 : decode cX11_counted 86 = .ok (.ireturn, 1) := by decide +kernel
theorem dX11_counted_87 : decode cX11_counted 87 = .ok (.aload_n 0, 1) := by decide +kernel
theorem dX11_counted_88 : decode cX11_counted 88 = .ok (.getfield 7, 3) := by decide +kernel
theorem dX11_counted_91 : decode cX11_counted 91 = .ok (.bipush 77, 2) := by decide +kernel
theorem dX11_counted_93 : decode cX11_counted 93 = .ok (.iaload, 1) := by decide +kernel
theorem dX11_counted_94 : decode cX11_counted 94 = .ok (.ireturn, 1) := by decide +kernel
theorem dX11_counted_95 : decode cX11_counted 95 = .ok (.aload_n 0, 1) := by decide +kernel
theorem dX11_counted_96 : decode cX11_counted 96 = .ok (.getfield 7, 3) := by decide +kernel
theorem dX11_counted_99 : decode cX11_counted 99 = .ok (.bipush 100, 2) := by decide +kernel
theorem dX11_counted_101 : decode cX11_counted 101 = .ok (.iaload, 1) := by decide +kernel
theorem dX11_counted_102 : decode cX11_counted 102 = .ok (.ireturn, 1) := by decide +kernel
theorem dX11_counted_103 : decode cX11_counted 103 = .ok (.aload_n 0, 1) := by decide +kernel
theorem dX11_counted_104 : decode cX11_counted 104 = .ok (.getfield 71, 3) := by decide +kernel
theorem dX11_counted_107 : decode cX11_counted 107 = .ok (.ireturn, 1) := by decide +kernel
theorem dX11_count_0 : decode cX11_count 0 = .ok (.iload_n 1, 1) := by decide +kernel
theorem dX11_count_1 : decode cX11_count 1 = .ok (.iconst 0, 1) := by decide +kernel
theorem dX11_count_2 : decode cX11_count 2 = .ok (.bipush 7, 2) := by decide +kernel
theorem dX11_count_4 : decode cX11_count 4 = .ok (.invokestatic 52, 3) := by decide +kernel
theorem dX11_count_7 : decode cX11_count 7 = .ok (.ifCond .eq 11, 3) := by decide +kernel
theorem dX11_count_10 : decode cX11_count 10 = .ok (.aload_n 0, 1) := by decide +kernel
theorem dX11_count_11 : decode cX11_count 11 = .ok (.iload_n 1, 1) := by decide +kernel
theorem dX11_count_12 : decode cX11_count 12 = .ok (.invokevirtual 230, 3) := by decide +kernel
theorem dX11_count_15 : decode cX11_count 15 = .ok (.goto 7, 3) := by decide +kernel
theorem dX11_count_18 : decode cX11_count 18 = .ok (.aload_n 0, 1) := by decide +kernel
theorem dX11_count_19 : decode cX11_count 19 = .ok (.invokevirtual 60, 3) := by decide +kernel
theorem dX11_count_22 : decode cX11_count 22 = .ok (.ireturn, 1) := by decide +kernel
theorem dX11_digest_0 : decode cX11_digest 0 = .ok (.ldc2_w 233, 3) := by decide +kernel
theorem dX11_digest_3 : decode cX11_digest 3 = .ok (.lstore_n 1, 1) := by decide +kernel
theorem dX11_digest_4 : decode cX11_digest 4 = .ok (.iconst 0, 1) := by decide +kernel
theorem dX11_digest_5 : decode cX11_digest 5 = .ok (.istore_n 3, 1) := by decide +kernel
theorem dX11_digest_6 : decode cX11_digest 6 = .ok (.iload_n 3, 1) := by decide +kernel
theorem dX11_digest_7 : decode cX11_digest 7 = .ok (.bipush 8, 2) := by decide +kernel
theorem dX11_digest_9 : decode cX11_digest 9 = .ok (.if_icmp .ge 22, 3) := by decide +kernel
theorem dX11_digest_12 : decode cX11_digest 12 = .ok (.ldc2_w 235, 3) := by decide +kernel
theorem dX11_digest_15 : decode cX11_digest 15 = .ok (.lload_n 1, 1) := by decide +kernel
theorem dX11_digest_16 : decode cX11_digest 16 = .ok (.lmul, 1) := by decide +kernel
theorem dX11_digest_17 : decode cX11_digest 17 = .ok (.aload_n 0, 1) := by decide +kernel
theorem dX11_digest_18 : decode cX11_digest 18 = .ok (.iload_n 3, 1) := by decide +kernel
theorem dX11_digest_19 : decode cX11_digest 19 = .ok (.invokevirtual 230, 3) := by decide +kernel
theorem dX11_digest_22 : decode cX11_digest 22 = .ok (.i2l, 1) := by decide +kernel
theorem dX11_digest_23 : decode cX11_digest 23 = .ok (.ladd, 1) := by decide +kernel
theorem dX11_digest_24 : decode cX11_digest 24 = .ok (.lstore_n 1, 1) := by decide +kernel
theorem dX11_digest_25 : decode cX11_digest 25 = .ok (.iinc 3 1, 3) := by decide +kernel
theorem dX11_digest_28 : decode cX11_digest 28 = .ok (.goto (-22), 3) := by decide +kernel
theorem dX11_digest_31 : decode cX11_digest 31 = .ok (.iconst 0, 1) := by decide +kernel
theorem dX11_digest_32 : decode cX11_digest 32 = .ok (.istore_n 3, 1) := by decide +kernel
theorem dX11_digest_33 : decode cX11_digest 33 = .ok (.iload_n 3, 1) := by decide +kernel
theorem dX11_digest_34 : decode cX11_digest 34 = .ok (.bipush 8, 2) := by decide +kernel
theorem dX11_digest_36 : decode cX11_digest 36 = .ok (.if_icmp .ge 66, 3) := by decide +kernel
theorem dX11_digest_39 : decode cX11_digest 39 = .ok (.iload_n 3, 1) := by decide +kernel
theorem dX11_digest_40 : decode cX11_digest 40 = .ok (.iconst 1, 1) := by decide +kernel
theorem dX11_digest_41 : decode cX11_digest 41 = .ok (.iadd, 1) := by decide +kernel
theorem dX11_digest_42 : decode cX11_digest 42 = .ok (.istore 4, 2) := by decide +kernel
theorem dX11_digest_44 : decode cX11_digest 44 = .ok (.iload 4, 2) := by decide +kernel
theorem dX11_digest_46 : decode cX11_digest 46 = .ok (.bipush 8, 2) := by decide +kernel
theorem dX11_digest_48 : decode cX11_digest 48 = .ok (.if_icmp .ge 48, 3) := by decide +kernel
theorem dX11_digest_51 : decode cX11_digest 51 = .ok (.ldc2_w 235, 3) := by decide +kernel
theorem dX11_digest_54 : decode cX11_digest 54 = .ok (.lload_n 1, 1) := by decide +kernel
theorem dX11_digest_55 : decode cX11_digest 55 = .ok (.lmul, 1) := by decide +kernel
theorem dX11_digest_56 : decode cX11_digest 56 = .ok (.aload_n 0, 1) := by decide +kernel
theorem dX11_digest_57 : decode cX11_digest 57 = .ok (.getfield 7, 3) := by decide +kernel
theorem dX11_digest_60 : decode cX11_digest 60 = .ok (.bipush 8, 2) := by decide +kernel
theorem dX11_digest_62 : decode cX11_digest 62 = .ok (.iload_n 3, 1) := by decide +kernel
theorem dX11_digest_63 : decode cX11_digest 63 = .ok (.imul, 1) := by decide +kernel
theorem dX11_digest_64 : decode cX11_digest 64 = .ok (.iload 4, 2) := by decide +kernel
theorem dX11_digest_66 : decode cX11_digest 66 = .ok (.iadd, 1) := by decide +kernel
theorem dX11_digest_67 : decode cX11_digest 67 = .ok (.iaload, 1) := by decide +kernel
theorem dX11_digest_68 : decode cX11_digest 68 = .ok (.ifCond .ne 7, 3) := by decide +kernel
theorem dX11_digest_71 : decode cX11_digest 71 = .ok (.iconst (-1), 1) := by decide +kernel
theorem dX11_digest_72 : decode cX11_digest 72 = .ok (.goto 15, 3) := by decide +kernel
theorem dX11_digest_75 : decode cX11_digest 75 = .ok (.aload_n 0, 1) := by decide +kernel
theorem dX11_digest_76 : decode cX11_digest 76 = .ok (.getfield 7, 3) := by decide +kernel
theorem dX11_digest_79 : decode cX11_digest 79 = .ok (.bipush 8, 2) := by decide +kernel
theorem dX11_digest_81 : decode cX11_digest 81 = .ok (.iload_n 3, 1) := by decide +kernel
theorem dX11_digest_82 : decode cX11_digest 82 = .ok (.imul, 1) := by decide +kernel
theorem dX11_digest_83 : decode cX11_digest 83 = .ok (.iload 4, 2) := by decide +kernel
theorem dX11_digest_85 : decode cX11_digest 85 = .ok (.iadd, 1) := by decide +kernel
theorem dX11_digest_86 : decode cX11_digest 86 = .ok (.iaload, 1) := by decide +kernel
theorem dX11_digest_87 : decode cX11_digest 87 = .ok (.i2l, 1) := by decide +kernel
theorem dX11_digest_88 : decode cX11_digest 88 = .ok (.ladd, 1) := by decide +kernel
theorem dX11_digest_89 : decode cX11_digest 89 = .ok (.lstore_n 1, 1) := by decide +kernel
theorem dX11_digest_90 : decode cX11_digest 90 = .ok (.iinc 4 1, 3) := by decide +kernel
theorem dX11_digest_93 : decode cX11_digest 93 = .ok (.goto (-49), 3) := by decide +kernel
theorem dX11_digest_96 : decode cX11_digest 96 = .ok (.iinc 3 1, 3) := by decide +kernel
theorem dX11_digest_99 : decode cX11_digest 99 = .ok (.goto (-66), 3) := by decide +kernel
theorem dX11_digest_102 : decode cX11_digest 102 = .ok (.iconst 0, 1) := by decide +kernel
theorem dX11_digest_103 : decode cX11_digest 103 = .ok (.istore_n 3, 1) := by decide +kernel
theorem dX11_digest_104 : decode cX11_digest 104 = .ok (.iload_n 3, 1) := by decide +kernel
theorem dX11_digest_105 : decode cX11_digest 105 = .ok (.aload_n 0, 1) := by decide +kernel
theorem dX11_digest_106 : decode cX11_digest 106 = .ok (.getfield 7, 3) := by decide +kernel
theorem dX11_digest_109 : decode cX11_digest 109 = .ok (.bipush 64, 2) := by decide +kernel
theorem dX11_digest_111 : decode cX11_digest 111 = .ok (.iaload, 1) := by decide +kernel
theorem dX11_digest_112 : decode cX11_digest 112 = .ok (.if_icmp .ge 79, 3) := by decide +kernel
theorem dX11_digest_115 : decode cX11_digest 115 = .ok (.ldc2_w 235, 3) := by decide +kernel
theorem dX11_digest_118 : decode cX11_digest 118 = .ok (.lload_n 1, 1) := by decide +kernel
theorem dX11_digest_119 : decode cX11_digest 119 = .ok (.lmul, 1) := by decide +kernel
theorem dX11_digest_120 : decode cX11_digest 120 = .ok (.aload_n 0, 1) := by decide +kernel
theorem dX11_digest_121 : decode cX11_digest 121 = .ok (.getfield 7, 3) := by decide +kernel
theorem dX11_digest_124 : decode cX11_digest 124 = .ok (.bipush 65, 2) := by decide +kernel
theorem dX11_digest_126 : decode cX11_digest 126 = .ok (.iload_n 3, 1) := by decide +kernel
theorem dX11_digest_127 : decode cX11_digest 127 = .ok (.iadd, 1) := by decide +kernel
theorem dX11_digest_128 : decode cX11_digest 128 = .ok (.iaload, 1) := by decide +kernel
theorem dX11_digest_129 : decode cX11_digest 129 = .ok (.i2l, 1) := by decide +kernel
theorem dX11_digest_130 : decode cX11_digest 130 = .ok (.ladd, 1) := by decide +kernel
theorem dX11_digest_131 : decode cX11_digest 131 = .ok (.lstore_n 1, 1) := by decide +kernel
theorem dX11_digest_132 : decode cX11_digest 132 = .ok (.ldc2_w 235, 3) := by decide +kernel
theorem dX11_digest_135 : decode cX11_digest 135 = .ok (.lload_n 1, 1) := by decide +kernel
theorem dX11_digest_136 : decode cX11_digest 136 = .ok (.lmul, 1) := by decide +kernel
theorem dX11_digest_137 : decode cX11_digest 137 = .ok (.aload_n 0, 1) := by decide +kernel
theorem dX11_digest_138 : decode cX11_digest 138 = .ok (.getfield 7, 3) := by decide +kernel
theorem dX11_digest_141 : decode cX11_digest 141 = .ok (.bipush 71, 2) := by decide +kernel
theorem dX11_digest_143 : decode cX11_digest 143 = .ok (.iload_n 3, 1) := by decide +kernel
theorem dX11_digest_144 : decode cX11_digest 144 = .ok (.iadd, 1) := by decide +kernel
theorem dX11_digest_145 : decode cX11_digest 145 = .ok (.iaload, 1) := by decide +kernel
theorem dX11_digest_146 : decode cX11_digest 146 = .ok (.i2l, 1) := by decide +kernel
theorem dX11_digest_147 : decode cX11_digest 147 = .ok (.ladd, 1) := by decide +kernel
theorem dX11_digest_148 : decode cX11_digest 148 = .ok (.lstore_n 1, 1) := by decide +kernel
theorem dX11_digest_149 : decode cX11_digest 149 = .ok (.ldc2_w 235, 3) := by decide +kernel
theorem dX11_digest_152 : decode cX11_digest 152 = .ok (.lload_n 1, 1) := by decide +kernel
theorem dX11_digest_153 : decode cX11_digest 153 = .ok (.lmul, 1) := by decide +kernel
theorem dX11_digest_154 : decode cX11_digest 154 = .ok (.aload_n 0, 1) := by decide +kernel
theorem dX11_digest_155 : decode cX11_digest 155 = .ok (.getfield 7, 3) := by decide +kernel
theorem dX11_digest_158 : decode cX11_digest 158 = .ok (.bipush 94, 2) := by decide +kernel
theorem dX11_digest_160 : decode cX11_digest 160 = .ok (.iload_n 3, 1) := by decide +kernel
theorem dX11_digest_161 : decode cX11_digest 161 = .ok (.iadd, 1) := by decide +kernel
theorem dX11_digest_162 : decode cX11_digest 162 = .ok (.iaload, 1) := by decide +kernel
theorem dX11_digest_163 : decode cX11_digest 163 = .ok (.i2l, 1) := by decide +kernel
theorem dX11_digest_164 : decode cX11_digest 164 = .ok (.ladd, 1) := by decide +kernel
theorem dX11_digest_165 : decode cX11_digest 165 = .ok (.lstore_n 1, 1) := by decide +kernel
theorem dX11_digest_166 : decode cX11_digest 166 = .ok (.ldc2_w 235, 3) := by decide +kernel
theorem dX11_digest_169 : decode cX11_digest 169 = .ok (.lload_n 1, 1) := by decide +kernel
theorem dX11_digest_170 : decode cX11_digest 170 = .ok (.lmul, 1) := by decide +kernel
theorem dX11_digest_171 : decode cX11_digest 171 = .ok (.aload_n 0, 1) := by decide +kernel
theorem dX11_digest_172 : decode cX11_digest 172 = .ok (.getfield 7, 3) := by decide +kernel
theorem dX11_digest_175 : decode cX11_digest 175 = .ok (.bipush 93, 2) := by decide +kernel
theorem dX11_digest_177 : decode cX11_digest 177 = .ok (.iaload, 1) := by decide +kernel
theorem dX11_digest_178 : decode cX11_digest 178 = .ok (.iload_n 3, 1) := by decide +kernel
theorem dX11_digest_179 : decode cX11_digest 179 = .ok (.ishr, 1) := by decide +kernel
theorem dX11_digest_180 : decode cX11_digest 180 = .ok (.iconst 1, 1) := by decide +kernel
theorem dX11_digest_181 : decode cX11_digest 181 = .ok (.iand, 1) := by decide +kernel
theorem dX11_digest_182 : decode cX11_digest 182 = .ok (.i2l, 1) := by decide +kernel
theorem dX11_digest_183 : decode cX11_digest 183 = .ok (.ladd, 1) := by decide +kernel
theorem dX11_digest_184 : decode cX11_digest 184 = .ok (.lstore_n 1, 1) := by decide +kernel
theorem dX11_digest_185 : decode cX11_digest 185 = .ok (.iinc 3 1, 3) := by decide +kernel
theorem dX11_digest_188 : decode cX11_digest 188 = .ok (.goto (-84), 3) := by decide +kernel
theorem dX11_digest_191 : decode cX11_digest 191 = .ok (.iconst 0, 1) := by decide +kernel
theorem dX11_digest_192 : decode cX11_digest 192 = .ok (.istore_n 3, 1) := by decide +kernel
theorem dX11_digest_193 : decode cX11_digest 193 = .ok (.iload_n 3, 1) := by decide +kernel
theorem dX11_digest_194 : decode cX11_digest 194 = .ok (.iconst 2, 1) := by decide +kernel
theorem dX11_digest_195 : decode cX11_digest 195 = .ok (.aload_n 0, 1) := by decide +kernel
theorem dX11_digest_196 : decode cX11_digest 196 = .ok (.getfield 7, 3) := by decide +kernel
theorem dX11_digest_199 : decode cX11_digest 199 = .ok (.bipush 77, 2) := by decide +kernel
theorem dX11_digest_201 : decode cX11_digest 201 = .ok (.iaload, 1) := by decide +kernel
theorem dX11_digest_202 : decode cX11_digest 202 = .ok (.imul, 1) := by decide +kernel
theorem dX11_digest_203 : decode cX11_digest 203 = .ok (.if_icmp .ge 26, 3) := by decide +kernel
theorem dX11_digest_206 : decode cX11_digest 206 = .ok (.ldc2_w 235, 3) := by decide +kernel
theorem dX11_digest_209 : decode cX11_digest 209 = .ok (.lload_n 1, 1) := by decide +kernel
theorem dX11_digest_210 : decode cX11_digest 210 = .ok (.lmul, 1) := by decide +kernel
theorem dX11_digest_211 : decode cX11_digest 211 = .ok (.aload_n 0, 1) := by decide +kernel
theorem dX11_digest_212 : decode cX11_digest 212 = .ok (.getfield 7, 3) := by decide +kernel
theorem dX11_digest_215 : decode cX11_digest 215 = .ok (.bipush 78, 2) := by decide +kernel
theorem dX11_digest_217 : decode cX11_digest 217 = .ok (.iload_n 3, 1) := by decide +kernel
theorem dX11_digest_218 : decode cX11_digest 218 = .ok (.iadd, 1) := by decide +kernel
theorem dX11_digest_219 : decode cX11_digest 219 = .ok (.iaload, 1) := by decide +kernel
theorem dX11_digest_220 : decode cX11_digest 220 = .ok (.i2l, 1) := by decide +kernel
theorem dX11_digest_221 : decode cX11_digest 221 = .ok (.ladd, 1) := by decide +kernel
theorem dX11_digest_222 : decode cX11_digest 222 = .ok (.lstore_n 1, 1) := by decide +kernel
theorem dX11_digest_223 : decode cX11_digest 223 = .ok (.iinc 3 1, 3) := by decide +kernel
theorem dX11_digest_226 : decode cX11_digest 226 = .ok (.goto (-33), 3) := by decide +kernel
theorem dX11_digest_229 : decode cX11_digest 229 = .ok (.ldc2_w 235, 3) := by decide +kernel
theorem dX11_digest_232 : decode cX11_digest 232 = .ok (.ldc2_w 235, 3) := by decide +kernel
theorem dX11_digest_235 : decode cX11_digest 235 = .ok (.lload_n 1, 1) := by decide +kernel
theorem dX11_digest_236 : decode cX11_digest 236 = .ok (.lmul, 1) := by decide +kernel
theorem dX11_digest_237 : decode cX11_digest 237 = .ok (.aload_n 0, 1) := by decide +kernel
theorem dX11_digest_238 : decode cX11_digest 238 = .ok (.getfield 214, 3) := by decide +kernel
theorem dX11_digest_241 : decode cX11_digest 241 = .ok (.ladd, 1) := by decide +kernel
theorem dX11_digest_242 : decode cX11_digest 242 = .ok (.lmul, 1) := by decide +kernel
theorem dX11_digest_243 : decode cX11_digest 243 = .ok (.aload_n 0, 1) := by decide +kernel
theorem dX11_digest_244 : decode cX11_digest 244 = .ok (.getfield 26, 3) := by decide +kernel
theorem dX11_digest_247 : decode cX11_digest 247 = .ok (.ladd, 1) := by decide +kernel
theorem dX11_digest_248 : decode cX11_digest 248 = .ok (.lreturn, 1) := by decide +kernel
theorem dJ6_bitCount_0f7a4_0 : decode cJ6_bitCount_0f7a4 0 = .ok (.iload_n 0, 1) := by decide +kernel
theorem dJ6_bitCount_0f7a4_1 : decode cJ6_bitCount_0f7a4 1 = .ok (.iload_n 0, 1) := by decide +kernel
theorem dJ6_bitCount_0f7a4_2 : decode cJ6_bitCount_0f7a4 2 = .ok (.iconst 1, 1) := by decide +kernel
theorem dJ6_bitCount_0f7a4_3 : decode cJ6_bitCount_0f7a4 3 = .ok (.iushr, 1) := by decide +kernel
theorem dJ6_bitCount_0f7a4_4 : decode cJ6_bitCount_0f7a4 4 = .ok (.ldc_w 265, 3) := by decide +kernel
theorem dJ6_bitCount_0f7a4_7 : decode cJ6_bitCount_0f7a4 7 = .ok (.iand, 1) := by decide +kernel
theorem dJ6_bitCount_0f7a4_8 : decode cJ6_bitCount_0f7a4 8 = .ok (.isub, 1) := by decide +kernel
theorem dJ6_bitCount_0f7a4_9 : decode cJ6_bitCount_0f7a4 9 = .ok (.istore_n 0, 1) := by decide +kernel
theorem dJ6_bitCount_0f7a4_10 : decode cJ6_bitCount_0f7a4 10 = .ok (.iload_n 0, 1) := by decide +kernel
theorem dJ6_bitCount_0f7a4_11 : decode cJ6_bitCount_0f7a4 11 = .ok (.ldc_w 266, 3) := by decide +kernel
theorem dJ6_bitCount_0f7a4_14 : decode cJ6_bitCount_0f7a4 14 = .ok (.iand, 1) := by decide +kernel
theorem dJ6_bitCount_0f7a4_15 : decode cJ6_bitCount_0f7a4 15 = .ok (.iload_n 0, 1) := by decide +kernel
theorem dJ6_bitCount_0f7a4_16 : decode cJ6_bitCount_0f7a4 16 = .ok (.iconst 2, 1) := by decide +kernel
theorem dJ6_bitCount_0f7a4_17 : decode cJ6_bitCount_0f7a4 17 = .ok (.iushr, 1) := by decide +kernel
theorem dJ6_bitCount_0f7a4_18 : decode cJ6_bitCount_0f7a4 18 = .ok (.ldc_w 266, 3) := by decide +kernel
theorem dJ6_bitCount_0f7a4_21 : decode cJ6_bitCount_0f7a4 21 = .ok (.iand, 1) := by decide +kernel
theorem dJ6_bitCount_0f7a4_22 : decode cJ6_bitCount_0f7a4 22 = .ok (.iadd, 1) := by decide +kernel
theorem dJ6_bitCount_0f7a4_23 : decode cJ6_bitCount_0f7a4 23 = .ok (.istore_n 0, 1) := by decide +kernel
theorem dJ6_bitCount_0f7a4_24 : decode cJ6_bitCount_0f7a4 24 = .ok (.iload_n 0, 1) := by decide +kernel
theorem dJ6_bitCount_0f7a4_25 : decode cJ6_bitCount_0f7a4 25 = .ok (.iload_n 0, 1) := by decide +kernel
theorem dJ6_bitCount_0f7a4_26 : decode cJ6_bitCount_0f7a4 26 = .ok (.iconst 4, 1) := by decide +kernel
theorem dJ6_bitCount_0f7a4_27 : decode cJ6_bitCount_0f7a4 27 = .ok (.iushr, 1) := by decide +kernel
theorem dJ6_bitCount_0f7a4_28 : decode cJ6_bitCount_0f7a4 28 = .ok (.iadd, 1) := by decide +kernel
theorem dJ6_bitCount_0f7a4_29 : decode cJ6_bitCount_0f7a4 29 = .ok (.ldc_w 267, 3) := by decide +kernel
theorem dJ6_bitCount_0f7a4_32 : decode cJ6_bitCount_0f7a4 32 = .ok (.iand, 1) := by decide +kernel
theorem dJ6_bitCount_0f7a4_33 : decode cJ6_bitCount_0f7a4 33 = .ok (.istore_n 0, 1) := by decide +kernel
theorem dJ6_bitCount_0f7a4_34 : decode cJ6_bitCount_0f7a4 34 = .ok (.iload_n 0, 1) := by decide +kernel
theorem dJ6_bitCount_0f7a4_35 : decode cJ6_bitCount_0f7a4 35 = .ok (.iload_n 0, 1) := by decide +kernel
theorem dJ6_bitCount_0f7a4_36 : decode cJ6_bitCount_0f7a4 36 = .ok (.bipush 8, 2) := by decide +kernel
theorem dJ6_bitCount_0f7a4_38 : decode cJ6_bitCount_0f7a4 38 = .ok (.iushr, 1) := by decide +kernel
theorem dJ6_bitCount_0f7a4_39 : decode cJ6_bitCount_0f7a4 39 = .ok (.iadd, 1) := by decide +kernel
theorem dJ6_bitCount_0f7a4_40 : decode cJ6_bitCount_0f7a4 40 = .ok (.istore_n 0, 1) := by decide +kernel
theorem dJ6_bitCount_0f7a4_41 : decode cJ6_bitCount_0f7a4 41 = .ok (.iload_n 0, 1) := by decide +kernel
theorem dJ6_bitCount_0f7a4_42 : decode cJ6_bitCount_0f7a4 42 = .ok (.iload_n 0, 1) := by decide +kernel
theorem dJ6_bitCount_0f7a4_43 : decode cJ6_bitCount_0f7a4 43 = .ok (.bipush 16, 2) := by decide +kernel
theorem dJ6_bitCount_0f7a4_45 : decode cJ6_bitCount_0f7a4 45 = .ok (.iushr, 1) := by decide +kernel
theorem dJ6_bitCount_0f7a4_46 : decode cJ6_bitCount_0f7a4 46 = .ok (.iadd, 1) := by decide +kernel
theorem dJ6_bitCount_0f7a4_47 : decode cJ6_bitCount_0f7a4 47 = .ok (.istore_n 0, 1) := by decide +kernel
theorem dJ6_bitCount_0f7a4_48 : decode cJ6_bitCount_0f7a4 48 = .ok (.iload_n 0, 1) := by decide +kernel
theorem dJ6_bitCount_0f7a4_49 : decode cJ6_bitCount_0f7a4 49 = .ok (.bipush 63, 2) := by decide +kernel
theorem dJ6_bitCount_0f7a4_51 : decode cJ6_bitCount_0f7a4 51 = .ok (.iand, 1) := by decide +kernel
theorem dJ6_bitCount_0f7a4_52 : decode cJ6_bitCount_0f7a4 52 = .ok (.ireturn, 1) := by decide +kernel
theorem dJ9_max_7cf53_0 : decode cJ9_max_7cf53 0 = .ok (.iload_n 0, 1) := by decide +kernel
theorem dJ9_max_7cf53_1 : decode cJ9_max_7cf53 1 = .ok (.iload_n 1, 1) := by decide +kernel
theorem dJ9_max_7cf53_2 : decode cJ9_max_7cf53 2 = .ok (.if_icmp .lt 7, 3) := by decide +kernel
theorem dJ9_max_7cf53_5 : decode cJ9_max_7cf53 5 = .ok (.iload_n 0, 1) := by decide +kernel
theorem dJ9_max_7cf53_6 : decode cJ9_max_7cf53 6 = .ok (.goto 4, 3) := by decide +kernel
theorem dJ9_max_7cf53_9 : decode cJ9_max_7cf53 9 = .ok (.iload_n 1, 1) := by decide +kernel
theorem dJ9_max_7cf53_10 : decode cJ9_max_7cf53 10 = .ok (.ireturn, 1) := by decide +kernel
theorem dJ9_min_7cf53_0 : decode cJ9_min_7cf53 0 = .ok (.iload_n 0, 1) := by decide +kernel
theorem dJ9_min_7cf53_1 : decode cJ9_min_7cf53 1 = .ok (.iload_n 1, 1) := by decide +kernel
theorem dJ9_min_7cf53_2 : decode cJ9_min_7cf53 2 = .ok (.if_icmp .gt 7, 3) := by decide +kernel
theorem dJ9_min_7cf53_5 : decode cJ9_min_7cf53 5 = .ok (.iload_n 0, 1) := by decide +kernel
theorem dJ9_min_7cf53_6 : decode cJ9_min_7cf53 6 = .ok (.goto 4, 3) := by decide +kernel
theorem dJ9_min_7cf53_9 : decode cJ9_min_7cf53 9 = .ok (.iload_n 1, 1) := by decide +kernel
theorem dJ9_min_7cf53_10 : decode cJ9_min_7cf53 10 = .ok (.ireturn, 1) := by decide +kernel
theorem dJ0_length_8abf5_0 : decode cJ0_length_8abf5 0 = .ok (.aload_n 0, 1) := by decide +kernel
theorem dJ0_length_8abf5_1 : decode cJ0_length_8abf5 1 = .ok (.getfield 9, 3) := by decide +kernel
theorem dJ0_length_8abf5_4 : decode cJ0_length_8abf5 4 = .ok (.arraylength, 1) := by decide +kernel
theorem dJ0_length_8abf5_5 : decode cJ0_length_8abf5 5 = .ok (.aload_n 0, 1) := by decide +kernel
theorem dJ0_length_8abf5_6 : decode cJ0_length_8abf5 6 = .ok (.invokevirtual 335, 3) := by decide +kernel
theorem dJ0_length_8abf5_9 : decode cJ0_length_8abf5 9 = .ok (.ishr, 1) := by decide +kernel
theorem dJ0_length_8abf5_10 : decode cJ0_length_8abf5 10 = .ok (.ireturn, 1) := by decide +kernel
theorem dJ0_charAt_5068e_0 : decode cJ0_charAt_5068e 0 = .ok (.aload_n 0, 1) := by decide +kernel
theorem dJ0_charAt_5068e_1 : decode cJ0_charAt_5068e 1 = .ok (.invokevirtual 492, 3) := by decide +kernel
theorem dJ0_charAt_5068e_4 : decode cJ0_charAt_5068e 4 = .ok (.ifCond .eq 12, 3) := by decide +kernel
theorem dJ0_charAt_5068e_7 : decode cJ0_charAt_5068e 7 = .ok (.aload_n 0, 1) := by decide +kernel
theorem dJ0_charAt_5068e_8 : decode cJ0_charAt_5068e 8 = .ok (.getfield 9, 3) := by decide +kernel
theorem dJ0_charAt_5068e_11 : decode cJ0_charAt_5068e 11 = .ok (.iload_n 1, 1) := by decide +kernel
theorem dJ0_charAt_5068e_12 : decode cJ0_charAt_5068e 12 = .ok (.invokestatic 495, 3) := by decide +kernel
theorem dJ0_charAt_5068e_15 : decode cJ0_charAt_5068e 15 = .ok (.ireturn, 1) := by decide +kernel
theorem dJ0_charAt_5068e_16 : decode cJ0_charAt_5068e 16 = .ok (.aload_n 0, 1) := by decide +kernel
theorem dJ0_charAt_5068e_17 : decode cJ0_charAt_5068e 17 = .ok (.getfield 9, 3) := by decide +kernel
theorem dJ0_charAt_5068e_20 : decode cJ0_charAt_5068e 20 = .ok (.iload_n 1, 1) := by decide +kernel
theorem dJ0_charAt_5068e_21 : decode cJ0_charAt_5068e 21 = .ok (.invokestatic 498, 3) := by decide +kernel
theorem dJ0_charAt_5068e_24 : decode cJ0_charAt_5068e 24 = .ok (.ireturn, 1) := by decide +kernel
theorem dJ0_coder_7d493_0 : decode cJ0_coder_7d493 0 = .ok (.getstatic 38, 3) := by decide +kernel
theorem dJ0_coder_7d493_3 : decode cJ0_coder_7d493 3 = .ok (.ifCond .eq 10, 3) := by decide +kernel
theorem dJ0_coder_7d493_6 : decode cJ0_coder_7d493 6 = .ok (.aload_n 0, 1) := by decide +kernel
theorem dJ0_coder_7d493_7 : decode cJ0_coder_7d493 7 = .ok (.getfield 15, 3) := by decide +kernel
theorem dJ0_coder_7d493_10 : decode cJ0_coder_7d493 10 = .ok (.goto 4, 3) := by decide +kernel
theorem dJ0_coder_7d493_13 : decode cJ0_coder_7d493 13 = .ok (.iconst 1, 1) := by decide +kernel
theorem dJ0_coder_7d493_14 : decode cJ0_coder_7d493 14 = .ok (.ireturn, 1) := by decide +kernel
theorem dJ0_isLatin1_aae02_0 : decode cJ0_isLatin1_aae02 0 = .ok (.getstatic 38, 3) := by decide +kernel
theorem dJ0_isLatin1_aae02_3 : decode cJ0_isLatin1_aae02 3 = .ok (.ifCond .eq 14, 3) := by decide +kernel
theorem dJ0_isLatin1_aae02_6 : decode cJ0_isLatin1_aae02 6 = .ok (.aload_n 0, 1) := by decide +kernel
theorem dJ0_isLatin1_aae02_7 : decode cJ0_isLatin1_aae02 7 = .ok (.getfield 15, 3) := by decide +kernel
theorem dJ0_isLatin1_aae02_10 : decode cJ0_isLatin1_aae02 10 = .ok (.ifCond .ne 7, 3) := by decide +kernel
theorem dJ0_isLatin1_aae02_13 : decode cJ0_isLatin1_aae02 13 = .ok (.iconst 1, 1) := by decide +kernel
theorem dJ0_isLatin1_aae02_14 : decode cJ0_isLatin1_aae02 14 = .ok (.goto 4, 3) := by decide +kernel
theorem dJ0_isLatin1_aae02_17 : decode cJ0_isLatin1_aae02 17 = .ok (.iconst 0, 1) := by decide +kernel
theorem dJ0_isLatin1_aae02_18 : decode cJ0_isLatin1_aae02 18 = .ok (.ireturn, 1) := by decide +kernel
theorem dJ0_checkIndex_df160_0 : decode cJ0_checkIndex_df160 0 = .ok (.iload_n 0, 1) := by decide +kernel
theorem dJ0_checkIndex_df160_1 : decode cJ0_checkIndex_df160 1 = .ok (.iload_n 1, 1) := by decide +kernel
theorem dJ0_checkIndex_df160_2 : decode cJ0_checkIndex_df160 2 = .ok (.getstatic 1053, 3) := by decide +kernel
theorem dJ0_checkIndex_df160_5 : decode cJ0_checkIndex_df160 5 = .ok (.invokestatic 1059, 3) := by decide +kernel
theorem dJ0_checkIndex_df160_8 : decode cJ0_checkIndex_df160 8 = .ok (.pop, 1) := by decide +kernel
theorem dJ0_checkIndex_df160_9 : decode cJ0_checkIndex_df160 9 = .ok (.return_, 1) := by decide +kernel
theorem dJ1_charAt_3b067_0 : decode cJ1_charAt_3b067 0 = .ok (.iload_n 1, 1) := by decide +kernel
theorem dJ1_charAt_3b067_1 : decode cJ1_charAt_3b067 1 = .ok (.aload_n 0, 1) := by decide +kernel
theorem dJ1_charAt_3b067_2 : decode cJ1_charAt_3b067 2 = .ok (.arraylength, 1) := by decide +kernel
theorem dJ1_charAt_3b067_3 : decode cJ1_charAt_3b067 3 = .ok (.invokestatic 9, 3) := by decide +kernel
theorem dJ1_charAt_3b067_6 : decode cJ1_charAt_3b067 6 = .ok (.aload_n 0, 1) := by decide +kernel
theorem dJ1_charAt_3b067_7 : decode cJ1_charAt_3b067 7 = .ok (.iload_n 1, 1) := by decide +kernel
theorem dJ1_charAt_3b067_8 : decode cJ1_charAt_3b067 8 = .ok (.baload, 1) := by decide +kernel
theorem dJ1_charAt_3b067_9 : decode cJ1_charAt_3b067 9 = .ok (.sipush 255, 3) := by decide +kernel
theorem dJ1_charAt_3b067_12 : decode cJ1_charAt_3b067 12 = .ok (.iand, 1) := by decide +kernel
theorem dJ1_charAt_3b067_13 : decode cJ1_charAt_3b067 13 = .ok (.i2c, 1) := by decide +kernel
theorem dJ1_charAt_3b067_14 : decode cJ1_charAt_3b067 14 = .ok (.ireturn, 1) := by decide +kernel
theorem dJ2_getChar_3b067_0 : decode cJ2_getChar_3b067 0 = .ok (.getstatic 44, 3) := by decide +kernel
theorem dJ2_getChar_3b067_3 : decode cJ2_getChar_3b067 3 = .ok (.ifCond .ne 25, 3) := by decide +kernel
theorem dJ2_getChar_3b067_6 : decode cJ2_getChar_3b067 6 = .ok (.iload_n 1, 1) := by decide +kernel
theorem dJ2_getChar_3b067_7 : decode cJ2_getChar_3b067 7 = .ok (.ifCond .lt 11, 3) := by decide +kernel
theorem dJ2_getChar_3b067_10 : decode cJ2_getChar_3b067 10 = .ok (.iload_n 1, 1) := by decide +kernel
theorem dJ2_getChar_3b067_11 : decode cJ2_getChar_3b067 11 = .ok (.aload_n 0, 1) := by decide +kernel
theorem dJ2_getChar_3b067_12 : decode cJ2_getChar_3b067 12 = .ok (.invokestatic 48, 3) := by decide +kernel
theorem dJ2_getChar_3b067_15 : decode cJ2_getChar_3b067 15 = .ok (.if_icmp .lt 13, 3) := by decide +kernel
theorem dJ2_getChar_3b067_18 : decode cJ2_getChar_3b067 18 = .ok (.new 52, 3) := by decide +kernel
theorem dJ2_getChar_3b067_21 : decode cJ2_getChar_3b067 21 = .ok (.dup, 1) := by decide +kernel
theorem dJ2_getChar_3b067_22 : decode cJ2_getChar_3b067 22 = .ok (.ldc 54, 2) := by decide +kernel
theorem dJ2_getChar_3b067_24 : decode cJ2_getChar_3b067 24 = .ok (.invokespecial 56, 3) := by decide +kernel
theorem dJ2_getChar_3b067_27 : decode cJ2_getChar_3b067 27 = .ok (.athrow, 1) := by decide +kernel
theorem dJ2_getChar_3b067_28 : decode cJ2_getChar_3b067 28 = .ok (.iload_n 1, 1) := by decide +kernel
theorem dJ2_getChar_3b067_29 : decode cJ2_getChar_3b067 29 = .ok (.iconst 1, 1) := by decide +kernel
theorem dJ2_getChar_3b067_30 : decode cJ2_getChar_3b067 30 = .ok (.ishl, 1) := by decide +kernel
theorem dJ2_getChar_3b067_31 : decode cJ2_getChar_3b067 31 = .ok (.istore_n 1, 1) := by decide +kernel
theorem dJ2_getChar_3b067_32 : decode cJ2_getChar_3b067 32 = .ok (.aload_n 0, 1) := by decide +kernel
theorem dJ2_getChar_3b067_33 : decode cJ2_getChar_3b067 33 = .ok (.iload_n 1, 1) := by decide +kernel
theorem dJ2_getChar_3b067_34 : decode cJ2_getChar_3b067 34 = .ok (.iinc 1 1, 3) := by decide +kernel
theorem dJ2_getChar_3b067_37 : decode cJ2_getChar_3b067 37 = .ok (.baload, 1) := by decide +kernel
theorem dJ2_getChar_3b067_38 : decode cJ2_getChar_3b067 38 = .ok (.sipush 255, 3) := by decide +kernel
theorem dJ2_getChar_3b067_41 : decode cJ2_getChar_3b067 41 = .ok (.iand, 1) := by decide +kernel
theorem dJ2_getChar_3b067_42 : decode cJ2_getChar_3b067 42 = .ok (.getstatic 59, 3) := by decide +kernel
theorem dJ2_getChar_3b067_45 : decode cJ2_getChar_3b067 45 = .ok (.ishl, 1) := by decide +kernel
theorem dJ2_getChar_3b067_46 : decode cJ2_getChar_3b067 46 = .ok (.aload_n 0, 1) := by decide +kernel
theorem dJ2_getChar_3b067_47 : decode cJ2_getChar_3b067 47 = .ok (.iload_n 1, 1) := by decide +kernel
theorem dJ2_getChar_3b067_48 : decode cJ2_getChar_3b067 48 = .ok (.baload, 1) := by decide +kernel
theorem dJ2_getChar_3b067_49 : decode cJ2_getChar_3b067 49 = .ok (.sipush 255, 3) := by decide +kernel
theorem dJ2_getChar_3b067_52 : decode cJ2_getChar_3b067 52 = .ok (.iand, 1) := by decide +kernel
theorem dJ2_getChar_3b067_53 : decode cJ2_getChar_3b067 53 = .ok (.getstatic 63, 3) := by decide +kernel
theorem dJ2_getChar_3b067_56 : decode cJ2_getChar_3b067 56 = .ok (.ishl, 1) := by decide +kernel
theorem dJ2_getChar_3b067_57 : decode cJ2_getChar_3b067 57 = .ok (.ior, 1) := by decide +kernel
theorem dJ2_getChar_3b067_58 : decode cJ2_getChar_3b067 58 = .ok (.i2c, 1) := by decide +kernel
theorem dJ2_getChar_3b067_59 : decode cJ2_getChar_3b067 59 = .ok (.ireturn, 1) := by decide +kernel
theorem dJ2_length_9d52b_0 : decode cJ2_length_9d52b 0 = .ok (.aload_n 0, 1) := by decide +kernel
theorem dJ2_length_9d52b_1 : decode cJ2_length_9d52b 1 = .ok (.arraylength, 1) := by decide +kernel
theorem dJ2_length_9d52b_2 : decode cJ2_length_9d52b 2 = .ok (.iconst 1, 1) := by decide +kernel
theorem dJ2_length_9d52b_3 : decode cJ2_length_9d52b 3 = .ok (.ishr, 1) := by decide +kernel
theorem dJ2_length_9d52b_4 : decode cJ2_length_9d52b 4 = .ok (.ireturn, 1) := by decide +kernel
theorem dJ2_charAt_3b067_0 : decode cJ2_charAt_3b067 0 = .ok (.iload_n 1, 1) := by decide +kernel
theorem dJ2_charAt_3b067_1 : decode cJ2_charAt_3b067 1 = .ok (.aload_n 0, 1) := by decide +kernel
theorem dJ2_charAt_3b067_2 : decode cJ2_charAt_3b067 2 = .ok (.invokestatic 67, 3) := by decide +kernel
theorem dJ2_charAt_3b067_5 : decode cJ2_charAt_3b067 5 = .ok (.aload_n 0, 1) := by decide +kernel
theorem dJ2_charAt_3b067_6 : decode cJ2_charAt_3b067 6 = .ok (.iload_n 1, 1) := by decide +kernel
theorem dJ2_charAt_3b067_7 : decode cJ2_charAt_3b067 7 = .ok (.invokestatic 71, 3) := by decide +kernel
theorem dJ2_charAt_3b067_10 : decode cJ2_charAt_3b067 10 = .ok (.ireturn, 1) := by decide +kernel
theorem dJ2_checkIndex_2214a_0 : decode cJ2_checkIndex_2214a 0 = .ok (.iload_n 0, 1) := by decide +kernel
theorem dJ2_checkIndex_2214a_1 : decode cJ2_checkIndex_2214a 1 = .ok (.aload_n 1, 1) := by decide +kernel
theorem dJ2_checkIndex_2214a_2 : decode cJ2_checkIndex_2214a 2 = .ok (.invokestatic 48, 3) := by decide +kernel
theorem dJ2_checkIndex_2214a_5 : decode cJ2_checkIndex_2214a 5 = .ok (.invokestatic 414, 3) := by decide +kernel
theorem dJ2_checkIndex_2214a_8 : decode cJ2_checkIndex_2214a 8 = .ok (.return_, 1) := by decide +kernel
theorem dJ3_checkIndex_8e157_0 : decode cJ3_checkIndex_8e157 0 = .ok (.iload_n 0, 1) := by decide +kernel
theorem dJ3_checkIndex_8e157_1 : decode cJ3_checkIndex_8e157 1 = .ok (.ifCond .lt 8, 3) := by decide +kernel
theorem dJ3_checkIndex_8e157_4 : decode cJ3_checkIndex_8e157 4 = .ok (.iload_n 0, 1) := by decide +kernel
theorem dJ3_checkIndex_8e157_5 : decode cJ3_checkIndex_8e157 5 = .ok (.iload_n 1, 1) := by decide +kernel
theorem dJ3_checkIndex_8e157_6 : decode cJ3_checkIndex_8e157 6 = .ok (.if_icmp .lt 10, 3) := by decide +kernel
theorem dJ3_checkIndex_8e157_9 : decode cJ3_checkIndex_8e157 9 = .ok (.aload_n 2, 1) := by decide +kernel
theorem dJ3_checkIndex_8e157_10 : decode cJ3_checkIndex_8e157 10 = .ok (.iload_n 0, 1) := by decide +kernel
theorem dJ3_checkIndex_8e157_11 : decode cJ3_checkIndex_8e157 11 = .ok (.iload_n 1, 1) := by decide +kernel
theorem dJ3_checkIndex_8e157_12 : decode cJ3_checkIndex_8e157 12 = .ok (.invokestatic 95, 3) := by decide +kernel
theorem dJ3_checkIndex_8e157_15 : decode cJ3_checkIndex_8e157 15 = .ok (.athrow, 1) := by decide +kernel
theorem dJ3_checkIndex_8e157_16 : decode cJ3_checkIndex_8e157 16 = .ok (.iload_n 0, 1) := by decide +kernel
theorem dJ3_checkIndex_8e157_17 : decode cJ3_checkIndex_8e157 17 = .ok (.ireturn, 1) := by decide +kernel
theorem dL_law_0 : decode cL_law 0 = .ok (.new 7, 3) := by decide +kernel
theorem dL_law_3 : decode cL_law 3 = .ok (.dup, 1) := by decide +kernel
theorem dL_law_4 : decode cL_law 4 = .ok (.invokespecial 9, 3) := by decide +kernel
theorem dL_law_7 : decode cL_law 7 = .ok (.astore_n 1, 1) := by decide +kernel
theorem dL_law_8 : decode cL_law 8 = .ok (.new 10, 3) := by decide +kernel
theorem dL_law_11 : decode cL_law 11 = .ok (.dup, 1) := by decide +kernel
theorem dL_law_12 : decode cL_law 12 = .ok (.invokespecial 12, 3) := by decide +kernel
theorem dL_law_15 : decode cL_law 15 = .ok (.astore_n 2, 1) := by decide +kernel
theorem dL_law_16 : decode cL_law 16 = .ok (.iconst 0, 1) := by decide +kernel
theorem dL_law_17 : decode cL_law 17 = .ok (.istore_n 3, 1) := by decide +kernel
theorem dL_law_18 : decode cL_law 18 = .ok (.iload_n 3, 1) := by decide +kernel
theorem dL_law_19 : decode cL_law 19 = .ok (.aload_n 0, 1) := by decide +kernel
theorem dL_law_20 : decode cL_law 20 = .ok (.arraylength, 1) := by decide +kernel
theorem dL_law_21 : decode cL_law 21 = .ok (.iconst 4, 1) := by decide +kernel
theorem dL_law_22 : decode cL_law 22 = .ok (.isub, 1) := by decide +kernel
theorem dL_law_23 : decode cL_law 23 = .ok (.if_icmp .gt 1115, 3) := by decide +kernel
theorem dL_law_26 : decode cL_law 26 = .ok (.aload_n 0, 1) := by decide +kernel
theorem dL_law_27 : decode cL_law 27 = .ok (.iload_n 3, 1) := by decide +kernel
theorem dL_law_28 : decode cL_law 28 = .ok (.iaload, 1) := by decide +kernel
theorem dL_law_29 : decode cL_law 29 = .ok (.bipush 63, 2) := by decide +kernel
theorem dL_law_31 : decode cL_law 31 = .ok (.iand, 1) := by decide +kernel
theorem dL_law_32 : decode cL_law 32 = .ok (.tableswitch 1100 0 35 #[160, 173, 216, 259, 282, 295, 308, 331, 354, 387, 420, 443, 456, 489, 522, 555, 588, 621, 654, 677, 710, 733, 766, 779, 812, 825, 838, 851, 894, 937, 970, 994, 1017, 1040, 1063, 1086], 160) := by decide +kernel
theorem dL_law_192 : decode cL_law 192 = .ok (.aload_n 1, 1) := by decide +kernel
theorem dL_law_193 : decode cL_law 193 = .ok (.invokevirtual 13, 3) := by decide +kernel
theorem dL_law_196 : decode cL_law 196 = .ok (.aload_n 2, 1) := by decide +kernel
theorem dL_law_197 : decode cL_law 197 = .ok (.invokevirtual 17, 3) := by decide +kernel
theorem dL_law_200 : decode cL_law 200 = .ok (.if_icmp .eq 932, 3) := by decide +kernel
theorem dL_law_203 : decode cL_law 203 = .ok (.iconst 0, 1) := by decide +kernel
theorem dL_law_204 : decode cL_law 204 = .ok (.ireturn, 1) := by decide +kernel
theorem dL_law_205 : decode cL_law 205 = .ok (.aload_n 1, 1) := by decide +kernel
theorem dL_law_206 : decode cL_law 206 = .ok (.aload_n 0, 1) := by decide +kernel
theorem dL_law_207 : decode cL_law 207 = .ok (.iload_n 3, 1) := by decide +kernel
theorem dL_law_208 : decode cL_law 208 = .ok (.iconst 1, 1) := by decide +kernel
theorem dL_law_209 : decode cL_law 209 = .ok (.iadd, 1) := by decide +kernel
theorem dL_law_210 : decode cL_law 210 = .ok (.iaload, 1) := by decide +kernel
theorem dL_law_211 : decode cL_law 211 = .ok (.aload_n 0, 1) := by decide +kernel
theorem dL_law_212 : decode cL_law 212 = .ok (.iload_n 3, 1) := by decide +kernel
theorem dL_law_213 : decode cL_law 213 = .ok (.iconst 2, 1) := by decide +kernel
theorem dL_law_214 : decode cL_law 214 = .ok (.iadd, 1) := by decide +kernel
theorem dL_law_215 : decode cL_law 215 = .ok (.iaload, 1) := by decide +kernel
theorem dL_law_216 : decode cL_law 216 = .ok (.aload_n 0, 1) := by decide +kernel
theorem dL_law_217 : decode cL_law 217 = .ok (.iload_n 3, 1) := by decide +kernel
theorem dL_law_218 : decode cL_law 218 = .ok (.iconst 3, 1) := by decide +kernel
theorem dL_law_219 : decode cL_law 219 = .ok (.iadd, 1) := by decide +kernel
theorem dL_law_220 : decode cL_law 220 = .ok (.iaload, 1) := by decide +kernel
theorem dL_law_221 : decode cL_law 221 = .ok (.invokevirtual 18, 3) := by decide +kernel
theorem dL_law_224 : decode cL_law 224 = .ok (.aload_n 2, 1) := by decide +kernel
theorem dL_law_225 : decode cL_law 225 = .ok (.aload_n 0, 1) := by decide +kernel
theorem dL_law_226 : decode cL_law 226 = .ok (.iload_n 3, 1) := by decide +kernel
theorem dL_law_227 : decode cL_law 227 = .ok (.iconst 1, 1) := by decide +kernel
theorem dL_law_228 : decode cL_law 228 = .ok (.iadd, 1) := by decide +kernel
theorem dL_law_229 : decode cL_law 229 = .ok (.iaload, 1) := by decide +kernel
theorem dL_law_230 : decode cL_law 230 = .ok (.aload_n 0, 1) := by decide +kernel
theorem dL_law_231 : decode cL_law 231 = .ok (.iload_n 3, 1) := by decide +kernel
theorem dL_law_232 : decode cL_law 232 = .ok (.iconst 2, 1) := by decide +kernel
theorem dL_law_233 : decode cL_law 233 = .ok (.iadd, 1) := by decide +kernel
theorem dL_law_234 : decode cL_law 234 = .ok (.iaload, 1) := by decide +kernel
theorem dL_law_235 : decode cL_law 235 = .ok (.aload_n 0, 1) := by decide +kernel
theorem dL_law_236 : decode cL_law 236 = .ok (.iload_n 3, 1) := by decide +kernel
theorem dL_law_237 : decode cL_law 237 = .ok (.iconst 3, 1) := by decide +kernel
theorem dL_law_238 : decode cL_law 238 = .ok (.iadd, 1) := by decide +kernel
theorem dL_law_239 : decode cL_law 239 = .ok (.iaload, 1) := by decide +kernel
theorem dL_law_240 : decode cL_law 240 = .ok (.invokevirtual 22, 3) := by decide +kernel
theorem dL_law_243 : decode cL_law 243 = .ok (.if_icmp .eq 889, 3) := by decide +kernel
theorem dL_law_246 : decode cL_law 246 = .ok (.iconst 0, 1) := by decide +kernel
theorem dL_law_247 : decode cL_law 247 = .ok (.ireturn, 1) := by decide +kernel
theorem dL_law_248 : decode cL_law 248 = .ok (.aload_n 1, 1) := by decide +kernel
theorem dL_law_249 : decode cL_law 249 = .ok (.aload_n 0, 1) := by decide +kernel
theorem dL_law_250 : decode cL_law 250 = .ok (.iload_n 3, 1) := by decide +kernel
theorem dL_law_251 : decode cL_law 251 = .ok (.iconst 1, 1) := by decide +kernel
theorem dL_law_252 : decode cL_law 252 = .ok (.iadd, 1) := by decide +kernel
theorem dL_law_253 : decode cL_law 253 = .ok (.iaload, 1) := by decide +kernel
theorem dL_law_254 : decode cL_law 254 = .ok (.aload_n 0, 1) := by decide +kernel
theorem dL_law_255 : decode cL_law 255 = .ok (.iload_n 3, 1) := by decide +kernel
theorem dL_law_256 : decode cL_law 256 = .ok (.iconst 2, 1) := by decide +kernel
theorem dL_law_257 : decode cL_law 257 = .ok (.iadd, 1) := by decide +kernel
theorem dL_law_258 : decode cL_law 258 = .ok (.iaload, 1) := by decide +kernel
theorem dL_law_259 : decode cL_law 259 = .ok (.aload_n 0, 1) := by decide +kernel
theorem dL_law_260 : decode cL_law 260 = .ok (.iload_n 3, 1) := by decide +kernel
theorem dL_law_261 : decode cL_law 261 = .ok (.iconst 3, 1) := by decide +kernel
theorem dL_law_262 : decode cL_law 262 = .ok (.iadd, 1) := by decide +kernel
theorem dL_law_263 : decode cL_law 263 = .ok (.iaload, 1) := by decide +kernel
theorem dL_law_264 : decode cL_law 264 = .ok (.invokevirtual 23, 3) := by decide +kernel
theorem dL_law_267 : decode cL_law 267 = .ok (.aload_n 2, 1) := by decide +kernel
theorem dL_law_268 : decode cL_law 268 = .ok (.aload_n 0, 1) := by decide +kernel
theorem dL_law_269 : decode cL_law 269 = .ok (.iload_n 3, 1) := by decide +kernel
theorem dL_law_270 : decode cL_law 270 = .ok (.iconst 1, 1) := by decide +kernel
theorem dL_law_271 : decode cL_law 271 = .ok (.iadd, 1) := by decide +kernel
theorem dL_law_272 : decode cL_law 272 = .ok (.iaload, 1) := by decide +kernel
theorem dL_law_273 : decode cL_law 273 = .ok (.aload_n 0, 1) := by decide +kernel
theorem dL_law_274 : decode cL_law 274 = .ok (.iload_n 3, 1) := by decide +kernel
theorem dL_law_275 : decode cL_law 275 = .ok (.iconst 2, 1) := by decide +kernel
theorem dL_law_276 : decode cL_law 276 = .ok (.iadd, 1) := by decide +kernel
theorem dL_law_277 : decode cL_law 277 = .ok (.iaload, 1) := by decide +kernel
theorem dL_law_278 : decode cL_law 278 = .ok (.aload_n 0, 1) := by decide +kernel
theorem dL_law_279 : decode cL_law 279 = .ok (.iload_n 3, 1) := by decide +kernel
theorem dL_law_280 : decode cL_law 280 = .ok (.iconst 3, 1) := by decide +kernel
theorem dL_law_281 : decode cL_law 281 = .ok (.iadd, 1) := by decide +kernel
theorem dL_law_282 : decode cL_law 282 = .ok (.iaload, 1) := by decide +kernel
theorem dL_law_283 : decode cL_law 283 = .ok (.invokevirtual 26, 3) := by decide +kernel
theorem dL_law_286 : decode cL_law 286 = .ok (.if_icmp .eq 846, 3) := by decide +kernel
theorem dL_law_289 : decode cL_law 289 = .ok (.iconst 0, 1) := by decide +kernel
theorem dL_law_290 : decode cL_law 290 = .ok (.ireturn, 1) := by decide +kernel
theorem dL_law_291 : decode cL_law 291 = .ok (.aload_n 1, 1) := by decide +kernel
theorem dL_law_292 : decode cL_law 292 = .ok (.aload_n 0, 1) := by decide +kernel
theorem dL_law_293 : decode cL_law 293 = .ok (.iload_n 3, 1) := by decide +kernel
theorem dL_law_294 : decode cL_law 294 = .ok (.iconst 1, 1) := by decide +kernel
theorem dL_law_295 : decode cL_law 295 = .ok (.iadd, 1) := by decide +kernel
theorem dL_law_296 : decode cL_law 296 = .ok (.iaload, 1) := by decide +kernel
theorem dL_law_297 : decode cL_law 297 = .ok (.invokevirtual 27, 3) := by decide +kernel
theorem dL_law_300 : decode cL_law 300 = .ok (.aload_n 2, 1) := by decide +kernel
theorem dL_law_301 : decode cL_law 301 = .ok (.aload_n 0, 1) := by decide +kernel
theorem dL_law_302 : decode cL_law 302 = .ok (.iload_n 3, 1) := by decide +kernel
theorem dL_law_303 : decode cL_law 303 = .ok (.iconst 1, 1) := by decide +kernel
theorem dL_law_304 : decode cL_law 304 = .ok (.iadd, 1) := by decide +kernel
theorem dL_law_305 : decode cL_law 305 = .ok (.iaload, 1) := by decide +kernel
theorem dL_law_306 : decode cL_law 306 = .ok (.invokevirtual 31, 3) := by decide +kernel
theorem dL_law_309 : decode cL_law 309 = .ok (.if_icmp .eq 823, 3) := by decide +kernel
theorem dL_law_312 : decode cL_law 312 = .ok (.iconst 0, 1) := by decide +kernel
theorem dL_law_313 : decode cL_law 313 = .ok (.ireturn, 1) := by decide +kernel
theorem dL_law_314 : decode cL_law 314 = .ok (.aload_n 1, 1) := by decide +kernel
theorem dL_law_315 : decode cL_law 315 = .ok (.invokevirtual 32, 3) := by decide +kernel
theorem dL_law_318 : decode cL_law 318 = .ok (.aload_n 2, 1) := by decide +kernel
theorem dL_law_319 : decode cL_law 319 = .ok (.invokevirtual 35, 3) := by decide +kernel
theorem dL_law_322 : decode cL_law 322 = .ok (.if_icmp .eq 810, 3) := by decide +kernel
theorem dL_law_325 : decode cL_law 325 = .ok (.iconst 0, 1) := by decide +kernel
theorem dL_law_326 : decode cL_law 326 = .ok (.ireturn, 1) := by decide +kernel
theorem dL_law_327 : decode cL_law 327 = .ok (.aload_n 1, 1) := by decide +kernel
theorem dL_law_328 : decode cL_law 328 = .ok (.invokevirtual 36, 3) := by decide +kernel
theorem dL_law_331 : decode cL_law 331 = .ok (.aload_n 2, 1) := by decide +kernel
theorem dL_law_332 : decode cL_law 332 = .ok (.invokevirtual 39, 3) := by decide +kernel
theorem dL_law_335 : decode cL_law 335 = .ok (.if_icmp .eq 797, 3) := by decide +kernel
theorem dL_law_338 : decode cL_law 338 = .ok (.iconst 0, 1) := by decide +kernel
theorem dL_law_339 : decode cL_law 339 = .ok (.ireturn, 1) := by decide +kernel
theorem dL_law_340 : decode cL_law 340 = .ok (.aload_n 1, 1) := by decide +kernel
theorem dL_law_341 : decode cL_law 341 = .ok (.aload_n 0, 1) := by decide +kernel
theorem dL_law_342 : decode cL_law 342 = .ok (.iload_n 3, 1) := by decide +kernel
theorem dL_law_343 : decode cL_law 343 = .ok (.iconst 1, 1) := by decide +kernel
theorem dL_law_344 : decode cL_law 344 = .ok (.iadd, 1) := by decide +kernel
theorem dL_law_345 : decode cL_law 345 = .ok (.iaload, 1) := by decide +kernel
theorem dL_law_346 : decode cL_law 346 = .ok (.invokevirtual 40, 3) := by decide +kernel
theorem dL_law_349 : decode cL_law 349 = .ok (.aload_n 2, 1) := by decide +kernel
theorem dL_law_350 : decode cL_law 350 = .ok (.aload_n 0, 1) := by decide +kernel
theorem dL_law_351 : decode cL_law 351 = .ok (.iload_n 3, 1) := by decide +kernel
theorem dL_law_352 : decode cL_law 352 = .ok (.iconst 1, 1) := by decide +kernel
theorem dL_law_353 : decode cL_law 353 = .ok (.iadd, 1) := by decide +kernel
theorem dL_law_354 : decode cL_law 354 = .ok (.iaload, 1) := by decide +kernel
theorem dL_law_355 : decode cL_law 355 = .ok (.invokevirtual 43, 3) := by decide +kernel
theorem dL_law_358 : decode cL_law 358 = .ok (.if_icmp .eq 774, 3) := by decide +kernel
theorem dL_law_361 : decode cL_law 361 = .ok (.iconst 0, 1) := by decide +kernel
theorem dL_law_362 : decode cL_law 362 = .ok (.ireturn, 1) := by decide +kernel
theorem dL_law_363 : decode cL_law 363 = .ok (.aload_n 1, 1) := by decide +kernel
theorem dL_law_364 : decode cL_law 364 = .ok (.aload_n 0, 1) := by decide +kernel
theorem dL_law_365 : decode cL_law 365 = .ok (.iload_n 3, 1) := by decide +kernel
theorem dL_law_366 : decode cL_law 366 = .ok (.iconst 1, 1) := by decide +kernel
theorem dL_law_367 : decode cL_law 367 = .ok (.iadd, 1) := by decide +kernel
theorem dL_law_368 : decode cL_law 368 = .ok (.iaload, 1) := by decide +kernel
theorem dL_law_369 : decode cL_law 369 = .ok (.invokevirtual 44, 3) := by decide +kernel
theorem dL_law_372 : decode cL_law 372 = .ok (.aload_n 2, 1) := by decide +kernel
theorem dL_law_373 : decode cL_law 373 = .ok (.aload_n 0, 1) := by decide +kernel
theorem dL_law_374 : decode cL_law 374 = .ok (.iload_n 3, 1) := by decide +kernel
theorem dL_law_375 : decode cL_law 375 = .ok (.iconst 1, 1) := by decide +kernel
theorem dL_law_376 : decode cL_law 376 = .ok (.iadd, 1) := by decide +kernel
theorem dL_law_377 : decode cL_law 377 = .ok (.iaload, 1) := by decide +kernel
theorem dL_law_378 : decode cL_law 378 = .ok (.invokevirtual 47, 3) := by decide +kernel
theorem dL_law_381 : decode cL_law 381 = .ok (.if_icmp .eq 751, 3) := by decide +kernel
theorem dL_law_384 : decode cL_law 384 = .ok (.iconst 0, 1) := by decide +kernel
theorem dL_law_385 : decode cL_law 385 = .ok (.ireturn, 1) := by decide +kernel
theorem dL_law_386 : decode cL_law 386 = .ok (.aload_n 1, 1) := by decide +kernel
theorem dL_law_387 : decode cL_law 387 = .ok (.aload_n 0, 1) := by decide +kernel
theorem dL_law_388 : decode cL_law 388 = .ok (.iload_n 3, 1) := by decide +kernel
theorem dL_law_389 : decode cL_law 389 = .ok (.iconst 1, 1) := by decide +kernel
theorem dL_law_390 : decode cL_law 390 = .ok (.iadd, 1) := by decide +kernel
theorem dL_law_391 : decode cL_law 391 = .ok (.iaload, 1) := by decide +kernel
theorem dL_law_392 : decode cL_law 392 = .ok (.aload_n 0, 1) := by decide +kernel
theorem dL_law_393 : decode cL_law 393 = .ok (.iload_n 3, 1) := by decide +kernel
theorem dL_law_394 : decode cL_law 394 = .ok (.iconst 2, 1) := by decide +kernel
theorem dL_law_395 : decode cL_law 395 = .ok (.iadd, 1) := by decide +kernel
theorem dL_law_396 : decode cL_law 396 = .ok (.iaload, 1) := by decide +kernel
theorem dL_law_397 : decode cL_law 397 = .ok (.invokevirtual 48, 3) := by decide +kernel
theorem dL_law_400 : decode cL_law 400 = .ok (.aload_n 2, 1) := by decide +kernel
theorem dL_law_401 : decode cL_law 401 = .ok (.aload_n 0, 1) := by decide +kernel
theorem dL_law_402 : decode cL_law 402 = .ok (.iload_n 3, 1) := by decide +kernel
theorem dL_law_403 : decode cL_law 403 = .ok (.iconst 1, 1) := by decide +kernel
theorem dL_law_404 : decode cL_law 404 = .ok (.iadd, 1) := by decide +kernel
theorem dL_law_405 : decode cL_law 405 = .ok (.iaload, 1) := by decide +kernel
theorem dL_law_406 : decode cL_law 406 = .ok (.aload_n 0, 1) := by decide +kernel
theorem dL_law_407 : decode cL_law 407 = .ok (.iload_n 3, 1) := by decide +kernel
theorem dL_law_408 : decode cL_law 408 = .ok (.iconst 2, 1) := by decide +kernel
theorem dL_law_409 : decode cL_law 409 = .ok (.iadd, 1) := by decide +kernel
theorem dL_law_410 : decode cL_law 410 = .ok (.iaload, 1) := by decide +kernel
theorem dL_law_411 : decode cL_law 411 = .ok (.invokevirtual 52, 3) := by decide +kernel
theorem dL_law_414 : decode cL_law 414 = .ok (.if_icmp .eq 718, 3) := by decide +kernel
theorem dL_law_417 : decode cL_law 417 = .ok (.iconst 0, 1) := by decide +kernel
theorem dL_law_418 : decode cL_law 418 = .ok (.ireturn, 1) := by decide +kernel
theorem dL_law_419 : decode cL_law 419 = .ok (.aload_n 1, 1) := by decide +kernel
theorem dL_law_420 : decode cL_law 420 = .ok (.aload_n 0, 1) := by decide +kernel
theorem dL_law_421 : decode cL_law 421 = .ok (.iload_n 3, 1) := by decide +kernel
theorem dL_law_422 : decode cL_law 422 = .ok (.iconst 1, 1) := by decide +kernel
theorem dL_law_423 : decode cL_law 423 = .ok (.iadd, 1) := by decide +kernel
theorem dL_law_424 : decode cL_law 424 = .ok (.iaload, 1) := by decide +kernel
theorem dL_law_425 : decode cL_law 425 = .ok (.aload_n 0, 1) := by decide +kernel
theorem dL_law_426 : decode cL_law 426 = .ok (.iload_n 3, 1) := by decide +kernel
theorem dL_law_427 : decode cL_law 427 = .ok (.iconst 2, 1) := by decide +kernel
theorem dL_law_428 : decode cL_law 428 = .ok (.iadd, 1) := by decide +kernel
theorem dL_law_429 : decode cL_law 429 = .ok (.iaload, 1) := by decide +kernel
theorem dL_law_430 : decode cL_law 430 = .ok (.invokevirtual 53, 3) := by decide +kernel
theorem dL_law_433 : decode cL_law 433 = .ok (.aload_n 2, 1) := by decide +kernel
theorem dL_law_434 : decode cL_law 434 = .ok (.aload_n 0, 1) := by decide +kernel
theorem dL_law_435 : decode cL_law 435 = .ok (.iload_n 3, 1) := by decide +kernel
theorem dL_law_436 : decode cL_law 436 = .ok (.iconst 1, 1) := by decide +kernel
theorem dL_law_437 : decode cL_law 437 = .ok (.iadd, 1) := by decide +kernel
theorem dL_law_438 : decode cL_law 438 = .ok (.iaload, 1) := by decide +kernel
theorem dL_law_439 : decode cL_law 439 = .ok (.aload_n 0, 1) := by decide +kernel
theorem dL_law_440 : decode cL_law 440 = .ok (.iload_n 3, 1) := by decide +kernel
theorem dL_law_441 : decode cL_law 441 = .ok (.iconst 2, 1) := by decide +kernel
theorem dL_law_442 : decode cL_law 442 = .ok (.iadd, 1) := by decide +kernel
theorem dL_law_443 : decode cL_law 443 = .ok (.iaload, 1) := by decide +kernel
theorem dL_law_444 : decode cL_law 444 = .ok (.invokevirtual 56, 3) := by decide +kernel
theorem dL_law_447 : decode cL_law 447 = .ok (.if_icmp .eq 685, 3) := by decide +kernel
theorem dL_law_450 : decode cL_law 450 = .ok (.iconst 0, 1) := by decide +kernel
theorem dL_law_451 : decode cL_law 451 = .ok (.ireturn, 1) := by decide +kernel
theorem dL_law_452 : decode cL_law 452 = .ok (.aload_n 1, 1) := by decide +kernel
theorem dL_law_453 : decode cL_law 453 = .ok (.aload_n 0, 1) := by decide +kernel
theorem dL_law_454 : decode cL_law 454 = .ok (.iload_n 3, 1) := by decide +kernel
theorem dL_law_455 : decode cL_law 455 = .ok (.iconst 1, 1) := by decide +kernel
theorem dL_law_456 : decode cL_law 456 = .ok (.iadd, 1) := by decide +kernel
theorem dL_law_457 : decode cL_law 457 = .ok (.iaload, 1) := by decide +kernel
theorem dL_law_458 : decode cL_law 458 = .ok (.invokevirtual 57, 3) := by decide +kernel
theorem dL_law_461 : decode cL_law 461 = .ok (.aload_n 2, 1) := by decide +kernel
theorem dL_law_462 : decode cL_law 462 = .ok (.aload_n 0, 1) := by decide +kernel
theorem dL_law_463 : decode cL_law 463 = .ok (.iload_n 3, 1) := by decide +kernel
theorem dL_law_464 : decode cL_law 464 = .ok (.iconst 1, 1) := by decide +kernel
theorem dL_law_465 : decode cL_law 465 = .ok (.iadd, 1) := by decide +kernel
theorem dL_law_466 : decode cL_law 466 = .ok (.iaload, 1) := by decide +kernel
theorem dL_law_467 : decode cL_law 467 = .ok (.invokevirtual 60, 3) := by decide +kernel
theorem dL_law_470 : decode cL_law 470 = .ok (.if_icmp .eq 662, 3) := by decide +kernel
theorem dL_law_473 : decode cL_law 473 = .ok (.iconst 0, 1) := by decide +kernel
theorem dL_law_474 : decode cL_law 474 = .ok (.ireturn, 1) := by decide +kernel
theorem dL_law_475 : decode cL_law 475 = .ok (.aload_n 1, 1) := by decide +kernel
theorem dL_law_476 : decode cL_law 476 = .ok (.invokevirtual 61, 3) := by decide +kernel
theorem dL_law_479 : decode cL_law 479 = .ok (.aload_n 2, 1) := by decide +kernel
theorem dL_law_480 : decode cL_law 480 = .ok (.invokevirtual 64, 3) := by decide +kernel
theorem dL_law_483 : decode cL_law 483 = .ok (.if_icmp .eq 649, 3) := by decide +kernel
theorem dL_law_486 : decode cL_law 486 = .ok (.iconst 0, 1) := by decide +kernel
theorem dL_law_487 : decode cL_law 487 = .ok (.ireturn, 1) := by decide +kernel
theorem dL_law_488 : decode cL_law 488 = .ok (.aload_n 1, 1) := by decide +kernel
theorem dL_law_489 : decode cL_law 489 = .ok (.aload_n 0, 1) := by decide +kernel
theorem dL_law_490 : decode cL_law 490 = .ok (.iload_n 3, 1) := by decide +kernel
theorem dL_law_491 : decode cL_law 491 = .ok (.iconst 1, 1) := by decide +kernel
theorem dL_law_492 : decode cL_law 492 = .ok (.iadd, 1) := by decide +kernel
theorem dL_law_493 : decode cL_law 493 = .ok (.iaload, 1) := by decide +kernel
theorem dL_law_494 : decode cL_law 494 = .ok (.aload_n 0, 1) := by decide +kernel
theorem dL_law_495 : decode cL_law 495 = .ok (.iload_n 3, 1) := by decide +kernel
theorem dL_law_496 : decode cL_law 496 = .ok (.iconst 2, 1) := by decide +kernel
theorem dL_law_497 : decode cL_law 497 = .ok (.iadd, 1) := by decide +kernel
theorem dL_law_498 : decode cL_law 498 = .ok (.iaload, 1) := by decide +kernel
theorem dL_law_499 : decode cL_law 499 = .ok (.invokevirtual 65, 3) := by decide +kernel
theorem dL_law_502 : decode cL_law 502 = .ok (.aload_n 2, 1) := by decide +kernel
theorem dL_law_503 : decode cL_law 503 = .ok (.aload_n 0, 1) := by decide +kernel
theorem dL_law_504 : decode cL_law 504 = .ok (.iload_n 3, 1) := by decide +kernel
theorem dL_law_505 : decode cL_law 505 = .ok (.iconst 1, 1) := by decide +kernel
theorem dL_law_506 : decode cL_law 506 = .ok (.iadd, 1) := by decide +kernel
theorem dL_law_507 : decode cL_law 507 = .ok (.iaload, 1) := by decide +kernel
theorem dL_law_508 : decode cL_law 508 = .ok (.aload_n 0, 1) := by decide +kernel
theorem dL_law_509 : decode cL_law 509 = .ok (.iload_n 3, 1) := by decide +kernel
theorem dL_law_510 : decode cL_law 510 = .ok (.iconst 2, 1) := by decide +kernel
theorem dL_law_511 : decode cL_law 511 = .ok (.iadd, 1) := by decide +kernel
theorem dL_law_512 : decode cL_law 512 = .ok (.iaload, 1) := by decide +kernel
theorem dL_law_513 : decode cL_law 513 = .ok (.invokevirtual 68, 3) := by decide +kernel
theorem dL_law_516 : decode cL_law 516 = .ok (.if_icmp .eq 616, 3) := by decide +kernel
theorem dL_law_519 : decode cL_law 519 = .ok (.iconst 0, 1) := by decide +kernel
theorem dL_law_520 : decode cL_law 520 = .ok (.ireturn, 1) := by decide +kernel
theorem dL_law_521 : decode cL_law 521 = .ok (.aload_n 1, 1) := by decide +kernel
theorem dL_law_522 : decode cL_law 522 = .ok (.aload_n 0, 1) := by decide +kernel
theorem dL_law_523 : decode cL_law 523 = .ok (.iload_n 3, 1) := by decide +kernel
theorem dL_law_524 : decode cL_law 524 = .ok (.iconst 1, 1) := by decide +kernel
theorem dL_law_525 : decode cL_law 525 = .ok (.iadd, 1) := by decide +kernel
theorem dL_law_526 : decode cL_law 526 = .ok (.iaload, 1) := by decide +kernel
theorem dL_law_527 : decode cL_law 527 = .ok (.aload_n 0, 1) := by decide +kernel
theorem dL_law_528 : decode cL_law 528 = .ok (.iload_n 3, 1) := by decide +kernel
theorem dL_law_529 : decode cL_law 529 = .ok (.iconst 2, 1) := by decide +kernel
theorem dL_law_530 : decode cL_law 530 = .ok (.iadd, 1) := by decide +kernel
theorem dL_law_531 : decode cL_law 531 = .ok (.iaload, 1) := by decide +kernel
theorem dL_law_532 : decode cL_law 532 = .ok (.invokevirtual 69, 3) := by decide +kernel
theorem dL_law_535 : decode cL_law 535 = .ok (.aload_n 2, 1) := by decide +kernel
theorem dL_law_536 : decode cL_law 536 = .ok (.aload_n 0, 1) := by decide +kernel
theorem dL_law_537 : decode cL_law 537 = .ok (.iload_n 3, 1) := by decide +kernel
theorem dL_law_538 : decode cL_law 538 = .ok (.iconst 1, 1) := by decide +kernel
theorem dL_law_539 : decode cL_law 539 = .ok (.iadd, 1) := by decide +kernel
theorem dL_law_540 : decode cL_law 540 = .ok (.iaload, 1) := by decide +kernel
theorem dL_law_541 : decode cL_law 541 = .ok (.aload_n 0, 1) := by decide +kernel
theorem dL_law_542 : decode cL_law 542 = .ok (.iload_n 3, 1) := by decide +kernel
theorem dL_law_543 : decode cL_law 543 = .ok (.iconst 2, 1) := by decide +kernel
theorem dL_law_544 : decode cL_law 544 = .ok (.iadd, 1) := by decide +kernel
theorem dL_law_545 : decode cL_law 545 = .ok (.iaload, 1) := by decide +kernel
theorem dL_law_546 : decode cL_law 546 = .ok (.invokevirtual 72, 3) := by decide +kernel
theorem dL_law_549 : decode cL_law 549 = .ok (.if_icmp .eq 583, 3) := by decide +kernel
theorem dL_law_552 : decode cL_law 552 = .ok (.iconst 0, 1) := by decide +kernel
theorem dL_law_553 : decode cL_law 553 = .ok (.ireturn, 1) := by decide +kernel
theorem dL_law_554 : decode cL_law 554 = .ok (.aload_n 1, 1) := by decide +kernel
theorem dL_law_555 : decode cL_law 555 = .ok (.aload_n 0, 1) := by decide +kernel
theorem dL_law_556 : decode cL_law 556 = .ok (.iload_n 3, 1) := by decide +kernel
theorem dL_law_557 : decode cL_law 557 = .ok (.iconst 1, 1) := by decide +kernel
theorem dL_law_558 : decode cL_law 558 = .ok (.iadd, 1) := by decide +kernel
theorem dL_law_559 : decode cL_law 559 = .ok (.iaload, 1) := by decide +kernel
theorem dL_law_560 : decode cL_law 560 = .ok (.aload_n 0, 1) := by decide +kernel
theorem dL_law_561 : decode cL_law 561 = .ok (.iload_n 3, 1) := by decide +kernel
theorem dL_law_562 : decode cL_law 562 = .ok (.iconst 2, 1) := by decide +kernel
theorem dL_law_563 : decode cL_law 563 = .ok (.iadd, 1) := by decide +kernel
theorem dL_law_564 : decode cL_law 564 = .ok (.iaload, 1) := by decide +kernel
theorem dL_law_565 : decode cL_law 565 = .ok (.invokevirtual 73, 3) := by decide +kernel
theorem dL_law_568 : decode cL_law 568 = .ok (.aload_n 2, 1) := by decide +kernel
theorem dL_law_569 : decode cL_law 569 = .ok (.aload_n 0, 1) := by decide +kernel
theorem dL_law_570 : decode cL_law 570 = .ok (.iload_n 3, 1) := by decide +kernel
theorem dL_law_571 : decode cL_law 571 = .ok (.iconst 1, 1) := by decide +kernel
theorem dL_law_572 : decode cL_law 572 = .ok (.iadd, 1) := by decide +kernel
theorem dL_law_573 : decode cL_law 573 = .ok (.iaload, 1) := by decide +kernel
theorem dL_law_574 : decode cL_law 574 = .ok (.aload_n 0, 1) := by decide +kernel
theorem dL_law_575 : decode cL_law 575 = .ok (.iload_n 3, 1) := by decide +kernel
theorem dL_law_576 : decode cL_law 576 = .ok (.iconst 2, 1) := by decide +kernel
theorem dL_law_577 : decode cL_law 577 = .ok (.iadd, 1) := by decide +kernel
theorem dL_law_578 : decode cL_law 578 = .ok (.iaload, 1) := by decide +kernel
theorem dL_law_579 : decode cL_law 579 = .ok (.invokevirtual 76, 3) := by decide +kernel
theorem dL_law_582 : decode cL_law 582 = .ok (.if_icmp .eq 550, 3) := by decide +kernel
theorem dL_law_585 : decode cL_law 585 = .ok (.iconst 0, 1) := by decide +kernel
theorem dL_law_586 : decode cL_law 586 = .ok (.ireturn, 1) := by decide +kernel
theorem dL_law_587 : decode cL_law 587 = .ok (.aload_n 1, 1) := by decide +kernel
theorem dL_law_588 : decode cL_law 588 = .ok (.aload_n 0, 1) := by decide +kernel
theorem dL_law_589 : decode cL_law 589 = .ok (.iload_n 3, 1) := by decide +kernel
theorem dL_law_590 : decode cL_law 590 = .ok (.iconst 1, 1) := by decide +kernel
theorem dL_law_591 : decode cL_law 591 = .ok (.iadd, 1) := by decide +kernel
theorem dL_law_592 : decode cL_law 592 = .ok (.iaload, 1) := by decide +kernel
theorem dL_law_593 : decode cL_law 593 = .ok (.aload_n 0, 1) := by decide +kernel
theorem dL_law_594 : decode cL_law 594 = .ok (.iload_n 3, 1) := by decide +kernel
theorem dL_law_595 : decode cL_law 595 = .ok (.iconst 2, 1) := by decide +kernel
theorem dL_law_596 : decode cL_law 596 = .ok (.iadd, 1) := by decide +kernel
theorem dL_law_597 : decode cL_law 597 = .ok (.iaload, 1) := by decide +kernel
theorem dL_law_598 : decode cL_law 598 = .ok (.invokevirtual 77, 3) := by decide +kernel
theorem dL_law_601 : decode cL_law 601 = .ok (.aload_n 2, 1) := by decide +kernel
theorem dL_law_602 : decode cL_law 602 = .ok (.aload_n 0, 1) := by decide +kernel
theorem dL_law_603 : decode cL_law 603 = .ok (.iload_n 3, 1) := by decide +kernel
theorem dL_law_604 : decode cL_law 604 = .ok (.iconst 1, 1) := by decide +kernel
theorem dL_law_605 : decode cL_law 605 = .ok (.iadd, 1) := by decide +kernel
theorem dL_law_606 : decode cL_law 606 = .ok (.iaload, 1) := by decide +kernel
theorem dL_law_607 : decode cL_law 607 = .ok (.aload_n 0, 1) := by decide +kernel
theorem dL_law_608 : decode cL_law 608 = .ok (.iload_n 3, 1) := by decide +kernel
theorem dL_law_609 : decode cL_law 609 = .ok (.iconst 2, 1) := by decide +kernel
theorem dL_law_610 : decode cL_law 610 = .ok (.iadd, 1) := by decide +kernel
theorem dL_law_611 : decode cL_law 611 = .ok (.iaload, 1) := by decide +kernel
theorem dL_law_612 : decode cL_law 612 = .ok (.invokevirtual 80, 3) := by decide +kernel
theorem dL_law_615 : decode cL_law 615 = .ok (.if_icmp .eq 517, 3) := by decide +kernel
theorem dL_law_618 : decode cL_law 618 = .ok (.iconst 0, 1) := by decide +kernel
theorem dL_law_619 : decode cL_law 619 = .ok (.ireturn, 1) := by decide +kernel
theorem dL_law_620 : decode cL_law 620 = .ok (.aload_n 1, 1) := by decide +kernel
theorem dL_law_621 : decode cL_law 621 = .ok (.aload_n 0, 1) := by decide +kernel
theorem dL_law_622 : decode cL_law 622 = .ok (.iload_n 3, 1) := by decide +kernel
theorem dL_law_623 : decode cL_law 623 = .ok (.iconst 1, 1) := by decide +kernel
theorem dL_law_624 : decode cL_law 624 = .ok (.iadd, 1) := by decide +kernel
theorem dL_law_625 : decode cL_law 625 = .ok (.iaload, 1) := by decide +kernel
theorem dL_law_626 : decode cL_law 626 = .ok (.aload_n 0, 1) := by decide +kernel
theorem dL_law_627 : decode cL_law 627 = .ok (.iload_n 3, 1) := by decide +kernel
theorem dL_law_628 : decode cL_law 628 = .ok (.iconst 2, 1) := by decide +kernel
theorem dL_law_629 : decode cL_law 629 = .ok (.iadd, 1) := by decide +kernel
theorem dL_law_630 : decode cL_law 630 = .ok (.iaload, 1) := by decide +kernel
theorem dL_law_631 : decode cL_law 631 = .ok (.invokevirtual 81, 3) := by decide +kernel
theorem dL_law_634 : decode cL_law 634 = .ok (.aload_n 2, 1) := by decide +kernel
theorem dL_law_635 : decode cL_law 635 = .ok (.aload_n 0, 1) := by decide +kernel
theorem dL_law_636 : decode cL_law 636 = .ok (.iload_n 3, 1) := by decide +kernel
theorem dL_law_637 : decode cL_law 637 = .ok (.iconst 1, 1) := by decide +kernel
theorem dL_law_638 : decode cL_law 638 = .ok (.iadd, 1) := by decide +kernel
theorem dL_law_639 : decode cL_law 639 = .ok (.iaload, 1) := by decide +kernel
theorem dL_law_640 : decode cL_law 640 = .ok (.aload_n 0, 1) := by decide +kernel
theorem dL_law_641 : decode cL_law 641 = .ok (.iload_n 3, 1) := by decide +kernel
theorem dL_law_642 : decode cL_law 642 = .ok (.iconst 2, 1) := by decide +kernel
theorem dL_law_643 : decode cL_law 643 = .ok (.iadd, 1) := by decide +kernel
theorem dL_law_644 : decode cL_law 644 = .ok (.iaload, 1) := by decide +kernel
theorem dL_law_645 : decode cL_law 645 = .ok (.invokevirtual 84, 3) := by decide +kernel
theorem dL_law_648 : decode cL_law 648 = .ok (.if_icmp .eq 484, 3) := by decide +kernel
theorem dL_law_651 : decode cL_law 651 = .ok (.iconst 0, 1) := by decide +kernel
theorem dL_law_652 : decode cL_law 652 = .ok (.ireturn, 1) := by decide +kernel
theorem dL_law_653 : decode cL_law 653 = .ok (.aload_n 1, 1) := by decide +kernel
theorem dL_law_654 : decode cL_law 654 = .ok (.aload_n 0, 1) := by decide +kernel
theorem dL_law_655 : decode cL_law 655 = .ok (.iload_n 3, 1) := by decide +kernel
theorem dL_law_656 : decode cL_law 656 = .ok (.iconst 1, 1) := by decide +kernel
theorem dL_law_657 : decode cL_law 657 = .ok (.iadd, 1) := by decide +kernel
theorem dL_law_658 : decode cL_law 658 = .ok (.iaload, 1) := by decide +kernel
theorem dL_law_659 : decode cL_law 659 = .ok (.aload_n 0, 1) := by decide +kernel
theorem dL_law_660 : decode cL_law 660 = .ok (.iload_n 3, 1) := by decide +kernel
theorem dL_law_661 : decode cL_law 661 = .ok (.iconst 2, 1) := by decide +kernel
theorem dL_law_662 : decode cL_law 662 = .ok (.iadd, 1) := by decide +kernel
theorem dL_law_663 : decode cL_law 663 = .ok (.iaload, 1) := by decide +kernel
theorem dL_law_664 : decode cL_law 664 = .ok (.invokevirtual 85, 3) := by decide +kernel
theorem dL_law_667 : decode cL_law 667 = .ok (.aload_n 2, 1) := by decide +kernel
theorem dL_law_668 : decode cL_law 668 = .ok (.aload_n 0, 1) := by decide +kernel
theorem dL_law_669 : decode cL_law 669 = .ok (.iload_n 3, 1) := by decide +kernel
theorem dL_law_670 : decode cL_law 670 = .ok (.iconst 1, 1) := by decide +kernel
theorem dL_law_671 : decode cL_law 671 = .ok (.iadd, 1) := by decide +kernel
theorem dL_law_672 : decode cL_law 672 = .ok (.iaload, 1) := by decide +kernel
theorem dL_law_673 : decode cL_law 673 = .ok (.aload_n 0, 1) := by decide +kernel
theorem dL_law_674 : decode cL_law 674 = .ok (.iload_n 3, 1) := by decide +kernel
theorem dL_law_675 : decode cL_law 675 = .ok (.iconst 2, 1) := by decide +kernel
theorem dL_law_676 : decode cL_law 676 = .ok (.iadd, 1) := by decide +kernel
theorem dL_law_677 : decode cL_law 677 = .ok (.iaload, 1) := by decide +kernel
theorem dL_law_678 : decode cL_law 678 = .ok (.invokevirtual 88, 3) := by decide +kernel
theorem dL_law_681 : decode cL_law 681 = .ok (.if_icmp .eq 451, 3) := by decide +kernel
theorem dL_law_684 : decode cL_law 684 = .ok (.iconst 0, 1) := by decide +kernel
theorem dL_law_685 : decode cL_law 685 = .ok (.ireturn, 1) := by decide +kernel
theorem dL_law_686 : decode cL_law 686 = .ok (.aload_n 1, 1) := by decide +kernel
theorem dL_law_687 : decode cL_law 687 = .ok (.aload_n 0, 1) := by decide +kernel
theorem dL_law_688 : decode cL_law 688 = .ok (.iload_n 3, 1) := by decide +kernel
theorem dL_law_689 : decode cL_law 689 = .ok (.iconst 1, 1) := by decide +kernel
theorem dL_law_690 : decode cL_law 690 = .ok (.iadd, 1) := by decide +kernel
theorem dL_law_691 : decode cL_law 691 = .ok (.iaload, 1) := by decide +kernel
theorem dL_law_692 : decode cL_law 692 = .ok (.invokevirtual 89, 3) := by decide +kernel
theorem dL_law_695 : decode cL_law 695 = .ok (.aload_n 2, 1) := by decide +kernel
theorem dL_law_696 : decode cL_law 696 = .ok (.aload_n 0, 1) := by decide +kernel
theorem dL_law_697 : decode cL_law 697 = .ok (.iload_n 3, 1) := by decide +kernel
theorem dL_law_698 : decode cL_law 698 = .ok (.iconst 1, 1) := by decide +kernel
theorem dL_law_699 : decode cL_law 699 = .ok (.iadd, 1) := by decide +kernel
theorem dL_law_700 : decode cL_law 700 = .ok (.iaload, 1) := by decide +kernel
theorem dL_law_701 : decode cL_law 701 = .ok (.invokevirtual 92, 3) := by decide +kernel
theorem dL_law_704 : decode cL_law 704 = .ok (.if_icmp .eq 428, 3) := by decide +kernel
theorem dL_law_707 : decode cL_law 707 = .ok (.iconst 0, 1) := by decide +kernel
theorem dL_law_708 : decode cL_law 708 = .ok (.ireturn, 1) := by decide +kernel
theorem dL_law_709 : decode cL_law 709 = .ok (.aload_n 1, 1) := by decide +kernel
theorem dL_law_710 : decode cL_law 710 = .ok (.aload_n 0, 1) := by decide +kernel
theorem dL_law_711 : decode cL_law 711 = .ok (.iload_n 3, 1) := by decide +kernel
theorem dL_law_712 : decode cL_law 712 = .ok (.iconst 1, 1) := by decide +kernel
theorem dL_law_713 : decode cL_law 713 = .ok (.iadd, 1) := by decide +kernel
theorem dL_law_714 : decode cL_law 714 = .ok (.iaload, 1) := by decide +kernel
theorem dL_law_715 : decode cL_law 715 = .ok (.aload_n 0, 1) := by decide +kernel
theorem dL_law_716 : decode cL_law 716 = .ok (.iload_n 3, 1) := by decide +kernel
theorem dL_law_717 : decode cL_law 717 = .ok (.iconst 2, 1) := by decide +kernel
theorem dL_law_718 : decode cL_law 718 = .ok (.iadd, 1) := by decide +kernel
theorem dL_law_719 : decode cL_law 719 = .ok (.iaload, 1) := by decide +kernel
theorem dL_law_720 : decode cL_law 720 = .ok (.invokevirtual 93, 3) := by decide +kernel
theorem dL_law_723 : decode cL_law 723 = .ok (.aload_n 2, 1) := by decide +kernel
theorem dL_law_724 : decode cL_law 724 = .ok (.aload_n 0, 1) := by decide +kernel
theorem dL_law_725 : decode cL_law 725 = .ok (.iload_n 3, 1) := by decide +kernel
theorem dL_law_726 : decode cL_law 726 = .ok (.iconst 1, 1) := by decide +kernel
theorem dL_law_727 : decode cL_law 727 = .ok (.iadd, 1) := by decide +kernel
theorem dL_law_728 : decode cL_law 728 = .ok (.iaload, 1) := by decide +kernel
theorem dL_law_729 : decode cL_law 729 = .ok (.aload_n 0, 1) := by decide +kernel
theorem dL_law_730 : decode cL_law 730 = .ok (.iload_n 3, 1) := by decide +kernel
theorem dL_law_731 : decode cL_law 731 = .ok (.iconst 2, 1) := by decide +kernel
theorem dL_law_732 : decode cL_law 732 = .ok (.iadd, 1) := by decide +kernel
theorem dL_law_733 : decode cL_law 733 = .ok (.iaload, 1) := by decide +kernel
theorem dL_law_734 : decode cL_law 734 = .ok (.invokevirtual 96, 3) := by decide +kernel
theorem dL_law_737 : decode cL_law 737 = .ok (.if_icmp .eq 395, 3) := by decide +kernel
theorem dL_law_740 : decode cL_law 740 = .ok (.iconst 0, 1) := by decide +kernel
theorem dL_law_741 : decode cL_law 741 = .ok (.ireturn, 1) := by decide +kernel
theorem dL_law_742 : decode cL_law 742 = .ok (.aload_n 1, 1) := by decide +kernel
theorem dL_law_743 : decode cL_law 743 = .ok (.aload_n 0, 1) := by decide +kernel
theorem dL_law_744 : decode cL_law 744 = .ok (.iload_n 3, 1) := by decide +kernel
theorem dL_law_745 : decode cL_law 745 = .ok (.iconst 1, 1) := by decide +kernel
theorem dL_law_746 : decode cL_law 746 = .ok (.iadd, 1) := by decide +kernel
theorem dL_law_747 : decode cL_law 747 = .ok (.iaload, 1) := by decide +kernel
theorem dL_law_748 : decode cL_law 748 = .ok (.invokevirtual 97, 3) := by decide +kernel
theorem dL_law_751 : decode cL_law 751 = .ok (.aload_n 2, 1) := by decide +kernel
theorem dL_law_752 : decode cL_law 752 = .ok (.aload_n 0, 1) := by decide +kernel
theorem dL_law_753 : decode cL_law 753 = .ok (.iload_n 3, 1) := by decide +kernel
theorem dL_law_754 : decode cL_law 754 = .ok (.iconst 1, 1) := by decide +kernel
theorem dL_law_755 : decode cL_law 755 = .ok (.iadd, 1) := by decide +kernel
theorem dL_law_756 : decode cL_law 756 = .ok (.iaload, 1) := by decide +kernel
theorem dL_law_757 : decode cL_law 757 = .ok (.invokevirtual 100, 3) := by decide +kernel
theorem dL_law_760 : decode cL_law 760 = .ok (.if_icmp .eq 372, 3) := by decide +kernel
theorem dL_law_763 : decode cL_law 763 = .ok (.iconst 0, 1) := by decide +kernel
theorem dL_law_764 : decode cL_law 764 = .ok (.ireturn, 1) := by decide +kernel
theorem dL_law_765 : decode cL_law 765 = .ok (.aload_n 1, 1) := by decide +kernel
theorem dL_law_766 : decode cL_law 766 = .ok (.aload_n 0, 1) := by decide +kernel
theorem dL_law_767 : decode cL_law 767 = .ok (.iload_n 3, 1) := by decide +kernel
theorem dL_law_768 : decode cL_law 768 = .ok (.iconst 1, 1) := by decide +kernel
theorem dL_law_769 : decode cL_law 769 = .ok (.iadd, 1) := by decide +kernel
theorem dL_law_770 : decode cL_law 770 = .ok (.iaload, 1) := by decide +kernel
theorem dL_law_771 : decode cL_law 771 = .ok (.aload_n 0, 1) := by decide +kernel
theorem dL_law_772 : decode cL_law 772 = .ok (.iload_n 3, 1) := by decide +kernel
theorem dL_law_773 : decode cL_law 773 = .ok (.iconst 2, 1) := by decide +kernel
theorem dL_law_774 : decode cL_law 774 = .ok (.iadd, 1) := by decide +kernel
theorem dL_law_775 : decode cL_law 775 = .ok (.iaload, 1) := by decide +kernel
theorem dL_law_776 : decode cL_law 776 = .ok (.invokevirtual 101, 3) := by decide +kernel
theorem dL_law_779 : decode cL_law 779 = .ok (.aload_n 2, 1) := by decide +kernel
theorem dL_law_780 : decode cL_law 780 = .ok (.aload_n 0, 1) := by decide +kernel
theorem dL_law_781 : decode cL_law 781 = .ok (.iload_n 3, 1) := by decide +kernel
theorem dL_law_782 : decode cL_law 782 = .ok (.iconst 1, 1) := by decide +kernel
theorem dL_law_783 : decode cL_law 783 = .ok (.iadd, 1) := by decide +kernel
theorem dL_law_784 : decode cL_law 784 = .ok (.iaload, 1) := by decide +kernel
theorem dL_law_785 : decode cL_law 785 = .ok (.aload_n 0, 1) := by decide +kernel
theorem dL_law_786 : decode cL_law 786 = .ok (.iload_n 3, 1) := by decide +kernel
theorem dL_law_787 : decode cL_law 787 = .ok (.iconst 2, 1) := by decide +kernel
theorem dL_law_788 : decode cL_law 788 = .ok (.iadd, 1) := by decide +kernel
theorem dL_law_789 : decode cL_law 789 = .ok (.iaload, 1) := by decide +kernel
theorem dL_law_790 : decode cL_law 790 = .ok (.invokevirtual 104, 3) := by decide +kernel
theorem dL_law_793 : decode cL_law 793 = .ok (.if_icmp .eq 339, 3) := by decide +kernel
theorem dL_law_796 : decode cL_law 796 = .ok (.iconst 0, 1) := by decide +kernel
theorem dL_law_797 : decode cL_law 797 = .ok (.ireturn, 1) := by decide +kernel
theorem dL_law_798 : decode cL_law 798 = .ok (.aload_n 1, 1) := by decide +kernel
theorem dL_law_799 : decode cL_law 799 = .ok (.invokevirtual 105, 3) := by decide +kernel
theorem dL_law_802 : decode cL_law 802 = .ok (.aload_n 2, 1) := by decide +kernel
theorem dL_law_803 : decode cL_law 803 = .ok (.invokevirtual 108, 3) := by decide +kernel
theorem dL_law_806 : decode cL_law 806 = .ok (.if_icmp .eq 326, 3) := by decide +kernel
theorem dL_law_809 : decode cL_law 809 = .ok (.iconst 0, 1) := by decide +kernel
theorem dL_law_810 : decode cL_law 810 = .ok (.ireturn, 1) := by decide +kernel
theorem dL_law_811 : decode cL_law 811 = .ok (.aload_n 1, 1) := by decide +kernel
theorem dL_law_812 : decode cL_law 812 = .ok (.aload_n 0, 1) := by decide +kernel
theorem dL_law_813 : decode cL_law 813 = .ok (.iload_n 3, 1) := by decide +kernel
theorem dL_law_814 : decode cL_law 814 = .ok (.iconst 1, 1) := by decide +kernel
theorem dL_law_815 : decode cL_law 815 = .ok (.iadd, 1) := by decide +kernel
theorem dL_law_816 : decode cL_law 816 = .ok (.iaload, 1) := by decide +kernel
theorem dL_law_817 : decode cL_law 817 = .ok (.aload_n 0, 1) := by decide +kernel
theorem dL_law_818 : decode cL_law 818 = .ok (.iload_n 3, 1) := by decide +kernel
theorem dL_law_819 : decode cL_law 819 = .ok (.iconst 2, 1) := by decide +kernel
theorem dL_law_820 : decode cL_law 820 = .ok (.iadd, 1) := by decide +kernel
theorem dL_law_821 : decode cL_law 821 = .ok (.iaload, 1) := by decide +kernel
theorem dL_law_822 : decode cL_law 822 = .ok (.invokevirtual 109, 3) := by decide +kernel
theorem dL_law_825 : decode cL_law 825 = .ok (.aload_n 2, 1) := by decide +kernel
theorem dL_law_826 : decode cL_law 826 = .ok (.aload_n 0, 1) := by decide +kernel
theorem dL_law_827 : decode cL_law 827 = .ok (.iload_n 3, 1) := by decide +kernel
theorem dL_law_828 : decode cL_law 828 = .ok (.iconst 1, 1) := by decide +kernel
theorem dL_law_829 : decode cL_law 829 = .ok (.iadd, 1) := by decide +kernel
theorem dL_law_830 : decode cL_law 830 = .ok (.iaload, 1) := by decide +kernel
theorem dL_law_831 : decode cL_law 831 = .ok (.aload_n 0, 1) := by decide +kernel
theorem dL_law_832 : decode cL_law 832 = .ok (.iload_n 3, 1) := by decide +kernel
theorem dL_law_833 : decode cL_law 833 = .ok (.iconst 2, 1) := by decide +kernel
theorem dL_law_834 : decode cL_law 834 = .ok (.iadd, 1) := by decide +kernel
theorem dL_law_835 : decode cL_law 835 = .ok (.iaload, 1) := by decide +kernel
theorem dL_law_836 : decode cL_law 836 = .ok (.invokevirtual 112, 3) := by decide +kernel
theorem dL_law_839 : decode cL_law 839 = .ok (.if_icmp .eq 293, 3) := by decide +kernel
theorem dL_law_842 : decode cL_law 842 = .ok (.iconst 0, 1) := by decide +kernel
theorem dL_law_843 : decode cL_law 843 = .ok (.ireturn, 1) := by decide +kernel
theorem dL_law_844 : decode cL_law 844 = .ok (.aload_n 1, 1) := by decide +kernel
theorem dL_law_845 : decode cL_law 845 = .ok (.invokevirtual 113, 3) := by decide +kernel
theorem dL_law_848 : decode cL_law 848 = .ok (.aload_n 2, 1) := by decide +kernel
theorem dL_law_849 : decode cL_law 849 = .ok (.invokevirtual 116, 3) := by decide +kernel
theorem dL_law_852 : decode cL_law 852 = .ok (.if_icmp .eq 280, 3) := by decide +kernel
theorem dL_law_855 : decode cL_law 855 = .ok (.iconst 0, 1) := by decide +kernel
theorem dL_law_856 : decode cL_law 856 = .ok (.ireturn, 1) := by decide +kernel
theorem dL_law_857 : decode cL_law 857 = .ok (.aload_n 1, 1) := by decide +kernel
theorem dL_law_858 : decode cL_law 858 = .ok (.invokevirtual 117, 3) := by decide +kernel
theorem dL_law_861 : decode cL_law 861 = .ok (.aload_n 2, 1) := by decide +kernel
theorem dL_law_862 : decode cL_law 862 = .ok (.invokevirtual 120, 3) := by decide +kernel
theorem dL_law_865 : decode cL_law 865 = .ok (.if_icmp .eq 267, 3) := by decide +kernel
theorem dL_law_868 : decode cL_law 868 = .ok (.iconst 0, 1) := by decide +kernel
theorem dL_law_869 : decode cL_law 869 = .ok (.ireturn, 1) := by decide +kernel
theorem dL_law_870 : decode cL_law 870 = .ok (.aload_n 1, 1) := by decide +kernel
theorem dL_law_871 : decode cL_law 871 = .ok (.invokevirtual 121, 3) := by decide +kernel
theorem dL_law_874 : decode cL_law 874 = .ok (.aload_n 2, 1) := by decide +kernel
theorem dL_law_875 : decode cL_law 875 = .ok (.invokevirtual 124, 3) := by decide +kernel
theorem dL_law_878 : decode cL_law 878 = .ok (.if_icmp .eq 254, 3) := by decide +kernel
theorem dL_law_881 : decode cL_law 881 = .ok (.iconst 0, 1) := by decide +kernel
theorem dL_law_882 : decode cL_law 882 = .ok (.ireturn, 1) := by decide +kernel
theorem dL_law_883 : decode cL_law 883 = .ok (.aload_n 1, 1) := by decide +kernel
theorem dL_law_884 : decode cL_law 884 = .ok (.aload_n 0, 1) := by decide +kernel
theorem dL_law_885 : decode cL_law 885 = .ok (.iload_n 3, 1) := by decide +kernel
theorem dL_law_886 : decode cL_law 886 = .ok (.iconst 1, 1) := by decide +kernel
theorem dL_law_887 : decode cL_law 887 = .ok (.iadd, 1) := by decide +kernel
theorem dL_law_888 : decode cL_law 888 = .ok (.iaload, 1) := by decide +kernel
theorem dL_law_889 : decode cL_law 889 = .ok (.aload_n 0, 1) := by decide +kernel
theorem dL_law_890 : decode cL_law 890 = .ok (.iload_n 3, 1) := by decide +kernel
theorem dL_law_891 : decode cL_law 891 = .ok (.iconst 2, 1) := by decide +kernel
theorem dL_law_892 : decode cL_law 892 = .ok (.iadd, 1) := by decide +kernel
theorem dL_law_893 : decode cL_law 893 = .ok (.iaload, 1) := by decide +kernel
theorem dL_law_894 : decode cL_law 894 = .ok (.aload_n 0, 1) := by decide +kernel
theorem dL_law_895 : decode cL_law 895 = .ok (.iload_n 3, 1) := by decide +kernel
theorem dL_law_896 : decode cL_law 896 = .ok (.iconst 3, 1) := by decide +kernel
theorem dL_law_897 : decode cL_law 897 = .ok (.iadd, 1) := by decide +kernel
theorem dL_law_898 : decode cL_law 898 = .ok (.iaload, 1) := by decide +kernel
theorem dL_law_899 : decode cL_law 899 = .ok (.invokevirtual 125, 3) := by decide +kernel
theorem dL_law_902 : decode cL_law 902 = .ok (.aload_n 2, 1) := by decide +kernel
theorem dL_law_903 : decode cL_law 903 = .ok (.aload_n 0, 1) := by decide +kernel
theorem dL_law_904 : decode cL_law 904 = .ok (.iload_n 3, 1) := by decide +kernel
theorem dL_law_905 : decode cL_law 905 = .ok (.iconst 1, 1) := by decide +kernel
theorem dL_law_906 : decode cL_law 906 = .ok (.iadd, 1) := by decide +kernel
theorem dL_law_907 : decode cL_law 907 = .ok (.iaload, 1) := by decide +kernel
theorem dL_law_908 : decode cL_law 908 = .ok (.aload_n 0, 1) := by decide +kernel
theorem dL_law_909 : decode cL_law 909 = .ok (.iload_n 3, 1) := by decide +kernel
theorem dL_law_910 : decode cL_law 910 = .ok (.iconst 2, 1) := by decide +kernel
theorem dL_law_911 : decode cL_law 911 = .ok (.iadd, 1) := by decide +kernel
theorem dL_law_912 : decode cL_law 912 = .ok (.iaload, 1) := by decide +kernel
theorem dL_law_913 : decode cL_law 913 = .ok (.aload_n 0, 1) := by decide +kernel
theorem dL_law_914 : decode cL_law 914 = .ok (.iload_n 3, 1) := by decide +kernel
theorem dL_law_915 : decode cL_law 915 = .ok (.iconst 3, 1) := by decide +kernel
theorem dL_law_916 : decode cL_law 916 = .ok (.iadd, 1) := by decide +kernel
theorem dL_law_917 : decode cL_law 917 = .ok (.iaload, 1) := by decide +kernel
theorem dL_law_918 : decode cL_law 918 = .ok (.invokevirtual 128, 3) := by decide +kernel
theorem dL_law_921 : decode cL_law 921 = .ok (.if_icmp .eq 211, 3) := by decide +kernel
theorem dL_law_924 : decode cL_law 924 = .ok (.iconst 0, 1) := by decide +kernel
theorem dL_law_925 : decode cL_law 925 = .ok (.ireturn, 1) := by decide +kernel
theorem dL_law_926 : decode cL_law 926 = .ok (.aload_n 1, 1) := by decide +kernel
theorem dL_law_927 : decode cL_law 927 = .ok (.aload_n 0, 1) := by decide +kernel
theorem dL_law_928 : decode cL_law 928 = .ok (.iload_n 3, 1) := by decide +kernel
theorem dL_law_929 : decode cL_law 929 = .ok (.iconst 1, 1) := by decide +kernel
theorem dL_law_930 : decode cL_law 930 = .ok (.iadd, 1) := by decide +kernel
theorem dL_law_931 : decode cL_law 931 = .ok (.iaload, 1) := by decide +kernel
theorem dL_law_932 : decode cL_law 932 = .ok (.aload_n 0, 1) := by decide +kernel
theorem dL_law_933 : decode cL_law 933 = .ok (.iload_n 3, 1) := by decide +kernel
theorem dL_law_934 : decode cL_law 934 = .ok (.iconst 2, 1) := by decide +kernel
theorem dL_law_935 : decode cL_law 935 = .ok (.iadd, 1) := by decide +kernel
theorem dL_law_936 : decode cL_law 936 = .ok (.iaload, 1) := by decide +kernel
theorem dL_law_937 : decode cL_law 937 = .ok (.aload_n 0, 1) := by decide +kernel
theorem dL_law_938 : decode cL_law 938 = .ok (.iload_n 3, 1) := by decide +kernel
theorem dL_law_939 : decode cL_law 939 = .ok (.iconst 3, 1) := by decide +kernel
theorem dL_law_940 : decode cL_law 940 = .ok (.iadd, 1) := by decide +kernel
theorem dL_law_941 : decode cL_law 941 = .ok (.iaload, 1) := by decide +kernel
theorem dL_law_942 : decode cL_law 942 = .ok (.invokevirtual 129, 3) := by decide +kernel
theorem dL_law_945 : decode cL_law 945 = .ok (.aload_n 2, 1) := by decide +kernel
theorem dL_law_946 : decode cL_law 946 = .ok (.aload_n 0, 1) := by decide +kernel
theorem dL_law_947 : decode cL_law 947 = .ok (.iload_n 3, 1) := by decide +kernel
theorem dL_law_948 : decode cL_law 948 = .ok (.iconst 1, 1) := by decide +kernel
theorem dL_law_949 : decode cL_law 949 = .ok (.iadd, 1) := by decide +kernel
theorem dL_law_950 : decode cL_law 950 = .ok (.iaload, 1) := by decide +kernel
theorem dL_law_951 : decode cL_law 951 = .ok (.aload_n 0, 1) := by decide +kernel
theorem dL_law_952 : decode cL_law 952 = .ok (.iload_n 3, 1) := by decide +kernel
theorem dL_law_953 : decode cL_law 953 = .ok (.iconst 2, 1) := by decide +kernel
theorem dL_law_954 : decode cL_law 954 = .ok (.iadd, 1) := by decide +kernel
theorem dL_law_955 : decode cL_law 955 = .ok (.iaload, 1) := by decide +kernel
theorem dL_law_956 : decode cL_law 956 = .ok (.aload_n 0, 1) := by decide +kernel
theorem dL_law_957 : decode cL_law 957 = .ok (.iload_n 3, 1) := by decide +kernel
theorem dL_law_958 : decode cL_law 958 = .ok (.iconst 3, 1) := by decide +kernel
theorem dL_law_959 : decode cL_law 959 = .ok (.iadd, 1) := by decide +kernel
theorem dL_law_960 : decode cL_law 960 = .ok (.iaload, 1) := by decide +kernel
theorem dL_law_961 : decode cL_law 961 = .ok (.invokevirtual 132, 3) := by decide +kernel
theorem dL_law_964 : decode cL_law 964 = .ok (.if_icmp .eq 168, 3) := by decide +kernel
theorem dL_law_967 : decode cL_law 967 = .ok (.iconst 0, 1) := by decide +kernel
theorem dL_law_968 : decode cL_law 968 = .ok (.ireturn, 1) := by decide +kernel
theorem dL_law_969 : decode cL_law 969 = .ok (.aload_n 1, 1) := by decide +kernel
theorem dL_law_970 : decode cL_law 970 = .ok (.aload_n 0, 1) := by decide +kernel
theorem dL_law_971 : decode cL_law 971 = .ok (.iload_n 3, 1) := by decide +kernel
theorem dL_law_972 : decode cL_law 972 = .ok (.iconst 1, 1) := by decide +kernel
theorem dL_law_973 : decode cL_law 973 = .ok (.iadd, 1) := by decide +kernel
theorem dL_law_974 : decode cL_law 974 = .ok (.iaload, 1) := by decide +kernel
theorem dL_law_975 : decode cL_law 975 = .ok (.aload_n 0, 1) := by decide +kernel
theorem dL_law_976 : decode cL_law 976 = .ok (.iload_n 3, 1) := by decide +kernel
theorem dL_law_977 : decode cL_law 977 = .ok (.iconst 2, 1) := by decide +kernel
theorem dL_law_978 : decode cL_law 978 = .ok (.iadd, 1) := by decide +kernel
theorem dL_law_979 : decode cL_law 979 = .ok (.iaload, 1) := by decide +kernel
theorem dL_law_980 : decode cL_law 980 = .ok (.invokevirtual 133, 3) := by decide +kernel
theorem dL_law_983 : decode cL_law 983 = .ok (.aload_n 2, 1) := by decide +kernel
theorem dL_law_984 : decode cL_law 984 = .ok (.aload_n 0, 1) := by decide +kernel
theorem dL_law_985 : decode cL_law 985 = .ok (.iload_n 3, 1) := by decide +kernel
theorem dL_law_986 : decode cL_law 986 = .ok (.iconst 1, 1) := by decide +kernel
theorem dL_law_987 : decode cL_law 987 = .ok (.iadd, 1) := by decide +kernel
theorem dL_law_988 : decode cL_law 988 = .ok (.iaload, 1) := by decide +kernel
theorem dL_law_989 : decode cL_law 989 = .ok (.aload_n 0, 1) := by decide +kernel
theorem dL_law_990 : decode cL_law 990 = .ok (.iload_n 3, 1) := by decide +kernel
theorem dL_law_991 : decode cL_law 991 = .ok (.iconst 2, 1) := by decide +kernel
theorem dL_law_992 : decode cL_law 992 = .ok (.iadd, 1) := by decide +kernel
theorem dL_law_993 : decode cL_law 993 = .ok (.iaload, 1) := by decide +kernel
theorem dL_law_994 : decode cL_law 994 = .ok (.invokevirtual 136, 3) := by decide +kernel
theorem dL_law_997 : decode cL_law 997 = .ok (.if_icmp .eq 135, 3) := by decide +kernel
theorem dL_law_1000 : decode cL_law 1000 = .ok (.iconst 0, 1) := by decide +kernel
theorem dL_law_1001 : decode cL_law 1001 = .ok (.ireturn, 1) := by decide +kernel
theorem dL_law_1002 : decode cL_law 1002 = .ok (.aload_n 1, 1) := by decide +kernel
theorem dL_law_1003 : decode cL_law 1003 = .ok (.aload_n 0, 1) := by decide +kernel
theorem dL_law_1004 : decode cL_law 1004 = .ok (.iload_n 3, 1) := by decide +kernel
theorem dL_law_1005 : decode cL_law 1005 = .ok (.iconst 1, 1) := by decide +kernel
theorem dL_law_1006 : decode cL_law 1006 = .ok (.iadd, 1) := by decide +kernel
theorem dL_law_1007 : decode cL_law 1007 = .ok (.iaload, 1) := by decide +kernel
theorem dL_law_1008 : decode cL_law 1008 = .ok (.invokevirtual 137, 3) := by decide +kernel
theorem dL_law_1011 : decode cL_law 1011 = .ok (.aload_n 2, 1) := by decide +kernel
theorem dL_law_1012 : decode cL_law 1012 = .ok (.aload_n 0, 1) := by decide +kernel
theorem dL_law_1013 : decode cL_law 1013 = .ok (.iload_n 3, 1) := by decide +kernel
theorem dL_law_1014 : decode cL_law 1014 = .ok (.iconst 1, 1) := by decide +kernel
theorem dL_law_1015 : decode cL_law 1015 = .ok (.iadd, 1) := by decide +kernel
theorem dL_law_1016 : decode cL_law 1016 = .ok (.iaload, 1) := by decide +kernel
theorem dL_law_1017 : decode cL_law 1017 = .ok (.invokevirtual 141, 3) := by decide +kernel
theorem dL_law_1020 : decode cL_law 1020 = .ok (.lcmp, 1) := by decide +kernel
theorem dL_law_1021 : decode cL_law 1021 = .ok (.ifCond .eq 111, 3) := by decide +kernel
theorem dL_law_1024 : decode cL_law 1024 = .ok (.iconst 0, 1) := by decide +kernel
theorem dL_law_1025 : decode cL_law 1025 = .ok (.ireturn, 1) := by decide +kernel
theorem dL_law_1026 : decode cL_law 1026 = .ok (.aload_n 1, 1) := by decide +kernel
theorem dL_law_1027 : decode cL_law 1027 = .ok (.aload_n 0, 1) := by decide +kernel
theorem dL_law_1028 : decode cL_law 1028 = .ok (.iload_n 3, 1) := by decide +kernel
theorem dL_law_1029 : decode cL_law 1029 = .ok (.iconst 1, 1) := by decide +kernel
theorem dL_law_1030 : decode cL_law 1030 = .ok (.iadd, 1) := by decide +kernel
theorem dL_law_1031 : decode cL_law 1031 = .ok (.iaload, 1) := by decide +kernel
theorem dL_law_1032 : decode cL_law 1032 = .ok (.invokevirtual 142, 3) := by decide +kernel
theorem dL_law_1035 : decode cL_law 1035 = .ok (.aload_n 2, 1) := by decide +kernel
theorem dL_law_1036 : decode cL_law 1036 = .ok (.aload_n 0, 1) := by decide +kernel
theorem dL_law_1037 : decode cL_law 1037 = .ok (.iload_n 3, 1) := by decide +kernel
theorem dL_law_1038 : decode cL_law 1038 = .ok (.iconst 1, 1) := by decide +kernel
theorem dL_law_1039 : decode cL_law 1039 = .ok (.iadd, 1) := by decide +kernel
theorem dL_law_1040 : decode cL_law 1040 = .ok (.iaload, 1) := by decide +kernel
theorem dL_law_1041 : decode cL_law 1041 = .ok (.invokevirtual 145, 3) := by decide +kernel
theorem dL_law_1044 : decode cL_law 1044 = .ok (.if_icmp .eq 88, 3) := by decide +kernel
theorem dL_law_1047 : decode cL_law 1047 = .ok (.iconst 0, 1) := by decide +kernel
theorem dL_law_1048 : decode cL_law 1048 = .ok (.ireturn, 1) := by decide +kernel
theorem dL_law_1049 : decode cL_law 1049 = .ok (.aload_n 1, 1) := by decide +kernel
theorem dL_law_1050 : decode cL_law 1050 = .ok (.aload_n 0, 1) := by decide +kernel
theorem dL_law_1051 : decode cL_law 1051 = .ok (.iload_n 3, 1) := by decide +kernel
theorem dL_law_1052 : decode cL_law 1052 = .ok (.iconst 1, 1) := by decide +kernel
theorem dL_law_1053 : decode cL_law 1053 = .ok (.iadd, 1) := by decide +kernel
theorem dL_law_1054 : decode cL_law 1054 = .ok (.iaload, 1) := by decide +kernel
theorem dL_law_1055 : decode cL_law 1055 = .ok (.invokevirtual 146, 3) := by decide +kernel
theorem dL_law_1058 : decode cL_law 1058 = .ok (.aload_n 2, 1) := by decide +kernel
theorem dL_law_1059 : decode cL_law 1059 = .ok (.aload_n 0, 1) := by decide +kernel
theorem dL_law_1060 : decode cL_law 1060 = .ok (.iload_n 3, 1) := by decide +kernel
theorem dL_law_1061 : decode cL_law 1061 = .ok (.iconst 1, 1) := by decide +kernel
theorem dL_law_1062 : decode cL_law 1062 = .ok (.iadd, 1) := by decide +kernel
theorem dL_law_1063 : decode cL_law 1063 = .ok (.iaload, 1) := by decide +kernel
theorem dL_law_1064 : decode cL_law 1064 = .ok (.invokevirtual 149, 3) := by decide +kernel
theorem dL_law_1067 : decode cL_law 1067 = .ok (.if_icmp .eq 65, 3) := by decide +kernel
theorem dL_law_1070 : decode cL_law 1070 = .ok (.iconst 0, 1) := by decide +kernel
theorem dL_law_1071 : decode cL_law 1071 = .ok (.ireturn, 1) := by decide +kernel
theorem dL_law_1072 : decode cL_law 1072 = .ok (.aload_n 1, 1) := by decide +kernel
theorem dL_law_1073 : decode cL_law 1073 = .ok (.aload_n 0, 1) := by decide +kernel
theorem dL_law_1074 : decode cL_law 1074 = .ok (.iload_n 3, 1) := by decide +kernel
theorem dL_law_1075 : decode cL_law 1075 = .ok (.iconst 1, 1) := by decide +kernel
theorem dL_law_1076 : decode cL_law 1076 = .ok (.iadd, 1) := by decide +kernel
theorem dL_law_1077 : decode cL_law 1077 = .ok (.iaload, 1) := by decide +kernel
theorem dL_law_1078 : decode cL_law 1078 = .ok (.invokevirtual 150, 3) := by decide +kernel
theorem dL_law_1081 : decode cL_law 1081 = .ok (.aload_n 2, 1) := by decide +kernel
theorem dL_law_1082 : decode cL_law 1082 = .ok (.aload_n 0, 1) := by decide +kernel
theorem dL_law_1083 : decode cL_law 1083 = .ok (.iload_n 3, 1) := by decide +kernel
theorem dL_law_1084 : decode cL_law 1084 = .ok (.iconst 1, 1) := by decide +kernel
theorem dL_law_1085 : decode cL_law 1085 = .ok (.iadd, 1) := by decide +kernel
theorem dL_law_1086 : decode cL_law 1086 = .ok (.iaload, 1) := by decide +kernel
theorem dL_law_1087 : decode cL_law 1087 = .ok (.invokevirtual 153, 3) := by decide +kernel
theorem dL_law_1090 : decode cL_law 1090 = .ok (.if_icmp .eq 42, 3) := by decide +kernel
theorem dL_law_1093 : decode cL_law 1093 = .ok (.iconst 0, 1) := by decide +kernel
theorem dL_law_1094 : decode cL_law 1094 = .ok (.ireturn, 1) := by decide +kernel
theorem dL_law_1095 : decode cL_law 1095 = .ok (.aload_n 1, 1) := by decide +kernel
theorem dL_law_1096 : decode cL_law 1096 = .ok (.aload_n 0, 1) := by decide +kernel
theorem dL_law_1097 : decode cL_law 1097 = .ok (.iload_n 3, 1) := by decide +kernel
theorem dL_law_1098 : decode cL_law 1098 = .ok (.iconst 1, 1) := by decide +kernel
theorem dL_law_1099 : decode cL_law 1099 = .ok (.iadd, 1) := by decide +kernel
theorem dL_law_1100 : decode cL_law 1100 = .ok (.iaload, 1) := by decide +kernel
theorem dL_law_1101 : decode cL_law 1101 = .ok (.invokevirtual 154, 3) := by decide +kernel
theorem dL_law_1104 : decode cL_law 1104 = .ok (.aload_n 2, 1) := by decide +kernel
theorem dL_law_1105 : decode cL_law 1105 = .ok (.aload_n 0, 1) := by decide +kernel
theorem dL_law_1106 : decode cL_law 1106 = .ok (.iload_n 3, 1) := by decide +kernel
theorem dL_law_1107 : decode cL_law 1107 = .ok (.iconst 1, 1) := by decide +kernel
theorem dL_law_1108 : decode cL_law 1108 = .ok (.iadd, 1) := by decide +kernel
theorem dL_law_1109 : decode cL_law 1109 = .ok (.iaload, 1) := by decide +kernel
theorem dL_law_1110 : decode cL_law 1110 = .ok (.invokevirtual 157, 3) := by decide +kernel
theorem dL_law_1113 : decode cL_law 1113 = .ok (.if_icmp .eq 19, 3) := by decide +kernel
theorem dL_law_1116 : decode cL_law 1116 = .ok (.iconst 0, 1) := by decide +kernel
theorem dL_law_1117 : decode cL_law 1117 = .ok (.ireturn, 1) := by decide +kernel
theorem dL_law_1118 : decode cL_law 1118 = .ok (.aload_n 1, 1) := by decide +kernel
theorem dL_law_1119 : decode cL_law 1119 = .ok (.invokevirtual 158, 3) := by decide +kernel
theorem dL_law_1122 : decode cL_law 1122 = .ok (.aload_n 2, 1) := by decide +kernel
theorem dL_law_1123 : decode cL_law 1123 = .ok (.invokevirtual 162, 3) := by decide +kernel
theorem dL_law_1126 : decode cL_law 1126 = .ok (.lcmp, 1) := by decide +kernel
theorem dL_law_1127 : decode cL_law 1127 = .ok (.ifCond .eq 5, 3) := by decide +kernel
theorem dL_law_1130 : decode cL_law 1130 = .ok (.iconst 0, 1) := by decide +kernel
theorem dL_law_1131 : decode cL_law 1131 = .ok (.ireturn, 1) := by decide +kernel
theorem dL_law_1132 : decode cL_law 1132 = .ok (.iinc 3 4, 3) := by decide +kernel
theorem dL_law_1135 : decode cL_law 1135 = .ok (.goto (-1117), 3) := by decide +kernel
theorem dL_law_1138 : decode cL_law 1138 = .ok (.iconst 1, 1) := by decide +kernel
theorem dL_law_1139 : decode cL_law 1139 = .ok (.ireturn, 1) := by decide +kernel
end
section
/-! the memory of the whole system: cells 1 .. n, each of a kind and a length; numbers, longs and references by cell and place -/
abbrev hz_M : Type := (Nat → Nat → Int32) × (Nat → Nat → Int64) × (Nat → Nat → Nat)
abbrev hz_T : Type := Nat → Nat × Nat
abbrev hz_D : Type := va_G × (Nat → ClassId) × (Nat → Nat) × Nat
def hz_up {α : Type} (f : Nat → Nat → α) (a k : Nat) (x : α) : Nat → Nat → α := fun b => if b = a then va_up (f b) k x else f b
def hz_op (ad : Nat → Nat) (p : Nat) : Option Nat := if p = 0 then none else some (ad p)
def hz_rf (ad : Nat → Nat) (p : Nat) : Value := va_rf (hz_op ad p)
def hz_tr (ad : Nat → Nat) : Value → Value
  | .ref p => .ref (ad p)
  | v => v
def hz_ty (c k : Nat) : FieldType := match c with
  | 2 => tyX2 k
  | 3 => tyX3 k
  | 7 => tyX7 k
  | 8 => tyX8 k
  | 10 => tyX10 k
  | 11 => tyX11 k
  | _ => .int
/-- what a field holds: by its type -/
def hz_fv (ad : Nat → Nat) (M : hz_M) (ty : FieldType) (a k : Nat) : Value := match ty with
  | .long => .long (M.2.1 a k)
  | .object _ => hz_rf ad (M.2.2 a k)
  | .array _ => hz_rf ad (M.2.2 a k)
  | _ => .int (M.1 a k)
def hz_nf (c : Nat) : Nat := match vwCl[c]? with
  | some r => r.2.2
  | none => 0
def hz_fs (ad : Nat → Nat) (M : hz_M) (c a : Nat) : List Value := (List.range (hz_nf c)).map (fun k => hz_fv ad M (hz_ty c k) a k)
def hz_E (D : hz_D) (T : hz_T) (M : hz_M) (a : Nat) : va_E :=
  if (T a).1 < 12 then .inr ((T a).1, hz_fs D.2.2.1 M (T a).1 a)
  else if (T a).1 < 15 then .inl (D.2.1 (T a).1, (T a).2, .inl (M.1 a))
  else .inl (D.2.1 (T a).1, (T a).2, .inr (.inr (.inr (.inr (fun j => hz_op D.2.2.1 (M.2.2 a j))))))
def hz_W (D : hz_D) (T : hz_T) (n : Nat) (M : hz_M) : va_W := (List.range n).map fun i => (D.2.2.1 (i + 1), hz_E D T M (i + 1))
/-- the system's own cells: from the base on -/
def hz_A (D : hz_D) : Nat → Prop := fun q => D.2.2.2 ≤ q
def hz_tys (D : hz_D) : List (ClassId × FieldType) := [(D.2.1 12, .char), (D.2.1 13, .int), (D.2.1 14, .boolean), (D.2.1 15, .object RX2), (D.2.1 16, .object RX3), (D.2.1 17, .object RX6)]
def hz_tbl : List Cond := lw_tbl.filter goodWord
def hz_isN : Cond → Bool
  | .methodLinkNest .. => true
  | .fieldLinkNest .. => true
  | _ => false
def hz_nst : List Cond := lw_tbl.filter hz_isN
/-- the world as a state has it: the cells, their kinds, how many -/
def hz_R (D : hz_D) (T : hz_T) (n : Nat) (M : hz_M) (H : Heap) : Prop := va_P D.1 vwCl (hz_W D T n M) H ∧ va_D (hz_A D) (hz_W D T n M) ∧ H.size = D.2.2.2 + n
/-- what lies outside: the table of seconds; the words' texts -/
def hz_tell : Nat → Value := fun j => if j = 0 then .int 0 else if j = 1 then .int 7 else .int 20
def hz_ext (D : hz_D) (U : State) (H : Heap) : Prop := va_Z RX10 "TELLING_SECONDS" "[I" (.ref (D.2.2.1 1000)) (hz_A D) U H ∧ va_T .int (D.2.2.1 1000) 3 hz_tell (hz_A D) U H
def hz_K (D : hz_D) (U : State) : Prop := va_K D.1 vwCl (hz_tys D) U ∧ ∀ w ∈ hz_nst, va_Nw w U
/-- locals: places with a value, or none that is known -/
def hz_L (ad : Nat → Nat) (ls : List (Option Value)) (lsA : Array Slot) : Prop := lsA.size = ls.length ∧ lv_wf lsA ∧ ∀ (i : Nat) (v : Value), ls[i]? = some (some v) → lsA[i]? = some (.val (hz_tr ad v))
abbrev hz_X : Type := Program × Launch × Env × Room × State × MethodId × Array Value × List Frame × Method × Code × hz_D × (State → Prop)
/-- THE JUDGEMENT: from this place of the method, with these locals, this stack and this memory, the machine comes to its goal -/
def hz_G (X : hz_X) (T : hz_T) (n : Nat) (M : hz_M) (kc ks pc : Nat) (ls : List (Option Value)) (st : List Value) : Prop := match X with
  | (p, l, e, R, s, m, args, below, meth, c, D, Q) => ∀ (H : Heap) (locs : List Loc), hz_R D T n M H → va_S (hz_A D) s.heap H locs → ∀ lsA : Array Slot, hz_L D.2.2.1 ls lsA → W p l e R s m args below meth c H locs kc ks Q (F0 m pc lsA (st.map (hz_tr D.2.2.1)))
/-- a method: its name, code, locals, answer's type, and how many frames it opens below it -/
abbrev hz_Y : Type := MethodName × ByteArray × Nat × Option FieldType × Nat
def hz_rm (d mc ms : Nat) : Room := { frames := d, cells := mc, slots := ms, locals := 38 * d }
def hz_ws (y : hz_Y) : List Cond := .code y.1 y.2.1 y.2.2.1 y.2.2.2.1 :: hz_tbl
/-- what holds all through a method's body -/
def hz_C (X : hz_X) (y : hz_Y) : Prop := match X with
  | (p, _, _, R, s, m, args, _, meth, c, D, _) => p.tables.exec = Jvm.exec ∧ c.code = y.2.1 ∧ c.maxLocals = y.2.2.1 ∧ s.vm.findClass y.1.cls = some m.cls ∧ (∀ w ∈ hz_tbl, w.before args s = true) ∧ hz_K D s ∧ hz_ext D s s.heap ∧ y.2.2.2.2 ≤ R.frames ∧ 38 * y.2.2.2.2 ≤ R.locals ∧ meth.sig.returnType = y.2.2.2.1 ∧ meth.locks = false ∧ (y.1.name = "<init>" → meth.name = "<init>") ∧ D.2.2.2 ≤ s.heap.size
def hz_Pc (D : hz_D) (T : hz_T) (n : Nat) (M : hz_M) (as : List Value) : Array Value → State → Prop := va_Pc (as.map (hz_tr D.2.2.1)) (fun U => hz_R D T n M U.heap ∧ hz_K D U ∧ hz_ext D U U.heap)
def hz_Qc (D : hz_D) (T : hz_T) (n : Nat) (M : hz_M) (r : Option Value) : Array Value → State → Outcome → State → Prop := fun _ st o t => o = .returned (r.map (hz_tr D.2.2.1)) ∧ hz_R D T n M t.heap ∧ va_F (hz_A D) st t
/-- a CONTRACT: called with these arguments over this memory the method answers r and leaves that memory, having made mc cells of ms places -/
def hz_Ev (y : hz_Y) (T : hz_T) (n : Nat) (M : hz_M) (as : List Value) (mc ms : Nat) (r : Option Value) (T' : hz_T) (n' : Nat) (M' : hz_M) : Prop := ∀ (l : Launch) (D : hz_D), (∀ a, n < a → a ≤ n' → D.2.2.1 a + 1 = D.2.2.2 + a) → Met l y.1 (hz_ws y) (hz_rm y.2.2.2.2 mc ms) (hz_Pc D T n M as) (hz_Qc D T' n' M' r) mc ms (hz_A D)
/-- where a body must come to -/
def hz_Z (X : hz_X) (mc ms : Nat) (r : Option Value) (T : hz_T) (n : Nat) (M : hz_M) : Prop := match X with
  | (_, _, _, R, s, _, args, below, _, _, D, Q) => Q = MQ below (hz_Qc D T n M r) args s mc ms (hz_A D) ∧ R.cells = mc ∧ R.slots = ms
def hz_en (as : List Value) (nL : Nat) : List (Option Value) := (as.flatMap fun v => if v.category = 2 then [some v, none] else [some v]) ++ List.replicate (nL - (as.flatMap fun v => if v.category = 2 then [some v, none] else [some v]).length) none
end
section
theorem hz_up_ne {α : Type} (f : Nat → Nat → α) (a k : Nat) (x : α) {b : Nat} (h : b ≠ a) : hz_up f a k x b = f b := if_neg h
theorem hz_up_eq {α : Type} (f : Nat → Nat → α) (a k : Nat) (x : α) : hz_up f a k x a = va_up (f a) k x := if_pos rfl
theorem hz_up_self {α : Type} (f : Nat → Nat → α) (a k : Nat) (x : α) : hz_up f a k x a k = x := by rw [hz_up_eq]; exact if_pos rfl
theorem hz_up_nk {α : Type} (f : Nat → Nat → α) (a k : Nat) (x : α) {j : Nat} (h : j ≠ k) : hz_up f a k x a j = f a j := by rw [hz_up_eq]; exact if_neg h
theorem hz_rf_ref {ad : Nat → Nat} {a : Nat} (h : a ≠ 0) : hz_rf ad a = .ref (ad a) := by
  simp [hz_rf, hz_op, h, va_rf]
theorem hz_W_get (D : hz_D) (T : hz_T) {n a : Nat} (M : hz_M) (h0 : a ≠ 0) (h : a ≤ n) : (hz_W D T n M)[a - 1]? = some (D.2.2.1 a, hz_E D T M a) := by
  have e : a - 1 + 1 = a := by omega
  unfold hz_W
  rw [List.getElem?_map, List.getElem?_range (by omega)]
  simp only [Option.map_some, e]
theorem hz_W_obj (D : hz_D) {T : hz_T} {n a c N : Nat} (M : hz_M) (h0 : a ≠ 0) (h : a ≤ n) (hT : T a = (c, N)) (hc : c < 12) : (hz_W D T n M)[a - 1]? = some (D.2.2.1 a, .inr (c, hz_fs D.2.2.1 M c a)) := by
  rw [hz_W_get D T M h0 h]
  simp [hz_E, hT, hc]
theorem hz_W_arr (D : hz_D) {T : hz_T} {n a c N : Nat} (M : hz_M) (h0 : a ≠ 0) (h : a ≤ n) (hT : T a = (c, N)) (hc : 12 ≤ c) (hc2 : c < 15) : (hz_W D T n M)[a - 1]? = some (D.2.2.1 a, .inl (D.2.1 c, N, .inl (M.1 a))) := by
  rw [hz_W_get D T M h0 h]
  simp [hz_E, hT, Nat.not_lt.mpr hc, hc2]
theorem hz_W_arq (D : hz_D) {T : hz_T} {n a c N : Nat} (M : hz_M) (h0 : a ≠ 0) (h : a ≤ n) (hT : T a = (c, N)) (hc : 15 ≤ c) : (hz_W D T n M)[a - 1]? = some (D.2.2.1 a, .inl (D.2.1 c, N, .inr (.inr (.inr (.inr (fun j => hz_op D.2.2.1 (M.2.2 a j))))))) := by
  have h1 : ¬ c < 12 := by omega
  have h2 : ¬ c < 15 := by omega
  rw [hz_W_get D T M h0 h]
  simp [hz_E, hT, h1, h2]
theorem hz_W_set (D : hz_D) (T : hz_T) {n a : Nat} (M M' : hz_M) {E' : va_E} (h0 : a ≠ 0) (he : hz_E D T M' a = E') (ho : ∀ b, b ≠ a → hz_E D T M' b = hz_E D T M b) : (hz_W D T n M).set (a - 1) (D.2.2.1 a, E') = hz_W D T n M' := by
  apply List.ext_getElem?
  intro i
  have e : a - 1 + 1 = a := by omega
  unfold hz_W
  by_cases hi : i < n
  · by_cases ha : i = a - 1
    · subst ha
      rw [List.getElem?_set_self (by simpa using hi), List.getElem?_map, List.getElem?_range hi]
      simp only [Option.map_some, e, he]
    · rw [List.getElem?_set_ne (Ne.symm ha), List.getElem?_map, List.getElem?_map, List.getElem?_range hi]
      simp only [Option.map_some, ho (i + 1) (by omega)]
  · have h1 : n ≤ i := by omega
    rw [List.getElem?_eq_none (by simp [h1]), List.getElem?_eq_none (by simp [h1])]
theorem hz_fs_get (ad : Nat → Nat) (M : hz_M) (c a : Nat) {k : Nat} (h : k < hz_nf c) : (hz_fs ad M c a)[k]? = some (hz_fv ad M (hz_ty c k) a k) := by
  unfold hz_fs
  rw [List.getElem?_map, List.getElem?_range h]
  rfl
theorem hz_fs_set (ad : Nat → Nat) (M M' : hz_M) (c a : Nat) {k : Nat} {v : Value} (hv : hz_fv ad M' (hz_ty c k) a k = v) (ho : ∀ j, j ≠ k → hz_fv ad M' (hz_ty c j) a j = hz_fv ad M (hz_ty c j) a j) : (hz_fs ad M c a).set k v = hz_fs ad M' c a := by
  apply List.ext_getElem?
  intro i
  unfold hz_fs
  by_cases hi : i < hz_nf c
  · by_cases hk : i = k
    · subst hk
      rw [List.getElem?_set_self (by simpa using hi), List.getElem?_map, List.getElem?_range hi]
      simp only [Option.map_some, hv]
    · rw [List.getElem?_set_ne (Ne.symm hk), List.getElem?_map, List.getElem?_map, List.getElem?_range hi]
      simp only [Option.map_some, ho i hk]
  · have h1 : hz_nf c ≤ i := by omega
    rw [List.getElem?_eq_none (by simp [h1]), List.getElem?_eq_none (by simp [h1])]
theorem hz_E_ne (D : hz_D) (T : hz_T) (M M' : hz_M) {b : Nat} (h1 : M'.1 b = M.1 b) (h2 : M'.2.1 b = M.2.1 b) (h3 : M'.2.2 b = M.2.2 b) : hz_E D T M' b = hz_E D T M b := by
  simp only [hz_E, hz_fs, hz_fv, h1, h2, h3]
/-- three kinds of change: a number, a long, a reference -/
def hz_uI (M : hz_M) (a k : Nat) (x : Int32) : hz_M := (hz_up M.1 a k x, M.2.1, M.2.2)
def hz_uL (M : hz_M) (a k : Nat) (x : Int64) : hz_M := (M.1, hz_up M.2.1 a k x, M.2.2)
def hz_uP (M : hz_M) (a k : Nat) (x : Nat) : hz_M := (M.1, M.2.1, hz_up M.2.2 a k x)
theorem hz_E_uI (D : hz_D) (T : hz_T) (M : hz_M) (a k : Nat) (x : Int32) (b : Nat) (h : b ≠ a) : hz_E D T (hz_uI M a k x) b = hz_E D T M b := hz_E_ne D T M _ (hz_up_ne _ _ _ _ h) rfl rfl
theorem hz_E_uL (D : hz_D) (T : hz_T) (M : hz_M) (a k : Nat) (x : Int64) (b : Nat) (h : b ≠ a) : hz_E D T (hz_uL M a k x) b = hz_E D T M b := hz_E_ne D T M _ rfl (hz_up_ne _ _ _ _ h) rfl
theorem hz_E_uP (D : hz_D) (T : hz_T) (M : hz_M) (a k : Nat) (x : Nat) (b : Nat) (h : b ≠ a) : hz_E D T (hz_uP M a k x) b = hz_E D T M b := hz_E_ne D T M _ rfl rfl (hz_up_ne _ _ _ _ h)
theorem hz_fv_uI (ad : Nat → Nat) (M : hz_M) (ty : FieldType) (a k j : Nat) (x : Int32) (h : j ≠ k) : hz_fv ad (hz_uI M a k x) ty a j = hz_fv ad M ty a j := by
  have e : (hz_uI M a k x).1 a j = M.1 a j := hz_up_nk _ _ _ _ h
  cases ty <;> simp only [hz_fv, e] <;> rfl
theorem hz_fv_uL (ad : Nat → Nat) (M : hz_M) (ty : FieldType) (a k j : Nat) (x : Int64) (h : j ≠ k) : hz_fv ad (hz_uL M a k x) ty a j = hz_fv ad M ty a j := by
  have e : (hz_uL M a k x).2.1 a j = M.2.1 a j := hz_up_nk _ _ _ _ h
  cases ty <;> simp only [hz_fv, e] <;> rfl
theorem hz_fv_uP (ad : Nat → Nat) (M : hz_M) (ty : FieldType) (a k j : Nat) (x : Nat) (h : j ≠ k) : hz_fv ad (hz_uP M a k x) ty a j = hz_fv ad M ty a j := by
  have e : (hz_uP M a k x).2.2 a j = M.2.2 a j := hz_up_nk _ _ _ _ h
  cases ty <;> simp only [hz_fv, e] <;> rfl
/-- the classes' words are among the tables' -/
theorem hz_mem {w : Cond} (h : w ∈ lw_tbl) (g : goodWord w = true) : w ∈ hz_tbl := List.mem_filter.mpr ⟨h, g⟩
theorem hz_good : GoodIn hz_tbl hz_tbl := fun w h => ⟨h, good_of_word (List.mem_filter.mp h).2⟩
theorem hz_goodY {y : hz_Y} (h : Cond.code y.1 y.2.1 y.2.2.1 y.2.2.2.1 ∈ hz_tbl) : GoodIn hz_tbl (hz_ws y) := fun w hw => (List.mem_cons.mp hw).elim (fun e => e ▸ hz_good _ h) (hz_good w)
set_option maxRecDepth 100000 in
theorem hz_lays : ∀ c, c < 12 → ∀ r, vwCl[c]? = some r → (u_ws r.1 r.2.1 r.2.2).all (fun w => decide (w ∈ hz_tbl)) = true := by
  intro c hc r hr
  rcases (show c = 0 ∨ c = 1 ∨ c = 2 ∨ c = 3 ∨ c = 4 ∨ c = 5 ∨ c = 6 ∨ c = 7 ∨ c = 8 ∨ c = 9 ∨ c = 10 ∨ c = 11 by omega) with rfl | rfl | rfl | rfl | rfl | rfl | rfl | rfl | rfl | rfl | rfl | rfl <;> (cases hr; decide +kernel)
theorem hz_lay {c : Nat} {r : vw_C} (hr : vwCl[c]? = some r) : ∀ w ∈ u_ws r.1 r.2.1 r.2.2, w ∈ hz_tbl := by
  have hc : c < 12 := (List.getElem?_eq_some_iff.mp hr).1
  intro w hw
  have h := List.all_eq_true.mp (hz_lays c hc r hr) w hw
  exact of_decide_eq_true h
theorem hz_nf_eq {c : Nat} {r : vw_C} (hr : vwCl[c]? = some r) : hz_nf c = r.2.2 := by simp only [hz_nf, hr]
theorem hz_tyok : ∀ c, c < 12 → ∀ r, vwCl[c]? = some r → ∀ k, k < r.2.2 → parseFieldDescriptor (r.2.1 k).2.2.1 = some (hz_ty c k) := by
  intro c hc r hr
  rcases (show c = 0 ∨ c = 1 ∨ c = 2 ∨ c = 3 ∨ c = 4 ∨ c = 5 ∨ c = 6 ∨ c = 7 ∨ c = 8 ∨ c = 9 ∨ c = 10 ∨ c = 11 by omega) with rfl | rfl | rfl | rfl | rfl | rfl | rfl | rfl | rfl | rfl | rfl | rfl <;> (cases hr)
  · exact tyX0_ok
  · exact tyX1_ok
  · exact tyX2_ok
  · exact tyX3_ok
  · exact tyX4_ok
  · exact tyX5_ok
  · exact tyX6_ok
  · exact tyX7_ok
  · exact tyX8_ok
  · exact tyX9_ok
  · exact tyX10_ok
  · exact tyX11_ok
theorem hz_nmok : ∀ c, c < 12 → ∀ r, vwCl[c]? = some r → ∀ a, a < r.2.2 → ∀ b, b < r.2.2 → a ≠ b → (r.2.1 a).2.1 ≠ (r.2.1 b).2.1 := by
  intro c hc r hr
  rcases (show c = 0 ∨ c = 1 ∨ c = 2 ∨ c = 3 ∨ c = 4 ∨ c = 5 ∨ c = 6 ∨ c = 7 ∨ c = 8 ∨ c = 9 ∨ c = 10 ∨ c = 11 by omega) with rfl | rfl | rfl | rfl | rfl | rfl | rfl | rfl | rfl | rfl | rfl | rfl <;> (cases hr)
  · exact nmX0
  · exact nmX1
  · exact nmX2
  · exact nmX3
  · exact nmX4
  · exact nmX5
  · exact nmX6
  · exact nmX7
  · exact nmX8
  · exact nmX9
  · exact nmX10
  · exact nmX11
end
section
/-- locals: a store, of one place or two -/
def hz_cl (ls : List (Option Value)) (i : Nat) : List (Option Value) := match i with
  | 0 => ls
  | j + 1 => match ls[j]? with
    | some (some v) => if v.category = 2 then ls.set j none else ls
    | _ => ls
def hz_s1 (ls : List (Option Value)) (i : Nat) (v : Value) : List (Option Value) := (hz_cl ls i).set i (some v)
def hz_s2 (ls : List (Option Value)) (i : Nat) (v : Value) : List (Option Value) := ((hz_cl ls i).set i (some v)).set (i + 1) none
def hz_al (ad : Nat → Nat) (ls : List (Option Value)) : List (Nat × Value) := (List.range ls.length).filterMap fun i => match ls[i]? with
  | some (some v) => some (i, hz_tr ad v)
  | _ => none
theorem hz_cat (ad : Nat → Nat) (v : Value) : (hz_tr ad v).category = v.category := by cases v <;> rfl
theorem hz_al_mem {ad : Nat → Nat} {ls : List (Option Value)} {i : Nat} {v : Value} (h : ls[i]? = some (some v)) : (i, hz_tr ad v) ∈ hz_al ad ls := by
  refine List.mem_filterMap.mpr ⟨i, List.mem_range.mpr (List.getElem?_eq_some_iff.mp h).1, ?_⟩
  simp only [h]
theorem hz_al_spec {ad : Nat → Nat} {ls : List (Option Value)} {q : Nat × Value} (h : q ∈ hz_al ad ls) : ∃ v, ls[q.1]? = some (some v) ∧ q.2 = hz_tr ad v := by
  obtain ⟨i, -, h⟩ := List.mem_filterMap.mp h
  cases hv : ls[i]? with
  | none => simp [hv] at h
  | some o =>
    cases o with
    | none => simp [hv] at h
    | some v =>
      simp only [hv, Option.some.injEq] at h
      subst h
      exact ⟨v, hv, rfl⟩
theorem hz_L_has {ad : Nat → Nat} {ls : List (Option Value)} {lsA : Array Slot} (h : hz_L ad ls lsA) : lv_has lsA ls.length (hz_al ad ls) := by
  refine ⟨h.1, h.2.1, fun q hq => ?_⟩
  obtain ⟨v, h1, h2⟩ := hz_al_spec hq
  rw [h2]
  exact h.2.2 _ _ h1
theorem hz_cl_len (ls : List (Option Value)) (i : Nat) : (hz_cl ls i).length = ls.length := by
  unfold hz_cl
  split
  · rfl
  · split
    · split
      · simp
      · rfl
    · rfl
theorem hz_cl_get {ls : List (Option Value)} {i j : Nat} {w : Value} (h : (hz_cl ls i)[j]? = some (some w)) : ls[j]? = some (some w) ∧ ¬ (j + 1 = i ∧ w.category = 2) := by
  unfold hz_cl at h
  split at h
  · exact ⟨h, by omega⟩
  · rename_i i j0
    split at h
    · rename_i v hv
      split at h
      · rename_i hc
        by_cases e : j = j0
        · subst e
          rw [List.getElem?_set_self (List.getElem?_eq_some_iff.mp hv).1] at h
          cases h
        · rw [List.getElem?_set_ne (Ne.symm e)] at h
          exact ⟨h, fun q => e (by omega)⟩
      · rename_i hc
        refine ⟨h, fun q => ?_⟩
        have e : j = j0 := by omega
        subst e
        rw [hv] at h
        cases h
        exact hc q.2
    · rename_i hv
      refine ⟨h, fun q => ?_⟩
      have e : j = j0 := by omega
      subst e
      exact hv w h
theorem hz_L_s1 {ad : Nat → Nat} {ls : List (Option Value)} {ls' : Array Slot} {i : Nat} {v : Value} (h : lv_has ls' ls.length ((i, hz_tr ad v) :: (hz_al ad ls).filter (fun q => !(q.1 == i) && !(q.1 + 1 == i && q.2.category == 2)))) (hi : i < ls.length) : hz_L ad (hz_s1 ls i v) ls' := by
  refine ⟨by rw [h.1]; simp [hz_s1, hz_cl_len], h.2.1, fun j w hj => ?_⟩
  unfold hz_s1 at hj
  by_cases e : j = i
  · subst e
    rw [List.getElem?_set_self (by rw [hz_cl_len]; exact hi)] at hj
    cases hj
    exact h.2.2 (j, _) List.mem_cons_self
  · rw [List.getElem?_set_ne (Ne.symm e)] at hj
    obtain ⟨h1, h2⟩ := hz_cl_get hj
    refine h.2.2 (j, _) (List.mem_cons_of_mem _ (List.mem_filter.mpr ⟨hz_al_mem h1, ?_⟩))
    simp only [Bool.and_eq_true, Bool.not_eq_true', beq_eq_false_iff_ne, ne_eq, e, not_false_eq_true, true_and, Bool.and_eq_false_iff]
    by_cases e2 : j + 1 = i
    · exact Or.inr fun z => h2 ⟨e2, (hz_cat ad w).symm.trans z⟩
    · exact Or.inl e2
theorem hz_L_s2 {ad : Nat → Nat} {ls : List (Option Value)} {ls' : Array Slot} {i : Nat} {v : Value} (h : lv_has ls' ls.length ((i, hz_tr ad v) :: (hz_al ad ls).filter (fun q => !(q.1 == i) && (!(q.1 == i + 1) && !(q.1 + 1 == i && q.2.category == 2))))) (hi : i < ls.length) : hz_L ad (hz_s2 ls i v) ls' := by
  refine ⟨by rw [h.1]; simp [hz_s2, hz_cl_len], h.2.1, fun j w hj => ?_⟩
  unfold hz_s2 at hj
  by_cases e1 : j = i + 1
  · subst e1
    by_cases hl : i + 1 < ls.length
    · rw [List.getElem?_set_self (by simp [hz_cl_len, hl])] at hj
      cases hj
    · rw [List.getElem?_eq_none (by simp [hz_cl_len]; omega)] at hj
      cases hj
  · rw [List.getElem?_set_ne (Ne.symm e1)] at hj
    by_cases e : j = i
    · subst e
      rw [List.getElem?_set_self (by rw [hz_cl_len]; exact hi)] at hj
      cases hj
      exact h.2.2 (j, _) List.mem_cons_self
    · rw [List.getElem?_set_ne (Ne.symm e)] at hj
      obtain ⟨h1, h2⟩ := hz_cl_get hj
      refine h.2.2 (j, _) (List.mem_cons_of_mem _ (List.mem_filter.mpr ⟨hz_al_mem h1, ?_⟩))
      simp only [Bool.and_eq_true, Bool.not_eq_true', beq_eq_false_iff_ne, ne_eq, e, e1, not_false_eq_true, true_and, Bool.and_eq_false_iff]
      by_cases e2 : j + 1 = i
      · exact Or.inr fun z => h2 ⟨e2, (hz_cat ad w).symm.trans z⟩
      · exact Or.inl e2
section RULES
variable {X : hz_X} {y : hz_Y} {T : hz_T} {n : Nat} {M : hz_M} {kc ks pc : Nat} {ls : List (Option Value)} {st : List Value}
theorem hz_iconst (C : hz_C X y) {z : Int} {v : Int32} (d : decode y.2.1 pc = .ok (.iconst z, 1)) (hv : Int32.ofInt z = v) (kk : hz_G X T n M kc ks (pc + 1) ls (.int v :: st)) : hz_G X T n M kc ks pc ls (st) := by
  obtain ⟨p, l, e, R, s, m, args, below, meth, cd, D, Q⟩ := X
  obtain ⟨hx, hb, hml, hown, hts, hK, hext, -⟩ := C
  intro H locs hR hS lsA hl
  exact lv_iconst hx hb d hv (kk H locs hR hS lsA hl)
theorem hz_bipush (C : hz_C X y) {z : Int} {v : Int32} (d : decode y.2.1 pc = .ok (.bipush z, 2)) (hv : (Int8.ofInt z).toInt32 = v) (kk : hz_G X T n M kc ks (pc + 2) ls (.int v :: st)) : hz_G X T n M kc ks pc ls (st) := by
  obtain ⟨p, l, e, R, s, m, args, below, meth, cd, D, Q⟩ := X
  obtain ⟨hx, hb, hml, hown, hts, hK, hext, -⟩ := C
  intro H locs hR hS lsA hl
  exact lv_bipush hx hb d hv (kk H locs hR hS lsA hl)
theorem hz_sipush (C : hz_C X y) {z : Int} {v : Int32} (d : decode y.2.1 pc = .ok (.sipush z, 3)) (hv : (Int16.ofInt z).toInt32 = v) (kk : hz_G X T n M kc ks (pc + 3) ls (.int v :: st)) : hz_G X T n M kc ks pc ls (st) := by
  obtain ⟨p, l, e, R, s, m, args, below, meth, cd, D, Q⟩ := X
  obtain ⟨hx, hb, hml, hown, hts, hK, hext, -⟩ := C
  intro H locs hR hS lsA hl
  exact lv_sipush hx hb d hv (kk H locs hR hS lsA hl)
theorem hz_lconst (C : hz_C X y) {z : Fin 2} {v : Int64} (d : decode y.2.1 pc = .ok (.lconst z, 1)) (hv : Int64.ofNat (z : Nat) = v) (kk : hz_G X T n M kc ks (pc + 1) ls (.long v :: st)) : hz_G X T n M kc ks pc ls (st) := by
  obtain ⟨p, l, e, R, s, m, args, below, meth, cd, D, Q⟩ := X
  obtain ⟨hx, hb, hml, hown, hts, hK, hext, -⟩ := C
  intro H locs hR hS lsA hl
  exact lv_lconst hx hb d hv (kk H locs hR hS lsA hl)
theorem hz_ldc (C : hz_C X y) {ix : Nat} {v : Int32} (d : decode y.2.1 pc = .ok (.ldc ix, 2)) (hw : Cond.constant y.1.cls ix v ∈ hz_tbl) (kk : hz_G X T n M kc ks (pc + 2) ls (.int v :: st)) : hz_G X T n M kc ks pc ls (st) := by
  obtain ⟨p, l, e, R, s, m, args, below, meth, cd, D, Q⟩ := X
  obtain ⟨hx, hb, hml, hown, hts, hK, hext, -⟩ := C
  intro H locs hR hS lsA hl
  exact lv_ldc hx hb hown (hts _ hw) d (kk H locs hR hS lsA hl)
theorem hz_ldcw (C : hz_C X y) {ix : Nat} {v : Int32} (d : decode y.2.1 pc = .ok (.ldc_w ix, 3)) (hw : Cond.constant y.1.cls ix v ∈ hz_tbl) (kk : hz_G X T n M kc ks (pc + 3) ls (.int v :: st)) : hz_G X T n M kc ks pc ls (st) := by
  obtain ⟨p, l, e, R, s, m, args, below, meth, cd, D, Q⟩ := X
  obtain ⟨hx, hb, hml, hown, hts, hK, hext, -⟩ := C
  intro H locs hR hS lsA hl
  exact lv_ldcw hx hb hown (hts _ hw) d (kk H locs hR hS lsA hl)
theorem hz_ldc2 (C : hz_C X y) {ix : Nat} {v : Int64} (d : decode y.2.1 pc = .ok (.ldc2_w ix, 3)) (hw : Cond.constantLong y.1.cls ix v ∈ hz_tbl) (kk : hz_G X T n M kc ks (pc + 3) ls (.long v :: st)) : hz_G X T n M kc ks pc ls (st) := by
  obtain ⟨p, l, e, R, s, m, args, below, meth, cd, D, Q⟩ := X
  obtain ⟨hx, hb, hml, hown, hts, hK, hext, -⟩ := C
  intro H locs hR hS lsA hl
  exact lv_ldc2 hx hb hown (hts _ hw) d (kk H locs hR hS lsA hl)
theorem hz_iload_n (C : hz_C X y) {j : Fin 4} {x : Int32} (d : decode y.2.1 pc = .ok (.iload_n j, 1)) (h : ls[(j : Nat)]? = some (some (.int x))) (kk : hz_G X T n M kc ks (pc + 1) ls (.int x :: st)) : hz_G X T n M kc ks pc ls (st) := by
  obtain ⟨p, l, e, R, s, m, args, below, meth, cd, D, Q⟩ := X
  obtain ⟨hx, hb, hml, hown, hts, hK, hext, -⟩ := C
  intro H locs hR hS lsA hl
  exact lv_iload_n hx hb d rfl (hl.2.2 _ _ h) (kk H locs hR hS lsA hl)
theorem hz_iload (C : hz_C X y) {i : Nat} {x : Int32} (d : decode y.2.1 pc = .ok (.iload i, 2)) (h : ls[i]? = some (some (.int x))) (kk : hz_G X T n M kc ks (pc + 2) ls (.int x :: st)) : hz_G X T n M kc ks pc ls (st) := by
  obtain ⟨p, l, e, R, s, m, args, below, meth, cd, D, Q⟩ := X
  obtain ⟨hx, hb, hml, hown, hts, hK, hext, -⟩ := C
  intro H locs hR hS lsA hl
  exact lv_iload hx hb d (hl.2.2 _ _ h) (kk H locs hR hS lsA hl)
theorem hz_lload_n (C : hz_C X y) {j : Fin 4} {x : Int64} (d : decode y.2.1 pc = .ok (.lload_n j, 1)) (h : ls[(j : Nat)]? = some (some (.long x))) (kk : hz_G X T n M kc ks (pc + 1) ls (.long x :: st)) : hz_G X T n M kc ks pc ls (st) := by
  obtain ⟨p, l, e, R, s, m, args, below, meth, cd, D, Q⟩ := X
  obtain ⟨hx, hb, hml, hown, hts, hK, hext, -⟩ := C
  intro H locs hR hS lsA hl
  exact lv_lload_n hx hb d rfl (hl.2.2 _ _ h) (kk H locs hR hS lsA hl)
theorem hz_lload (C : hz_C X y) {i : Nat} {x : Int64} (d : decode y.2.1 pc = .ok (.lload i, 2)) (h : ls[i]? = some (some (.long x))) (kk : hz_G X T n M kc ks (pc + 2) ls (.long x :: st)) : hz_G X T n M kc ks pc ls (st) := by
  obtain ⟨p, l, e, R, s, m, args, below, meth, cd, D, Q⟩ := X
  obtain ⟨hx, hb, hml, hown, hts, hK, hext, -⟩ := C
  intro H locs hR hS lsA hl
  exact lv_lload hx hb d (hl.2.2 _ _ h) (kk H locs hR hS lsA hl)
theorem hz_aload_n (C : hz_C X y) {j : Fin 4} {x : Nat} (d : decode y.2.1 pc = .ok (.aload_n j, 1)) (h : ls[(j : Nat)]? = some (some (.ref x))) (kk : hz_G X T n M kc ks (pc + 1) ls (.ref x :: st)) : hz_G X T n M kc ks pc ls (st) := by
  obtain ⟨p, l, e, R, s, m, args, below, meth, cd, D, Q⟩ := X
  obtain ⟨hx, hb, hml, hown, hts, hK, hext, -⟩ := C
  intro H locs hR hS lsA hl
  exact lv_aload_n hx hb d rfl (hl.2.2 _ _ h) (kk H locs hR hS lsA hl)
theorem hz_iadd (C : hz_C X y) {x z v : Int32} (d : decode y.2.1 pc = .ok (.iadd, 1)) (hv : x + z = v) (kk : hz_G X T n M kc ks (pc + 1) ls (.int v :: st)) : hz_G X T n M kc ks pc ls (.int z :: .int x :: st) := by
  obtain ⟨p, l, e, R, s, m, args, below, meth, cd, D, Q⟩ := X
  obtain ⟨hx, hb, hml, hown, hts, hK, hext, -⟩ := C
  intro H locs hR hS lsA hl
  exact lv_iadd hx hb d (by rw [hv]; exact (kk H locs hR hS lsA hl))
theorem hz_isub (C : hz_C X y) {x z v : Int32} (d : decode y.2.1 pc = .ok (.isub, 1)) (hv : x - z = v) (kk : hz_G X T n M kc ks (pc + 1) ls (.int v :: st)) : hz_G X T n M kc ks pc ls (.int z :: .int x :: st) := by
  obtain ⟨p, l, e, R, s, m, args, below, meth, cd, D, Q⟩ := X
  obtain ⟨hx, hb, hml, hown, hts, hK, hext, -⟩ := C
  intro H locs hR hS lsA hl
  exact lv_isub hx hb d (by rw [hv]; exact (kk H locs hR hS lsA hl))
theorem hz_imul (C : hz_C X y) {x z v : Int32} (d : decode y.2.1 pc = .ok (.imul, 1)) (hv : x * z = v) (kk : hz_G X T n M kc ks (pc + 1) ls (.int v :: st)) : hz_G X T n M kc ks pc ls (.int z :: .int x :: st) := by
  obtain ⟨p, l, e, R, s, m, args, below, meth, cd, D, Q⟩ := X
  obtain ⟨hx, hb, hml, hown, hts, hK, hext, -⟩ := C
  intro H locs hR hS lsA hl
  exact lv_imul hx hb d (by rw [hv]; exact (kk H locs hR hS lsA hl))
theorem hz_iand (C : hz_C X y) {x z v : Int32} (d : decode y.2.1 pc = .ok (.iand, 1)) (hv : x &&& z = v) (kk : hz_G X T n M kc ks (pc + 1) ls (.int v :: st)) : hz_G X T n M kc ks pc ls (.int z :: .int x :: st) := by
  obtain ⟨p, l, e, R, s, m, args, below, meth, cd, D, Q⟩ := X
  obtain ⟨hx, hb, hml, hown, hts, hK, hext, -⟩ := C
  intro H locs hR hS lsA hl
  exact lv_iand hx hb d (by rw [hv]; exact (kk H locs hR hS lsA hl))
theorem hz_ior (C : hz_C X y) {x z v : Int32} (d : decode y.2.1 pc = .ok (.ior, 1)) (hv : x ||| z = v) (kk : hz_G X T n M kc ks (pc + 1) ls (.int v :: st)) : hz_G X T n M kc ks pc ls (.int z :: .int x :: st) := by
  obtain ⟨p, l, e, R, s, m, args, below, meth, cd, D, Q⟩ := X
  obtain ⟨hx, hb, hml, hown, hts, hK, hext, -⟩ := C
  intro H locs hR hS lsA hl
  exact lv_ior hx hb d (by rw [hv]; exact (kk H locs hR hS lsA hl))
theorem hz_ixor (C : hz_C X y) {x z v : Int32} (d : decode y.2.1 pc = .ok (.ixor, 1)) (hv : x ^^^ z = v) (kk : hz_G X T n M kc ks (pc + 1) ls (.int v :: st)) : hz_G X T n M kc ks pc ls (.int z :: .int x :: st) := by
  obtain ⟨p, l, e, R, s, m, args, below, meth, cd, D, Q⟩ := X
  obtain ⟨hx, hb, hml, hown, hts, hK, hext, -⟩ := C
  intro H locs hR hS lsA hl
  exact lv_ixor hx hb d (by rw [hv]; exact (kk H locs hR hS lsA hl))
theorem hz_ishl (C : hz_C X y) {x z v : Int32} (d : decode y.2.1 pc = .ok (.ishl, 1)) (hv : x <<< (z &&& 31) = v) (kk : hz_G X T n M kc ks (pc + 1) ls (.int v :: st)) : hz_G X T n M kc ks pc ls (.int z :: .int x :: st) := by
  obtain ⟨p, l, e, R, s, m, args, below, meth, cd, D, Q⟩ := X
  obtain ⟨hx, hb, hml, hown, hts, hK, hext, -⟩ := C
  intro H locs hR hS lsA hl
  exact lv_ishl hx hb d (by rw [hv]; exact (kk H locs hR hS lsA hl))
theorem hz_ishr (C : hz_C X y) {x z v : Int32} (d : decode y.2.1 pc = .ok (.ishr, 1)) (hv : x >>> (z &&& 31) = v) (kk : hz_G X T n M kc ks (pc + 1) ls (.int v :: st)) : hz_G X T n M kc ks pc ls (.int z :: .int x :: st) := by
  obtain ⟨p, l, e, R, s, m, args, below, meth, cd, D, Q⟩ := X
  obtain ⟨hx, hb, hml, hown, hts, hK, hext, -⟩ := C
  intro H locs hR hS lsA hl
  exact lv_ishr hx hb d (by rw [hv]; exact (kk H locs hR hS lsA hl))
theorem hz_iushr (C : hz_C X y) {x z v : Int32} (d : decode y.2.1 pc = .ok (.iushr, 1)) (hv : (x.toUInt32 >>> (z.toUInt32 &&& Int32.toUInt32 31)).toInt32 = v) (kk : hz_G X T n M kc ks (pc + 1) ls (.int v :: st)) : hz_G X T n M kc ks pc ls (.int z :: .int x :: st) := by
  obtain ⟨p, l, e, R, s, m, args, below, meth, cd, D, Q⟩ := X
  obtain ⟨hx, hb, hml, hown, hts, hK, hext, -⟩ := C
  intro H locs hR hS lsA hl
  exact lv_iushr hx hb d hv (kk H locs hR hS lsA hl)
theorem hz_ladd (C : hz_C X y) {x z v : Int64} (d : decode y.2.1 pc = .ok (.ladd, 1)) (hv : x + z = v) (kk : hz_G X T n M kc ks (pc + 1) ls (.long v :: st)) : hz_G X T n M kc ks pc ls (.long z :: .long x :: st) := by
  obtain ⟨p, l, e, R, s, m, args, below, meth, cd, D, Q⟩ := X
  obtain ⟨hx, hb, hml, hown, hts, hK, hext, -⟩ := C
  intro H locs hR hS lsA hl
  exact lv_ladd hx hb d (by rw [hv]; exact (kk H locs hR hS lsA hl))
theorem hz_lsub (C : hz_C X y) {x z v : Int64} (d : decode y.2.1 pc = .ok (.lsub, 1)) (hv : x - z = v) (kk : hz_G X T n M kc ks (pc + 1) ls (.long v :: st)) : hz_G X T n M kc ks pc ls (.long z :: .long x :: st) := by
  obtain ⟨p, l, e, R, s, m, args, below, meth, cd, D, Q⟩ := X
  obtain ⟨hx, hb, hml, hown, hts, hK, hext, -⟩ := C
  intro H locs hR hS lsA hl
  exact lv_lsub hx hb d (by rw [hv]; exact (kk H locs hR hS lsA hl))
theorem hz_lmul (C : hz_C X y) {x z v : Int64} (d : decode y.2.1 pc = .ok (.lmul, 1)) (hv : x * z = v) (kk : hz_G X T n M kc ks (pc + 1) ls (.long v :: st)) : hz_G X T n M kc ks pc ls (.long z :: .long x :: st) := by
  obtain ⟨p, l, e, R, s, m, args, below, meth, cd, D, Q⟩ := X
  obtain ⟨hx, hb, hml, hown, hts, hK, hext, -⟩ := C
  intro H locs hR hS lsA hl
  exact lv_lmul hx hb d (by rw [hv]; exact (kk H locs hR hS lsA hl))
theorem hz_idiv (C : hz_C X y) {x z v : Int32} (d : decode y.2.1 pc = .ok (.idiv, 1)) (h0 : ¬ z = 0) (hv : x / z = v) (kk : hz_G X T n M kc ks (pc + 1) ls (.int v :: st)) : hz_G X T n M kc ks pc ls (.int z :: .int x :: st) := by
  obtain ⟨p, l, e, R, s, m, args, below, meth, cd, D, Q⟩ := X
  obtain ⟨hx, hb, hml, hown, hts, hK, hext, -⟩ := C
  intro H locs hR hS lsA hl
  exact lv_idiv hx hb d h0 (by rw [hv]; exact (kk H locs hR hS lsA hl))
theorem hz_irem (C : hz_C X y) {x z v : Int32} (d : decode y.2.1 pc = .ok (.irem, 1)) (h0 : ¬ z = 0) (hv : x - x / z * z = v) (kk : hz_G X T n M kc ks (pc + 1) ls (.int v :: st)) : hz_G X T n M kc ks pc ls (.int z :: .int x :: st) := by
  obtain ⟨p, l, e, R, s, m, args, below, meth, cd, D, Q⟩ := X
  obtain ⟨hx, hb, hml, hown, hts, hK, hext, -⟩ := C
  intro H locs hR hS lsA hl
  exact lv_irem hx hb d h0 (by rw [hv]; exact (kk H locs hR hS lsA hl))
theorem hz_ldiv (C : hz_C X y) {x z v : Int64} (d : decode y.2.1 pc = .ok (.ldiv, 1)) (h0 : ¬ z = 0) (hv : x / z = v) (kk : hz_G X T n M kc ks (pc + 1) ls (.long v :: st)) : hz_G X T n M kc ks pc ls (.long z :: .long x :: st) := by
  obtain ⟨p, l, e, R, s, m, args, below, meth, cd, D, Q⟩ := X
  obtain ⟨hx, hb, hml, hown, hts, hK, hext, -⟩ := C
  intro H locs hR hS lsA hl
  exact lv_ldiv hx hb d h0 (by rw [hv]; exact (kk H locs hR hS lsA hl))
theorem hz_lrem (C : hz_C X y) {x z v : Int64} (d : decode y.2.1 pc = .ok (.lrem, 1)) (h0 : ¬ z = 0) (hv : x - x / z * z = v) (kk : hz_G X T n M kc ks (pc + 1) ls (.long v :: st)) : hz_G X T n M kc ks pc ls (.long z :: .long x :: st) := by
  obtain ⟨p, l, e, R, s, m, args, below, meth, cd, D, Q⟩ := X
  obtain ⟨hx, hb, hml, hown, hts, hK, hext, -⟩ := C
  intro H locs hR hS lsA hl
  exact lv_lrem hx hb d h0 (by rw [hv]; exact (kk H locs hR hS lsA hl))
theorem hz_lcmp (C : hz_C X y) {x z : Int64} (d : decode y.2.1 pc = .ok (.lcmp, 1))  (kk : hz_G X T n M kc ks (pc + 1) ls (.int (lg_cmp x z) :: st)) : hz_G X T n M kc ks pc ls (.long z :: .long x :: st) := by
  obtain ⟨p, l, e, R, s, m, args, below, meth, cd, D, Q⟩ := X
  obtain ⟨hx, hb, hml, hown, hts, hK, hext, -⟩ := C
  intro H locs hR hS lsA hl
  exact W.lcmp hx hb d (kk H locs hR hS lsA hl)
theorem hz_i2l (C : hz_C X y) {x : Int32} {v : Int64} (d : decode y.2.1 pc = .ok (.i2l, 1)) (hv : x.toInt64 = v) (kk : hz_G X T n M kc ks (pc + 1) ls (.long v :: st)) : hz_G X T n M kc ks pc ls (.int x :: st) := by
  obtain ⟨p, l, e, R, s, m, args, below, meth, cd, D, Q⟩ := X
  obtain ⟨hx, hb, hml, hown, hts, hK, hext, -⟩ := C
  intro H locs hR hS lsA hl
  exact lv_i2l hx hb d hv (kk H locs hR hS lsA hl)
theorem hz_l2i (C : hz_C X y) {x : Int64} {v : Int32} (d : decode y.2.1 pc = .ok (.l2i, 1)) (hv : x.toInt32 = v) (kk : hz_G X T n M kc ks (pc + 1) ls (.int v :: st)) : hz_G X T n M kc ks pc ls (.long x :: st) := by
  obtain ⟨p, l, e, R, s, m, args, below, meth, cd, D, Q⟩ := X
  obtain ⟨hx, hb, hml, hown, hts, hK, hext, -⟩ := C
  intro H locs hR hS lsA hl
  exact lv_l2i hx hb d hv (kk H locs hR hS lsA hl)
theorem hz_i2c (C : hz_C X y) {x v : Int32} (d : decode y.2.1 pc = .ok (.i2c, 1)) (hv : (x.toUInt32 % 65536).toInt32 = v) (kk : hz_G X T n M kc ks (pc + 1) ls (.int v :: st)) : hz_G X T n M kc ks pc ls (.int x :: st) := by
  obtain ⟨p, l, e, R, s, m, args, below, meth, cd, D, Q⟩ := X
  obtain ⟨hx, hb, hml, hown, hts, hK, hext, -⟩ := C
  intro H locs hR hS lsA hl
  exact lv_i2c hx hb d hv (kk H locs hR hS lsA hl)
theorem hz_dup (C : hz_C X y) {v : Value} (d : decode y.2.1 pc = .ok (.dup, 1)) (h : v.category = 1) (kk : hz_G X T n M kc ks (pc + 1) ls (v :: v :: st)) : hz_G X T n M kc ks pc ls (v :: st) := by
  obtain ⟨p, l, e, R, s, m, args, below, meth, cd, D, Q⟩ := X
  obtain ⟨hx, hb, hml, hown, hts, hK, hext, -⟩ := C
  intro H locs hR hS lsA hl
  exact lv_dup hx hb d ((hz_cat _ v).trans h) (kk H locs hR hS lsA hl)
theorem hz_pop (C : hz_C X y) {v : Value} (d : decode y.2.1 pc = .ok (.pop, 1)) (h : v.category = 1) (kk : hz_G X T n M kc ks (pc + 1) ls (st)) : hz_G X T n M kc ks pc ls (v :: st) := by
  obtain ⟨p, l, e, R, s, m, args, below, meth, cd, D, Q⟩ := X
  obtain ⟨hx, hb, hml, hown, hts, hK, hext, -⟩ := C
  intro H locs hR hS lsA hl
  exact lv_pop hx hb d ((hz_cat _ v).trans h) (kk H locs hR hS lsA hl)
theorem hz_dup2 (C : hz_C X y) {v u : Value} (d : decode y.2.1 pc = .ok (.dup2, 1)) (h : v.category = 1) (g : u.category = 1) (kk : hz_G X T n M kc ks (pc + 1) ls (v :: u :: v :: u :: st)) : hz_G X T n M kc ks pc ls (v :: u :: st) := by
  obtain ⟨p, l, e, R, s, m, args, below, meth, cd, D, Q⟩ := X
  obtain ⟨hx, hb, hml, hown, hts, hK, hext, -⟩ := C
  intro H locs hR hS lsA hl
  exact lv_dup2_11 hx hb d ((hz_cat _ v).trans h) ((hz_cat _ u).trans g) (kk H locs hR hS lsA hl)
theorem hz_dup2L (C : hz_C X y) {v : Value} (d : decode y.2.1 pc = .ok (.dup2, 1)) (h : v.category = 2) (kk : hz_G X T n M kc ks (pc + 1) ls (v :: v :: st)) : hz_G X T n M kc ks pc ls (v :: st) := by
  obtain ⟨p, l, e, R, s, m, args, below, meth, cd, D, Q⟩ := X
  obtain ⟨hx, hb, hml, hown, hts, hK, hext, -⟩ := C
  intro H locs hR hS lsA hl
  exact lv_dup2_2 hx hb d ((hz_cat _ v).trans h) (kk H locs hR hS lsA hl)
theorem hz_goto (C : hz_C X y) {off : Int} {tgt : Nat} (d : decode y.2.1 pc = .ok (.goto off, 3)) (ht : (pc : Int) + off = (tgt : Int)) (kk : hz_G X T n M kc ks tgt ls st) : hz_G X T n M kc ks pc ls st := by
  obtain ⟨p, l, e, R, s, m, args, below, meth, cd, D, Q⟩ := X
  obtain ⟨hx, hb, hml, hown, hts, hK, hext, -⟩ := C
  intro H locs hR hS lsA hl
  exact lv_goto hx hb d ht (kk H locs hR hS lsA hl)
theorem hz_if_eq (C : hz_C X y) {x : Int32} {off : Int} {tgt : Nat} (d : decode y.2.1 pc = .ok (.ifCond .eq off, 3)) (ht : (pc : Int) + off = (tgt : Int)) (kt : x = 0 → hz_G X T n M kc ks tgt ls st) (kf : ¬ (x = 0) → hz_G X T n M kc ks (pc + 3) ls st) : hz_G X T n M kc ks pc ls (.int x :: st) := by
  obtain ⟨p, l, e, R, s, m, args, below, meth, cd, D, Q⟩ := X
  obtain ⟨hx, hb, hml, hown, hts, hK, hext, -⟩ := C
  intro H locs hR hS lsA hl
  exact lv_if_eq hx hb d ht (fun h => kt h H locs hR hS lsA hl) (fun h => kf h H locs hR hS lsA hl)
theorem hz_if_lt (C : hz_C X y) {x : Int32} {off : Int} {tgt : Nat} (d : decode y.2.1 pc = .ok (.ifCond .lt off, 3)) (ht : (pc : Int) + off = (tgt : Int)) (kt : x < 0 → hz_G X T n M kc ks tgt ls st) (kf : ¬ (x < 0) → hz_G X T n M kc ks (pc + 3) ls st) : hz_G X T n M kc ks pc ls (.int x :: st) := by
  obtain ⟨p, l, e, R, s, m, args, below, meth, cd, D, Q⟩ := X
  obtain ⟨hx, hb, hml, hown, hts, hK, hext, -⟩ := C
  intro H locs hR hS lsA hl
  exact lv_if_lt hx hb d ht (fun h => kt h H locs hR hS lsA hl) (fun h => kf h H locs hR hS lsA hl)
theorem hz_if_ge (C : hz_C X y) {x : Int32} {off : Int} {tgt : Nat} (d : decode y.2.1 pc = .ok (.ifCond .ge off, 3)) (ht : (pc : Int) + off = (tgt : Int)) (kt : 0 ≤ x → hz_G X T n M kc ks tgt ls st) (kf : ¬ (0 ≤ x) → hz_G X T n M kc ks (pc + 3) ls st) : hz_G X T n M kc ks pc ls (.int x :: st) := by
  obtain ⟨p, l, e, R, s, m, args, below, meth, cd, D, Q⟩ := X
  obtain ⟨hx, hb, hml, hown, hts, hK, hext, -⟩ := C
  intro H locs hR hS lsA hl
  exact lv_if_ge hx hb d ht (fun h => kt h H locs hR hS lsA hl) (fun h => kf h H locs hR hS lsA hl)
theorem hz_if_gt (C : hz_C X y) {x : Int32} {off : Int} {tgt : Nat} (d : decode y.2.1 pc = .ok (.ifCond .gt off, 3)) (ht : (pc : Int) + off = (tgt : Int)) (kt : 0 < x → hz_G X T n M kc ks tgt ls st) (kf : ¬ (0 < x) → hz_G X T n M kc ks (pc + 3) ls st) : hz_G X T n M kc ks pc ls (.int x :: st) := by
  obtain ⟨p, l, e, R, s, m, args, below, meth, cd, D, Q⟩ := X
  obtain ⟨hx, hb, hml, hown, hts, hK, hext, -⟩ := C
  intro H locs hR hS lsA hl
  exact lv_if_gt hx hb d ht (fun h => kt h H locs hR hS lsA hl) (fun h => kf h H locs hR hS lsA hl)
theorem hz_if_le (C : hz_C X y) {x : Int32} {off : Int} {tgt : Nat} (d : decode y.2.1 pc = .ok (.ifCond .le off, 3)) (ht : (pc : Int) + off = (tgt : Int)) (kt : x ≤ 0 → hz_G X T n M kc ks tgt ls st) (kf : ¬ (x ≤ 0) → hz_G X T n M kc ks (pc + 3) ls st) : hz_G X T n M kc ks pc ls (.int x :: st) := by
  obtain ⟨p, l, e, R, s, m, args, below, meth, cd, D, Q⟩ := X
  obtain ⟨hx, hb, hml, hown, hts, hK, hext, -⟩ := C
  intro H locs hR hS lsA hl
  exact lv_if_le hx hb d ht (fun h => kt h H locs hR hS lsA hl) (fun h => kf h H locs hR hS lsA hl)
theorem hz_if_ne (C : hz_C X y) {x : Int32} {off : Int} {tgt : Nat} (d : decode y.2.1 pc = .ok (.ifCond .ne off, 3)) (ht : (pc : Int) + off = (tgt : Int)) (kt : ¬ x = 0 → hz_G X T n M kc ks tgt ls st) (kf : x = 0 → hz_G X T n M kc ks (pc + 3) ls st) : hz_G X T n M kc ks pc ls (.int x :: st) := by
  obtain ⟨p, l, e, R, s, m, args, below, meth, cd, D, Q⟩ := X
  obtain ⟨hx, hb, hml, hown, hts, hK, hext, -⟩ := C
  intro H locs hR hS lsA hl
  exact lv_if_ne hx hb d ht (fun h => kt h H locs hR hS lsA hl) (fun h => kf h H locs hR hS lsA hl)
theorem hz_ic_ne (C : hz_C X y) {x z : Int32} {off : Int} {tgt : Nat} (d : decode y.2.1 pc = .ok (.if_icmp .ne off, 3)) (ht : (pc : Int) + off = (tgt : Int)) (kt : ¬ x = z → hz_G X T n M kc ks tgt ls st) (kf : x = z → hz_G X T n M kc ks (pc + 3) ls st) : hz_G X T n M kc ks pc ls (.int z :: .int x :: st) := by
  obtain ⟨p, l, e, R, s, m, args, below, meth, cd, D, Q⟩ := X
  obtain ⟨hx, hb, hml, hown, hts, hK, hext, -⟩ := C
  intro H locs hR hS lsA hl
  exact lv_icmp_ne hx hb d ht (fun h => kt h H locs hR hS lsA hl) (fun h => kf h H locs hR hS lsA hl)
theorem hz_ic_eq (C : hz_C X y) {x z : Int32} {off : Int} {tgt : Nat} (d : decode y.2.1 pc = .ok (.if_icmp .eq off, 3)) (ht : (pc : Int) + off = (tgt : Int)) (kt : x = z → hz_G X T n M kc ks tgt ls st) (kf : ¬ (x = z) → hz_G X T n M kc ks (pc + 3) ls st) : hz_G X T n M kc ks pc ls (.int z :: .int x :: st) := by
  obtain ⟨p, l, e, R, s, m, args, below, meth, cd, D, Q⟩ := X
  obtain ⟨hx, hb, hml, hown, hts, hK, hext, -⟩ := C
  intro H locs hR hS lsA hl
  exact lv_icmp_eq hx hb d ht (fun h => kt h H locs hR hS lsA hl) (fun h => kf h H locs hR hS lsA hl)
theorem hz_ic_lt (C : hz_C X y) {x z : Int32} {off : Int} {tgt : Nat} (d : decode y.2.1 pc = .ok (.if_icmp .lt off, 3)) (ht : (pc : Int) + off = (tgt : Int)) (kt : x < z → hz_G X T n M kc ks tgt ls st) (kf : ¬ (x < z) → hz_G X T n M kc ks (pc + 3) ls st) : hz_G X T n M kc ks pc ls (.int z :: .int x :: st) := by
  obtain ⟨p, l, e, R, s, m, args, below, meth, cd, D, Q⟩ := X
  obtain ⟨hx, hb, hml, hown, hts, hK, hext, -⟩ := C
  intro H locs hR hS lsA hl
  exact lv_icmp_lt hx hb d ht (fun h => kt h H locs hR hS lsA hl) (fun h => kf h H locs hR hS lsA hl)
theorem hz_ic_ge (C : hz_C X y) {x z : Int32} {off : Int} {tgt : Nat} (d : decode y.2.1 pc = .ok (.if_icmp .ge off, 3)) (ht : (pc : Int) + off = (tgt : Int)) (kt : z ≤ x → hz_G X T n M kc ks tgt ls st) (kf : ¬ (z ≤ x) → hz_G X T n M kc ks (pc + 3) ls st) : hz_G X T n M kc ks pc ls (.int z :: .int x :: st) := by
  obtain ⟨p, l, e, R, s, m, args, below, meth, cd, D, Q⟩ := X
  obtain ⟨hx, hb, hml, hown, hts, hK, hext, -⟩ := C
  intro H locs hR hS lsA hl
  exact lv_icmp_ge hx hb d ht (fun h => kt h H locs hR hS lsA hl) (fun h => kf h H locs hR hS lsA hl)
theorem hz_ic_gt (C : hz_C X y) {x z : Int32} {off : Int} {tgt : Nat} (d : decode y.2.1 pc = .ok (.if_icmp .gt off, 3)) (ht : (pc : Int) + off = (tgt : Int)) (kt : z < x → hz_G X T n M kc ks tgt ls st) (kf : ¬ (z < x) → hz_G X T n M kc ks (pc + 3) ls st) : hz_G X T n M kc ks pc ls (.int z :: .int x :: st) := by
  obtain ⟨p, l, e, R, s, m, args, below, meth, cd, D, Q⟩ := X
  obtain ⟨hx, hb, hml, hown, hts, hK, hext, -⟩ := C
  intro H locs hR hS lsA hl
  exact lv_icmp_gt hx hb d ht (fun h => kt h H locs hR hS lsA hl) (fun h => kf h H locs hR hS lsA hl)
theorem hz_ic_le (C : hz_C X y) {x z : Int32} {off : Int} {tgt : Nat} (d : decode y.2.1 pc = .ok (.if_icmp .le off, 3)) (ht : (pc : Int) + off = (tgt : Int)) (kt : x ≤ z → hz_G X T n M kc ks tgt ls st) (kf : ¬ (x ≤ z) → hz_G X T n M kc ks (pc + 3) ls st) : hz_G X T n M kc ks pc ls (.int z :: .int x :: st) := by
  obtain ⟨p, l, e, R, s, m, args, below, meth, cd, D, Q⟩ := X
  obtain ⟨hx, hb, hml, hown, hts, hK, hext, -⟩ := C
  intro H locs hR hS lsA hl
  exact lv_icmp_le hx hb d ht (fun h => kt h H locs hR hS lsA hl) (fun h => kf h H locs hR hS lsA hl)
theorem hz_swIn (C : hz_C X y) {dflt lo hi : Int} {offs : Array Int} {len : Nat} {x : Int32} {off : Int} {tgt : Nat} (d : decode y.2.1 pc = .ok (.tableswitch dflt lo hi offs, len)) (h1 : ¬ x.toInt < lo) (h2 : ¬ hi < x.toInt) (ho : offs[(x.toInt - lo).toNat]? = some off) (ht : (pc : Int) + off = (tgt : Int)) (kk : hz_G X T n M kc ks tgt ls st) : hz_G X T n M kc ks pc ls (.int x :: st) := by
  obtain ⟨p, l, e, R, s, m, args, below, meth, cd, D, Q⟩ := X
  obtain ⟨hx, hb, hml, hown, hts, hK, hext, -⟩ := C
  intro H locs hR hS lsA hl
  exact lv_tableIn hx hb d h1 h2 ho ht (kk H locs hR hS lsA hl)
theorem hz_swOut (C : hz_C X y) {dflt lo hi : Int} {offs : Array Int} {len : Nat} {x : Int32} {tgt : Nat} (d : decode y.2.1 pc = .ok (.tableswitch dflt lo hi offs, len)) (h : x.toInt < lo ∨ hi < x.toInt) (ht : (pc : Int) + dflt = (tgt : Int)) (kk : hz_G X T n M kc ks tgt ls st) : hz_G X T n M kc ks pc ls (.int x :: st) := by
  obtain ⟨p, l, e, R, s, m, args, below, meth, cd, D, Q⟩ := X
  obtain ⟨hx, hb, hml, hown, hts, hK, hext, -⟩ := C
  intro H locs hR hS lsA hl
  exact lv_tableOut hx hb d h ht (kk H locs hR hS lsA hl)
theorem hz_istore_n (C : hz_C X y) {j : Fin 4} {x : Int32} {ls' : List (Option Value)} (d : decode y.2.1 pc = .ok (.istore_n j, 1)) (hi : (j : Nat) < ls.length) (h : hz_s1 ls (j : Nat) (.int x) = ls') (kk : hz_G X T n M kc ks (pc + 1) ls' st) : hz_G X T n M kc ks pc ls (.int x :: st) := by
  obtain ⟨p, l, e, R, s, m, args, below, meth, cd, D, Q⟩ := X
  obtain ⟨hx, hb, hml, hown, hts, hK, hext, -⟩ := C
  intro H locs hR hS lsA hl
  subst h
  exact lv_istore_n hx hb d rfl (hz_L_has hl) hi rfl (fun lsB hB => kk H locs hR hS lsB (hz_L_s1 hB hi))
theorem hz_istore (C : hz_C X y) {i : Nat} {x : Int32} {ls' : List (Option Value)} (d : decode y.2.1 pc = .ok (.istore i, 2)) (hi : i < ls.length) (h : hz_s1 ls i (.int x) = ls') (kk : hz_G X T n M kc ks (pc + 2) ls' st) : hz_G X T n M kc ks pc ls (.int x :: st) := by
  obtain ⟨p, l, e, R, s, m, args, below, meth, cd, D, Q⟩ := X
  obtain ⟨hx, hb, hml, hown, hts, hK, hext, -⟩ := C
  intro H locs hR hS lsA hl
  subst h
  exact lv_istore hx hb d (hz_L_has hl) hi rfl (fun lsB hB => kk H locs hR hS lsB (hz_L_s1 hB hi))
theorem hz_lstore_n (C : hz_C X y) {j : Fin 4} {x : Int64} {ls' : List (Option Value)} (d : decode y.2.1 pc = .ok (.lstore_n j, 1)) (hi : (j : Nat) + 1 < ls.length) (h : hz_s2 ls (j : Nat) (.long x) = ls') (kk : hz_G X T n M kc ks (pc + 1) ls' st) : hz_G X T n M kc ks pc ls (.long x :: st) := by
  obtain ⟨p, l, e, R, s, m, args, below, meth, cd, D, Q⟩ := X
  obtain ⟨hx, hb, hml, hown, hts, hK, hext, -⟩ := C
  intro H locs hR hS lsA hl
  subst h
  exact lv_lstore_n hx hb d rfl (hz_L_has hl) hi rfl (fun lsB hB => kk H locs hR hS lsB (hz_L_s2 hB (Nat.lt_of_succ_lt hi)))
theorem hz_lstore (C : hz_C X y) {i : Nat} {x : Int64} {ls' : List (Option Value)} (d : decode y.2.1 pc = .ok (.lstore i, 2)) (hi : i + 1 < ls.length) (h : hz_s2 ls i (.long x) = ls') (kk : hz_G X T n M kc ks (pc + 2) ls' st) : hz_G X T n M kc ks pc ls (.long x :: st) := by
  obtain ⟨p, l, e, R, s, m, args, below, meth, cd, D, Q⟩ := X
  obtain ⟨hx, hb, hml, hown, hts, hK, hext, -⟩ := C
  intro H locs hR hS lsA hl
  subst h
  exact lv_lstore hx hb d (hz_L_has hl) hi rfl (fun lsB hB => kk H locs hR hS lsB (hz_L_s2 hB (Nat.lt_of_succ_lt hi)))
theorem hz_astore_n (C : hz_C X y) {j : Fin 4} {x : Nat} {ls' : List (Option Value)} (d : decode y.2.1 pc = .ok (.astore_n j, 1)) (hi : (j : Nat) < ls.length) (h : hz_s1 ls (j : Nat) (.ref x) = ls') (kk : hz_G X T n M kc ks (pc + 1) ls' st) : hz_G X T n M kc ks pc ls (.ref x :: st) := by
  obtain ⟨p, l, e, R, s, m, args, below, meth, cd, D, Q⟩ := X
  obtain ⟨hx, hb, hml, hown, hts, hK, hext, -⟩ := C
  intro H locs hR hS lsA hl
  subst h
  exact lv_astore_n hx hb d rfl (hz_L_has hl) hi rfl (fun lsB hB => kk H locs hR hS lsB (hz_L_s1 hB hi))
theorem hz_iinc (C : hz_C X y) {i : Nat} {z : Int} {x v : Int32} {ls' : List (Option Value)} (d : decode y.2.1 pc = .ok (.iinc i z, 3)) (h0 : ls[i]? = some (some (.int x))) (hv : x + Int32.ofInt z = v) (h : hz_s1 ls i (.int v) = ls') (kk : hz_G X T n M kc ks (pc + 3) ls' st) : hz_G X T n M kc ks pc ls st := by
  obtain ⟨p, l, e, R, s, m, args, below, meth, cd, D, Q⟩ := X
  obtain ⟨hx, hb, hml, hown, hts, hK, hext, -⟩ := C
  intro H locs hR hS lsA hl
  subst h
  obtain ⟨q, hq⟩ := List.getElem?_of_mem (hz_al_mem (ad := D.2.2.1) h0)
  have hi : i < ls.length := (List.getElem?_eq_some_iff.mp h0).1
  exact lv_iinc hx hb d (hz_L_has hl) (k := q) hq hv hi rfl (fun lsB hB => kk H locs hR hS lsB (hz_L_s1 hB hi))
def hz_so (ty : FieldType) : Nat := match ty with
  | .long => 1
  | .object _ => 2
  | .array _ => 2
  | _ => 0
theorem hz_fv0 {ad : Nat → Nat} {M : hz_M} {ty : FieldType} {a k : Nat} (h : hz_so ty = 0) : hz_fv ad M ty a k = .int (M.1 a k) := by cases ty <;> first | rfl | (simp [hz_so] at h)
theorem hz_fv1 {ad : Nat → Nat} {M : hz_M} {ty : FieldType} {a k : Nat} (h : hz_so ty = 1) : hz_fv ad M ty a k = .long (M.2.1 a k) := by cases ty <;> first | rfl | (simp [hz_so] at h)
theorem hz_fv2 {ad : Nat → Nat} {M : hz_M} {ty : FieldType} {a k : Nat} (h : hz_so ty = 2) : hz_fv ad M ty a k = hz_rf ad (M.2.2 a k) := by cases ty <;> first | rfl | (simp [hz_so] at h)
/-- a field as the tables link it -/
def hz_F (own : String) (idx c k : Nat) : Prop := ∃ r : vw_C, vwCl[c]? = some r ∧ k < r.2.2 ∧ Cond.fieldLink own idx (r.2.1 k).1 (r.2.1 k).2.1 (r.2.1 k).2.2.1 ∈ hz_tbl
def hz_fin (c k : Nat) : Bool := match vwCl[c]? with
  | some r => (r.2.1 k).2.2.2
  | none => true
theorem hz_R.put {D : hz_D} {T : hz_T} {n : Nat} {M M' : hz_M} {H H1 : Heap} {a : Nat} {E' : va_E} (hR : hz_R D T n M H) (h0 : a ≠ 0) (he : hz_E D T M' a = E') (ho : ∀ b, b ≠ a → hz_E D T M' b = hz_E D T M b) (hP : va_P D.1 vwCl ((hz_W D T n M).set (a - 1) (D.2.2.1 a, E')) H1) (hD : va_D (hz_A D) ((hz_W D T n M).set (a - 1) (D.2.2.1 a, E'))) (hz : H1.size = H.size) : hz_R D T n M' H1 := by
  rw [hz_W_set D T M M' h0 he ho] at hP hD
  exact ⟨hP, hD, hz.trans hR.2.2⟩
theorem hz_getI (C : hz_C X y) {ix c k a N : Nat} {v : Int32} (F : hz_F y.1.cls ix c k) (d : decode y.2.1 pc = .ok (.getfield ix, 3)) (hT : T a = (c, N)) (ha : a ≠ 0 ∧ a ≤ n) (ht : hz_so (hz_ty c k) = 0) (hv : M.1 a k = v) (kk : hz_G X T n M kc ks (pc + 3) ls (.int v :: st)) : hz_G X T n M kc ks pc ls (.ref a :: st) := by
  obtain ⟨p, l, e, R, s, m, args, below, meth, cd, D, Q⟩ := X
  obtain ⟨hx, hb, hml, hown, hts, hK, hext, -⟩ := C
  intro H locs hR hS lsA hl
  obtain ⟨r, hr, hk, hw⟩ := F
  refine va_get (C := r.1) (T := r.2.1) (N := r.2.2) (v := .int v) hx hb hts (hz_lay hr) hown hK.1 hR.1 (a - 1) (hz_W_obj D M ha.1 ha.2 hT (List.getElem?_eq_some_iff.mp hr).1) hr k hk (hts _ hw) (fun _ h => h) ?_ d (kk H locs hR hS lsA hl)
  rw [hz_fs_get _ _ _ _ (by rw [hz_nf_eq hr]; exact hk), hz_fv0 ht, hv]
theorem hz_getL (C : hz_C X y) {ix c k a N : Nat} {v : Int64} (F : hz_F y.1.cls ix c k) (d : decode y.2.1 pc = .ok (.getfield ix, 3)) (hT : T a = (c, N)) (ha : a ≠ 0 ∧ a ≤ n) (ht : hz_so (hz_ty c k) = 1) (hv : M.2.1 a k = v) (kk : hz_G X T n M kc ks (pc + 3) ls (.long v :: st)) : hz_G X T n M kc ks pc ls (.ref a :: st) := by
  obtain ⟨p, l, e, R, s, m, args, below, meth, cd, D, Q⟩ := X
  obtain ⟨hx, hb, hml, hown, hts, hK, hext, -⟩ := C
  intro H locs hR hS lsA hl
  obtain ⟨r, hr, hk, hw⟩ := F
  refine va_get (C := r.1) (T := r.2.1) (N := r.2.2) (v := .long v) hx hb hts (hz_lay hr) hown hK.1 hR.1 (a - 1) (hz_W_obj D M ha.1 ha.2 hT (List.getElem?_eq_some_iff.mp hr).1) hr k hk (hts _ hw) (fun _ h => h) ?_ d (kk H locs hR hS lsA hl)
  rw [hz_fs_get _ _ _ _ (by rw [hz_nf_eq hr]; exact hk), hz_fv1 ht, hv]
theorem hz_getP (C : hz_C X y) {ix c k a N : Nat} {v : Nat} (F : hz_F y.1.cls ix c k) (d : decode y.2.1 pc = .ok (.getfield ix, 3)) (hT : T a = (c, N)) (ha : a ≠ 0 ∧ a ≤ n) (ht : hz_so (hz_ty c k) = 2) (hv : M.2.2 a k = v) (hv0 : v ≠ 0) (kk : hz_G X T n M kc ks (pc + 3) ls (.ref v :: st)) : hz_G X T n M kc ks pc ls (.ref a :: st) := by
  obtain ⟨p, l, e, R, s, m, args, below, meth, cd, D, Q⟩ := X
  obtain ⟨hx, hb, hml, hown, hts, hK, hext, -⟩ := C
  intro H locs hR hS lsA hl
  obtain ⟨r, hr, hk, hw⟩ := F
  refine va_get (C := r.1) (T := r.2.1) (N := r.2.2) (v := .ref (D.2.2.1 v)) hx hb hts (hz_lay hr) hown hK.1 hR.1 (a - 1) (hz_W_obj D M ha.1 ha.2 hT (List.getElem?_eq_some_iff.mp hr).1) hr k hk (hts _ hw) (fun _ h => h) ?_ d (kk H locs hR hS lsA hl)
  rw [hz_fs_get _ _ _ _ (by rw [hz_nf_eq hr]; exact hk), hz_fv2 ht, hv]; rw [hz_rf_ref hv0]
theorem hz_putV (C : hz_C X y) {ix c k a N : Nat} {v : Value} {M' : hz_M} (F : hz_F y.1.cls ix c k) (d : decode y.2.1 pc = .ok (.putfield ix, 3)) (hT : T a = (c, N)) (ha : a ≠ 0 ∧ a ≤ n) (hf : hz_fin c k = false) (hn : ∀ ad, narrow (hz_ty c k) (hz_tr ad v) = hz_tr ad v ∧ fits (hz_ty c k) (hz_tr ad v) = true) (hv : ∀ ad, hz_fv ad M' (hz_ty c k) a k = hz_tr ad v) (ho : ∀ ad j, j ≠ k → hz_fv ad M' (hz_ty c j) a j = hz_fv ad M (hz_ty c j) a j) (hE : ∀ D b, b ≠ a → hz_E D T M' b = hz_E D T M b) (kk : hz_G X T n M' kc ks (pc + 3) ls st) : hz_G X T n M kc ks pc ls (v :: .ref a :: st) := by
  obtain ⟨p, l, e, R, s, m, args, below, meth, cd, D, Q⟩ := X
  obtain ⟨hx, hb, hml, hown, hts, hK, hext, -⟩ := C
  intro H locs hR hS lsA hl
  obtain ⟨r, hr, hk, hw⟩ := F
  have hc : c < 12 := (List.getElem?_eq_some_iff.mp hr).1
  have hin := hz_lay hr
  have hty := hz_tyok c hc r hr
  obtain ⟨r', h1, cell, q1, q2, q3, q4⟩ := hR.1 (a - 1) _ (hz_W_obj D M ha.1 ha.2 hT hc)
  cases hr.symm.trans h1
  have hap := va_apart (own := y.1.cls) hts hin (hz_ty c) hty (hz_nmok c hc r hr) hK.1 hr
  obtain ⟨hSl, hfc, kC, hkC, hkind⟩ := hK.1.1 c _ hr
  obtain ⟨cf, kf, fi, f, hi, hsl⟩ := hSl k hk
  have hlay := hts _ (hin _ (u_in_lay hk))
  unfold u_lay at hlay
  have hst := (u_facts hfc hkC (u_lays hts hin hk) hi).1
  have hf2 : (r.2.1 k).2.2.2 = false := by simpa only [hz_fin, hr] using hf
  rw [if_neg (by rw [hf2]; decide)] at hlay
  have h6 := u_store hfc hkC hkind hlay hi (hty k hk) (hn D.2.2.1).1 (hn D.2.2.1).2
  refine W.putK hx hb (f := f) ⟨hown, hts _ hw, ⟨_, _, _, hi⟩, hst⟩ (by rw [q2]; exact h6) q1 q3 (by rw [hsl]; exact k2_hasslot (q4 k hk)) rfl rfl d fun H' e1 e2 e3 => ?_
  rw [hsl] at e1 ⊢
  refine kk H' _ ⟨?_, ?_, e2.trans hR.2.2⟩ (hS.put e2 e3 (hR.2.1.2 _ _ (hz_W_obj D M ha.1 ha.2 hT hc))) lsA hl
  · rw [← hz_W_set D T M M' ha.1 rfl (hE D)]
    refine hR.1.set hR.2.1 (hz_W_get D T M ha.1 ha.2) ?_ e3
    rw [show hz_E D T M' a = .inr (c, hz_fs D.2.2.1 M' c a) by simp [hz_E, hT, hc]]
    refine ⟨_, hr, t_OB.to (V := updV (vp_V (hz_fs D.2.2.1 M c a)) k (hz_tr D.2.2.1 v)) ⟨_, e1, q2, q3, t_set q4 hap hk _⟩ (fun j hj => ?_)⟩
    have hj2 : j < hz_nf c := by rw [hz_nf_eq hr]; exact hj
    by_cases hjk : j = k
    · subst hjk
      simp [updV, vp_V, List.getD_eq_getElem?_getD, hz_fs_get _ _ _ _ hj2, hv]
    · simp [updV, vp_V, hjk, List.getD_eq_getElem?_getD, hz_fs_get _ _ _ _ hj2, ho _ j hjk]
  · rw [← hz_W_set D T M M' ha.1 rfl (hE D)]
    exact hR.2.1.set (hz_W_get D T M ha.1 ha.2)
theorem hz_putVF (C : hz_C X y) {ix c k a N : Nat} {v : Value} {M' : hz_M} (F : hz_F y.1.cls ix c k) (d : decode y.2.1 pc = .ok (.putfield ix, 3)) (hT : T a = (c, N)) (ha : a ≠ 0 ∧ a ≤ n) (hf : hz_fin c k = true) (hini : y.1.name = "<init>") (hdc : ∀ r, vwCl[c]? = some r → (r.2.1 k).1 = y.1.cls) (hn : ∀ ad, narrow (hz_ty c k) (hz_tr ad v) = hz_tr ad v ∧ fits (hz_ty c k) (hz_tr ad v) = true) (hv : ∀ ad, hz_fv ad M' (hz_ty c k) a k = hz_tr ad v) (ho : ∀ ad j, j ≠ k → hz_fv ad M' (hz_ty c j) a j = hz_fv ad M (hz_ty c j) a j) (hE : ∀ D b, b ≠ a → hz_E D T M' b = hz_E D T M b) (kk : hz_G X T n M' kc ks (pc + 3) ls st) : hz_G X T n M kc ks pc ls (v :: .ref a :: st) := by
  obtain ⟨p, l, e, R, s, m, args, below, meth, cd, D, Q⟩ := X
  obtain ⟨hx, hb, hml, hown, hts, hK, hext, -, -, -, -, hin0, -⟩ := C
  intro H locs hR hS lsA hl
  obtain ⟨r, hr, hk, hw⟩ := F
  have hc : c < 12 := (List.getElem?_eq_some_iff.mp hr).1
  have hin := hz_lay hr
  have hty := hz_tyok c hc r hr
  obtain ⟨r', h1, cell, q1, q2, q3, q4⟩ := hR.1 (a - 1) _ (hz_W_obj D M ha.1 ha.2 hT hc)
  cases hr.symm.trans h1
  have hap := va_apart (own := y.1.cls) hts hin (hz_ty c) hty (hz_nmok c hc r hr) hK.1 hr
  obtain ⟨hSl, hfc, kC, hkC, hkind⟩ := hK.1.1 c _ hr
  obtain ⟨cf, kf, fi, f, hi, hsl⟩ := hSl k hk
  have hlay := hts _ (hin _ (u_in_lay hk))
  unfold u_lay at hlay
  have hst := (u_facts hfc hkC (u_lays hts hin hk) hi).1
  have hf2 : (r.2.1 k).2.2.2 = true := by simpa only [hz_fin, hr] using hf
  rw [if_pos hf2] at hlay
  have hcf : m.cls = cf := by
    obtain ⟨_, _, c', _, _, _, -, -, hf', -, -, -, hown2, -⟩ := Cond.laysFinal_spec hlay
    have e1 : c' = cf := by have := hi.symm.trans hf'; simp at this; exact this.1.symm
    rw [hdc r hr] at hown2
    rw [← e1]; exact Option.some.inj (hown.symm.trans hown2)
  have h6 := u_fits hfc hkC hkind (Or.inr hlay) hi (hty k hk) (hn D.2.2.1).1 (hn D.2.2.1).2
  refine W.putFinK hx hb hown (hts _ hw) hi hst hcf (hin0 hini) (by rw [q2]; exact h6) q1 q3 (by rw [hsl]; exact k2_hasslot (q4 k hk)) rfl rfl d fun H' e1 e2 e3 => ?_
  rw [hsl] at e1 ⊢
  refine kk H' _ ⟨?_, ?_, e2.trans hR.2.2⟩ (hS.put e2 e3 (hR.2.1.2 _ _ (hz_W_obj D M ha.1 ha.2 hT hc))) lsA hl
  · rw [← hz_W_set D T M M' ha.1 rfl (hE D)]
    refine hR.1.set hR.2.1 (hz_W_get D T M ha.1 ha.2) ?_ e3
    rw [show hz_E D T M' a = .inr (c, hz_fs D.2.2.1 M' c a) by simp [hz_E, hT, hc]]
    refine ⟨_, hr, t_OB.to (V := updV (vp_V (hz_fs D.2.2.1 M c a)) k (hz_tr D.2.2.1 v)) ⟨_, e1, q2, q3, t_set q4 hap hk _⟩ (fun j hj => ?_)⟩
    have hj2 : j < hz_nf c := by rw [hz_nf_eq hr]; exact hj
    by_cases hjk : j = k
    · subst hjk
      simp [updV, vp_V, List.getD_eq_getElem?_getD, hz_fs_get _ _ _ _ hj2, hv]
    · simp [updV, vp_V, hjk, List.getD_eq_getElem?_getD, hz_fs_get _ _ _ _ hj2, ho _ j hjk]
  · rw [← hz_W_set D T M M' ha.1 rfl (hE D)]
    exact hR.2.1.set (hz_W_get D T M ha.1 ha.2)
theorem hz_putI (C : hz_C X y) {ix c k a N : Nat} {v : Int32} {M' : hz_M} (F : hz_F y.1.cls ix c k) (d : decode y.2.1 pc = .ok (.putfield ix, 3)) (hT : T a = (c, N)) (ha : a ≠ 0 ∧ a ≤ n) (ht : hz_so (hz_ty c k) = 0) (hf : hz_fin c k = false) (hn : narrow (hz_ty c k) (.int v) = .int v ∧ fits (hz_ty c k) (.int v) = true) (hM : hz_uI M a k v = M') (kk : hz_G X T n M' kc ks (pc + 3) ls st) : hz_G X T n M kc ks pc ls (.int v :: .ref a :: st) := by
  subst hM
  exact hz_putV C F d hT ha hf (fun _ => hn) (fun ad => by rw [hz_fv0 ht]; exact congrArg Value.int (hz_up_self _ _ _ _)) (fun ad j hj => hz_fv_uI ad M _ a k j v hj) (fun D b hb => hz_E_uI D T M a k v b hb) kk
theorem hz_putIF (C : hz_C X y) {ix c k a N : Nat} {v : Int32} {M' : hz_M} (F : hz_F y.1.cls ix c k) (d : decode y.2.1 pc = .ok (.putfield ix, 3)) (hT : T a = (c, N)) (ha : a ≠ 0 ∧ a ≤ n) (ht : hz_so (hz_ty c k) = 0) (hf : hz_fin c k = true) (hini : y.1.name = "<init>") (hdc : ∀ r, vwCl[c]? = some r → (r.2.1 k).1 = y.1.cls) (hn : narrow (hz_ty c k) (.int v) = .int v ∧ fits (hz_ty c k) (.int v) = true) (hM : hz_uI M a k v = M') (kk : hz_G X T n M' kc ks (pc + 3) ls st) : hz_G X T n M kc ks pc ls (.int v :: .ref a :: st) := by
  subst hM
  exact hz_putVF C F d hT ha hf hini hdc (fun _ => hn) (fun ad => by rw [hz_fv0 ht]; exact congrArg Value.int (hz_up_self _ _ _ _)) (fun ad j hj => hz_fv_uI ad M _ a k j v hj) (fun D b hb => hz_E_uI D T M a k v b hb) kk
theorem hz_putL (C : hz_C X y) {ix c k a N : Nat} {v : Int64} {M' : hz_M} (F : hz_F y.1.cls ix c k) (d : decode y.2.1 pc = .ok (.putfield ix, 3)) (hT : T a = (c, N)) (ha : a ≠ 0 ∧ a ≤ n) (ht : hz_so (hz_ty c k) = 1) (hf : hz_fin c k = false) (hn : ∀ z : Int64, narrow (hz_ty c k) (.long z) = .long z ∧ fits (hz_ty c k) (.long z) = true) (hM : hz_uL M a k v = M') (kk : hz_G X T n M' kc ks (pc + 3) ls st) : hz_G X T n M kc ks pc ls (.long v :: .ref a :: st) := by
  subst hM
  exact hz_putV C F d hT ha hf (fun _ => hn v) (fun ad => by rw [hz_fv1 ht]; exact congrArg Value.long (hz_up_self _ _ _ _)) (fun ad j hj => hz_fv_uL ad M _ a k j v hj) (fun D b hb => hz_E_uL D T M a k v b hb) kk
theorem hz_putLF (C : hz_C X y) {ix c k a N : Nat} {v : Int64} {M' : hz_M} (F : hz_F y.1.cls ix c k) (d : decode y.2.1 pc = .ok (.putfield ix, 3)) (hT : T a = (c, N)) (ha : a ≠ 0 ∧ a ≤ n) (ht : hz_so (hz_ty c k) = 1) (hf : hz_fin c k = true) (hini : y.1.name = "<init>") (hdc : ∀ r, vwCl[c]? = some r → (r.2.1 k).1 = y.1.cls) (hn : ∀ z : Int64, narrow (hz_ty c k) (.long z) = .long z ∧ fits (hz_ty c k) (.long z) = true) (hM : hz_uL M a k v = M') (kk : hz_G X T n M' kc ks (pc + 3) ls st) : hz_G X T n M kc ks pc ls (.long v :: .ref a :: st) := by
  subst hM
  exact hz_putVF C F d hT ha hf hini hdc (fun _ => hn v) (fun ad => by rw [hz_fv1 ht]; exact congrArg Value.long (hz_up_self _ _ _ _)) (fun ad j hj => hz_fv_uL ad M _ a k j v hj) (fun D b hb => hz_E_uL D T M a k v b hb) kk
theorem hz_putP (C : hz_C X y) {ix c k a N : Nat} {v : Nat} {M' : hz_M} (F : hz_F y.1.cls ix c k) (d : decode y.2.1 pc = .ok (.putfield ix, 3)) (hT : T a = (c, N)) (ha : a ≠ 0 ∧ a ≤ n) (ht : hz_so (hz_ty c k) = 2) (hf : hz_fin c k = false) (hn : ∀ z : Nat, narrow (hz_ty c k) (.ref z) = .ref z ∧ fits (hz_ty c k) (.ref z) = true) (hv0 : v ≠ 0) (hM : hz_uP M a k v = M') (kk : hz_G X T n M' kc ks (pc + 3) ls st) : hz_G X T n M kc ks pc ls (.ref v :: .ref a :: st) := by
  subst hM
  exact hz_putV C F d hT ha hf (fun _ => hn _) (fun ad => by rw [hz_fv2 ht, show (hz_uP M a k v).2.2 a k = v from hz_up_self _ _ _ _, hz_rf_ref hv0]; rfl) (fun ad j hj => hz_fv_uP ad M _ a k j v hj) (fun D b hb => hz_E_uP D T M a k v b hb) kk
theorem hz_putPF (C : hz_C X y) {ix c k a N : Nat} {v : Nat} {M' : hz_M} (F : hz_F y.1.cls ix c k) (d : decode y.2.1 pc = .ok (.putfield ix, 3)) (hT : T a = (c, N)) (ha : a ≠ 0 ∧ a ≤ n) (ht : hz_so (hz_ty c k) = 2) (hf : hz_fin c k = true) (hini : y.1.name = "<init>") (hdc : ∀ r, vwCl[c]? = some r → (r.2.1 k).1 = y.1.cls) (hn : ∀ z : Nat, narrow (hz_ty c k) (.ref z) = .ref z ∧ fits (hz_ty c k) (.ref z) = true) (hv0 : v ≠ 0) (hM : hz_uP M a k v = M') (kk : hz_G X T n M' kc ks (pc + 3) ls st) : hz_G X T n M kc ks pc ls (.ref v :: .ref a :: st) := by
  subst hM
  exact hz_putVF C F d hT ha hf hini hdc (fun _ => hn _) (fun ad => by rw [hz_fv2 ht, show (hz_uP M a k v).2.2 a k = v from hz_up_self _ _ _ _, hz_rf_ref hv0]; rfl) (fun ad j hj => hz_fv_uP ad M _ a k j v hj) (fun D b hb => hz_E_uP D T M a k v b hb) kk
theorem hz_iald (C : hz_C X y) {a N j : Nat} {i v : Int32} (d : decode y.2.1 pc = .ok (.iaload, 1)) (hT : T a = (13, N)) (ha : a ≠ 0 ∧ a ≤ n) (hi : i = nI j) (hj : j < N) (hN : N < 2 ^ 31) (hv : M.1 a j = v) (kk : hz_G X T n M kc ks (pc + 1) ls (.int v :: st)) : hz_G X T n M kc ks pc ls (.int i :: .ref a :: st) := by
  obtain ⟨p, l, e, R, s, m, args, below, meth, cd, D, Q⟩ := X
  obtain ⟨hx, hb, hml, hown, hts, hK, hext, -⟩ := C
  intro H locs hR hS lsA hl
  refine va_iald hx hb hK.1 hR.1 (a - 1) 1 (hz_W_arr D M ha.1 ha.2 hT (by decide) (by decide)) rfl (by rw [hi]; exact vp_in_nI hj hN) d ?_
  rw [hi, nI_clamp (by omega), hv]
  exact kk H locs hR hS lsA hl
theorem hz_cald (C : hz_C X y) {a N j : Nat} {i v : Int32} (d : decode y.2.1 pc = .ok (.caload, 1)) (hT : T a = (12, N)) (ha : a ≠ 0 ∧ a ≤ n) (hi : i = nI j) (hj : j < N) (hN : N < 2 ^ 31) (hv : M.1 a j = v) (kk : hz_G X T n M kc ks (pc + 1) ls (.int v :: st)) : hz_G X T n M kc ks pc ls (.int i :: .ref a :: st) := by
  obtain ⟨p, l, e, R, s, m, args, below, meth, cd, D, Q⟩ := X
  obtain ⟨hx, hb, hml, hown, hts, hK, hext, -⟩ := C
  intro H locs hR hS lsA hl
  refine va_cald hx hb hK.1 hR.1 (a - 1) 0 (hz_W_arr D M ha.1 ha.2 hT (by decide) (by decide)) rfl (by rw [hi]; exact vp_in_nI hj hN) d ?_
  rw [hi, nI_clamp (by omega), hv]
  exact kk H locs hR hS lsA hl
theorem hz_zald (C : hz_C X y) {a N j : Nat} {i v : Int32} (d : decode y.2.1 pc = .ok (.baload, 1)) (hT : T a = (14, N)) (ha : a ≠ 0 ∧ a ≤ n) (hi : i = nI j) (hj : j < N) (hN : N < 2 ^ 31) (hv : M.1 a j = v) (kk : hz_G X T n M kc ks (pc + 1) ls (.int v :: st)) : hz_G X T n M kc ks pc ls (.int i :: .ref a :: st) := by
  obtain ⟨p, l, e, R, s, m, args, below, meth, cd, D, Q⟩ := X
  obtain ⟨hx, hb, hml, hown, hts, hK, hext, -⟩ := C
  intro H locs hR hS lsA hl
  refine va_zald hx hb hK.1 hR.1 (a - 1) 2 (hz_W_arr D M ha.1 ha.2 hT (by decide) (by decide)) rfl (by rw [hi]; exact vp_in_nI hj hN) d ?_
  rw [hi, nI_clamp (by omega), hv]
  exact kk H locs hR hS lsA hl
theorem hz_aald (C : hz_C X y) {a c N j v : Nat} {i : Int32} (d : decode y.2.1 pc = .ok (.aaload, 1)) (hT : T a = (c, N)) (hc : c = 15 ∨ c = 16 ∨ c = 17) (ha : a ≠ 0 ∧ a ≤ n) (hi : i = nI j) (hj : j < N) (hN : N < 2 ^ 31) (hv : M.2.2 a j = v) (hv0 : v ≠ 0) (kk : hz_G X T n M kc ks (pc + 1) ls (.ref v :: st)) : hz_G X T n M kc ks pc ls (.int i :: .ref a :: st) := by
  obtain ⟨p, l, e, R, s, m, args, below, meth, cd, D, Q⟩ := X
  obtain ⟨hx, hb, hml, hown, hts, hK, hext, -⟩ := C
  intro H locs hR hS lsA hl
  have key : ∀ (t0 : Nat) (E : String), (hz_tys D)[t0]? = some (D.2.1 c, .object E) → W p l e R s m args below meth cd H locs kc ks Q (F0 m pc lsA ((.int i :: .ref a :: st).map (hz_tr D.2.2.1))) := by
    intro t0 E ht
    refine va_aldq (C := E) hx hb hK.1 hR.1 (a - 1) t0 (hz_W_arq D M ha.1 ha.2 hT (by omega)) ht (by rw [hi]; exact vp_in_nI hj hN) d ?_
    rw [hi, nI_clamp (by omega), hv, show hz_op D.2.2.1 v = some (D.2.2.1 v) from if_neg hv0]
    exact kk H locs hR hS lsA hl
  rcases hc with rfl | rfl | rfl
  · exact key 3 _ rfl
  · exact key 4 _ rfl
  · exact key 5 _ rfl
theorem hz_alen (C : hz_C X y) {a c N : Nat} {v : Int32} (d : decode y.2.1 pc = .ok (.arraylength, 1)) (hT : T a = (c, N)) (hc : 12 ≤ c ∧ c < 15) (ha : a ≠ 0 ∧ a ≤ n) (hv : nI N = v) (kk : hz_G X T n M kc ks (pc + 1) ls (.int v :: st)) : hz_G X T n M kc ks pc ls (.ref a :: st) := by
  obtain ⟨p, l, e, R, s, m, args, below, meth, cd, D, Q⟩ := X
  obtain ⟨hx, hb, hml, hown, hts, hK, hext, -⟩ := C
  intro H locs hR hS lsA hl
  have hw := hz_W_arr D M ha.1 ha.2 hT hc.1 hc.2
  rcases (show c = 12 ∨ c = 13 ∨ c = 14 by omega) with rfl | rfl | rfl
  · exact va_alen hx hb hK.1 hR.1 (a - 1) 0 hw rfl hv d (kk H locs hR hS lsA hl)
  · exact va_alen hx hb hK.1 hR.1 (a - 1) 1 hw rfl hv d (kk H locs hR hS lsA hl)
  · exact va_alen hx hb hK.1 hR.1 (a - 1) 2 hw rfl hv d (kk H locs hR hS lsA hl)
theorem hz_iast (C : hz_C X y) {a N j : Nat} {i x v : Int32} {M' : hz_M} (d : decode y.2.1 pc = .ok (.iastore, 1)) (hT : T a = (13, N)) (ha : a ≠ 0 ∧ a ≤ n) (hi : i = nI j) (hj : j < N) (hN : N < 2 ^ 31) (hv : x = v) (hM : hz_uI M a j v = M') (kk : hz_G X T n M' kc ks (pc + 1) ls st) : hz_G X T n M kc ks pc ls (.int x :: .int i :: .ref a :: st) := by
  obtain ⟨p, l, e, R, s, m, args, below, meth, cd, D, Q⟩ := X
  obtain ⟨hx, hb, hml, hown, hts, hK, hext, -⟩ := C
  intro H locs hR hS lsA hl
  have hw := hz_W_arr D M ha.1 ha.2 hT (by decide) (by decide)
  have hcl : i.toNatClampNeg = j := by rw [hi, nI_clamp (by omega)]
  refine W.iast hx hb (hR.1 (a - 1) _ hw) ((hK.1.2 1 _ rfl).1 N (fun q => .int (M.1 a q))) (fun q => by cases q) (by show ¬ (i < 0 ∨ (arrV _ _ _).slots.size ≤ _); rw [arrV_size, hi]; exact vp_in_nI hj hN) rfl rfl d fun H1 e1 e2 e3 => ?_
  subst hM
  rw [hcl] at e1 ⊢
  refine kk H1 _ ⟨?_, ?_, e2.trans hR.2.2⟩ (hS.put e2 e3 (hR.2.1.2 _ _ hw)) lsA hl
  · rw [← hz_W_set D T M (hz_uI M a j v) ha.1 rfl (hz_E_uI D T M a j v)]
    refine hR.1.set hR.2.1 hw ?_ e3
    rw [show hz_E D T (hz_uI M a j v) a = .inl (D.2.1 13, N, .inl ((hz_uI M a j v).1 a)) by simp [hz_E, hT]]
    show H1[D.2.2.1 a]? = some (vp_cell _ _)
    rw [e1, vp_cell_i, vp_cell_i, arrV_store]
    congr 2
    funext q
    by_cases hq : q = j
    · subst hq
      simp [updV, hz_uI, hz_up, va_up, ← hv, vp_nar]
      try rfl
    · simp [updV, hz_uI, hz_up, va_up, hq]
  · rw [← hz_W_set D T M (hz_uI M a j v) ha.1 rfl (hz_E_uI D T M a j v)]
    exact hR.2.1.set hw
theorem hz_cast (C : hz_C X y) {a N j : Nat} {i x v : Int32} {M' : hz_M} (d : decode y.2.1 pc = .ok (.castore, 1)) (hT : T a = (12, N)) (ha : a ≠ 0 ∧ a ≤ n) (hi : i = nI j) (hj : j < N) (hN : N < 2 ^ 31) (hv : vp_nar .char x = v) (hM : hz_uI M a j v = M') (kk : hz_G X T n M' kc ks (pc + 1) ls st) : hz_G X T n M kc ks pc ls (.int x :: .int i :: .ref a :: st) := by
  obtain ⟨p, l, e, R, s, m, args, below, meth, cd, D, Q⟩ := X
  obtain ⟨hx, hb, hml, hown, hts, hK, hext, -⟩ := C
  intro H locs hR hS lsA hl
  have hw := hz_W_arr D M ha.1 ha.2 hT (by decide) (by decide)
  have hcl : i.toNatClampNeg = j := by rw [hi, nI_clamp (by omega)]
  refine W.cast hx hb (hR.1 (a - 1) _ hw) ((hK.1.2 0 _ rfl).1 N (fun q => .int (M.1 a q))) (fun q => by cases q) (by show ¬ (i < 0 ∨ (arrV _ _ _).slots.size ≤ _); rw [arrV_size, hi]; exact vp_in_nI hj hN) rfl rfl d fun H1 e1 e2 e3 => ?_
  subst hM
  rw [hcl] at e1 ⊢
  refine kk H1 _ ⟨?_, ?_, e2.trans hR.2.2⟩ (hS.put e2 e3 (hR.2.1.2 _ _ hw)) lsA hl
  · rw [← hz_W_set D T M (hz_uI M a j v) ha.1 rfl (hz_E_uI D T M a j v)]
    refine hR.1.set hR.2.1 hw ?_ e3
    rw [show hz_E D T (hz_uI M a j v) a = .inl (D.2.1 12, N, .inl ((hz_uI M a j v).1 a)) by simp [hz_E, hT]]
    show H1[D.2.2.1 a]? = some (vp_cell _ _)
    rw [e1, vp_cell_i, vp_cell_i, arrV_store]
    congr 2
    funext q
    by_cases hq : q = j
    · subst hq
      simp [updV, hz_uI, hz_up, va_up, ← hv, vp_nar]
      try rfl
    · simp [updV, hz_uI, hz_up, va_up, hq]
  · rw [← hz_W_set D T M (hz_uI M a j v) ha.1 rfl (hz_E_uI D T M a j v)]
    exact hR.2.1.set hw
theorem hz_zast (C : hz_C X y) {a N j : Nat} {i x v : Int32} {M' : hz_M} (d : decode y.2.1 pc = .ok (.bastore, 1)) (hT : T a = (14, N)) (ha : a ≠ 0 ∧ a ≤ n) (hi : i = nI j) (hj : j < N) (hN : N < 2 ^ 31) (hv : vp_nar .boolean x = v) (hM : hz_uI M a j v = M') (kk : hz_G X T n M' kc ks (pc + 1) ls st) : hz_G X T n M kc ks pc ls (.int x :: .int i :: .ref a :: st) := by
  obtain ⟨p, l, e, R, s, m, args, below, meth, cd, D, Q⟩ := X
  obtain ⟨hx, hb, hml, hown, hts, hK, hext, -⟩ := C
  intro H locs hR hS lsA hl
  have hw := hz_W_arr D M ha.1 ha.2 hT (by decide) (by decide)
  have hcl : i.toNatClampNeg = j := by rw [hi, nI_clamp (by omega)]
  refine W.zast hx hb (hR.1 (a - 1) _ hw) ((hK.1.2 2 _ rfl).1 N (fun q => .int (M.1 a q))) (fun q => by cases q) (by show ¬ (i < 0 ∨ (arrV _ _ _).slots.size ≤ _); rw [arrV_size, hi]; exact vp_in_nI hj hN) rfl rfl d fun H1 e1 e2 e3 => ?_
  subst hM
  rw [hcl] at e1 ⊢
  refine kk H1 _ ⟨?_, ?_, e2.trans hR.2.2⟩ (hS.put e2 e3 (hR.2.1.2 _ _ hw)) lsA hl
  · rw [← hz_W_set D T M (hz_uI M a j v) ha.1 rfl (hz_E_uI D T M a j v)]
    refine hR.1.set hR.2.1 hw ?_ e3
    rw [show hz_E D T (hz_uI M a j v) a = .inl (D.2.1 14, N, .inl ((hz_uI M a j v).1 a)) by simp [hz_E, hT]]
    show H1[D.2.2.1 a]? = some (vp_cell _ _)
    rw [e1, vp_cell_i, vp_cell_i, arrV_store]
    congr 2
    funext q
    by_cases hq : q = j
    · subst hq
      simp [updV, hz_uI, hz_up, va_up, ← hv, vp_nar]
      try rfl
    · simp [updV, hz_uI, hz_up, va_up, hq]
  · rw [← hz_W_set D T M (hz_uI M a j v) ha.1 rfl (hz_E_uI D T M a j v)]
    exact hR.2.1.set hw
end RULES
end
section
theorem hz_K.moved {D : hz_D} {s U : State} (hW : s.WarmedH U.vm) (h : hz_K D s) : hz_K D U := by
  refine ⟨va_K.moved hW.alike h.1, fun w hw => ?_⟩
  have h1 := h.2 w hw
  have h2 := (List.mem_filter.mp hw).2
  cases w <;> first | exact va_Nw.warmM hW h1 | exact va_Nw.warmF hW h1 | (simp [hz_isN] at h2)
theorem hz_K.calling {D : hz_D} {U V : State} (hv : U.vm = V.vm) (h : hz_K D U) : hz_K D V := by
  refine ⟨va_K.moved (u := U) (U := V) (by rw [hv]; exact Vm.Alike.refl _) h.1, fun w hw => ?_⟩
  have h1 := h.2 w hw
  have h2 := (List.mem_filter.mp hw).2
  cases w <;> first | exact va_Nw.same rfl hv h1 | (simp [hz_isN] at h2)
theorem hz_ext.moved {D : hz_D} {s U : State} {H : Heap} (hvm : s.vm.Alike U.vm) (h : hz_ext D s H) : hz_ext D U H := ⟨va_Z.moved hvm h.1, va_T.moved hvm h.2⟩
theorem hz_ext.kept {D : hz_D} {s : State} {H H1 : Heap} (h : hz_ext D s H) (hq : ∀ a : Nat, a < H.size → ¬ hz_A D a → H1[a]? = H[a]?) : hz_ext D s H1 := ⟨h.1.kept hq, h.2.kept hq⟩
theorem hz_blind (D : hz_D) (T : hz_T) (n : Nat) (M : hz_M) (as : List Value) : FrameBlind (hz_Pc D T n M as) := by
  intro a U g mk h
  obtain ⟨h1, h2, h3, h4⟩ := h
  exact ⟨h1, h2, hz_K.calling (U := U) (V := U.calling g mk a) rfl h3, hz_ext.moved (s := U) (U := U.calling g mk a) (Vm.Alike.refl _) h4⟩
/-- behind a call -/
theorem hz_cont {p : Program} {l : Launch} {e : Env} {R : Room} {s : State} {m : MethodId} {args : Array Value} {below : List Frame} {meth : Method} {c : Code} {H : Heap} {locs : List Loc} {kc ks mc ms pc n' : Nat} {Q : State → Prop} {D : hz_D} {T' : hz_T} {M' : hz_M} {r : Option Value} {a0 : Array Value} {lsA : Array Slot} {stA rest : List Value}
    (hr : va_Run p l e R s m args below meth c H locs kc ks mc ms (F0 m pc lsA stA) rest (hz_Qc D T' n' M' r a0) (hz_A D)) (hS : va_S (hz_A D) s.heap H locs)
    (kk : ∀ (H1 : Heap) (locs1 : List Loc), hz_R D T' n' M' H1 → va_S (hz_A D) s.heap H1 locs1 → W p l e R s m args below meth c H1 locs1 (kc + mc) (ks + ms) Q (F0 m (pc + 3) lsA ((r.map (hz_tr D.2.2.1)).toList ++ rest))) : W p l e R s m args below meth c H locs kc ks Q (F0 m pc lsA stA) := by
  intro T0 hT X
  obtain ⟨v, st₀, t, T2, L, h0, X', hL, e1, e2, ⟨hv, hRt, hz, hk⟩, st⟩ := hr T0 hT X
  cases hv
  rw [h0] at hz hk
  obtain ⟨t2, a1, b1⟩ := kk T2.heap (locs ++ L) (by rw [e1]; exact hRt) ⟨Nat.le_trans hS.1 (by rw [e1]; exact hz), fun q h1 h2 => by rw [e1, hk q (Nat.lt_of_lt_of_le h1 hS.1) h2]; exact hS.2.1 q h1 h2, fun q hq => by
      rcases List.mem_append.mp hq with h | h
      · exact hS.2.2 q h
      · exact hL q h⟩ T2 rfl X'
  exact ⟨t2, st t2 a1, b1⟩
def hz_cap (X : hz_X) (a b : Nat) : Prop := match X with
  | (_, _, _, R, _) => a ≤ R.cells ∧ b ≤ R.slots
def hz_new (X : hz_X) (n n' : Nat) : Prop := match X with
  | (_, _, _, _, _, _, _, _, _, _, D, _) => ∀ q, n < q → q ≤ n' → D.2.2.1 q + 1 = D.2.2.2 + q
theorem hz_new0 (X : hz_X) (n : Nat) : hz_new X n n := fun q h1 h2 => absurd h2 (by omega)
theorem hz_cap0 (X : hz_X) : hz_cap X (0 + 0) (0 + 0) := ⟨Nat.zero_le _, Nat.zero_le _⟩
def hz_nmh (c : String) : Bool := !(c == "java/lang/invoke/MethodHandle") && !(c == "java/lang/invoke/VarHandle")
theorem hz_nmh_spec {c : String} (h : hz_nmh c = true) : c ≠ "java/lang/invoke/MethodHandle" ∧ c ≠ "java/lang/invoke/VarHandle" := by
  simp only [hz_nmh, Bool.and_eq_true, Bool.not_eq_true', beq_eq_false_iff_ne, ne_eq] at h
  exact h
/-- what the tables say of a method that is called: its code, its class's state, how many parameters -/
def hz_FY (y0 : hz_Y) (na : Nat) : Prop := Cond.code y0.1 y0.2.1 y0.2.2.1 y0.2.2.2.1 ∈ hz_tbl ∧ Cond.initialized y0.1.cls ∈ hz_tbl ∧ hz_nmh y0.1.cls = true ∧ (parseMethodDescriptor y0.1.desc).map (fun d => d.parameters.length) = some na ∧ y0.2.2.1 ≤ 19
def hz_FV (own : String) (ix : Nat) (y0 : hz_Y) : Prop := Cond.methodLink own ix y0.1 ∈ hz_tbl ∧ Cond.instanceMethod y0.1 ∈ hz_tbl ∧ Cond.selects y0.1.cls y0.1 y0.1 ∈ hz_tbl
def hz_FS (own : String) (ix : Nat) (y0 : hz_Y) : Prop := Cond.methodLink own ix y0.1 ∈ hz_tbl ∧ Cond.static y0.1 ∈ hz_tbl
def hz_FI (own : String) (ix : Nat) (y0 : hz_Y) : Prop := Cond.methodLink own ix y0.1 ∈ hz_tbl ∧ Cond.instanceMethod y0.1 ∈ hz_tbl ∧ y0.1.name = "<init>" ∧ y0.2.2.2.1 = none
def hz_FSN (own : String) (ix : Nat) (y0 : hz_Y) (host : String) : Prop := Cond.methodLinkNest own ix y0.1 host ∈ hz_nst ∧ Cond.static y0.1 ∈ hz_tbl
def hz_FIN (own : String) (ix : Nat) (y0 : hz_Y) (host : String) : Prop := Cond.methodLinkNest own ix y0.1 host ∈ hz_nst ∧ Cond.instanceMethod y0.1 ∈ hz_tbl ∧ y0.1.name = "<init>" ∧ y0.2.2.2.1 = none
def hz_FU (own : String) (ix : Nat) (C owner : String) (x : MethodName) (y0 : hz_Y) : Prop := Cond.methodLink own ix x ∈ hz_tbl ∧ Cond.sameMethod x.cls owner x.name x.desc ∈ hz_tbl ∧ Cond.instanceMethod ⟨owner, x.name, x.desc⟩ ∈ hz_tbl ∧ Cond.selects C x y0.1 ∈ hz_tbl ∧ Cond.instanceMethod y0.1 ∈ hz_tbl ∧ (∃ b0 m0 r0, Cond.code ⟨owner, x.name, x.desc⟩ b0 m0 r0 ∈ hz_tbl) ∧ hz_nmh owner = true ∧ x.desc = y0.1.desc
def hz_FSU (own : String) (ix : Nat) (y0 : hz_Y) : Prop := Cond.methodLink own ix y0.1 ∈ hz_tbl ∧ Cond.sameMethod y0.1.cls y0.1.cls y0.1.name y0.1.desc ∈ hz_tbl ∧ Cond.superclass own y0.1.cls ∈ hz_tbl ∧ Cond.instanceMethod y0.1 ∈ hz_tbl ∧ y0.1.name ≠ "<init>"
theorem hz_sum {ad : Nat → Nat} {st : List Value} (h : (st.map Value.category).sum ≤ 8) : ((st.map (hz_tr ad)).map fun v => v.category).sum ≤ 8 := by
  rw [List.map_map, show ((fun v : Value => v.category) ∘ hz_tr ad) = Value.category from funext fun v => hz_cat ad v]
  exact h
theorem hz_goodA {a b : List Cond} (ha : ∀ w ∈ a, w ∈ hz_tbl) (hb : GoodIn hz_tbl b) : GoodIn hz_tbl (a ++ b) := fun w h => (List.mem_append.mp h).elim (fun q => hz_good w (ha w q)) (hb w)
section CALLS
variable {X : hz_X} {y y0 : hz_Y} {T T' : hz_T} {n n' : Nat} {M M' : hz_M} {kc ks pc mc ms ix na : Nat} {ls : List (Option Value)} {st stk as : List Value} {r : Option Value}
theorem hz_room {R : Room} {d d0 mL : Nat} (h1 : d ≤ R.frames) (h2 : 38 * d ≤ R.locals) (h3 : d0 + 1 ≤ d) (h4 : mL ≤ 19) : (hz_rm d0 mc ms).frames + 1 ≤ R.frames ∧ 8 + (mL + 11) + (hz_rm d0 mc ms).locals ≤ R.locals := by
  show d0 + 1 ≤ _ ∧ 8 + (mL + 11) + 38 * d0 ≤ _
  omega
theorem hz_callV (C : hz_C X y) {a c N : Nat} {rr : vw_C} (E : hz_Ev y0 T n M (.ref a :: as) mc ms r T' n' M') (hn : hz_new X n n') (Y : hz_FY y0 na) (F : hz_FV y.1.cls ix y0) (hna : as.length = na) (d : decode y.2.1 pc = .ok (.invokevirtual ix, 3)) (hT : T a = (c, N)) (hc : vwCl[c]? = some rr) (hcl : rr.1 = y0.1.cls) (ha : a ≠ 0 ∧ a ≤ n) (hst : stk = as.reverse ++ .ref a :: st) (hlen : ls.length = y.2.2.1) (hsum : (st.map Value.category).sum ≤ 8) (hd : y0.2.2.2.2 + 1 ≤ y.2.2.2.2) (hcap : hz_cap X (kc + mc) (ks + ms)) (kk : hz_G X T' n' M' (kc + mc) (ks + ms) (pc + 3) ls (r.toList ++ st)) : hz_G X T n M kc ks pc ls stk := by
  obtain ⟨p, l, e, R, s, m, args, below, meth, cd, D, Q⟩ := X
  obtain ⟨hx, hb, hml, hown, hts, hK, hext, hfr, hlo, -⟩ := C
  obtain ⟨hy1, hy2, hy3, hy4, hy5⟩ := Y
  obtain ⟨hf1, hf2, hf3⟩ := F
  intro H locs hR hS lsA hl
  subst hst
  have hw := hz_W_obj D M ha.1 ha.2 hT (List.getElem?_eq_some_iff.mp hc).1
  have hg : GoodIn hz_tbl (wsV y.1.cls ix y0.1.cls y0.1 (hz_ws y0)) := by
    unfold wsV
    refine hz_goodA (fun w h => ?_) (hz_goodY hy1)
    simp only [List.mem_cons, List.not_mem_nil, or_false] at h
    rcases h with rfl | rfl | rfl | rfl <;> assumption
  have hrun := va_runV (As := as.map (hz_tr D.2.2.1)) (rest := st.map (hz_tr D.2.2.1)) (g := F0 m pc lsA ((as.reverse ++ .ref a :: st).map (hz_tr D.2.2.1))) (b := D.2.2.1 a) ⟨hx, hb, hml, hown, hts⟩ (E l D hn) (cwV na hts hg rfl rfl rfl ⟨rfl, (hz_nmh_spec hy3).1, (hz_nmh_spec hy3).2, hy4⟩ (hz_room hfr hlo hd hy5)) ⟨hz_blind D T n M _, by rw [← hcl]; exact va_recv hK.1 hR.1 hc hw, fun U hU hW => ⟨rfl, by rw [hU]; exact hR, hz_K.moved hW hK, by rw [hU]; exact hz_ext.moved hW.alike (hext.kept hS.2.1)⟩⟩ rfl (by simpa using hna) (hl.1.trans hlen) (by simp [hz_tr]) (lv_room (hz_sum hsum)) d hcap (locs := locs) (H := H) (cells := kc) (slots := ks) (e := e) (below := below) (meth := meth)
  refine hz_cont hrun hS (fun H1 locs1 hR1 hS1 => ?_)
  have h9 := kk H1 locs1 hR1 hS1 lsA hl
  rw [List.map_append] at h9
  cases r <;> exact h9
theorem hz_callU (C : hz_C X y) {a c N : Nat} {rr : vw_C} (E : hz_Ev y0 T n M (.ref a :: as) mc ms r T' n' M') (hn : hz_new X n n') (Y : hz_FY y0 na) {owner : String} {x : MethodName} (F : hz_FU y.1.cls ix rr.1 owner x y0) (hna : as.length = na) (d : decode y.2.1 pc = .ok (.invokevirtual ix, 3)) (hT : T a = (c, N)) (hc : vwCl[c]? = some rr) (ha : a ≠ 0 ∧ a ≤ n) (hst : stk = as.reverse ++ .ref a :: st) (hlen : ls.length = y.2.2.1) (hsum : (st.map Value.category).sum ≤ 8) (hd : y0.2.2.2.2 + 1 ≤ y.2.2.2.2) (hcap : hz_cap X (kc + mc) (ks + ms)) (kk : hz_G X T' n' M' (kc + mc) (ks + ms) (pc + 3) ls (r.toList ++ st)) : hz_G X T n M kc ks pc ls stk := by
  obtain ⟨p, l, e, R, s, m, args, below, meth, cd, D, Q⟩ := X
  obtain ⟨hx, hb, hml, hown, hts, hK, hext, hfr, hlo, -⟩ := C
  obtain ⟨hy1, hy2, hy3, hy4, hy5⟩ := Y
  obtain ⟨hf1, hf2, hf3, hf4, hf5, ⟨b0, m0, r0, hf6⟩, hf7, hf8⟩ := F
  intro H locs hR hS lsA hl
  subst hst
  have hw := hz_W_obj D M ha.1 ha.2 hT (List.getElem?_eq_some_iff.mp hc).1
  have hg : GoodIn hz_tbl (va_wsO y.1.cls ix rr.1 owner x y0.1 (hz_ws y0)) := by
    unfold va_wsO
    refine hz_goodA (fun w h => ?_) (hz_goodY hy1)
    simp only [List.mem_cons, List.not_mem_nil, or_false] at h
    rcases h with rfl | rfl | rfl | rfl | rfl | rfl <;> assumption
  have hrun := va_runU (As := as.map (hz_tr D.2.2.1)) (rest := st.map (hz_tr D.2.2.1)) (g := F0 m pc lsA ((as.reverse ++ .ref a :: st).map (hz_tr D.2.2.1))) (b := D.2.2.1 a) ⟨hx, hb, hml, hown, hts⟩ (E l D hn) (va_cwO na hts hg rfl rfl rfl hf6 ⟨(hz_nmh_spec hf7).1, (hz_nmh_spec hf7).2, by rw [hf8]; exact hy4⟩ (hz_room hfr hlo hd hy5)) ⟨hz_blind D T n M _, va_recv hK.1 hR.1 hc hw, fun U hU hW => ⟨rfl, by rw [hU]; exact hR, hz_K.moved hW hK, by rw [hU]; exact hz_ext.moved hW.alike (hext.kept hS.2.1)⟩⟩ rfl (by simpa using hna) (hl.1.trans hlen) (by simp [hz_tr]) (lv_room (hz_sum hsum)) d hcap (locs := locs) (H := H) (cells := kc) (slots := ks) (e := e) (below := below) (meth := meth)
  refine hz_cont hrun hS (fun H1 locs1 hR1 hS1 => ?_)
  have h9 := kk H1 locs1 hR1 hS1 lsA hl
  rw [List.map_append] at h9
  cases r <;> exact h9
theorem hz_callSU (C : hz_C X y) {a c N : Nat} {rr : vw_C} (E : hz_Ev y0 T n M (.ref a :: as) mc ms r T' n' M') (hn : hz_new X n n') (Y : hz_FY y0 na) (F : hz_FSU y.1.cls ix y0) (hna : as.length = na) (d : decode y.2.1 pc = .ok (.invokespecial ix, 3)) (hT : T a = (c, N)) (hc : vwCl[c]? = some rr) (ha : a ≠ 0 ∧ a ≤ n) (hst : stk = as.reverse ++ .ref a :: st) (hlen : ls.length = y.2.2.1) (hsum : (st.map Value.category).sum ≤ 8) (hd : y0.2.2.2.2 + 1 ≤ y.2.2.2.2) (hcap : hz_cap X (kc + mc) (ks + ms)) (kk : hz_G X T' n' M' (kc + mc) (ks + ms) (pc + 3) ls (r.toList ++ st)) : hz_G X T n M kc ks pc ls stk := by
  obtain ⟨p, l, e, R, s, m, args, below, meth, cd, D, Q⟩ := X
  obtain ⟨hx, hb, hml, hown, hts, hK, hext, hfr, hlo, -⟩ := C
  obtain ⟨hy1, hy2, hy3, hy4, hy5⟩ := Y
  obtain ⟨hf1, hf2, hf3, hf4, hf5⟩ := F
  intro H locs hR hS lsA hl
  subst hst
  have hw := hz_W_obj D M ha.1 ha.2 hT (List.getElem?_eq_some_iff.mp hc).1
  have hg : GoodIn hz_tbl (va_wsSU y.1.cls ix y0.1 (hz_ws y0)) := by
    unfold va_wsSU
    refine hz_goodA (fun w h => ?_) (hz_goodY hy1)
    simp only [List.mem_cons, List.not_mem_nil, or_false] at h
    rcases h with rfl | rfl | rfl | rfl | rfl <;> assumption
  have hrun := va_runSU (As := as.map (hz_tr D.2.2.1)) (rest := st.map (hz_tr D.2.2.1)) (g := F0 m pc lsA ((as.reverse ++ .ref a :: st).map (hz_tr D.2.2.1))) (b := D.2.2.1 a) (hK.1.1 c rr hc).2 ⟨hx, hb, hml, hown, hts⟩ (E l D hn) (va_cwSU na hts hg rfl rfl rfl ⟨hf5, hy4⟩ (hz_room hfr hlo hd hy5)) ⟨hz_blind D T n M _, va_recv hK.1 hR.1 hc hw, fun U hU hW => ⟨rfl, by rw [hU]; exact hR, hz_K.moved hW hK, by rw [hU]; exact hz_ext.moved hW.alike (hext.kept hS.2.1)⟩⟩ rfl (by simpa using hna) (hl.1.trans hlen) (by simp [hz_tr]) (lv_room (hz_sum hsum)) d hcap (locs := locs) (H := H) (cells := kc) (slots := ks) (e := e) (below := below) (meth := meth)
  refine hz_cont hrun hS (fun H1 locs1 hR1 hS1 => ?_)
  have h9 := kk H1 locs1 hR1 hS1 lsA hl
  rw [List.map_append] at h9
  cases r <;> exact h9
theorem hz_callS (C : hz_C X y) (E : hz_Ev y0 T n M as mc ms r T' n' M') (hn : hz_new X n n') (Y : hz_FY y0 na) (F : hz_FS y.1.cls ix y0) (hna : as.length = na) (d : decode y.2.1 pc = .ok (.invokestatic ix, 3)) (hst : stk = as.reverse ++ st) (hlen : ls.length = y.2.2.1) (hsum : (st.map Value.category).sum ≤ 8) (hd : y0.2.2.2.2 + 1 ≤ y.2.2.2.2) (hcap : hz_cap X (kc + mc) (ks + ms)) (kk : hz_G X T' n' M' (kc + mc) (ks + ms) (pc + 3) ls (r.toList ++ st)) : hz_G X T n M kc ks pc ls stk := by
  obtain ⟨p, l, e, R, s, m, args, below, meth, cd, D, Q⟩ := X
  obtain ⟨hx, hb, hml, hown, hts, hK, hext, hfr, hlo, -⟩ := C
  obtain ⟨hy1, hy2, hy3, hy4, hy5⟩ := Y
  obtain ⟨hf1, hf2⟩ := F
  intro H locs hR hS lsA hl
  subst hst
  have hg : GoodIn hz_tbl (va_wsS y.1.cls ix y0.1 (hz_ws y0)) := by
    unfold va_wsS
    refine hz_goodA (fun w h => ?_) (hz_goodY hy1)
    simp only [List.mem_cons, List.not_mem_nil, or_false] at h
    rcases h with rfl | rfl | rfl <;> assumption
  have hrun := va_runS (As := as.map (hz_tr D.2.2.1)) (rest := st.map (hz_tr D.2.2.1)) (g := F0 m pc lsA ((as.reverse ++ st).map (hz_tr D.2.2.1))) ⟨hx, hb, hml, hown, hts⟩ (E l D hn) (va_cwS na hts hg rfl rfl rfl ⟨(hz_nmh_spec hy3).1, (hz_nmh_spec hy3).2, hy4⟩ (hz_room hfr hlo hd hy5)) ⟨hz_blind D T n M _, fun U hU hW => ⟨rfl, by rw [hU]; exact hR, hz_K.moved hW hK, by rw [hU]; exact hz_ext.moved hW.alike (hext.kept hS.2.1)⟩⟩ rfl (by simpa using hna) (hl.1.trans hlen) (by simp [hz_tr]) (lv_room (hz_sum hsum)) d hcap (locs := locs) (H := H) (cells := kc) (slots := ks) (e := e) (below := below) (meth := meth)
  refine hz_cont hrun hS (fun H1 locs1 hR1 hS1 => ?_)
  have h9 := kk H1 locs1 hR1 hS1 lsA hl
  rw [List.map_append] at h9
  cases r <;> exact h9
theorem hz_callSN (C : hz_C X y) (E : hz_Ev y0 T n M as mc ms r T' n' M') (hn : hz_new X n n') (Y : hz_FY y0 na) {host : String} (F : hz_FSN y.1.cls ix y0 host) (hna : as.length = na) (d : decode y.2.1 pc = .ok (.invokestatic ix, 3)) (hst : stk = as.reverse ++ st) (hlen : ls.length = y.2.2.1) (hsum : (st.map Value.category).sum ≤ 8) (hd : y0.2.2.2.2 + 1 ≤ y.2.2.2.2) (hcap : hz_cap X (kc + mc) (ks + ms)) (kk : hz_G X T' n' M' (kc + mc) (ks + ms) (pc + 3) ls (r.toList ++ st)) : hz_G X T n M kc ks pc ls stk := by
  obtain ⟨p, l, e, R, s, m, args, below, meth, cd, D, Q⟩ := X
  obtain ⟨hx, hb, hml, hown, hts, hK, hext, hfr, hlo, -⟩ := C
  obtain ⟨hy1, hy2, hy3, hy4, hy5⟩ := Y
  obtain ⟨hf1, hf2⟩ := F
  intro H locs hR hS lsA hl
  subst hst
  have hrun := va_runSN (As := as.map (hz_tr D.2.2.1)) (rest := st.map (hz_tr D.2.2.1)) (g := F0 m pc lsA ((as.reverse ++ st).map (hz_tr D.2.2.1))) ⟨hx, hb, hml, hown, hts⟩ (E l D hn) ⟨va_cnB (host := host) na hts (hz_goodY hy1) rfl rfl rfl (hK.2 _ hf1) (hts _ hy2) ⟨(hz_nmh_spec hy3).1, (hz_nmh_spec hy3).2, hy4⟩ (hz_room hfr hlo hd hy5), hts _ hf2, trivial⟩ ⟨hz_blind D T n M _, fun U hU hW => ⟨rfl, by rw [hU]; exact hR, hz_K.moved hW hK, by rw [hU]; exact hz_ext.moved hW.alike (hext.kept hS.2.1)⟩⟩ rfl (by simpa using hna) (hl.1.trans hlen) (by simp [hz_tr]) (lv_room (hz_sum hsum)) d hcap (locs := locs) (H := H) (cells := kc) (slots := ks) (e := e) (below := below) (meth := meth)
  refine hz_cont hrun hS (fun H1 locs1 hR1 hS1 => ?_)
  have h9 := kk H1 locs1 hR1 hS1 lsA hl
  rw [List.map_append] at h9
  cases r <;> exact h9
theorem hz_callI (C : hz_C X y) {a : Nat} (E : hz_Ev y0 T n M (.ref a :: as) mc ms r T' n' M') (hn : hz_new X n n') (Y : hz_FY y0 na) (F : hz_FI y.1.cls ix y0) (hna : as.length = na) (d : decode y.2.1 pc = .ok (.invokespecial ix, 3)) (hst : stk = as.reverse ++ .ref a :: st) (hlen : ls.length = y.2.2.1) (hsum : (st.map Value.category).sum ≤ 8) (hd : y0.2.2.2.2 + 1 ≤ y.2.2.2.2) (hcap : hz_cap X (kc + mc) (ks + ms)) (kk : hz_G X T' n' M' (kc + mc) (ks + ms) (pc + 3) ls (r.toList ++ st)) : hz_G X T n M kc ks pc ls stk := by
  obtain ⟨p, l, e, R, s, m, args, below, meth, cd, D, Q⟩ := X
  obtain ⟨hx, hb, hml, hown, hts, hK, hext, hfr, hlo, -⟩ := C
  obtain ⟨hy1, hy2, hy3, hy4, hy5⟩ := Y
  obtain ⟨hf1, hf2, hf3, hf4⟩ := F
  intro H locs hR hS lsA hl
  subst hst
  have hrun := va_runI (As := as.map (hz_tr D.2.2.1)) (rest := st.map (hz_tr D.2.2.1)) (g := F0 m pc lsA ((as.reverse ++ .ref a :: st).map (hz_tr D.2.2.1))) (b := D.2.2.1 a) ⟨hx, hb, hml, hown, hts⟩ (E l D hn) (cwI na hts (hz_goodY hy1) (by unfold hz_ws; rw [hf4]) rfl rfl (hts _ hy2) (hts _ hf1) (hts _ hf2) hf3 ⟨(hz_nmh_spec hy3).1, (hz_nmh_spec hy3).2, hy4⟩ (hz_room hfr hlo hd hy5)) ⟨hz_blind D T n M _, fun U hU hW => ⟨rfl, by rw [hU]; exact hR, hz_K.moved hW hK, by rw [hU]; exact hz_ext.moved hW.alike (hext.kept hS.2.1)⟩⟩ rfl (by simpa using hna) (hl.1.trans hlen) (by simp [hz_tr]) (lv_room (hz_sum hsum)) d hcap (locs := locs) (H := H) (cells := kc) (slots := ks) (e := e) (below := below) (meth := meth)
  refine hz_cont hrun hS (fun H1 locs1 hR1 hS1 => ?_)
  have h9 := kk H1 locs1 hR1 hS1 lsA hl
  rw [List.map_append] at h9
  cases r <;> exact h9
theorem hz_callIN (C : hz_C X y) {a : Nat} (E : hz_Ev y0 T n M (.ref a :: as) mc ms r T' n' M') (hn : hz_new X n n') (Y : hz_FY y0 na) {host : String} (F : hz_FIN y.1.cls ix y0 host) (hna : as.length = na) (d : decode y.2.1 pc = .ok (.invokespecial ix, 3)) (hst : stk = as.reverse ++ .ref a :: st) (hlen : ls.length = y.2.2.1) (hsum : (st.map Value.category).sum ≤ 8) (hd : y0.2.2.2.2 + 1 ≤ y.2.2.2.2) (hcap : hz_cap X (kc + mc) (ks + ms)) (kk : hz_G X T' n' M' (kc + mc) (ks + ms) (pc + 3) ls (r.toList ++ st)) : hz_G X T n M kc ks pc ls stk := by
  obtain ⟨p, l, e, R, s, m, args, below, meth, cd, D, Q⟩ := X
  obtain ⟨hx, hb, hml, hown, hts, hK, hext, hfr, hlo, -⟩ := C
  obtain ⟨hy1, hy2, hy3, hy4, hy5⟩ := Y
  obtain ⟨hf1, hf2, hf3, hf4⟩ := F
  intro H locs hR hS lsA hl
  subst hst
  have hrun := va_runIN (As := as.map (hz_tr D.2.2.1)) (rest := st.map (hz_tr D.2.2.1)) (g := F0 m pc lsA ((as.reverse ++ .ref a :: st).map (hz_tr D.2.2.1))) (b := D.2.2.1 a) ⟨hx, hb, hml, hown, hts⟩ (E l D hn) ⟨va_cnB (host := host) na hts (hz_goodY hy1) (by unfold hz_ws; rw [hf4]) rfl rfl (hK.2 _ hf1) (hts _ hy2) ⟨(hz_nmh_spec hy3).1, (hz_nmh_spec hy3).2, hy4⟩ (hz_room hfr hlo hd hy5), hf3, hts _ hf2⟩ ⟨hz_blind D T n M _, fun U hU hW => ⟨rfl, by rw [hU]; exact hR, hz_K.moved hW hK, by rw [hU]; exact hz_ext.moved hW.alike (hext.kept hS.2.1)⟩⟩ rfl (by simpa using hna) (hl.1.trans hlen) (by simp [hz_tr]) (lv_room (hz_sum hsum)) d hcap (locs := locs) (H := H) (cells := kc) (slots := ks) (e := e) (below := below) (meth := meth)
  refine hz_cont hrun hS (fun H1 locs1 hR1 hS1 => ?_)
  have h9 := kk H1 locs1 hR1 hS1 lsA hl
  rw [List.map_append] at h9
  cases r <;> exact h9
theorem hz_objInit (C : hz_C X y) {a : Nat} (F : Cond.methodLink y.1.cls ix objectInit ∈ hz_tbl ∧ Cond.instanceMethod objectInit ∈ hz_tbl ∧ Cond.code objectInit ⟨#[0xb1]⟩ 1 none ∈ hz_tbl) (d : decode y.2.1 pc = .ok (.invokespecial ix, 3)) (hlen : ls.length = y.2.2.1) (hsum : (st.map Value.category).sum ≤ 8) (hd : 1 ≤ y.2.2.2.2) (kk : hz_G X T n M kc ks (pc + 3) ls st) : hz_G X T n M kc ks pc ls (.ref a :: st) := by
  obtain ⟨p, l, e, R, s, m, args, below, meth, cd, D, Q⟩ := X
  obtain ⟨hx, hb, hml, hown, hts, hK, hext, hfr, hlo, -⟩ := C
  intro H locs hR hS lsA hl
  exact W.objInit hx hb hown (hts _ F.1) (hts _ F.2.1) (hts _ F.2.2) rfl (hl.1.trans (hlen.trans hml.symm)) rfl d (by omega) (by have h1 := hz_sum (ad := D.2.2.1) hsum; have h2 : (F0 m pc lsA ((Value.ref a :: st).map (hz_tr D.2.2.1))).monitorRoom = 0 := rfl; rw [h2]; omega) (kk H locs hR hS lsA hl)
end CALLS
section RETS
variable {X : hz_X} {y : hz_Y} {T : hz_T} {n : Nat} {M M0 : hz_M} {kc ks pc : Nat} {ls : List (Option Value)}
theorem hz_iret (C : hz_C X y) {v v0 : Int32} (Z : hz_Z X kc ks (some (.int v0)) T n M0) (hrt : y.2.2.2.1 = some .int) (d : decode y.2.1 pc = .ok (.ireturn, 1)) (hv : v = v0) (hM : M = M0) : hz_G X T n M kc ks pc ls [.int v] := by
  obtain ⟨p, l, e, R, s, m, args, below, meth, cd, D, Q⟩ := X
  obtain ⟨hx, hb, hml, hown, hts, hK, hext, hfr, hlo, hret, hlocks, -⟩ := C
  obtain ⟨rfl, -, -⟩ := Z
  subst hv
  subst hM
  intro H locs hR hS lsA hl
  exact W.iret hx hb (hret.trans hrt) (fun t ht hW => ⟨rfl, by rw [ht]; exact hR, hS.F ht⟩) hS.2.2 d hlocks
theorem hz_zret (C : hz_C X y) {v v0 : Int32} (Z : hz_Z X kc ks (some (.int v0)) T n M0) {ty : FieldType} (hrt : y.2.2.2.1 = some ty) (hn : narrow ty (.int v) = .int v) (d : decode y.2.1 pc = .ok (.ireturn, 1)) (hv : v = v0) (hM : M = M0) : hz_G X T n M kc ks pc ls [.int v] := by
  obtain ⟨p, l, e, R, s, m, args, below, meth, cd, D, Q⟩ := X
  obtain ⟨hx, hb, hml, hown, hts, hK, hext, hfr, hlo, hret, hlocks, -⟩ := C
  obtain ⟨rfl, -, -⟩ := Z
  subst hv
  subst hM
  intro H locs hR hS lsA hl
  exact W.zret hx hb (hret.trans hrt) hn (fun t ht hW => ⟨rfl, by rw [ht]; exact hR, hS.F ht⟩) hS.2.2 d hlocks
theorem hz_lret (C : hz_C X y) {v v0 : Int64} (Z : hz_Z X kc ks (some (.long v0)) T n M0) (hrt : y.2.2.2.1 = some .long) (d : decode y.2.1 pc = .ok (.lreturn, 1)) (hv : v = v0) (hM : M = M0) : hz_G X T n M kc ks pc ls [.long v] := by
  obtain ⟨p, l, e, R, s, m, args, below, meth, cd, D, Q⟩ := X
  obtain ⟨hx, hb, hml, hown, hts, hK, hext, hfr, hlo, hret, hlocks, -⟩ := C
  obtain ⟨rfl, -, -⟩ := Z
  subst hv
  subst hM
  intro H locs hR hS lsA hl
  exact W.lret hx hb (hret.trans hrt) (fun t ht hW => ⟨rfl, by rw [ht]; exact hR, hS.F ht⟩) hS.2.2 d hlocks
theorem hz_aret (C : hz_C X y) {v v0 : Nat} (Z : hz_Z X kc ks (some (.ref v0)) T n M0) {ty : FieldType} (hrt : y.2.2.2.1 = some ty) (ho : (∃ c, ty = .object c) ∨ ∃ t, ty = .array t) (d : decode y.2.1 pc = .ok (.areturn, 1)) (hv : v = v0) (hM : M = M0) : hz_G X T n M kc ks pc ls [.ref v] := by
  obtain ⟨p, l, e, R, s, m, args, below, meth, cd, D, Q⟩ := X
  obtain ⟨hx, hb, hml, hown, hts, hK, hext, hfr, hlo, hret, hlocks, -⟩ := C
  obtain ⟨rfl, -, -⟩ := Z
  subst hv
  subst hM
  intro H locs hR hS lsA hl
  exact W.aret hx hb (hret.trans hrt) ho (Or.inr ⟨_, rfl⟩) (fun t ht hW => ⟨rfl, by rw [ht]; exact hR, hS.F ht⟩) hS.2.2 d hlocks
theorem hz_vret (C : hz_C X y) (Z : hz_Z X kc ks none T n M0) (hrt : y.2.2.2.1 = none) (d : decode y.2.1 pc = .ok (.return_, 1)) (hM : M = M0) : hz_G X T n M kc ks pc ls [] := by
  obtain ⟨p, l, e, R, s, m, args, below, meth, cd, D, Q⟩ := X
  obtain ⟨hx, hb, hml, hown, hts, hK, hext, hfr, hlo, hret, hlocks, -⟩ := C
  obtain ⟨rfl, -, -⟩ := Z
  subst hM
  intro H locs hR hS lsA hl
  exact W.vret hx hb (hret.trans hrt) (fun t ht hW => ⟨rfl, by rw [ht]; exact hR, hS.F ht⟩) hS.2.2 d hlocks
theorem hz_widen {st : List Value} {a b : Nat} (h1 : kc ≤ a) (h2 : ks ≤ b) (kk : hz_G X T n M a b pc ls st) : hz_G X T n M kc ks pc ls st := by
  obtain ⟨p, l, e, R, s, m, args, below, meth, cd, D, Q⟩ := X
  intro H locs hR hS lsA hl
  exact W.widen h1 h2 (kk H locs hR hS lsA hl)
end RETS
/-- the locals at a method's start -/
def hz_sl (as : List Value) : List (Option Value) := as.flatMap fun v => if v.category = 2 then [some v, none] else [some v]
theorem hz_sl_args (ad : Nat → Nat) : ∀ (as : List Value) (i j : Nat) (v : Value), (hz_sl as)[j]? = some (some v) → (i + j, hz_tr ad v) ∈ lv_args i (as.map (hz_tr ad)) := by
  intro as
  induction as with
  | nil => intro i j v h; simp [hz_sl] at h
  | cons w as ih =>
    intro i j v h
    have e : hz_sl (w :: as) = (if w.category = 2 then [some w, none] else [some w]) ++ hz_sl as := rfl
    rw [e] at h
    show (i + j, hz_tr ad v) ∈ (i, hz_tr ad w) :: lv_args (if (hz_tr ad w).category = 2 then i + 2 else i + 1) (as.map (hz_tr ad))
    rw [hz_cat]
    by_cases hc : w.category = 2
    · rw [if_pos hc] at h ⊢
      match j, h with
      | 0, h => simp at h; subst h; exact List.mem_cons_self
      | 1, h => simp at h
      | j + 2, h =>
        have h2 : (hz_sl as)[j]? = some (some v) := by simpa using h
        have h3 := ih (i + 2) j v h2
        rw [show i + (j + 2) = i + 2 + j by omega]
        exact List.mem_cons_of_mem _ h3
    · rw [if_neg hc] at h ⊢
      match j, h with
      | 0, h => simp at h; subst h; exact List.mem_cons_self
      | j + 1, h =>
        have h2 : (hz_sl as)[j]? = some (some v) := by simpa using h
        have h3 := ih (i + 1) j v h2
        rw [show i + (j + 1) = i + 1 + j by omega]
        exact List.mem_cons_of_mem _ h3
theorem hz_sl_len (ad : Nat → Nat) (as : List Value) : (lg_sl (as.map (hz_tr ad))).length = (hz_sl as).length := by
  induction as with
  | nil => rfl
  | cons w as ih =>
    have e1 : hz_sl (w :: as) = (if w.category = 2 then [some w, none] else [some w]) ++ hz_sl as := rfl
    have e2 : lg_sl ((w :: as).map (hz_tr ad)) = (if (hz_tr ad w).category = 2 then [.val (hz_tr ad w), .second] else [.val (hz_tr ad w)]) ++ lg_sl (as.map (hz_tr ad)) := rfl
    rw [e1, e2, hz_cat, List.length_append, List.length_append, ih]
    by_cases hc : w.category = 2
    · rw [if_pos hc, if_pos hc]; rfl
    · rw [if_neg hc, if_neg hc]; rfl
theorem hz_entry (ad : Nat → Nat) (as : List Value) {nL : Nat} {ls : List (Option Value)} (hls : hz_sl as ++ List.replicate (nL - (hz_sl as).length) none = ls) (h : (hz_sl as).length ≤ nL) : hz_L ad ls ((lg_sl (as.map (hz_tr ad)) ++ List.replicate (nL - (lg_sl (as.map (hz_tr ad))).length) Slot.unset).toArray) := by
  have hl := lv_entry (as.map (hz_tr ad)) (n := nL) (by rw [hz_sl_len]; exact h)
  subst hls
  refine ⟨by rw [hl.1]; simp; omega, hl.2.1, fun i v hv => ?_⟩
  by_cases hi : i < (hz_sl as).length
  · rw [List.getElem?_append_left hi] at hv
    have h1 := hz_sl_args ad as 0 i v hv
    rw [Nat.zero_add] at h1
    exact hl.2.2 _ h1
  · rw [List.getElem?_append_right (by omega), List.getElem?_replicate] at hv
    split at hv <;> cases hv
theorem hz_Ev.intro {y : hz_Y} {T T' : hz_T} {n n' : Nat} {M M' : hz_M} {as : List Value} {mc ms : Nat} {r : Option Value} {ls : List (Option Value)} (hpl : plainName y.1.cls = true) (hls : hz_sl as ++ List.replicate (y.2.2.1 - (hz_sl as).length) none = ls) (hlen : (hz_sl as).length ≤ y.2.2.1)
    (body : ∀ X : hz_X, hz_C X y → hz_Z X mc ms r T' n' M' → hz_new X n n' → hz_G X T n M 0 0 0 ls []) : hz_Ev y T n M as mc ms r T' n' M' := by
  intro l D hok
  refine Met.ofW (cc := y.2.1) (maxL := y.2.2.1) (ret := y.2.2.2.1) hpl rfl ?_
  intro p e s m args below meth c s₁ B hml hv
  obtain ⟨rfl, hR, hK, hext⟩ := hv
  have hts := atoms_spec (ws := hz_ws y) B.pre
  have hb := body (p, l, e, (headSpec (hz_ws y) (hz_rm y.2.2.2.2 mc ms)).room, s, m, (as.map (hz_tr D.2.2.1)).toArray, below, meth, c, D, MQ below (hz_Qc D T' n' M' r) (as.map (hz_tr D.2.2.1)).toArray s mc ms (hz_A D))
    ⟨B.exec, B.bytes, hml, findClass_of_methodNamed B.named, fun w hw => hts w (List.mem_cons_of_mem _ hw), hK, hext, Nat.le_refl _, Nat.le_refl _, B.returns, B.notSynchronized, fun h => ((name_of_methodNamed B.named B.method).1).trans h, by rw [hR.2.2]; exact Nat.le_add_right _ _⟩ ⟨rfl, rfl, rfl⟩ hok
  rw [lg_entry_eq]
  exact hb s.heap [] hR va_S.rf _ (hz_entry D.2.2.1 as hls hlen)
theorem hz_mp {w : Cond} (i : Nat) (h : (lw_tbl[i]? == some w && goodWord w) = true) : w ∈ hz_tbl := by
  simp only [Bool.and_eq_true, beq_iff_eq] at h
  exact hz_mem (List.mem_of_getElem? h.1) h.2
theorem hz_mn {w : Cond} (i : Nat) (h : (lw_tbl[i]? == some w && hz_isN w) = true) : w ∈ hz_nst := by
  simp only [Bool.and_eq_true, beq_iff_eq] at h
  exact List.mem_filter.mpr ⟨List.mem_of_getElem? h.1, h.2⟩
end
section
abbrev mX10_init : hz_Y := (yX10_init, cX10_init, 1, none, 5)
abbrev mX10_house : hz_Y := (yX10_house, cX10_house, 2, (some .int), 1)
abbrev mX10_door : hz_Y := (yX10_door, cX10_door, 5, (some .int), 2)
abbrev mX10_alarm : hz_Y := (yX10_alarm, cX10_alarm, 4, (some .int), 2)
abbrev mX10_type : hz_Y := (yX10_type, cX10_type, 2, (some .int), 1)
abbrev mX10_clear : hz_Y := (yX10_clear, cX10_clear, 2, (some .int), 0)
abbrev mX10_read : hz_Y := (yX10_read, cX10_read, 3, (some .int), 8)
abbrev mX10_waits : hz_Y := (yX10_waits, cX10_waits, 2, (some .int), 5)
abbrev mX10_walk : hz_Y := (yX10_walk, cX10_walk, 3, (some .int), 3)
abbrev mX10_take : hz_Y := (yX10_take, cX10_take, 3, (some .int), 3)
abbrev mX10_battery : hz_Y := (yX10_battery, cX10_battery, 4, (some .int), 3)
abbrev mX10_cold : hz_Y := (yX10_cold, cX10_cold, 3, (some .int), 3)
abbrev mX10_undo : hz_Y := (yX10_undo, cX10_undo, 1, (some .int), 3)
abbrev mX10_of : hz_Y := (yX10_of, cX10_of, 3, (some .int), 3)
abbrev mX10_far : hz_Y := (yX10_far, cX10_far, 4, (some .int), 3)
abbrev mX10_beeps : hz_Y := (yX10_beeps, cX10_beeps, 3, (some .int), 4)
abbrev mX10_heard : hz_Y := (yX10_heard, cX10_heard, 3, (some .int), 5)
abbrev mX10_through : hz_Y := (yX10_through, cX10_through, 3, (some .int), 4)
abbrev mX10_next : hz_Y := (yX10_next, cX10_next, 5, (some .int), 5)
abbrev mX10_coldest : hz_Y := (yX10_coldest, cX10_coldest, 3, (some .int), 4)
abbrev mX10_sure : hz_Y := (yX10_sure, cX10_sure, 3, (some .int), 5)
abbrev mX10_way : hz_Y := (yX10_way, cX10_way, 2, (some .int), 5)
abbrev mX10_two : hz_Y := (yX10_two, cX10_two, 6, (some .int), 5)
abbrev mX10_beside : hz_Y := (yX10_beside, cX10_beside, 5, (some .int), 5)
abbrev mX10_note : hz_Y := (yX10_note, cX10_note, 3, (some .int), 2)
abbrev mX10_forget : hz_Y := (yX10_forget, cX10_forget, 2, (some .int), 0)
abbrev mX10_which : hz_Y := (yX10_which, cX10_which, 1, (some .int), 6)
abbrev mX10_stand : hz_Y := (yX10_stand, cX10_stand, 2, (some .int), 6)
abbrev mX10_is : hz_Y := (yX10_is, cX10_is, 6, (some .int), 3)
abbrev mX10_missed : hz_Y := (yX10_missed, cX10_missed, 4, (some .int), 5)
abbrev mX10_nights : hz_Y := (yX10_nights, cX10_nights, 9, (some .int), 5)
abbrev mX10_part : hz_Y := (yX10_part, cX10_part, 2, (some .long), 1)
abbrev mX10_image : hz_Y := (yX10_image, cX10_image, 2, (some .int), 3)
abbrev mX10_from : hz_Y := (yX10_from, cX10_from, 2, (some .int), 3)
abbrev mX10_status : hz_Y := (yX10_status, cX10_status, 2, (some .int), 0)
abbrev mX10_count : hz_Y := (yX10_count, cX10_count, 2, (some .int), 2)
abbrev mX10_digest : hz_Y := (yX10_digest, cX10_digest, 4, (some .long), 2)
abbrev mX10_howMany : hz_Y := (yX10_howMany, cX10_howMany, 2, (some .int), 1)
abbrev mX10_setTenths : hz_Y := (yX10_setTenths, cX10_setTenths, 3, none, 0)
abbrev mX10_refuseBad : hz_Y := (yX10_refuseBad, cX10_refuseBad, 1, (some .int), 0)
abbrev mX10_refuseNo : hz_Y := (yX10_refuseNo, cX10_refuseNo, 1, (some .int), 0)
abbrev mX10_refuseFull : hz_Y := (yX10_refuseFull, cX10_refuseFull, 1, (some .int), 0)
abbrev mX10_isAlarm : hz_Y := (yX10_isAlarm, cX10_isAlarm, 2, (some .boolean), 1)
abbrev mX10_isRoom : hz_Y := (yX10_isRoom, cX10_isRoom, 1, (some .boolean), 1)
abbrev mX10_isSecond : hz_Y := (yX10_isSecond, cX10_isSecond, 1, (some .boolean), 1)
abbrev mX10_within : hz_Y := (yX10_within, cX10_within, 3, (some .boolean), 0)
abbrev mX10_has : hz_Y := (yX10_has, cX10_has, 2, (some .boolean), 0)
abbrev mX10_mix : hz_Y := (yX10_mix, cX10_mix, 4, (some .long), 0)
abbrev mX11_init : hz_Y := (yX11_init, cX11_init, 1, none, 1)
abbrev mX11_begin : hz_Y := (yX11_begin, cX11_begin, 2, none, 0)
abbrev mX11_in : hz_Y := (yX11_in, cX11_in, 3, (some .boolean), 0)
abbrev mX11_has : hz_Y := (yX11_has, cX11_has, 2, (some .boolean), 0)
abbrev mX11_bits : hz_Y := (yX11_bits, cX11_bits, 3, (some .int), 0)
abbrev mX11_bad : hz_Y := (yX11_bad, cX11_bad, 1, (some .int), 0)
abbrev mX11_no : hz_Y := (yX11_no, cX11_no, 1, (some .int), 0)
abbrev mX11_full : hz_Y := (yX11_full, cX11_full, 1, (some .int), 0)
abbrev mX11_isAlarm : hz_Y := (yX11_isAlarm, cX11_isAlarm, 2, (some .boolean), 1)
abbrev mX11_isRoom : hz_Y := (yX11_isRoom, cX11_isRoom, 1, (some .boolean), 1)
abbrev mX11_house : hz_Y := (yX11_house, cX11_house, 2, (some .int), 1)
abbrev mX11_door : hz_Y := (yX11_door, cX11_door, 5, (some .int), 2)
abbrev mX11_addAlarm : hz_Y := (yX11_addAlarm, cX11_addAlarm, 5, (some .int), 0)
abbrev mX11_alarm : hz_Y := (yX11_alarm, cX11_alarm, 4, (some .int), 2)
abbrev mX11_type : hz_Y := (yX11_type, cX11_type, 2, (some .int), 1)
abbrev mX11_clear : hz_Y := (yX11_clear, cX11_clear, 2, (some .int), 0)
abbrev mX11_kindAt : hz_Y := (yX11_kindAt, cX11_kindAt, 3, (some .int), 1)
abbrev mX11_nextToken : hz_Y := (yX11_nextToken, cX11_nextToken, 2, none, 2)
abbrev mX11_isNumber : hz_Y := (yX11_isNumber, cX11_isNumber, 3, (some .boolean), 3)
abbrev mX11_isDoor : hz_Y := (yX11_isDoor, cX11_isDoor, 3, (some .boolean), 4)
abbrev mX11_isAlarmItem : hz_Y := (yX11_isAlarmItem, cX11_isAlarmItem, 3, (some .boolean), 4)
abbrev mX11_isDown : hz_Y := (yX11_isDown, cX11_isDown, 1, (some .boolean), 4)
abbrev mX11_isCold : hz_Y := (yX11_isCold, cX11_isCold, 1, (some .boolean), 4)
abbrev mX11_isItem : hz_Y := (yX11_isItem, cX11_isItem, 2, (some .boolean), 5)
abbrev mX11_isRead : hz_Y := (yX11_isRead, cX11_isRead, 1, (some .boolean), 6)
abbrev mX11_read : hz_Y := (yX11_read, cX11_read, 1, (some .int), 7)
abbrev mX11_bring : hz_Y := (yX11_bring, cX11_bring, 6, none, 0)
abbrev mX11_keepBack : hz_Y := (yX11_keepBack, cX11_keepBack, 2, none, 1)
abbrev mX11_pass : hz_Y := (yX11_pass, cX11_pass, 3, none, 0)
abbrev mX11_waits : hz_Y := (yX11_waits, cX11_waits, 2, (some .int), 4)
abbrev mX11_walk : hz_Y := (yX11_walk, cX11_walk, 3, (some .int), 2)
abbrev mX11_take : hz_Y := (yX11_take, cX11_take, 3, (some .int), 2)
abbrev mX11_battery : hz_Y := (yX11_battery, cX11_battery, 4, (some .int), 2)
abbrev mX11_cold : hz_Y := (yX11_cold, cX11_cold, 3, (some .int), 2)
abbrev mX11_undo : hz_Y := (yX11_undo, cX11_undo, 1, (some .int), 1)
abbrev mX11_loudOf : hz_Y := (yX11_loudOf, cX11_loudOf, 1, (some .int), 0)
abbrev mX11_of : hz_Y := (yX11_of, cX11_of, 3, (some .int), 2)
abbrev mX11_farOf : hz_Y := (yX11_farOf, cX11_farOf, 3, (some .int), 0)
abbrev mX11_layFar : hz_Y := (yX11_layFar, cX11_layFar, 6, none, 1)
abbrev mX11_far : hz_Y := (yX11_far, cX11_far, 3, (some .int), 2)
abbrev mX11_beepsBy : hz_Y := (yX11_beepsBy, cX11_beepsBy, 6, (some .boolean), 0)
abbrev mX11_isSilent : hz_Y := (yX11_isSilent, cX11_isSilent, 2, (some .boolean), 1)
abbrev mX11_beepsNow : hz_Y := (yX11_beepsNow, cX11_beepsNow, 4, (some .boolean), 2)
abbrev mX11_beeps : hz_Y := (yX11_beeps, cX11_beeps, 3, (some .int), 3)
abbrev mX11_reaches : hz_Y := (yX11_reaches, cX11_reaches, 4, (some .boolean), 1)
abbrev mX11_heardBy : hz_Y := (yX11_heardBy, cX11_heardBy, 6, (some .int), 3)
abbrev mX11_heard : hz_Y := (yX11_heard, cX11_heard, 3, (some .int), 4)
abbrev mX11_throughBy : hz_Y := (yX11_throughBy, cX11_throughBy, 8, (some .int), 2)
abbrev mX11_through : hz_Y := (yX11_through, cX11_through, 3, (some .int), 3)
abbrev mX11_next : hz_Y := (yX11_next, cX11_next, 6, (some .int), 4)
abbrev mX11_beepsEver : hz_Y := (yX11_beepsEver, cX11_beepsEver, 5, (some .boolean), 1)
abbrev mX11_coldest : hz_Y := (yX11_coldest, cX11_coldest, 3, (some .int), 2)
abbrev mX11_alikeBy : hz_Y := (yX11_alikeBy, cX11_alikeBy, 6, (some .int), 3)
abbrev mX11_laySure : hz_Y := (yX11_laySure, cX11_laySure, 7, none, 4)
abbrev mX11_sure : hz_Y := (yX11_sure, cX11_sure, 3, (some .int), 5)
abbrev mX11_loudOnes : hz_Y := (yX11_loudOnes, cX11_loudOnes, 4, (some .int), 2)
abbrev mX11_wayBy : hz_Y := (yX11_wayBy, cX11_wayBy, 6, (some .int), 1)
abbrev mX11_layWay : hz_Y := (yX11_layWay, cX11_layWay, 9, (some .int), 3)
abbrev mX11_way : hz_Y := (yX11_way, cX11_way, 3, (some .int), 4)
abbrev mX11_two : hz_Y := (yX11_two, cX11_two, 6, (some .int), 3)
abbrev mX11_beside : hz_Y := (yX11_beside, cX11_beside, 6, (some .int), 2)
abbrev mX11_note : hz_Y := (yX11_note, cX11_note, 3, (some .int), 2)
abbrev mX11_forget : hz_Y := (yX11_forget, cX11_forget, 2, (some .int), 0)
abbrev mX11_whichOnes : hz_Y := (yX11_whichOnes, cX11_whichOnes, 5, (some .int), 3)
abbrev mX11_which : hz_Y := (yX11_which, cX11_which, 1, (some .int), 4)
abbrev mX11_stand : hz_Y := (yX11_stand, cX11_stand, 8, (some .int), 4)
abbrev mX11_is : hz_Y := (yX11_is, cX11_is, 6, (some .int), 2)
abbrev mX11_missed : hz_Y := (yX11_missed, cX11_missed, 12, (some .int), 4)
abbrev mX11_nights : hz_Y := (yX11_nights, cX11_nights, 11, (some .int), 4)
abbrev mX11_part : hz_Y := (yX11_part, cX11_part, 2, (some .long), 1)
abbrev mX11_image : hz_Y := (yX11_image, cX11_image, 2, (some .int), 1)
abbrev mX11_from : hz_Y := (yX11_from, cX11_from, 2, (some .int), 1)
abbrev mX11_status : hz_Y := (yX11_status, cX11_status, 2, (some .int), 1)
abbrev mX11_counted : hz_Y := (yX11_counted, cX11_counted, 2, (some .int), 1)
abbrev mX11_count : hz_Y := (yX11_count, cX11_count, 2, (some .int), 2)
abbrev mX11_digest : hz_Y := (yX11_digest, cX11_digest, 5, (some .long), 2)
abbrev mX0_init : hz_Y := (yX0_init, cX0_init, 1, none, 2)
abbrev mX0_loud : hz_Y := (yX0_loud, cX0_loud, 1, (some .int), 1)
abbrev mX0_soundsDown : hz_Y := (yX0_soundsDown, cX0_soundsDown, 1, (some .boolean), 0)
abbrev mX1_init : hz_Y := (yX1_init, cX1_init, 1, none, 3)
abbrev mX1_sounds : hz_Y := (yX1_sounds, cX1_sounds, 4, (some .boolean), 2)
abbrev mX2_init : hz_Y := (yX2_init, cX2_init, 2, none, 4)
abbrev mX2_reset : hz_Y := (yX2_reset, cX2_reset, 2, none, 0)
abbrev mX2_copyFrom : hz_Y := (yX2_copyFrom, cX2_copyFrom, 3, none, 2)
abbrev mX2_doorBetween : hz_Y := (yX2_doorBetween, cX2_doorBetween, 3, (some .int), 0)
abbrev mX2_setDoor : hz_Y := (yX2_setDoor, cX2_setDoor, 4, none, 0)
abbrev mX2_addAlarm : hz_Y := (yX2_addAlarm, cX2_addAlarm, 4, none, 0)
abbrev mX2_addNote : hz_Y := (yX2_addNote, cX2_addNote, 3, none, 0)
abbrev mX2_remember : hz_Y := (yX2_remember, cX2_remember, 3, none, 2)
abbrev mX2_goBack : hz_Y := (yX2_goBack, cX2_goBack, 1, none, 2)
abbrev mX2_pass : hz_Y := (yX2_pass, cX2_pass, 2, none, 1)
abbrev mX2_allBits : hz_Y := (yX2_allBits, cX2_allBits, 1, (some .int), 0)
abbrev mX2_kindOf : hz_Y := (yX2_kindOf, cX2_kindOf, 2, (some (.object "BeepHouse$Plain")), 0)
abbrev mX2_distanceBetween : hz_Y := (yX2_distanceBetween, cX2_distanceBetween, 3, (some .int), 2)
abbrev mX2_measure : hz_Y := (yX2_measure, cX2_measure, 6, none, 1)
abbrev mX2_mayBeep : hz_Y := (yX2_mayBeep, cX2_mayBeep, 2, (some .boolean), 1)
abbrev mX2_soundsIn : hz_Y := (yX2_soundsIn, cX2_soundsIn, 3, (some .boolean), 3)
abbrev mX2_reaches : hz_Y := (yX2_reaches, cX2_reaches, 3, (some .boolean), 3)
abbrev mX2_bitsHeard : hz_Y := (yX2_bitsHeard, cX2_bitsHeard, 5, (some .int), 4)
abbrev mX2_everHeard : hz_Y := (yX2_everHeard, cX2_everHeard, 4, (some .boolean), 4)
abbrev mX2_howManyReach : hz_Y := (yX2_howManyReach, cX2_howManyReach, 4, (some .int), 4)
abbrev mX2_entrance : hz_Y := (yX2_entrance, cX2_entrance, 6, (some .int), 3)
abbrev mX2_toldApart : hz_Y := (yX2_toldApart, cX2_toldApart, 4, (some .boolean), 4)
abbrev mX2_bitsFitting : hz_Y := (yX2_bitsFitting, cX2_bitsFitting, 3, (some .int), 5)
abbrev mX2_fitsNotes : hz_Y := (yX2_fitsNotes, cX2_fitsNotes, 3, (some .boolean), 4)
abbrev mX2_mixAll : hz_Y := (yX2_mixAll, cX2_mixAll, 7, (some .long), 1)
abbrev mX3_init : hz_Y := (yX3_init, cX3_init, 1, none, 1)
abbrev mX3_copyFrom : hz_Y := (yX3_copyFrom, cX3_copyFrom, 2, none, 1)
abbrev mX3_setDown : hz_Y := (yX3_setDown, cX3_setDown, 3, none, 0)
abbrev mX4_init : hz_Y := (yX4_init, cX4_init, 1, none, 2)
abbrev mX4_sounds : hz_Y := (yX4_sounds, cX4_sounds, 4, (some .boolean), 1)
abbrev mX5_init : hz_Y := (yX5_init, cX5_init, 1, none, 3)
abbrev mX5_sounds : hz_Y := (yX5_sounds, cX5_sounds, 4, (some .boolean), 0)
abbrev mX5_loud : hz_Y := (yX5_loud, cX5_loud, 1, (some .int), 2)
abbrev mX6_init : hz_Y := (yX6_init, cX6_init, 1, none, 1)
abbrev mX6_sounds : hz_Y := (yX6_sounds, cX6_sounds, 4, (some .boolean), 0)
abbrev mX6_loud : hz_Y := (yX6_loud, cX6_loud, 1, (some .int), 0)
abbrev mX6_soundsDown : hz_Y := (yX6_soundsDown, cX6_soundsDown, 1, (some .boolean), 0)
abbrev mX6_everSounds : hz_Y := (yX6_everSounds, cX6_everSounds, 4, (some .boolean), 3)
abbrev mX7_init : hz_Y := (yX7_init, cX7_init, 1, none, 1)
abbrev mX7_learnAlike : hz_Y := (yX7_learnAlike, cX7_learnAlike, 5, none, 4)
abbrev mX7_settleAll : hz_Y := (yX7_settleAll, cX7_settleAll, 3, none, 3)
abbrev mX7_settle : hz_Y := (yX7_settle, cX7_settle, 4, none, 2)
abbrev mX7_worstPart : hz_Y := (yX7_worstPart, cX7_worstPart, 6, (some .int), 1)
abbrev mX7_roomOfSmallestGroups : hz_Y := (yX7_roomOfSmallestGroups, cX7_roomOfSmallestGroups, 6, (some .int), 2)
abbrev mX7_greatestGroup : hz_Y := (yX7_greatestGroup, cX7_greatestGroup, 5, (some .int), 1)
abbrev mX7_findTargets : hz_Y := (yX7_findTargets, cX7_findTargets, 5, none, 4)
abbrev mX7_measureLegs : hz_Y := (yX7_measureLegs, cX7_measureLegs, 5, none, 3)
abbrev mX7_allJoined : hz_Y := (yX7_allJoined, cX7_allJoined, 2, (some .boolean), 0)
abbrev mX7_fillRest : hz_Y := (yX7_fillRest, cX7_fillRest, 3, none, 2)
abbrev mX7_leastFrom : hz_Y := (yX7_leastFrom, cX7_leastFrom, 5, (some .int), 1)
abbrev mX7_leastBy : hz_Y := (yX7_leastBy, cX7_leastBy, 4, (some .int), 0)
abbrev mX7_wholeWay : hz_Y := (yX7_wholeWay, cX7_wholeWay, 1, (some .int), 2)
abbrev mX7_targetAt : hz_Y := (yX7_targetAt, cX7_targetAt, 5, (some .int), 3)
abbrev mX7_firstOfLeast : hz_Y := (yX7_firstOfLeast, cX7_firstOfLeast, 6, (some .int), 2)
abbrev mX8_init : hz_Y := (yX8_init, cX8_init, 1, none, 1)
abbrev mX8_add : hz_Y := (yX8_add, cX8_add, 2, none, 0)
abbrev mX8_tell : hz_Y := (yX8_tell, cX8_tell, 3, (some .int), 7)
abbrev mX8_item : hz_Y := (yX8_item, cX8_item, 3, (some .boolean), 6)
abbrev mX8_houseItem : hz_Y := (yX8_houseItem, cX8_houseItem, 3, (some .boolean), 3)
abbrev mX8_doorItem : hz_Y := (yX8_doorItem, cX8_doorItem, 5, (some .boolean), 3)
abbrev mX8_alarmItem : hz_Y := (yX8_alarmItem, cX8_alarmItem, 5, (some .boolean), 3)
abbrev mX8_downItem : hz_Y := (yX8_downItem, cX8_downItem, 3, (some .boolean), 3)
abbrev mX8_number : hz_Y := (yX8_number, cX8_number, 4, (some .int), 2)
abbrev mX8_stop : hz_Y := (yX8_stop, cX8_stop, 1, (some .boolean), 2)
abbrev mX8_says : hz_Y := (yX8_says, cX8_says, 3, (some .boolean), 5)
abbrev mX8_step : hz_Y := (yX8_step, cX8_step, 1, none, 1)
abbrev mX8_behindRun : hz_Y := (yX8_behindRun, cX8_behindRun, 5, (some .int), 0)
abbrev mX8_valueOfFigures : hz_Y := (yX8_valueOfFigures, cX8_valueOfFigures, 3, (some .int), 0)
abbrev mX9_init : hz_Y := (yX9_init, cX9_init, 1, none, 2)
abbrev mX9_sounds : hz_Y := (yX9_sounds, cX9_sounds, 4, (some .boolean), 1)
abbrev mX9_loud : hz_Y := (yX9_loud, cX9_loud, 1, (some .int), 1)
abbrev mJ6_bitCount_0f7a4 : hz_Y := (yJ6_bitCount_0f7a4, cJ6_bitCount_0f7a4, 1, (some .int), 0)
abbrev mJ9_max_7cf53 : hz_Y := (yJ9_max_7cf53, cJ9_max_7cf53, 2, (some .int), 0)
abbrev mJ9_min_7cf53 : hz_Y := (yJ9_min_7cf53, cJ9_min_7cf53, 2, (some .int), 0)
abbrev mJ0_charAt_5068e : hz_Y := (yJ0_charAt_5068e, cJ0_charAt_5068e, 2, (some .char), 4)
abbrev mJ0_checkIndex_df160 : hz_Y := (yJ0_checkIndex_df160, cJ0_checkIndex_df160, 2, none, 1)
abbrev mJ0_coder_7d493 : hz_Y := (yJ0_coder_7d493, cJ0_coder_7d493, 1, (some .byte), 0)
abbrev mJ0_isLatin1_aae02 : hz_Y := (yJ0_isLatin1_aae02, cJ0_isLatin1_aae02, 1, (some .boolean), 0)
abbrev mJ0_length_8abf5 : hz_Y := (yJ0_length_8abf5, cJ0_length_8abf5, 1, (some .int), 1)
abbrev mJ1_charAt_3b067 : hz_Y := (yJ1_charAt_3b067, cJ1_charAt_3b067, 2, (some .char), 1)
abbrev mL_law : hz_Y := (yL_law, cL_law, 4, some .boolean, 10)
theorem fyX10_init : hz_FY mX10_init 0 := ⟨hz_mp 79 (by decide +kernel), hz_mp 56 (by decide +kernel), by decide +kernel, by decide +kernel, by decide⟩
theorem fyX10_house : hz_FY mX10_house 0 := ⟨hz_mp 327 (by decide +kernel), hz_mp 56 (by decide +kernel), by decide +kernel, by decide +kernel, by decide⟩
theorem fyX10_door : hz_FY mX10_door 3 := ⟨hz_mp 332 (by decide +kernel), hz_mp 56 (by decide +kernel), by decide +kernel, by decide +kernel, by decide⟩
theorem fyX10_alarm : hz_FY mX10_alarm 3 := ⟨hz_mp 350 (by decide +kernel), hz_mp 56 (by decide +kernel), by decide +kernel, by decide +kernel, by decide⟩
theorem fyX10_type : hz_FY mX10_type 1 := ⟨hz_mp 366 (by decide +kernel), hz_mp 56 (by decide +kernel), by decide +kernel, by decide +kernel, by decide⟩
theorem fyX10_clear : hz_FY mX10_clear 0 := ⟨hz_mp 374 (by decide +kernel), hz_mp 56 (by decide +kernel), by decide +kernel, by decide +kernel, by decide⟩
theorem fyX10_read : hz_FY mX10_read 0 := ⟨hz_mp 378 (by decide +kernel), hz_mp 56 (by decide +kernel), by decide +kernel, by decide +kernel, by decide⟩
theorem fyX10_waits : hz_FY mX10_waits 1 := ⟨hz_mp 490 (by decide +kernel), hz_mp 56 (by decide +kernel), by decide +kernel, by decide +kernel, by decide⟩
theorem fyX10_walk : hz_FY mX10_walk 1 := ⟨hz_mp 595 (by decide +kernel), hz_mp 56 (by decide +kernel), by decide +kernel, by decide +kernel, by decide⟩
theorem fyX10_take : hz_FY mX10_take 2 := ⟨hz_mp 604 (by decide +kernel), hz_mp 56 (by decide +kernel), by decide +kernel, by decide +kernel, by decide⟩
theorem fyX10_battery : hz_FY mX10_battery 2 := ⟨hz_mp 613 (by decide +kernel), hz_mp 56 (by decide +kernel), by decide +kernel, by decide +kernel, by decide⟩
theorem fyX10_cold : hz_FY mX10_cold 1 := ⟨hz_mp 617 (by decide +kernel), hz_mp 56 (by decide +kernel), by decide +kernel, by decide +kernel, by decide⟩
theorem fyX10_undo : hz_FY mX10_undo 0 := ⟨hz_mp 621 (by decide +kernel), hz_mp 56 (by decide +kernel), by decide +kernel, by decide +kernel, by decide⟩
theorem fyX10_of : hz_FY mX10_of 2 := ⟨hz_mp 629 (by decide +kernel), hz_mp 56 (by decide +kernel), by decide +kernel, by decide +kernel, by decide⟩
theorem fyX10_far : hz_FY mX10_far 2 := ⟨hz_mp 635 (by decide +kernel), hz_mp 56 (by decide +kernel), by decide +kernel, by decide +kernel, by decide⟩
theorem fyX10_beeps : hz_FY mX10_beeps 2 := ⟨hz_mp 639 (by decide +kernel), hz_mp 56 (by decide +kernel), by decide +kernel, by decide +kernel, by decide⟩
theorem fyX10_heard : hz_FY mX10_heard 2 := ⟨hz_mp 647 (by decide +kernel), hz_mp 56 (by decide +kernel), by decide +kernel, by decide +kernel, by decide⟩
theorem fyX10_through : hz_FY mX10_through 2 := ⟨hz_mp 651 (by decide +kernel), hz_mp 56 (by decide +kernel), by decide +kernel, by decide +kernel, by decide⟩
theorem fyX10_next : hz_FY mX10_next 2 := ⟨hz_mp 660 (by decide +kernel), hz_mp 56 (by decide +kernel), by decide +kernel, by decide +kernel, by decide⟩
theorem fyX10_coldest : hz_FY mX10_coldest 1 := ⟨hz_mp 664 (by decide +kernel), hz_mp 56 (by decide +kernel), by decide +kernel, by decide +kernel, by decide⟩
theorem fyX10_sure : hz_FY mX10_sure 2 := ⟨hz_mp 681 (by decide +kernel), hz_mp 56 (by decide +kernel), by decide +kernel, by decide +kernel, by decide⟩
theorem fyX10_way : hz_FY mX10_way 1 := ⟨hz_mp 716 (by decide +kernel), hz_mp 56 (by decide +kernel), by decide +kernel, by decide +kernel, by decide⟩
theorem fyX10_two : hz_FY mX10_two 2 := ⟨hz_mp 761 (by decide +kernel), hz_mp 56 (by decide +kernel), by decide +kernel, by decide +kernel, by decide⟩
theorem fyX10_beside : hz_FY mX10_beside 0 := ⟨hz_mp 770 (by decide +kernel), hz_mp 56 (by decide +kernel), by decide +kernel, by decide +kernel, by decide⟩
theorem fyX10_note : hz_FY mX10_note 2 := ⟨hz_mp 778 (by decide +kernel), hz_mp 56 (by decide +kernel), by decide +kernel, by decide +kernel, by decide⟩
theorem fyX10_forget : hz_FY mX10_forget 0 := ⟨hz_mp 786 (by decide +kernel), hz_mp 56 (by decide +kernel), by decide +kernel, by decide +kernel, by decide⟩
theorem fyX10_which : hz_FY mX10_which 0 := ⟨hz_mp 790 (by decide +kernel), hz_mp 56 (by decide +kernel), by decide +kernel, by decide +kernel, by decide⟩
theorem fyX10_stand : hz_FY mX10_stand 0 := ⟨hz_mp 802 (by decide +kernel), hz_mp 56 (by decide +kernel), by decide +kernel, by decide +kernel, by decide⟩
theorem fyX10_is : hz_FY mX10_is 3 := ⟨hz_mp 814 (by decide +kernel), hz_mp 56 (by decide +kernel), by decide +kernel, by decide +kernel, by decide⟩
theorem fyX10_missed : hz_FY mX10_missed 3 := ⟨hz_mp 819 (by decide +kernel), hz_mp 56 (by decide +kernel), by decide +kernel, by decide +kernel, by decide⟩
theorem fyX10_nights : hz_FY mX10_nights 2 := ⟨hz_mp 828 (by decide +kernel), hz_mp 56 (by decide +kernel), by decide +kernel, by decide +kernel, by decide⟩
theorem fyX10_part : hz_FY mX10_part 1 := ⟨hz_mp 845 (by decide +kernel), hz_mp 56 (by decide +kernel), by decide +kernel, by decide +kernel, by decide⟩
theorem fyX10_image : hz_FY mX10_image 1 := ⟨hz_mp 849 (by decide +kernel), hz_mp 56 (by decide +kernel), by decide +kernel, by decide +kernel, by decide⟩
theorem fyX10_from : hz_FY mX10_from 1 := ⟨hz_mp 858 (by decide +kernel), hz_mp 56 (by decide +kernel), by decide +kernel, by decide +kernel, by decide⟩
theorem fyX10_status : hz_FY mX10_status 1 := ⟨hz_mp 862 (by decide +kernel), hz_mp 56 (by decide +kernel), by decide +kernel, by decide +kernel, by decide⟩
theorem fyX10_count : hz_FY mX10_count 1 := ⟨hz_mp 866 (by decide +kernel), hz_mp 56 (by decide +kernel), by decide +kernel, by decide +kernel, by decide⟩
theorem fyX10_digest : hz_FY mX10_digest 0 := ⟨hz_mp 874 (by decide +kernel), hz_mp 56 (by decide +kernel), by decide +kernel, by decide +kernel, by decide⟩
theorem fyX10_howMany : hz_FY mX10_howMany 1 := ⟨hz_mp 870 (by decide +kernel), hz_mp 56 (by decide +kernel), by decide +kernel, by decide +kernel, by decide⟩
theorem fyX10_setTenths : hz_FY mX10_setTenths 1 := ⟨hz_mp 824 (by decide +kernel), hz_mp 56 (by decide +kernel), by decide +kernel, by decide +kernel, by decide⟩
theorem fyX10_refuseBad : hz_FY mX10_refuseBad 0 := ⟨hz_mp 354 (by decide +kernel), hz_mp 56 (by decide +kernel), by decide +kernel, by decide +kernel, by decide⟩
theorem fyX10_refuseNo : hz_FY mX10_refuseNo 0 := ⟨hz_mp 600 (by decide +kernel), hz_mp 56 (by decide +kernel), by decide +kernel, by decide +kernel, by decide⟩
theorem fyX10_refuseFull : hz_FY mX10_refuseFull 0 := ⟨hz_mp 358 (by decide +kernel), hz_mp 56 (by decide +kernel), by decide +kernel, by decide +kernel, by decide⟩
theorem fyX10_isAlarm : hz_FY mX10_isAlarm 1 := ⟨hz_mp 608 (by decide +kernel), hz_mp 56 (by decide +kernel), by decide +kernel, by decide +kernel, by decide⟩
theorem fyX10_isRoom : hz_FY mX10_isRoom 1 := ⟨hz_mp 335 (by decide +kernel), hz_mp 56 (by decide +kernel), by decide +kernel, by decide +kernel, by decide⟩
theorem fyX10_isSecond : hz_FY mX10_isSecond 1 := ⟨hz_mp 642 (by decide +kernel), hz_mp 56 (by decide +kernel), by decide +kernel, by decide +kernel, by decide⟩
theorem fyX10_within : hz_FY mX10_within 3 := ⟨hz_mp 338 (by decide +kernel), hz_mp 56 (by decide +kernel), by decide +kernel, by decide +kernel, by decide⟩
theorem fyX10_has : hz_FY mX10_has 2 := ⟨hz_mp 523 (by decide +kernel), hz_mp 56 (by decide +kernel), by decide +kernel, by decide +kernel, by decide⟩
theorem fyX10_mix : hz_FY mX10_mix 2 := ⟨hz_mp 878 (by decide +kernel), hz_mp 56 (by decide +kernel), by decide +kernel, by decide +kernel, by decide⟩
theorem fyX11_init : hz_FY mX11_init 0 := ⟨hz_mp 889 (by decide +kernel), hz_mp 67 (by decide +kernel), by decide +kernel, by decide +kernel, by decide⟩
theorem fyX11_begin : hz_FY mX11_begin 1 := ⟨hz_mp 893 (by decide +kernel), hz_mp 67 (by decide +kernel), by decide +kernel, by decide +kernel, by decide⟩
theorem fyX11_in : hz_FY mX11_in 3 := ⟨hz_mp 971 (by decide +kernel), hz_mp 67 (by decide +kernel), by decide +kernel, by decide +kernel, by decide⟩
theorem fyX11_has : hz_FY mX11_has 2 := ⟨hz_mp 1078 (by decide +kernel), hz_mp 67 (by decide +kernel), by decide +kernel, by decide +kernel, by decide⟩
theorem fyX11_bits : hz_FY mX11_bits 1 := ⟨hz_mp 1163 (by decide +kernel), hz_mp 67 (by decide +kernel), by decide +kernel, by decide +kernel, by decide⟩
theorem fyX11_bad : hz_FY mX11_bad 0 := ⟨hz_mp 979 (by decide +kernel), hz_mp 67 (by decide +kernel), by decide +kernel, by decide +kernel, by decide⟩
theorem fyX11_no : hz_FY mX11_no 0 := ⟨hz_mp 1096 (by decide +kernel), hz_mp 67 (by decide +kernel), by decide +kernel, by decide +kernel, by decide⟩
theorem fyX11_full : hz_FY mX11_full 0 := ⟨hz_mp 983 (by decide +kernel), hz_mp 67 (by decide +kernel), by decide +kernel, by decide +kernel, by decide⟩
theorem fyX11_isAlarm : hz_FY mX11_isAlarm 1 := ⟨hz_mp 1104 (by decide +kernel), hz_mp 67 (by decide +kernel), by decide +kernel, by decide +kernel, by decide⟩
theorem fyX11_isRoom : hz_FY mX11_isRoom 1 := ⟨hz_mp 968 (by decide +kernel), hz_mp 67 (by decide +kernel), by decide +kernel, by decide +kernel, by decide⟩
theorem fyX11_house : hz_FY mX11_house 0 := ⟨hz_mp 961 (by decide +kernel), hz_mp 67 (by decide +kernel), by decide +kernel, by decide +kernel, by decide⟩
theorem fyX11_door : hz_FY mX11_door 3 := ⟨hz_mp 965 (by decide +kernel), hz_mp 67 (by decide +kernel), by decide +kernel, by decide +kernel, by decide⟩
theorem fyX11_addAlarm : hz_FY mX11_addAlarm 4 := ⟨hz_mp 986 (by decide +kernel), hz_mp 67 (by decide +kernel), by decide +kernel, by decide +kernel, by decide⟩
theorem fyX11_alarm : hz_FY mX11_alarm 3 := ⟨hz_mp 975 (by decide +kernel), hz_mp 67 (by decide +kernel), by decide +kernel, by decide +kernel, by decide⟩
theorem fyX11_type : hz_FY mX11_type 1 := ⟨hz_mp 990 (by decide +kernel), hz_mp 67 (by decide +kernel), by decide +kernel, by decide +kernel, by decide⟩
theorem fyX11_clear : hz_FY mX11_clear 0 := ⟨hz_mp 994 (by decide +kernel), hz_mp 67 (by decide +kernel), by decide +kernel, by decide +kernel, by decide⟩
theorem fyX11_kindAt : hz_FY mX11_kindAt 1 := ⟨hz_mp 1010 (by decide +kernel), hz_mp 67 (by decide +kernel), by decide +kernel, by decide +kernel, by decide⟩
theorem fyX11_nextToken : hz_FY mX11_nextToken 0 := ⟨hz_mp 1006 (by decide +kernel), hz_mp 67 (by decide +kernel), by decide +kernel, by decide +kernel, by decide⟩
theorem fyX11_isNumber : hz_FY mX11_isNumber 2 := ⟨hz_mp 1025 (by decide +kernel), hz_mp 67 (by decide +kernel), by decide +kernel, by decide +kernel, by decide⟩
theorem fyX11_isDoor : hz_FY mX11_isDoor 0 := ⟨hz_mp 1030 (by decide +kernel), hz_mp 67 (by decide +kernel), by decide +kernel, by decide +kernel, by decide⟩
theorem fyX11_isAlarmItem : hz_FY mX11_isAlarmItem 0 := ⟨hz_mp 1035 (by decide +kernel), hz_mp 67 (by decide +kernel), by decide +kernel, by decide +kernel, by decide⟩
theorem fyX11_isDown : hz_FY mX11_isDown 0 := ⟨hz_mp 1040 (by decide +kernel), hz_mp 67 (by decide +kernel), by decide +kernel, by decide +kernel, by decide⟩
theorem fyX11_isCold : hz_FY mX11_isCold 0 := ⟨hz_mp 1021 (by decide +kernel), hz_mp 67 (by decide +kernel), by decide +kernel, by decide +kernel, by decide⟩
theorem fyX11_isItem : hz_FY mX11_isItem 0 := ⟨hz_mp 1016 (by decide +kernel), hz_mp 67 (by decide +kernel), by decide +kernel, by decide +kernel, by decide⟩
theorem fyX11_isRead : hz_FY mX11_isRead 0 := ⟨hz_mp 1002 (by decide +kernel), hz_mp 67 (by decide +kernel), by decide +kernel, by decide +kernel, by decide⟩
theorem fyX11_read : hz_FY mX11_read 0 := ⟨hz_mp 998 (by decide +kernel), hz_mp 67 (by decide +kernel), by decide +kernel, by decide +kernel, by decide⟩
theorem fyX11_bring : hz_FY mX11_bring 5 := ⟨hz_mp 1043 (by decide +kernel), hz_mp 67 (by decide +kernel), by decide +kernel, by decide +kernel, by decide⟩
theorem fyX11_keepBack : hz_FY mX11_keepBack 0 := ⟨hz_mp 1051 (by decide +kernel), hz_mp 67 (by decide +kernel), by decide +kernel, by decide +kernel, by decide⟩
theorem fyX11_pass : hz_FY mX11_pass 1 := ⟨hz_mp 1055 (by decide +kernel), hz_mp 67 (by decide +kernel), by decide +kernel, by decide +kernel, by decide⟩
theorem fyX11_waits : hz_FY mX11_waits 1 := ⟨hz_mp 1047 (by decide +kernel), hz_mp 67 (by decide +kernel), by decide +kernel, by decide +kernel, by decide⟩
theorem fyX11_walk : hz_FY mX11_walk 1 := ⟨hz_mp 1092 (by decide +kernel), hz_mp 67 (by decide +kernel), by decide +kernel, by decide +kernel, by decide⟩
theorem fyX11_take : hz_FY mX11_take 2 := ⟨hz_mp 1100 (by decide +kernel), hz_mp 67 (by decide +kernel), by decide +kernel, by decide +kernel, by decide⟩
theorem fyX11_battery : hz_FY mX11_battery 2 := ⟨hz_mp 1108 (by decide +kernel), hz_mp 67 (by decide +kernel), by decide +kernel, by decide +kernel, by decide⟩
theorem fyX11_cold : hz_FY mX11_cold 1 := ⟨hz_mp 1112 (by decide +kernel), hz_mp 67 (by decide +kernel), by decide +kernel, by decide +kernel, by decide⟩
theorem fyX11_undo : hz_FY mX11_undo 0 := ⟨hz_mp 1116 (by decide +kernel), hz_mp 67 (by decide +kernel), by decide +kernel, by decide +kernel, by decide⟩
theorem fyX11_loudOf : hz_FY mX11_loudOf 1 := ⟨hz_mp 1088 (by decide +kernel), hz_mp 67 (by decide +kernel), by decide +kernel, by decide +kernel, by decide⟩
theorem fyX11_of : hz_FY mX11_of 2 := ⟨hz_mp 1120 (by decide +kernel), hz_mp 67 (by decide +kernel), by decide +kernel, by decide +kernel, by decide⟩
theorem fyX11_farOf : hz_FY mX11_farOf 2 := ⟨hz_mp 1063 (by decide +kernel), hz_mp 67 (by decide +kernel), by decide +kernel, by decide +kernel, by decide⟩
theorem fyX11_layFar : hz_FY mX11_layFar 0 := ⟨hz_mp 1059 (by decide +kernel), hz_mp 67 (by decide +kernel), by decide +kernel, by decide +kernel, by decide⟩
theorem fyX11_far : hz_FY mX11_far 2 := ⟨hz_mp 1124 (by decide +kernel), hz_mp 67 (by decide +kernel), by decide +kernel, by decide +kernel, by decide⟩
theorem fyX11_beepsBy : hz_FY mX11_beepsBy 4 := ⟨hz_mp 1081 (by decide +kernel), hz_mp 67 (by decide +kernel), by decide +kernel, by decide +kernel, by decide⟩
theorem fyX11_isSilent : hz_FY mX11_isSilent 1 := ⟨hz_mp 1075 (by decide +kernel), hz_mp 67 (by decide +kernel), by decide +kernel, by decide +kernel, by decide⟩
theorem fyX11_beepsNow : hz_FY mX11_beepsNow 3 := ⟨hz_mp 1071 (by decide +kernel), hz_mp 67 (by decide +kernel), by decide +kernel, by decide +kernel, by decide⟩
theorem fyX11_beeps : hz_FY mX11_beeps 2 := ⟨hz_mp 1128 (by decide +kernel), hz_mp 67 (by decide +kernel), by decide +kernel, by decide +kernel, by decide⟩
theorem fyX11_reaches : hz_FY mX11_reaches 2 := ⟨hz_mp 1085 (by decide +kernel), hz_mp 67 (by decide +kernel), by decide +kernel, by decide +kernel, by decide⟩
theorem fyX11_heardBy : hz_FY mX11_heardBy 3 := ⟨hz_mp 1067 (by decide +kernel), hz_mp 67 (by decide +kernel), by decide +kernel, by decide +kernel, by decide⟩
theorem fyX11_heard : hz_FY mX11_heard 2 := ⟨hz_mp 1132 (by decide +kernel), hz_mp 67 (by decide +kernel), by decide +kernel, by decide +kernel, by decide⟩
theorem fyX11_throughBy : hz_FY mX11_throughBy 2 := ⟨hz_mp 1140 (by decide +kernel), hz_mp 67 (by decide +kernel), by decide +kernel, by decide +kernel, by decide⟩
theorem fyX11_through : hz_FY mX11_through 2 := ⟨hz_mp 1136 (by decide +kernel), hz_mp 67 (by decide +kernel), by decide +kernel, by decide +kernel, by decide⟩
theorem fyX11_next : hz_FY mX11_next 2 := ⟨hz_mp 1144 (by decide +kernel), hz_mp 67 (by decide +kernel), by decide +kernel, by decide +kernel, by decide⟩
theorem fyX11_beepsEver : hz_FY mX11_beepsEver 2 := ⟨hz_mp 1152 (by decide +kernel), hz_mp 67 (by decide +kernel), by decide +kernel, by decide +kernel, by decide⟩
theorem fyX11_coldest : hz_FY mX11_coldest 1 := ⟨hz_mp 1148 (by decide +kernel), hz_mp 67 (by decide +kernel), by decide +kernel, by decide +kernel, by decide⟩
theorem fyX11_alikeBy : hz_FY mX11_alikeBy 3 := ⟨hz_mp 1167 (by decide +kernel), hz_mp 67 (by decide +kernel), by decide +kernel, by decide +kernel, by decide⟩
theorem fyX11_laySure : hz_FY mX11_laySure 0 := ⟨hz_mp 1160 (by decide +kernel), hz_mp 67 (by decide +kernel), by decide +kernel, by decide +kernel, by decide⟩
theorem fyX11_sure : hz_FY mX11_sure 2 := ⟨hz_mp 1156 (by decide +kernel), hz_mp 67 (by decide +kernel), by decide +kernel, by decide +kernel, by decide⟩
theorem fyX11_loudOnes : hz_FY mX11_loudOnes 0 := ⟨hz_mp 1179 (by decide +kernel), hz_mp 67 (by decide +kernel), by decide +kernel, by decide +kernel, by decide⟩
theorem fyX11_wayBy : hz_FY mX11_wayBy 1 := ⟨hz_mp 1183 (by decide +kernel), hz_mp 67 (by decide +kernel), by decide +kernel, by decide +kernel, by decide⟩
theorem fyX11_layWay : hz_FY mX11_layWay 0 := ⟨hz_mp 1175 (by decide +kernel), hz_mp 67 (by decide +kernel), by decide +kernel, by decide +kernel, by decide⟩
theorem fyX11_way : hz_FY mX11_way 1 := ⟨hz_mp 1171 (by decide +kernel), hz_mp 67 (by decide +kernel), by decide +kernel, by decide +kernel, by decide⟩
theorem fyX11_two : hz_FY mX11_two 2 := ⟨hz_mp 1187 (by decide +kernel), hz_mp 67 (by decide +kernel), by decide +kernel, by decide +kernel, by decide⟩
theorem fyX11_beside : hz_FY mX11_beside 0 := ⟨hz_mp 1191 (by decide +kernel), hz_mp 67 (by decide +kernel), by decide +kernel, by decide +kernel, by decide⟩
theorem fyX11_note : hz_FY mX11_note 2 := ⟨hz_mp 1195 (by decide +kernel), hz_mp 67 (by decide +kernel), by decide +kernel, by decide +kernel, by decide⟩
theorem fyX11_forget : hz_FY mX11_forget 0 := ⟨hz_mp 1199 (by decide +kernel), hz_mp 67 (by decide +kernel), by decide +kernel, by decide +kernel, by decide⟩
theorem fyX11_whichOnes : hz_FY mX11_whichOnes 0 := ⟨hz_mp 1207 (by decide +kernel), hz_mp 67 (by decide +kernel), by decide +kernel, by decide +kernel, by decide⟩
theorem fyX11_which : hz_FY mX11_which 0 := ⟨hz_mp 1203 (by decide +kernel), hz_mp 67 (by decide +kernel), by decide +kernel, by decide +kernel, by decide⟩
theorem fyX11_stand : hz_FY mX11_stand 0 := ⟨hz_mp 1211 (by decide +kernel), hz_mp 67 (by decide +kernel), by decide +kernel, by decide +kernel, by decide⟩
theorem fyX11_is : hz_FY mX11_is 3 := ⟨hz_mp 1215 (by decide +kernel), hz_mp 67 (by decide +kernel), by decide +kernel, by decide +kernel, by decide⟩
theorem fyX11_missed : hz_FY mX11_missed 3 := ⟨hz_mp 1219 (by decide +kernel), hz_mp 67 (by decide +kernel), by decide +kernel, by decide +kernel, by decide⟩
theorem fyX11_nights : hz_FY mX11_nights 2 := ⟨hz_mp 1224 (by decide +kernel), hz_mp 67 (by decide +kernel), by decide +kernel, by decide +kernel, by decide⟩
theorem fyX11_part : hz_FY mX11_part 1 := ⟨hz_mp 1235 (by decide +kernel), hz_mp 67 (by decide +kernel), by decide +kernel, by decide +kernel, by decide⟩
theorem fyX11_image : hz_FY mX11_image 1 := ⟨hz_mp 1239 (by decide +kernel), hz_mp 67 (by decide +kernel), by decide +kernel, by decide +kernel, by decide⟩
theorem fyX11_from : hz_FY mX11_from 1 := ⟨hz_mp 1243 (by decide +kernel), hz_mp 67 (by decide +kernel), by decide +kernel, by decide +kernel, by decide⟩
theorem fyX11_status : hz_FY mX11_status 1 := ⟨hz_mp 1247 (by decide +kernel), hz_mp 67 (by decide +kernel), by decide +kernel, by decide +kernel, by decide⟩
theorem fyX11_counted : hz_FY mX11_counted 1 := ⟨hz_mp 1255 (by decide +kernel), hz_mp 67 (by decide +kernel), by decide +kernel, by decide +kernel, by decide⟩
theorem fyX11_count : hz_FY mX11_count 1 := ⟨hz_mp 1251 (by decide +kernel), hz_mp 67 (by decide +kernel), by decide +kernel, by decide +kernel, by decide⟩
theorem fyX11_digest : hz_FY mX11_digest 0 := ⟨hz_mp 1259 (by decide +kernel), hz_mp 67 (by decide +kernel), by decide +kernel, by decide +kernel, by decide⟩
theorem fyX0_init : hz_FY mX0_init 0 := ⟨hz_mp 215 (by decide +kernel), hz_mp 64 (by decide +kernel), by decide +kernel, by decide +kernel, by decide⟩
theorem fyX0_loud : hz_FY mX0_loud 0 := ⟨hz_mp 571 (by decide +kernel), hz_mp 64 (by decide +kernel), by decide +kernel, by decide +kernel, by decide⟩
theorem fyX0_soundsDown : hz_FY mX0_soundsDown 0 := ⟨hz_mp 534 (by decide +kernel), hz_mp 64 (by decide +kernel), by decide +kernel, by decide +kernel, by decide⟩
theorem fyX1_init : hz_FY mX1_init 0 := ⟨hz_mp 229 (by decide +kernel), hz_mp 66 (by decide +kernel), by decide +kernel, by decide +kernel, by decide⟩
theorem fyX1_sounds : hz_FY mX1_sounds 3 := ⟨hz_mp 547 (by decide +kernel), hz_mp 66 (by decide +kernel), by decide +kernel, by decide +kernel, by decide⟩
theorem fyX2_init : hz_FY mX2_init 0 := ⟨hz_mp 149 (by decide +kernel), hz_mp 59 (by decide +kernel), by decide +kernel, by decide +kernel, by decide⟩
theorem fyX2_reset : hz_FY mX2_reset 0 := ⟨hz_mp 235 (by decide +kernel), hz_mp 59 (by decide +kernel), by decide +kernel, by decide +kernel, by decide⟩
theorem fyX2_copyFrom : hz_FY mX2_copyFrom 1 := ⟨hz_mp 853 (by decide +kernel), hz_mp 59 (by decide +kernel), by decide +kernel, by decide +kernel, by decide⟩
theorem fyX2_doorBetween : hz_FY mX2_doorBetween 2 := ⟨hz_mp 342 (by decide +kernel), hz_mp 59 (by decide +kernel), by decide +kernel, by decide +kernel, by decide⟩
theorem fyX2_setDoor : hz_FY mX2_setDoor 3 := ⟨hz_mp 346 (by decide +kernel), hz_mp 59 (by decide +kernel), by decide +kernel, by decide +kernel, by decide⟩
theorem fyX2_addAlarm : hz_FY mX2_addAlarm 3 := ⟨hz_mp 362 (by decide +kernel), hz_mp 59 (by decide +kernel), by decide +kernel, by decide +kernel, by decide⟩
theorem fyX2_addNote : hz_FY mX2_addNote 2 := ⟨hz_mp 782 (by decide +kernel), hz_mp 59 (by decide +kernel), by decide +kernel, by decide +kernel, by decide⟩
theorem fyX2_remember : hz_FY mX2_remember 0 := ⟨hz_mp 494 (by decide +kernel), hz_mp 59 (by decide +kernel), by decide +kernel, by decide +kernel, by decide⟩
theorem fyX2_goBack : hz_FY mX2_goBack 0 := ⟨hz_mp 625 (by decide +kernel), hz_mp 59 (by decide +kernel), by decide +kernel, by decide +kernel, by decide⟩
theorem fyX2_pass : hz_FY mX2_pass 1 := ⟨hz_mp 505 (by decide +kernel), hz_mp 59 (by decide +kernel), by decide +kernel, by decide +kernel, by decide⟩
theorem fyX2_allBits : hz_FY mX2_allBits 0 := ⟨hz_mp 685 (by decide +kernel), hz_mp 59 (by decide +kernel), by decide +kernel, by decide +kernel, by decide⟩
theorem fyX2_kindOf : hz_FY mX2_kindOf 1 := ⟨hz_mp 527 (by decide +kernel), hz_mp 59 (by decide +kernel), by decide +kernel, by decide +kernel, by decide⟩
theorem fyX2_distanceBetween : hz_FY mX2_distanceBetween 2 := ⟨hz_mp 587 (by decide +kernel), hz_mp 59 (by decide +kernel), by decide +kernel, by decide +kernel, by decide⟩
theorem fyX2_measure : hz_FY mX2_measure 0 := ⟨hz_mp 591 (by decide +kernel), hz_mp 59 (by decide +kernel), by decide +kernel, by decide +kernel, by decide⟩
theorem fyX2_mayBeep : hz_FY mX2_mayBeep 1 := ⟨hz_mp 520 (by decide +kernel), hz_mp 59 (by decide +kernel), by decide +kernel, by decide +kernel, by decide⟩
theorem fyX2_soundsIn : hz_FY mX2_soundsIn 2 := ⟨hz_mp 516 (by decide +kernel), hz_mp 59 (by decide +kernel), by decide +kernel, by decide +kernel, by decide⟩
theorem fyX2_reaches : hz_FY mX2_reaches 2 := ⟨hz_mp 564 (by decide +kernel), hz_mp 59 (by decide +kernel), by decide +kernel, by decide +kernel, by decide⟩
theorem fyX2_bitsHeard : hz_FY mX2_bitsHeard 2 := ⟨hz_mp 512 (by decide +kernel), hz_mp 59 (by decide +kernel), by decide +kernel, by decide +kernel, by decide⟩
theorem fyX2_everHeard : hz_FY mX2_everHeard 2 := ⟨hz_mp 840 (by decide +kernel), hz_mp 59 (by decide +kernel), by decide +kernel, by decide +kernel, by decide⟩
theorem fyX2_howManyReach : hz_FY mX2_howManyReach 1 := ⟨hz_mp 774 (by decide +kernel), hz_mp 59 (by decide +kernel), by decide +kernel, by decide +kernel, by decide⟩
theorem fyX2_entrance : hz_FY mX2_entrance 2 := ⟨hz_mp 655 (by decide +kernel), hz_mp 59 (by decide +kernel), by decide +kernel, by decide +kernel, by decide⟩
theorem fyX2_toldApart : hz_FY mX2_toldApart 3 := ⟨hz_mp 765 (by decide +kernel), hz_mp 59 (by decide +kernel), by decide +kernel, by decide +kernel, by decide⟩
theorem fyX2_bitsFitting : hz_FY mX2_bitsFitting 0 := ⟨hz_mp 794 (by decide +kernel), hz_mp 59 (by decide +kernel), by decide +kernel, by decide +kernel, by decide⟩
theorem fyX2_fitsNotes : hz_FY mX2_fitsNotes 1 := ⟨hz_mp 798 (by decide +kernel), hz_mp 59 (by decide +kernel), by decide +kernel, by decide +kernel, by decide⟩
theorem fyX2_mixAll : hz_FY mX2_mixAll 1 := ⟨hz_mp 883 (by decide +kernel), hz_mp 59 (by decide +kernel), by decide +kernel, by decide +kernel, by decide⟩
theorem fyX3_init : hz_FY mX3_init 0 := ⟨hz_mp 155 (by decide +kernel), hz_mp 60 (by decide +kernel), by decide +kernel, by decide +kernel, by decide⟩
theorem fyX3_copyFrom : hz_FY mX3_copyFrom 1 := ⟨hz_mp 498 (by decide +kernel), hz_mp 60 (by decide +kernel), by decide +kernel, by decide +kernel, by decide⟩
theorem fyX3_setDown : hz_FY mX3_setDown 2 := ⟨hz_mp 485 (by decide +kernel), hz_mp 60 (by decide +kernel), by decide +kernel, by decide +kernel, by decide⟩
theorem fyX4_init : hz_FY mX4_init 0 := ⟨hz_mp 201 (by decide +kernel), hz_mp 62 (by decide +kernel), by decide +kernel, by decide +kernel, by decide⟩
theorem fyX4_sounds : hz_FY mX4_sounds 3 := ⟨hz_mp 550 (by decide +kernel), hz_mp 62 (by decide +kernel), by decide +kernel, by decide +kernel, by decide⟩
theorem fyX5_init : hz_FY mX5_init 0 := ⟨hz_mp 222 (by decide +kernel), hz_mp 65 (by decide +kernel), by decide +kernel, by decide +kernel, by decide⟩
theorem fyX5_sounds : hz_FY mX5_sounds 3 := ⟨hz_mp 555 (by decide +kernel), hz_mp 65 (by decide +kernel), by decide +kernel, by decide +kernel, by decide⟩
theorem fyX5_loud : hz_FY mX5_loud 0 := ⟨hz_mp 577 (by decide +kernel), hz_mp 65 (by decide +kernel), by decide +kernel, by decide +kernel, by decide⟩
theorem fyX6_init : hz_FY mX6_init 0 := ⟨hz_mp 194 (by decide +kernel), hz_mp 61 (by decide +kernel), by decide +kernel, by decide +kernel, by decide⟩
theorem fyX6_sounds : hz_FY mX6_sounds 3 := ⟨hz_mp 560 (by decide +kernel), hz_mp 61 (by decide +kernel), by decide +kernel, by decide +kernel, by decide⟩
theorem fyX6_loud : hz_FY mX6_loud 0 := ⟨hz_mp 583 (by decide +kernel), hz_mp 61 (by decide +kernel), by decide +kernel, by decide +kernel, by decide⟩
theorem fyX6_soundsDown : hz_FY mX6_soundsDown 0 := ⟨hz_mp 539 (by decide +kernel), hz_mp 61 (by decide +kernel), by decide +kernel, by decide +kernel, by decide⟩
theorem fyX6_everSounds : hz_FY mX6_everSounds 2 := ⟨hz_mp 674 (by decide +kernel), hz_mp 61 (by decide +kernel), by decide +kernel, by decide +kernel, by decide⟩
theorem fyX7_init : hz_FY mX7_init 0 := ⟨hz_mp 114 (by decide +kernel), hz_mp 58 (by decide +kernel), by decide +kernel, by decide +kernel, by decide⟩
theorem fyX7_learnAlike : hz_FY mX7_learnAlike 1 := ⟨hz_mp 689 (by decide +kernel), hz_mp 58 (by decide +kernel), by decide +kernel, by decide +kernel, by decide⟩
theorem fyX7_settleAll : hz_FY mX7_settleAll 1 := ⟨hz_mp 694 (by decide +kernel), hz_mp 58 (by decide +kernel), by decide +kernel, by decide +kernel, by decide⟩
theorem fyX7_settle : hz_FY mX7_settle 1 := ⟨hz_mp 698 (by decide +kernel), hz_mp 58 (by decide +kernel), by decide +kernel, by decide +kernel, by decide⟩
theorem fyX7_worstPart : hz_FY mX7_worstPart 2 := ⟨hz_mp 708 (by decide +kernel), hz_mp 58 (by decide +kernel), by decide +kernel, by decide +kernel, by decide⟩
theorem fyX7_roomOfSmallestGroups : hz_FY mX7_roomOfSmallestGroups 1 := ⟨hz_mp 806 (by decide +kernel), hz_mp 58 (by decide +kernel), by decide +kernel, by decide +kernel, by decide⟩
theorem fyX7_greatestGroup : hz_FY mX7_greatestGroup 2 := ⟨hz_mp 810 (by decide +kernel), hz_mp 58 (by decide +kernel), by decide +kernel, by decide +kernel, by decide⟩
theorem fyX7_findTargets : hz_FY mX7_findTargets 1 := ⟨hz_mp 720 (by decide +kernel), hz_mp 58 (by decide +kernel), by decide +kernel, by decide +kernel, by decide⟩
theorem fyX7_measureLegs : hz_FY mX7_measureLegs 1 := ⟨hz_mp 727 (by decide +kernel), hz_mp 58 (by decide +kernel), by decide +kernel, by decide +kernel, by decide⟩
theorem fyX7_allJoined : hz_FY mX7_allJoined 0 := ⟨hz_mp 732 (by decide +kernel), hz_mp 58 (by decide +kernel), by decide +kernel, by decide +kernel, by decide⟩
theorem fyX7_fillRest : hz_FY mX7_fillRest 0 := ⟨hz_mp 736 (by decide +kernel), hz_mp 58 (by decide +kernel), by decide +kernel, by decide +kernel, by decide⟩
theorem fyX7_leastFrom : hz_FY mX7_leastFrom 2 := ⟨hz_mp 740 (by decide +kernel), hz_mp 58 (by decide +kernel), by decide +kernel, by decide +kernel, by decide⟩
theorem fyX7_leastBy : hz_FY mX7_leastBy 3 := ⟨hz_mp 744 (by decide +kernel), hz_mp 58 (by decide +kernel), by decide +kernel, by decide +kernel, by decide⟩
theorem fyX7_wholeWay : hz_FY mX7_wholeWay 0 := ⟨hz_mp 749 (by decide +kernel), hz_mp 58 (by decide +kernel), by decide +kernel, by decide +kernel, by decide⟩
theorem fyX7_targetAt : hz_FY mX7_targetAt 1 := ⟨hz_mp 753 (by decide +kernel), hz_mp 58 (by decide +kernel), by decide +kernel, by decide +kernel, by decide⟩
theorem fyX7_firstOfLeast : hz_FY mX7_firstOfLeast 2 := ⟨hz_mp 757 (by decide +kernel), hz_mp 58 (by decide +kernel), by decide +kernel, by decide +kernel, by decide⟩
theorem fyX8_init : hz_FY mX8_init 0 := ⟨hz_mp 87 (by decide +kernel), hz_mp 57 (by decide +kernel), by decide +kernel, by decide +kernel, by decide⟩
theorem fyX8_add : hz_FY mX8_add 1 := ⟨hz_mp 370 (by decide +kernel), hz_mp 57 (by decide +kernel), by decide +kernel, by decide +kernel, by decide⟩
theorem fyX8_tell : hz_FY mX8_tell 1 := ⟨hz_mp 382 (by decide +kernel), hz_mp 57 (by decide +kernel), by decide +kernel, by decide +kernel, by decide⟩
theorem fyX8_item : hz_FY mX8_item 2 := ⟨hz_mp 399 (by decide +kernel), hz_mp 57 (by decide +kernel), by decide +kernel, by decide +kernel, by decide⟩
theorem fyX8_houseItem : hz_FY mX8_houseItem 1 := ⟨hz_mp 456 (by decide +kernel), hz_mp 57 (by decide +kernel), by decide +kernel, by decide +kernel, by decide⟩
theorem fyX8_doorItem : hz_FY mX8_doorItem 1 := ⟨hz_mp 469 (by decide +kernel), hz_mp 57 (by decide +kernel), by decide +kernel, by decide +kernel, by decide⟩
theorem fyX8_alarmItem : hz_FY mX8_alarmItem 1 := ⟨hz_mp 475 (by decide +kernel), hz_mp 57 (by decide +kernel), by decide +kernel, by decide +kernel, by decide⟩
theorem fyX8_downItem : hz_FY mX8_downItem 1 := ⟨hz_mp 481 (by decide +kernel), hz_mp 57 (by decide +kernel), by decide +kernel, by decide +kernel, by decide⟩
theorem fyX8_number : hz_FY mX8_number 2 := ⟨hz_mp 460 (by decide +kernel), hz_mp 57 (by decide +kernel), by decide +kernel, by decide +kernel, by decide⟩
theorem fyX8_stop : hz_FY mX8_stop 0 := ⟨hz_mp 464 (by decide +kernel), hz_mp 57 (by decide +kernel), by decide +kernel, by decide +kernel, by decide⟩
theorem fyX8_says : hz_FY mX8_says 1 := ⟨hz_mp 404 (by decide +kernel), hz_mp 57 (by decide +kernel), by decide +kernel, by decide +kernel, by decide⟩
theorem fyX8_step : hz_FY mX8_step 0 := ⟨hz_mp 386 (by decide +kernel), hz_mp 57 (by decide +kernel), by decide +kernel, by decide +kernel, by decide⟩
theorem fyX8_behindRun : hz_FY mX8_behindRun 3 := ⟨hz_mp 390 (by decide +kernel), hz_mp 57 (by decide +kernel), by decide +kernel, by decide +kernel, by decide⟩
theorem fyX8_valueOfFigures : hz_FY mX8_valueOfFigures 0 := ⟨hz_mp 395 (by decide +kernel), hz_mp 57 (by decide +kernel), by decide +kernel, by decide +kernel, by decide⟩
theorem fyX9_init : hz_FY mX9_init 0 := ⟨hz_mp 208 (by decide +kernel), hz_mp 63 (by decide +kernel), by decide +kernel, by decide +kernel, by decide⟩
theorem fyX9_sounds : hz_FY mX9_sounds 3 := ⟨hz_mp 558 (by decide +kernel), hz_mp 63 (by decide +kernel), by decide +kernel, by decide +kernel, by decide⟩
theorem fyX9_loud : hz_FY mX9_loud 0 := ⟨hz_mp 581 (by decide +kernel), hz_mp 63 (by decide +kernel), by decide +kernel, by decide +kernel, by decide⟩
theorem fyJ6_bitCount_0f7a4 : hz_FY mJ6_bitCount_0f7a4 1 := ⟨hz_mp 701 (by decide +kernel), hz_mp 74 (by decide +kernel), by decide +kernel, by decide +kernel, by decide⟩
theorem fyJ9_max_7cf53 : hz_FY mJ9_max_7cf53 2 := ⟨hz_mp 712 (by decide +kernel), hz_mp 73 (by decide +kernel), by decide +kernel, by decide +kernel, by decide⟩
theorem fyJ9_min_7cf53 : hz_FY mJ9_min_7cf53 2 := ⟨hz_mp 508 (by decide +kernel), hz_mp 73 (by decide +kernel), by decide +kernel, by decide +kernel, by decide⟩
theorem fyJ0_charAt_5068e : hz_FY mJ0_charAt_5068e 1 := ⟨hz_mp 418 (by decide +kernel), hz_mp 68 (by decide +kernel), by decide +kernel, by decide +kernel, by decide⟩
theorem fyJ0_checkIndex_df160 : hz_FY mJ0_checkIndex_df160 2 := ⟨hz_mp 428 (by decide +kernel), hz_mp 68 (by decide +kernel), by decide +kernel, by decide +kernel, by decide⟩
theorem fyJ0_coder_7d493 : hz_FY mJ0_coder_7d493 0 := ⟨hz_mp 412 (by decide +kernel), hz_mp 68 (by decide +kernel), by decide +kernel, by decide +kernel, by decide⟩
theorem fyJ0_isLatin1_aae02 : hz_FY mJ0_isLatin1_aae02 0 := ⟨hz_mp 422 (by decide +kernel), hz_mp 68 (by decide +kernel), by decide +kernel, by decide +kernel, by decide⟩
theorem fyJ0_length_8abf5 : hz_FY mJ0_length_8abf5 0 := ⟨hz_mp 408 (by decide +kernel), hz_mp 68 (by decide +kernel), by decide +kernel, by decide +kernel, by decide⟩
end
section
theorem ffX2_102 : hz_F RX2 102 3 0 := ⟨_, rfl, by decide, hz_mp 158 (by decide +kernel)⟩
theorem ffX2_15 : hz_F RX2 15 2 2 := ⟨_, rfl, by decide, hz_mp 239 (by decide +kernel)⟩
theorem ffX2_18 : hz_F RX2 18 2 3 := ⟨_, rfl, by decide, hz_mp 240 (by decide +kernel)⟩
theorem ffX2_21 : hz_F RX2 21 2 4 := ⟨_, rfl, by decide, hz_mp 242 (by decide +kernel)⟩
theorem ffX2_24 : hz_F RX2 24 2 5 := ⟨_, rfl, by decide, hz_mp 245 (by decide +kernel)⟩
theorem ffX2_27 : hz_F RX2 27 2 6 := ⟨_, rfl, by decide, hz_mp 246 (by decide +kernel)⟩
theorem ffX2_33 : hz_F RX2 33 2 7 := ⟨_, rfl, by decide, hz_mp 247 (by decide +kernel)⟩
theorem ffX2_37 : hz_F RX2 37 2 8 := ⟨_, rfl, by decide, hz_mp 251 (by decide +kernel)⟩
theorem ffX2_59 : hz_F RX2 59 2 0 := ⟨_, rfl, by decide, hz_mp 236 (by decide +kernel)⟩
theorem ffX2_66 : hz_F RX2 66 2 9 := ⟨_, rfl, by decide, hz_mp 252 (by decide +kernel)⟩
theorem ffX2_70 : hz_F RX2 70 2 10 := ⟨_, rfl, by decide, hz_mp 255 (by decide +kernel)⟩
theorem ffX2_74 : hz_F RX2 74 2 11 := ⟨_, rfl, by decide, hz_mp 257 (by decide +kernel)⟩
theorem ffX2_77 : hz_F RX2 77 2 12 := ⟨_, rfl, by decide, hz_mp 259 (by decide +kernel)⟩
theorem ffX2_80 : hz_F RX2 80 3 1 := ⟨_, rfl, by decide, hz_mp 162 (by decide +kernel)⟩
theorem ffX2_83 : hz_F RX2 83 3 2 := ⟨_, rfl, by decide, hz_mp 165 (by decide +kernel)⟩
theorem ffX2_86 : hz_F RX2 86 3 3 := ⟨_, rfl, by decide, hz_mp 169 (by decide +kernel)⟩
theorem ffX2_89 : hz_F RX2 89 3 4 := ⟨_, rfl, by decide, hz_mp 174 (by decide +kernel)⟩
theorem ffX2_9 : hz_F RX2 9 2 1 := ⟨_, rfl, by decide, hz_mp 238 (by decide +kernel)⟩
theorem ffX3_21 : hz_F RX3 21 3 1 := ⟨_, rfl, by decide, hz_mp 161 (by decide +kernel)⟩
theorem ffX3_25 : hz_F RX3 25 3 2 := ⟨_, rfl, by decide, hz_mp 164 (by decide +kernel)⟩
theorem ffX3_28 : hz_F RX3 28 3 3 := ⟨_, rfl, by decide, hz_mp 168 (by decide +kernel)⟩
theorem ffX3_31 : hz_F RX3 31 3 4 := ⟨_, rfl, by decide, hz_mp 173 (by decide +kernel)⟩
theorem ffX3_9 : hz_F RX3 9 3 0 := ⟨_, rfl, by decide, hz_mp 157 (by decide +kernel)⟩
theorem ffX7_102 : hz_F RX7 102 3 2 := ⟨_, rfl, by decide, hz_mp 167 (by decide +kernel)⟩
theorem ffX7_15 : hz_F RX7 15 7 1 := ⟨_, rfl, by decide, hz_mp 117 (by decide +kernel)⟩
theorem ffX7_18 : hz_F RX7 18 7 2 := ⟨_, rfl, by decide, hz_mp 119 (by decide +kernel)⟩
theorem ffX7_21 : hz_F RX7 21 7 3 := ⟨_, rfl, by decide, hz_mp 121 (by decide +kernel)⟩
theorem ffX7_24 : hz_F RX7 24 7 4 := ⟨_, rfl, by decide, hz_mp 122 (by decide +kernel)⟩
theorem ffX7_27 : hz_F RX7 27 7 5 := ⟨_, rfl, by decide, hz_mp 123 (by decide +kernel)⟩
theorem ffX7_30 : hz_F RX7 30 7 6 := ⟨_, rfl, by decide, hz_mp 124 (by decide +kernel)⟩
theorem ffX7_33 : hz_F RX7 33 2 10 := ⟨_, rfl, by decide, hz_mp 254 (by decide +kernel)⟩
theorem ffX7_68 : hz_F RX7 68 7 7 := ⟨_, rfl, by decide, hz_mp 125 (by decide +kernel)⟩
theorem ffX7_75 : hz_F RX7 75 2 7 := ⟨_, rfl, by decide, hz_mp 249 (by decide +kernel)⟩
theorem ffX7_79 : hz_F RX7 79 3 4 := ⟨_, rfl, by decide, hz_mp 175 (by decide +kernel)⟩
theorem ffX7_9 : hz_F RX7 9 7 0 := ⟨_, rfl, by decide, hz_mp 116 (by decide +kernel)⟩
theorem ffX7_90 : hz_F RX7 90 3 3 := ⟨_, rfl, by decide, hz_mp 171 (by decide +kernel)⟩
theorem ffX7_93 : hz_F RX7 93 3 0 := ⟨_, rfl, by decide, hz_mp 159 (by decide +kernel)⟩
theorem ffX7_99 : hz_F RX7 99 2 4 := ⟨_, rfl, by decide, hz_mp 243 (by decide +kernel)⟩
theorem ffX8_15 : hz_F RX8 15 8 1 := ⟨_, rfl, by decide, hz_mp 90 (by decide +kernel)⟩
theorem ffX8_19 : hz_F RX8 19 8 4 := ⟨_, rfl, by decide, hz_mp 94 (by decide +kernel)⟩
theorem ffX8_25 : hz_F RX8 25 8 2 := ⟨_, rfl, by decide, hz_mp 92 (by decide +kernel)⟩
theorem ffX8_32 : hz_F RX8 32 8 3 := ⟨_, rfl, by decide, hz_mp 93 (by decide +kernel)⟩
theorem ffX8_52 : hz_F RX8 52 2 10 := ⟨_, rfl, by decide, hz_mp 256 (by decide +kernel)⟩
theorem ffX8_73 : hz_F RX8 73 2 7 := ⟨_, rfl, by decide, hz_mp 248 (by decide +kernel)⟩
theorem ffX8_77 : hz_F RX8 77 3 3 := ⟨_, rfl, by decide, hz_mp 170 (by decide +kernel)⟩
theorem ffX8_82 : hz_F RX8 82 8 5 := ⟨_, rfl, by decide, hz_mp 95 (by decide +kernel)⟩
theorem ffX8_9 : hz_F RX8 9 8 0 := ⟨_, rfl, by decide, hz_mp 89 (by decide +kernel)⟩
theorem ffX10_10 : hz_F RX10 10 10 0 := ⟨_, rfl, by decide, hz_mp 289 (by decide +kernel)⟩
theorem ffX10_102 : hz_F RX10 102 2 7 := ⟨_, rfl, by decide, hz_mp 250 (by decide +kernel)⟩
theorem ffX10_106 : hz_F RX10 106 3 2 := ⟨_, rfl, by decide, hz_mp 166 (by decide +kernel)⟩
theorem ffX10_111 : hz_F RX10 111 3 1 := ⟨_, rfl, by decide, hz_mp 163 (by decide +kernel)⟩
theorem ffX10_126 : hz_F RX10 126 2 4 := ⟨_, rfl, by decide, hz_mp 244 (by decide +kernel)⟩
theorem ffX10_134 : hz_F RX10 134 3 0 := ⟨_, rfl, by decide, hz_mp 160 (by decide +kernel)⟩
theorem ffX10_137 : hz_F RX10 137 3 3 := ⟨_, rfl, by decide, hz_mp 172 (by decide +kernel)⟩
theorem ffX10_140 : hz_F RX10 140 2 12 := ⟨_, rfl, by decide, hz_mp 260 (by decide +kernel)⟩
theorem ffX10_146 : hz_F RX10 146 2 3 := ⟨_, rfl, by decide, hz_mp 241 (by decide +kernel)⟩
theorem ffX10_149 : hz_F RX10 149 3 4 := ⟨_, rfl, by decide, hz_mp 176 (by decide +kernel)⟩
theorem ffX10_184 : hz_F RX10 184 7 1 := ⟨_, rfl, by decide, hz_mp 118 (by decide +kernel)⟩
theorem ffX10_187 : hz_F RX10 187 7 2 := ⟨_, rfl, by decide, hz_mp 120 (by decide +kernel)⟩
theorem ffX10_19 : hz_F RX10 19 10 1 := ⟨_, rfl, by decide, hz_mp 290 (by decide +kernel)⟩
theorem ffX10_206 : hz_F RX10 206 7 7 := ⟨_, rfl, by decide, hz_mp 126 (by decide +kernel)⟩
theorem ffX10_219 : hz_F RX10 219 2 11 := ⟨_, rfl, by decide, hz_mp 258 (by decide +kernel)⟩
theorem ffX10_231 : hz_F RX10 231 2 0 := ⟨_, rfl, by decide, hz_mp 237 (by decide +kernel)⟩
theorem ffX10_26 : hz_F RX10 26 10 4 := ⟨_, rfl, by decide, hz_mp 293 (by decide +kernel)⟩
theorem ffX10_267 : hz_F RX10 267 10 9 := ⟨_, rfl, by decide, hz_mp 298 (by decide +kernel)⟩
theorem ffX10_270 : hz_F RX10 270 10 10 := ⟨_, rfl, by decide, hz_mp 299 (by decide +kernel)⟩
theorem ffX10_30 : hz_F RX10 30 10 5 := ⟨_, rfl, by decide, hz_mp 294 (by decide +kernel)⟩
theorem ffX10_33 : hz_F RX10 33 10 2 := ⟨_, rfl, by decide, hz_mp 291 (by decide +kernel)⟩
theorem ffX10_37 : hz_F RX10 37 10 3 := ⟨_, rfl, by decide, hz_mp 292 (by decide +kernel)⟩
theorem ffX10_41 : hz_F RX10 41 10 6 := ⟨_, rfl, by decide, hz_mp 295 (by decide +kernel)⟩
theorem ffX10_45 : hz_F RX10 45 10 7 := ⟨_, rfl, by decide, hz_mp 296 (by decide +kernel)⟩
theorem ffX10_48 : hz_F RX10 48 2 10 := ⟨_, rfl, by decide, hz_mp 253 (by decide +kernel)⟩
theorem ffX10_63 : hz_F RX10 63 10 8 := ⟨_, rfl, by decide, hz_mp 297 (by decide +kernel)⟩
theorem ffX10_84 : hz_F RX10 84 8 1 := ⟨_, rfl, by decide, hz_mp 91 (by decide +kernel)⟩
theorem ffX11_105 : hz_F RX11 105 11 14 := ⟨_, rfl, by decide, hz_mp 908 (by decide +kernel)⟩
theorem ffX11_13 : hz_F RX11 13 11 1 := ⟨_, rfl, by decide, hz_mp 895 (by decide +kernel)⟩
theorem ffX11_16 : hz_F RX11 16 11 2 := ⟨_, rfl, by decide, hz_mp 896 (by decide +kernel)⟩
theorem ffX11_19 : hz_F RX11 19 11 3 := ⟨_, rfl, by decide, hz_mp 897 (by decide +kernel)⟩
theorem ffX11_200 : hz_F RX11 200 11 20 := ⟨_, rfl, by decide, hz_mp 914 (by decide +kernel)⟩
theorem ffX11_214 : hz_F RX11 214 11 5 := ⟨_, rfl, by decide, hz_mp 899 (by decide +kernel)⟩
theorem ffX11_23 : hz_F RX11 23 11 4 := ⟨_, rfl, by decide, hz_mp 898 (by decide +kernel)⟩
theorem ffX11_26 : hz_F RX11 26 11 6 := ⟨_, rfl, by decide, hz_mp 900 (by decide +kernel)⟩
theorem ffX11_30 : hz_F RX11 30 11 8 := ⟨_, rfl, by decide, hz_mp 902 (by decide +kernel)⟩
theorem ffX11_33 : hz_F RX11 33 11 15 := ⟨_, rfl, by decide, hz_mp 909 (by decide +kernel)⟩
theorem ffX11_36 : hz_F RX11 36 11 16 := ⟨_, rfl, by decide, hz_mp 910 (by decide +kernel)⟩
theorem ffX11_39 : hz_F RX11 39 11 17 := ⟨_, rfl, by decide, hz_mp 911 (by decide +kernel)⟩
theorem ffX11_42 : hz_F RX11 42 11 18 := ⟨_, rfl, by decide, hz_mp 912 (by decide +kernel)⟩
theorem ffX11_45 : hz_F RX11 45 11 19 := ⟨_, rfl, by decide, hz_mp 913 (by decide +kernel)⟩
theorem ffX11_7 : hz_F RX11 7 11 0 := ⟨_, rfl, by decide, hz_mp 894 (by decide +kernel)⟩
theorem ffX11_71 : hz_F RX11 71 11 7 := ⟨_, rfl, by decide, hz_mp 901 (by decide +kernel)⟩
theorem ffX11_75 : hz_F RX11 75 11 9 := ⟨_, rfl, by decide, hz_mp 903 (by decide +kernel)⟩
theorem ffX11_78 : hz_F RX11 78 11 10 := ⟨_, rfl, by decide, hz_mp 904 (by decide +kernel)⟩
theorem ffX11_81 : hz_F RX11 81 11 13 := ⟨_, rfl, by decide, hz_mp 907 (by decide +kernel)⟩
theorem ffX11_84 : hz_F RX11 84 11 12 := ⟨_, rfl, by decide, hz_mp 906 (by decide +kernel)⟩
theorem ffX11_87 : hz_F RX11 87 11 11 := ⟨_, rfl, by decide, hz_mp 905 (by decide +kernel)⟩
theorem fiX0_1 : hz_FIN RX0 1 mX6_init "BeepHouse" := ⟨hz_mn 216 (by decide +kernel), hz_mp 193 (by decide +kernel), rfl, rfl⟩
theorem fpX0_7 : hz_FSU RX0 7 mX6_loud := ⟨hz_mp 572 (by decide +kernel), hz_mp 568 (by decide +kernel), hz_mp 217 (by decide +kernel), hz_mp 566 (by decide +kernel), by decide⟩
theorem fiX1_1 : hz_FIN RX1 1 mX4_init "BeepHouse" := ⟨hz_mn 230 (by decide +kernel), hz_mp 200 (by decide +kernel), rfl, rfl⟩
theorem fpX1_7 : hz_FSU RX1 7 mX4_sounds := ⟨hz_mp 548 (by decide +kernel), hz_mp 1262 (by decide +kernel), hz_mp 231 (by decide +kernel), hz_mp 549 (by decide +kernel), by decide⟩
theorem fsX2_105 : hz_FS RX2 105 mJ9_min_7cf53 := ⟨hz_mp 506 (by decide +kernel), hz_mp 507 (by decide +kernel)⟩
theorem fvX2_111 : hz_FV RX2 111 mX2_measure := ⟨hz_mp 588 (by decide +kernel), hz_mp 590 (by decide +kernel), hz_mp 13 (by decide +kernel)⟩
theorem fsX2_114 : hz_FSN RX2 114 mX10_has "BeepHouse" := ⟨hz_mn 521 (by decide +kernel), hz_mp 522 (by decide +kernel)⟩
theorem fvX2_118 : hz_FV RX2 118 mX2_kindOf := ⟨hz_mp 524 (by decide +kernel), hz_mp 525 (by decide +kernel), hz_mp 526 (by decide +kernel)⟩
theorem fvX2_122_X6 : hz_FV RX2 122 mX6_soundsDown := ⟨hz_mp 528 (by decide +kernel), hz_mp 529 (by decide +kernel), hz_mp 530 (by decide +kernel)⟩
theorem fvX2_122_X4 : hz_FU RX2 122 RX4 RX6 yX6_soundsDown mX6_soundsDown := ⟨hz_mp 528 (by decide +kernel), hz_mp 531 (by decide +kernel), hz_mp 529 (by decide +kernel), hz_mp 536 (by decide +kernel), hz_mp 529 (by decide +kernel), ⟨cX6_soundsDown, 1, (some .boolean), hz_mp 539 (by decide +kernel)⟩, by decide +kernel, rfl⟩
theorem fvX2_122_X9 : hz_FU RX2 122 RX9 RX6 yX6_soundsDown mX6_soundsDown := ⟨hz_mp 528 (by decide +kernel), hz_mp 531 (by decide +kernel), hz_mp 529 (by decide +kernel), hz_mp 538 (by decide +kernel), hz_mp 529 (by decide +kernel), ⟨cX6_soundsDown, 1, (some .boolean), hz_mp 539 (by decide +kernel)⟩, by decide +kernel, rfl⟩
theorem fvX2_122_X0 : hz_FU RX2 122 RX0 RX6 yX6_soundsDown mX0_soundsDown := ⟨hz_mp 528 (by decide +kernel), hz_mp 531 (by decide +kernel), hz_mp 529 (by decide +kernel), hz_mp 532 (by decide +kernel), hz_mp 533 (by decide +kernel), ⟨cX6_soundsDown, 1, (some .boolean), hz_mp 539 (by decide +kernel)⟩, by decide +kernel, rfl⟩
theorem fvX2_122_X5 : hz_FU RX2 122 RX5 RX6 yX6_soundsDown mX0_soundsDown := ⟨hz_mp 528 (by decide +kernel), hz_mp 531 (by decide +kernel), hz_mp 529 (by decide +kernel), hz_mp 537 (by decide +kernel), hz_mp 533 (by decide +kernel), ⟨cX6_soundsDown, 1, (some .boolean), hz_mp 539 (by decide +kernel)⟩, by decide +kernel, rfl⟩
theorem fvX2_122_X1 : hz_FU RX2 122 RX1 RX6 yX6_soundsDown mX6_soundsDown := ⟨hz_mp 528 (by decide +kernel), hz_mp 531 (by decide +kernel), hz_mp 529 (by decide +kernel), hz_mp 535 (by decide +kernel), hz_mp 529 (by decide +kernel), ⟨cX6_soundsDown, 1, (some .boolean), hz_mp 539 (by decide +kernel)⟩, by decide +kernel, rfl⟩
theorem fvX2_126 : hz_FV RX2 126 mX2_mayBeep := ⟨hz_mp 517 (by decide +kernel), hz_mp 518 (by decide +kernel), hz_mp 519 (by decide +kernel)⟩
theorem fvX2_130_X6 : hz_FV RX2 130 mX6_sounds := ⟨hz_mp 540 (by decide +kernel), hz_mp 541 (by decide +kernel), hz_mp 542 (by decide +kernel)⟩
theorem fvX2_130_X4 : hz_FU RX2 130 RX4 RX6 yX6_sounds mX4_sounds := ⟨hz_mp 540 (by decide +kernel), hz_mp 543 (by decide +kernel), hz_mp 541 (by decide +kernel), hz_mp 552 (by decide +kernel), hz_mp 549 (by decide +kernel), ⟨cX6_sounds, 4, (some .boolean), hz_mp 560 (by decide +kernel)⟩, by decide +kernel, rfl⟩
theorem fvX2_130_X9 : hz_FU RX2 130 RX9 RX6 yX6_sounds mX9_sounds := ⟨hz_mp 540 (by decide +kernel), hz_mp 543 (by decide +kernel), hz_mp 541 (by decide +kernel), hz_mp 556 (by decide +kernel), hz_mp 557 (by decide +kernel), ⟨cX6_sounds, 4, (some .boolean), hz_mp 560 (by decide +kernel)⟩, by decide +kernel, rfl⟩
theorem fvX2_130_X0 : hz_FU RX2 130 RX0 RX6 yX6_sounds mX6_sounds := ⟨hz_mp 540 (by decide +kernel), hz_mp 543 (by decide +kernel), hz_mp 541 (by decide +kernel), hz_mp 544 (by decide +kernel), hz_mp 541 (by decide +kernel), ⟨cX6_sounds, 4, (some .boolean), hz_mp 560 (by decide +kernel)⟩, by decide +kernel, rfl⟩
theorem fvX2_130_X5 : hz_FU RX2 130 RX5 RX6 yX6_sounds mX5_sounds := ⟨hz_mp 540 (by decide +kernel), hz_mp 543 (by decide +kernel), hz_mp 541 (by decide +kernel), hz_mp 553 (by decide +kernel), hz_mp 554 (by decide +kernel), ⟨cX6_sounds, 4, (some .boolean), hz_mp 560 (by decide +kernel)⟩, by decide +kernel, rfl⟩
theorem fvX2_130_X1 : hz_FU RX2 130 RX1 RX6 yX6_sounds mX1_sounds := ⟨hz_mp 540 (by decide +kernel), hz_mp 543 (by decide +kernel), hz_mp 541 (by decide +kernel), hz_mp 545 (by decide +kernel), hz_mp 546 (by decide +kernel), ⟨cX6_sounds, 4, (some .boolean), hz_mp 560 (by decide +kernel)⟩, by decide +kernel, rfl⟩
theorem fvX2_134_X6 : hz_FV RX2 134 mX6_loud := ⟨hz_mp 565 (by decide +kernel), hz_mp 566 (by decide +kernel), hz_mp 567 (by decide +kernel)⟩
theorem fvX2_134_X4 : hz_FU RX2 134 RX4 RX6 yX6_loud mX6_loud := ⟨hz_mp 565 (by decide +kernel), hz_mp 568 (by decide +kernel), hz_mp 566 (by decide +kernel), hz_mp 574 (by decide +kernel), hz_mp 566 (by decide +kernel), ⟨cX6_loud, 1, (some .int), hz_mp 583 (by decide +kernel)⟩, by decide +kernel, rfl⟩
theorem fvX2_134_X9 : hz_FU RX2 134 RX9 RX6 yX6_loud mX9_loud := ⟨hz_mp 565 (by decide +kernel), hz_mp 568 (by decide +kernel), hz_mp 566 (by decide +kernel), hz_mp 579 (by decide +kernel), hz_mp 580 (by decide +kernel), ⟨cX6_loud, 1, (some .int), hz_mp 583 (by decide +kernel)⟩, by decide +kernel, rfl⟩
theorem fvX2_134_X0 : hz_FU RX2 134 RX0 RX6 yX6_loud mX0_loud := ⟨hz_mp 565 (by decide +kernel), hz_mp 568 (by decide +kernel), hz_mp 566 (by decide +kernel), hz_mp 569 (by decide +kernel), hz_mp 570 (by decide +kernel), ⟨cX6_loud, 1, (some .int), hz_mp 583 (by decide +kernel)⟩, by decide +kernel, rfl⟩
theorem fvX2_134_X5 : hz_FU RX2 134 RX5 RX6 yX6_loud mX5_loud := ⟨hz_mp 565 (by decide +kernel), hz_mp 568 (by decide +kernel), hz_mp 566 (by decide +kernel), hz_mp 575 (by decide +kernel), hz_mp 576 (by decide +kernel), ⟨cX6_loud, 1, (some .int), hz_mp 583 (by decide +kernel)⟩, by decide +kernel, rfl⟩
theorem fvX2_134_X1 : hz_FU RX2 134 RX1 RX6 yX6_loud mX6_loud := ⟨hz_mp 565 (by decide +kernel), hz_mp 568 (by decide +kernel), hz_mp 566 (by decide +kernel), hz_mp 573 (by decide +kernel), hz_mp 566 (by decide +kernel), ⟨cX6_loud, 1, (some .int), hz_mp 583 (by decide +kernel)⟩, by decide +kernel, rfl⟩
theorem fvX2_138 : hz_FV RX2 138 mX2_distanceBetween := ⟨hz_mp 584 (by decide +kernel), hz_mp 585 (by decide +kernel), hz_mp 586 (by decide +kernel)⟩
theorem fvX2_141 : hz_FV RX2 141 mX2_soundsIn := ⟨hz_mp 513 (by decide +kernel), hz_mp 514 (by decide +kernel), hz_mp 515 (by decide +kernel)⟩
theorem fvX2_144 : hz_FV RX2 144 mX2_reaches := ⟨hz_mp 561 (by decide +kernel), hz_mp 562 (by decide +kernel), hz_mp 563 (by decide +kernel)⟩
theorem fvX2_147_X6 : hz_FV RX2 147 mX6_everSounds := ⟨hz_mp 841 (by decide +kernel), hz_mp 666 (by decide +kernel), hz_mp 667 (by decide +kernel)⟩
theorem fvX2_147_X4 : hz_FU RX2 147 RX4 RX6 yX6_everSounds mX6_everSounds := ⟨hz_mp 841 (by decide +kernel), hz_mp 668 (by decide +kernel), hz_mp 666 (by decide +kernel), hz_mp 671 (by decide +kernel), hz_mp 666 (by decide +kernel), ⟨cX6_everSounds, 4, (some .boolean), hz_mp 674 (by decide +kernel)⟩, by decide +kernel, rfl⟩
theorem fvX2_147_X9 : hz_FU RX2 147 RX9 RX6 yX6_everSounds mX6_everSounds := ⟨hz_mp 841 (by decide +kernel), hz_mp 668 (by decide +kernel), hz_mp 666 (by decide +kernel), hz_mp 673 (by decide +kernel), hz_mp 666 (by decide +kernel), ⟨cX6_everSounds, 4, (some .boolean), hz_mp 674 (by decide +kernel)⟩, by decide +kernel, rfl⟩
theorem fvX2_147_X0 : hz_FU RX2 147 RX0 RX6 yX6_everSounds mX6_everSounds := ⟨hz_mp 841 (by decide +kernel), hz_mp 668 (by decide +kernel), hz_mp 666 (by decide +kernel), hz_mp 669 (by decide +kernel), hz_mp 666 (by decide +kernel), ⟨cX6_everSounds, 4, (some .boolean), hz_mp 674 (by decide +kernel)⟩, by decide +kernel, rfl⟩
theorem fvX2_147_X5 : hz_FU RX2 147 RX5 RX6 yX6_everSounds mX6_everSounds := ⟨hz_mp 841 (by decide +kernel), hz_mp 668 (by decide +kernel), hz_mp 666 (by decide +kernel), hz_mp 672 (by decide +kernel), hz_mp 666 (by decide +kernel), ⟨cX6_everSounds, 4, (some .boolean), hz_mp 674 (by decide +kernel)⟩, by decide +kernel, rfl⟩
theorem fvX2_147_X1 : hz_FU RX2 147 RX1 RX6 yX6_everSounds mX6_everSounds := ⟨hz_mp 841 (by decide +kernel), hz_mp 668 (by decide +kernel), hz_mp 666 (by decide +kernel), hz_mp 670 (by decide +kernel), hz_mp 666 (by decide +kernel), ⟨cX6_everSounds, 4, (some .boolean), hz_mp 674 (by decide +kernel)⟩, by decide +kernel, rfl⟩
theorem fvX2_150 : hz_FV RX2 150 mX2_doorBetween := ⟨hz_mp 656 (by decide +kernel), hz_mp 340 (by decide +kernel), hz_mp 341 (by decide +kernel)⟩
theorem fvX2_153 : hz_FV RX2 153 mX2_entrance := ⟨hz_mp 766 (by decide +kernel), hz_mp 653 (by decide +kernel), hz_mp 654 (by decide +kernel)⟩
theorem fvX2_156 : hz_FV RX2 156 mX2_fitsNotes := ⟨hz_mp 795 (by decide +kernel), hz_mp 797 (by decide +kernel), hz_mp 21 (by decide +kernel)⟩
theorem fsX2_159 : hz_FSN RX2 159 mX10_mix "BeepHouse" := ⟨hz_mn 884 (by decide +kernel), hz_mp 877 (by decide +kernel)⟩
theorem foX2_3 : Cond.methodLink RX2 3 objectInit ∈ hz_tbl ∧ Cond.instanceMethod objectInit ∈ hz_tbl ∧ Cond.code objectInit ⟨#[0xb1]⟩ 1 none ∈ hz_tbl := ⟨hz_mp 150 (by decide +kernel), hz_mp 81 (by decide +kernel), hz_mp 82 (by decide +kernel)⟩
theorem fiX2_32 : hz_FIN RX2 32 mX3_init "BeepHouse" := ⟨hz_mn 153 (by decide +kernel), hz_mp 154 (by decide +kernel), rfl, rfl⟩
theorem fiX2_43 : hz_FIN RX2 43 mX6_init "BeepHouse" := ⟨hz_mn 192 (by decide +kernel), hz_mp 193 (by decide +kernel), rfl, rfl⟩
theorem fiX2_46 : hz_FIN RX2 46 mX4_init "BeepHouse" := ⟨hz_mn 199 (by decide +kernel), hz_mp 200 (by decide +kernel), rfl, rfl⟩
theorem fiX2_49 : hz_FIN RX2 49 mX9_init "BeepHouse" := ⟨hz_mn 206 (by decide +kernel), hz_mp 207 (by decide +kernel), rfl, rfl⟩
theorem fiX2_52 : hz_FIN RX2 52 mX0_init "BeepHouse" := ⟨hz_mn 213 (by decide +kernel), hz_mp 214 (by decide +kernel), rfl, rfl⟩
theorem fiX2_55 : hz_FIN RX2 55 mX5_init "BeepHouse" := ⟨hz_mn 220 (by decide +kernel), hz_mp 221 (by decide +kernel), rfl, rfl⟩
theorem fiX2_58 : hz_FIN RX2 58 mX1_init "BeepHouse" := ⟨hz_mn 227 (by decide +kernel), hz_mp 228 (by decide +kernel), rfl, rfl⟩
theorem fvX2_63 : hz_FV RX2 63 mX2_reset := ⟨hz_mp 232 (by decide +kernel), hz_mp 233 (by decide +kernel), hz_mp 234 (by decide +kernel)⟩
theorem fcX2_92 : Cond.methodLink RX2 92 arraycopyName ∈ hz_tbl ∧ Cond.native arraycopyName ∈ hz_tbl ∧ Cond.static arraycopyName ∈ hz_tbl ∧ Cond.initialized "java/lang/System" ∈ hz_tbl := ⟨hz_mp 854 (by decide +kernel), hz_mp 501 (by decide +kernel), hz_mp 500 (by decide +kernel), hz_mp 72 (by decide +kernel)⟩
theorem fvX2_98 : hz_FV RX2 98 mX3_copyFrom := ⟨hz_mp 495 (by decide +kernel), hz_mp 496 (by decide +kernel), hz_mp 497 (by decide +kernel)⟩
theorem fcX3_15 : Cond.methodLink RX3 15 arraycopyName ∈ hz_tbl ∧ Cond.native arraycopyName ∈ hz_tbl ∧ Cond.static arraycopyName ∈ hz_tbl ∧ Cond.initialized "java/lang/System" ∈ hz_tbl := ⟨hz_mp 499 (by decide +kernel), hz_mp 501 (by decide +kernel), hz_mp 500 (by decide +kernel), hz_mp 72 (by decide +kernel)⟩
theorem foX3_3 : Cond.methodLink RX3 3 objectInit ∈ hz_tbl ∧ Cond.instanceMethod objectInit ∈ hz_tbl ∧ Cond.code objectInit ⟨#[0xb1]⟩ 1 none ∈ hz_tbl := ⟨hz_mp 156 (by decide +kernel), hz_mp 81 (by decide +kernel), hz_mp 82 (by decide +kernel)⟩
theorem fiX4_1 : hz_FIN RX4 1 mX6_init "BeepHouse" := ⟨hz_mn 202 (by decide +kernel), hz_mp 193 (by decide +kernel), rfl, rfl⟩
theorem fpX4_7 : hz_FSU RX4 7 mX6_sounds := ⟨hz_mp 551 (by decide +kernel), hz_mp 543 (by decide +kernel), hz_mp 203 (by decide +kernel), hz_mp 541 (by decide +kernel), by decide⟩
theorem fiX5_1 : hz_FIN RX5 1 mX0_init "BeepHouse" := ⟨hz_mn 223 (by decide +kernel), hz_mp 214 (by decide +kernel), rfl, rfl⟩
theorem fpX5_7 : hz_FSU RX5 7 mX0_loud := ⟨hz_mp 578 (by decide +kernel), hz_mp 1263 (by decide +kernel), hz_mp 224 (by decide +kernel), hz_mp 570 (by decide +kernel), by decide⟩
theorem foX6_1 : Cond.methodLink RX6 1 objectInit ∈ hz_tbl ∧ Cond.instanceMethod objectInit ∈ hz_tbl ∧ Cond.code objectInit ⟨#[0xb1]⟩ 1 none ∈ hz_tbl := ⟨hz_mp 195 (by decide +kernel), hz_mp 81 (by decide +kernel), hz_mp 82 (by decide +kernel)⟩
theorem fvX6_13_X6 : hz_FV RX6 13 mX6_sounds := ⟨hz_mp 677 (by decide +kernel), hz_mp 541 (by decide +kernel), hz_mp 542 (by decide +kernel)⟩
theorem fvX6_13_X4 : hz_FU RX6 13 RX4 RX6 yX6_sounds mX4_sounds := ⟨hz_mp 677 (by decide +kernel), hz_mp 543 (by decide +kernel), hz_mp 541 (by decide +kernel), hz_mp 552 (by decide +kernel), hz_mp 549 (by decide +kernel), ⟨cX6_sounds, 4, (some .boolean), hz_mp 560 (by decide +kernel)⟩, by decide +kernel, rfl⟩
theorem fvX6_13_X9 : hz_FU RX6 13 RX9 RX6 yX6_sounds mX9_sounds := ⟨hz_mp 677 (by decide +kernel), hz_mp 543 (by decide +kernel), hz_mp 541 (by decide +kernel), hz_mp 556 (by decide +kernel), hz_mp 557 (by decide +kernel), ⟨cX6_sounds, 4, (some .boolean), hz_mp 560 (by decide +kernel)⟩, by decide +kernel, rfl⟩
theorem fvX6_13_X0 : hz_FU RX6 13 RX0 RX6 yX6_sounds mX6_sounds := ⟨hz_mp 677 (by decide +kernel), hz_mp 543 (by decide +kernel), hz_mp 541 (by decide +kernel), hz_mp 544 (by decide +kernel), hz_mp 541 (by decide +kernel), ⟨cX6_sounds, 4, (some .boolean), hz_mp 560 (by decide +kernel)⟩, by decide +kernel, rfl⟩
theorem fvX6_13_X5 : hz_FU RX6 13 RX5 RX6 yX6_sounds mX5_sounds := ⟨hz_mp 677 (by decide +kernel), hz_mp 543 (by decide +kernel), hz_mp 541 (by decide +kernel), hz_mp 553 (by decide +kernel), hz_mp 554 (by decide +kernel), ⟨cX6_sounds, 4, (some .boolean), hz_mp 560 (by decide +kernel)⟩, by decide +kernel, rfl⟩
theorem fvX6_13_X1 : hz_FU RX6 13 RX1 RX6 yX6_sounds mX1_sounds := ⟨hz_mp 677 (by decide +kernel), hz_mp 543 (by decide +kernel), hz_mp 541 (by decide +kernel), hz_mp 545 (by decide +kernel), hz_mp 546 (by decide +kernel), ⟨cX6_sounds, 4, (some .boolean), hz_mp 560 (by decide +kernel)⟩, by decide +kernel, rfl⟩
theorem fvX7_105 : hz_FV RX7 105 mX2_distanceBetween := ⟨hz_mp 728 (by decide +kernel), hz_mp 585 (by decide +kernel), hz_mp 586 (by decide +kernel)⟩
theorem fvX7_108 : hz_FV RX7 108 mX7_leastFrom := ⟨hz_mp 737 (by decide +kernel), hz_mp 739 (by decide +kernel), hz_mp 18 (by decide +kernel)⟩
theorem fvX7_111 : hz_FV RX7 111 mX7_leastBy := ⟨hz_mp 741 (by decide +kernel), hz_mp 743 (by decide +kernel), hz_mp 19 (by decide +kernel)⟩
theorem fsX7_115 : hz_FS RX7 115 mJ9_min_7cf53 := ⟨hz_mp 745 (by decide +kernel), hz_mp 507 (by decide +kernel)⟩
theorem fvX7_118 : hz_FV RX7 118 mX7_firstOfLeast := ⟨hz_mp 754 (by decide +kernel), hz_mp 756 (by decide +kernel), hz_mp 20 (by decide +kernel)⟩
theorem foX7_3 : Cond.methodLink RX7 3 objectInit ∈ hz_tbl ∧ Cond.instanceMethod objectInit ∈ hz_tbl ∧ Cond.code objectInit ⟨#[0xb1]⟩ 1 none ∈ hz_tbl := ⟨hz_mp 115 (by decide +kernel), hz_mp 81 (by decide +kernel), hz_mp 82 (by decide +kernel)⟩
theorem fvX7_39 : hz_FV RX7 39 mX2_entrance := ⟨hz_mp 690 (by decide +kernel), hz_mp 653 (by decide +kernel), hz_mp 654 (by decide +kernel)⟩
theorem fvX7_43 : hz_FV RX7 43 mX7_settle := ⟨hz_mp 695 (by decide +kernel), hz_mp 697 (by decide +kernel), hz_mp 16 (by decide +kernel)⟩
theorem fsX7_47 : hz_FS RX7 47 mJ6_bitCount_0f7a4 := ⟨hz_mp 699 (by decide +kernel), hz_mp 700 (by decide +kernel)⟩
theorem fvX7_53 : hz_FV RX7 53 mX7_worstPart := ⟨hz_mp 705 (by decide +kernel), hz_mp 707 (by decide +kernel), hz_mp 17 (by decide +kernel)⟩
theorem fsX7_56 : hz_FSN RX7 56 mX10_has "BeepHouse" := ⟨hz_mn 709 (by decide +kernel), hz_mp 522 (by decide +kernel)⟩
theorem fsX7_60 : hz_FS RX7 60 mJ9_max_7cf53 := ⟨hz_mp 710 (by decide +kernel), hz_mp 711 (by decide +kernel)⟩
theorem fvX7_65 : hz_FV RX7 65 mX7_greatestGroup := ⟨hz_mp 807 (by decide +kernel), hz_mp 809 (by decide +kernel), hz_mp 22 (by decide +kernel)⟩
theorem fvX7_71 : hz_FV RX7 71 mX2_kindOf := ⟨hz_mp 721 (by decide +kernel), hz_mp 525 (by decide +kernel), hz_mp 526 (by decide +kernel)⟩
theorem fvX7_84_X6 : hz_FV RX7 84 mX6_soundsDown := ⟨hz_mp 722 (by decide +kernel), hz_mp 529 (by decide +kernel), hz_mp 530 (by decide +kernel)⟩
theorem fvX7_84_X4 : hz_FU RX7 84 RX4 RX6 yX6_soundsDown mX6_soundsDown := ⟨hz_mp 722 (by decide +kernel), hz_mp 531 (by decide +kernel), hz_mp 529 (by decide +kernel), hz_mp 536 (by decide +kernel), hz_mp 529 (by decide +kernel), ⟨cX6_soundsDown, 1, (some .boolean), hz_mp 539 (by decide +kernel)⟩, by decide +kernel, rfl⟩
theorem fvX7_84_X9 : hz_FU RX7 84 RX9 RX6 yX6_soundsDown mX6_soundsDown := ⟨hz_mp 722 (by decide +kernel), hz_mp 531 (by decide +kernel), hz_mp 529 (by decide +kernel), hz_mp 538 (by decide +kernel), hz_mp 529 (by decide +kernel), ⟨cX6_soundsDown, 1, (some .boolean), hz_mp 539 (by decide +kernel)⟩, by decide +kernel, rfl⟩
theorem fvX7_84_X0 : hz_FU RX7 84 RX0 RX6 yX6_soundsDown mX0_soundsDown := ⟨hz_mp 722 (by decide +kernel), hz_mp 531 (by decide +kernel), hz_mp 529 (by decide +kernel), hz_mp 532 (by decide +kernel), hz_mp 533 (by decide +kernel), ⟨cX6_soundsDown, 1, (some .boolean), hz_mp 539 (by decide +kernel)⟩, by decide +kernel, rfl⟩
theorem fvX7_84_X5 : hz_FU RX7 84 RX5 RX6 yX6_soundsDown mX0_soundsDown := ⟨hz_mp 722 (by decide +kernel), hz_mp 531 (by decide +kernel), hz_mp 529 (by decide +kernel), hz_mp 537 (by decide +kernel), hz_mp 533 (by decide +kernel), ⟨cX6_soundsDown, 1, (some .boolean), hz_mp 539 (by decide +kernel)⟩, by decide +kernel, rfl⟩
theorem fvX7_84_X1 : hz_FU RX7 84 RX1 RX6 yX6_soundsDown mX6_soundsDown := ⟨hz_mp 722 (by decide +kernel), hz_mp 531 (by decide +kernel), hz_mp 529 (by decide +kernel), hz_mp 535 (by decide +kernel), hz_mp 529 (by decide +kernel), ⟨cX6_soundsDown, 1, (some .boolean), hz_mp 539 (by decide +kernel)⟩, by decide +kernel, rfl⟩
theorem fvX7_96_X6 : hz_FV RX7 96 mX6_everSounds := ⟨hz_mp 723 (by decide +kernel), hz_mp 666 (by decide +kernel), hz_mp 667 (by decide +kernel)⟩
theorem fvX7_96_X4 : hz_FU RX7 96 RX4 RX6 yX6_everSounds mX6_everSounds := ⟨hz_mp 723 (by decide +kernel), hz_mp 668 (by decide +kernel), hz_mp 666 (by decide +kernel), hz_mp 671 (by decide +kernel), hz_mp 666 (by decide +kernel), ⟨cX6_everSounds, 4, (some .boolean), hz_mp 674 (by decide +kernel)⟩, by decide +kernel, rfl⟩
theorem fvX7_96_X9 : hz_FU RX7 96 RX9 RX6 yX6_everSounds mX6_everSounds := ⟨hz_mp 723 (by decide +kernel), hz_mp 668 (by decide +kernel), hz_mp 666 (by decide +kernel), hz_mp 673 (by decide +kernel), hz_mp 666 (by decide +kernel), ⟨cX6_everSounds, 4, (some .boolean), hz_mp 674 (by decide +kernel)⟩, by decide +kernel, rfl⟩
theorem fvX7_96_X0 : hz_FU RX7 96 RX0 RX6 yX6_everSounds mX6_everSounds := ⟨hz_mp 723 (by decide +kernel), hz_mp 668 (by decide +kernel), hz_mp 666 (by decide +kernel), hz_mp 669 (by decide +kernel), hz_mp 666 (by decide +kernel), ⟨cX6_everSounds, 4, (some .boolean), hz_mp 674 (by decide +kernel)⟩, by decide +kernel, rfl⟩
theorem fvX7_96_X5 : hz_FU RX7 96 RX5 RX6 yX6_everSounds mX6_everSounds := ⟨hz_mp 723 (by decide +kernel), hz_mp 668 (by decide +kernel), hz_mp 666 (by decide +kernel), hz_mp 672 (by decide +kernel), hz_mp 666 (by decide +kernel), ⟨cX6_everSounds, 4, (some .boolean), hz_mp 674 (by decide +kernel)⟩, by decide +kernel, rfl⟩
theorem fvX7_96_X1 : hz_FU RX7 96 RX1 RX6 yX6_everSounds mX6_everSounds := ⟨hz_mp 723 (by decide +kernel), hz_mp 668 (by decide +kernel), hz_mp 666 (by decide +kernel), hz_mp 670 (by decide +kernel), hz_mp 666 (by decide +kernel), ⟨cX6_everSounds, 4, (some .boolean), hz_mp 674 (by decide +kernel)⟩, by decide +kernel, rfl⟩
theorem fvX8_109 : hz_FV RX8 109 mX8_behindRun := ⟨hz_mp 387 (by decide +kernel), hz_mp 389 (by decide +kernel), hz_mp 3 (by decide +kernel)⟩
theorem fvX8_113 : hz_FV RX8 113 mX8_valueOfFigures := ⟨hz_mp 392 (by decide +kernel), hz_mp 394 (by decide +kernel), hz_mp 4 (by decide +kernel)⟩
theorem fvX8_22 : hz_FV RX8 22 mX8_step := ⟨hz_mp 383 (by decide +kernel), hz_mp 385 (by decide +kernel), hz_mp 2 (by decide +kernel)⟩
theorem fvX8_28 : hz_FV RX8 28 mX8_item := ⟨hz_mp 396 (by decide +kernel), hz_mp 398 (by decide +kernel), hz_mp 5 (by decide +kernel)⟩
theorem foX8_3 : Cond.methodLink RX8 3 objectInit ∈ hz_tbl ∧ Cond.instanceMethod objectInit ∈ hz_tbl ∧ Cond.code objectInit ⟨#[0xb1]⟩ 1 none ∈ hz_tbl := ⟨hz_mp 88 (by decide +kernel), hz_mp 81 (by decide +kernel), hz_mp 82 (by decide +kernel)⟩
theorem fvX8_37 : hz_FV RX8 37 mX8_says := ⟨hz_mp 401 (by decide +kernel), hz_mp 403 (by decide +kernel), hz_mp 6 (by decide +kernel)⟩
end
section
theorem fvX8_41 : hz_FV RX8 41 mX8_houseItem := ⟨hz_mp 453 (by decide +kernel), hz_mp 455 (by decide +kernel), hz_mp 7 (by decide +kernel)⟩
theorem fvX8_47 : hz_FV RX8 47 mX8_doorItem := ⟨hz_mp 466 (by decide +kernel), hz_mp 468 (by decide +kernel), hz_mp 10 (by decide +kernel)⟩
theorem fvX8_57 : hz_FV RX8 57 mX8_alarmItem := ⟨hz_mp 472 (by decide +kernel), hz_mp 474 (by decide +kernel), hz_mp 11 (by decide +kernel)⟩
theorem fvX8_62 : hz_FV RX8 62 mX8_downItem := ⟨hz_mp 478 (by decide +kernel), hz_mp 480 (by decide +kernel), hz_mp 12 (by decide +kernel)⟩
theorem fvX8_65 : hz_FV RX8 65 mX8_number := ⟨hz_mp 457 (by decide +kernel), hz_mp 459 (by decide +kernel), hz_mp 8 (by decide +kernel)⟩
theorem fvX8_69 : hz_FV RX8 69 mX8_stop := ⟨hz_mp 461 (by decide +kernel), hz_mp 463 (by decide +kernel), hz_mp 9 (by decide +kernel)⟩
theorem fvX8_85 : hz_FV RX8 85 mX2_setDoor := ⟨hz_mp 470 (by decide +kernel), hz_mp 344 (by decide +kernel), hz_mp 345 (by decide +kernel)⟩
theorem fvX8_89 : hz_FV RX8 89 mX2_addAlarm := ⟨hz_mp 476 (by decide +kernel), hz_mp 360 (by decide +kernel), hz_mp 361 (by decide +kernel)⟩
theorem fvX8_92 : hz_FV RX8 92 mX3_setDown := ⟨hz_mp 482 (by decide +kernel), hz_mp 483 (by decide +kernel), hz_mp 484 (by decide +kernel)⟩
theorem fsX8_96 : hz_FSN RX8 96 mX10_within "BeepHouse" := ⟨hz_mn 391 (by decide +kernel), hz_mp 337 (by decide +kernel)⟩
theorem fiX9_1 : hz_FIN RX9 1 mX6_init "BeepHouse" := ⟨hz_mn 209 (by decide +kernel), hz_mp 193 (by decide +kernel), rfl, rfl⟩
theorem fpX9_11 : hz_FSU RX9 11 mX6_loud := ⟨hz_mp 582 (by decide +kernel), hz_mp 568 (by decide +kernel), hz_mp 210 (by decide +kernel), hz_mp 566 (by decide +kernel), by decide⟩
theorem fpX9_7 : hz_FSU RX9 7 mX6_sounds := ⟨hz_mp 559 (by decide +kernel), hz_mp 543 (by decide +kernel), hz_mp 210 (by decide +kernel), hz_mp 541 (by decide +kernel), by decide⟩
theorem foX10_1 : Cond.methodLink RX10 1 objectInit ∈ hz_tbl ∧ Cond.instanceMethod objectInit ∈ hz_tbl ∧ Cond.code objectInit ⟨#[0xb1]⟩ 1 none ∈ hz_tbl := ⟨hz_mp 80 (by decide +kernel), hz_mp 81 (by decide +kernel), hz_mp 82 (by decide +kernel)⟩
theorem fvX10_114 : hz_FV RX10 114 mX2_bitsHeard := ⟨hz_mp 509 (by decide +kernel), hz_mp 510 (by decide +kernel), hz_mp 511 (by decide +kernel)⟩
theorem fvX10_117 : hz_FV RX10 117 mX2_distanceBetween := ⟨hz_mp 596 (by decide +kernel), hz_mp 585 (by decide +kernel), hz_mp 586 (by decide +kernel)⟩
theorem fvX10_120 : hz_FV RX10 120 mX10_refuseNo := ⟨hz_mp 597 (by decide +kernel), hz_mp 599 (by decide +kernel), hz_mp 14 (by decide +kernel)⟩
theorem fvX10_123 : hz_FV RX10 123 mX10_isAlarm := ⟨hz_mp 605 (by decide +kernel), hz_mp 607 (by decide +kernel), hz_mp 15 (by decide +kernel)⟩
theorem fvX10_130 : hz_FV RX10 130 mX3_setDown := ⟨hz_mp 609 (by decide +kernel), hz_mp 483 (by decide +kernel), hz_mp 484 (by decide +kernel)⟩
theorem fvX10_143 : hz_FV RX10 143 mX2_goBack := ⟨hz_mp 622 (by decide +kernel), hz_mp 623 (by decide +kernel), hz_mp 624 (by decide +kernel)⟩
theorem fvX10_152 : hz_FV RX10 152 mX2_kindOf := ⟨hz_mp 630 (by decide +kernel), hz_mp 525 (by decide +kernel), hz_mp 526 (by decide +kernel)⟩
theorem fvX10_156_X6 : hz_FV RX10 156 mX6_loud := ⟨hz_mp 631 (by decide +kernel), hz_mp 566 (by decide +kernel), hz_mp 567 (by decide +kernel)⟩
theorem fvX10_156_X4 : hz_FU RX10 156 RX4 RX6 yX6_loud mX6_loud := ⟨hz_mp 631 (by decide +kernel), hz_mp 568 (by decide +kernel), hz_mp 566 (by decide +kernel), hz_mp 574 (by decide +kernel), hz_mp 566 (by decide +kernel), ⟨cX6_loud, 1, (some .int), hz_mp 583 (by decide +kernel)⟩, by decide +kernel, rfl⟩
theorem fvX10_156_X9 : hz_FU RX10 156 RX9 RX6 yX6_loud mX9_loud := ⟨hz_mp 631 (by decide +kernel), hz_mp 568 (by decide +kernel), hz_mp 566 (by decide +kernel), hz_mp 579 (by decide +kernel), hz_mp 580 (by decide +kernel), ⟨cX6_loud, 1, (some .int), hz_mp 583 (by decide +kernel)⟩, by decide +kernel, rfl⟩
theorem fvX10_156_X0 : hz_FU RX10 156 RX0 RX6 yX6_loud mX0_loud := ⟨hz_mp 631 (by decide +kernel), hz_mp 568 (by decide +kernel), hz_mp 566 (by decide +kernel), hz_mp 569 (by decide +kernel), hz_mp 570 (by decide +kernel), ⟨cX6_loud, 1, (some .int), hz_mp 583 (by decide +kernel)⟩, by decide +kernel, rfl⟩
theorem fvX10_156_X5 : hz_FU RX10 156 RX5 RX6 yX6_loud mX5_loud := ⟨hz_mp 631 (by decide +kernel), hz_mp 568 (by decide +kernel), hz_mp 566 (by decide +kernel), hz_mp 575 (by decide +kernel), hz_mp 576 (by decide +kernel), ⟨cX6_loud, 1, (some .int), hz_mp 583 (by decide +kernel)⟩, by decide +kernel, rfl⟩
theorem fvX10_156_X1 : hz_FU RX10 156 RX1 RX6 yX6_loud mX6_loud := ⟨hz_mp 631 (by decide +kernel), hz_mp 568 (by decide +kernel), hz_mp 566 (by decide +kernel), hz_mp 573 (by decide +kernel), hz_mp 566 (by decide +kernel), ⟨cX6_loud, 1, (some .int), hz_mp 583 (by decide +kernel)⟩, by decide +kernel, rfl⟩
theorem fsX10_161 : hz_FS RX10 161 mX10_isSecond := ⟨hz_mp 640 (by decide +kernel), hz_mp 641 (by decide +kernel)⟩
theorem fvX10_164 : hz_FV RX10 164 mX2_soundsIn := ⟨hz_mp 643 (by decide +kernel), hz_mp 514 (by decide +kernel), hz_mp 515 (by decide +kernel)⟩
theorem fvX10_168 : hz_FV RX10 168 mX2_entrance := ⟨hz_mp 652 (by decide +kernel), hz_mp 653 (by decide +kernel), hz_mp 654 (by decide +kernel)⟩
theorem fvX10_171_X6 : hz_FV RX10 171 mX6_everSounds := ⟨hz_mp 665 (by decide +kernel), hz_mp 666 (by decide +kernel), hz_mp 667 (by decide +kernel)⟩
theorem fvX10_171_X4 : hz_FU RX10 171 RX4 RX6 yX6_everSounds mX6_everSounds := ⟨hz_mp 665 (by decide +kernel), hz_mp 668 (by decide +kernel), hz_mp 666 (by decide +kernel), hz_mp 671 (by decide +kernel), hz_mp 666 (by decide +kernel), ⟨cX6_everSounds, 4, (some .boolean), hz_mp 674 (by decide +kernel)⟩, by decide +kernel, rfl⟩
theorem fvX10_171_X9 : hz_FU RX10 171 RX9 RX6 yX6_everSounds mX6_everSounds := ⟨hz_mp 665 (by decide +kernel), hz_mp 668 (by decide +kernel), hz_mp 666 (by decide +kernel), hz_mp 673 (by decide +kernel), hz_mp 666 (by decide +kernel), ⟨cX6_everSounds, 4, (some .boolean), hz_mp 674 (by decide +kernel)⟩, by decide +kernel, rfl⟩
theorem fvX10_171_X0 : hz_FU RX10 171 RX0 RX6 yX6_everSounds mX6_everSounds := ⟨hz_mp 665 (by decide +kernel), hz_mp 668 (by decide +kernel), hz_mp 666 (by decide +kernel), hz_mp 669 (by decide +kernel), hz_mp 666 (by decide +kernel), ⟨cX6_everSounds, 4, (some .boolean), hz_mp 674 (by decide +kernel)⟩, by decide +kernel, rfl⟩
theorem fvX10_171_X5 : hz_FU RX10 171 RX5 RX6 yX6_everSounds mX6_everSounds := ⟨hz_mp 665 (by decide +kernel), hz_mp 668 (by decide +kernel), hz_mp 666 (by decide +kernel), hz_mp 672 (by decide +kernel), hz_mp 666 (by decide +kernel), ⟨cX6_everSounds, 4, (some .boolean), hz_mp 674 (by decide +kernel)⟩, by decide +kernel, rfl⟩
theorem fvX10_171_X1 : hz_FU RX10 171 RX1 RX6 yX6_everSounds mX6_everSounds := ⟨hz_mp 665 (by decide +kernel), hz_mp 668 (by decide +kernel), hz_mp 666 (by decide +kernel), hz_mp 670 (by decide +kernel), hz_mp 666 (by decide +kernel), ⟨cX6_everSounds, 4, (some .boolean), hz_mp 674 (by decide +kernel)⟩, by decide +kernel, rfl⟩
theorem fvX10_174 : hz_FV RX10 174 mX2_allBits := ⟨hz_mp 682 (by decide +kernel), hz_mp 683 (by decide +kernel), hz_mp 684 (by decide +kernel)⟩
theorem fvX10_177 : hz_FV RX10 177 mX7_learnAlike := ⟨hz_mp 686 (by decide +kernel), hz_mp 687 (by decide +kernel), hz_mp 688 (by decide +kernel)⟩
theorem fiX10_18 : hz_FIN RX10 18 mX7_init "BeepHouse" := ⟨hz_mn 112 (by decide +kernel), hz_mp 113 (by decide +kernel), rfl, rfl⟩
theorem fvX10_181 : hz_FV RX10 181 mX7_settleAll := ⟨hz_mp 691 (by decide +kernel), hz_mp 692 (by decide +kernel), hz_mp 693 (by decide +kernel)⟩
theorem fvX10_190 : hz_FV RX10 190 mX7_findTargets := ⟨hz_mp 717 (by decide +kernel), hz_mp 718 (by decide +kernel), hz_mp 719 (by decide +kernel)⟩
theorem fvX10_193 : hz_FV RX10 193 mX7_measureLegs := ⟨hz_mp 724 (by decide +kernel), hz_mp 725 (by decide +kernel), hz_mp 726 (by decide +kernel)⟩
theorem fvX10_196 : hz_FV RX10 196 mX7_allJoined := ⟨hz_mp 729 (by decide +kernel), hz_mp 730 (by decide +kernel), hz_mp 731 (by decide +kernel)⟩
theorem fvX10_200 : hz_FV RX10 200 mX7_fillRest := ⟨hz_mp 733 (by decide +kernel), hz_mp 734 (by decide +kernel), hz_mp 735 (by decide +kernel)⟩
theorem fvX10_203 : hz_FV RX10 203 mX7_wholeWay := ⟨hz_mp 746 (by decide +kernel), hz_mp 747 (by decide +kernel), hz_mp 748 (by decide +kernel)⟩
theorem fvX10_209 : hz_FV RX10 209 mX7_targetAt := ⟨hz_mp 750 (by decide +kernel), hz_mp 751 (by decide +kernel), hz_mp 752 (by decide +kernel)⟩
theorem fvX10_213 : hz_FV RX10 213 mX2_toldApart := ⟨hz_mp 762 (by decide +kernel), hz_mp 763 (by decide +kernel), hz_mp 764 (by decide +kernel)⟩
theorem fvX10_216 : hz_FV RX10 216 mX2_howManyReach := ⟨hz_mp 771 (by decide +kernel), hz_mp 772 (by decide +kernel), hz_mp 773 (by decide +kernel)⟩
theorem fvX10_222 : hz_FV RX10 222 mX2_addNote := ⟨hz_mp 779 (by decide +kernel), hz_mp 780 (by decide +kernel), hz_mp 781 (by decide +kernel)⟩
theorem fvX10_225 : hz_FV RX10 225 mX2_bitsFitting := ⟨hz_mp 791 (by decide +kernel), hz_mp 792 (by decide +kernel), hz_mp 793 (by decide +kernel)⟩
theorem fvX10_228 : hz_FV RX10 228 mX7_roomOfSmallestGroups := ⟨hz_mp 803 (by decide +kernel), hz_mp 804 (by decide +kernel), hz_mp 805 (by decide +kernel)⟩
theorem fvX10_235_X6 : hz_FV RX10 235 mX6_sounds := ⟨hz_mp 815 (by decide +kernel), hz_mp 541 (by decide +kernel), hz_mp 542 (by decide +kernel)⟩
theorem fvX10_235_X4 : hz_FU RX10 235 RX4 RX6 yX6_sounds mX4_sounds := ⟨hz_mp 815 (by decide +kernel), hz_mp 543 (by decide +kernel), hz_mp 541 (by decide +kernel), hz_mp 552 (by decide +kernel), hz_mp 549 (by decide +kernel), ⟨cX6_sounds, 4, (some .boolean), hz_mp 560 (by decide +kernel)⟩, by decide +kernel, rfl⟩
theorem fvX10_235_X9 : hz_FU RX10 235 RX9 RX6 yX6_sounds mX9_sounds := ⟨hz_mp 815 (by decide +kernel), hz_mp 543 (by decide +kernel), hz_mp 541 (by decide +kernel), hz_mp 556 (by decide +kernel), hz_mp 557 (by decide +kernel), ⟨cX6_sounds, 4, (some .boolean), hz_mp 560 (by decide +kernel)⟩, by decide +kernel, rfl⟩
theorem fvX10_235_X0 : hz_FU RX10 235 RX0 RX6 yX6_sounds mX6_sounds := ⟨hz_mp 815 (by decide +kernel), hz_mp 543 (by decide +kernel), hz_mp 541 (by decide +kernel), hz_mp 544 (by decide +kernel), hz_mp 541 (by decide +kernel), ⟨cX6_sounds, 4, (some .boolean), hz_mp 560 (by decide +kernel)⟩, by decide +kernel, rfl⟩
theorem fvX10_235_X5 : hz_FU RX10 235 RX5 RX6 yX6_sounds mX5_sounds := ⟨hz_mp 815 (by decide +kernel), hz_mp 543 (by decide +kernel), hz_mp 541 (by decide +kernel), hz_mp 553 (by decide +kernel), hz_mp 554 (by decide +kernel), ⟨cX6_sounds, 4, (some .boolean), hz_mp 560 (by decide +kernel)⟩, by decide +kernel, rfl⟩
theorem fvX10_235_X1 : hz_FU RX10 235 RX1 RX6 yX6_sounds mX1_sounds := ⟨hz_mp 815 (by decide +kernel), hz_mp 543 (by decide +kernel), hz_mp 541 (by decide +kernel), hz_mp 545 (by decide +kernel), hz_mp 546 (by decide +kernel), ⟨cX6_sounds, 4, (some .boolean), hz_mp 560 (by decide +kernel)⟩, by decide +kernel, rfl⟩
theorem fsX10_238 : hz_FS RX10 238 mJ6_bitCount_0f7a4 := ⟨hz_mp 820 (by decide +kernel), hz_mp 700 (by decide +kernel)⟩
theorem fvX10_243 : hz_FV RX10 243 mX10_setTenths := ⟨hz_mp 821 (by decide +kernel), hz_mp 823 (by decide +kernel), hz_mp 23 (by decide +kernel)⟩
theorem fiX10_25 : hz_FI RX10 25 mX2_init := ⟨hz_mp 147 (by decide +kernel), hz_mp 148 (by decide +kernel), rfl, rfl⟩
theorem fvX10_261 : hz_FV RX10 261 mX2_everHeard := ⟨hz_mp 837 (by decide +kernel), hz_mp 838 (by decide +kernel), hz_mp 839 (by decide +kernel)⟩
theorem fvX10_264 : hz_FV RX10 264 mX2_copyFrom := ⟨hz_mp 850 (by decide +kernel), hz_mp 851 (by decide +kernel), hz_mp 852 (by decide +kernel)⟩
theorem fvX10_273 : hz_FV RX10 273 mX10_howMany := ⟨hz_mp 867 (by decide +kernel), hz_mp 869 (by decide +kernel), hz_mp 24 (by decide +kernel)⟩
theorem fsX10_278 : hz_FS RX10 278 mX10_mix := ⟨hz_mp 876 (by decide +kernel), hz_mp 877 (by decide +kernel)⟩
theorem fvX10_282 : hz_FV RX10 282 mX2_mixAll := ⟨hz_mp 880 (by decide +kernel), hz_mp 881 (by decide +kernel), hz_mp 882 (by decide +kernel)⟩
theorem fvX10_52 : hz_FV RX10 52 mX2_reset := ⟨hz_mp 328 (by decide +kernel), hz_mp 233 (by decide +kernel), hz_mp 234 (by decide +kernel)⟩
theorem fsX10_55 : hz_FS RX10 55 mX10_isRoom := ⟨hz_mp 333 (by decide +kernel), hz_mp 334 (by decide +kernel)⟩
theorem fsX10_59 : hz_FS RX10 59 mX10_within := ⟨hz_mp 336 (by decide +kernel), hz_mp 337 (by decide +kernel)⟩
theorem fvX10_66 : hz_FV RX10 66 mX2_doorBetween := ⟨hz_mp 339 (by decide +kernel), hz_mp 340 (by decide +kernel), hz_mp 341 (by decide +kernel)⟩
theorem fvX10_70 : hz_FV RX10 70 mX2_setDoor := ⟨hz_mp 343 (by decide +kernel), hz_mp 344 (by decide +kernel), hz_mp 345 (by decide +kernel)⟩
theorem fvX10_74 : hz_FV RX10 74 mX10_refuseBad := ⟨hz_mp 351 (by decide +kernel), hz_mp 353 (by decide +kernel), hz_mp 0 (by decide +kernel)⟩
theorem fvX10_78 : hz_FV RX10 78 mX10_refuseFull := ⟨hz_mp 355 (by decide +kernel), hz_mp 357 (by decide +kernel), hz_mp 1 (by decide +kernel)⟩
theorem fvX10_81 : hz_FV RX10 81 mX2_addAlarm := ⟨hz_mp 359 (by decide +kernel), hz_mp 360 (by decide +kernel), hz_mp 361 (by decide +kernel)⟩
theorem fvX10_87 : hz_FV RX10 87 mX8_add := ⟨hz_mp 367 (by decide +kernel), hz_mp 368 (by decide +kernel), hz_mp 369 (by decide +kernel)⟩
theorem fiX10_9 : hz_FIN RX10 9 mX8_init "BeepHouse" := ⟨hz_mn 85 (by decide +kernel), hz_mp 86 (by decide +kernel), rfl, rfl⟩
theorem fvX10_91 : hz_FV RX10 91 mX8_tell := ⟨hz_mp 379 (by decide +kernel), hz_mp 380 (by decide +kernel), hz_mp 381 (by decide +kernel)⟩
theorem fvX10_95 : hz_FV RX10 95 mX2_remember := ⟨hz_mp 491 (by decide +kernel), hz_mp 492 (by decide +kernel), hz_mp 493 (by decide +kernel)⟩
theorem fvX10_98 : hz_FV RX10 98 mX2_pass := ⟨hz_mp 502 (by decide +kernel), hz_mp 503 (by decide +kernel), hz_mp 504 (by decide +kernel)⟩
theorem fvL_100 : hz_FV RL 100 mX11_way := ⟨hz_mp 1168 (by decide +kernel), hz_mp 1169 (by decide +kernel), hz_mp 1170 (by decide +kernel)⟩
theorem fvL_101 : hz_FV RL 101 mX10_two := ⟨hz_mp 758 (by decide +kernel), hz_mp 759 (by decide +kernel), hz_mp 760 (by decide +kernel)⟩
theorem fvL_104 : hz_FV RL 104 mX11_two := ⟨hz_mp 1184 (by decide +kernel), hz_mp 1185 (by decide +kernel), hz_mp 1186 (by decide +kernel)⟩
theorem fvL_105 : hz_FV RL 105 mX10_beside := ⟨hz_mp 767 (by decide +kernel), hz_mp 768 (by decide +kernel), hz_mp 769 (by decide +kernel)⟩
theorem fvL_108 : hz_FV RL 108 mX11_beside := ⟨hz_mp 1188 (by decide +kernel), hz_mp 1189 (by decide +kernel), hz_mp 1190 (by decide +kernel)⟩
theorem fvL_109 : hz_FV RL 109 mX10_note := ⟨hz_mp 775 (by decide +kernel), hz_mp 776 (by decide +kernel), hz_mp 777 (by decide +kernel)⟩
theorem fvL_112 : hz_FV RL 112 mX11_note := ⟨hz_mp 1192 (by decide +kernel), hz_mp 1193 (by decide +kernel), hz_mp 1194 (by decide +kernel)⟩
theorem fvL_113 : hz_FV RL 113 mX10_forget := ⟨hz_mp 783 (by decide +kernel), hz_mp 784 (by decide +kernel), hz_mp 785 (by decide +kernel)⟩
theorem fvL_116 : hz_FV RL 116 mX11_forget := ⟨hz_mp 1196 (by decide +kernel), hz_mp 1197 (by decide +kernel), hz_mp 1198 (by decide +kernel)⟩
theorem fvL_117 : hz_FV RL 117 mX10_which := ⟨hz_mp 787 (by decide +kernel), hz_mp 788 (by decide +kernel), hz_mp 789 (by decide +kernel)⟩
theorem fiL_12 : hz_FI RL 12 mX11_init := ⟨hz_mp 887 (by decide +kernel), hz_mp 888 (by decide +kernel), rfl, rfl⟩
theorem fvL_120 : hz_FV RL 120 mX11_which := ⟨hz_mp 1200 (by decide +kernel), hz_mp 1201 (by decide +kernel), hz_mp 1202 (by decide +kernel)⟩
theorem fvL_121 : hz_FV RL 121 mX10_stand := ⟨hz_mp 799 (by decide +kernel), hz_mp 800 (by decide +kernel), hz_mp 801 (by decide +kernel)⟩
theorem fvL_124 : hz_FV RL 124 mX11_stand := ⟨hz_mp 1208 (by decide +kernel), hz_mp 1209 (by decide +kernel), hz_mp 1210 (by decide +kernel)⟩
theorem fvL_125 : hz_FV RL 125 mX10_is := ⟨hz_mp 811 (by decide +kernel), hz_mp 812 (by decide +kernel), hz_mp 813 (by decide +kernel)⟩
theorem fvL_128 : hz_FV RL 128 mX11_is := ⟨hz_mp 1212 (by decide +kernel), hz_mp 1213 (by decide +kernel), hz_mp 1214 (by decide +kernel)⟩
theorem fvL_129 : hz_FV RL 129 mX10_missed := ⟨hz_mp 816 (by decide +kernel), hz_mp 817 (by decide +kernel), hz_mp 818 (by decide +kernel)⟩
theorem fvL_13 : hz_FV RL 13 mX10_house := ⟨hz_mp 324 (by decide +kernel), hz_mp 325 (by decide +kernel), hz_mp 326 (by decide +kernel)⟩
theorem fvL_132 : hz_FV RL 132 mX11_missed := ⟨hz_mp 1216 (by decide +kernel), hz_mp 1217 (by decide +kernel), hz_mp 1218 (by decide +kernel)⟩
theorem fvL_133 : hz_FV RL 133 mX10_nights := ⟨hz_mp 825 (by decide +kernel), hz_mp 826 (by decide +kernel), hz_mp 827 (by decide +kernel)⟩
theorem fvL_136 : hz_FV RL 136 mX11_nights := ⟨hz_mp 1221 (by decide +kernel), hz_mp 1222 (by decide +kernel), hz_mp 1223 (by decide +kernel)⟩
theorem fvL_137 : hz_FV RL 137 mX10_part := ⟨hz_mp 842 (by decide +kernel), hz_mp 843 (by decide +kernel), hz_mp 844 (by decide +kernel)⟩
theorem fvL_141 : hz_FV RL 141 mX11_part := ⟨hz_mp 1232 (by decide +kernel), hz_mp 1233 (by decide +kernel), hz_mp 1234 (by decide +kernel)⟩
theorem fvL_142 : hz_FV RL 142 mX10_image := ⟨hz_mp 846 (by decide +kernel), hz_mp 847 (by decide +kernel), hz_mp 848 (by decide +kernel)⟩
theorem fvL_145 : hz_FV RL 145 mX11_image := ⟨hz_mp 1236 (by decide +kernel), hz_mp 1237 (by decide +kernel), hz_mp 1238 (by decide +kernel)⟩
theorem fvL_146 : hz_FV RL 146 mX10_from := ⟨hz_mp 855 (by decide +kernel), hz_mp 856 (by decide +kernel), hz_mp 857 (by decide +kernel)⟩
theorem fvL_149 : hz_FV RL 149 mX11_from := ⟨hz_mp 1240 (by decide +kernel), hz_mp 1241 (by decide +kernel), hz_mp 1242 (by decide +kernel)⟩
theorem fvL_150 : hz_FV RL 150 mX10_status := ⟨hz_mp 859 (by decide +kernel), hz_mp 860 (by decide +kernel), hz_mp 861 (by decide +kernel)⟩
theorem fvL_153 : hz_FV RL 153 mX11_status := ⟨hz_mp 1244 (by decide +kernel), hz_mp 1245 (by decide +kernel), hz_mp 1246 (by decide +kernel)⟩
theorem fvL_154 : hz_FV RL 154 mX10_count := ⟨hz_mp 863 (by decide +kernel), hz_mp 864 (by decide +kernel), hz_mp 865 (by decide +kernel)⟩
theorem fvL_157 : hz_FV RL 157 mX11_count := ⟨hz_mp 1248 (by decide +kernel), hz_mp 1249 (by decide +kernel), hz_mp 1250 (by decide +kernel)⟩
theorem fvL_158 : hz_FV RL 158 mX10_digest := ⟨hz_mp 871 (by decide +kernel), hz_mp 872 (by decide +kernel), hz_mp 873 (by decide +kernel)⟩
theorem fvL_162 : hz_FV RL 162 mX11_digest := ⟨hz_mp 1256 (by decide +kernel), hz_mp 1257 (by decide +kernel), hz_mp 1258 (by decide +kernel)⟩
theorem fvL_17 : hz_FV RL 17 mX11_house := ⟨hz_mp 958 (by decide +kernel), hz_mp 959 (by decide +kernel), hz_mp 960 (by decide +kernel)⟩
theorem fvL_18 : hz_FV RL 18 mX10_door := ⟨hz_mp 329 (by decide +kernel), hz_mp 330 (by decide +kernel), hz_mp 331 (by decide +kernel)⟩
theorem fvL_22 : hz_FV RL 22 mX11_door := ⟨hz_mp 962 (by decide +kernel), hz_mp 963 (by decide +kernel), hz_mp 964 (by decide +kernel)⟩
theorem fvL_23 : hz_FV RL 23 mX10_alarm := ⟨hz_mp 347 (by decide +kernel), hz_mp 348 (by decide +kernel), hz_mp 349 (by decide +kernel)⟩
theorem fvL_26 : hz_FV RL 26 mX11_alarm := ⟨hz_mp 972 (by decide +kernel), hz_mp 973 (by decide +kernel), hz_mp 974 (by decide +kernel)⟩
theorem fvL_27 : hz_FV RL 27 mX10_type := ⟨hz_mp 363 (by decide +kernel), hz_mp 364 (by decide +kernel), hz_mp 365 (by decide +kernel)⟩
theorem fvL_31 : hz_FV RL 31 mX11_type := ⟨hz_mp 987 (by decide +kernel), hz_mp 988 (by decide +kernel), hz_mp 989 (by decide +kernel)⟩
theorem fvL_32 : hz_FV RL 32 mX10_clear := ⟨hz_mp 371 (by decide +kernel), hz_mp 372 (by decide +kernel), hz_mp 373 (by decide +kernel)⟩
theorem fvL_35 : hz_FV RL 35 mX11_clear := ⟨hz_mp 991 (by decide +kernel), hz_mp 992 (by decide +kernel), hz_mp 993 (by decide +kernel)⟩
theorem fvL_36 : hz_FV RL 36 mX10_read := ⟨hz_mp 375 (by decide +kernel), hz_mp 376 (by decide +kernel), hz_mp 377 (by decide +kernel)⟩
theorem fvL_39 : hz_FV RL 39 mX11_read := ⟨hz_mp 995 (by decide +kernel), hz_mp 996 (by decide +kernel), hz_mp 997 (by decide +kernel)⟩
theorem fvL_40 : hz_FV RL 40 mX10_waits := ⟨hz_mp 487 (by decide +kernel), hz_mp 488 (by decide +kernel), hz_mp 489 (by decide +kernel)⟩
theorem fvL_43 : hz_FV RL 43 mX11_waits := ⟨hz_mp 1044 (by decide +kernel), hz_mp 1045 (by decide +kernel), hz_mp 1046 (by decide +kernel)⟩
theorem fvL_44 : hz_FV RL 44 mX10_walk := ⟨hz_mp 592 (by decide +kernel), hz_mp 593 (by decide +kernel), hz_mp 594 (by decide +kernel)⟩
theorem fvL_47 : hz_FV RL 47 mX11_walk := ⟨hz_mp 1089 (by decide +kernel), hz_mp 1090 (by decide +kernel), hz_mp 1091 (by decide +kernel)⟩
theorem fvL_48 : hz_FV RL 48 mX10_take := ⟨hz_mp 601 (by decide +kernel), hz_mp 602 (by decide +kernel), hz_mp 603 (by decide +kernel)⟩
theorem fvL_52 : hz_FV RL 52 mX11_take := ⟨hz_mp 1097 (by decide +kernel), hz_mp 1098 (by decide +kernel), hz_mp 1099 (by decide +kernel)⟩
theorem fvL_53 : hz_FV RL 53 mX10_battery := ⟨hz_mp 610 (by decide +kernel), hz_mp 611 (by decide +kernel), hz_mp 612 (by decide +kernel)⟩
theorem fvL_56 : hz_FV RL 56 mX11_battery := ⟨hz_mp 1105 (by decide +kernel), hz_mp 1106 (by decide +kernel), hz_mp 1107 (by decide +kernel)⟩
theorem fvL_57 : hz_FV RL 57 mX10_cold := ⟨hz_mp 614 (by decide +kernel), hz_mp 615 (by decide +kernel), hz_mp 616 (by decide +kernel)⟩
theorem fvL_60 : hz_FV RL 60 mX11_cold := ⟨hz_mp 1109 (by decide +kernel), hz_mp 1110 (by decide +kernel), hz_mp 1111 (by decide +kernel)⟩
theorem fvL_61 : hz_FV RL 61 mX10_undo := ⟨hz_mp 618 (by decide +kernel), hz_mp 619 (by decide +kernel), hz_mp 620 (by decide +kernel)⟩
theorem fvL_64 : hz_FV RL 64 mX11_undo := ⟨hz_mp 1113 (by decide +kernel), hz_mp 1114 (by decide +kernel), hz_mp 1115 (by decide +kernel)⟩
theorem fvL_65 : hz_FV RL 65 mX10_of := ⟨hz_mp 626 (by decide +kernel), hz_mp 627 (by decide +kernel), hz_mp 628 (by decide +kernel)⟩
theorem fvL_68 : hz_FV RL 68 mX11_of := ⟨hz_mp 1117 (by decide +kernel), hz_mp 1118 (by decide +kernel), hz_mp 1119 (by decide +kernel)⟩
theorem fvL_69 : hz_FV RL 69 mX10_far := ⟨hz_mp 632 (by decide +kernel), hz_mp 633 (by decide +kernel), hz_mp 634 (by decide +kernel)⟩
theorem fvL_72 : hz_FV RL 72 mX11_far := ⟨hz_mp 1121 (by decide +kernel), hz_mp 1122 (by decide +kernel), hz_mp 1123 (by decide +kernel)⟩
theorem fvL_73 : hz_FV RL 73 mX10_beeps := ⟨hz_mp 636 (by decide +kernel), hz_mp 637 (by decide +kernel), hz_mp 638 (by decide +kernel)⟩
theorem fvL_76 : hz_FV RL 76 mX11_beeps := ⟨hz_mp 1125 (by decide +kernel), hz_mp 1126 (by decide +kernel), hz_mp 1127 (by decide +kernel)⟩
theorem fvL_77 : hz_FV RL 77 mX10_heard := ⟨hz_mp 644 (by decide +kernel), hz_mp 645 (by decide +kernel), hz_mp 646 (by decide +kernel)⟩
theorem fvL_80 : hz_FV RL 80 mX11_heard := ⟨hz_mp 1129 (by decide +kernel), hz_mp 1130 (by decide +kernel), hz_mp 1131 (by decide +kernel)⟩
theorem fvL_81 : hz_FV RL 81 mX10_through := ⟨hz_mp 648 (by decide +kernel), hz_mp 649 (by decide +kernel), hz_mp 650 (by decide +kernel)⟩
theorem fvL_84 : hz_FV RL 84 mX11_through := ⟨hz_mp 1133 (by decide +kernel), hz_mp 1134 (by decide +kernel), hz_mp 1135 (by decide +kernel)⟩
theorem fvL_85 : hz_FV RL 85 mX10_next := ⟨hz_mp 657 (by decide +kernel), hz_mp 658 (by decide +kernel), hz_mp 659 (by decide +kernel)⟩
theorem fvL_88 : hz_FV RL 88 mX11_next := ⟨hz_mp 1141 (by decide +kernel), hz_mp 1142 (by decide +kernel), hz_mp 1143 (by decide +kernel)⟩
theorem fvL_89 : hz_FV RL 89 mX10_coldest := ⟨hz_mp 661 (by decide +kernel), hz_mp 662 (by decide +kernel), hz_mp 663 (by decide +kernel)⟩
theorem fiL_9 : hz_FI RL 9 mX10_init := ⟨hz_mp 77 (by decide +kernel), hz_mp 78 (by decide +kernel), rfl, rfl⟩
theorem fvL_92 : hz_FV RL 92 mX11_coldest := ⟨hz_mp 1145 (by decide +kernel), hz_mp 1146 (by decide +kernel), hz_mp 1147 (by decide +kernel)⟩
theorem fvL_93 : hz_FV RL 93 mX10_sure := ⟨hz_mp 678 (by decide +kernel), hz_mp 679 (by decide +kernel), hz_mp 680 (by decide +kernel)⟩
theorem fvL_96 : hz_FV RL 96 mX11_sure := ⟨hz_mp 1153 (by decide +kernel), hz_mp 1154 (by decide +kernel), hz_mp 1155 (by decide +kernel)⟩
theorem fvL_97 : hz_FV RL 97 mX10_way := ⟨hz_mp 713 (by decide +kernel), hz_mp 714 (by decide +kernel), hz_mp 715 (by decide +kernel)⟩
theorem foX11_1 : Cond.methodLink RX11 1 objectInit ∈ hz_tbl ∧ Cond.instanceMethod objectInit ∈ hz_tbl ∧ Cond.code objectInit ⟨#[0xb1]⟩ 1 none ∈ hz_tbl := ⟨hz_mp 890 (by decide +kernel), hz_mp 81 (by decide +kernel), hz_mp 82 (by decide +kernel)⟩
theorem fvX11_101 : hz_FV RX11 101 mX11_isNumber := ⟨hz_mp 1022 (by decide +kernel), hz_mp 1024 (by decide +kernel), hz_mp 32 (by decide +kernel)⟩
theorem fvX11_110 : hz_FV RX11 110 mX11_isCold := ⟨hz_mp 1018 (by decide +kernel), hz_mp 1020 (by decide +kernel), hz_mp 31 (by decide +kernel)⟩
theorem fvX11_116 : hz_FV RX11 116 mX11_isDoor := ⟨hz_mp 1027 (by decide +kernel), hz_mp 1029 (by decide +kernel), hz_mp 33 (by decide +kernel)⟩
theorem fvX11_121 : hz_FV RX11 121 mX11_isAlarmItem := ⟨hz_mp 1032 (by decide +kernel), hz_mp 1034 (by decide +kernel), hz_mp 34 (by decide +kernel)⟩
theorem fvX11_126 : hz_FV RX11 126 mX11_isDown := ⟨hz_mp 1037 (by decide +kernel), hz_mp 1039 (by decide +kernel), hz_mp 35 (by decide +kernel)⟩
theorem fvX11_129 : hz_FV RX11 129 mX11_isItem := ⟨hz_mp 1013 (by decide +kernel), hz_mp 1015 (by decide +kernel), hz_mp 30 (by decide +kernel)⟩
theorem fvX11_132 : hz_FV RX11 132 mX11_isRead := ⟨hz_mp 999 (by decide +kernel), hz_mp 1001 (by decide +kernel), hz_mp 27 (by decide +kernel)⟩
theorem fsX11_135 : hz_FS RX11 135 mX11_bring := ⟨hz_mp 1041 (by decide +kernel), hz_mp 1042 (by decide +kernel)⟩
theorem fvX11_139 : hz_FV RX11 139 mX11_keepBack := ⟨hz_mp 1048 (by decide +kernel), hz_mp 1050 (by decide +kernel), hz_mp 36 (by decide +kernel)⟩
theorem fvX11_142 : hz_FV RX11 142 mX11_pass := ⟨hz_mp 1052 (by decide +kernel), hz_mp 1054 (by decide +kernel), hz_mp 37 (by decide +kernel)⟩
theorem fvX11_146 : hz_FV RX11 146 mX11_layFar := ⟨hz_mp 1056 (by decide +kernel), hz_mp 1058 (by decide +kernel), hz_mp 38 (by decide +kernel)⟩
theorem fvX11_149 : hz_FV RX11 149 mX11_heardBy := ⟨hz_mp 1064 (by decide +kernel), hz_mp 1066 (by decide +kernel), hz_mp 40 (by decide +kernel)⟩
theorem fvX11_153 : hz_FV RX11 153 mX11_farOf := ⟨hz_mp 1060 (by decide +kernel), hz_mp 1062 (by decide +kernel), hz_mp 39 (by decide +kernel)⟩
theorem fvX11_157 : hz_FV RX11 157 mX11_no := ⟨hz_mp 1093 (by decide +kernel), hz_mp 1095 (by decide +kernel), hz_mp 44 (by decide +kernel)⟩
theorem fvX11_160 : hz_FV RX11 160 mX11_isAlarm := ⟨hz_mp 1101 (by decide +kernel), hz_mp 1103 (by decide +kernel), hz_mp 45 (by decide +kernel)⟩
theorem fsX11_163 : hz_FS RX11 163 mX11_loudOf := ⟨hz_mp 1086 (by decide +kernel), hz_mp 1087 (by decide +kernel)⟩
theorem fsX11_166 : hz_FS RX11 166 mX11_has := ⟨hz_mp 1076 (by decide +kernel), hz_mp 1077 (by decide +kernel)⟩
theorem fvX11_169 : hz_FV RX11 169 mX11_isSilent := ⟨hz_mp 1072 (by decide +kernel), hz_mp 1074 (by decide +kernel), hz_mp 42 (by decide +kernel)⟩
theorem fsX11_172 : hz_FS RX11 172 mX11_beepsBy := ⟨hz_mp 1079 (by decide +kernel), hz_mp 1080 (by decide +kernel)⟩
theorem fvX11_176 : hz_FV RX11 176 mX11_beepsNow := ⟨hz_mp 1068 (by decide +kernel), hz_mp 1070 (by decide +kernel), hz_mp 41 (by decide +kernel)⟩
theorem fvX11_179 : hz_FV RX11 179 mX11_reaches := ⟨hz_mp 1082 (by decide +kernel), hz_mp 1084 (by decide +kernel), hz_mp 43 (by decide +kernel)⟩
theorem fvX11_182 : hz_FV RX11 182 mX11_throughBy := ⟨hz_mp 1137 (by decide +kernel), hz_mp 1139 (by decide +kernel), hz_mp 46 (by decide +kernel)⟩
theorem fvX11_185 : hz_FV RX11 185 mX11_beepsEver := ⟨hz_mp 1149 (by decide +kernel), hz_mp 1151 (by decide +kernel), hz_mp 47 (by decide +kernel)⟩
theorem fsX11_188 : hz_FS RX11 188 mX11_bits := ⟨hz_mp 1161 (by decide +kernel), hz_mp 1162 (by decide +kernel)⟩
theorem fvX11_191 : hz_FV RX11 191 mX11_alikeBy := ⟨hz_mp 1164 (by decide +kernel), hz_mp 1166 (by decide +kernel), hz_mp 49 (by decide +kernel)⟩
theorem fvX11_194 : hz_FV RX11 194 mX11_laySure := ⟨hz_mp 1157 (by decide +kernel), hz_mp 1159 (by decide +kernel), hz_mp 48 (by decide +kernel)⟩
theorem fvX11_197 : hz_FV RX11 197 mX11_loudOnes := ⟨hz_mp 1176 (by decide +kernel), hz_mp 1178 (by decide +kernel), hz_mp 51 (by decide +kernel)⟩
theorem fvX11_203 : hz_FV RX11 203 mX11_wayBy := ⟨hz_mp 1180 (by decide +kernel), hz_mp 1182 (by decide +kernel), hz_mp 52 (by decide +kernel)⟩
theorem fvX11_206 : hz_FV RX11 206 mX11_layWay := ⟨hz_mp 1172 (by decide +kernel), hz_mp 1174 (by decide +kernel), hz_mp 50 (by decide +kernel)⟩
theorem fvX11_209 : hz_FV RX11 209 mX11_whichOnes := ⟨hz_mp 1204 (by decide +kernel), hz_mp 1206 (by decide +kernel), hz_mp 53 (by decide +kernel)⟩
theorem fvX11_230 : hz_FV RX11 230 mX11_counted := ⟨hz_mp 1252 (by decide +kernel), hz_mp 1254 (by decide +kernel), hz_mp 54 (by decide +kernel)⟩
theorem fsX11_48 : hz_FS RX11 48 mX11_begin := ⟨hz_mp 891 (by decide +kernel), hz_mp 892 (by decide +kernel)⟩
theorem fsX11_52 : hz_FS RX11 52 mX11_in := ⟨hz_mp 969 (by decide +kernel), hz_mp 970 (by decide +kernel)⟩
theorem fsX11_56 : hz_FS RX11 56 mX11_isRoom := ⟨hz_mp 966 (by decide +kernel), hz_mp 967 (by decide +kernel)⟩
theorem fvX11_60 : hz_FV RX11 60 mX11_bad := ⟨hz_mp 976 (by decide +kernel), hz_mp 978 (by decide +kernel), hz_mp 25 (by decide +kernel)⟩
theorem fvX11_64 : hz_FV RX11 64 mX11_full := ⟨hz_mp 980 (by decide +kernel), hz_mp 982 (by decide +kernel), hz_mp 26 (by decide +kernel)⟩
theorem fsX11_67 : hz_FS RX11 67 mX11_addAlarm := ⟨hz_mp 984 (by decide +kernel), hz_mp 985 (by decide +kernel)⟩
theorem fvX11_90 : hz_FV RX11 90 mX11_kindAt := ⟨hz_mp 1007 (by decide +kernel), hz_mp 1009 (by decide +kernel), hz_mp 29 (by decide +kernel)⟩
theorem fvX11_98 : hz_FV RX11 98 mX11_nextToken := ⟨hz_mp 1003 (by decide +kernel), hz_mp 1005 (by decide +kernel), hz_mp 28 (by decide +kernel)⟩
end
section
abbrev NN : Nat := 157
/-- the cells of the system once it stands: kind and length -/
def TT : hz_T := fun a => [(0, 0), (10, 11), (8, 6), (12, 150), (7, 8), (13, 48), (13, 64), (13, 64), (13, 6), (13, 6), (13, 42), (13, 384), (2, 13), (13, 64), (13, 64), (13, 6), (13, 6), (13, 6), (13, 6), (3, 5), (13, 6), (16, 8), (17, 6), (6, 0), (4, 0), (9, 0), (0, 0), (5, 0), (1, 0), (3, 5), (13, 6), (3, 5), (13, 6), (3, 5), (13, 6), (3, 5), (13, 6), (3, 5), (13, 6), (3, 5), (13, 6), (3, 5), (13, 6), (3, 5), (13, 6), (2, 13), (13, 64), (13, 64), (13, 6), (13, 6), (13, 6), (13, 6), (3, 5), (13, 6), (16, 8), (17, 6), (6, 0), (4, 0), (9, 0), (0, 0), (5, 0), (1, 0), (3, 5), (13, 6), (3, 5), (13, 6), (3, 5), (13, 6), (3, 5), (13, 6), (3, 5), (13, 6), (3, 5), (13, 6), (3, 5), (13, 6), (3, 5), (13, 6), (15, 2), (2, 13), (13, 64), (13, 64), (13, 6), (13, 6), (13, 6), (13, 6), (3, 5), (13, 6), (16, 8), (17, 6), (6, 0), (4, 0), (9, 0), (0, 0), (5, 0), (1, 0), (3, 5), (13, 6), (3, 5), (13, 6), (3, 5), (13, 6), (3, 5), (13, 6), (3, 5), (13, 6), (3, 5), (13, 6), (3, 5), (13, 6), (3, 5), (13, 6), (2, 13), (13, 64), (13, 64), (13, 6), (13, 6), (13, 6), (13, 6), (3, 5), (13, 6), (16, 8), (17, 6), (6, 0), (4, 0), (9, 0), (0, 0), (5, 0), (1, 0), (3, 5), (13, 6), (3, 5), (13, 6), (3, 5), (13, 6), (3, 5), (13, 6), (3, 5), (13, 6), (3, 5), (13, 6), (3, 5), (13, 6), (3, 5), (13, 6), (14, 2), (11, 21), (13, 181), (13, 181), (13, 362), (14, 2), (13, 3), (13, 150), (13, 64), (13, 64), (13, 64), (13, 6), (13, 6)].getD a (0, 0)
theorem hT1 : TT 1 = (10, 11) := by decide +kernel
theorem hA1 : (1 : Nat) ≠ 0 ∧ 1 ≤ NN := by decide +kernel
theorem hT2 : TT 2 = (8, 6) := by decide +kernel
theorem hA2 : (2 : Nat) ≠ 0 ∧ 2 ≤ NN := by decide +kernel
theorem hT3 : TT 3 = (12, 150) := by decide +kernel
theorem hA3 : (3 : Nat) ≠ 0 ∧ 3 ≤ NN := by decide +kernel
theorem hT4 : TT 4 = (7, 8) := by decide +kernel
theorem hA4 : (4 : Nat) ≠ 0 ∧ 4 ≤ NN := by decide +kernel
theorem hT5 : TT 5 = (13, 48) := by decide +kernel
theorem hA5 : (5 : Nat) ≠ 0 ∧ 5 ≤ NN := by decide +kernel
theorem hT6 : TT 6 = (13, 64) := by decide +kernel
theorem hA6 : (6 : Nat) ≠ 0 ∧ 6 ≤ NN := by decide +kernel
theorem hT7 : TT 7 = (13, 64) := by decide +kernel
theorem hA7 : (7 : Nat) ≠ 0 ∧ 7 ≤ NN := by decide +kernel
theorem hT8 : TT 8 = (13, 6) := by decide +kernel
theorem hA8 : (8 : Nat) ≠ 0 ∧ 8 ≤ NN := by decide +kernel
theorem hT9 : TT 9 = (13, 6) := by decide +kernel
theorem hA9 : (9 : Nat) ≠ 0 ∧ 9 ≤ NN := by decide +kernel
theorem hT10 : TT 10 = (13, 42) := by decide +kernel
theorem hA10 : (10 : Nat) ≠ 0 ∧ 10 ≤ NN := by decide +kernel
theorem hT11 : TT 11 = (13, 384) := by decide +kernel
theorem hA11 : (11 : Nat) ≠ 0 ∧ 11 ≤ NN := by decide +kernel
theorem hT12 : TT 12 = (2, 13) := by decide +kernel
theorem hA12 : (12 : Nat) ≠ 0 ∧ 12 ≤ NN := by decide +kernel
theorem hT13 : TT 13 = (13, 64) := by decide +kernel
theorem hA13 : (13 : Nat) ≠ 0 ∧ 13 ≤ NN := by decide +kernel
theorem hT14 : TT 14 = (13, 64) := by decide +kernel
theorem hA14 : (14 : Nat) ≠ 0 ∧ 14 ≤ NN := by decide +kernel
theorem hT15 : TT 15 = (13, 6) := by decide +kernel
theorem hA15 : (15 : Nat) ≠ 0 ∧ 15 ≤ NN := by decide +kernel
theorem hT16 : TT 16 = (13, 6) := by decide +kernel
theorem hA16 : (16 : Nat) ≠ 0 ∧ 16 ≤ NN := by decide +kernel
theorem hT17 : TT 17 = (13, 6) := by decide +kernel
theorem hA17 : (17 : Nat) ≠ 0 ∧ 17 ≤ NN := by decide +kernel
theorem hT18 : TT 18 = (13, 6) := by decide +kernel
theorem hA18 : (18 : Nat) ≠ 0 ∧ 18 ≤ NN := by decide +kernel
theorem hT19 : TT 19 = (3, 5) := by decide +kernel
theorem hA19 : (19 : Nat) ≠ 0 ∧ 19 ≤ NN := by decide +kernel
theorem hT20 : TT 20 = (13, 6) := by decide +kernel
theorem hA20 : (20 : Nat) ≠ 0 ∧ 20 ≤ NN := by decide +kernel
theorem hT21 : TT 21 = (16, 8) := by decide +kernel
theorem hA21 : (21 : Nat) ≠ 0 ∧ 21 ≤ NN := by decide +kernel
theorem hT22 : TT 22 = (17, 6) := by decide +kernel
theorem hA22 : (22 : Nat) ≠ 0 ∧ 22 ≤ NN := by decide +kernel
theorem hT23 : TT 23 = (6, 0) := by decide +kernel
theorem hA23 : (23 : Nat) ≠ 0 ∧ 23 ≤ NN := by decide +kernel
theorem hT24 : TT 24 = (4, 0) := by decide +kernel
theorem hA24 : (24 : Nat) ≠ 0 ∧ 24 ≤ NN := by decide +kernel
theorem hT25 : TT 25 = (9, 0) := by decide +kernel
theorem hA25 : (25 : Nat) ≠ 0 ∧ 25 ≤ NN := by decide +kernel
theorem hT26 : TT 26 = (0, 0) := by decide +kernel
theorem hA26 : (26 : Nat) ≠ 0 ∧ 26 ≤ NN := by decide +kernel
theorem hT27 : TT 27 = (5, 0) := by decide +kernel
theorem hA27 : (27 : Nat) ≠ 0 ∧ 27 ≤ NN := by decide +kernel
theorem hT28 : TT 28 = (1, 0) := by decide +kernel
theorem hA28 : (28 : Nat) ≠ 0 ∧ 28 ≤ NN := by decide +kernel
theorem hT29 : TT 29 = (3, 5) := by decide +kernel
theorem hA29 : (29 : Nat) ≠ 0 ∧ 29 ≤ NN := by decide +kernel
theorem hT30 : TT 30 = (13, 6) := by decide +kernel
theorem hA30 : (30 : Nat) ≠ 0 ∧ 30 ≤ NN := by decide +kernel
theorem hT31 : TT 31 = (3, 5) := by decide +kernel
theorem hA31 : (31 : Nat) ≠ 0 ∧ 31 ≤ NN := by decide +kernel
theorem hT32 : TT 32 = (13, 6) := by decide +kernel
theorem hA32 : (32 : Nat) ≠ 0 ∧ 32 ≤ NN := by decide +kernel
theorem hT33 : TT 33 = (3, 5) := by decide +kernel
theorem hA33 : (33 : Nat) ≠ 0 ∧ 33 ≤ NN := by decide +kernel
theorem hT34 : TT 34 = (13, 6) := by decide +kernel
theorem hA34 : (34 : Nat) ≠ 0 ∧ 34 ≤ NN := by decide +kernel
theorem hT35 : TT 35 = (3, 5) := by decide +kernel
theorem hA35 : (35 : Nat) ≠ 0 ∧ 35 ≤ NN := by decide +kernel
theorem hT36 : TT 36 = (13, 6) := by decide +kernel
theorem hA36 : (36 : Nat) ≠ 0 ∧ 36 ≤ NN := by decide +kernel
theorem hT37 : TT 37 = (3, 5) := by decide +kernel
theorem hA37 : (37 : Nat) ≠ 0 ∧ 37 ≤ NN := by decide +kernel
theorem hT38 : TT 38 = (13, 6) := by decide +kernel
theorem hA38 : (38 : Nat) ≠ 0 ∧ 38 ≤ NN := by decide +kernel
theorem hT39 : TT 39 = (3, 5) := by decide +kernel
theorem hA39 : (39 : Nat) ≠ 0 ∧ 39 ≤ NN := by decide +kernel
theorem hT40 : TT 40 = (13, 6) := by decide +kernel
theorem hA40 : (40 : Nat) ≠ 0 ∧ 40 ≤ NN := by decide +kernel
theorem hT41 : TT 41 = (3, 5) := by decide +kernel
theorem hA41 : (41 : Nat) ≠ 0 ∧ 41 ≤ NN := by decide +kernel
theorem hT42 : TT 42 = (13, 6) := by decide +kernel
theorem hA42 : (42 : Nat) ≠ 0 ∧ 42 ≤ NN := by decide +kernel
theorem hT43 : TT 43 = (3, 5) := by decide +kernel
theorem hA43 : (43 : Nat) ≠ 0 ∧ 43 ≤ NN := by decide +kernel
theorem hT44 : TT 44 = (13, 6) := by decide +kernel
theorem hA44 : (44 : Nat) ≠ 0 ∧ 44 ≤ NN := by decide +kernel
theorem hT45 : TT 45 = (2, 13) := by decide +kernel
theorem hA45 : (45 : Nat) ≠ 0 ∧ 45 ≤ NN := by decide +kernel
theorem hT46 : TT 46 = (13, 64) := by decide +kernel
theorem hA46 : (46 : Nat) ≠ 0 ∧ 46 ≤ NN := by decide +kernel
theorem hT47 : TT 47 = (13, 64) := by decide +kernel
theorem hA47 : (47 : Nat) ≠ 0 ∧ 47 ≤ NN := by decide +kernel
theorem hT48 : TT 48 = (13, 6) := by decide +kernel
theorem hA48 : (48 : Nat) ≠ 0 ∧ 48 ≤ NN := by decide +kernel
theorem hT49 : TT 49 = (13, 6) := by decide +kernel
theorem hA49 : (49 : Nat) ≠ 0 ∧ 49 ≤ NN := by decide +kernel
theorem hT50 : TT 50 = (13, 6) := by decide +kernel
theorem hA50 : (50 : Nat) ≠ 0 ∧ 50 ≤ NN := by decide +kernel
theorem hT51 : TT 51 = (13, 6) := by decide +kernel
theorem hA51 : (51 : Nat) ≠ 0 ∧ 51 ≤ NN := by decide +kernel
theorem hT52 : TT 52 = (3, 5) := by decide +kernel
theorem hA52 : (52 : Nat) ≠ 0 ∧ 52 ≤ NN := by decide +kernel
theorem hT53 : TT 53 = (13, 6) := by decide +kernel
theorem hA53 : (53 : Nat) ≠ 0 ∧ 53 ≤ NN := by decide +kernel
theorem hT54 : TT 54 = (16, 8) := by decide +kernel
theorem hA54 : (54 : Nat) ≠ 0 ∧ 54 ≤ NN := by decide +kernel
theorem hT55 : TT 55 = (17, 6) := by decide +kernel
theorem hA55 : (55 : Nat) ≠ 0 ∧ 55 ≤ NN := by decide +kernel
theorem hT56 : TT 56 = (6, 0) := by decide +kernel
theorem hA56 : (56 : Nat) ≠ 0 ∧ 56 ≤ NN := by decide +kernel
theorem hT57 : TT 57 = (4, 0) := by decide +kernel
theorem hA57 : (57 : Nat) ≠ 0 ∧ 57 ≤ NN := by decide +kernel
theorem hT58 : TT 58 = (9, 0) := by decide +kernel
theorem hA58 : (58 : Nat) ≠ 0 ∧ 58 ≤ NN := by decide +kernel
theorem hT59 : TT 59 = (0, 0) := by decide +kernel
theorem hA59 : (59 : Nat) ≠ 0 ∧ 59 ≤ NN := by decide +kernel
theorem hT60 : TT 60 = (5, 0) := by decide +kernel
theorem hA60 : (60 : Nat) ≠ 0 ∧ 60 ≤ NN := by decide +kernel
theorem hT61 : TT 61 = (1, 0) := by decide +kernel
theorem hA61 : (61 : Nat) ≠ 0 ∧ 61 ≤ NN := by decide +kernel
theorem hT62 : TT 62 = (3, 5) := by decide +kernel
theorem hA62 : (62 : Nat) ≠ 0 ∧ 62 ≤ NN := by decide +kernel
theorem hT63 : TT 63 = (13, 6) := by decide +kernel
theorem hA63 : (63 : Nat) ≠ 0 ∧ 63 ≤ NN := by decide +kernel
theorem hT64 : TT 64 = (3, 5) := by decide +kernel
theorem hA64 : (64 : Nat) ≠ 0 ∧ 64 ≤ NN := by decide +kernel
theorem hT65 : TT 65 = (13, 6) := by decide +kernel
theorem hA65 : (65 : Nat) ≠ 0 ∧ 65 ≤ NN := by decide +kernel
theorem hT66 : TT 66 = (3, 5) := by decide +kernel
theorem hA66 : (66 : Nat) ≠ 0 ∧ 66 ≤ NN := by decide +kernel
theorem hT67 : TT 67 = (13, 6) := by decide +kernel
theorem hA67 : (67 : Nat) ≠ 0 ∧ 67 ≤ NN := by decide +kernel
theorem hT68 : TT 68 = (3, 5) := by decide +kernel
theorem hA68 : (68 : Nat) ≠ 0 ∧ 68 ≤ NN := by decide +kernel
theorem hT69 : TT 69 = (13, 6) := by decide +kernel
theorem hA69 : (69 : Nat) ≠ 0 ∧ 69 ≤ NN := by decide +kernel
theorem hT70 : TT 70 = (3, 5) := by decide +kernel
theorem hA70 : (70 : Nat) ≠ 0 ∧ 70 ≤ NN := by decide +kernel
theorem hT71 : TT 71 = (13, 6) := by decide +kernel
theorem hA71 : (71 : Nat) ≠ 0 ∧ 71 ≤ NN := by decide +kernel
theorem hT72 : TT 72 = (3, 5) := by decide +kernel
theorem hA72 : (72 : Nat) ≠ 0 ∧ 72 ≤ NN := by decide +kernel
theorem hT73 : TT 73 = (13, 6) := by decide +kernel
theorem hA73 : (73 : Nat) ≠ 0 ∧ 73 ≤ NN := by decide +kernel
theorem hT74 : TT 74 = (3, 5) := by decide +kernel
theorem hA74 : (74 : Nat) ≠ 0 ∧ 74 ≤ NN := by decide +kernel
theorem hT75 : TT 75 = (13, 6) := by decide +kernel
theorem hA75 : (75 : Nat) ≠ 0 ∧ 75 ≤ NN := by decide +kernel
theorem hT76 : TT 76 = (3, 5) := by decide +kernel
theorem hA76 : (76 : Nat) ≠ 0 ∧ 76 ≤ NN := by decide +kernel
theorem hT77 : TT 77 = (13, 6) := by decide +kernel
theorem hA77 : (77 : Nat) ≠ 0 ∧ 77 ≤ NN := by decide +kernel
theorem hT78 : TT 78 = (15, 2) := by decide +kernel
theorem hA78 : (78 : Nat) ≠ 0 ∧ 78 ≤ NN := by decide +kernel
theorem hT79 : TT 79 = (2, 13) := by decide +kernel
theorem hA79 : (79 : Nat) ≠ 0 ∧ 79 ≤ NN := by decide +kernel
theorem hT80 : TT 80 = (13, 64) := by decide +kernel
theorem hA80 : (80 : Nat) ≠ 0 ∧ 80 ≤ NN := by decide +kernel
theorem hT81 : TT 81 = (13, 64) := by decide +kernel
theorem hA81 : (81 : Nat) ≠ 0 ∧ 81 ≤ NN := by decide +kernel
theorem hT82 : TT 82 = (13, 6) := by decide +kernel
theorem hA82 : (82 : Nat) ≠ 0 ∧ 82 ≤ NN := by decide +kernel
theorem hT83 : TT 83 = (13, 6) := by decide +kernel
theorem hA83 : (83 : Nat) ≠ 0 ∧ 83 ≤ NN := by decide +kernel
theorem hT84 : TT 84 = (13, 6) := by decide +kernel
theorem hA84 : (84 : Nat) ≠ 0 ∧ 84 ≤ NN := by decide +kernel
theorem hT85 : TT 85 = (13, 6) := by decide +kernel
theorem hA85 : (85 : Nat) ≠ 0 ∧ 85 ≤ NN := by decide +kernel
theorem hT86 : TT 86 = (3, 5) := by decide +kernel
theorem hA86 : (86 : Nat) ≠ 0 ∧ 86 ≤ NN := by decide +kernel
theorem hT87 : TT 87 = (13, 6) := by decide +kernel
theorem hA87 : (87 : Nat) ≠ 0 ∧ 87 ≤ NN := by decide +kernel
theorem hT88 : TT 88 = (16, 8) := by decide +kernel
theorem hA88 : (88 : Nat) ≠ 0 ∧ 88 ≤ NN := by decide +kernel
theorem hT89 : TT 89 = (17, 6) := by decide +kernel
theorem hA89 : (89 : Nat) ≠ 0 ∧ 89 ≤ NN := by decide +kernel
theorem hT90 : TT 90 = (6, 0) := by decide +kernel
theorem hA90 : (90 : Nat) ≠ 0 ∧ 90 ≤ NN := by decide +kernel
theorem hT91 : TT 91 = (4, 0) := by decide +kernel
theorem hA91 : (91 : Nat) ≠ 0 ∧ 91 ≤ NN := by decide +kernel
theorem hT92 : TT 92 = (9, 0) := by decide +kernel
theorem hA92 : (92 : Nat) ≠ 0 ∧ 92 ≤ NN := by decide +kernel
theorem hT93 : TT 93 = (0, 0) := by decide +kernel
theorem hA93 : (93 : Nat) ≠ 0 ∧ 93 ≤ NN := by decide +kernel
theorem hT94 : TT 94 = (5, 0) := by decide +kernel
theorem hA94 : (94 : Nat) ≠ 0 ∧ 94 ≤ NN := by decide +kernel
theorem hT95 : TT 95 = (1, 0) := by decide +kernel
theorem hA95 : (95 : Nat) ≠ 0 ∧ 95 ≤ NN := by decide +kernel
theorem hT96 : TT 96 = (3, 5) := by decide +kernel
theorem hA96 : (96 : Nat) ≠ 0 ∧ 96 ≤ NN := by decide +kernel
theorem hT97 : TT 97 = (13, 6) := by decide +kernel
theorem hA97 : (97 : Nat) ≠ 0 ∧ 97 ≤ NN := by decide +kernel
theorem hT98 : TT 98 = (3, 5) := by decide +kernel
theorem hA98 : (98 : Nat) ≠ 0 ∧ 98 ≤ NN := by decide +kernel
theorem hT99 : TT 99 = (13, 6) := by decide +kernel
theorem hA99 : (99 : Nat) ≠ 0 ∧ 99 ≤ NN := by decide +kernel
theorem hT100 : TT 100 = (3, 5) := by decide +kernel
theorem hA100 : (100 : Nat) ≠ 0 ∧ 100 ≤ NN := by decide +kernel
theorem hT101 : TT 101 = (13, 6) := by decide +kernel
theorem hA101 : (101 : Nat) ≠ 0 ∧ 101 ≤ NN := by decide +kernel
theorem hT102 : TT 102 = (3, 5) := by decide +kernel
theorem hA102 : (102 : Nat) ≠ 0 ∧ 102 ≤ NN := by decide +kernel
theorem hT103 : TT 103 = (13, 6) := by decide +kernel
theorem hA103 : (103 : Nat) ≠ 0 ∧ 103 ≤ NN := by decide +kernel
theorem hT104 : TT 104 = (3, 5) := by decide +kernel
theorem hA104 : (104 : Nat) ≠ 0 ∧ 104 ≤ NN := by decide +kernel
theorem hT105 : TT 105 = (13, 6) := by decide +kernel
theorem hA105 : (105 : Nat) ≠ 0 ∧ 105 ≤ NN := by decide +kernel
theorem hT106 : TT 106 = (3, 5) := by decide +kernel
theorem hA106 : (106 : Nat) ≠ 0 ∧ 106 ≤ NN := by decide +kernel
theorem hT107 : TT 107 = (13, 6) := by decide +kernel
theorem hA107 : (107 : Nat) ≠ 0 ∧ 107 ≤ NN := by decide +kernel
theorem hT108 : TT 108 = (3, 5) := by decide +kernel
theorem hA108 : (108 : Nat) ≠ 0 ∧ 108 ≤ NN := by decide +kernel
theorem hT109 : TT 109 = (13, 6) := by decide +kernel
theorem hA109 : (109 : Nat) ≠ 0 ∧ 109 ≤ NN := by decide +kernel
theorem hT110 : TT 110 = (3, 5) := by decide +kernel
theorem hA110 : (110 : Nat) ≠ 0 ∧ 110 ≤ NN := by decide +kernel
theorem hT111 : TT 111 = (13, 6) := by decide +kernel
theorem hA111 : (111 : Nat) ≠ 0 ∧ 111 ≤ NN := by decide +kernel
theorem hT112 : TT 112 = (2, 13) := by decide +kernel
theorem hA112 : (112 : Nat) ≠ 0 ∧ 112 ≤ NN := by decide +kernel
theorem hT113 : TT 113 = (13, 64) := by decide +kernel
theorem hA113 : (113 : Nat) ≠ 0 ∧ 113 ≤ NN := by decide +kernel
theorem hT114 : TT 114 = (13, 64) := by decide +kernel
theorem hA114 : (114 : Nat) ≠ 0 ∧ 114 ≤ NN := by decide +kernel
theorem hT115 : TT 115 = (13, 6) := by decide +kernel
theorem hA115 : (115 : Nat) ≠ 0 ∧ 115 ≤ NN := by decide +kernel
theorem hT116 : TT 116 = (13, 6) := by decide +kernel
theorem hA116 : (116 : Nat) ≠ 0 ∧ 116 ≤ NN := by decide +kernel
theorem hT117 : TT 117 = (13, 6) := by decide +kernel
theorem hA117 : (117 : Nat) ≠ 0 ∧ 117 ≤ NN := by decide +kernel
theorem hT118 : TT 118 = (13, 6) := by decide +kernel
theorem hA118 : (118 : Nat) ≠ 0 ∧ 118 ≤ NN := by decide +kernel
theorem hT119 : TT 119 = (3, 5) := by decide +kernel
theorem hA119 : (119 : Nat) ≠ 0 ∧ 119 ≤ NN := by decide +kernel
theorem hT120 : TT 120 = (13, 6) := by decide +kernel
theorem hA120 : (120 : Nat) ≠ 0 ∧ 120 ≤ NN := by decide +kernel
theorem hT121 : TT 121 = (16, 8) := by decide +kernel
theorem hA121 : (121 : Nat) ≠ 0 ∧ 121 ≤ NN := by decide +kernel
theorem hT122 : TT 122 = (17, 6) := by decide +kernel
theorem hA122 : (122 : Nat) ≠ 0 ∧ 122 ≤ NN := by decide +kernel
theorem hT123 : TT 123 = (6, 0) := by decide +kernel
theorem hA123 : (123 : Nat) ≠ 0 ∧ 123 ≤ NN := by decide +kernel
theorem hT124 : TT 124 = (4, 0) := by decide +kernel
theorem hA124 : (124 : Nat) ≠ 0 ∧ 124 ≤ NN := by decide +kernel
theorem hT125 : TT 125 = (9, 0) := by decide +kernel
theorem hA125 : (125 : Nat) ≠ 0 ∧ 125 ≤ NN := by decide +kernel
theorem hT126 : TT 126 = (0, 0) := by decide +kernel
theorem hA126 : (126 : Nat) ≠ 0 ∧ 126 ≤ NN := by decide +kernel
theorem hT127 : TT 127 = (5, 0) := by decide +kernel
theorem hA127 : (127 : Nat) ≠ 0 ∧ 127 ≤ NN := by decide +kernel
theorem hT128 : TT 128 = (1, 0) := by decide +kernel
theorem hA128 : (128 : Nat) ≠ 0 ∧ 128 ≤ NN := by decide +kernel
theorem hT129 : TT 129 = (3, 5) := by decide +kernel
theorem hA129 : (129 : Nat) ≠ 0 ∧ 129 ≤ NN := by decide +kernel
theorem hT130 : TT 130 = (13, 6) := by decide +kernel
theorem hA130 : (130 : Nat) ≠ 0 ∧ 130 ≤ NN := by decide +kernel
theorem hT131 : TT 131 = (3, 5) := by decide +kernel
theorem hA131 : (131 : Nat) ≠ 0 ∧ 131 ≤ NN := by decide +kernel
theorem hT132 : TT 132 = (13, 6) := by decide +kernel
theorem hA132 : (132 : Nat) ≠ 0 ∧ 132 ≤ NN := by decide +kernel
theorem hT133 : TT 133 = (3, 5) := by decide +kernel
theorem hA133 : (133 : Nat) ≠ 0 ∧ 133 ≤ NN := by decide +kernel
theorem hT134 : TT 134 = (13, 6) := by decide +kernel
theorem hA134 : (134 : Nat) ≠ 0 ∧ 134 ≤ NN := by decide +kernel
theorem hT135 : TT 135 = (3, 5) := by decide +kernel
theorem hA135 : (135 : Nat) ≠ 0 ∧ 135 ≤ NN := by decide +kernel
theorem hT136 : TT 136 = (13, 6) := by decide +kernel
theorem hA136 : (136 : Nat) ≠ 0 ∧ 136 ≤ NN := by decide +kernel
theorem hT137 : TT 137 = (3, 5) := by decide +kernel
theorem hA137 : (137 : Nat) ≠ 0 ∧ 137 ≤ NN := by decide +kernel
theorem hT138 : TT 138 = (13, 6) := by decide +kernel
theorem hA138 : (138 : Nat) ≠ 0 ∧ 138 ≤ NN := by decide +kernel
theorem hT139 : TT 139 = (3, 5) := by decide +kernel
theorem hA139 : (139 : Nat) ≠ 0 ∧ 139 ≤ NN := by decide +kernel
theorem hT140 : TT 140 = (13, 6) := by decide +kernel
theorem hA140 : (140 : Nat) ≠ 0 ∧ 140 ≤ NN := by decide +kernel
theorem hT141 : TT 141 = (3, 5) := by decide +kernel
theorem hA141 : (141 : Nat) ≠ 0 ∧ 141 ≤ NN := by decide +kernel
theorem hT142 : TT 142 = (13, 6) := by decide +kernel
theorem hA142 : (142 : Nat) ≠ 0 ∧ 142 ≤ NN := by decide +kernel
theorem hT143 : TT 143 = (3, 5) := by decide +kernel
theorem hA143 : (143 : Nat) ≠ 0 ∧ 143 ≤ NN := by decide +kernel
theorem hT144 : TT 144 = (13, 6) := by decide +kernel
theorem hA144 : (144 : Nat) ≠ 0 ∧ 144 ≤ NN := by decide +kernel
theorem hT145 : TT 145 = (14, 2) := by decide +kernel
theorem hA145 : (145 : Nat) ≠ 0 ∧ 145 ≤ NN := by decide +kernel
theorem hT146 : TT 146 = (11, 21) := by decide +kernel
theorem hA146 : (146 : Nat) ≠ 0 ∧ 146 ≤ NN := by decide +kernel
theorem hT147 : TT 147 = (13, 181) := by decide +kernel
theorem hA147 : (147 : Nat) ≠ 0 ∧ 147 ≤ NN := by decide +kernel
theorem hT148 : TT 148 = (13, 181) := by decide +kernel
theorem hA148 : (148 : Nat) ≠ 0 ∧ 148 ≤ NN := by decide +kernel
theorem hT149 : TT 149 = (13, 362) := by decide +kernel
theorem hA149 : (149 : Nat) ≠ 0 ∧ 149 ≤ NN := by decide +kernel
theorem hT150 : TT 150 = (14, 2) := by decide +kernel
theorem hA150 : (150 : Nat) ≠ 0 ∧ 150 ≤ NN := by decide +kernel
theorem hT151 : TT 151 = (13, 3) := by decide +kernel
theorem hA151 : (151 : Nat) ≠ 0 ∧ 151 ≤ NN := by decide +kernel
theorem hT152 : TT 152 = (13, 150) := by decide +kernel
theorem hA152 : (152 : Nat) ≠ 0 ∧ 152 ≤ NN := by decide +kernel
theorem hT153 : TT 153 = (13, 64) := by decide +kernel
theorem hA153 : (153 : Nat) ≠ 0 ∧ 153 ≤ NN := by decide +kernel
theorem hT154 : TT 154 = (13, 64) := by decide +kernel
theorem hA154 : (154 : Nat) ≠ 0 ∧ 154 ≤ NN := by decide +kernel
theorem hT155 : TT 155 = (13, 64) := by decide +kernel
theorem hA155 : (155 : Nat) ≠ 0 ∧ 155 ≤ NN := by decide +kernel
theorem hT156 : TT 156 = (13, 6) := by decide +kernel
theorem hA156 : (156 : Nat) ≠ 0 ∧ 156 ≤ NN := by decide +kernel
theorem hT157 : TT 157 = (13, 6) := by decide +kernel
theorem hA157 : (157 : Nat) ≠ 0 ∧ 157 ≤ NN := by decide +kernel
/-- who refers to whom; the rows of what may be undone (cells 21, 54, 88, 121) may stand in another order -/
def PPt : List (List Nat) := [[], [2, 4, 78, 145, 12, 45], [3], [], [5, 6, 7, 8, 9, 10, 11], [], [], [], [], [], [], [], [22, 13, 14, 15, 16, 17, 18, 19, 21], [], [], [], [], [], [], [20], [], [], [23, 24, 25, 26, 27, 28], [], [], [], [], [], [], [30], [], [32], [], [34], [], [36], [], [38], [], [40], [], [42], [], [44], [], [55, 46, 47, 48, 49, 50, 51, 52, 54], [], [], [], [], [], [], [53], [], [], [56, 57, 58, 59, 60, 61], [], [], [], [], [], [], [63], [], [65], [], [67], [], [69], [], [71], [], [73], [], [75], [], [77], [], [79, 112], [89, 80, 81, 82, 83, 84, 85, 86, 88], [], [], [], [], [], [], [87], [], [], [90, 91, 92, 93, 94, 95], [], [], [], [], [], [], [97], [], [99], [], [101], [], [103], [], [105], [], [107], [], [109], [], [111], [], [122, 113, 114, 115, 116, 117, 118, 119, 121], [], [], [], [], [], [], [120], [], [], [123, 124, 125, 126, 127, 128], [], [], [], [], [], [], [130], [], [132], [], [134], [], [136], [], [138], [], [140], [], [142], [], [144], [], [], [147, 148, 149, 150, 151, 0, 0, 0, 152, 0, 0, 0, 0, 0, 0, 153, 154, 155, 156, 157], [], [], [], [], [], [], [], [], [], [], []]
def PP (q : Nat → Nat → Nat) : Nat → Nat → Nat := fun a => if a = 21 ∨ a = 54 ∨ a = 88 ∨ a = 121 then q a else fun k => (PPt.getD a []).getD k 0
theorem hP1_0 (q : Nat → Nat → Nat) : PP q 1 0 = 2 := by show ((PPt.getD 1 []).getD 0 0) = 2; decide +kernel
theorem hP1_1 (q : Nat → Nat → Nat) : PP q 1 1 = 4 := by show ((PPt.getD 1 []).getD 1 0) = 4; decide +kernel
theorem hP1_2 (q : Nat → Nat → Nat) : PP q 1 2 = 78 := by show ((PPt.getD 1 []).getD 2 0) = 78; decide +kernel
theorem hP1_3 (q : Nat → Nat → Nat) : PP q 1 3 = 145 := by show ((PPt.getD 1 []).getD 3 0) = 145; decide +kernel
theorem hP1_4 (q : Nat → Nat → Nat) : PP q 1 4 = 12 := by show ((PPt.getD 1 []).getD 4 0) = 12; decide +kernel
theorem hP1_5 (q : Nat → Nat → Nat) : PP q 1 5 = 45 := by show ((PPt.getD 1 []).getD 5 0) = 45; decide +kernel
theorem hP2_0 (q : Nat → Nat → Nat) : PP q 2 0 = 3 := by show ((PPt.getD 2 []).getD 0 0) = 3; decide +kernel
theorem hP4_0 (q : Nat → Nat → Nat) : PP q 4 0 = 5 := by show ((PPt.getD 4 []).getD 0 0) = 5; decide +kernel
theorem hP4_1 (q : Nat → Nat → Nat) : PP q 4 1 = 6 := by show ((PPt.getD 4 []).getD 1 0) = 6; decide +kernel
theorem hP4_2 (q : Nat → Nat → Nat) : PP q 4 2 = 7 := by show ((PPt.getD 4 []).getD 2 0) = 7; decide +kernel
theorem hP4_3 (q : Nat → Nat → Nat) : PP q 4 3 = 8 := by show ((PPt.getD 4 []).getD 3 0) = 8; decide +kernel
theorem hP4_4 (q : Nat → Nat → Nat) : PP q 4 4 = 9 := by show ((PPt.getD 4 []).getD 4 0) = 9; decide +kernel
theorem hP4_5 (q : Nat → Nat → Nat) : PP q 4 5 = 10 := by show ((PPt.getD 4 []).getD 5 0) = 10; decide +kernel
theorem hP4_6 (q : Nat → Nat → Nat) : PP q 4 6 = 11 := by show ((PPt.getD 4 []).getD 6 0) = 11; decide +kernel
theorem hP12_0 (q : Nat → Nat → Nat) : PP q 12 0 = 22 := by show ((PPt.getD 12 []).getD 0 0) = 22; decide +kernel
theorem hP12_1 (q : Nat → Nat → Nat) : PP q 12 1 = 13 := by show ((PPt.getD 12 []).getD 1 0) = 13; decide +kernel
theorem hP12_2 (q : Nat → Nat → Nat) : PP q 12 2 = 14 := by show ((PPt.getD 12 []).getD 2 0) = 14; decide +kernel
theorem hP12_3 (q : Nat → Nat → Nat) : PP q 12 3 = 15 := by show ((PPt.getD 12 []).getD 3 0) = 15; decide +kernel
theorem hP12_4 (q : Nat → Nat → Nat) : PP q 12 4 = 16 := by show ((PPt.getD 12 []).getD 4 0) = 16; decide +kernel
theorem hP12_5 (q : Nat → Nat → Nat) : PP q 12 5 = 17 := by show ((PPt.getD 12 []).getD 5 0) = 17; decide +kernel
theorem hP12_6 (q : Nat → Nat → Nat) : PP q 12 6 = 18 := by show ((PPt.getD 12 []).getD 6 0) = 18; decide +kernel
theorem hP12_7 (q : Nat → Nat → Nat) : PP q 12 7 = 19 := by show ((PPt.getD 12 []).getD 7 0) = 19; decide +kernel
theorem hP12_8 (q : Nat → Nat → Nat) : PP q 12 8 = 21 := by show ((PPt.getD 12 []).getD 8 0) = 21; decide +kernel
theorem hP19_0 (q : Nat → Nat → Nat) : PP q 19 0 = 20 := by show ((PPt.getD 19 []).getD 0 0) = 20; decide +kernel
theorem hP22_0 (q : Nat → Nat → Nat) : PP q 22 0 = 23 := by show ((PPt.getD 22 []).getD 0 0) = 23; decide +kernel
theorem hP22_1 (q : Nat → Nat → Nat) : PP q 22 1 = 24 := by show ((PPt.getD 22 []).getD 1 0) = 24; decide +kernel
theorem hP22_2 (q : Nat → Nat → Nat) : PP q 22 2 = 25 := by show ((PPt.getD 22 []).getD 2 0) = 25; decide +kernel
theorem hP22_3 (q : Nat → Nat → Nat) : PP q 22 3 = 26 := by show ((PPt.getD 22 []).getD 3 0) = 26; decide +kernel
theorem hP22_4 (q : Nat → Nat → Nat) : PP q 22 4 = 27 := by show ((PPt.getD 22 []).getD 4 0) = 27; decide +kernel
theorem hP22_5 (q : Nat → Nat → Nat) : PP q 22 5 = 28 := by show ((PPt.getD 22 []).getD 5 0) = 28; decide +kernel
theorem hP29_0 (q : Nat → Nat → Nat) : PP q 29 0 = 30 := by show ((PPt.getD 29 []).getD 0 0) = 30; decide +kernel
theorem hP31_0 (q : Nat → Nat → Nat) : PP q 31 0 = 32 := by show ((PPt.getD 31 []).getD 0 0) = 32; decide +kernel
theorem hP33_0 (q : Nat → Nat → Nat) : PP q 33 0 = 34 := by show ((PPt.getD 33 []).getD 0 0) = 34; decide +kernel
theorem hP35_0 (q : Nat → Nat → Nat) : PP q 35 0 = 36 := by show ((PPt.getD 35 []).getD 0 0) = 36; decide +kernel
theorem hP37_0 (q : Nat → Nat → Nat) : PP q 37 0 = 38 := by show ((PPt.getD 37 []).getD 0 0) = 38; decide +kernel
theorem hP39_0 (q : Nat → Nat → Nat) : PP q 39 0 = 40 := by show ((PPt.getD 39 []).getD 0 0) = 40; decide +kernel
theorem hP41_0 (q : Nat → Nat → Nat) : PP q 41 0 = 42 := by show ((PPt.getD 41 []).getD 0 0) = 42; decide +kernel
theorem hP43_0 (q : Nat → Nat → Nat) : PP q 43 0 = 44 := by show ((PPt.getD 43 []).getD 0 0) = 44; decide +kernel
theorem hP45_0 (q : Nat → Nat → Nat) : PP q 45 0 = 55 := by show ((PPt.getD 45 []).getD 0 0) = 55; decide +kernel
theorem hP45_1 (q : Nat → Nat → Nat) : PP q 45 1 = 46 := by show ((PPt.getD 45 []).getD 1 0) = 46; decide +kernel
theorem hP45_2 (q : Nat → Nat → Nat) : PP q 45 2 = 47 := by show ((PPt.getD 45 []).getD 2 0) = 47; decide +kernel
theorem hP45_3 (q : Nat → Nat → Nat) : PP q 45 3 = 48 := by show ((PPt.getD 45 []).getD 3 0) = 48; decide +kernel
theorem hP45_4 (q : Nat → Nat → Nat) : PP q 45 4 = 49 := by show ((PPt.getD 45 []).getD 4 0) = 49; decide +kernel
theorem hP45_5 (q : Nat → Nat → Nat) : PP q 45 5 = 50 := by show ((PPt.getD 45 []).getD 5 0) = 50; decide +kernel
theorem hP45_6 (q : Nat → Nat → Nat) : PP q 45 6 = 51 := by show ((PPt.getD 45 []).getD 6 0) = 51; decide +kernel
theorem hP45_7 (q : Nat → Nat → Nat) : PP q 45 7 = 52 := by show ((PPt.getD 45 []).getD 7 0) = 52; decide +kernel
theorem hP45_8 (q : Nat → Nat → Nat) : PP q 45 8 = 54 := by show ((PPt.getD 45 []).getD 8 0) = 54; decide +kernel
theorem hP52_0 (q : Nat → Nat → Nat) : PP q 52 0 = 53 := by show ((PPt.getD 52 []).getD 0 0) = 53; decide +kernel
theorem hP55_0 (q : Nat → Nat → Nat) : PP q 55 0 = 56 := by show ((PPt.getD 55 []).getD 0 0) = 56; decide +kernel
theorem hP55_1 (q : Nat → Nat → Nat) : PP q 55 1 = 57 := by show ((PPt.getD 55 []).getD 1 0) = 57; decide +kernel
theorem hP55_2 (q : Nat → Nat → Nat) : PP q 55 2 = 58 := by show ((PPt.getD 55 []).getD 2 0) = 58; decide +kernel
theorem hP55_3 (q : Nat → Nat → Nat) : PP q 55 3 = 59 := by show ((PPt.getD 55 []).getD 3 0) = 59; decide +kernel
theorem hP55_4 (q : Nat → Nat → Nat) : PP q 55 4 = 60 := by show ((PPt.getD 55 []).getD 4 0) = 60; decide +kernel
theorem hP55_5 (q : Nat → Nat → Nat) : PP q 55 5 = 61 := by show ((PPt.getD 55 []).getD 5 0) = 61; decide +kernel
theorem hP62_0 (q : Nat → Nat → Nat) : PP q 62 0 = 63 := by show ((PPt.getD 62 []).getD 0 0) = 63; decide +kernel
theorem hP64_0 (q : Nat → Nat → Nat) : PP q 64 0 = 65 := by show ((PPt.getD 64 []).getD 0 0) = 65; decide +kernel
theorem hP66_0 (q : Nat → Nat → Nat) : PP q 66 0 = 67 := by show ((PPt.getD 66 []).getD 0 0) = 67; decide +kernel
theorem hP68_0 (q : Nat → Nat → Nat) : PP q 68 0 = 69 := by show ((PPt.getD 68 []).getD 0 0) = 69; decide +kernel
theorem hP70_0 (q : Nat → Nat → Nat) : PP q 70 0 = 71 := by show ((PPt.getD 70 []).getD 0 0) = 71; decide +kernel
theorem hP72_0 (q : Nat → Nat → Nat) : PP q 72 0 = 73 := by show ((PPt.getD 72 []).getD 0 0) = 73; decide +kernel
theorem hP74_0 (q : Nat → Nat → Nat) : PP q 74 0 = 75 := by show ((PPt.getD 74 []).getD 0 0) = 75; decide +kernel
theorem hP76_0 (q : Nat → Nat → Nat) : PP q 76 0 = 77 := by show ((PPt.getD 76 []).getD 0 0) = 77; decide +kernel
theorem hP78_0 (q : Nat → Nat → Nat) : PP q 78 0 = 79 := by show ((PPt.getD 78 []).getD 0 0) = 79; decide +kernel
theorem hP78_1 (q : Nat → Nat → Nat) : PP q 78 1 = 112 := by show ((PPt.getD 78 []).getD 1 0) = 112; decide +kernel
theorem hP79_0 (q : Nat → Nat → Nat) : PP q 79 0 = 89 := by show ((PPt.getD 79 []).getD 0 0) = 89; decide +kernel
theorem hP79_1 (q : Nat → Nat → Nat) : PP q 79 1 = 80 := by show ((PPt.getD 79 []).getD 1 0) = 80; decide +kernel
theorem hP79_2 (q : Nat → Nat → Nat) : PP q 79 2 = 81 := by show ((PPt.getD 79 []).getD 2 0) = 81; decide +kernel
theorem hP79_3 (q : Nat → Nat → Nat) : PP q 79 3 = 82 := by show ((PPt.getD 79 []).getD 3 0) = 82; decide +kernel
theorem hP79_4 (q : Nat → Nat → Nat) : PP q 79 4 = 83 := by show ((PPt.getD 79 []).getD 4 0) = 83; decide +kernel
theorem hP79_5 (q : Nat → Nat → Nat) : PP q 79 5 = 84 := by show ((PPt.getD 79 []).getD 5 0) = 84; decide +kernel
theorem hP79_6 (q : Nat → Nat → Nat) : PP q 79 6 = 85 := by show ((PPt.getD 79 []).getD 6 0) = 85; decide +kernel
theorem hP79_7 (q : Nat → Nat → Nat) : PP q 79 7 = 86 := by show ((PPt.getD 79 []).getD 7 0) = 86; decide +kernel
theorem hP79_8 (q : Nat → Nat → Nat) : PP q 79 8 = 88 := by show ((PPt.getD 79 []).getD 8 0) = 88; decide +kernel
theorem hP86_0 (q : Nat → Nat → Nat) : PP q 86 0 = 87 := by show ((PPt.getD 86 []).getD 0 0) = 87; decide +kernel
theorem hP89_0 (q : Nat → Nat → Nat) : PP q 89 0 = 90 := by show ((PPt.getD 89 []).getD 0 0) = 90; decide +kernel
theorem hP89_1 (q : Nat → Nat → Nat) : PP q 89 1 = 91 := by show ((PPt.getD 89 []).getD 1 0) = 91; decide +kernel
theorem hP89_2 (q : Nat → Nat → Nat) : PP q 89 2 = 92 := by show ((PPt.getD 89 []).getD 2 0) = 92; decide +kernel
theorem hP89_3 (q : Nat → Nat → Nat) : PP q 89 3 = 93 := by show ((PPt.getD 89 []).getD 3 0) = 93; decide +kernel
theorem hP89_4 (q : Nat → Nat → Nat) : PP q 89 4 = 94 := by show ((PPt.getD 89 []).getD 4 0) = 94; decide +kernel
theorem hP89_5 (q : Nat → Nat → Nat) : PP q 89 5 = 95 := by show ((PPt.getD 89 []).getD 5 0) = 95; decide +kernel
theorem hP96_0 (q : Nat → Nat → Nat) : PP q 96 0 = 97 := by show ((PPt.getD 96 []).getD 0 0) = 97; decide +kernel
theorem hP98_0 (q : Nat → Nat → Nat) : PP q 98 0 = 99 := by show ((PPt.getD 98 []).getD 0 0) = 99; decide +kernel
theorem hP100_0 (q : Nat → Nat → Nat) : PP q 100 0 = 101 := by show ((PPt.getD 100 []).getD 0 0) = 101; decide +kernel
theorem hP102_0 (q : Nat → Nat → Nat) : PP q 102 0 = 103 := by show ((PPt.getD 102 []).getD 0 0) = 103; decide +kernel
theorem hP104_0 (q : Nat → Nat → Nat) : PP q 104 0 = 105 := by show ((PPt.getD 104 []).getD 0 0) = 105; decide +kernel
theorem hP106_0 (q : Nat → Nat → Nat) : PP q 106 0 = 107 := by show ((PPt.getD 106 []).getD 0 0) = 107; decide +kernel
theorem hP108_0 (q : Nat → Nat → Nat) : PP q 108 0 = 109 := by show ((PPt.getD 108 []).getD 0 0) = 109; decide +kernel
theorem hP110_0 (q : Nat → Nat → Nat) : PP q 110 0 = 111 := by show ((PPt.getD 110 []).getD 0 0) = 111; decide +kernel
theorem hP112_0 (q : Nat → Nat → Nat) : PP q 112 0 = 122 := by show ((PPt.getD 112 []).getD 0 0) = 122; decide +kernel
theorem hP112_1 (q : Nat → Nat → Nat) : PP q 112 1 = 113 := by show ((PPt.getD 112 []).getD 1 0) = 113; decide +kernel
theorem hP112_2 (q : Nat → Nat → Nat) : PP q 112 2 = 114 := by show ((PPt.getD 112 []).getD 2 0) = 114; decide +kernel
theorem hP112_3 (q : Nat → Nat → Nat) : PP q 112 3 = 115 := by show ((PPt.getD 112 []).getD 3 0) = 115; decide +kernel
theorem hP112_4 (q : Nat → Nat → Nat) : PP q 112 4 = 116 := by show ((PPt.getD 112 []).getD 4 0) = 116; decide +kernel
theorem hP112_5 (q : Nat → Nat → Nat) : PP q 112 5 = 117 := by show ((PPt.getD 112 []).getD 5 0) = 117; decide +kernel
theorem hP112_6 (q : Nat → Nat → Nat) : PP q 112 6 = 118 := by show ((PPt.getD 112 []).getD 6 0) = 118; decide +kernel
theorem hP112_7 (q : Nat → Nat → Nat) : PP q 112 7 = 119 := by show ((PPt.getD 112 []).getD 7 0) = 119; decide +kernel
theorem hP112_8 (q : Nat → Nat → Nat) : PP q 112 8 = 121 := by show ((PPt.getD 112 []).getD 8 0) = 121; decide +kernel
theorem hP119_0 (q : Nat → Nat → Nat) : PP q 119 0 = 120 := by show ((PPt.getD 119 []).getD 0 0) = 120; decide +kernel
theorem hP122_0 (q : Nat → Nat → Nat) : PP q 122 0 = 123 := by show ((PPt.getD 122 []).getD 0 0) = 123; decide +kernel
theorem hP122_1 (q : Nat → Nat → Nat) : PP q 122 1 = 124 := by show ((PPt.getD 122 []).getD 1 0) = 124; decide +kernel
theorem hP122_2 (q : Nat → Nat → Nat) : PP q 122 2 = 125 := by show ((PPt.getD 122 []).getD 2 0) = 125; decide +kernel
theorem hP122_3 (q : Nat → Nat → Nat) : PP q 122 3 = 126 := by show ((PPt.getD 122 []).getD 3 0) = 126; decide +kernel
theorem hP122_4 (q : Nat → Nat → Nat) : PP q 122 4 = 127 := by show ((PPt.getD 122 []).getD 4 0) = 127; decide +kernel
theorem hP122_5 (q : Nat → Nat → Nat) : PP q 122 5 = 128 := by show ((PPt.getD 122 []).getD 5 0) = 128; decide +kernel
theorem hP129_0 (q : Nat → Nat → Nat) : PP q 129 0 = 130 := by show ((PPt.getD 129 []).getD 0 0) = 130; decide +kernel
theorem hP131_0 (q : Nat → Nat → Nat) : PP q 131 0 = 132 := by show ((PPt.getD 131 []).getD 0 0) = 132; decide +kernel
theorem hP133_0 (q : Nat → Nat → Nat) : PP q 133 0 = 134 := by show ((PPt.getD 133 []).getD 0 0) = 134; decide +kernel
theorem hP135_0 (q : Nat → Nat → Nat) : PP q 135 0 = 136 := by show ((PPt.getD 135 []).getD 0 0) = 136; decide +kernel
theorem hP137_0 (q : Nat → Nat → Nat) : PP q 137 0 = 138 := by show ((PPt.getD 137 []).getD 0 0) = 138; decide +kernel
theorem hP139_0 (q : Nat → Nat → Nat) : PP q 139 0 = 140 := by show ((PPt.getD 139 []).getD 0 0) = 140; decide +kernel
theorem hP141_0 (q : Nat → Nat → Nat) : PP q 141 0 = 142 := by show ((PPt.getD 141 []).getD 0 0) = 142; decide +kernel
theorem hP143_0 (q : Nat → Nat → Nat) : PP q 143 0 = 144 := by show ((PPt.getD 143 []).getD 0 0) = 144; decide +kernel
theorem hP146_0 (q : Nat → Nat → Nat) : PP q 146 0 = 147 := by show ((PPt.getD 146 []).getD 0 0) = 147; decide +kernel
theorem hP146_1 (q : Nat → Nat → Nat) : PP q 146 1 = 148 := by show ((PPt.getD 146 []).getD 1 0) = 148; decide +kernel
theorem hP146_2 (q : Nat → Nat → Nat) : PP q 146 2 = 149 := by show ((PPt.getD 146 []).getD 2 0) = 149; decide +kernel
theorem hP146_3 (q : Nat → Nat → Nat) : PP q 146 3 = 150 := by show ((PPt.getD 146 []).getD 3 0) = 150; decide +kernel
theorem hP146_4 (q : Nat → Nat → Nat) : PP q 146 4 = 151 := by show ((PPt.getD 146 []).getD 4 0) = 151; decide +kernel
theorem hP146_8 (q : Nat → Nat → Nat) : PP q 146 8 = 152 := by show ((PPt.getD 146 []).getD 8 0) = 152; decide +kernel
theorem hP146_15 (q : Nat → Nat → Nat) : PP q 146 15 = 153 := by show ((PPt.getD 146 []).getD 15 0) = 153; decide +kernel
theorem hP146_16 (q : Nat → Nat → Nat) : PP q 146 16 = 154 := by show ((PPt.getD 146 []).getD 16 0) = 154; decide +kernel
theorem hP146_17 (q : Nat → Nat → Nat) : PP q 146 17 = 155 := by show ((PPt.getD 146 []).getD 17 0) = 155; decide +kernel
theorem hP146_18 (q : Nat → Nat → Nat) : PP q 146 18 = 156 := by show ((PPt.getD 146 []).getD 18 0) = 156; decide +kernel
theorem hP146_19 (q : Nat → Nat → Nat) : PP q 146 19 = 157 := by show ((PPt.getD 146 []).getD 19 0) = 157; decide +kernel
/-- yes is 1, no is 0 -/
def hz_b (p : Prop) [Decidable p] : Int32 := if p then 1 else 0
def hz_rem (x z : Int32) : Int32 := x - x / z * z
theorem hz_n1 : nI 1 = 1 := by decide +kernel
theorem hz_b1 {p : Prop} [Decidable p] (h : p) : hz_b p = 1 := if_pos h
theorem hz_b0 {p : Prop} [Decidable p] (h : ¬ p) : hz_b p = 0 := if_neg h
theorem hz_bn (p : Prop) [Decidable p] : narrow .boolean (.int (hz_b p)) = .int (hz_b p) := by
  unfold hz_b
  split <;> decide
theorem hz_bc {p r : Prop} [Decidable p] [Decidable r] (h : p ↔ r) : hz_b p = hz_b r := by
  unfold hz_b
  simp only [h]
theorem hz_ba (p r : Prop) [Decidable p] [Decidable r] : hz_b p = hz_b r ↔ (p ↔ r) := by
  unfold hz_b
  by_cases hp : p <;> by_cases hr : r <;> simp [hp, hr]
section IFB
variable {X : hz_X} {y : hz_Y} {T : hz_T} {n : Nat} {M : hz_M} {kc ks pc : Nat} {ls : List (Option Value)} {st : List Value}
theorem hz_ifb_eq (C : hz_C X y) {p : Prop} [Decidable p] {off : Int} {tgt : Nat} (d : decode y.2.1 pc = .ok (.ifCond .eq off, 3)) (ht : (pc : Int) + off = (tgt : Int)) (kt : ¬ p → hz_G X T n M kc ks tgt ls st) (kf : p → hz_G X T n M kc ks (pc + 3) ls st) : hz_G X T n M kc ks pc ls (.int (hz_b p) :: st) :=
  hz_if_eq C d ht (fun h => kt (fun hp => by rw [hz_b1 hp] at h; revert h; decide)) (fun h => kf (Decidable.byContradiction fun hp => h (hz_b0 hp)))
theorem hz_ifb_ne (C : hz_C X y) {p : Prop} [Decidable p] {off : Int} {tgt : Nat} (d : decode y.2.1 pc = .ok (.ifCond .ne off, 3)) (ht : (pc : Int) + off = (tgt : Int)) (kt : p → hz_G X T n M kc ks tgt ls st) (kf : ¬ p → hz_G X T n M kc ks (pc + 3) ls st) : hz_G X T n M kc ks pc ls (.int (hz_b p) :: st) :=
  hz_if_ne C d ht (fun h => kt (Decidable.byContradiction fun hp => h (hz_b0 hp))) (fun h => kf (fun hp => by rw [hz_b1 hp] at h; revert h; decide))
end IFB
end
section
section MORE
variable {X : hz_X} {y : hz_Y} {T : hz_T} {n : Nat} {M : hz_M} {kc ks pc ix : Nat} {ls : List (Option Value)} {st : List Value}
theorem hz_mmin (C : hz_C X y) (F : hz_FS y.1.cls ix mJ9_min_7cf53) (hlen : ls.length = y.2.2.1) {x z : Int32} (d : decode y.2.1 pc = .ok (.invokestatic ix, 3)) (hsum : (st.map Value.category).sum ≤ 8) (hd : 1 ≤ y.2.2.2.2) (hcap : hz_cap X kc ks) (kk : hz_G X T n M kc ks (pc + 3) ls (.int (if z < x then z else x) :: st)) : hz_G X T n M kc ks pc ls (.int z :: .int x :: st) := by
  obtain ⟨p, l, e, R, s, m, args, below, meth, cd, D, Q⟩ := X
  obtain ⟨hx, hb, hml, hown, hts, hK, hext, hfr, hlo, -⟩ := C
  intro H locs hR hS lsA hl
  have h8 := hz_sum (ad := D.2.2.1) hsum
  exact va_mmin hx hb (hml.trans (hlen.symm.trans hl.1.symm)) hown (hts _ F.1) (hts _ F.2) (hts _ fyJ9_min_7cf53.2.1) (hts _ fyJ9_min_7cf53.1) (by omega) (by omega) hcap.1 hcap.2 d (kk H locs hR hS lsA hl)
theorem hz_mmax (C : hz_C X y) (F : hz_FS y.1.cls ix mJ9_max_7cf53) (hlen : ls.length = y.2.2.1) {x z : Int32} (d : decode y.2.1 pc = .ok (.invokestatic ix, 3)) (hsum : (st.map Value.category).sum ≤ 8) (hd : 1 ≤ y.2.2.2.2) (hcap : hz_cap X kc ks) (kk : hz_G X T n M kc ks (pc + 3) ls (.int (if x < z then z else x) :: st)) : hz_G X T n M kc ks pc ls (.int z :: .int x :: st) := by
  obtain ⟨p, l, e, R, s, m, args, below, meth, cd, D, Q⟩ := X
  obtain ⟨hx, hb, hml, hown, hts, hK, hext, hfr, hlo, -⟩ := C
  intro H locs hR hS lsA hl
  have h8 := hz_sum (ad := D.2.2.1) hsum
  exact va_mmax hx hb (hml.trans (hlen.symm.trans hl.1.symm)) hown (hts _ F.1) (hts _ F.2) (hts _ fyJ9_max_7cf53.2.1) (hts _ fyJ9_max_7cf53.1) (by omega) (by omega) hcap.1 hcap.2 d (kk H locs hR hS lsA hl)
theorem hz_cpy (C : hz_C X y) {a0 a N0 N1 : Nat} {sp dp len : Nat} {isp idp ilen : Int32} {M' : hz_M} (F : Cond.methodLink y.1.cls ix arraycopyName ∈ hz_tbl ∧ Cond.native arraycopyName ∈ hz_tbl ∧ Cond.static arraycopyName ∈ hz_tbl ∧ Cond.initialized "java/lang/System" ∈ hz_tbl) (hlen : ls.length = y.2.2.1) (hT0 : T a0 = (13, N0)) (ha0 : a0 ≠ 0 ∧ a0 ≤ n) (hT1 : T a = (13, N1)) (ha1 : a ≠ 0 ∧ a ≤ n) (e1 : isp = nI sp) (e2 : idp = nI dp) (e3 : ilen = nI len) (hb : sp < 2 ^ 31 ∧ dp < 2 ^ 31 ∧ len < 2 ^ 31) (h4 : sp + len ≤ N0) (h5 : dp + len ≤ N1) (d : decode y.2.1 pc = .ok (.invokestatic ix, 3)) (hsum : (st.map Value.category).sum ≤ 8) (hd : 1 ≤ y.2.2.2.2)
    (hM : ((fun b => if b = a then va_cpy (M.1 a0) (M.1 a) sp dp len else M.1 b), M.2.1, M.2.2) = M') (kk : hz_G X T n M' 0 ks (pc + 3) ls st) : hz_G X T n M 0 ks pc ls (.int ilen :: .int idp :: .ref a :: .int isp :: .ref a0 :: st) := by
  obtain ⟨p, l, e, R, s, m, args, below, meth, cd, D, Q⟩ := X
  obtain ⟨hx, hbb, hml, hown, hts, hK, hext, hfr, hlo, -⟩ := C
  intro H locs hR hS lsA hl
  have h8 := hz_sum (ad := D.2.2.1) hsum
  have w0 := hz_W_arr D M ha0.1 ha0.2 hT0 (by decide) (by decide)
  have w1 := hz_W_arr D M ha1.1 ha1.2 hT1 (by decide) (by decide)
  have hnw : nativeFrameWords "java/lang/System" "arraycopy" 5 ≤ 19 := by decide +kernel
  subst e1; subst e2; subst e3
  have hE : ∀ b, b ≠ a → hz_E D T M' b = hz_E D T M b := fun b hb2 => hz_E_ne D T M M' (by rw [← hM]; exact if_neg hb2) (by rw [← hM]) (by rw [← hM])
  have hEa : hz_E D T M' a = .inl (D.2.1 13, N1, .inl (va_cpy (M.1 a0) (M.1 a) sp dp len)) := by
    rw [← hM]; simp [hz_E, hT1]
  intro T0 hT0 X0
  have z0 : H.size = s.heap.size := by have z1 := X0.heapSize; rw [hT0] at z1; have z2 := hS.1; omega
  refine va_copyi hx hbb (hml.trans (hlen.symm.trans hl.1.symm)) hown (hts _ F.1) (hts _ F.2.1) (hts _ F.2.2.1) (hts _ F.2.2.2) hK.1 hR.1 hR.2.1 hS (a0 - 1) (a - 1) 1 1 w0 w1 rfl rfl rfl (nI_pos hb.1) (nI_pos hb.2.1) (nI_pos hb.2.2) (by rw [nI_clamp hb.1, nI_clamp hb.2.2]; exact h4) (by rw [nI_clamp hb.2.1, nI_clamp hb.2.2]; exact h5) (fun i _ => rfl) (by omega) (by omega) d (fun H1 locs1 hP1 hD1 hS1 => ?_) T0 hT0 X0
  rw [nI_clamp hb.1, nI_clamp hb.2.1, nI_clamp hb.2.2, hz_W_set D T M M' ha1.1 hEa hE] at hP1 hD1
  intro T1 hT1 X1
  have z1 : H1.size = s.heap.size := by have z1 := X1.heapSize; rw [hT1] at z1; have z2 := hS1.1; omega
  exact kk H1 locs1 ⟨hP1, hD1, by rw [z1, ← z0]; exact hR.2.2⟩ hS1 lsA hl T1 hT1 X1
/-- the table of the telling seconds: outside -/
theorem hz_tget (C : hz_C X y) (F : Cond.fieldLinkNest y.1.cls ix RX10 "TELLING_SECONDS" "[I" "BeepHouse" ∈ hz_nst) (d : decode y.2.1 pc = .ok (.getstatic ix, 3)) (kk : hz_G X T n M kc ks (pc + 3) ls (.ref 1000 :: st)) : hz_G X T n M kc ks pc ls st := by
  obtain ⟨p, l, e, R, s, m, args, below, meth, cd, D, Q⟩ := X
  obtain ⟨hx, hb, hml, hown, hts, hK, hext, hfr, hlo, -⟩ := C
  intro H locs hR hS lsA hl
  exact va_getsN hx hb hext.1 hS hown (va_Nw.use rfl (hK.2 _ F)) (fun _ h => h) d (kk H locs hR hS lsA hl)
theorem hz_tlen (C : hz_C X y) (d : decode y.2.1 pc = .ok (.arraylength, 1)) (kk : hz_G X T n M kc ks (pc + 1) ls (.int (nI 3) :: st)) : hz_G X T n M kc ks pc ls (.ref 1000 :: st) := by
  obtain ⟨p, l, e, R, s, m, args, below, meth, cd, D, Q⟩ := X
  obtain ⟨hx, hb, hml, hown, hts, hK, hext, hfr, hlo, -⟩ := C
  intro H locs hR hS lsA hl
  exact va_tlen hx hb hext.2 hS rfl d (kk H locs hR hS lsA hl)
theorem hz_tld (C : hz_C X y) {j : Nat} {v : Int32} (hj : j < 3) (hv : hz_tell j = .int v) (d : decode y.2.1 pc = .ok (.iaload, 1)) (kk : hz_G X T n M kc ks (pc + 1) ls (.int v :: st)) : hz_G X T n M kc ks pc ls (.int (nI j) :: .ref 1000 :: st) := by
  obtain ⟨p, l, e, R, s, m, args, below, meth, cd, D, Q⟩ := X
  obtain ⟨hx, hb, hml, hown, hts, hK, hext, hfr, hlo, -⟩ := C
  intro H locs hR hS lsA hl
  exact va_ti hx hb hext.2 hS (vp_in_nI hj (by decide)) (by rw [nI_clamp (by omega)]; exact hv) d (kk H locs hR hS lsA hl)
end MORE
end
section
def hz_us (x : Int32) (k : Nat) : Int32 := (x.toUInt32 >>> ((nI k).toUInt32 &&& Int32.toUInt32 31)).toInt32
def hz_bc1 (v : Int32) : Int32 := v - (hz_us v 1 &&& nI 1431655765)
def hz_bc2 (v : Int32) : Int32 := (v &&& nI 858993459) + (hz_us v 2 &&& nI 858993459)
def hz_bc3 (v : Int32) : Int32 := (v + hz_us v 4) &&& nI 252645135
def hz_bc4 (v : Int32) : Int32 := v + hz_us v 8
def hz_bc5 (v : Int32) : Int32 := v + hz_us v 16
def hz_bc32 (v : Int32) : Int32 := hz_bc5 (hz_bc4 (hz_bc3 (hz_bc2 (hz_bc1 v)))) &&& nI 63
set_option maxHeartbeats 4000000 in
set_option maxRecDepth 100000 in
theorem ev_within {T : hz_T} {n : Nat} (M : hz_M) (v a b : Int32) : hz_Ev mX10_within T n M [.int v, .int a, .int b] 0 0 (some (.int (hz_b (¬ v < a ∧ ¬ b < v)))) T n M := by
  refine hz_Ev.intro (ls := [some (.int v), some (.int a), some (.int b)]) (by decide +kernel) rfl (Nat.le_of_ble_eq_true rfl) (fun X C Z _ => ?_)
  refine hz_iload_n C dX10_within_0 rfl ?_
  refine hz_iload_n C dX10_within_1 rfl ?_
  refine hz_ic_lt C (tgt := 14) dX10_within_2 rfl (fun c1 => ?_) (fun c1 => ?_)
  · refine hz_iconst C (v := nI 0) dX10_within_14 (by decide +kernel) ?_
    exact hz_zret C Z rfl (by decide +kernel) dX10_within_15 (hz_b0 (by simp [c1])).symm rfl
  · refine hz_iload_n C dX10_within_5 rfl ?_
    refine hz_iload_n C dX10_within_6 rfl ?_
    refine hz_ic_gt C (tgt := 14) dX10_within_7 rfl (fun c2 => ?_) (fun c2 => ?_)
    · refine hz_iconst C (v := nI 0) dX10_within_14 (by decide +kernel) ?_
      exact hz_zret C Z rfl (by decide +kernel) dX10_within_15 (hz_b0 (by simp [c1, c2])).symm rfl
    · refine hz_iconst C (v := nI 1) dX10_within_10 (by decide +kernel) ?_
      refine hz_goto C (tgt := 15) dX10_within_11 rfl ?_
      exact hz_zret C Z rfl (by decide +kernel) dX10_within_15 (hz_b1 (by simp [c1, c2])).symm rfl
set_option maxHeartbeats 4000000 in
set_option maxRecDepth 100000 in
theorem ev_in {T : hz_T} {n : Nat} (M : hz_M) (v a b : Int32) : hz_Ev mX11_in T n M [.int v, .int a, .int b] 0 0 (some (.int (hz_b (¬ v < a ∧ ¬ b < v)))) T n M := by
  refine hz_Ev.intro (ls := [some (.int v), some (.int a), some (.int b)]) (by decide +kernel) rfl (Nat.le_of_ble_eq_true rfl) (fun X C Z _ => ?_)
  refine hz_iload_n C dX11_in_0 rfl ?_
  refine hz_iload_n C dX11_in_1 rfl ?_
  refine hz_ic_lt C (tgt := 14) dX11_in_2 rfl (fun c1 => ?_) (fun c1 => ?_)
  · refine hz_iconst C (v := nI 0) dX11_in_14 (by decide +kernel) ?_
    exact hz_zret C Z rfl (by decide +kernel) dX11_in_15 (hz_b0 (by simp [c1])).symm rfl
  · refine hz_iload_n C dX11_in_5 rfl ?_
    refine hz_iload_n C dX11_in_6 rfl ?_
    refine hz_ic_gt C (tgt := 14) dX11_in_7 rfl (fun c2 => ?_) (fun c2 => ?_)
    · refine hz_iconst C (v := nI 0) dX11_in_14 (by decide +kernel) ?_
      exact hz_zret C Z rfl (by decide +kernel) dX11_in_15 (hz_b0 (by simp [c1, c2])).symm rfl
    · refine hz_iconst C (v := nI 1) dX11_in_10 (by decide +kernel) ?_
      refine hz_goto C (tgt := 15) dX11_in_11 rfl ?_
      exact hz_zret C Z rfl (by decide +kernel) dX11_in_15 (hz_b1 (by simp [c1, c2])).symm rfl
set_option maxHeartbeats 4000000 in
set_option maxRecDepth 100000 in
theorem ev_has {T : hz_T} {n : Nat} (M : hz_M) (v k : Int32) : hz_Ev mX10_has T n M [.int v, .int k] 0 0 (some (.int (hz_b ((v >>> (k &&& 31)) &&& nI 1 = nI 1)))) T n M := by
  refine hz_Ev.intro (ls := [some (.int v), some (.int k)]) (by decide +kernel) rfl (Nat.le_of_ble_eq_true rfl) (fun X C Z _ => ?_)
  refine hz_iload_n C dX10_has_0 rfl ?_
  refine hz_iload_n C dX10_has_1 rfl ?_
  refine hz_ishr C dX10_has_2 rfl ?_
  refine hz_iconst C (v := nI 1) dX10_has_3 (by decide +kernel) ?_
  refine hz_iand C dX10_has_4 rfl ?_
  refine hz_iconst C (v := nI 1) dX10_has_5 (by decide +kernel) ?_
  refine hz_ic_ne C (tgt := 13) dX10_has_6 rfl (fun c1 => ?_) (fun c1 => ?_)
  · refine hz_iconst C (v := nI 0) dX10_has_13 (by decide +kernel) ?_
    exact hz_zret C Z rfl (by decide +kernel) dX10_has_14 (hz_b0 (by simp [c1])).symm rfl
  · refine hz_iconst C (v := nI 1) dX10_has_9 (by decide +kernel) ?_
    refine hz_goto C (tgt := 14) dX10_has_10 rfl ?_
    exact hz_zret C Z rfl (by decide +kernel) dX10_has_14 (hz_b1 (by simp [c1])).symm rfl
set_option maxHeartbeats 4000000 in
set_option maxRecDepth 100000 in
theorem ev_hasM {T : hz_T} {n : Nat} (M : hz_M) (v k : Int32) : hz_Ev mX11_has T n M [.int v, .int k] 0 0 (some (.int (hz_b ((v >>> (k &&& 31)) &&& nI 1 = nI 1)))) T n M := by
  refine hz_Ev.intro (ls := [some (.int v), some (.int k)]) (by decide +kernel) rfl (Nat.le_of_ble_eq_true rfl) (fun X C Z _ => ?_)
  refine hz_iload_n C dX11_has_0 rfl ?_
  refine hz_iload_n C dX11_has_1 rfl ?_
  refine hz_ishr C dX11_has_2 rfl ?_
  refine hz_iconst C (v := nI 1) dX11_has_3 (by decide +kernel) ?_
  refine hz_iand C dX11_has_4 rfl ?_
  refine hz_iconst C (v := nI 1) dX11_has_5 (by decide +kernel) ?_
  refine hz_ic_ne C (tgt := 13) dX11_has_6 rfl (fun c1 => ?_) (fun c1 => ?_)
  · refine hz_iconst C (v := nI 0) dX11_has_13 (by decide +kernel) ?_
    exact hz_zret C Z rfl (by decide +kernel) dX11_has_14 (hz_b0 (by simp [c1])).symm rfl
  · refine hz_iconst C (v := nI 1) dX11_has_9 (by decide +kernel) ?_
    refine hz_goto C (tgt := 14) dX11_has_10 rfl ?_
    exact hz_zret C Z rfl (by decide +kernel) dX11_has_14 (hz_b1 (by simp [c1])).symm rfl
set_option maxHeartbeats 4000000 in
set_option maxRecDepth 100000 in
theorem ev_isRoom {T : hz_T} {n : Nat} (M : hz_M) (v : Int32) : hz_Ev mX10_isRoom T n M [.int v] 0 0 (some (.int (hz_b (¬ v < nI 0 ∧ ¬ nI 7 < v)))) T n M := by
  refine hz_Ev.intro (ls := [some (.int v)]) (by decide +kernel) rfl (Nat.le_of_ble_eq_true rfl) (fun X C Z _ => ?_)
  refine hz_iload_n C dX10_isRoom_0 rfl ?_
  refine hz_iconst C (v := nI 0) dX10_isRoom_1 (by decide +kernel) ?_
  refine hz_bipush C (v := nI 7) dX10_isRoom_2 (by decide +kernel) ?_
  refine hz_callS C (as := [.int v, .int (nI 0), .int (nI 7)]) (st := []) (ev_within _ v (nI 0) (nI 7)) (hz_new0 _ _) fyX10_within fsX10_59 rfl dX10_isRoom_4 rfl rfl (Nat.le_of_ble_eq_true rfl) (by decide) (hz_cap0 _) ?_
  exact hz_zret C Z rfl (hz_bn _) dX10_isRoom_7 rfl rfl
set_option maxHeartbeats 4000000 in
set_option maxRecDepth 100000 in
theorem ev_isRoomM {T : hz_T} {n : Nat} (M : hz_M) (v : Int32) : hz_Ev mX11_isRoom T n M [.int v] 0 0 (some (.int (hz_b (¬ v < nI 0 ∧ ¬ nI 7 < v)))) T n M := by
  refine hz_Ev.intro (ls := [some (.int v)]) (by decide +kernel) rfl (Nat.le_of_ble_eq_true rfl) (fun X C Z _ => ?_)
  refine hz_iload_n C dX11_isRoom_0 rfl ?_
  refine hz_iconst C (v := nI 0) dX11_isRoom_1 (by decide +kernel) ?_
  refine hz_bipush C (v := nI 7) dX11_isRoom_2 (by decide +kernel) ?_
  refine hz_callS C (as := [.int v, .int (nI 0), .int (nI 7)]) (st := []) (ev_in _ v (nI 0) (nI 7)) (hz_new0 _ _) fyX11_in fsX11_52 rfl dX11_isRoom_4 rfl rfl (Nat.le_of_ble_eq_true rfl) (by decide) (hz_cap0 _) ?_
  exact hz_zret C Z rfl (hz_bn _) dX11_isRoom_7 rfl rfl
set_option maxHeartbeats 4000000 in
set_option maxRecDepth 100000 in
theorem ev_isSecond {T : hz_T} {n : Nat} (M : hz_M) (v : Int32) : hz_Ev mX10_isSecond T n M [.int v] 0 0 (some (.int (hz_b (¬ v < nI 0 ∧ ¬ nI 9999 < v)))) T n M := by
  refine hz_Ev.intro (ls := [some (.int v)]) (by decide +kernel) rfl (Nat.le_of_ble_eq_true rfl) (fun X C Z _ => ?_)
  refine hz_iload_n C dX10_isSecond_0 rfl ?_
  refine hz_iconst C (v := nI 0) dX10_isSecond_1 (by decide +kernel) ?_
  refine hz_sipush C (v := nI 9999) dX10_isSecond_2 (by decide +kernel) ?_
  refine hz_callS C (as := [.int v, .int (nI 0), .int (nI 9999)]) (st := []) (ev_within _ v (nI 0) (nI 9999)) (hz_new0 _ _) fyX10_within fsX10_59 rfl dX10_isSecond_5 rfl rfl (Nat.le_of_ble_eq_true rfl) (by decide) (hz_cap0 _) ?_
  exact hz_zret C Z rfl (hz_bn _) dX10_isSecond_8 rfl rfl
set_option maxHeartbeats 4000000 in
set_option maxRecDepth 100000 in
theorem ev_mix {T : hz_T} {n : Nat} (M : hz_M) (h v : Int64) : hz_Ev mX10_mix T n M [.long h, .long v] 0 0 (some (.long (31 * h + v))) T n M := by
  refine hz_Ev.intro (ls := [some (.long h), none, some (.long v), none]) (by decide +kernel) rfl (Nat.le_of_ble_eq_true rfl) (fun X C Z _ => ?_)
  refine hz_ldc2 C (v := 31) dX10_mix_0 (hz_mp 879 (by decide +kernel)) ?_
  refine hz_lload_n C dX10_mix_3 rfl ?_
  refine hz_lmul C dX10_mix_4 rfl ?_
  refine hz_lload_n C dX10_mix_5 rfl ?_
  refine hz_ladd C dX10_mix_6 rfl ?_
  exact hz_lret C Z rfl dX10_mix_7 rfl rfl
set_option maxHeartbeats 4000000 in
set_option maxRecDepth 100000 in
theorem ev_bitCount {T : hz_T} {n : Nat} (M : hz_M) (v : Int32) : hz_Ev mJ6_bitCount_0f7a4 T n M [.int v] 0 0 (some (.int (hz_bc32 v))) T n M := by
  refine hz_Ev.intro (ls := [some (.int v)]) (by decide +kernel) rfl (Nat.le_of_ble_eq_true rfl) (fun X C Z _ => ?_)
  refine hz_iload_n C dJ6_bitCount_0f7a4_0 rfl ?_
  refine hz_iload_n C dJ6_bitCount_0f7a4_1 rfl ?_
  refine hz_iconst C (v := nI 1) dJ6_bitCount_0f7a4_2 (by decide +kernel) ?_
  refine hz_iushr C dJ6_bitCount_0f7a4_3 rfl ?_
  refine hz_ldcw C (v := nI 1431655765) dJ6_bitCount_0f7a4_4 (hz_mp 702 (by decide +kernel)) ?_
  refine hz_iand C dJ6_bitCount_0f7a4_7 rfl ?_
  refine hz_isub C dJ6_bitCount_0f7a4_8 rfl ?_
  refine hz_istore_n C (ls' := [some (.int (v - (((v.toUInt32 >>> ((nI 1).toUInt32 &&& Int32.toUInt32 31)).toInt32) &&& (nI 1431655765))))]) dJ6_bitCount_0f7a4_9 (Nat.le_of_ble_eq_true rfl) rfl ?_
  refine hz_iload_n C dJ6_bitCount_0f7a4_10 rfl ?_
  refine hz_ldcw C (v := nI 858993459) dJ6_bitCount_0f7a4_11 (hz_mp 703 (by decide +kernel)) ?_
  refine hz_iand C dJ6_bitCount_0f7a4_14 rfl ?_
  refine hz_iload_n C dJ6_bitCount_0f7a4_15 rfl ?_
  refine hz_iconst C (v := nI 2) dJ6_bitCount_0f7a4_16 (by decide +kernel) ?_
  refine hz_iushr C dJ6_bitCount_0f7a4_17 rfl ?_
  refine hz_ldcw C (v := nI 858993459) dJ6_bitCount_0f7a4_18 (hz_mp 703 (by decide +kernel)) ?_
  refine hz_iand C dJ6_bitCount_0f7a4_21 rfl ?_
  refine hz_iadd C dJ6_bitCount_0f7a4_22 rfl ?_
  refine hz_istore_n C (ls' := [some (.int (((v - (((v.toUInt32 >>> ((nI 1).toUInt32 &&& Int32.toUInt32 31)).toInt32) &&& (nI 1431655765))) &&& (nI 858993459)) + ((((v - (((v.toUInt32 >>> ((nI 1).toUInt32 &&& Int32.toUInt32 31)).toInt32) &&& (nI 1431655765))).toUInt32 >>> ((nI 2).toUInt32 &&& Int32.toUInt32 31)).toInt32) &&& (nI 858993459))))]) dJ6_bitCount_0f7a4_23 (Nat.le_of_ble_eq_true rfl) rfl ?_
  refine hz_iload_n C dJ6_bitCount_0f7a4_24 rfl ?_
  refine hz_iload_n C dJ6_bitCount_0f7a4_25 rfl ?_
  refine hz_iconst C (v := nI 4) dJ6_bitCount_0f7a4_26 (by decide +kernel) ?_
  refine hz_iushr C dJ6_bitCount_0f7a4_27 rfl ?_
  refine hz_iadd C dJ6_bitCount_0f7a4_28 rfl ?_
  refine hz_ldcw C (v := nI 252645135) dJ6_bitCount_0f7a4_29 (hz_mp 704 (by decide +kernel)) ?_
  refine hz_iand C dJ6_bitCount_0f7a4_32 rfl ?_
  refine hz_istore_n C (ls' := [some (.int (((((v - (((v.toUInt32 >>> ((nI 1).toUInt32 &&& Int32.toUInt32 31)).toInt32) &&& (nI 1431655765))) &&& (nI 858993459)) + ((((v - (((v.toUInt32 >>> ((nI 1).toUInt32 &&& Int32.toUInt32 31)).toInt32) &&& (nI 1431655765))).toUInt32 >>> ((nI 2).toUInt32 &&& Int32.toUInt32 31)).toInt32) &&& (nI 858993459))) + (((((v - (((v.toUInt32 >>> ((nI 1).toUInt32 &&& Int32.toUInt32 31)).toInt32) &&& (nI 1431655765))) &&& (nI 858993459)) + ((((v - (((v.toUInt32 >>> ((nI 1).toUInt32 &&& Int32.toUInt32 31)).toInt32) &&& (nI 1431655765))).toUInt32 >>> ((nI 2).toUInt32 &&& Int32.toUInt32 31)).toInt32) &&& (nI 858993459))).toUInt32 >>> ((nI 4).toUInt32 &&& Int32.toUInt32 31)).toInt32)) &&& (nI 252645135)))]) dJ6_bitCount_0f7a4_33 (Nat.le_of_ble_eq_true rfl) rfl ?_
  refine hz_iload_n C dJ6_bitCount_0f7a4_34 rfl ?_
  refine hz_iload_n C dJ6_bitCount_0f7a4_35 rfl ?_
  refine hz_bipush C (v := nI 8) dJ6_bitCount_0f7a4_36 (by decide +kernel) ?_
  refine hz_iushr C dJ6_bitCount_0f7a4_38 rfl ?_
  refine hz_iadd C dJ6_bitCount_0f7a4_39 rfl ?_
  refine hz_istore_n C (ls' := [some (.int ((((((v - (((v.toUInt32 >>> ((nI 1).toUInt32 &&& Int32.toUInt32 31)).toInt32) &&& (nI 1431655765))) &&& (nI 858993459)) + ((((v - (((v.toUInt32 >>> ((nI 1).toUInt32 &&& Int32.toUInt32 31)).toInt32) &&& (nI 1431655765))).toUInt32 >>> ((nI 2).toUInt32 &&& Int32.toUInt32 31)).toInt32) &&& (nI 858993459))) + (((((v - (((v.toUInt32 >>> ((nI 1).toUInt32 &&& Int32.toUInt32 31)).toInt32) &&& (nI 1431655765))) &&& (nI 858993459)) + ((((v - (((v.toUInt32 >>> ((nI 1).toUInt32 &&& Int32.toUInt32 31)).toInt32) &&& (nI 1431655765))).toUInt32 >>> ((nI 2).toUInt32 &&& Int32.toUInt32 31)).toInt32) &&& (nI 858993459))).toUInt32 >>> ((nI 4).toUInt32 &&& Int32.toUInt32 31)).toInt32)) &&& (nI 252645135)) + (((((((v - (((v.toUInt32 >>> ((nI 1).toUInt32 &&& Int32.toUInt32 31)).toInt32) &&& (nI 1431655765))) &&& (nI 858993459)) + ((((v - (((v.toUInt32 >>> ((nI 1).toUInt32 &&& Int32.toUInt32 31)).toInt32) &&& (nI 1431655765))).toUInt32 >>> ((nI 2).toUInt32 &&& Int32.toUInt32 31)).toInt32) &&& (nI 858993459))) + (((((v - (((v.toUInt32 >>> ((nI 1).toUInt32 &&& Int32.toUInt32 31)).toInt32) &&& (nI 1431655765))) &&& (nI 858993459)) + ((((v - (((v.toUInt32 >>> ((nI 1).toUInt32 &&& Int32.toUInt32 31)).toInt32) &&& (nI 1431655765))).toUInt32 >>> ((nI 2).toUInt32 &&& Int32.toUInt32 31)).toInt32) &&& (nI 858993459))).toUInt32 >>> ((nI 4).toUInt32 &&& Int32.toUInt32 31)).toInt32)) &&& (nI 252645135)).toUInt32 >>> ((nI 8).toUInt32 &&& Int32.toUInt32 31)).toInt32)))]) dJ6_bitCount_0f7a4_40 (Nat.le_of_ble_eq_true rfl) rfl ?_
  refine hz_iload_n C dJ6_bitCount_0f7a4_41 rfl ?_
  refine hz_iload_n C dJ6_bitCount_0f7a4_42 rfl ?_
  refine hz_bipush C (v := nI 16) dJ6_bitCount_0f7a4_43 (by decide +kernel) ?_
  refine hz_iushr C dJ6_bitCount_0f7a4_45 rfl ?_
  refine hz_iadd C dJ6_bitCount_0f7a4_46 rfl ?_
  refine hz_istore_n C (ls' := [some (.int (((((((v - (((v.toUInt32 >>> ((nI 1).toUInt32 &&& Int32.toUInt32 31)).toInt32) &&& (nI 1431655765))) &&& (nI 858993459)) + ((((v - (((v.toUInt32 >>> ((nI 1).toUInt32 &&& Int32.toUInt32 31)).toInt32) &&& (nI 1431655765))).toUInt32 >>> ((nI 2).toUInt32 &&& Int32.toUInt32 31)).toInt32) &&& (nI 858993459))) + (((((v - (((v.toUInt32 >>> ((nI 1).toUInt32 &&& Int32.toUInt32 31)).toInt32) &&& (nI 1431655765))) &&& (nI 858993459)) + ((((v - (((v.toUInt32 >>> ((nI 1).toUInt32 &&& Int32.toUInt32 31)).toInt32) &&& (nI 1431655765))).toUInt32 >>> ((nI 2).toUInt32 &&& Int32.toUInt32 31)).toInt32) &&& (nI 858993459))).toUInt32 >>> ((nI 4).toUInt32 &&& Int32.toUInt32 31)).toInt32)) &&& (nI 252645135)) + (((((((v - (((v.toUInt32 >>> ((nI 1).toUInt32 &&& Int32.toUInt32 31)).toInt32) &&& (nI 1431655765))) &&& (nI 858993459)) + ((((v - (((v.toUInt32 >>> ((nI 1).toUInt32 &&& Int32.toUInt32 31)).toInt32) &&& (nI 1431655765))).toUInt32 >>> ((nI 2).toUInt32 &&& Int32.toUInt32 31)).toInt32) &&& (nI 858993459))) + (((((v - (((v.toUInt32 >>> ((nI 1).toUInt32 &&& Int32.toUInt32 31)).toInt32) &&& (nI 1431655765))) &&& (nI 858993459)) + ((((v - (((v.toUInt32 >>> ((nI 1).toUInt32 &&& Int32.toUInt32 31)).toInt32) &&& (nI 1431655765))).toUInt32 >>> ((nI 2).toUInt32 &&& Int32.toUInt32 31)).toInt32) &&& (nI 858993459))).toUInt32 >>> ((nI 4).toUInt32 &&& Int32.toUInt32 31)).toInt32)) &&& (nI 252645135)).toUInt32 >>> ((nI 8).toUInt32 &&& Int32.toUInt32 31)).toInt32)) + ((((((((v - (((v.toUInt32 >>> ((nI 1).toUInt32 &&& Int32.toUInt32 31)).toInt32) &&& (nI 1431655765))) &&& (nI 858993459)) + ((((v - (((v.toUInt32 >>> ((nI 1).toUInt32 &&& Int32.toUInt32 31)).toInt32) &&& (nI 1431655765))).toUInt32 >>> ((nI 2).toUInt32 &&& Int32.toUInt32 31)).toInt32) &&& (nI 858993459))) + (((((v - (((v.toUInt32 >>> ((nI 1).toUInt32 &&& Int32.toUInt32 31)).toInt32) &&& (nI 1431655765))) &&& (nI 858993459)) + ((((v - (((v.toUInt32 >>> ((nI 1).toUInt32 &&& Int32.toUInt32 31)).toInt32) &&& (nI 1431655765))).toUInt32 >>> ((nI 2).toUInt32 &&& Int32.toUInt32 31)).toInt32) &&& (nI 858993459))).toUInt32 >>> ((nI 4).toUInt32 &&& Int32.toUInt32 31)).toInt32)) &&& (nI 252645135)) + (((((((v - (((v.toUInt32 >>> ((nI 1).toUInt32 &&& Int32.toUInt32 31)).toInt32) &&& (nI 1431655765))) &&& (nI 858993459)) + ((((v - (((v.toUInt32 >>> ((nI 1).toUInt32 &&& Int32.toUInt32 31)).toInt32) &&& (nI 1431655765))).toUInt32 >>> ((nI 2).toUInt32 &&& Int32.toUInt32 31)).toInt32) &&& (nI 858993459))) + (((((v - (((v.toUInt32 >>> ((nI 1).toUInt32 &&& Int32.toUInt32 31)).toInt32) &&& (nI 1431655765))) &&& (nI 858993459)) + ((((v - (((v.toUInt32 >>> ((nI 1).toUInt32 &&& Int32.toUInt32 31)).toInt32) &&& (nI 1431655765))).toUInt32 >>> ((nI 2).toUInt32 &&& Int32.toUInt32 31)).toInt32) &&& (nI 858993459))).toUInt32 >>> ((nI 4).toUInt32 &&& Int32.toUInt32 31)).toInt32)) &&& (nI 252645135)).toUInt32 >>> ((nI 8).toUInt32 &&& Int32.toUInt32 31)).toInt32)).toUInt32 >>> ((nI 16).toUInt32 &&& Int32.toUInt32 31)).toInt32)))]) dJ6_bitCount_0f7a4_47 (Nat.le_of_ble_eq_true rfl) rfl ?_
  refine hz_iload_n C dJ6_bitCount_0f7a4_48 rfl ?_
  refine hz_bipush C (v := nI 63) dJ6_bitCount_0f7a4_49 (by decide +kernel) ?_
  refine hz_iand C dJ6_bitCount_0f7a4_51 rfl ?_
  exact hz_iret C Z rfl dJ6_bitCount_0f7a4_52 rfl rfl
end
section
/-! the kinds, as the class tells them -/
def so_pl (s c b : Int32) : Bool := decide (hz_rem s (nI 41) = nI 0) && decide (b - c < nI 20)
def so_old (s c b : Int32) : Bool := so_pl s c (b - nI 10)
def so_wi (s c b : Int32) : Bool := so_pl s c b || (decide (hz_rem s (nI 41) = nI 20) && decide (b - c < nI 10))
def so_ph (s : Int32) : Bool := decide (hz_rem s (nI 30) = nI 7)
def so_fr (s c b : Int32) : Bool := decide (¬ c < nI 5) && so_old s c b
def so_of (k : Nat) (s c b : Int32) : Bool := if k = 1 then so_old s c b else if k = 2 then so_wi s c b else if k = 4 then so_ph s else if k = 5 then so_fr s c b else so_pl s c b
def lo_of (k : Nat) : Nat := if k = 2 then 40 else if k = 3 then 8 else if k = 4 then 9 else 20
def sd_of (k : Nat) : Bool := decide (k = 3) || decide (k = 4)
def so_ev (k : Nat) (c b : Int32) : Bool := so_of k (nI 0) c b || (so_of k (nI 7) c b || so_of k (nI 20) c b)
end
section
set_option maxHeartbeats 4000000 in
set_option maxRecDepth 100000 in
theorem ev_so_X6 {T : hz_T} {n : Nat} (M : hz_M) {a kc N : Nat} {rr : vw_C} (hTa : T a = (kc, N)) (hc : vwCl[kc]? = some rr) (ha : a ≠ 0 ∧ a ≤ n) (s c b : Int32) : hz_Ev mX6_sounds T n M [.ref a, .int s, .int c, .int b] 0 0 (some (.int (hz_b (so_pl s c b = true)))) T n M := by
  refine hz_Ev.intro (ls := [some (.ref a), some (.int s), some (.int c), some (.int b)]) (by decide +kernel) rfl (Nat.le_of_ble_eq_true rfl) (fun X C Z _ => ?_)
  refine hz_iload_n C dX6_sounds_0 rfl ?_
  refine hz_bipush C (v := nI 41) dX6_sounds_1 (by decide +kernel) ?_
  refine hz_irem C (v := hz_rem s (nI 41)) dX6_sounds_3 (by decide +kernel) rfl ?_
  refine hz_if_ne C (tgt := 19) dX6_sounds_4 rfl (fun c1 => ?_) (fun c1 => ?_)
  · refine hz_iconst C (v := nI 0) dX6_sounds_19 (by decide +kernel) ?_
    exact hz_zret C Z rfl (by decide +kernel) dX6_sounds_20 (hz_b0 (by simp [so_pl, so_old, so_wi, so_ph, so_fr, nI_0, c1] <;> simp_all [so_pl, so_old, so_wi, so_ph, so_fr, nI_0])).symm rfl
  · refine hz_iload_n C dX6_sounds_7 rfl ?_
    refine hz_iload_n C dX6_sounds_8 rfl ?_
    refine hz_isub C dX6_sounds_9 rfl ?_
    refine hz_bipush C (v := nI 20) dX6_sounds_10 (by decide +kernel) ?_
    refine hz_ic_ge C (tgt := 19) dX6_sounds_12 rfl (fun c2 => ?_) (fun c2 => ?_)
    · refine hz_iconst C (v := nI 0) dX6_sounds_19 (by decide +kernel) ?_
      exact hz_zret C Z rfl (by decide +kernel) dX6_sounds_20 (hz_b0 (by simp [so_pl, so_old, so_wi, so_ph, so_fr, nI_0, c1, c2] <;> simp_all [so_pl, so_old, so_wi, so_ph, so_fr, nI_0])).symm rfl
    · refine hz_iconst C (v := nI 1) dX6_sounds_15 (by decide +kernel) ?_
      refine hz_goto C (tgt := 20) dX6_sounds_16 rfl ?_
      exact hz_zret C Z rfl (by decide +kernel) dX6_sounds_20 (hz_b1 (by simp [so_pl, so_old, so_wi, so_ph, so_fr, nI_0, c1, c2] <;> simp_all [so_pl, so_old, so_wi, so_ph, so_fr, nI_0])).symm rfl
set_option maxHeartbeats 4000000 in
set_option maxRecDepth 100000 in
theorem ev_so_X4 {T : hz_T} {n : Nat} (M : hz_M) {a kc N : Nat} {rr : vw_C} (hTa : T a = (kc, N)) (hc : vwCl[kc]? = some rr) (ha : a ≠ 0 ∧ a ≤ n) (s c b : Int32) : hz_Ev mX4_sounds T n M [.ref a, .int s, .int c, .int b] 0 0 (some (.int (hz_b (so_old s c b = true)))) T n M := by
  refine hz_Ev.intro (ls := [some (.ref a), some (.int s), some (.int c), some (.int b)]) (by decide +kernel) rfl (Nat.le_of_ble_eq_true rfl) (fun X C Z _ => ?_)
  refine hz_aload_n C dX4_sounds_0 rfl ?_
  refine hz_iload_n C dX4_sounds_1 rfl ?_
  refine hz_iload_n C dX4_sounds_2 rfl ?_
  refine hz_iload_n C dX4_sounds_3 rfl ?_
  refine hz_bipush C (v := nI 10) dX4_sounds_4 (by decide +kernel) ?_
  refine hz_isub C dX4_sounds_6 rfl ?_
  refine hz_callSU C (as := [.int s, .int c, .int (b - (nI 10))]) (st := []) (ev_so_X6 M hTa hc ha s c (b - (nI 10))) (hz_new0 _ _) fyX6_sounds fpX4_7 rfl dX4_sounds_7 hTa hc ha rfl rfl (Nat.le_of_ble_eq_true rfl) (by decide) (hz_cap0 _) ?_
  exact hz_zret C Z rfl (hz_bn _) dX4_sounds_10 rfl rfl
set_option maxHeartbeats 4000000 in
set_option maxRecDepth 100000 in
theorem ev_so_X9 {T : hz_T} {n : Nat} (M : hz_M) {a kc N : Nat} {rr : vw_C} (hTa : T a = (kc, N)) (hc : vwCl[kc]? = some rr) (ha : a ≠ 0 ∧ a ≤ n) (s c b : Int32) : hz_Ev mX9_sounds T n M [.ref a, .int s, .int c, .int b] 0 0 (some (.int (hz_b (so_wi s c b = true)))) T n M := by
  refine hz_Ev.intro (ls := [some (.ref a), some (.int s), some (.int c), some (.int b)]) (by decide +kernel) rfl (Nat.le_of_ble_eq_true rfl) (fun X C Z _ => ?_)
  refine hz_aload_n C dX9_sounds_0 rfl ?_
  refine hz_iload_n C dX9_sounds_1 rfl ?_
  refine hz_iload_n C dX9_sounds_2 rfl ?_
  refine hz_iload_n C dX9_sounds_3 rfl ?_
  refine hz_callSU C (as := [.int s, .int c, .int b]) (st := []) (ev_so_X6 M hTa hc ha s c b) (hz_new0 _ _) fyX6_sounds fpX9_7 rfl dX9_sounds_4 hTa hc ha rfl rfl (Nat.le_of_ble_eq_true rfl) (by decide) (hz_cap0 _) ?_
  refine hz_ifb_ne C (tgt := 27) dX9_sounds_7 rfl (fun c1 => ?_) (fun c1 => ?_)
  · refine hz_iconst C (v := nI 1) dX9_sounds_27 (by decide +kernel) ?_
    refine hz_goto C (tgt := 32) dX9_sounds_28 rfl ?_
    exact hz_zret C Z rfl (by decide +kernel) dX9_sounds_32 (hz_b1 (by simp [so_pl, so_old, so_wi, so_ph, so_fr, nI_0, c1] <;> simp_all [so_pl, so_old, so_wi, so_ph, so_fr, nI_0])).symm rfl
  · refine hz_iload_n C dX9_sounds_10 rfl ?_
    refine hz_bipush C (v := nI 41) dX9_sounds_11 (by decide +kernel) ?_
    refine hz_irem C (v := hz_rem s (nI 41)) dX9_sounds_13 (by decide +kernel) rfl ?_
    refine hz_bipush C (v := nI 20) dX9_sounds_14 (by decide +kernel) ?_
    refine hz_ic_ne C (tgt := 31) dX9_sounds_16 rfl (fun c2 => ?_) (fun c2 => ?_)
    · refine hz_iconst C (v := nI 0) dX9_sounds_31 (by decide +kernel) ?_
      exact hz_zret C Z rfl (by decide +kernel) dX9_sounds_32 (hz_b0 (by simp [so_pl, so_old, so_wi, so_ph, so_fr, nI_0, c1, c2] <;> simp_all [so_pl, so_old, so_wi, so_ph, so_fr, nI_0])).symm rfl
    · refine hz_iload_n C dX9_sounds_19 rfl ?_
      refine hz_iload_n C dX9_sounds_20 rfl ?_
      refine hz_isub C dX9_sounds_21 rfl ?_
      refine hz_bipush C (v := nI 10) dX9_sounds_22 (by decide +kernel) ?_
      refine hz_ic_ge C (tgt := 31) dX9_sounds_24 rfl (fun c3 => ?_) (fun c3 => ?_)
      · refine hz_iconst C (v := nI 0) dX9_sounds_31 (by decide +kernel) ?_
        exact hz_zret C Z rfl (by decide +kernel) dX9_sounds_32 (hz_b0 (by simp [so_pl, so_old, so_wi, so_ph, so_fr, nI_0, c1, c2, c3] <;> simp_all [so_pl, so_old, so_wi, so_ph, so_fr, nI_0])).symm rfl
      · refine hz_iconst C (v := nI 1) dX9_sounds_27 (by decide +kernel) ?_
        refine hz_goto C (tgt := 32) dX9_sounds_28 rfl ?_
        exact hz_zret C Z rfl (by decide +kernel) dX9_sounds_32 (hz_b1 (by simp [so_pl, so_old, so_wi, so_ph, so_fr, nI_0, c1, c2, c3] <;> simp_all [so_pl, so_old, so_wi, so_ph, so_fr, nI_0])).symm rfl
set_option maxHeartbeats 4000000 in
set_option maxRecDepth 100000 in
theorem ev_so_X5 {T : hz_T} {n : Nat} (M : hz_M) {a kc N : Nat} {rr : vw_C} (hTa : T a = (kc, N)) (hc : vwCl[kc]? = some rr) (ha : a ≠ 0 ∧ a ≤ n) (s c b : Int32) : hz_Ev mX5_sounds T n M [.ref a, .int s, .int c, .int b] 0 0 (some (.int (hz_b (so_ph s = true)))) T n M := by
  refine hz_Ev.intro (ls := [some (.ref a), some (.int s), some (.int c), some (.int b)]) (by decide +kernel) rfl (Nat.le_of_ble_eq_true rfl) (fun X C Z _ => ?_)
  refine hz_iload_n C dX5_sounds_0 rfl ?_
  refine hz_bipush C (v := nI 30) dX5_sounds_1 (by decide +kernel) ?_
  refine hz_irem C (v := hz_rem s (nI 30)) dX5_sounds_3 (by decide +kernel) rfl ?_
  refine hz_bipush C (v := nI 7) dX5_sounds_4 (by decide +kernel) ?_
  refine hz_ic_ne C (tgt := 13) dX5_sounds_6 rfl (fun c1 => ?_) (fun c1 => ?_)
  · refine hz_iconst C (v := nI 0) dX5_sounds_13 (by decide +kernel) ?_
    exact hz_zret C Z rfl (by decide +kernel) dX5_sounds_14 (hz_b0 (by simp [so_pl, so_old, so_wi, so_ph, so_fr, nI_0, c1] <;> simp_all [so_pl, so_old, so_wi, so_ph, so_fr, nI_0])).symm rfl
  · refine hz_iconst C (v := nI 1) dX5_sounds_9 (by decide +kernel) ?_
    refine hz_goto C (tgt := 14) dX5_sounds_10 rfl ?_
    exact hz_zret C Z rfl (by decide +kernel) dX5_sounds_14 (hz_b1 (by simp [so_pl, so_old, so_wi, so_ph, so_fr, nI_0, c1] <;> simp_all [so_pl, so_old, so_wi, so_ph, so_fr, nI_0])).symm rfl
set_option maxHeartbeats 4000000 in
set_option maxRecDepth 100000 in
theorem ev_so_X1 {T : hz_T} {n : Nat} (M : hz_M) {a kc N : Nat} {rr : vw_C} (hTa : T a = (kc, N)) (hc : vwCl[kc]? = some rr) (ha : a ≠ 0 ∧ a ≤ n) (s c b : Int32) : hz_Ev mX1_sounds T n M [.ref a, .int s, .int c, .int b] 0 0 (some (.int (hz_b (so_fr s c b = true)))) T n M := by
  refine hz_Ev.intro (ls := [some (.ref a), some (.int s), some (.int c), some (.int b)]) (by decide +kernel) rfl (Nat.le_of_ble_eq_true rfl) (fun X C Z _ => ?_)
  refine hz_iload_n C dX1_sounds_0 rfl ?_
  refine hz_iconst C (v := nI 5) dX1_sounds_1 (by decide +kernel) ?_
  refine hz_ic_lt C (tgt := 19) dX1_sounds_2 rfl (fun c1 => ?_) (fun c1 => ?_)
  · refine hz_iconst C (v := nI 0) dX1_sounds_19 (by decide +kernel) ?_
    exact hz_zret C Z rfl (by decide +kernel) dX1_sounds_20 (hz_b0 (by simp [so_pl, so_old, so_wi, so_ph, so_fr, nI_0, c1] <;> simp_all [so_pl, so_old, so_wi, so_ph, so_fr, nI_0])).symm rfl
  · refine hz_aload_n C dX1_sounds_5 rfl ?_
    refine hz_iload_n C dX1_sounds_6 rfl ?_
    refine hz_iload_n C dX1_sounds_7 rfl ?_
    refine hz_iload_n C dX1_sounds_8 rfl ?_
    refine hz_callSU C (as := [.int s, .int c, .int b]) (st := []) (ev_so_X4 M hTa hc ha s c b) (hz_new0 _ _) fyX4_sounds fpX1_7 rfl dX1_sounds_9 hTa hc ha rfl rfl (Nat.le_of_ble_eq_true rfl) (by decide) (hz_cap0 _) ?_
    refine hz_ifb_eq C (tgt := 19) dX1_sounds_12 rfl (fun c2 => ?_) (fun c2 => ?_)
    · refine hz_iconst C (v := nI 0) dX1_sounds_19 (by decide +kernel) ?_
      exact hz_zret C Z rfl (by decide +kernel) dX1_sounds_20 (hz_b0 (by simp [so_pl, so_old, so_wi, so_ph, so_fr, nI_0, c1, c2] <;> simp_all [so_pl, so_old, so_wi, so_ph, so_fr, nI_0])).symm rfl
    · refine hz_iconst C (v := nI 1) dX1_sounds_15 (by decide +kernel) ?_
      refine hz_goto C (tgt := 20) dX1_sounds_16 rfl ?_
      exact hz_zret C Z rfl (by decide +kernel) dX1_sounds_20 (hz_b1 (by simp [so_pl, so_old, so_wi, so_ph, so_fr, nI_0, c1, c2] <;> simp_all [so_pl, so_old, so_wi, so_ph, so_fr, nI_0])).symm rfl
set_option maxHeartbeats 4000000 in
set_option maxRecDepth 100000 in
theorem ev_lo_X6 {T : hz_T} {n : Nat} (M : hz_M) {a kc N : Nat} {rr : vw_C} (hTa : T a = (kc, N)) (hc : vwCl[kc]? = some rr) (ha : a ≠ 0 ∧ a ≤ n) : hz_Ev mX6_loud T n M [.ref a] 0 0 (some (.int (nI 20))) T n M := by
  refine hz_Ev.intro (ls := [some (.ref a)]) (by decide +kernel) rfl (Nat.le_of_ble_eq_true rfl) (fun X C Z _ => ?_)
  refine hz_bipush C (v := nI 20) dX6_loud_0 (by decide +kernel) ?_
  exact hz_iret C Z rfl dX6_loud_2 rfl rfl
set_option maxHeartbeats 4000000 in
set_option maxRecDepth 100000 in
theorem ev_lo_X9 {T : hz_T} {n : Nat} (M : hz_M) {a kc N : Nat} {rr : vw_C} (hTa : T a = (kc, N)) (hc : vwCl[kc]? = some rr) (ha : a ≠ 0 ∧ a ≤ n) : hz_Ev mX9_loud T n M [.ref a] 0 0 (some (.int (nI 40))) T n M := by
  refine hz_Ev.intro (ls := [some (.ref a)]) (by decide +kernel) rfl (Nat.le_of_ble_eq_true rfl) (fun X C Z _ => ?_)
  refine hz_iconst C (v := nI 2) dX9_loud_0 (by decide +kernel) ?_
  refine hz_aload_n C dX9_loud_1 rfl ?_
  refine hz_callSU C (as := []) (st := [.int (nI 2)]) (ev_lo_X6 M hTa hc ha) (hz_new0 _ _) fyX6_loud fpX9_11 rfl dX9_loud_2 hTa hc ha rfl rfl (Nat.le_of_ble_eq_true rfl) (by decide) (hz_cap0 _) ?_
  refine hz_imul C (v := nI 40) dX9_loud_5 (pk_mul _ _) ?_
  exact hz_iret C Z rfl dX9_loud_6 rfl rfl
set_option maxHeartbeats 4000000 in
set_option maxRecDepth 100000 in
theorem ev_lo_X0 {T : hz_T} {n : Nat} (M : hz_M) {a kc N : Nat} {rr : vw_C} (hTa : T a = (kc, N)) (hc : vwCl[kc]? = some rr) (ha : a ≠ 0 ∧ a ≤ n) : hz_Ev mX0_loud T n M [.ref a] 0 0 (some (.int (nI 8))) T n M := by
  refine hz_Ev.intro (ls := [some (.ref a)]) (by decide +kernel) rfl (Nat.le_of_ble_eq_true rfl) (fun X C Z _ => ?_)
  refine hz_aload_n C dX0_loud_0 rfl ?_
  refine hz_callSU C (as := []) (st := []) (ev_lo_X6 M hTa hc ha) (hz_new0 _ _) fyX6_loud fpX0_7 rfl dX0_loud_1 hTa hc ha rfl rfl (Nat.le_of_ble_eq_true rfl) (by decide) (hz_cap0 _) ?_
  refine hz_bipush C (v := nI 12) dX0_loud_4 (by decide +kernel) ?_
  refine hz_isub C (v := nI 8) dX0_loud_6 (by decide +kernel) ?_
  exact hz_iret C Z rfl dX0_loud_7 rfl rfl
set_option maxHeartbeats 4000000 in
set_option maxRecDepth 100000 in
theorem ev_lo_X5 {T : hz_T} {n : Nat} (M : hz_M) {a kc N : Nat} {rr : vw_C} (hTa : T a = (kc, N)) (hc : vwCl[kc]? = some rr) (ha : a ≠ 0 ∧ a ≤ n) : hz_Ev mX5_loud T n M [.ref a] 0 0 (some (.int (nI 9))) T n M := by
  refine hz_Ev.intro (ls := [some (.ref a)]) (by decide +kernel) rfl (Nat.le_of_ble_eq_true rfl) (fun X C Z _ => ?_)
  refine hz_aload_n C dX5_loud_0 rfl ?_
  refine hz_callSU C (as := []) (st := []) (ev_lo_X0 M hTa hc ha) (hz_new0 _ _) fyX0_loud fpX5_7 rfl dX5_loud_1 hTa hc ha rfl rfl (Nat.le_of_ble_eq_true rfl) (by decide) (hz_cap0 _) ?_
  refine hz_iconst C (v := nI 1) dX5_loud_4 (by decide +kernel) ?_
  refine hz_iadd C (v := nI 9) dX5_loud_5 (nI_add _ _) ?_
  exact hz_iret C Z rfl dX5_loud_6 rfl rfl
set_option maxHeartbeats 4000000 in
set_option maxRecDepth 100000 in
theorem ev_sd_X6 {T : hz_T} {n : Nat} (M : hz_M) {a kc N : Nat} {rr : vw_C} (hTa : T a = (kc, N)) (hc : vwCl[kc]? = some rr) (ha : a ≠ 0 ∧ a ≤ n) : hz_Ev mX6_soundsDown T n M [.ref a] 0 0 (some (.int (nI 0))) T n M := by
  refine hz_Ev.intro (ls := [some (.ref a)]) (by decide +kernel) rfl (Nat.le_of_ble_eq_true rfl) (fun X C Z _ => ?_)
  refine hz_iconst C (v := nI 0) dX6_soundsDown_0 (by decide +kernel) ?_
  exact hz_zret C Z rfl (by decide +kernel) dX6_soundsDown_1 rfl rfl
set_option maxHeartbeats 4000000 in
set_option maxRecDepth 100000 in
theorem ev_sd_X0 {T : hz_T} {n : Nat} (M : hz_M) {a kc N : Nat} {rr : vw_C} (hTa : T a = (kc, N)) (hc : vwCl[kc]? = some rr) (ha : a ≠ 0 ∧ a ≤ n) : hz_Ev mX0_soundsDown T n M [.ref a] 0 0 (some (.int (nI 1))) T n M := by
  refine hz_Ev.intro (ls := [some (.ref a)]) (by decide +kernel) rfl (Nat.le_of_ble_eq_true rfl) (fun X C Z _ => ?_)
  refine hz_iconst C (v := nI 1) dX0_soundsDown_0 (by decide +kernel) ?_
  exact hz_zret C Z rfl (by decide +kernel) dX0_soundsDown_1 rfl rfl
set_option maxHeartbeats 4000000 in
set_option maxRecDepth 100000 in
theorem kc_so {X : hz_X} {y : hz_Y} {M : hz_M} {pc ix k : Nat} {ls : List (Option Value)} {st : List Value} {s c b : Int32} (C : hz_C X y) (F0 : hz_FV y.1.cls ix mX6_sounds) (F1 : hz_FU y.1.cls ix RX4 RX6 yX6_sounds mX4_sounds) (F2 : hz_FU y.1.cls ix RX9 RX6 yX6_sounds mX9_sounds) (F3 : hz_FU y.1.cls ix RX0 RX6 yX6_sounds mX6_sounds) (F4 : hz_FU y.1.cls ix RX5 RX6 yX6_sounds mX5_sounds) (F5 : hz_FU y.1.cls ix RX1 RX6 yX6_sounds mX1_sounds) (hk : k < 6) (d : decode y.2.1 pc = .ok (.invokevirtual ix, 3)) (hlen : ls.length = y.2.2.1) (hsum : (st.map Value.category).sum ≤ 8) (hd : 3 ≤ y.2.2.2.2) (kk : hz_G X TT NN M 0 0 (pc + 3) ls (.int (hz_b (so_of k s c b = true)) :: st)) : hz_G X TT NN M 0 0 pc ls (.int b :: .int c :: .int s :: .ref (23 + k) :: st) := by
  rcases (show k = 0 ∨ k = 1 ∨ k = 2 ∨ k = 3 ∨ k = 4 ∨ k = 5 by omega) with rfl | rfl | rfl | rfl | rfl | rfl
  · exact hz_callV C (as := [.int s, .int c, .int b]) (st := st) (ev_so_X6 M hT23 (rr := (RX6, TX6, 0)) rfl hA23 s c b) (hz_new0 _ _) fyX6_sounds F0 rfl d hT23 rfl rfl hA23 rfl hlen hsum (Nat.le_trans (by decide) hd) (hz_cap0 _) kk
  · exact hz_callU C (as := [.int s, .int c, .int b]) (st := st) (ev_so_X4 M hT24 (rr := (RX4, TX4, 0)) rfl hA24 s c b) (hz_new0 _ _) fyX4_sounds F1 rfl d hT24 rfl hA24 rfl hlen hsum (Nat.le_trans (by decide) hd) (hz_cap0 _) kk
  · exact hz_callU C (as := [.int s, .int c, .int b]) (st := st) (ev_so_X9 M hT25 (rr := (RX9, TX9, 0)) rfl hA25 s c b) (hz_new0 _ _) fyX9_sounds F2 rfl d hT25 rfl hA25 rfl hlen hsum (Nat.le_trans (by decide) hd) (hz_cap0 _) kk
  · exact hz_callU C (as := [.int s, .int c, .int b]) (st := st) (ev_so_X6 M hT26 (rr := (RX0, TX0, 0)) rfl hA26 s c b) (hz_new0 _ _) fyX6_sounds F3 rfl d hT26 rfl hA26 rfl hlen hsum (Nat.le_trans (by decide) hd) (hz_cap0 _) kk
  · exact hz_callU C (as := [.int s, .int c, .int b]) (st := st) (ev_so_X5 M hT27 (rr := (RX5, TX5, 0)) rfl hA27 s c b) (hz_new0 _ _) fyX5_sounds F4 rfl d hT27 rfl hA27 rfl hlen hsum (Nat.le_trans (by decide) hd) (hz_cap0 _) kk
  · exact hz_callU C (as := [.int s, .int c, .int b]) (st := st) (ev_so_X1 M hT28 (rr := (RX1, TX1, 0)) rfl hA28 s c b) (hz_new0 _ _) fyX1_sounds F5 rfl d hT28 rfl hA28 rfl hlen hsum (Nat.le_trans (by decide) hd) (hz_cap0 _) kk
set_option maxHeartbeats 4000000 in
set_option maxRecDepth 100000 in
theorem kc_lo {X : hz_X} {y : hz_Y} {M : hz_M} {pc ix k : Nat} {ls : List (Option Value)} {st : List Value}  (C : hz_C X y) (F0 : hz_FV y.1.cls ix mX6_loud) (F1 : hz_FU y.1.cls ix RX4 RX6 yX6_loud mX6_loud) (F2 : hz_FU y.1.cls ix RX9 RX6 yX6_loud mX9_loud) (F3 : hz_FU y.1.cls ix RX0 RX6 yX6_loud mX0_loud) (F4 : hz_FU y.1.cls ix RX5 RX6 yX6_loud mX5_loud) (F5 : hz_FU y.1.cls ix RX1 RX6 yX6_loud mX6_loud) (hk : k < 6) (d : decode y.2.1 pc = .ok (.invokevirtual ix, 3)) (hlen : ls.length = y.2.2.1) (hsum : (st.map Value.category).sum ≤ 8) (hd : 3 ≤ y.2.2.2.2) (kk : hz_G X TT NN M 0 0 (pc + 3) ls (.int (nI (lo_of k)) :: st)) : hz_G X TT NN M 0 0 pc ls (.ref (23 + k) :: st) := by
  rcases (show k = 0 ∨ k = 1 ∨ k = 2 ∨ k = 3 ∨ k = 4 ∨ k = 5 by omega) with rfl | rfl | rfl | rfl | rfl | rfl
  · exact hz_callV C (as := []) (st := st) (ev_lo_X6 M hT23 (rr := (RX6, TX6, 0)) rfl hA23) (hz_new0 _ _) fyX6_loud F0 rfl d hT23 rfl rfl hA23 rfl hlen hsum (Nat.le_trans (by decide) hd) (hz_cap0 _) kk
  · exact hz_callU C (as := []) (st := st) (ev_lo_X6 M hT24 (rr := (RX4, TX4, 0)) rfl hA24) (hz_new0 _ _) fyX6_loud F1 rfl d hT24 rfl hA24 rfl hlen hsum (Nat.le_trans (by decide) hd) (hz_cap0 _) kk
  · exact hz_callU C (as := []) (st := st) (ev_lo_X9 M hT25 (rr := (RX9, TX9, 0)) rfl hA25) (hz_new0 _ _) fyX9_loud F2 rfl d hT25 rfl hA25 rfl hlen hsum (Nat.le_trans (by decide) hd) (hz_cap0 _) kk
  · exact hz_callU C (as := []) (st := st) (ev_lo_X0 M hT26 (rr := (RX0, TX0, 0)) rfl hA26) (hz_new0 _ _) fyX0_loud F3 rfl d hT26 rfl hA26 rfl hlen hsum (Nat.le_trans (by decide) hd) (hz_cap0 _) kk
  · exact hz_callU C (as := []) (st := st) (ev_lo_X5 M hT27 (rr := (RX5, TX5, 0)) rfl hA27) (hz_new0 _ _) fyX5_loud F4 rfl d hT27 rfl hA27 rfl hlen hsum (Nat.le_trans (by decide) hd) (hz_cap0 _) kk
  · exact hz_callU C (as := []) (st := st) (ev_lo_X6 M hT28 (rr := (RX1, TX1, 0)) rfl hA28) (hz_new0 _ _) fyX6_loud F5 rfl d hT28 rfl hA28 rfl hlen hsum (Nat.le_trans (by decide) hd) (hz_cap0 _) kk
set_option maxHeartbeats 4000000 in
set_option maxRecDepth 100000 in
theorem kc_sd {X : hz_X} {y : hz_Y} {M : hz_M} {pc ix k : Nat} {ls : List (Option Value)} {st : List Value}  (C : hz_C X y) (F0 : hz_FV y.1.cls ix mX6_soundsDown) (F1 : hz_FU y.1.cls ix RX4 RX6 yX6_soundsDown mX6_soundsDown) (F2 : hz_FU y.1.cls ix RX9 RX6 yX6_soundsDown mX6_soundsDown) (F3 : hz_FU y.1.cls ix RX0 RX6 yX6_soundsDown mX0_soundsDown) (F4 : hz_FU y.1.cls ix RX5 RX6 yX6_soundsDown mX0_soundsDown) (F5 : hz_FU y.1.cls ix RX1 RX6 yX6_soundsDown mX6_soundsDown) (hk : k < 6) (d : decode y.2.1 pc = .ok (.invokevirtual ix, 3)) (hlen : ls.length = y.2.2.1) (hsum : (st.map Value.category).sum ≤ 8) (hd : 1 ≤ y.2.2.2.2) (kk : hz_G X TT NN M 0 0 (pc + 3) ls (.int (hz_b (sd_of k = true)) :: st)) : hz_G X TT NN M 0 0 pc ls (.ref (23 + k) :: st) := by
  rcases (show k = 0 ∨ k = 1 ∨ k = 2 ∨ k = 3 ∨ k = 4 ∨ k = 5 by omega) with rfl | rfl | rfl | rfl | rfl | rfl
  · exact hz_callV C (as := []) (st := st) (ev_sd_X6 M hT23 (rr := (RX6, TX6, 0)) rfl hA23) (hz_new0 _ _) fyX6_soundsDown F0 rfl d hT23 rfl rfl hA23 rfl hlen hsum (Nat.le_trans (by decide) hd) (hz_cap0 _) kk
  · exact hz_callU C (as := []) (st := st) (ev_sd_X6 M hT24 (rr := (RX4, TX4, 0)) rfl hA24) (hz_new0 _ _) fyX6_soundsDown F1 rfl d hT24 rfl hA24 rfl hlen hsum (Nat.le_trans (by decide) hd) (hz_cap0 _) kk
  · exact hz_callU C (as := []) (st := st) (ev_sd_X6 M hT25 (rr := (RX9, TX9, 0)) rfl hA25) (hz_new0 _ _) fyX6_soundsDown F2 rfl d hT25 rfl hA25 rfl hlen hsum (Nat.le_trans (by decide) hd) (hz_cap0 _) kk
  · exact hz_callU C (as := []) (st := st) (ev_sd_X0 M hT26 (rr := (RX0, TX0, 0)) rfl hA26) (hz_new0 _ _) fyX0_soundsDown F3 rfl d hT26 rfl hA26 rfl hlen hsum (Nat.le_trans (by decide) hd) (hz_cap0 _) kk
  · exact hz_callU C (as := []) (st := st) (ev_sd_X0 M hT27 (rr := (RX5, TX5, 0)) rfl hA27) (hz_new0 _ _) fyX0_soundsDown F4 rfl d hT27 rfl hA27 rfl hlen hsum (Nat.le_trans (by decide) hd) (hz_cap0 _) kk
  · exact hz_callU C (as := []) (st := st) (ev_sd_X6 M hT28 (rr := (RX1, TX1, 0)) rfl hA28) (hz_new0 _ _) fyX6_soundsDown F5 rfl d hT28 rfl hA28 rfl hlen hsum (Nat.le_trans (by decide) hd) (hz_cap0 _) kk
end
