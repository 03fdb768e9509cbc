section
-- ===== PART A: goes FIRST, ahead of the names: the tables' words, and 'selects' of the private methods out of them =====
/-- a private method of a class that the tables say can be made, by its rows of tables_1 -/
def lw_okq (q : MethodName × Nat) : Prop := (q.1.cls ≠ "java/lang/invoke/MethodHandle" ∧ q.1.cls ≠ "java/lang/invoke/VarHandle") ∧ Cond.instantiable q.1.cls q.2 ∈ tables_1 ∧ Cond.privateMethod q.1 ∈ tables_1 ∧ Cond.instanceMethod q.1 ∈ tables_1
theorem lw_p0 : lw_okq (⟨"ReceiptLeft$Tape", "step", "()V"⟩, 7) := ⟨⟨by decide +kernel, by decide +kernel⟩, List.mem_of_getElem? (i := 30) (by decide +kernel), List.mem_of_getElem? (i := 402) (by decide +kernel), List.mem_of_getElem? (i := 403) (by decide +kernel)⟩
theorem lw_p1 : lw_okq (⟨"ReceiptLeft$Tape", "readLine", "(LReceiptLeft$City;)V"⟩, 7) := ⟨⟨by decide +kernel, by decide +kernel⟩, List.mem_of_getElem? (i := 30) (by decide +kernel), List.mem_of_getElem? (i := 415) (by decide +kernel), List.mem_of_getElem? (i := 416) (by decide +kernel)⟩
theorem lw_p2 : lw_okq (⟨"ReceiptLeft$Tape", "readHead", "(LReceiptLeft$City;)V"⟩, 7) := ⟨⟨by decide +kernel, by decide +kernel⟩, List.mem_of_getElem? (i := 30) (by decide +kernel), List.mem_of_getElem? (i := 419) (by decide +kernel), List.mem_of_getElem? (i := 420) (by decide +kernel)⟩
theorem lw_p3 : lw_okq (⟨"ReceiptLeft$Tape", "isWord", "(Ljava/lang/String;)Z"⟩, 7) := ⟨⟨by decide +kernel, by decide +kernel⟩, List.mem_of_getElem? (i := 30) (by decide +kernel), List.mem_of_getElem? (i := 424) (by decide +kernel), List.mem_of_getElem? (i := 425) (by decide +kernel)⟩
theorem lw_p4 : lw_okq (⟨"ReceiptLeft$Tape", "expect", "(Z)V"⟩, 7) := ⟨⟨by decide +kernel, by decide +kernel⟩, List.mem_of_getElem? (i := 30) (by decide +kernel), List.mem_of_getElem? (i := 476) (by decide +kernel), List.mem_of_getElem? (i := 477) (by decide +kernel)⟩
theorem lw_p5 : lw_okq (⟨"ReceiptLeft$Tape", "refuse", "(I)V"⟩, 7) := ⟨⟨by decide +kernel, by decide +kernel⟩, List.mem_of_getElem? (i := 30) (by decide +kernel), List.mem_of_getElem? (i := 480) (by decide +kernel), List.mem_of_getElem? (i := 481) (by decide +kernel)⟩
theorem lw_p6 : lw_okq (⟨"ReceiptLeft$Tape", "number", "(II)I"⟩, 7) := ⟨⟨by decide +kernel, by decide +kernel⟩, List.mem_of_getElem? (i := 30) (by decide +kernel), List.mem_of_getElem? (i := 485) (by decide +kernel), List.mem_of_getElem? (i := 486) (by decide +kernel)⟩
theorem lw_p7 : lw_okq (⟨"ReceiptLeft$Tape", "told", "()I"⟩, 7) := ⟨⟨by decide +kernel, by decide +kernel⟩, List.mem_of_getElem? (i := 30) (by decide +kernel), List.mem_of_getElem? (i := 489) (by decide +kernel), List.mem_of_getElem? (i := 490) (by decide +kernel)⟩
theorem lw_p8 : lw_okq (⟨"ReceiptLeft$Tape", "readHouse", "(LReceiptLeft$City;)V"⟩, 7) := ⟨⟨by decide +kernel, by decide +kernel⟩, List.mem_of_getElem? (i := 30) (by decide +kernel), List.mem_of_getElem? (i := 497) (by decide +kernel), List.mem_of_getElem? (i := 498) (by decide +kernel)⟩
theorem lw_p9 : lw_okq (⟨"ReceiptLeft$Tape", "readThing", "(LReceiptLeft$City;)V"⟩, 7) := ⟨⟨by decide +kernel, by decide +kernel⟩, List.mem_of_getElem? (i := 30) (by decide +kernel), List.mem_of_getElem? (i := 504) (by decide +kernel), List.mem_of_getElem? (i := 505) (by decide +kernel)⟩
theorem lw_p10 : lw_okq (⟨"ReceiptLeft$Tape", "readWant", "(LReceiptLeft$City;)V"⟩, 7) := ⟨⟨by decide +kernel, by decide +kernel⟩, List.mem_of_getElem? (i := 30) (by decide +kernel), List.mem_of_getElem? (i := 511) (by decide +kernel), List.mem_of_getElem? (i := 512) (by decide +kernel)⟩
theorem lw_p11 : lw_okq (⟨"ReceiptLeft", "isHouse", "(I)Z"⟩, 12) := ⟨⟨by decide +kernel, by decide +kernel⟩, List.mem_of_getElem? (i := 22) (by decide +kernel), List.mem_of_getElem? (i := 540) (by decide +kernel), List.mem_of_getElem? (i := 541) (by decide +kernel)⟩
theorem lw_p12 : lw_okq (⟨"ReceiptLeft", "isThing", "(I)Z"⟩, 12) := ⟨⟨by decide +kernel, by decide +kernel⟩, List.mem_of_getElem? (i := 22) (by decide +kernel), List.mem_of_getElem? (i := 568) (by decide +kernel), List.mem_of_getElem? (i := 569) (by decide +kernel)⟩
theorem lw_p13 : lw_okq (⟨"ReceiptLeft", "isPaper", "(I)Z"⟩, 12) := ⟨⟨by decide +kernel, by decide +kernel⟩, List.mem_of_getElem? (i := 22) (by decide +kernel), List.mem_of_getElem? (i := 588) (by decide +kernel), List.mem_of_getElem? (i := 589) (by decide +kernel)⟩
theorem lw_p14 : lw_okq (⟨"ReceiptLeft", "isFull", "()Z"⟩, 12) := ⟨⟨by decide +kernel, by decide +kernel⟩, List.mem_of_getElem? (i := 22) (by decide +kernel), List.mem_of_getElem? (i := 625) (by decide +kernel), List.mem_of_getElem? (i := 626) (by decide +kernel)⟩
theorem lw_p15 : lw_okq (⟨"ReceiptLeft", "perform", "(IIII)I"⟩, 12) := ⟨⟨by decide +kernel, by decide +kernel⟩, List.mem_of_getElem? (i := 22) (by decide +kernel), List.mem_of_getElem? (i := 634) (by decide +kernel), List.mem_of_getElem? (i := 635) (by decide +kernel)⟩
def lw_privs_1 : List (MethodName × Nat) := [(⟨"ReceiptLeft$Tape", "step", "()V"⟩, 7), (⟨"ReceiptLeft$Tape", "readLine", "(LReceiptLeft$City;)V"⟩, 7), (⟨"ReceiptLeft$Tape", "readHead", "(LReceiptLeft$City;)V"⟩, 7), (⟨"ReceiptLeft$Tape", "isWord", "(Ljava/lang/String;)Z"⟩, 7), (⟨"ReceiptLeft$Tape", "expect", "(Z)V"⟩, 7), (⟨"ReceiptLeft$Tape", "refuse", "(I)V"⟩, 7), (⟨"ReceiptLeft$Tape", "number", "(II)I"⟩, 7), (⟨"ReceiptLeft$Tape", "told", "()I"⟩, 7), (⟨"ReceiptLeft$Tape", "readHouse", "(LReceiptLeft$City;)V"⟩, 7), (⟨"ReceiptLeft$Tape", "readThing", "(LReceiptLeft$City;)V"⟩, 7), (⟨"ReceiptLeft$Tape", "readWant", "(LReceiptLeft$City;)V"⟩, 7), (⟨"ReceiptLeft", "isHouse", "(I)Z"⟩, 12), (⟨"ReceiptLeft", "isThing", "(I)Z"⟩, 12), (⟨"ReceiptLeft", "isPaper", "(I)Z"⟩, 12), (⟨"ReceiptLeft", "isFull", "()Z"⟩, 12), (⟨"ReceiptLeft", "perform", "(IIII)I"⟩, 12)]
theorem lw_r1 : ∀ q ∈ lw_privs_1, lw_okq q := List.forall_mem_cons.mpr ⟨lw_p0, List.forall_mem_cons.mpr ⟨lw_p1, List.forall_mem_cons.mpr ⟨lw_p2, List.forall_mem_cons.mpr ⟨lw_p3, List.forall_mem_cons.mpr ⟨lw_p4, List.forall_mem_cons.mpr ⟨lw_p5, List.forall_mem_cons.mpr ⟨lw_p6, List.forall_mem_cons.mpr ⟨lw_p7, List.forall_mem_cons.mpr ⟨lw_p8, List.forall_mem_cons.mpr ⟨lw_p9, List.forall_mem_cons.mpr ⟨lw_p10, List.forall_mem_cons.mpr ⟨lw_p11, List.forall_mem_cons.mpr ⟨lw_p12, List.forall_mem_cons.mpr ⟨lw_p13, List.forall_mem_cons.mpr ⟨lw_p14, List.forall_mem_cons.mpr ⟨lw_p15, fun _ h => absurd h List.not_mem_nil⟩⟩⟩⟩⟩⟩⟩⟩⟩⟩⟩⟩⟩⟩⟩⟩
theorem lw_p16 : lw_okq (⟨"ReceiptLeft$World", "move", "(II)V"⟩, 15) := ⟨⟨by decide +kernel, by decide +kernel⟩, List.mem_of_getElem? (i := 149) (by decide +kernel), List.mem_of_getElem? (i := 650) (by decide +kernel), List.mem_of_getElem? (i := 651) (by decide +kernel)⟩
theorem lw_p17 : lw_okq (⟨"ReceiptLeft$World", "handOn", "(II)I"⟩, 15) := ⟨⟨by decide +kernel, by decide +kernel⟩, List.mem_of_getElem? (i := 149) (by decide +kernel), List.mem_of_getElem? (i := 654) (by decide +kernel), List.mem_of_getElem? (i := 655) (by decide +kernel)⟩
theorem lw_p18 : lw_okq (⟨"ReceiptLeft$World", "pay", "(III)V"⟩, 15) := ⟨⟨by decide +kernel, by decide +kernel⟩, List.mem_of_getElem? (i := 149) (by decide +kernel), List.mem_of_getElem? (i := 659) (by decide +kernel), List.mem_of_getElem? (i := 660) (by decide +kernel)⟩
theorem lw_p19 : lw_okq (⟨"ReceiptLeft$World", "giveBack", "(I)I"⟩, 15) := ⟨⟨by decide +kernel, by decide +kernel⟩, List.mem_of_getElem? (i := 149) (by decide +kernel), List.mem_of_getElem? (i := 663) (by decide +kernel), List.mem_of_getElem? (i := 664) (by decide +kernel)⟩
theorem lw_p20 : lw_okq (⟨"ReceiptLeft$World", "cross", "(I)I"⟩, 15) := ⟨⟨by decide +kernel, by decide +kernel⟩, List.mem_of_getElem? (i := 149) (by decide +kernel), List.mem_of_getElem? (i := 667) (by decide +kernel), List.mem_of_getElem? (i := 668) (by decide +kernel)⟩
theorem lw_p21 : lw_okq (⟨"ReceiptLeft$World", "turnKey", "(II)I"⟩, 15) := ⟨⟨by decide +kernel, by decide +kernel⟩, List.mem_of_getElem? (i := 149) (by decide +kernel), List.mem_of_getElem? (i := 681) (by decide +kernel), List.mem_of_getElem? (i := 682) (by decide +kernel)⟩
theorem lw_p22 : lw_okq (⟨"ReceiptLeft$World", "settle", "(I)V"⟩, 15) := ⟨⟨by decide +kernel, by decide +kernel⟩, List.mem_of_getElem? (i := 149) (by decide +kernel), List.mem_of_getElem? (i := 689) (by decide +kernel), List.mem_of_getElem? (i := 690) (by decide +kernel)⟩
theorem lw_p23 : lw_okq (⟨"ReceiptLeft", "hasCity", "()Z"⟩, 12) := ⟨⟨by decide +kernel, by decide +kernel⟩, List.mem_of_getElem? (i := 22) (by decide +kernel), List.mem_of_getElem? (i := 721) (by decide +kernel), List.mem_of_getElem? (i := 722) (by decide +kernel)⟩
theorem lw_p24 : lw_okq (⟨"ReceiptLeft", "thingsOwnedBy", "(I)I"⟩, 12) := ⟨⟨by decide +kernel, by decide +kernel⟩, List.mem_of_getElem? (i := 22) (by decide +kernel), List.mem_of_getElem? (i := 779) (by decide +kernel), List.mem_of_getElem? (i := 780) (by decide +kernel)⟩
theorem lw_p25 : lw_okq (⟨"ReceiptLeft$Titles", "drawEdges", "(LReceiptLeft$World;I)I"⟩, 6) := ⟨⟨by decide +kernel, by decide +kernel⟩, List.mem_of_getElem? (i := 222) (by decide +kernel), List.mem_of_getElem? (i := 806) (by decide +kernel), List.mem_of_getElem? (i := 807) (by decide +kernel)⟩
theorem lw_p26 : lw_okq (⟨"ReceiptLeft$Titles", "keep", "(II)V"⟩, 6) := ⟨⟨by decide +kernel, by decide +kernel⟩, List.mem_of_getElem? (i := 222) (by decide +kernel), List.mem_of_getElem? (i := 811) (by decide +kernel), List.mem_of_getElem? (i := 812) (by decide +kernel)⟩
theorem lw_p27 : lw_okq (⟨"ReceiptLeft$Titles", "isBetter", "(I)Z"⟩, 6) := ⟨⟨by decide +kernel, by decide +kernel⟩, List.mem_of_getElem? (i := 222) (by decide +kernel), List.mem_of_getElem? (i := 815) (by decide +kernel), List.mem_of_getElem? (i := 816) (by decide +kernel)⟩
theorem lw_p28 : lw_okq (⟨"ReceiptLeft$Titles", "leads", "(II)Z"⟩, 6) := ⟨⟨by decide +kernel, by decide +kernel⟩, List.mem_of_getElem? (i := 222) (by decide +kernel), List.mem_of_getElem? (i := 820) (by decide +kernel), List.mem_of_getElem? (i := 821) (by decide +kernel)⟩
theorem lw_p29 : lw_okq (⟨"ReceiptLeft", "tryNights", "(I)I"⟩, 12) := ⟨⟨by decide +kernel, by decide +kernel⟩, List.mem_of_getElem? (i := 22) (by decide +kernel), List.mem_of_getElem? (i := 893) (by decide +kernel), List.mem_of_getElem? (i := 894) (by decide +kernel)⟩
theorem lw_p30 : lw_okq (⟨"ReceiptLeft", "hardestHitBy", "(I)I"⟩, 12) := ⟨⟨by decide +kernel, by decide +kernel⟩, List.mem_of_getElem? (i := 22) (by decide +kernel), List.mem_of_getElem? (i := 922) (by decide +kernel), List.mem_of_getElem? (i := 923) (by decide +kernel)⟩
theorem lw_p31 : lw_okq (⟨"ReceiptLeft", "wishOf", "(II)I"⟩, 12) := ⟨⟨by decide +kernel, by decide +kernel⟩, List.mem_of_getElem? (i := 22) (by decide +kernel), List.mem_of_getElem? (i := 938) (by decide +kernel), List.mem_of_getElem? (i := 939) (by decide +kernel)⟩
def lw_privs_2 : List (MethodName × Nat) := [(⟨"ReceiptLeft$World", "move", "(II)V"⟩, 15), (⟨"ReceiptLeft$World", "handOn", "(II)I"⟩, 15), (⟨"ReceiptLeft$World", "pay", "(III)V"⟩, 15), (⟨"ReceiptLeft$World", "giveBack", "(I)I"⟩, 15), (⟨"ReceiptLeft$World", "cross", "(I)I"⟩, 15), (⟨"ReceiptLeft$World", "turnKey", "(II)I"⟩, 15), (⟨"ReceiptLeft$World", "settle", "(I)V"⟩, 15), (⟨"ReceiptLeft", "hasCity", "()Z"⟩, 12), (⟨"ReceiptLeft", "thingsOwnedBy", "(I)I"⟩, 12), (⟨"ReceiptLeft$Titles", "drawEdges", "(LReceiptLeft$World;I)I"⟩, 6), (⟨"ReceiptLeft$Titles", "keep", "(II)V"⟩, 6), (⟨"ReceiptLeft$Titles", "isBetter", "(I)Z"⟩, 6), (⟨"ReceiptLeft$Titles", "leads", "(II)Z"⟩, 6), (⟨"ReceiptLeft", "tryNights", "(I)I"⟩, 12), (⟨"ReceiptLeft", "hardestHitBy", "(I)I"⟩, 12), (⟨"ReceiptLeft", "wishOf", "(II)I"⟩, 12)]
theorem lw_r2 : ∀ q ∈ lw_privs_2, lw_okq q := List.forall_mem_cons.mpr ⟨lw_p16, List.forall_mem_cons.mpr ⟨lw_p17, List.forall_mem_cons.mpr ⟨lw_p18, List.forall_mem_cons.mpr ⟨lw_p19, List.forall_mem_cons.mpr ⟨lw_p20, List.forall_mem_cons.mpr ⟨lw_p21, List.forall_mem_cons.mpr ⟨lw_p22, List.forall_mem_cons.mpr ⟨lw_p23, List.forall_mem_cons.mpr ⟨lw_p24, List.forall_mem_cons.mpr ⟨lw_p25, List.forall_mem_cons.mpr ⟨lw_p26, List.forall_mem_cons.mpr ⟨lw_p27, List.forall_mem_cons.mpr ⟨lw_p28, List.forall_mem_cons.mpr ⟨lw_p29, List.forall_mem_cons.mpr ⟨lw_p30, List.forall_mem_cons.mpr ⟨lw_p31, fun _ h => absurd h List.not_mem_nil⟩⟩⟩⟩⟩⟩⟩⟩⟩⟩⟩⟩⟩⟩⟩⟩
theorem lw_p32 : lw_okq (⟨"ReceiptLeft", "mostWanted", "(II)I"⟩, 12) := ⟨⟨by decide +kernel, by decide +kernel⟩, List.mem_of_getElem? (i := 22) (by decide +kernel), List.mem_of_getElem? (i := 942) (by decide +kernel), List.mem_of_getElem? (i := 943) (by decide +kernel)⟩
theorem lw_p33 : lw_okq (⟨"ReceiptLeft$Deal", "weigh", "(LReceiptLeft$City;)V"⟩, 1) := ⟨⟨by decide +kernel, by decide +kernel⟩, List.mem_of_getElem? (i := 249) (by decide +kernel), List.mem_of_getElem? (i := 963) (by decide +kernel), List.mem_of_getElem? (i := 964) (by decide +kernel)⟩
theorem lw_p34 : lw_okq (⟨"ReceiptLeft$Deal", "with", "(LReceiptLeft$City;III)I"⟩, 1) := ⟨⟨by decide +kernel, by decide +kernel⟩, List.mem_of_getElem? (i := 249) (by decide +kernel), List.mem_of_getElem? (i := 967) (by decide +kernel), List.mem_of_getElem? (i := 968) (by decide +kernel)⟩
theorem lw_p35 : lw_okq (⟨"ReceiptLeft$Deal", "firstFor", "(LReceiptLeft$City;II)I"⟩, 1) := ⟨⟨by decide +kernel, by decide +kernel⟩, List.mem_of_getElem? (i := 249) (by decide +kernel), List.mem_of_getElem? (i := 983) (by decide +kernel), List.mem_of_getElem? (i := 984) (by decide +kernel)⟩
theorem lw_p36 : lw_okq (⟨"ReceiptLeft", "isAtRest", "(II)Z"⟩, 12) := ⟨⟨by decide +kernel, by decide +kernel⟩, List.mem_of_getElem? (i := 22) (by decide +kernel), List.mem_of_getElem? (i := 994) (by decide +kernel), List.mem_of_getElem? (i := 995) (by decide +kernel)⟩
theorem lw_p37 : lw_okq (⟨"ReceiptLeft", "look", "(I)I"⟩, 12) := ⟨⟨by decide +kernel, by decide +kernel⟩, List.mem_of_getElem? (i := 22) (by decide +kernel), List.mem_of_getElem? (i := 1017) (by decide +kernel), List.mem_of_getElem? (i := 1018) (by decide +kernel)⟩
theorem lw_p38 : lw_okq (⟨"ReceiptLeft", "drawNights", "(II)I"⟩, 12) := ⟨⟨by decide +kernel, by decide +kernel⟩, List.mem_of_getElem? (i := 22) (by decide +kernel), List.mem_of_getElem? (i := 1060) (by decide +kernel), List.mem_of_getElem? (i := 1061) (by decide +kernel)⟩
theorem lw_p39 : lw_okq (⟨"ReceiptLeft", "drawTheft", "(I)V"⟩, 12) := ⟨⟨by decide +kernel, by decide +kernel⟩, List.mem_of_getElem? (i := 22) (by decide +kernel), List.mem_of_getElem? (i := 1068) (by decide +kernel), List.mem_of_getElem? (i := 1069) (by decide +kernel)⟩
theorem lw_p40 : lw_okq (⟨"ReceiptLeft", "filledSlots", "()I"⟩, 12) := ⟨⟨by decide +kernel, by decide +kernel⟩, List.mem_of_getElem? (i := 22) (by decide +kernel), List.mem_of_getElem? (i := 1098) (by decide +kernel), List.mem_of_getElem? (i := 1099) (by decide +kernel)⟩
theorem lw_p41 : lw_okq (⟨"ReceiptLeftModel", "advance", "()V"⟩, 44) := ⟨⟨by decide +kernel, by decide +kernel⟩, List.mem_of_getElem? (i := 1143) (by decide +kernel), List.mem_of_getElem? (i := 1310) (by decide +kernel), List.mem_of_getElem? (i := 1311) (by decide +kernel)⟩
theorem lw_p42 : lw_okq (⟨"ReceiptLeftModel", "see", "(I)I"⟩, 44) := ⟨⟨by decide +kernel, by decide +kernel⟩, List.mem_of_getElem? (i := 1143) (by decide +kernel), List.mem_of_getElem? (i := 1314) (by decide +kernel), List.mem_of_getElem? (i := 1315) (by decide +kernel)⟩
theorem lw_p43 : lw_okq (⟨"ReceiptLeftModel", "good", "()Z"⟩, 44) := ⟨⟨by decide +kernel, by decide +kernel⟩, List.mem_of_getElem? (i := 1143) (by decide +kernel), List.mem_of_getElem? (i := 1324) (by decide +kernel), List.mem_of_getElem? (i := 1325) (by decide +kernel)⟩
theorem lw_p44 : lw_okq (⟨"ReceiptLeftModel", "readLine", "()V"⟩, 44) := ⟨⟨by decide +kernel, by decide +kernel⟩, List.mem_of_getElem? (i := 1143) (by decide +kernel), List.mem_of_getElem? (i := 1328) (by decide +kernel), List.mem_of_getElem? (i := 1329) (by decide +kernel)⟩
theorem lw_p45 : lw_okq (⟨"ReceiptLeftModel", "needs", "(Ljava/lang/String;)V"⟩, 44) := ⟨⟨by decide +kernel, by decide +kernel⟩, List.mem_of_getElem? (i := 1143) (by decide +kernel), List.mem_of_getElem? (i := 1333) (by decide +kernel), List.mem_of_getElem? (i := 1334) (by decide +kernel)⟩
theorem lw_p46 : lw_okq (⟨"ReceiptLeftModel", "takes", "(Ljava/lang/String;)Z"⟩, 44) := ⟨⟨by decide +kernel, by decide +kernel⟩, List.mem_of_getElem? (i := 1143) (by decide +kernel), List.mem_of_getElem? (i := 1337) (by decide +kernel), List.mem_of_getElem? (i := 1338) (by decide +kernel)⟩
theorem lw_p47 : lw_okq (⟨"ReceiptLeftModel", "is", "(Ljava/lang/String;)Z"⟩, 44) := ⟨⟨by decide +kernel, by decide +kernel⟩, List.mem_of_getElem? (i := 1143) (by decide +kernel), List.mem_of_getElem? (i := 1341) (by decide +kernel), List.mem_of_getElem? (i := 1342) (by decide +kernel)⟩
def lw_privs_3 : List (MethodName × Nat) := [(⟨"ReceiptLeft", "mostWanted", "(II)I"⟩, 12), (⟨"ReceiptLeft$Deal", "weigh", "(LReceiptLeft$City;)V"⟩, 1), (⟨"ReceiptLeft$Deal", "with", "(LReceiptLeft$City;III)I"⟩, 1), (⟨"ReceiptLeft$Deal", "firstFor", "(LReceiptLeft$City;II)I"⟩, 1), (⟨"ReceiptLeft", "isAtRest", "(II)Z"⟩, 12), (⟨"ReceiptLeft", "look", "(I)I"⟩, 12), (⟨"ReceiptLeft", "drawNights", "(II)I"⟩, 12), (⟨"ReceiptLeft", "drawTheft", "(I)V"⟩, 12), (⟨"ReceiptLeft", "filledSlots", "()I"⟩, 12), (⟨"ReceiptLeftModel", "advance", "()V"⟩, 44), (⟨"ReceiptLeftModel", "see", "(I)I"⟩, 44), (⟨"ReceiptLeftModel", "good", "()Z"⟩, 44), (⟨"ReceiptLeftModel", "readLine", "()V"⟩, 44), (⟨"ReceiptLeftModel", "needs", "(Ljava/lang/String;)V"⟩, 44), (⟨"ReceiptLeftModel", "takes", "(Ljava/lang/String;)Z"⟩, 44), (⟨"ReceiptLeftModel", "is", "(Ljava/lang/String;)Z"⟩, 44)]
theorem lw_r3 : ∀ q ∈ lw_privs_3, lw_okq q := List.forall_mem_cons.mpr ⟨lw_p32, List.forall_mem_cons.mpr ⟨lw_p33, List.forall_mem_cons.mpr ⟨lw_p34, List.forall_mem_cons.mpr ⟨lw_p35, List.forall_mem_cons.mpr ⟨lw_p36, List.forall_mem_cons.mpr ⟨lw_p37, List.forall_mem_cons.mpr ⟨lw_p38, List.forall_mem_cons.mpr ⟨lw_p39, List.forall_mem_cons.mpr ⟨lw_p40, List.forall_mem_cons.mpr ⟨lw_p41, List.forall_mem_cons.mpr ⟨lw_p42, List.forall_mem_cons.mpr ⟨lw_p43, List.forall_mem_cons.mpr ⟨lw_p44, List.forall_mem_cons.mpr ⟨lw_p45, List.forall_mem_cons.mpr ⟨lw_p46, List.forall_mem_cons.mpr ⟨lw_p47, fun _ h => absurd h List.not_mem_nil⟩⟩⟩⟩⟩⟩⟩⟩⟩⟩⟩⟩⟩⟩⟩⟩
theorem lw_p48 : lw_okq (⟨"ReceiptLeftModel", "errs", "(I)V"⟩, 44) := ⟨⟨by decide +kernel, by decide +kernel⟩, List.mem_of_getElem? (i := 1143) (by decide +kernel), List.mem_of_getElem? (i := 1347) (by decide +kernel), List.mem_of_getElem? (i := 1348) (by decide +kernel)⟩
theorem lw_p49 : lw_okq (⟨"ReceiptLeftModel", "told", "(Ljava/lang/String;II)I"⟩, 44) := ⟨⟨by decide +kernel, by decide +kernel⟩, List.mem_of_getElem? (i := 1143) (by decide +kernel), List.mem_of_getElem? (i := 1352) (by decide +kernel), List.mem_of_getElem? (i := 1353) (by decide +kernel)⟩
theorem lw_p50 : lw_okq (⟨"ReceiptLeftModel", "number", "(II)I"⟩, 44) := ⟨⟨by decide +kernel, by decide +kernel⟩, List.mem_of_getElem? (i := 1143) (by decide +kernel), List.mem_of_getElem? (i := 1356) (by decide +kernel), List.mem_of_getElem? (i := 1357) (by decide +kernel)⟩
theorem lw_p51 : lw_okq (⟨"ReceiptLeftModel", "readNext", "()V"⟩, 44) := ⟨⟨by decide +kernel, by decide +kernel⟩, List.mem_of_getElem? (i := 1143) (by decide +kernel), List.mem_of_getElem? (i := 1362) (by decide +kernel), List.mem_of_getElem? (i := 1363) (by decide +kernel)⟩
theorem lw_p52 : lw_okq (⟨"ReceiptLeftModel", "isHouse", "(J)Z"⟩, 44) := ⟨⟨by decide +kernel, by decide +kernel⟩, List.mem_of_getElem? (i := 1143) (by decide +kernel), List.mem_of_getElem? (i := 1377) (by decide +kernel), List.mem_of_getElem? (i := 1378) (by decide +kernel)⟩
theorem lw_p53 : lw_okq (⟨"ReceiptLeftModel", "asItIs", "()V"⟩, 44) := ⟨⟨by decide +kernel, by decide +kernel⟩, List.mem_of_getElem? (i := 1143) (by decide +kernel), List.mem_of_getElem? (i := 1382) (by decide +kernel), List.mem_of_getElem? (i := 1383) (by decide +kernel)⟩
theorem lw_p54 : lw_okq (⟨"ReceiptLeftModel", "act0", "(I)V"⟩, 44) := ⟨⟨by decide +kernel, by decide +kernel⟩, List.mem_of_getElem? (i := 1143) (by decide +kernel), List.mem_of_getElem? (i := 1386) (by decide +kernel), List.mem_of_getElem? (i := 1387) (by decide +kernel)⟩
theorem lw_p55 : lw_okq (⟨"ReceiptLeftModel", "steal0", "(III)V"⟩, 44) := ⟨⟨by decide +kernel, by decide +kernel⟩, List.mem_of_getElem? (i := 1143) (by decide +kernel), List.mem_of_getElem? (i := 1391) (by decide +kernel), List.mem_of_getElem? (i := 1392) (by decide +kernel)⟩
theorem lw_p56 : lw_okq (⟨"ReceiptLeftModel", "goTo", "(II)V"⟩, 44) := ⟨⟨by decide +kernel, by decide +kernel⟩, List.mem_of_getElem? (i := 1143) (by decide +kernel), List.mem_of_getElem? (i := 1395) (by decide +kernel), List.mem_of_getElem? (i := 1396) (by decide +kernel)⟩
theorem lw_p57 : lw_okq (⟨"ReceiptLeftModel", "sell0", "(II)V"⟩, 44) := ⟨⟨by decide +kernel, by decide +kernel⟩, List.mem_of_getElem? (i := 1143) (by decide +kernel), List.mem_of_getElem? (i := 1399) (by decide +kernel), List.mem_of_getElem? (i := 1400) (by decide +kernel)⟩
theorem lw_p58 : lw_okq (⟨"ReceiptLeftModel", "priceOf", "(I)I"⟩, 44) := ⟨⟨by decide +kernel, by decide +kernel⟩, List.mem_of_getElem? (i := 1143) (by decide +kernel), List.mem_of_getElem? (i := 1403) (by decide +kernel), List.mem_of_getElem? (i := 1404) (by decide +kernel)⟩
theorem lw_p59 : lw_okq (⟨"ReceiptLeftModel", "worthP", "(I)I"⟩, 44) := ⟨⟨by decide +kernel, by decide +kernel⟩, List.mem_of_getElem? (i := 1143) (by decide +kernel), List.mem_of_getElem? (i := 1407) (by decide +kernel), List.mem_of_getElem? (i := 1408) (by decide +kernel)⟩
theorem lw_p60 : lw_okq (⟨"ReceiptLeftModel", "worthOf", "(I)I"⟩, 44) := ⟨⟨by decide +kernel, by decide +kernel⟩, List.mem_of_getElem? (i := 1143) (by decide +kernel), List.mem_of_getElem? (i := 1411) (by decide +kernel), List.mem_of_getElem? (i := 1412) (by decide +kernel)⟩
theorem lw_p61 : lw_okq (⟨"ReceiptLeftModel", "pay", "(III)V"⟩, 44) := ⟨⟨by decide +kernel, by decide +kernel⟩, List.mem_of_getElem? (i := 1143) (by decide +kernel), List.mem_of_getElem? (i := 1415) (by decide +kernel), List.mem_of_getElem? (i := 1416) (by decide +kernel)⟩
theorem lw_p62 : lw_okq (⟨"ReceiptLeftModel", "bring0", "(I)V"⟩, 44) := ⟨⟨by decide +kernel, by decide +kernel⟩, List.mem_of_getElem? (i := 1143) (by decide +kernel), List.mem_of_getElem? (i := 1419) (by decide +kernel), List.mem_of_getElem? (i := 1420) (by decide +kernel)⟩
theorem lw_p63 : lw_okq (⟨"ReceiptLeftModel", "night0", "()I"⟩, 44) := ⟨⟨by decide +kernel, by decide +kernel⟩, List.mem_of_getElem? (i := 1143) (by decide +kernel), List.mem_of_getElem? (i := 1423) (by decide +kernel), List.mem_of_getElem? (i := 1424) (by decide +kernel)⟩
def lw_privs_4 : List (MethodName × Nat) := [(⟨"ReceiptLeftModel", "errs", "(I)V"⟩, 44), (⟨"ReceiptLeftModel", "told", "(Ljava/lang/String;II)I"⟩, 44), (⟨"ReceiptLeftModel", "number", "(II)I"⟩, 44), (⟨"ReceiptLeftModel", "readNext", "()V"⟩, 44), (⟨"ReceiptLeftModel", "isHouse", "(J)Z"⟩, 44), (⟨"ReceiptLeftModel", "asItIs", "()V"⟩, 44), (⟨"ReceiptLeftModel", "act0", "(I)V"⟩, 44), (⟨"ReceiptLeftModel", "steal0", "(III)V"⟩, 44), (⟨"ReceiptLeftModel", "goTo", "(II)V"⟩, 44), (⟨"ReceiptLeftModel", "sell0", "(II)V"⟩, 44), (⟨"ReceiptLeftModel", "priceOf", "(I)I"⟩, 44), (⟨"ReceiptLeftModel", "worthP", "(I)I"⟩, 44), (⟨"ReceiptLeftModel", "worthOf", "(I)I"⟩, 44), (⟨"ReceiptLeftModel", "pay", "(III)V"⟩, 44), (⟨"ReceiptLeftModel", "bring0", "(I)V"⟩, 44), (⟨"ReceiptLeftModel", "night0", "()I"⟩, 44)]
theorem lw_r4 : ∀ q ∈ lw_privs_4, lw_okq q := List.forall_mem_cons.mpr ⟨lw_p48, List.forall_mem_cons.mpr ⟨lw_p49, List.forall_mem_cons.mpr ⟨lw_p50, List.forall_mem_cons.mpr ⟨lw_p51, List.forall_mem_cons.mpr ⟨lw_p52, List.forall_mem_cons.mpr ⟨lw_p53, List.forall_mem_cons.mpr ⟨lw_p54, List.forall_mem_cons.mpr ⟨lw_p55, List.forall_mem_cons.mpr ⟨lw_p56, List.forall_mem_cons.mpr ⟨lw_p57, List.forall_mem_cons.mpr ⟨lw_p58, List.forall_mem_cons.mpr ⟨lw_p59, List.forall_mem_cons.mpr ⟨lw_p60, List.forall_mem_cons.mpr ⟨lw_p61, List.forall_mem_cons.mpr ⟨lw_p62, List.forall_mem_cons.mpr ⟨lw_p63, fun _ h => absurd h List.not_mem_nil⟩⟩⟩⟩⟩⟩⟩⟩⟩⟩⟩⟩⟩⟩⟩⟩
theorem lw_p64 : lw_okq (⟨"ReceiptLeftModel", "thingsIn", "(I)I"⟩, 44) := ⟨⟨by decide +kernel, by decide +kernel⟩, List.mem_of_getElem? (i := 1143) (by decide +kernel), List.mem_of_getElem? (i := 1427) (by decide +kernel), List.mem_of_getElem? (i := 1428) (by decide +kernel)⟩
theorem lw_p65 : lw_okq (⟨"ReceiptLeftModel", "isOpen", "(I)Z"⟩, 44) := ⟨⟨by decide +kernel, by decide +kernel⟩, List.mem_of_getElem? (i := 1143) (by decide +kernel), List.mem_of_getElem? (i := 1431) (by decide +kernel), List.mem_of_getElem? (i := 1432) (by decide +kernel)⟩
theorem lw_p66 : lw_okq (⟨"ReceiptLeftModel", "isThing", "(J)Z"⟩, 44) := ⟨⟨by decide +kernel, by decide +kernel⟩, List.mem_of_getElem? (i := 1143) (by decide +kernel), List.mem_of_getElem? (i := 1439) (by decide +kernel), List.mem_of_getElem? (i := 1440) (by decide +kernel)⟩
theorem lw_p67 : lw_okq (⟨"ReceiptLeftModel", "valueOf", "(II)I"⟩, 44) := ⟨⟨by decide +kernel, by decide +kernel⟩, List.mem_of_getElem? (i := 1143) (by decide +kernel), List.mem_of_getElem? (i := 1447) (by decide +kernel), List.mem_of_getElem? (i := 1448) (by decide +kernel)⟩
theorem lw_p68 : lw_okq (⟨"ReceiptLeftModel", "wantOf", "(II)I"⟩, 44) := ⟨⟨by decide +kernel, by decide +kernel⟩, List.mem_of_getElem? (i := 1143) (by decide +kernel), List.mem_of_getElem? (i := 1451) (by decide +kernel), List.mem_of_getElem? (i := 1452) (by decide +kernel)⟩
theorem lw_p69 : lw_okq (⟨"ReceiptLeftModel", "isPaper", "(I)Z"⟩, 44) := ⟨⟨by decide +kernel, by decide +kernel⟩, List.mem_of_getElem? (i := 1143) (by decide +kernel), List.mem_of_getElem? (i := 1459) (by decide +kernel), List.mem_of_getElem? (i := 1460) (by decide +kernel)⟩
theorem lw_p70 : lw_okq (⟨"ReceiptLeftModel", "netOf", "(I)I"⟩, 44) := ⟨⟨by decide +kernel, by decide +kernel⟩, List.mem_of_getElem? (i := 1143) (by decide +kernel), List.mem_of_getElem? (i := 1472) (by decide +kernel), List.mem_of_getElem? (i := 1473) (by decide +kernel)⟩
theorem lw_p71 : lw_okq (⟨"ReceiptLeftModel", "canSteal", "(II)Z"⟩, 44) := ⟨⟨by decide +kernel, by decide +kernel⟩, List.mem_of_getElem? (i := 1143) (by decide +kernel), List.mem_of_getElem? (i := 1481) (by decide +kernel), List.mem_of_getElem? (i := 1482) (by decide +kernel)⟩
theorem lw_p72 : lw_okq (⟨"ReceiptLeftModel", "keepAct", "(IIII)Z"⟩, 44) := ⟨⟨by decide +kernel, by decide +kernel⟩, List.mem_of_getElem? (i := 1143) (by decide +kernel), List.mem_of_getElem? (i := 1485) (by decide +kernel), List.mem_of_getElem? (i := 1486) (by decide +kernel)⟩
theorem lw_p73 : lw_okq (⟨"ReceiptLeftModel", "openSet", "()I"⟩, 44) := ⟨⟨by decide +kernel, by decide +kernel⟩, List.mem_of_getElem? (i := 1143) (by decide +kernel), List.mem_of_getElem? (i := 1501) (by decide +kernel), List.mem_of_getElem? (i := 1502) (by decide +kernel)⟩
theorem lw_p74 : lw_okq (⟨"ReceiptLeftModel", "isCity", "()Z"⟩, 44) := ⟨⟨by decide +kernel, by decide +kernel⟩, List.mem_of_getElem? (i := 1143) (by decide +kernel), List.mem_of_getElem? (i := 1516) (by decide +kernel), List.mem_of_getElem? (i := 1517) (by decide +kernel)⟩
theorem lw_p75 : lw_okq (⟨"ReceiptLeftModel", "layChain", "(I)I"⟩, 44) := ⟨⟨by decide +kernel, by decide +kernel⟩, List.mem_of_getElem? (i := 1143) (by decide +kernel), List.mem_of_getElem? (i := 1537) (by decide +kernel), List.mem_of_getElem? (i := 1538) (by decide +kernel)⟩
theorem lw_p76 : lw_okq (⟨"ReceiptLeftModel", "wasInChain", "(I)Z"⟩, 44) := ⟨⟨by decide +kernel, by decide +kernel⟩, List.mem_of_getElem? (i := 1143) (by decide +kernel), List.mem_of_getElem? (i := 1541) (by decide +kernel), List.mem_of_getElem? (i := 1542) (by decide +kernel)⟩
theorem lw_p77 : lw_okq (⟨"ReceiptLeftModel", "leadsTo", "(II)I"⟩, 44) := ⟨⟨by decide +kernel, by decide +kernel⟩, List.mem_of_getElem? (i := 1143) (by decide +kernel), List.mem_of_getElem? (i := 1545) (by decide +kernel), List.mem_of_getElem? (i := 1546) (by decide +kernel)⟩
theorem lw_p78 : lw_okq (⟨"ReceiptLeftModel", "isEdge", "(II)Z"⟩, 44) := ⟨⟨by decide +kernel, by decide +kernel⟩, List.mem_of_getElem? (i := 1143) (by decide +kernel), List.mem_of_getElem? (i := 1565) (by decide +kernel), List.mem_of_getElem? (i := 1566) (by decide +kernel)⟩
theorem lw_p79 : lw_okq (⟨"ReceiptLeftModel", "struckOf", "()I"⟩, 44) := ⟨⟨by decide +kernel, by decide +kernel⟩, List.mem_of_getElem? (i := 1143) (by decide +kernel), List.mem_of_getElem? (i := 1573) (by decide +kernel), List.mem_of_getElem? (i := 1574) (by decide +kernel)⟩
def lw_privs_5 : List (MethodName × Nat) := [(⟨"ReceiptLeftModel", "thingsIn", "(I)I"⟩, 44), (⟨"ReceiptLeftModel", "isOpen", "(I)Z"⟩, 44), (⟨"ReceiptLeftModel", "isThing", "(J)Z"⟩, 44), (⟨"ReceiptLeftModel", "valueOf", "(II)I"⟩, 44), (⟨"ReceiptLeftModel", "wantOf", "(II)I"⟩, 44), (⟨"ReceiptLeftModel", "isPaper", "(I)Z"⟩, 44), (⟨"ReceiptLeftModel", "netOf", "(I)I"⟩, 44), (⟨"ReceiptLeftModel", "canSteal", "(II)Z"⟩, 44), (⟨"ReceiptLeftModel", "keepAct", "(IIII)Z"⟩, 44), (⟨"ReceiptLeftModel", "openSet", "()I"⟩, 44), (⟨"ReceiptLeftModel", "isCity", "()Z"⟩, 44), (⟨"ReceiptLeftModel", "layChain", "(I)I"⟩, 44), (⟨"ReceiptLeftModel", "wasInChain", "(I)Z"⟩, 44), (⟨"ReceiptLeftModel", "leadsTo", "(II)I"⟩, 44), (⟨"ReceiptLeftModel", "isEdge", "(II)Z"⟩, 44), (⟨"ReceiptLeftModel", "struckOf", "()I"⟩, 44)]
theorem lw_r5 : ∀ q ∈ lw_privs_5, lw_okq q := List.forall_mem_cons.mpr ⟨lw_p64, List.forall_mem_cons.mpr ⟨lw_p65, List.forall_mem_cons.mpr ⟨lw_p66, List.forall_mem_cons.mpr ⟨lw_p67, List.forall_mem_cons.mpr ⟨lw_p68, List.forall_mem_cons.mpr ⟨lw_p69, List.forall_mem_cons.mpr ⟨lw_p70, List.forall_mem_cons.mpr ⟨lw_p71, List.forall_mem_cons.mpr ⟨lw_p72, List.forall_mem_cons.mpr ⟨lw_p73, List.forall_mem_cons.mpr ⟨lw_p74, List.forall_mem_cons.mpr ⟨lw_p75, List.forall_mem_cons.mpr ⟨lw_p76, List.forall_mem_cons.mpr ⟨lw_p77, List.forall_mem_cons.mpr ⟨lw_p78, List.forall_mem_cons.mpr ⟨lw_p79, fun _ h => absurd h List.not_mem_nil⟩⟩⟩⟩⟩⟩⟩⟩⟩⟩⟩⟩⟩⟩⟩⟩
theorem lw_p80 : lw_okq (⟨"ReceiptLeftModel", "staying", "(I)I"⟩, 44) := ⟨⟨by decide +kernel, by decide +kernel⟩, List.mem_of_getElem? (i := 1143) (by decide +kernel), List.mem_of_getElem? (i := 1577) (by decide +kernel), List.mem_of_getElem? (i := 1578) (by decide +kernel)⟩
theorem lw_p81 : lw_okq (⟨"ReceiptLeftModel", "latest", "(III)I"⟩, 44) := ⟨⟨by decide +kernel, by decide +kernel⟩, List.mem_of_getElem? (i := 1143) (by decide +kernel), List.mem_of_getElem? (i := 1581) (by decide +kernel), List.mem_of_getElem? (i := 1582) (by decide +kernel)⟩
theorem lw_p82 : lw_okq (⟨"ReceiptLeftModel", "leadRound", "()Z"⟩, 44) := ⟨⟨by decide +kernel, by decide +kernel⟩, List.mem_of_getElem? (i := 1143) (by decide +kernel), List.mem_of_getElem? (i := 1585) (by decide +kernel), List.mem_of_getElem? (i := 1586) (by decide +kernel)⟩
theorem lw_p83 : lw_okq (⟨"ReceiptLeftModel", "liesFor", "(I)I"⟩, 44) := ⟨⟨by decide +kernel, by decide +kernel⟩, List.mem_of_getElem? (i := 1143) (by decide +kernel), List.mem_of_getElem? (i := 1605) (by decide +kernel), List.mem_of_getElem? (i := 1606) (by decide +kernel)⟩
theorem lw_p84 : lw_okq (⟨"ReceiptLeftModel", "dueOn", "(I)I"⟩, 44) := ⟨⟨by decide +kernel, by decide +kernel⟩, List.mem_of_getElem? (i := 1143) (by decide +kernel), List.mem_of_getElem? (i := 1617) (by decide +kernel), List.mem_of_getElem? (i := 1618) (by decide +kernel)⟩
theorem lw_p85 : lw_okq (⟨"ReceiptLeftModel", "goNights", "(I)I"⟩, 44) := ⟨⟨by decide +kernel, by decide +kernel⟩, List.mem_of_getElem? (i := 1143) (by decide +kernel), List.mem_of_getElem? (i := 1641) (by decide +kernel), List.mem_of_getElem? (i := 1642) (by decide +kernel)⟩
theorem lw_p86 : lw_okq (⟨"ReceiptLeftModel", "failedSet", "()I"⟩, 44) := ⟨⟨by decide +kernel, by decide +kernel⟩, List.mem_of_getElem? (i := 1143) (by decide +kernel), List.mem_of_getElem? (i := 1645) (by decide +kernel), List.mem_of_getElem? (i := 1646) (by decide +kernel)⟩
theorem lw_p87 : lw_okq (⟨"ReceiptLeftModel", "hitOf", "(I)I"⟩, 44) := ⟨⟨by decide +kernel, by decide +kernel⟩, List.mem_of_getElem? (i := 1143) (by decide +kernel), List.mem_of_getElem? (i := 1668) (by decide +kernel), List.mem_of_getElem? (i := 1669) (by decide +kernel)⟩
theorem lw_p88 : lw_okq (⟨"ReceiptLeftModel", "mostWanted", "(II)I"⟩, 44) := ⟨⟨by decide +kernel, by decide +kernel⟩, List.mem_of_getElem? (i := 1143) (by decide +kernel), List.mem_of_getElem? (i := 1683) (by decide +kernel), List.mem_of_getElem? (i := 1684) (by decide +kernel)⟩
theorem lw_p89 : lw_okq (⟨"ReceiptLeftModel", "layDeals", "()I"⟩, 44) := ⟨⟨by decide +kernel, by decide +kernel⟩, List.mem_of_getElem? (i := 1143) (by decide +kernel), List.mem_of_getElem? (i := 1699) (by decide +kernel), List.mem_of_getElem? (i := 1700) (by decide +kernel)⟩
theorem lw_p90 : lw_okq (⟨"ReceiptLeftModel", "dealtFrom", "(II)I"⟩, 44) := ⟨⟨by decide +kernel, by decide +kernel⟩, List.mem_of_getElem? (i := 1143) (by decide +kernel), List.mem_of_getElem? (i := 1703) (by decide +kernel), List.mem_of_getElem? (i := 1704) (by decide +kernel)⟩
theorem lw_p91 : lw_okq (⟨"ReceiptLeftModel", "dealtBy", "(III)I"⟩, 44) := ⟨⟨by decide +kernel, by decide +kernel⟩, List.mem_of_getElem? (i := 1143) (by decide +kernel), List.mem_of_getElem? (i := 1707) (by decide +kernel), List.mem_of_getElem? (i := 1708) (by decide +kernel)⟩
theorem lw_p92 : lw_okq (⟨"ReceiptLeftModel", "isCost", "(I)Z"⟩, 44) := ⟨⟨by decide +kernel, by decide +kernel⟩, List.mem_of_getElem? (i := 1143) (by decide +kernel), List.mem_of_getElem? (i := 1720) (by decide +kernel), List.mem_of_getElem? (i := 1721) (by decide +kernel)⟩
theorem lw_p93 : lw_okq (⟨"ReceiptLeftModel", "isRest", "(II)Z"⟩, 44) := ⟨⟨by decide +kernel, by decide +kernel⟩, List.mem_of_getElem? (i := 1143) (by decide +kernel), List.mem_of_getElem? (i := 1725) (by decide +kernel), List.mem_of_getElem? (i := 1726) (by decide +kernel)⟩
theorem lw_p94 : lw_okq (⟨"ReceiptLeftModel", "getsBy", "(III)I"⟩, 44) := ⟨⟨by decide +kernel, by decide +kernel⟩, List.mem_of_getElem? (i := 1143) (by decide +kernel), List.mem_of_getElem? (i := 1729) (by decide +kernel), List.mem_of_getElem? (i := 1730) (by decide +kernel)⟩
theorem lw_p95 : lw_okq (⟨"ReceiptLeftModel", "gainOf", "(II)I"⟩, 44) := ⟨⟨by decide +kernel, by decide +kernel⟩, List.mem_of_getElem? (i := 1143) (by decide +kernel), List.mem_of_getElem? (i := 1733) (by decide +kernel), List.mem_of_getElem? (i := 1734) (by decide +kernel)⟩
def lw_privs_6 : List (MethodName × Nat) := [(⟨"ReceiptLeftModel", "staying", "(I)I"⟩, 44), (⟨"ReceiptLeftModel", "latest", "(III)I"⟩, 44), (⟨"ReceiptLeftModel", "leadRound", "()Z"⟩, 44), (⟨"ReceiptLeftModel", "liesFor", "(I)I"⟩, 44), (⟨"ReceiptLeftModel", "dueOn", "(I)I"⟩, 44), (⟨"ReceiptLeftModel", "goNights", "(I)I"⟩, 44), (⟨"ReceiptLeftModel", "failedSet", "()I"⟩, 44), (⟨"ReceiptLeftModel", "hitOf", "(I)I"⟩, 44), (⟨"ReceiptLeftModel", "mostWanted", "(II)I"⟩, 44), (⟨"ReceiptLeftModel", "layDeals", "()I"⟩, 44), (⟨"ReceiptLeftModel", "dealtFrom", "(II)I"⟩, 44), (⟨"ReceiptLeftModel", "dealtBy", "(III)I"⟩, 44), (⟨"ReceiptLeftModel", "isCost", "(I)Z"⟩, 44), (⟨"ReceiptLeftModel", "isRest", "(II)Z"⟩, 44), (⟨"ReceiptLeftModel", "getsBy", "(III)I"⟩, 44), (⟨"ReceiptLeftModel", "gainOf", "(II)I"⟩, 44)]
theorem lw_r6 : ∀ q ∈ lw_privs_6, lw_okq q := List.forall_mem_cons.mpr ⟨lw_p80, List.forall_mem_cons.mpr ⟨lw_p81, List.forall_mem_cons.mpr ⟨lw_p82, List.forall_mem_cons.mpr ⟨lw_p83, List.forall_mem_cons.mpr ⟨lw_p84, List.forall_mem_cons.mpr ⟨lw_p85, List.forall_mem_cons.mpr ⟨lw_p86, List.forall_mem_cons.mpr ⟨lw_p87, List.forall_mem_cons.mpr ⟨lw_p88, List.forall_mem_cons.mpr ⟨lw_p89, List.forall_mem_cons.mpr ⟨lw_p90, List.forall_mem_cons.mpr ⟨lw_p91, List.forall_mem_cons.mpr ⟨lw_p92, List.forall_mem_cons.mpr ⟨lw_p93, List.forall_mem_cons.mpr ⟨lw_p94, List.forall_mem_cons.mpr ⟨lw_p95, fun _ h => absurd h List.not_mem_nil⟩⟩⟩⟩⟩⟩⟩⟩⟩⟩⟩⟩⟩⟩⟩⟩
theorem lw_p96 : lw_okq (⟨"ReceiptLeftModel", "lossOf", "(I)I"⟩, 44) := ⟨⟨by decide +kernel, by decide +kernel⟩, List.mem_of_getElem? (i := 1143) (by decide +kernel), List.mem_of_getElem? (i := 1737) (by decide +kernel), List.mem_of_getElem? (i := 1738) (by decide +kernel)⟩
theorem lw_p97 : lw_okq (⟨"ReceiptLeftModel", "asksPapers", "(I)I"⟩, 44) := ⟨⟨by decide +kernel, by decide +kernel⟩, List.mem_of_getElem? (i := 1143) (by decide +kernel), List.mem_of_getElem? (i := 1753) (by decide +kernel), List.mem_of_getElem? (i := 1754) (by decide +kernel)⟩
theorem lw_p98 : lw_okq (⟨"ReceiptLeftModel", "isRowPaper", "(II)Z"⟩, 44) := ⟨⟨by decide +kernel, by decide +kernel⟩, List.mem_of_getElem? (i := 1143) (by decide +kernel), List.mem_of_getElem? (i := 1760) (by decide +kernel), List.mem_of_getElem? (i := 1761) (by decide +kernel)⟩
theorem lw_p99 : lw_okq (⟨"ReceiptLeftModel", "numberAt", "(II)J"⟩, 44) := ⟨⟨by decide +kernel, by decide +kernel⟩, List.mem_of_getElem? (i := 1143) (by decide +kernel), List.mem_of_getElem? (i := 1764) (by decide +kernel), List.mem_of_getElem? (i := 1765) (by decide +kernel)⟩
theorem lw_p100 : lw_okq (⟨"ReceiptLeftModel", "layFalse", "(I)V"⟩, 44) := ⟨⟨by decide +kernel, by decide +kernel⟩, List.mem_of_getElem? (i := 1143) (by decide +kernel), List.mem_of_getElem? (i := 1769) (by decide +kernel), List.mem_of_getElem? (i := 1770) (by decide +kernel)⟩
theorem lw_p101 : lw_okq (⟨"ReceiptLeftModel", "fitsRow", "(IIIZ)Z"⟩, 44) := ⟨⟨by decide +kernel, by decide +kernel⟩, List.mem_of_getElem? (i := 1143) (by decide +kernel), List.mem_of_getElem? (i := 1773) (by decide +kernel), List.mem_of_getElem? (i := 1774) (by decide +kernel)⟩
theorem lw_p102 : lw_okq (⟨"ReceiptLeftModel", "areDrawn", "(II)Z"⟩, 44) := ⟨⟨by decide +kernel, by decide +kernel⟩, List.mem_of_getElem? (i := 1143) (by decide +kernel), List.mem_of_getElem? (i := 1789) (by decide +kernel), List.mem_of_getElem? (i := 1790) (by decide +kernel)⟩
theorem lw_p103 : lw_okq (⟨"ReceiptLeftModel", "goDrawn", "(JI)I"⟩, 44) := ⟨⟨by decide +kernel, by decide +kernel⟩, List.mem_of_getElem? (i := 1143) (by decide +kernel), List.mem_of_getElem? (i := 1795) (by decide +kernel), List.mem_of_getElem? (i := 1796) (by decide +kernel)⟩
theorem lw_p104 : lw_okq (⟨"ReceiptLeftModel", "draw", "(I)I"⟩, 44) := ⟨⟨by decide +kernel, by decide +kernel⟩, List.mem_of_getElem? (i := 1143) (by decide +kernel), List.mem_of_getElem? (i := 1799) (by decide +kernel), List.mem_of_getElem? (i := 1800) (by decide +kernel)⟩
theorem lw_p105 : lw_okq (⟨"ReceiptLeftModel", "tell", "(II)I"⟩, 44) := ⟨⟨by decide +kernel, by decide +kernel⟩, List.mem_of_getElem? (i := 1143) (by decide +kernel), List.mem_of_getElem? (i := 1816) (by decide +kernel), List.mem_of_getElem? (i := 1817) (by decide +kernel)⟩
def lw_privs_7 : List (MethodName × Nat) := [(⟨"ReceiptLeftModel", "lossOf", "(I)I"⟩, 44), (⟨"ReceiptLeftModel", "asksPapers", "(I)I"⟩, 44), (⟨"ReceiptLeftModel", "isRowPaper", "(II)Z"⟩, 44), (⟨"ReceiptLeftModel", "numberAt", "(II)J"⟩, 44), (⟨"ReceiptLeftModel", "layFalse", "(I)V"⟩, 44), (⟨"ReceiptLeftModel", "fitsRow", "(IIIZ)Z"⟩, 44), (⟨"ReceiptLeftModel", "areDrawn", "(II)Z"⟩, 44), (⟨"ReceiptLeftModel", "goDrawn", "(JI)I"⟩, 44), (⟨"ReceiptLeftModel", "draw", "(I)I"⟩, 44), (⟨"ReceiptLeftModel", "tell", "(II)I"⟩, 44)]
theorem lw_r7 : ∀ q ∈ lw_privs_7, lw_okq q := List.forall_mem_cons.mpr ⟨lw_p96, List.forall_mem_cons.mpr ⟨lw_p97, List.forall_mem_cons.mpr ⟨lw_p98, List.forall_mem_cons.mpr ⟨lw_p99, List.forall_mem_cons.mpr ⟨lw_p100, List.forall_mem_cons.mpr ⟨lw_p101, List.forall_mem_cons.mpr ⟨lw_p102, List.forall_mem_cons.mpr ⟨lw_p103, List.forall_mem_cons.mpr ⟨lw_p104, List.forall_mem_cons.mpr ⟨lw_p105, fun _ h => absurd h List.not_mem_nil⟩⟩⟩⟩⟩⟩⟩⟩⟩⟩
def lw_privs : List (MethodName × Nat) := lw_privs_1 ++ (lw_privs_2 ++ (lw_privs_3 ++ (lw_privs_4 ++ (lw_privs_5 ++ (lw_privs_6 ++ (lw_privs_7))))))
def lw_tbl : List Cond := k2_sels lw_privs ++ tables_1
theorem lw_privs_ok : ∀ q ∈ lw_privs, lw_okq q := by
  show ∀ q ∈ lw_privs_1 ++ (lw_privs_2 ++ (lw_privs_3 ++ (lw_privs_4 ++ (lw_privs_5 ++ (lw_privs_6 ++ (lw_privs_7)))))), lw_okq q
  exact List.forall_mem_append.mpr ⟨lw_r1, List.forall_mem_append.mpr ⟨lw_r2, List.forall_mem_append.mpr ⟨lw_r3, List.forall_mem_append.mpr ⟨lw_r4, List.forall_mem_append.mpr ⟨lw_r5, List.forall_mem_append.mpr ⟨lw_r6, lw_r7⟩⟩⟩⟩⟩⟩
end
section
/-! ===== z: the words, all of the tables' good ones, for every method alike ===== -/
def zT : List Cond := lw_tbl.filter goodWord
theorem zT_in {w : Cond} (h : w ∈ lw_tbl) (g : goodWord w = true) : w ∈ zT := List.mem_filter.mpr ⟨h, g⟩
theorem zT_good : ∀ w ∈ zT, (w.onTables && w.keeps) = true ∨ ∃ ty, w = .arrayClass ty := fun _ h => good_of_word (List.mem_filter.mp h).2
theorem zT_lw : ∀ w ∈ zT, w ∈ lw_tbl := fun _ h => (List.mem_filter.mp h).1
theorem z_c {w : Cond} (h : w ∈ tables_1) : w ∈ lw_tbl := List.mem_append_right _ h
theorem z_c1 {w : Cond} (h : w ∈ tables_1_1) : w ∈ lw_tbl := z_c (List.mem_append_left _ h)
theorem z_c2 {w : Cond} (h : w ∈ tables_1_2) : w ∈ lw_tbl := z_c (List.mem_append_right _ (List.mem_append_left _ h))
theorem z_c3 {w : Cond} (h : w ∈ tables_1_3) : w ∈ lw_tbl := z_c (List.mem_append_right _ (List.mem_append_right _ (List.mem_append_left _ h)))
theorem z_c4 {w : Cond} (h : w ∈ tables_1_4) : w ∈ lw_tbl := z_c (List.mem_append_right _ (List.mem_append_right _ (List.mem_append_right _ (List.mem_append_left _ h))))
theorem z_c5 {w : Cond} (h : w ∈ tables_1_5) : w ∈ lw_tbl := z_c (List.mem_append_right _ (List.mem_append_right _ (List.mem_append_right _ (List.mem_append_right _ (List.mem_append_left _ h)))))
theorem z_c6 {w : Cond} (h : w ∈ tables_1_6) : w ∈ lw_tbl := z_c (List.mem_append_right _ (List.mem_append_right _ (List.mem_append_right _ (List.mem_append_right _ (List.mem_append_right _ (List.mem_append_left _ h))))))
theorem z_c7 {w : Cond} (h : w ∈ tables_1_7) : w ∈ lw_tbl := z_c (List.mem_append_right _ (List.mem_append_right _ (List.mem_append_right _ (List.mem_append_right _ (List.mem_append_right _ (List.mem_append_right _ (List.mem_append_left _ h)))))))
theorem z_c8 {w : Cond} (h : w ∈ tables_1_8) : w ∈ lw_tbl := z_c (List.mem_append_right _ (List.mem_append_right _ (List.mem_append_right _ (List.mem_append_right _ (List.mem_append_right _ (List.mem_append_right _ (List.mem_append_right _ h)))))))
theorem z_c0 {w : Cond} (h : w ∈ k2_sels lw_privs) : w ∈ lw_tbl := List.mem_append_left _ h
theorem z_GI {ws : List Cond} (h : ∀ w ∈ ws, w ∈ zT) : GoodIn zT ws := fun w hw => ⟨h w hw, zT_good w (h w hw)⟩
theorem z_GC {w : Cond} (h : w ∈ zT) : GoodIn zT (w :: zT) := z_GI (fun v hv => (List.mem_cons.mp hv).elim (fun e => e ▸ h) id)
theorem z_cwV {R : Room} {s : State} {args : Array Value} {own C : String} {index : Nat} {y : MethodName} {bytes : ByteArray} {maxL : Nat} {ret : Option FieldType} {rm : Room} (n : Nat) (ht : ∀ w ∈ zT, w.before args s = true) (hl : Cond.methodLink own index y ∈ zT) (hm : Cond.instanceMethod y ∈ zT ∧ Cond.selects C y y ∈ zT ∧ Cond.initialized y.cls ∈ zT ∧ Cond.code y bytes maxL ret ∈ zT)
    (hd : y.cls ≠ "java/lang/invoke/MethodHandle" ∧ y.cls ≠ "java/lang/invoke/VarHandle" ∧ (parseMethodDescriptor y.desc).map (fun d => d.parameters.length) = some n) (hR : rm.frames + 1 ≤ R.frames ∧ 8 + (maxL + 11) + rm.locals ≤ R.locals) :
    CallW R s args own C index y bytes maxL ret (Cond.code y bytes maxL ret :: zT) rm rm.cells rm.slots n :=
  ⟨callB_of n ht (z_GC hm.2.2.2) rfl rfl rfl (ht _ hm.2.2.1) (ht _ hl) hd hR, ht _ hm.1, ht _ hm.2.1⟩
theorem z_cwS {R : Room} {s : State} {args : Array Value} {own : String} {index : Nat} {y : MethodName} {bytes : ByteArray} {maxL : Nat} {ret : Option FieldType} {rm : Room} (n : Nat) (ht : ∀ w ∈ zT, w.before args s = true) (hl : Cond.methodLink own index y ∈ zT) (hm : Cond.static y ∈ zT ∧ Cond.initialized y.cls ∈ zT ∧ Cond.code y bytes maxL ret ∈ zT)
    (hd : y.cls ≠ "java/lang/invoke/MethodHandle" ∧ y.cls ≠ "java/lang/invoke/VarHandle" ∧ (parseMethodDescriptor y.desc).map (fun d => d.parameters.length) = some n) (hR : rm.frames + 1 ≤ R.frames ∧ 8 + (maxL + 11) + rm.locals ≤ R.locals) :
    CallB R s args own index y bytes maxL ret (Cond.code y bytes maxL ret :: zT) rm rm.cells rm.slots n ∧ (Cond.static y).before args s = true :=
  ⟨callB_of n ht (z_GC hm.2.2) rfl rfl rfl (ht _ hm.2.1) (ht _ hl) hd hR, ht _ hm.1⟩
/-! ===== z: worlds of a fixed shape: cell k lies at q k, and what it holds is K k of its own row of ints, its own row of an array, its own row of longs ===== -/
def zr {α : Type} (R : Nat → α) (k : Nat) (g : α) : Nat → α := fun j => bif Nat.beq j k then g else R j
theorem zr_eq {α : Type} {R : Nat → α} {k : Nat} {g : α} : zr R k g k = g := by
  have h : Nat.beq k k = true := Nat.beq_refl k
  simp only [zr, h, cond_true]
theorem zr_ne {α : Type} {R : Nat → α} {k j : Nat} {g : α} (h : j ≠ k) : zr R k g j = R j := by
  have h1 : Nat.beq j k = false := by
    cases hb : Nat.beq j k with
    | false => rfl
    | true => exact absurd (Nat.eq_of_beq_eq_true hb) h
  simp only [zr, h1, cond_false]
/-- one place of one row -/
def zp {α : Type} (I : Nat → Nat → α) (k f : Nat) (v : α) : Nat → Nat → α := fun k' f' => bif Nat.beq k' k && Nat.beq f' f then v else I k' f'
theorem z_beq {a b : Nat} (h : a ≠ b) : Nat.beq a b = false := by
  cases hb : Nat.beq a b with
  | false => rfl
  | true => exact absurd (Nat.eq_of_beq_eq_true hb) h
theorem zp_eq {α : Type} {I : Nat → Nat → α} {k f : Nat} {v : α} : zp I k f v k f = v := by
  simp only [zp, Nat.beq_refl, Bool.and_self, cond_true]
theorem zp_nf {α : Type} {I : Nat → Nat → α} {k f j : Nat} {v : α} (h : j ≠ f) : zp I k f v k j = I k j := by
  simp only [zp, z_beq h, Bool.and_false, cond_false]
theorem zp_nk {α : Type} {I : Nat → Nat → α} {k f i : Nat} {v : α} (h : i ≠ k) : zp I k f v i = I i := by
  funext j
  simp only [zp, z_beq h, Bool.false_and, cond_false]
theorem zp_upd {I : Nat → Nat → Int32} {k f : Nat} {v : Int32} : zp I k f v k = upd (I k) f v := by
  funext j
  by_cases h : j = f
  · subst h
    rw [zp_eq]
    simp [upd]
  · rw [zp_nf h]
    simp [upd, h]
theorem zp_updL {I : Nat → Nat → Int64} {k f : Nat} {v : Int64} : zp I k f v k = vp_updL (I k) f v := by
  funext j
  by_cases h : j = f
  · subst h
    rw [zp_eq]
    simp [vp_updL]
  · rw [zp_nf h]
    simp [vp_updL, h]
abbrev zKd : Type := Nat → (Nat → Int32) → (Nat → Int32) → (Nat → Int64) → va_E
def zw (n : Nat) (q : Nat → Nat) (K : zKd) (I R : Nat → Nat → Int32) (J : Nat → Nat → Int64) : va_W := (List.range n).map (fun k => (q k, K k (I k) (R k) (J k)))
theorem zw_get {n : Nat} {q : Nat → Nat} {K : zKd} {I R : Nat → Nat → Int32} {J : Nat → Nat → Int64} {k : Nat} (h : k < n) : (zw n q K I R J)[k]? = some (q k, K k (I k) (R k) (J k)) := by
  simp [zw, List.getElem?_map, List.getElem?_range h]
theorem zw_at {n : Nat} {q : Nat → Nat} {K : zKd} {I R : Nat → Nat → Int32} {J : Nat → Nat → Int64} {k : Nat} {e : va_E} (h : k < n) (he : K k (I k) (R k) (J k) = e) : (zw n q K I R J)[k]? = some (q k, e) := he ▸ zw_get h
theorem zw_inv {n : Nat} {q : Nat → Nat} {K : zKd} {I R : Nat → Nat → Int32} {J : Nat → Nat → Int64} {k : Nat} {x : Nat × va_E} (h : (zw n q K I R J)[k]? = some x) : k < n ∧ x = (q k, K k (I k) (R k) (J k)) := by
  rcases Nat.lt_or_ge k n with hk | hk
  · rw [zw_get hk] at h
    exact ⟨hk, (Option.some.inj h).symm⟩
  · have : (zw n q K I R J)[k]? = none := by
      simp [zw, hk]
    rw [this] at h
    cases h
theorem zw_set {n : Nat} {q : Nat → Nat} {K : zKd} {I R I' R' : Nat → Nat → Int32} {J J' : Nat → Nat → Int64} {k : Nat} {e : va_E} (he : K k (I' k) (R' k) (J' k) = e) (hI : ∀ j, j ≠ k → I' j = I j) (hR : ∀ j, j ≠ k → R' j = R j) (hJ : ∀ j, j ≠ k → J' j = J j) : (zw n q K I R J).set k (q k, e) = zw n q K I' R' J' := by
  apply List.ext_getElem?
  intro j
  by_cases hj : j = k
  · subst hj
    rcases Nat.lt_or_ge j n with h | h
    · rw [zw_at h he, List.getElem?_set_self (by simpa [zw] using h)]
    · rw [List.getElem?_eq_none (by simpa [zw] using h), List.getElem?_eq_none (by simpa [zw] using h)]
  · rw [List.getElem?_set_ne (fun h => hj h.symm)]
    rcases Nat.lt_or_ge j n with h | h
    · rw [zw_get h, zw_get h, hI j hj, hR j hj, hJ j hj]
    · rw [List.getElem?_eq_none (by simpa [zw] using h), List.getElem?_eq_none (by simpa [zw] using h)]
theorem zw_setI {n : Nat} {q : Nat → Nat} {K : zKd} {I R : Nat → Nat → Int32} {J : Nat → Nat → Int64} {k : Nat} {e : va_E} {g : Nat → Int32} (he : K k g (R k) (J k) = e) : (zw n q K I R J).set k (q k, e) = zw n q K (zr I k g) R J :=
  zw_set (by rw [zr_eq]; exact he) (fun _ h => zr_ne h) (fun _ _ => rfl) (fun _ _ => rfl)
theorem zw_setR {n : Nat} {q : Nat → Nat} {K : zKd} {I R : Nat → Nat → Int32} {J : Nat → Nat → Int64} {k : Nat} {e : va_E} {g : Nat → Int32} (he : K k (I k) g (J k) = e) : (zw n q K I R J).set k (q k, e) = zw n q K I (zr R k g) J :=
  zw_set (by rw [zr_eq]; exact he) (fun _ _ => rfl) (fun _ h => zr_ne h) (fun _ _ => rfl)
theorem zw_setJ {n : Nat} {q : Nat → Nat} {K : zKd} {I R : Nat → Nat → Int32} {J : Nat → Nat → Int64} {k : Nat} {e : va_E} {g : Nat → Int64} (he : K k (I k) (R k) g = e) : (zw n q K I R J).set k (q k, e) = zw n q K I R (zr J k g) :=
  zw_set (by rw [zr_eq]; exact he) (fun _ _ => rfl) (fun _ _ => rfl) (fun _ h => zr_ne h)
theorem zw_pI {n : Nat} {q : Nat → Nat} {K : zKd} {I R : Nat → Nat → Int32} {J : Nat → Nat → Int64} {k f : Nat} {v : Int32} {e : va_E} (he : K k (zp I k f v k) (R k) (J k) = e) : (zw n q K I R J).set k (q k, e) = zw n q K (zp I k f v) R J :=
  zw_set he (fun _ h => zp_nk h) (fun _ _ => rfl) (fun _ _ => rfl)
theorem zw_pR {n : Nat} {q : Nat → Nat} {K : zKd} {I R : Nat → Nat → Int32} {J : Nat → Nat → Int64} {k f : Nat} {v : Int32} {e : va_E} (he : K k (I k) (zp R k f v k) (J k) = e) : (zw n q K I R J).set k (q k, e) = zw n q K I (zp R k f v) J :=
  zw_set he (fun _ _ => rfl) (fun _ h => zp_nk h) (fun _ _ => rfl)
theorem zw_pJ {n : Nat} {q : Nat → Nat} {K : zKd} {I R : Nat → Nat → Int32} {J : Nat → Nat → Int64} {k f : Nat} {v : Int64} {e : va_E} (he : K k (I k) (R k) (zp J k f v k) = e) : (zw n q K I R J).set k (q k, e) = zw n q K I R (zp J k f v) :=
  zw_set he (fun _ _ => rfl) (fun _ _ => rfl) (fun _ h => zp_nk h)
theorem zw_pRu {n : Nat} {q : Nat → Nat} {K : zKd} {I R : Nat → Nat → Int32} {J : Nat → Nat → Int64} {k f : Nat} {v : Int32} {cA : ClassId} {N : Nat} (he : ∀ g, K k (I k) g (J k) = .inl (cA, N, .inl g)) : (zw n q K I R J).set k (q k, .inl (cA, N, .inl (upd (R k) f v))) = zw n q K I (zp R k f v) J :=
  zw_pR (by rw [zp_upd]; exact he _)
theorem zw_pJu {n : Nat} {q : Nat → Nat} {K : zKd} {I R : Nat → Nat → Int32} {J : Nat → Nat → Int64} {k f : Nat} {v : Int64} {cA : ClassId} {N : Nat} (he : ∀ g, K k (I k) (R k) g = .inl (cA, N, .inr (.inl g))) : (zw n q K I R J).set k (q k, .inl (cA, N, .inr (.inl (vp_updL (J k) f v)))) = zw n q K I R (zp J k f v) :=
  zw_pJ (by rw [zp_updL]; exact he _)
/-- what a method may touch: the world's cells, and what is new -/
def zA (n : Nat) (q : Nat → Nat) (sz : Nat) : Nat → Prop := fun a => (∃ k, k < n ∧ q k = a) ∨ sz ≤ a
theorem zA_D {n : Nat} {q : Nat → Nat} {K : zKd} {I R : Nat → Nat → Int32} {J : Nat → Nat → Int64} {A : Nat → Prop} {sz : Nat} (h : va_D A (zw n q K I R J)) : va_D (zA n q sz) (zw n q K I R J) :=
  ⟨h.1, fun k x hk => by obtain ⟨h1, h2⟩ := zw_inv hk; rw [h2]; exact Or.inl ⟨k, h1, rfl⟩⟩
theorem zA_mono {n : Nat} {q : Nat → Nat} {a b : Nat} (h : a ≤ b) : ∀ x, zA n q b x → zA n q a x := fun _ hx => hx.elim Or.inl (fun g => Or.inr (Nat.le_trans h g))
theorem zA_of {n : Nat} {q : Nat → Nat} {K : zKd} {I R : Nat → Nat → Int32} {J : Nat → Nat → Int64} {A : Nat → Prop} {H0 H : Heap} {locs : List Loc} (hD : va_D A (zw n q K I R J)) (hS : va_S A H0 H locs) (hA : ∀ a, H0.size ≤ a → A a) : ∀ a, zA n q H.size a → A a := by
  intro a h
  rcases h with ⟨k, hk, rfl⟩ | h
  · exact hD.2 k _ (zw_get hk)
  · exact hA a (Nat.le_trans hS.1 h)
abbrev zU : Type := (Nat → Nat → Int32) × (Nat → Nat → Int32) × (Nat → Nat → Int64)
def zPc (D : va_G) (cl : List vw_C) (tys : List (ClassId × FieldType)) (n : Nat) (q : Nat → Nat) (K : zKd) (av : List Value) (u : zU) (sz : Nat) : Array Value → State → Prop :=
  va_Pc av (fun U => U.heap.size = sz ∧ va_P D cl (zw n q K u.1 u.2.1 u.2.2) U.heap ∧ va_K D cl tys U ∧ va_D (fun _ => True) (zw n q K u.1 u.2.1 u.2.2))
def zB (D : va_G) (cl : List vw_C) (n : Nat) (q : Nat → Nat) (K : zKd) (sz : Nat) (u : zU) (t : State) : Prop :=
  va_P D cl (zw n q K u.1 u.2.1 u.2.2) t.heap ∧ va_D (zA n q sz) (zw n q K u.1 u.2.1 u.2.2)
/-- contracts over a world of a fixed shape: an int comes back, or nothing, or a long -/
def zMi (l : Launch) (D : va_G) (cl : List vw_C) (tys : List (ClassId × FieldType)) (n : Nat) (q : Nat → Nat) (K : zKd) (y : MethodName) (cc : ByteArray) (mL : Nat) (ret : Option FieldType) (rm : Room) (av : List Value) (u : zU) (post : Int32 → zU → Prop) : Prop :=
  ∀ sz : Nat, Met l y (Cond.code y cc mL ret :: zT) rm (zPc D cl tys n q K av u sz) (va_Qi post (zB D cl n q K sz) (zA n q sz)) 0 0 (zA n q sz)
def zMv (l : Launch) (D : va_G) (cl : List vw_C) (tys : List (ClassId × FieldType)) (n : Nat) (q : Nat → Nat) (K : zKd) (y : MethodName) (cc : ByteArray) (mL : Nat) (ret : Option FieldType) (rm : Room) (av : List Value) (u : zU) (post : zU → Prop) : Prop :=
  ∀ sz : Nat, Met l y (Cond.code y cc mL ret :: zT) rm (zPc D cl tys n q K av u sz) (va_Qv post (zB D cl n q K sz) (zA n q sz)) 0 0 (zA n q sz)
def zMl (l : Launch) (D : va_G) (cl : List vw_C) (tys : List (ClassId × FieldType)) (n : Nat) (q : Nat → Nat) (K : zKd) (y : MethodName) (cc : ByteArray) (mL : Nat) (ret : Option FieldType) (rm : Room) (av : List Value) (u : zU) (post : Int64 → zU → Prop) : Prop :=
  ∀ sz : Nat, Met l y (Cond.code y cc mL ret :: zT) rm (zPc D cl tys n q K av u sz) (va_Ql post (zB D cl n q K sz) (zA n q sz)) 0 0 (zA n q sz)
theorem zPc_blind {D : va_G} {cl : List vw_C} {tys : List (ClassId × FieldType)} {n : Nat} {q : Nat → Nat} {K : zKd} {av : List Value} {u : zU} {sz : Nat} : FrameBlind (zPc D cl tys n q K av u sz) :=
  fun a U g mk h => by
    obtain ⟨q0, q1, qP, qK, qD⟩ := h
    exact ⟨q0, q1, qP, va_K.moved (u := U) (U := U.calling g mk a) (Vm.Alike.refl U.vm) qK, qD⟩
section ZB
variable {l : Launch} {D : va_G} {cl : List vw_C} {tys : List (ClassId × FieldType)} {n : Nat} {q : Nat → Nat} {K : zKd} {y : MethodName} {cc : ByteArray} {mL : Nat} {ret : Option FieldType} {rm : Room} {av : List Value} {I R : Nat → Nat → Int32} {J : Nat → Nat → Int64}
/-- the body of a method: what stands at its entry -/
theorem z_body {Qc : Array Value → State → Outcome → State → Prop} {sz : Nat} (hy : plainName y.cls = true) (hlen : (lg_sl av).length ≤ mL)
    (body : ∀ (p : Program) (e : Env) (s : State) (m : MethodId) (below : List Frame) (meth : Method) (c : Code) (ls : Array Slot), p.tables.exec = Jvm.exec → c.code = cc → c.maxLocals = mL → meth.sig.returnType = ret → (∀ w ∈ zT, w.before av.toArray s = true) → s.vm.findClass y.cls = some m.cls → meth.locks = false → s.heap.size = sz → va_K D cl tys s → va_P D cl (zw n q K I R J) s.heap → va_D (zA n q sz) (zw n q K I R J) → va_S (zA n q sz) s.heap s.heap [] → lv_has ls mL (lv_args 0 av) →
      W p l e rm s m av.toArray below meth c s.heap [] 0 0 (MQ below Qc av.toArray s 0 0 (zA n q sz)) (F0 m 0 ls [])) :
    Met l y (Cond.code y cc mL ret :: zT) rm (zPc D cl tys n q K av (I, R, J) sz) Qc 0 0 (zA n q sz) := by
  refine Met.ofW (cc := cc) (maxL := mL) (ret := ret) hy rfl ?_
  intro p e s m args below meth c s₁ B hml hv
  obtain ⟨rfl, hsz, hP, hK, hD0⟩ := hv
  have hts := atoms_spec (ws := Cond.code y cc mL ret :: zT) B.pre
  have hl := lv_entry av (n := mL) hlen
  rw [lg_entry_eq]
  exact body p e s m below meth c _ B.exec B.bytes hml B.returns (fun w h => hts w (List.mem_cons_of_mem _ h)) (findClass_of_methodNamed B.named) B.notSynchronized hsz hK hP (zA_D hD0) va_S.rf hl
end ZB
section ZR
variable {own : String} {p : Program} {l : Launch} {e : Env} {Rm : Room} {s : State} {m : MethodId} {args : Array Value} {below : List Frame} {meth : Method} {c : Code} {H H0 : Heap} {locs : List Loc} {cells slots : Nat} {Q : State → Prop} {D : va_G} {cl : List vw_C} {tys : List (ClassId × FieldType)} {n : Nat} {q : Nat → Nat} {K : zKd} {I R : Nat → Nat → Int32} {J : Nat → Nat → Int64} {A : Nat → Prop} {cc : ByteArray} {pc : Nat} {ls : Array Slot} {rest : List Value}
theorem z_eqi {x y : Int32} (h : x = y) (k : W p l e Rm s m args below meth c H locs cells slots Q (F0 m pc ls (.int y :: rest))) : W p l e Rm s m args below meth c H locs cells slots Q (F0 m pc ls (.int x :: rest)) := h ▸ k
theorem z_eql {x y : Int64} (h : x = y) (k : W p l e Rm s m args below meth c H locs cells slots Q (F0 m pc ls (.long y :: rest))) : W p l e Rm s m args below meth c H locs cells slots Q (F0 m pc ls (.long x :: rest)) := h ▸ k
theorem z_get (hx : p.tables.exec = Jvm.exec) (hb : c.code = cc) (ht : ∀ w ∈ zT, w.before args s = true) (hown : s.vm.findClass own = some m.cls) (hK : va_K D cl tys s) (hP : va_P D cl (zw n q K I R J) H) {C : String} {T : u_T} {N ci : Nat} (hin : ∀ w ∈ u_ws C T N, w ∈ zT) (hc : cl[ci]? = some (C, T, N)) (k : Nat) (hk : k < n) (f : Nat) (hf : f < N) {index : Nat} (hlink : Cond.fieldLink own index (T f).1 (T f).2.1 (T f).2.2.1 ∈ zT) {fs : List Value} (he : K k (I k) (R k) (J k) = .inr (ci, fs)) {v : Value} (hv : fs[f]? = some v) (hdg : decode cc pc = .ok (.getfield index, 3))
    (kk : W p l e Rm s m args below meth c H locs cells slots Q (F0 m (pc + 3) ls (v :: rest))) : W p l e Rm s m args below meth c H locs cells slots Q (F0 m pc ls (.ref (q k) :: rest)) :=
  va_get hx hb ht hin hown hK hP k (zw_at hk he) hc f hf (ht _ hlink) (fun _ h => h) hv hdg kk
theorem z_putI (hx : p.tables.exec = Jvm.exec) (hb : c.code = cc) (ht : ∀ w ∈ zT, w.before args s = true) (hown : s.vm.findClass own = some m.cls) (hK : va_K D cl tys s) (hP : va_P D cl (zw n q K I R J) H) (hD : va_D A (zw n q K I R J)) (hS : va_S A H0 H locs) {C : String} {T : u_T} {N ci : Nat} (hin : ∀ w ∈ u_ws C T N, w ∈ zT) (ty0 : Nat → FieldType) (hty : ∀ k, k < N → parseFieldDescriptor (T k).2.2.1 = some (ty0 k)) (hnm : ∀ a, a < N → ∀ b, b < N → a ≠ b → (T a).2.1 ≠ (T b).2.1) (hc : cl[ci]? = some (C, T, N)) (k : Nat) (hk : k < n) (f : Nat) (hf : f < N) {index : Nat} (hlink : Cond.fieldLink own index (T f).1 (T f).2.1 (T f).2.2.1 ∈ zT) (hfin : (T f).2.2.2 = false) {v : Int32} (hn : narrow (ty0 f) (.int v) = .int v) (hfit : fits (ty0 f) (.int v) = true) {fs : List Value} (he : K k (I k) (R k) (J k) = .inr (ci, fs)) (hl : f < fs.length) (he' : K k (zp I k f v k) (R k) (J k) = .inr (ci, fs.set f (.int v))) (hdg : decode cc pc = .ok (.putfield index, 3))
    (kk : ∀ (H1 : Heap) (locs1 : List Loc), va_P D cl (zw n q K (zp I k f v) R J) H1 → va_D A (zw n q K (zp I k f v) R J) → va_S A H0 H1 locs1 → W p l e Rm s m args below meth c H1 locs1 cells slots Q (F0 m (pc + 3) ls rest)) : W p l e Rm s m args below meth c H locs cells slots Q (F0 m pc ls (.int v :: .ref (q k) :: rest)) :=
  va_put hx hb ht hin ty0 hty hnm hown hK hP hD hS k (zw_at hk he) hc f hf (ht _ hlink) (fun _ h => h) hfin (hty f hf) hn hfit hl hdg (fun H1 locs1 hP1 hD1 hS1 => kk H1 locs1 (zw_pI he' ▸ hP1) (zw_pI he' ▸ hD1) hS1)
theorem z_putJ (hx : p.tables.exec = Jvm.exec) (hb : c.code = cc) (ht : ∀ w ∈ zT, w.before args s = true) (hown : s.vm.findClass own = some m.cls) (hK : va_K D cl tys s) (hP : va_P D cl (zw n q K I R J) H) (hD : va_D A (zw n q K I R J)) (hS : va_S A H0 H locs) {C : String} {T : u_T} {N ci : Nat} (hin : ∀ w ∈ u_ws C T N, w ∈ zT) (ty0 : Nat → FieldType) (hty : ∀ k, k < N → parseFieldDescriptor (T k).2.2.1 = some (ty0 k)) (hnm : ∀ a, a < N → ∀ b, b < N → a ≠ b → (T a).2.1 ≠ (T b).2.1) (hc : cl[ci]? = some (C, T, N)) (k : Nat) (hk : k < n) (f : Nat) (hf : f < N) {index : Nat} (hlink : Cond.fieldLink own index (T f).1 (T f).2.1 (T f).2.2.1 ∈ zT) (hfin : (T f).2.2.2 = false) {v : Int64} (hn : narrow (ty0 f) (.long v) = .long v) (hfit : fits (ty0 f) (.long v) = true) {fs : List Value} (he : K k (I k) (R k) (J k) = .inr (ci, fs)) (hl : f < fs.length) (he' : K k (I k) (R k) (zp J k f v k) = .inr (ci, fs.set f (.long v))) (hdg : decode cc pc = .ok (.putfield index, 3))
    (kk : ∀ (H1 : Heap) (locs1 : List Loc), va_P D cl (zw n q K I R (zp J k f v)) H1 → va_D A (zw n q K I R (zp J k f v)) → va_S A H0 H1 locs1 → W p l e Rm s m args below meth c H1 locs1 cells slots Q (F0 m (pc + 3) ls rest)) : W p l e Rm s m args below meth c H locs cells slots Q (F0 m pc ls (.long v :: .ref (q k) :: rest)) :=
  va_put hx hb ht hin ty0 hty hnm hown hK hP hD hS k (zw_at hk he) hc f hf (ht _ hlink) (fun _ h => h) hfin (hty f hf) hn hfit hl hdg (fun H1 locs1 hP1 hD1 hS1 => kk H1 locs1 (zw_pJ he' ▸ hP1) (zw_pJ he' ▸ hD1) hS1)
theorem z_iald (hx : p.tables.exec = Jvm.exec) (hb : c.code = cc) (hK : va_K D cl tys s) (hP : va_P D cl (zw n q K I R J) H) (k : Nat) (hk : k < n) (t0 : Nat) {cA : ClassId} {N : Nat} (he : K k (I k) (R k) (J k) = .inl (cA, N, .inl (R k))) (hty : tys[t0]? = some (cA, .int)) {i : Int32} (hin : vp_in i N) (hdg : decode cc pc = .ok (.iaload, 1))
    (kk : W p l e Rm s m args below meth c H locs cells slots Q (F0 m (pc + 1) ls (.int (R k i.toNatClampNeg) :: rest))) : W p l e Rm s m args below meth c H locs cells slots Q (F0 m pc ls (.int i :: .ref (q k) :: rest)) :=
  va_iald hx hb hK hP k t0 (zw_at hk he) hty hin hdg kk
theorem z_bald (hx : p.tables.exec = Jvm.exec) (hb : c.code = cc) (hK : va_K D cl tys s) (hP : va_P D cl (zw n q K I R J) H) (k : Nat) (hk : k < n) (t0 : Nat) {cA : ClassId} {N : Nat} (he : K k (I k) (R k) (J k) = .inl (cA, N, .inl (R k))) (hty : tys[t0]? = some (cA, .byte)) {i : Int32} (hin : vp_in i N) (hdg : decode cc pc = .ok (.baload, 1))
    (kk : W p l e Rm s m args below meth c H locs cells slots Q (F0 m (pc + 1) ls (.int (R k i.toNatClampNeg) :: rest))) : W p l e Rm s m args below meth c H locs cells slots Q (F0 m pc ls (.int i :: .ref (q k) :: rest)) :=
  va_bald hx hb hK hP k t0 (zw_at hk he) hty hin hdg kk
theorem z_zald (hx : p.tables.exec = Jvm.exec) (hb : c.code = cc) (hK : va_K D cl tys s) (hP : va_P D cl (zw n q K I R J) H) (k : Nat) (hk : k < n) (t0 : Nat) {cA : ClassId} {N : Nat} (he : K k (I k) (R k) (J k) = .inl (cA, N, .inl (R k))) (hty : tys[t0]? = some (cA, .boolean)) {i : Int32} (hin : vp_in i N) (hdg : decode cc pc = .ok (.baload, 1))
    (kk : W p l e Rm s m args below meth c H locs cells slots Q (F0 m (pc + 1) ls (.int (R k i.toNatClampNeg) :: rest))) : W p l e Rm s m args below meth c H locs cells slots Q (F0 m pc ls (.int i :: .ref (q k) :: rest)) :=
  va_zald hx hb hK hP k t0 (zw_at hk he) hty hin hdg kk
theorem z_lald (hx : p.tables.exec = Jvm.exec) (hb : c.code = cc) (hK : va_K D cl tys s) (hP : va_P D cl (zw n q K I R J) H) (k : Nat) (hk : k < n) (t0 : Nat) {cA : ClassId} {N : Nat} (he : K k (I k) (R k) (J k) = .inl (cA, N, .inr (.inl (J k)))) (hty : tys[t0]? = some (cA, .long)) {i : Int32} (hin : vp_in i N) (hdg : decode cc pc = .ok (.laload, 1))
    (kk : W p l e Rm s m args below meth c H locs cells slots Q (F0 m (pc + 1) ls (.long (J k i.toNatClampNeg) :: rest))) : W p l e Rm s m args below meth c H locs cells slots Q (F0 m pc ls (.int i :: .ref (q k) :: rest)) :=
  va_lald hx hb hK hP k t0 (zw_at hk he) hty hin hdg kk
theorem z_iast (hx : p.tables.exec = Jvm.exec) (hb : c.code = cc) (hK : va_K D cl tys s) (hP : va_P D cl (zw n q K I R J) H) (hD : va_D A (zw n q K I R J)) (hS : va_S A H0 H locs) (k : Nat) (hk : k < n) (t0 : Nat) {cA : ClassId} {N : Nat} (he : ∀ g, K k (I k) g (J k) = .inl (cA, N, .inl g)) (hty : tys[t0]? = some (cA, .int)) {i x : Int32} (hin : vp_in i N) (hdg : decode cc pc = .ok (.iastore, 1))
    (kk : ∀ (H1 : Heap) (locs1 : List Loc), va_P D cl (zw n q K I (zp R k i.toNatClampNeg x) J) H1 → va_D A (zw n q K I (zp R k i.toNatClampNeg x) J) → va_S A H0 H1 locs1 → W p l e Rm s m args below meth c H1 locs1 cells slots Q (F0 m (pc + 1) ls rest)) : W p l e Rm s m args below meth c H locs cells slots Q (F0 m pc ls (.int x :: .int i :: .ref (q k) :: rest)) :=
  va_iast hx hb hK hP hD hS k t0 (zw_at hk (he (R k))) hty hin hdg (fun H1 locs1 hP1 hD1 hS1 => kk H1 locs1 (zw_pRu he ▸ hP1) (zw_pRu he ▸ hD1) hS1)
theorem z_bast (hx : p.tables.exec = Jvm.exec) (hb : c.code = cc) (hK : va_K D cl tys s) (hP : va_P D cl (zw n q K I R J) H) (hD : va_D A (zw n q K I R J)) (hS : va_S A H0 H locs) (k : Nat) (hk : k < n) (t0 : Nat) {cA : ClassId} {N : Nat} (he : ∀ g, K k (I k) g (J k) = .inl (cA, N, .inl g)) (hty : tys[t0]? = some (cA, .byte)) {i x : Int32} (hin : vp_in i N) (hdg : decode cc pc = .ok (.bastore, 1))
    (kk : ∀ (H1 : Heap) (locs1 : List Loc), va_P D cl (zw n q K I (zp R k i.toNatClampNeg (vp_nar .byte x)) J) H1 → va_D A (zw n q K I (zp R k i.toNatClampNeg (vp_nar .byte x)) J) → va_S A H0 H1 locs1 → W p l e Rm s m args below meth c H1 locs1 cells slots Q (F0 m (pc + 1) ls rest)) : W p l e Rm s m args below meth c H locs cells slots Q (F0 m pc ls (.int x :: .int i :: .ref (q k) :: rest)) :=
  va_bast hx hb hK hP hD hS k t0 (zw_at hk (he (R k))) hty hin hdg (fun H1 locs1 hP1 hD1 hS1 => kk H1 locs1 (zw_pRu he ▸ hP1) (zw_pRu he ▸ hD1) hS1)
theorem z_zast (hx : p.tables.exec = Jvm.exec) (hb : c.code = cc) (hK : va_K D cl tys s) (hP : va_P D cl (zw n q K I R J) H) (hD : va_D A (zw n q K I R J)) (hS : va_S A H0 H locs) (k : Nat) (hk : k < n) (t0 : Nat) {cA : ClassId} {N : Nat} (he : ∀ g, K k (I k) g (J k) = .inl (cA, N, .inl g)) (hty : tys[t0]? = some (cA, .boolean)) {i x : Int32} (hin : vp_in i N) (hdg : decode cc pc = .ok (.bastore, 1))
    (kk : ∀ (H1 : Heap) (locs1 : List Loc), va_P D cl (zw n q K I (zp R k i.toNatClampNeg (vp_nar .boolean x)) J) H1 → va_D A (zw n q K I (zp R k i.toNatClampNeg (vp_nar .boolean x)) J) → va_S A H0 H1 locs1 → W p l e Rm s m args below meth c H1 locs1 cells slots Q (F0 m (pc + 1) ls rest)) : W p l e Rm s m args below meth c H locs cells slots Q (F0 m pc ls (.int x :: .int i :: .ref (q k) :: rest)) :=
  va_zast hx hb hK hP hD hS k t0 (zw_at hk (he (R k))) hty hin hdg (fun H1 locs1 hP1 hD1 hS1 => kk H1 locs1 (zw_pRu he ▸ hP1) (zw_pRu he ▸ hD1) hS1)
theorem z_last (hx : p.tables.exec = Jvm.exec) (hb : c.code = cc) (hK : va_K D cl tys s) (hP : va_P D cl (zw n q K I R J) H) (hD : va_D A (zw n q K I R J)) (hS : va_S A H0 H locs) (k : Nat) (hk : k < n) (t0 : Nat) {cA : ClassId} {N : Nat} (he : ∀ g, K k (I k) (R k) g = .inl (cA, N, .inr (.inl g))) (hty : tys[t0]? = some (cA, .long)) {i : Int32} {x : Int64} (hin : vp_in i N) (hdg : decode cc pc = .ok (.lastore, 1))
    (kk : ∀ (H1 : Heap) (locs1 : List Loc), va_P D cl (zw n q K I R (zp J k i.toNatClampNeg x)) H1 → va_D A (zw n q K I R (zp J k i.toNatClampNeg x)) → va_S A H0 H1 locs1 → W p l e Rm s m args below meth c H1 locs1 cells slots Q (F0 m (pc + 1) ls rest)) : W p l e Rm s m args below meth c H locs cells slots Q (F0 m pc ls (.long x :: .int i :: .ref (q k) :: rest)) :=
  va_last hx hb hK hP hD hS k t0 (zw_at hk (he (J k))) hty hin hdg (fun H1 locs1 hP1 hD1 hS1 => kk H1 locs1 (zw_pJu he ▸ hP1) (zw_pJu he ▸ hD1) hS1)
theorem z_copyi (hx : p.tables.exec = Jvm.exec) (hb : c.code = cc) (hml : c.maxLocals = ls.size) (ht : ∀ w ∈ zT, w.before args s = true) (hown : s.vm.findClass own = some m.cls) {index : Nat} (hlink : Cond.methodLink own index arraycopyName ∈ zT) (hw : Cond.native arraycopyName ∈ zT ∧ Cond.static arraycopyName ∈ zT ∧ Cond.initialized "java/lang/System" ∈ zT) (hK : va_K D cl tys s) (hP : va_P D cl (zw n q K I R J) H) (hD : va_D A (zw n q K I R J)) (hS : va_S A H0 H locs) (k0 k1 : Nat) (hk0 : k0 < n) (hk1 : k1 < n) (t0 t1 : Nat) {c0 c1 : ClassId} {n0 n1 : Nat} (he0 : K k0 (I k0) (R k0) (J k0) = .inl (c0, n0, .inl (R k0))) (he1 : ∀ g, K k1 (I k1) g (J k1) = .inl (c1, n1, .inl g)) (ht0 : tys[t0]? = some (c0, .int)) (ht1 : tys[t1]? = some (c1, .int)) {sp dp nn : Int32} (h1 : ¬ sp < 0) (h2 : ¬ dp < 0) (h3 : ¬ nn < 0) (h4 : sp.toNatClampNeg + nn.toNatClampNeg ≤ n0) (h5 : dp.toNatClampNeg + nn.toNatClampNeg ≤ n1) (hfr : 1 ≤ Rm.frames) (hlo : (rest.map fun v => v.category).sum + (nativeFrameWords "java/lang/System" "arraycopy" 5 + 11) ≤ Rm.locals) (hdg : decode cc pc = .ok (.invokestatic index, 3))
    (kk : ∀ (g : Nat → Int32) (H1 : Heap) (locs1 : List Loc), g = va_cpy (R k0) (R k1) sp.toNatClampNeg dp.toNatClampNeg nn.toNatClampNeg → va_P D cl (zw n q K I (zr R k1 g) J) H1 → va_D A (zw n q K I (zr R k1 g) J) → va_S A H0 H1 locs1 → W p l e Rm s m args below meth c H1 locs1 cells slots Q (F0 m (pc + 3) ls rest)) : W p l e Rm s m args below meth c H locs cells slots Q (F0 m pc ls (.int nn :: .int dp :: .ref (q k1) :: .int sp :: .ref (q k0) :: rest)) :=
  va_copyi hx hb hml hown (ht _ hlink) (ht _ hw.1) (ht _ hw.2.1) (ht _ hw.2.2) hK hP hD hS k0 k1 t0 t1 (zw_at hk0 he0) (zw_at hk1 (he1 (R k1))) ht0 ht1 rfl h1 h2 h3 h4 h5 (fun _ _ => rfl) hfr hlo hdg (fun H1 locs1 hP1 hD1 hS1 => kk _ H1 locs1 rfl (zw_setR (he1 _) ▸ hP1) (zw_setR (he1 _) ▸ hD1) hS1)
theorem z_alen (hx : p.tables.exec = Jvm.exec) (hb : c.code = cc) (hK : va_K D cl tys s) (hP : va_P D cl (zw n q K I R J) H) (k : Nat) (hk : k < n) (t0 : Nat) {cA : ClassId} {x : vp_A} (he : K k (I k) (R k) (J k) = .inl (cA, x)) {ty : FieldType} (hty : tys[t0]? = some (cA, ty)) (hdg : decode cc pc = .ok (.arraylength, 1))
    (kk : W p l e Rm s m args below meth c H locs cells slots Q (F0 m (pc + 1) ls (.int (nI x.1) :: rest))) : W p l e Rm s m args below meth c H locs cells slots Q (F0 m pc ls (.ref (q k) :: rest)) :=
  va_alen hx hb hK hP k t0 (zw_at hk he) hty rfl hdg kk
theorem z_iret {sz : Nat} {post : Int32 → zU → Prop} (hx : p.tables.exec = Jvm.exec) (hb : c.code = cc) (hr : meth.sig.returnType = some .int) (hlocks : meth.locks = false) (hP : va_P D cl (zw n q K I R J) H) (hD : va_D (zA n q sz) (zw n q K I R J)) (hS : va_S (zA n q sz) s.heap H locs) {v : Int32} (hdg : decode cc pc = .ok (.ireturn, 1)) (hp : post v (I, R, J)) :
    W p l e Rm s m args below meth c H locs 0 0 (MQ below (va_Qi post (zB D cl n q K sz) (zA n q sz)) args s 0 0 (zA n q sz)) (F0 m pc ls [.int v]) :=
  W.iret (v := v) hx hb hr (fun t ht _ => ⟨⟨v, (I, R, J), rfl, hp, by rw [ht]; exact hP, hD⟩, hS.F ht⟩) hS.2.2 hdg hlocks
theorem z_zret {sz : Nat} {post : Int32 → zU → Prop} {ty : FieldType} (hx : p.tables.exec = Jvm.exec) (hb : c.code = cc) (hr : meth.sig.returnType = some ty) (hlocks : meth.locks = false) (hP : va_P D cl (zw n q K I R J) H) (hD : va_D (zA n q sz) (zw n q K I R J)) (hS : va_S (zA n q sz) s.heap H locs) {v : Int32} (hn : narrow ty (.int v) = .int v) (hdg : decode cc pc = .ok (.ireturn, 1)) (hp : post v (I, R, J)) :
    W p l e Rm s m args below meth c H locs 0 0 (MQ below (va_Qi post (zB D cl n q K sz) (zA n q sz)) args s 0 0 (zA n q sz)) (F0 m pc ls [.int v]) :=
  W.zret (v := v) hx hb hr hn (fun t ht _ => ⟨⟨v, (I, R, J), rfl, hp, by rw [ht]; exact hP, hD⟩, hS.F ht⟩) hS.2.2 hdg hlocks
theorem z_lret {sz : Nat} {post : Int64 → zU → Prop} (hx : p.tables.exec = Jvm.exec) (hb : c.code = cc) (hr : meth.sig.returnType = some .long) (hlocks : meth.locks = false) (hP : va_P D cl (zw n q K I R J) H) (hD : va_D (zA n q sz) (zw n q K I R J)) (hS : va_S (zA n q sz) s.heap H locs) {v : Int64} (hdg : decode cc pc = .ok (.lreturn, 1)) (hp : post v (I, R, J)) :
    W p l e Rm s m args below meth c H locs 0 0 (MQ below (va_Ql post (zB D cl n q K sz) (zA n q sz)) args s 0 0 (zA n q sz)) (F0 m pc ls [.long v]) :=
  W.lret (v := v) hx hb hr (fun t ht _ => ⟨⟨v, (I, R, J), rfl, hp, by rw [ht]; exact hP, hD⟩, hS.F ht⟩) hS.2.2 hdg hlocks
theorem z_vret {sz : Nat} {post : zU → Prop} (hx : p.tables.exec = Jvm.exec) (hb : c.code = cc) (hr : meth.sig.returnType = none) (hlocks : meth.locks = false) (hP : va_P D cl (zw n q K I R J) H) (hD : va_D (zA n q sz) (zw n q K I R J)) (hS : va_S (zA n q sz) s.heap H locs) (hdg : decode cc pc = .ok (.return_, 1)) (hp : post (I, R, J)) :
    W p l e Rm s m args below meth c H locs 0 0 (MQ below (va_Qv post (zB D cl n q K sz) (zA n q sz)) args s 0 0 (zA n q sz)) (F0 m pc ls []) :=
  W.vret hx hb hr (fun t ht _ => ⟨⟨(I, R, J), rfl, hp, by rw [ht]; exact hP, hD⟩, hS.F ht⟩) hS.2.2 hdg hlocks
end ZR
section ZC
variable {p : Program} {l : Launch} {e : Env} {Rm : Room} {s : State} {m : MethodId} {args : Array Value} {below : List Frame} {meth : Method} {c : Code} {H H0 : Heap} {locs : List Loc} {cells slots : Nat} {Q : State → Prop} {D : va_G} {cl : List vw_C} {tys : List (ClassId × FieldType)} {n : Nat} {q : Nat → Nat} {K : zKd} {I R : Nat → Nat → Int32} {J : Nat → Nat → Int64} {A : Nat → Prop} {cc : ByteArray} {pc : Nat} {ls : Array Slot} {rest st0 As : List Value}
  {y : MethodName} {bytes : ByteArray} {mL nL na index : Nat} {ret : Option FieldType} {rm : Room} {own C : String} {T : u_T} {N ci k : Nat} {fs : List Value}
theorem z_preV (hK : va_K D cl tys s) (hP : va_P D cl (zw n q K I R J) H) (hD : va_D A (zw n q K I R J)) (hk : k < n) (he : K k (I k) (R k) (J k) = .inr (ci, fs)) (hc : cl[ci]? = some (C, T, N)) : PreV s H C (q k) (zPc D cl tys n q K (.ref (q k) :: As) (I, R, J) H.size) As :=
  ⟨zPc_blind, va_recv hK hP hc (zw_at hk he), fun U hU hW => ⟨rfl, by rw [hU], by rw [hU]; exact hP, va_K.moved hW.alike hK, hD.weaken (fun _ _ _ _ => trivial)⟩⟩
theorem z_preS (hK : va_K D cl tys s) (hP : va_P D cl (zw n q K I R J) H) (hD : va_D A (zw n q K I R J)) : PreS s H (zPc D cl tys n q K As (I, R, J) H.size) As :=
  ⟨zPc_blind, fun U hU hW => ⟨rfl, by rw [hU], by rw [hU]; exact hP, va_K.moved hW.alike hK, hD.weaken (fun _ _ _ _ => trivial)⟩⟩
theorem z_runi {post : Int32 → zU → Prop} {a : Array Value} (hr : va_Run p l e Rm s m args below meth c H locs cells slots 0 0 (F0 m pc ls st0) rest (va_Qi post (zB D cl n q K H.size) (zA n q H.size) a) (zA n q H.size)) (hS : va_S A H0 H locs) (hAA : ∀ a, zA n q H.size a → A a)
    (kk : ∀ (r : Int32) (I1 R1 : Nat → Nat → Int32) (J1 : Nat → Nat → Int64) (H1 : Heap) (locs1 : List Loc), post r (I1, R1, J1) → va_P D cl (zw n q K I1 R1 J1) H1 → va_D A (zw n q K I1 R1 J1) → va_S A H0 H1 locs1 → H.size ≤ H1.size → (∀ a : Nat, a < H.size → ¬ zA n q H.size a → H1[a]? = H[a]?) → W p l e Rm s m args below meth c H1 locs1 cells slots Q (F0 m (pc + 3) ls (.int r :: rest))) : W p l e Rm s m args below meth c H locs cells slots Q (F0 m pc ls st0) :=
  va_calli hr hS (fun a _ h => hAA a h) hAA (fun r u t H1 locs1 ht _ hp hB hz hk hS1 => by
    obtain ⟨I1, R1, J1⟩ := u
    obtain ⟨hP1, hD1⟩ := hB
    rw [ht] at hP1
    exact kk r I1 R1 J1 H1 locs1 hp hP1 (hD1.weaken (fun _ x _ hx => hAA x.1 hx)) hS1 hz hk)
theorem z_runl {post : Int64 → zU → Prop} {a : Array Value} (hr : va_Run p l e Rm s m args below meth c H locs cells slots 0 0 (F0 m pc ls st0) rest (va_Ql post (zB D cl n q K H.size) (zA n q H.size) a) (zA n q H.size)) (hS : va_S A H0 H locs) (hAA : ∀ a, zA n q H.size a → A a)
    (kk : ∀ (r : Int64) (I1 R1 : Nat → Nat → Int32) (J1 : Nat → Nat → Int64) (H1 : Heap) (locs1 : List Loc), post r (I1, R1, J1) → va_P D cl (zw n q K I1 R1 J1) H1 → va_D A (zw n q K I1 R1 J1) → va_S A H0 H1 locs1 → H.size ≤ H1.size → (∀ a : Nat, a < H.size → ¬ zA n q H.size a → H1[a]? = H[a]?) → W p l e Rm s m args below meth c H1 locs1 cells slots Q (F0 m (pc + 3) ls (.long r :: rest))) : W p l e Rm s m args below meth c H locs cells slots Q (F0 m pc ls st0) :=
  va_calll hr hS (fun a _ h => hAA a h) hAA (fun r u t H1 locs1 ht _ hp hB hz hk hS1 => by
    obtain ⟨I1, R1, J1⟩ := u
    obtain ⟨hP1, hD1⟩ := hB
    rw [ht] at hP1
    exact kk r I1 R1 J1 H1 locs1 hp hP1 (hD1.weaken (fun _ x _ hx => hAA x.1 hx)) hS1 hz hk)
theorem z_runv {post : zU → Prop} {a : Array Value} (hr : va_Run p l e Rm s m args below meth c H locs cells slots 0 0 (F0 m pc ls st0) rest (va_Qv post (zB D cl n q K H.size) (zA n q H.size) a) (zA n q H.size)) (hS : va_S A H0 H locs) (hAA : ∀ a, zA n q H.size a → A a)
    (kk : ∀ (I1 R1 : Nat → Nat → Int32) (J1 : Nat → Nat → Int64) (H1 : Heap) (locs1 : List Loc), post (I1, R1, J1) → va_P D cl (zw n q K I1 R1 J1) H1 → va_D A (zw n q K I1 R1 J1) → va_S A H0 H1 locs1 → H.size ≤ H1.size → (∀ a : Nat, a < H.size → ¬ zA n q H.size a → H1[a]? = H[a]?) → W p l e Rm s m args below meth c H1 locs1 cells slots Q (F0 m (pc + 3) ls rest)) : W p l e Rm s m args below meth c H locs cells slots Q (F0 m pc ls st0) :=
  va_callv hr hS (fun a _ h => hAA a h) hAA (fun u t H1 locs1 ht _ hp hB hz hk hS1 => by
    obtain ⟨I1, R1, J1⟩ := u
    obtain ⟨hP1, hD1⟩ := hB
    rw [ht] at hP1
    exact kk I1 R1 J1 H1 locs1 hp hP1 (hD1.weaken (fun _ x _ hx => hAA x.1 hx)) hS1 hz hk)
/-- a call of a method of the world's cell k, that answers an int -/
theorem z_callVi {post : Int32 → zU → Prop} (hx : p.tables.exec = Jvm.exec) (hb : c.code = cc) (hml : c.maxLocals = nL) (hown : s.vm.findClass own = some m.cls) (ht : ∀ w ∈ zT, w.before args s = true) (hM : zMi l D cl tys n q K y bytes mL ret rm (.ref (q k) :: As) (I, R, J) post) (hl : Cond.methodLink own index y ∈ zT) (hm : Cond.instanceMethod y ∈ zT ∧ Cond.selects C y y ∈ zT ∧ Cond.initialized y.cls ∈ zT ∧ Cond.code y bytes mL ret ∈ zT) (hrm : rm.cells = 0 ∧ rm.slots = 0) (hna : As.length = na)
    (hd : y.cls ≠ "java/lang/invoke/MethodHandle" ∧ y.cls ≠ "java/lang/invoke/VarHandle" ∧ (parseMethodDescriptor y.desc).map (fun d => d.parameters.length) = some na) (hR : rm.frames + 1 ≤ Rm.frames ∧ 8 + (mL + 11) + rm.locals ≤ Rm.locals) (hk : k < n) (he : K k (I k) (R k) (J k) = .inr (ci, fs)) (hc : cl[ci]? = some (C, T, N)) (hK : va_K D cl tys s) (hP : va_P D cl (zw n q K I R J) H) (hD : va_D A (zw n q K I R J)) (hS : va_S A H0 H locs) (hA : ∀ a, H0.size ≤ a → A a) (hsz : ls.size = nL) (hst : st0 = As.reverse ++ .ref (q k) :: rest) (hW : (rest.map fun v => v.category).sum ≤ 8) (hf : cells + 0 ≤ Rm.cells ∧ slots + 0 ≤ Rm.slots) (hdg : decode cc pc = .ok (.invokevirtual index, 3))
    (kk : ∀ (r : Int32) (I1 R1 : Nat → Nat → Int32) (J1 : Nat → Nat → Int64) (H1 : Heap) (locs1 : List Loc), post r (I1, R1, J1) → va_P D cl (zw n q K I1 R1 J1) H1 → va_D A (zw n q K I1 R1 J1) → va_S A H0 H1 locs1 → H.size ≤ H1.size → (∀ a : Nat, a < H.size → ¬ zA n q H.size a → H1[a]? = H[a]?) → W p l e Rm s m args below meth c H1 locs1 cells slots Q (F0 m (pc + 3) ls (.int r :: rest))) : W p l e Rm s m args below meth c H locs cells slots Q (F0 m pc ls st0) := by
  subst hst
  obtain ⟨rf, rc, rs, rl⟩ := rm
  obtain ⟨h1, h2⟩ := hrm
  cases h1
  cases h2
  exact z_runi (va_runV (As := As) (rest := rest) ⟨hx, hb, hml, hown, ht⟩ (hM H.size) (z_cwV na ht hl hm hd hR) (z_preV hK hP hD hk he hc) rfl hna hsz rfl (lv_room hW) hdg hf) hS (zA_of hD hS hA) kk
theorem z_callVv {post : zU → Prop} (hx : p.tables.exec = Jvm.exec) (hb : c.code = cc) (hml : c.maxLocals = nL) (hown : s.vm.findClass own = some m.cls) (ht : ∀ w ∈ zT, w.before args s = true) (hM : zMv l D cl tys n q K y bytes mL ret rm (.ref (q k) :: As) (I, R, J) post) (hl : Cond.methodLink own index y ∈ zT) (hm : Cond.instanceMethod y ∈ zT ∧ Cond.selects C y y ∈ zT ∧ Cond.initialized y.cls ∈ zT ∧ Cond.code y bytes mL ret ∈ zT) (hrm : rm.cells = 0 ∧ rm.slots = 0) (hna : As.length = na)
    (hd : y.cls ≠ "java/lang/invoke/MethodHandle" ∧ y.cls ≠ "java/lang/invoke/VarHandle" ∧ (parseMethodDescriptor y.desc).map (fun d => d.parameters.length) = some na) (hR : rm.frames + 1 ≤ Rm.frames ∧ 8 + (mL + 11) + rm.locals ≤ Rm.locals) (hk : k < n) (he : K k (I k) (R k) (J k) = .inr (ci, fs)) (hc : cl[ci]? = some (C, T, N)) (hK : va_K D cl tys s) (hP : va_P D cl (zw n q K I R J) H) (hD : va_D A (zw n q K I R J)) (hS : va_S A H0 H locs) (hA : ∀ a, H0.size ≤ a → A a) (hsz : ls.size = nL) (hst : st0 = As.reverse ++ .ref (q k) :: rest) (hW : (rest.map fun v => v.category).sum ≤ 8) (hf : cells + 0 ≤ Rm.cells ∧ slots + 0 ≤ Rm.slots) (hdg : decode cc pc = .ok (.invokevirtual index, 3))
    (kk : ∀ (I1 R1 : Nat → Nat → Int32) (J1 : Nat → Nat → Int64) (H1 : Heap) (locs1 : List Loc), post (I1, R1, J1) → va_P D cl (zw n q K I1 R1 J1) H1 → va_D A (zw n q K I1 R1 J1) → va_S A H0 H1 locs1 → H.size ≤ H1.size → (∀ a : Nat, a < H.size → ¬ zA n q H.size a → H1[a]? = H[a]?) → W p l e Rm s m args below meth c H1 locs1 cells slots Q (F0 m (pc + 3) ls rest)) : W p l e Rm s m args below meth c H locs cells slots Q (F0 m pc ls st0) := by
  subst hst
  obtain ⟨rf, rc, rs, rl⟩ := rm
  obtain ⟨h1, h2⟩ := hrm
  cases h1
  cases h2
  exact z_runv (va_runV (As := As) (rest := rest) ⟨hx, hb, hml, hown, ht⟩ (hM H.size) (z_cwV na ht hl hm hd hR) (z_preV hK hP hD hk he hc) rfl hna hsz rfl (lv_room hW) hdg hf) hS (zA_of hD hS hA) kk
theorem z_callVl {post : Int64 → zU → Prop} (hx : p.tables.exec = Jvm.exec) (hb : c.code = cc) (hml : c.maxLocals = nL) (hown : s.vm.findClass own = some m.cls) (ht : ∀ w ∈ zT, w.before args s = true) (hM : zMl l D cl tys n q K y bytes mL ret rm (.ref (q k) :: As) (I, R, J) post) (hl : Cond.methodLink own index y ∈ zT) (hm : Cond.instanceMethod y ∈ zT ∧ Cond.selects C y y ∈ zT ∧ Cond.initialized y.cls ∈ zT ∧ Cond.code y bytes mL ret ∈ zT) (hrm : rm.cells = 0 ∧ rm.slots = 0) (hna : As.length = na)
    (hd : y.cls ≠ "java/lang/invoke/MethodHandle" ∧ y.cls ≠ "java/lang/invoke/VarHandle" ∧ (parseMethodDescriptor y.desc).map (fun d => d.parameters.length) = some na) (hR : rm.frames + 1 ≤ Rm.frames ∧ 8 + (mL + 11) + rm.locals ≤ Rm.locals) (hk : k < n) (he : K k (I k) (R k) (J k) = .inr (ci, fs)) (hc : cl[ci]? = some (C, T, N)) (hK : va_K D cl tys s) (hP : va_P D cl (zw n q K I R J) H) (hD : va_D A (zw n q K I R J)) (hS : va_S A H0 H locs) (hA : ∀ a, H0.size ≤ a → A a) (hsz : ls.size = nL) (hst : st0 = As.reverse ++ .ref (q k) :: rest) (hW : (rest.map fun v => v.category).sum ≤ 8) (hf : cells + 0 ≤ Rm.cells ∧ slots + 0 ≤ Rm.slots) (hdg : decode cc pc = .ok (.invokevirtual index, 3))
    (kk : ∀ (r : Int64) (I1 R1 : Nat → Nat → Int32) (J1 : Nat → Nat → Int64) (H1 : Heap) (locs1 : List Loc), post r (I1, R1, J1) → va_P D cl (zw n q K I1 R1 J1) H1 → va_D A (zw n q K I1 R1 J1) → va_S A H0 H1 locs1 → H.size ≤ H1.size → (∀ a : Nat, a < H.size → ¬ zA n q H.size a → H1[a]? = H[a]?) → W p l e Rm s m args below meth c H1 locs1 cells slots Q (F0 m (pc + 3) ls (.long r :: rest))) : W p l e Rm s m args below meth c H locs cells slots Q (F0 m pc ls st0) := by
  subst hst
  obtain ⟨rf, rc, rs, rl⟩ := rm
  obtain ⟨h1, h2⟩ := hrm
  cases h1
  cases h2
  exact z_runl (va_runV (As := As) (rest := rest) ⟨hx, hb, hml, hown, ht⟩ (hM H.size) (z_cwV na ht hl hm hd hR) (z_preV hK hP hD hk he hc) rfl hna hsz rfl (lv_room hW) hdg hf) hS (zA_of hD hS hA) kk
theorem z_callSi {post : Int32 → zU → Prop} (hx : p.tables.exec = Jvm.exec) (hb : c.code = cc) (hml : c.maxLocals = nL) (hown : s.vm.findClass own = some m.cls) (ht : ∀ w ∈ zT, w.before args s = true) (hM : zMi l D cl tys n q K y bytes mL ret rm As (I, R, J) post) (hl : Cond.methodLink own index y ∈ zT) (hm : Cond.static y ∈ zT ∧ Cond.initialized y.cls ∈ zT ∧ Cond.code y bytes mL ret ∈ zT) (hrm : rm.cells = 0 ∧ rm.slots = 0) (hna : As.length = na)
    (hd : y.cls ≠ "java/lang/invoke/MethodHandle" ∧ y.cls ≠ "java/lang/invoke/VarHandle" ∧ (parseMethodDescriptor y.desc).map (fun d => d.parameters.length) = some na) (hR : rm.frames + 1 ≤ Rm.frames ∧ 8 + (mL + 11) + rm.locals ≤ Rm.locals) (hK : va_K D cl tys s) (hP : va_P D cl (zw n q K I R J) H) (hD : va_D A (zw n q K I R J)) (hS : va_S A H0 H locs) (hA : ∀ a, H0.size ≤ a → A a) (hsz : ls.size = nL) (hst : st0 = As.reverse ++ rest) (hW : (rest.map fun v => v.category).sum ≤ 8) (hf : cells + 0 ≤ Rm.cells ∧ slots + 0 ≤ Rm.slots) (hdg : decode cc pc = .ok (.invokestatic index, 3))
    (kk : ∀ (r : Int32) (I1 R1 : Nat → Nat → Int32) (J1 : Nat → Nat → Int64) (H1 : Heap) (locs1 : List Loc), post r (I1, R1, J1) → va_P D cl (zw n q K I1 R1 J1) H1 → va_D A (zw n q K I1 R1 J1) → va_S A H0 H1 locs1 → H.size ≤ H1.size → (∀ a : Nat, a < H.size → ¬ zA n q H.size a → H1[a]? = H[a]?) → W p l e Rm s m args below meth c H1 locs1 cells slots Q (F0 m (pc + 3) ls (.int r :: rest))) : W p l e Rm s m args below meth c H locs cells slots Q (F0 m pc ls st0) := by
  subst hst
  obtain ⟨rf, rc, rs, rl⟩ := rm
  obtain ⟨h1, h2⟩ := hrm
  cases h1
  cases h2
  exact z_runi (va_runS (As := As) (rest := rest) ⟨hx, hb, hml, hown, ht⟩ (hM H.size) (z_cwS na ht hl hm hd hR) (z_preS hK hP hD) rfl hna hsz rfl (lv_room hW) hdg hf) hS (zA_of hD hS hA) kk
theorem z_callSl {post : Int64 → zU → Prop} (hx : p.tables.exec = Jvm.exec) (hb : c.code = cc) (hml : c.maxLocals = nL) (hown : s.vm.findClass own = some m.cls) (ht : ∀ w ∈ zT, w.before args s = true) (hM : zMl l D cl tys n q K y bytes mL ret rm As (I, R, J) post) (hl : Cond.methodLink own index y ∈ zT) (hm : Cond.static y ∈ zT ∧ Cond.initialized y.cls ∈ zT ∧ Cond.code y bytes mL ret ∈ zT) (hrm : rm.cells = 0 ∧ rm.slots = 0) (hna : As.length = na)
    (hd : y.cls ≠ "java/lang/invoke/MethodHandle" ∧ y.cls ≠ "java/lang/invoke/VarHandle" ∧ (parseMethodDescriptor y.desc).map (fun d => d.parameters.length) = some na) (hR : rm.frames + 1 ≤ Rm.frames ∧ 8 + (mL + 11) + rm.locals ≤ Rm.locals) (hK : va_K D cl tys s) (hP : va_P D cl (zw n q K I R J) H) (hD : va_D A (zw n q K I R J)) (hS : va_S A H0 H locs) (hA : ∀ a, H0.size ≤ a → A a) (hsz : ls.size = nL) (hst : st0 = As.reverse ++ rest) (hW : (rest.map fun v => v.category).sum ≤ 8) (hf : cells + 0 ≤ Rm.cells ∧ slots + 0 ≤ Rm.slots) (hdg : decode cc pc = .ok (.invokestatic index, 3))
    (kk : ∀ (r : Int64) (I1 R1 : Nat → Nat → Int32) (J1 : Nat → Nat → Int64) (H1 : Heap) (locs1 : List Loc), post r (I1, R1, J1) → va_P D cl (zw n q K I1 R1 J1) H1 → va_D A (zw n q K I1 R1 J1) → va_S A H0 H1 locs1 → H.size ≤ H1.size → (∀ a : Nat, a < H.size → ¬ zA n q H.size a → H1[a]? = H[a]?) → W p l e Rm s m args below meth c H1 locs1 cells slots Q (F0 m (pc + 3) ls (.long r :: rest))) : W p l e Rm s m args below meth c H locs cells slots Q (F0 m pc ls st0) := by
  subst hst
  obtain ⟨rf, rc, rs, rl⟩ := rm
  obtain ⟨h1, h2⟩ := hrm
  cases h1
  cases h2
  exact z_runl (va_runS (As := As) (rest := rest) ⟨hx, hb, hml, hown, ht⟩ (hM H.size) (z_cwS na ht hl hm hd hR) (z_preS hK hP hD) rfl hna hsz rfl (lv_room hW) hdg hf) hS (zA_of hD hS hA) kk
theorem z_callSv {post : zU → Prop} (hx : p.tables.exec = Jvm.exec) (hb : c.code = cc) (hml : c.maxLocals = nL) (hown : s.vm.findClass own = some m.cls) (ht : ∀ w ∈ zT, w.before args s = true) (hM : zMv l D cl tys n q K y bytes mL ret rm As (I, R, J) post) (hl : Cond.methodLink own index y ∈ zT) (hm : Cond.static y ∈ zT ∧ Cond.initialized y.cls ∈ zT ∧ Cond.code y bytes mL ret ∈ zT) (hrm : rm.cells = 0 ∧ rm.slots = 0) (hna : As.length = na)
    (hd : y.cls ≠ "java/lang/invoke/MethodHandle" ∧ y.cls ≠ "java/lang/invoke/VarHandle" ∧ (parseMethodDescriptor y.desc).map (fun d => d.parameters.length) = some na) (hR : rm.frames + 1 ≤ Rm.frames ∧ 8 + (mL + 11) + rm.locals ≤ Rm.locals) (hK : va_K D cl tys s) (hP : va_P D cl (zw n q K I R J) H) (hD : va_D A (zw n q K I R J)) (hS : va_S A H0 H locs) (hA : ∀ a, H0.size ≤ a → A a) (hsz : ls.size = nL) (hst : st0 = As.reverse ++ rest) (hW : (rest.map fun v => v.category).sum ≤ 8) (hf : cells + 0 ≤ Rm.cells ∧ slots + 0 ≤ Rm.slots) (hdg : decode cc pc = .ok (.invokestatic index, 3))
    (kk : ∀ (I1 R1 : Nat → Nat → Int32) (J1 : Nat → Nat → Int64) (H1 : Heap) (locs1 : List Loc), post (I1, R1, J1) → va_P D cl (zw n q K I1 R1 J1) H1 → va_D A (zw n q K I1 R1 J1) → va_S A H0 H1 locs1 → H.size ≤ H1.size → (∀ a : Nat, a < H.size → ¬ zA n q H.size a → H1[a]? = H[a]?) → W p l e Rm s m args below meth c H1 locs1 cells slots Q (F0 m (pc + 3) ls rest)) : W p l e Rm s m args below meth c H locs cells slots Q (F0 m pc ls st0) := by
  subst hst
  obtain ⟨rf, rc, rs, rl⟩ := rm
  obtain ⟨h1, h2⟩ := hrm
  cases h1
  cases h2
  exact z_runv (va_runS (As := As) (rest := rest) ⟨hx, hb, hml, hown, ht⟩ (hM H.size) (z_cwS na ht hl hm hd hR) (z_preS hK hP hD) rfl hna hsz rfl (lv_room hW) hdg hf) hS (zA_of hD hS hA) kk
end ZC
theorem z_ltT {x y : Int32} (h : x < y) : x.toInt < y.toInt := Int32.lt_iff_toInt_lt.mp h
theorem z_ltF {x y : Int32} (h : ¬ x < y) : y.toInt ≤ x.toInt := Int.not_lt.mp (fun g => h (Int32.lt_iff_toInt_lt.mpr g))
theorem z_leT {x y : Int32} (h : x ≤ y) : x.toInt ≤ y.toInt := Int32.le_iff_toInt_le.mp h
theorem z_leF {x y : Int32} (h : ¬ x ≤ y) : y.toInt < x.toInt := Int.not_le.mp (fun g => h (Int32.le_iff_toInt_le.mpr g))
theorem z_eqT {x y : Int32} (h : x = y) : x.toInt = y.toInt := congrArg Int32.toInt h
theorem z_eqF {x y : Int32} (h : ¬ x = y) : x.toInt ≠ y.toInt := fun g => h (Int32.toInt_inj.mp g)
theorem z_lltT {x y : Int64} (h : x < y) : x.toInt < y.toInt := Int64.lt_iff_toInt_lt.mp h
theorem z_lltF {x y : Int64} (h : ¬ x < y) : y.toInt ≤ x.toInt := Int.not_lt.mp (fun g => h (Int64.lt_iff_toInt_lt.mpr g))
theorem z_i2l (x : Int32) : x.toInt64.toInt = x.toInt := Int32.toInt_toInt64 x
theorem z_nI (n : Nat) (h : n < 2 ^ 31) : (nI n).toInt = (n : Int) := nI_toInt h
theorem z_of {x : Int32} (h0 : 0 ≤ x.toInt) {n : Nat} (h : x.toInt = n) : x = nI n := by
  apply Int32.toInt_inj.mp
  have : n < 2 ^ 31 := by
    have := Int32.toInt_lt x
    omega
  rw [nI_toInt this, h]
theorem z_ex {x : Int32} {N : Nat} (h0 : 0 ≤ x.toInt) (h : x.toInt < N) : ∃ n : Nat, n < N ∧ x = nI n := ⟨x.toInt.toNat, by omega, z_of h0 (by omega)⟩
theorem z_lleT {x y : Int64} (h : x ≤ y) : x.toInt ≤ y.toInt := Int64.le_iff_toInt_le.mp h
theorem z_lleF {x y : Int64} (h : ¬ x ≤ y) : y.toInt < x.toInt := Int.not_le.mp (fun g => h (Int64.le_iff_toInt_le.mpr g))
theorem z_leqT {x y : Int64} (h : x = y) : x.toInt = y.toInt := congrArg Int64.toInt h
theorem z_leqF {x y : Int64} (h : ¬ x = y) : x.toInt ≠ y.toInt := fun g => h (Int64.toInt_inj.mp g)
/-- another world's cells, when a method has worked on this one's alone -/
theorem z_frame {D : va_G} {cl : List vw_C} {n n' : Nat} {q q' : Nat → Nat} {K' : zKd} {I' R' : Nat → Nat → Int32} {J' : Nat → Nat → Int64} {H H1 : Heap} (hP : va_P D cl (zw n' q' K' I' R' J') H) (hdis : ∀ i, i < n → ∀ j, j < n' → q i ≠ q' j) (hk : ∀ a : Nat, a < H.size → ¬ zA n q H.size a → H1[a]? = H[a]?) : va_P D cl (zw n' q' K' I' R' J') H1 := by
  intro k x hx
  have h := hP k x hx
  obtain ⟨h1, h2⟩ := zw_inv hx
  have hlt := h.lt
  refine h.kept (hk _ hlt (fun g => ?_))
  rcases g with ⟨i, hi, e⟩ | g
  · rw [h2] at e
    exact hdis i hi k h1 e
  · exact absurd hlt (Nat.not_lt.mpr g)
end
section
def RX0 : String := "ReceiptLeft$Acts"
def TX0 : u_T := fun k => match k with
  | 0 => ("ReceiptLeft$Acts", "count", "I", false)
  | _ => ("ReceiptLeft$Acts", "told", "[I", true)
def tyX0 : Nat → FieldType := fun k => match k with
  | 0 => .int
  | _ => .array .int
theorem nmX0 : ∀ a, a < 2 → ∀ b, b < 2 → a ≠ b → (TX0 a).2.1 ≠ (TX0 b).2.1 := by decide +kernel
theorem tyX0_ok : ∀ k, k < 2 → parseFieldDescriptor (TX0 k).2.2.1 = some (tyX0 k) := by decide +kernel
theorem ziX0 : ∀ w ∈ u_ws RX0 TX0 2, w ∈ zT := fun w h => zT_in ((by decide +kernel : ∀ w ∈ u_ws RX0 TX0 2, w ∈ lw_tbl) w h) ((by decide +kernel : ∀ w ∈ u_ws RX0 TX0 2, goodWord w = true) w h)
def RX1 : String := "ReceiptLeft$Audit"
def TX1 : u_T := fun k => match k with
  | 0 => ("ReceiptLeft$Audit", "wrong", "I", false)
  | 1 => ("ReceiptLeft$Audit", "first", "I", false)
  | _ => ("ReceiptLeft$Audit", "argued", "I", false)
def tyX1 : Nat → FieldType := fun k => match k with
  | 0 => .int
  | 1 => .int
  | _ => .int
theorem nmX1 : ∀ a, a < 3 → ∀ b, b < 3 → a ≠ b → (TX1 a).2.1 ≠ (TX1 b).2.1 := by decide +kernel
theorem tyX1_ok : ∀ k, k < 3 → parseFieldDescriptor (TX1 k).2.2.1 = some (tyX1 k) := by decide +kernel
theorem ziX1 : ∀ w ∈ u_ws RX1 TX1 3, w ∈ zT := fun w h => zT_in ((by decide +kernel : ∀ w ∈ u_ws RX1 TX1 3, w ∈ lw_tbl) w h) ((by decide +kernel : ∀ w ∈ u_ws RX1 TX1 3, goodWord w = true) w h)
def RX2 : String := "ReceiptLeft$City"
def TX2 : u_T := fun k => match k with
  | 0 => ("ReceiptLeft$City", "lines", "I", false)
  | 1 => ("ReceiptLeft$City", "eats", "I", false)
  | 2 => ("ReceiptLeft$City", "carry", "I", false)
  | 3 => ("ReceiptLeft$City", "odds", "I", false)
  | 4 => ("ReceiptLeft$City", "houses", "I", false)
  | 5 => ("ReceiptLeft$City", "things", "I", false)
  | 6 => ("ReceiptLeft$City", "locked", "I", false)
  | 7 => ("ReceiptLeft$City", "purse", "[I", true)
  | 8 => ("ReceiptLeft$City", "at", "[I", true)
  | 9 => ("ReceiptLeft$City", "worth", "[I", true)
  | _ => ("ReceiptLeft$City", "more", "[I", true)
def tyX2 : Nat → FieldType := fun k => match k with
  | 0 => .int
  | 1 => .int
  | 2 => .int
  | 3 => .int
  | 4 => .int
  | 5 => .int
  | 6 => .int
  | 7 => .array .int
  | 8 => .array .int
  | 9 => .array .int
  | _ => .array .int
theorem nmX2 : ∀ a, a < 11 → ∀ b, b < 11 → a ≠ b → (TX2 a).2.1 ≠ (TX2 b).2.1 := by decide +kernel
theorem tyX2_ok : ∀ k, k < 11 → parseFieldDescriptor (TX2 k).2.2.1 = some (tyX2 k) := by decide +kernel
theorem ziX2 : ∀ w ∈ u_ws RX2 TX2 11, w ∈ zT := fun w h => zT_in ((by decide +kernel : ∀ w ∈ u_ws RX2 TX2 11, w ∈ lw_tbl) w h) ((by decide +kernel : ∀ w ∈ u_ws RX2 TX2 11, goodWord w = true) w h)
def RX3 : String := "ReceiptLeft$Deal"
def TX3 : u_T := fun k => match k with
  | _ => ("ReceiptLeft$Deal", "best", "[I", true)
def tyX3 : Nat → FieldType := fun k => match k with
  | _ => .array .int
theorem nmX3 : ∀ a, a < 1 → ∀ b, b < 1 → a ≠ b → (TX3 a).2.1 ≠ (TX3 b).2.1 := by decide +kernel
theorem tyX3_ok : ∀ k, k < 1 → parseFieldDescriptor (TX3 k).2.2.1 = some (tyX3 k) := by decide +kernel
theorem ziX3 : ∀ w ∈ u_ws RX3 TX3 1, w ∈ zT := fun w h => zT_in ((by decide +kernel : ∀ w ∈ u_ws RX3 TX3 1, w ∈ lw_tbl) w h) ((by decide +kernel : ∀ w ∈ u_ws RX3 TX3 1, goodWord w = true) w h)
def RX4 : String := "ReceiptLeft$Dice"
def TX4 : u_T := fun k => match k with
  | _ => ("ReceiptLeft$Dice", "x", "J", false)
def tyX4 : Nat → FieldType := fun k => match k with
  | _ => .long
theorem nmX4 : ∀ a, a < 1 → ∀ b, b < 1 → a ≠ b → (TX4 a).2.1 ≠ (TX4 b).2.1 := by decide +kernel
theorem tyX4_ok : ∀ k, k < 1 → parseFieldDescriptor (TX4 k).2.2.1 = some (tyX4 k) := by decide +kernel
theorem ziX4 : ∀ w ∈ u_ws RX4 TX4 1, w ∈ zT := fun w h => zT_in ((by decide +kernel : ∀ w ∈ u_ws RX4 TX4 1, w ∈ lw_tbl) w h) ((by decide +kernel : ∀ w ∈ u_ws RX4 TX4 1, goodWord w = true) w h)
def RX5 : String := "ReceiptLeft$Image"
def TX5 : u_T := fun k => match k with
  | 0 => ("ReceiptLeft$Image", "kept", "Z", false)
  | 1 => ("ReceiptLeft$Image", "city", "LReceiptLeft$City;", true)
  | _ => ("ReceiptLeft$Image", "acts", "LReceiptLeft$Acts;", true)
def tyX5 : Nat → FieldType := fun k => match k with
  | 0 => .boolean
  | 1 => .object "ReceiptLeft$City"
  | _ => .object "ReceiptLeft$Acts"
theorem nmX5 : ∀ a, a < 3 → ∀ b, b < 3 → a ≠ b → (TX5 a).2.1 ≠ (TX5 b).2.1 := by decide +kernel
theorem tyX5_ok : ∀ k, k < 3 → parseFieldDescriptor (TX5 k).2.2.1 = some (tyX5 k) := by decide +kernel
theorem ziX5 : ∀ w ∈ u_ws RX5 TX5 3, w ∈ zT := fun w h => zT_in ((by decide +kernel : ∀ w ∈ u_ws RX5 TX5 3, w ∈ lw_tbl) w h) ((by decide +kernel : ∀ w ∈ u_ws RX5 TX5 3, goodWord w = true) w h)
def RX6 : String := "ReceiptLeft$Row"
def TX6 : u_T := fun k => match k with
  | 0 => ("ReceiptLeft$Row", "width", "I", false)
  | 1 => ("ReceiptLeft$Row", "length", "I", false)
  | _ => ("ReceiptLeft$Row", "numbers", "[J", true)
def tyX6 : Nat → FieldType := fun k => match k with
  | 0 => .int
  | 1 => .int
  | _ => .array .long
theorem nmX6 : ∀ a, a < 3 → ∀ b, b < 3 → a ≠ b → (TX6 a).2.1 ≠ (TX6 b).2.1 := by decide +kernel
theorem tyX6_ok : ∀ k, k < 3 → parseFieldDescriptor (TX6 k).2.2.1 = some (tyX6 k) := by decide +kernel
theorem ziX6 : ∀ w ∈ u_ws RX6 TX6 3, w ∈ zT := fun w h => zT_in ((by decide +kernel : ∀ w ∈ u_ws RX6 TX6 3, w ∈ lw_tbl) w h) ((by decide +kernel : ∀ w ∈ u_ws RX6 TX6 3, goodWord w = true) w h)
def RX7 : String := "ReceiptLeft$Tape"
def TX7 : u_T := fun k => match k with
  | 0 => ("ReceiptLeft$Tape", "bytes", "[B", true)
  | 1 => ("ReceiptLeft$Tape", "length", "I", false)
  | 2 => ("ReceiptLeft$Tape", "faultKind", "I", false)
  | 3 => ("ReceiptLeft$Tape", "faultPlace", "I", false)
  | 4 => ("ReceiptLeft$Tape", "token", "I", false)
  | 5 => ("ReceiptLeft$Tape", "start", "I", false)
  | _ => ("ReceiptLeft$Tape", "behind", "I", false)
def tyX7 : Nat → FieldType := fun k => match k with
  | 0 => .array .byte
  | 1 => .int
  | 2 => .int
  | 3 => .int
  | 4 => .int
  | 5 => .int
  | _ => .int
theorem nmX7 : ∀ a, a < 7 → ∀ b, b < 7 → a ≠ b → (TX7 a).2.1 ≠ (TX7 b).2.1 := by decide +kernel
theorem tyX7_ok : ∀ k, k < 7 → parseFieldDescriptor (TX7 k).2.2.1 = some (tyX7 k) := by decide +kernel
theorem ziX7 : ∀ w ∈ u_ws RX7 TX7 7, w ∈ zT := fun w h => zT_in ((by decide +kernel : ∀ w ∈ u_ws RX7 TX7 7, w ∈ lw_tbl) w h) ((by decide +kernel : ∀ w ∈ u_ws RX7 TX7 7, goodWord w = true) w h)
def RX8 : String := "ReceiptLeft$Titles"
def TX8 : u_T := fun k => match k with
  | 0 => ("ReceiptLeft$Titles", "length", "I", false)
  | 1 => ("ReceiptLeft$Titles", "chain", "[I", true)
  | 2 => ("ReceiptLeft$Titles", "ring", "Z", false)
  | 3 => ("ReceiptLeft$Titles", "edges", "[I", true)
  | 4 => ("ReceiptLeft$Titles", "next", "[I", true)
  | _ => ("ReceiptLeft$Titles", "most", "I", false)
def tyX8 : Nat → FieldType := fun k => match k with
  | 0 => .int
  | 1 => .array .int
  | 2 => .boolean
  | 3 => .array .int
  | 4 => .array .int
  | _ => .int
theorem nmX8 : ∀ a, a < 6 → ∀ b, b < 6 → a ≠ b → (TX8 a).2.1 ≠ (TX8 b).2.1 := by decide +kernel
theorem tyX8_ok : ∀ k, k < 6 → parseFieldDescriptor (TX8 k).2.2.1 = some (tyX8 k) := by decide +kernel
theorem ziX8 : ∀ w ∈ u_ws RX8 TX8 6, w ∈ zT := fun w h => zT_in ((by decide +kernel : ∀ w ∈ u_ws RX8 TX8 6, w ∈ lw_tbl) w h) ((by decide +kernel : ∀ w ∈ u_ws RX8 TX8 6, goodWord w = true) w h)
def RX9 : String := "ReceiptLeft$World"
def TX9 : u_T := fun k => match k with
  | 0 => ("ReceiptLeft$World", "city", "LReceiptLeft$City;", true)
  | 1 => ("ReceiptLeft$World", "day", "I", false)
  | 2 => ("ReceiptLeft$World", "papers", "I", false)
  | 3 => ("ReceiptLeft$World", "locked", "I", false)
  | 4 => ("ReceiptLeft$World", "purses", "[I", true)
  | 5 => ("ReceiptLeft$World", "place", "[I", true)
  | 6 => ("ReceiptLeft$World", "moves", "[I", true)
  | 7 => ("ReceiptLeft$World", "thief", "[I", true)
  | 8 => ("ReceiptLeft$World", "stolen", "[I", true)
  | 9 => ("ReceiptLeft$World", "holder", "[I", true)
  | 10 => ("ReceiptLeft$World", "dueDay", "[I", true)
  | 11 => ("ReceiptLeft$World", "how", "[I", true)
  | 12 => ("ReceiptLeft$World", "stations", "[I", true)
  | 13 => ("ReceiptLeft$World", "brought", "[I", true)
  | _ => ("ReceiptLeft$World", "lowest", "[I", true)
def tyX9 : Nat → FieldType := fun k => match k with
  | 0 => .object "ReceiptLeft$City"
  | 1 => .int
  | 2 => .int
  | 3 => .int
  | 4 => .array .int
  | 5 => .array .int
  | 6 => .array .int
  | 7 => .array .int
  | 8 => .array .int
  | 9 => .array .int
  | 10 => .array .int
  | 11 => .array .int
  | 12 => .array .int
  | 13 => .array .int
  | _ => .array .int
theorem nmX9 : ∀ a, a < 15 → ∀ b, b < 15 → a ≠ b → (TX9 a).2.1 ≠ (TX9 b).2.1 := by decide +kernel
theorem tyX9_ok : ∀ k, k < 15 → parseFieldDescriptor (TX9 k).2.2.1 = some (tyX9 k) := by decide +kernel
theorem ziX9 : ∀ w ∈ u_ws RX9 TX9 15, w ∈ zT := fun w h => zT_in ((by decide +kernel : ∀ w ∈ u_ws RX9 TX9 15, w ∈ lw_tbl) w h) ((by decide +kernel : ∀ w ∈ u_ws RX9 TX9 15, goodWord w = true) w h)
def RX10 : String := "ReceiptLeft"
def TX10 : u_T := fun k => match k with
  | 0 => ("ReceiptLeft", "tape", "LReceiptLeft$Tape;", true)
  | 1 => ("ReceiptLeft", "city", "LReceiptLeft$City;", true)
  | 2 => ("ReceiptLeft", "draft", "LReceiptLeft$City;", true)
  | 3 => ("ReceiptLeft", "acts", "LReceiptLeft$Acts;", true)
  | 4 => ("ReceiptLeft", "world", "LReceiptLeft$World;", true)
  | 5 => ("ReceiptLeft", "trial", "LReceiptLeft$World;", true)
  | 6 => ("ReceiptLeft", "titles", "LReceiptLeft$Titles;", true)
  | 7 => ("ReceiptLeft", "deal", "LReceiptLeft$Deal;", true)
  | 8 => ("ReceiptLeft", "dice", "LReceiptLeft$Dice;", true)
  | 9 => ("ReceiptLeft", "audit", "LReceiptLeft$Audit;", true)
  | 10 => ("ReceiptLeft", "images", "[LReceiptLeft$Image;", true)
  | _ => ("ReceiptLeft", "slots", "[LReceiptLeft$Row;", true)
def tyX10 : Nat → FieldType := fun k => match k with
  | 0 => .object "ReceiptLeft$Tape"
  | 1 => .object "ReceiptLeft$City"
  | 2 => .object "ReceiptLeft$City"
  | 3 => .object "ReceiptLeft$Acts"
  | 4 => .object "ReceiptLeft$World"
  | 5 => .object "ReceiptLeft$World"
  | 6 => .object "ReceiptLeft$Titles"
  | 7 => .object "ReceiptLeft$Deal"
  | 8 => .object "ReceiptLeft$Dice"
  | 9 => .object "ReceiptLeft$Audit"
  | 10 => .array (.object "ReceiptLeft$Image")
  | _ => .array (.object "ReceiptLeft$Row")
theorem nmX10 : ∀ a, a < 12 → ∀ b, b < 12 → a ≠ b → (TX10 a).2.1 ≠ (TX10 b).2.1 := by decide +kernel
theorem tyX10_ok : ∀ k, k < 12 → parseFieldDescriptor (TX10 k).2.2.1 = some (tyX10 k) := by decide +kernel
theorem ziX10 : ∀ w ∈ u_ws RX10 TX10 12, w ∈ zT := fun w h => zT_in ((by decide +kernel : ∀ w ∈ u_ws RX10 TX10 12, w ∈ lw_tbl) w h) ((by decide +kernel : ∀ w ∈ u_ws RX10 TX10 12, goodWord w = true) w h)
def RX11 : String := "ReceiptLeftModel"
def TX11 : u_T := fun k => match k with
  | 0 => ("ReceiptLeftModel", "thrown", "I", false)
  | 1 => ("ReceiptLeftModel", "world", "[I", true)
  | 2 => ("ReceiptLeftModel", "images", "[I", true)
  | 3 => ("ReceiptLeftModel", "hasImage", "[Z", true)
  | 4 => ("ReceiptLeftModel", "tape", "[B", true)
  | 5 => ("ReceiptLeftModel", "taped", "I", false)
  | 6 => ("ReceiptLeftModel", "five", "[I", true)
  | 7 => ("ReceiptLeftModel", "size", "I", false)
  | 8 => ("ReceiptLeftModel", "at", "I", false)
  | 9 => ("ReceiptLeftModel", "from", "I", false)
  | 10 => ("ReceiptLeftModel", "token", "I", false)
  | 11 => ("ReceiptLeftModel", "value", "I", false)
  | 12 => ("ReceiptLeftModel", "faultKind", "I", false)
  | 13 => ("ReceiptLeftModel", "faultPlace", "I", false)
  | 14 => ("ReceiptLeftModel", "fresh", "[I", true)
  | 15 => ("ReceiptLeftModel", "purse", "[I", true)
  | 16 => ("ReceiptLeftModel", "locked", "[I", true)
  | 17 => ("ReceiptLeftModel", "place", "[I", true)
  | 18 => ("ReceiptLeftModel", "thief", "[I", true)
  | 19 => ("ReceiptLeftModel", "stolen", "[I", true)
  | 20 => ("ReceiptLeftModel", "holder", "[I", true)
  | 21 => ("ReceiptLeftModel", "dueDay", "[I", true)
  | 22 => ("ReceiptLeftModel", "state", "[I", true)
  | 23 => ("ReceiptLeftModel", "brought", "[I", true)
  | 24 => ("ReceiptLeftModel", "trail", "[I", true)
  | 25 => ("ReceiptLeftModel", "trailLong", "[I", true)
  | 26 => ("ReceiptLeftModel", "papers", "I", false)
  | 27 => ("ReceiptLeftModel", "day", "I", false)
  | 28 => ("ReceiptLeftModel", "leastPurse", "I", false)
  | 29 => ("ReceiptLeftModel", "watched", "I", false)
  | 30 => ("ReceiptLeftModel", "chain", "[I", true)
  | 31 => ("ReceiptLeftModel", "chainLong", "I", false)
  | 32 => ("ReceiptLeftModel", "keeps", "[I", true)
  | 33 => ("ReceiptLeftModel", "hitHouse", "I", false)
  | 34 => ("ReceiptLeftModel", "planSet", "I", false)
  | 35 => ("ReceiptLeftModel", "dealt", "[I", true)
  | 36 => ("ReceiptLeftModel", "falseMany", "I", false)
  | 37 => ("ReceiptLeftModel", "falseFirst", "I", false)
  | 38 => ("ReceiptLeftModel", "falseWorth", "I", false)
  | 39 => ("ReceiptLeftModel", "drawX", "J", false)
  | 40 => ("ReceiptLeftModel", "many", "[I", true)
  | 41 => ("ReceiptLeftModel", "width", "[I", true)
  | 42 => ("ReceiptLeftModel", "numbers", "[J", true)
  | _ => ("ReceiptLeftModel", "moving", "[J", true)
def tyX11 : Nat → FieldType := fun k => match k with
  | 0 => .int
  | 1 => .array .int
  | 2 => .array .int
  | 3 => .array .boolean
  | 4 => .array .byte
  | 5 => .int
  | 6 => .array .int
  | 7 => .int
  | 8 => .int
  | 9 => .int
  | 10 => .int
  | 11 => .int
  | 12 => .int
  | 13 => .int
  | 14 => .array .int
  | 15 => .array .int
  | 16 => .array .int
  | 17 => .array .int
  | 18 => .array .int
  | 19 => .array .int
  | 20 => .array .int
  | 21 => .array .int
  | 22 => .array .int
  | 23 => .array .int
  | 24 => .array .int
  | 25 => .array .int
  | 26 => .int
  | 27 => .int
  | 28 => .int
  | 29 => .int
  | 30 => .array .int
  | 31 => .int
  | 32 => .array .int
  | 33 => .int
  | 34 => .int
  | 35 => .array .int
  | 36 => .int
  | 37 => .int
  | 38 => .int
  | 39 => .long
  | 40 => .array .int
  | 41 => .array .int
  | 42 => .array .long
  | _ => .array .long
theorem nmX11 : ∀ a, a < 44 → ∀ b, b < 44 → a ≠ b → (TX11 a).2.1 ≠ (TX11 b).2.1 := by decide +kernel
theorem tyX11_ok : ∀ k, k < 44 → parseFieldDescriptor (TX11 k).2.2.1 = some (tyX11 k) := by decide +kernel
theorem ziX11 : ∀ w ∈ u_ws RX11 TX11 44, w ∈ zT := fun w h => zT_in ((by decide +kernel : ∀ w ∈ u_ws RX11 TX11 44, w ∈ lw_tbl) w h) ((by decide +kernel : ∀ w ∈ u_ws RX11 TX11 44, goodWord w = true) w h)
abbrev vwCl : List vw_C := [(RX0, TX0, 2), (RX1, TX1, 3), (RX2, TX2, 11), (RX3, TX3, 1), (RX4, TX4, 1), (RX5, TX5, 3), (RX6, TX6, 3), (RX7, TX7, 7), (RX8, TX8, 6), (RX9, TX9, 15), (RX10, TX10, 12), (RX11, TX11, 44)]
abbrev cX11_in : ByteArray := prog_13_method_3_code
def yX11_in : MethodName := ⟨"ReceiptLeftModel", "in", "(JJJ)Z"⟩
abbrev cX11_isCity : ByteArray := prog_13_method_8_code
def yX11_isCity : MethodName := ⟨"ReceiptLeftModel", "isCity", "()Z"⟩
abbrev cX11_isHouse : ByteArray := prog_13_method_9_code
def yX11_isHouse : MethodName := ⟨"ReceiptLeftModel", "isHouse", "(J)Z"⟩
abbrev cX11_isThing : ByteArray := prog_13_method_10_code
def yX11_isThing : MethodName := ⟨"ReceiptLeftModel", "isThing", "(J)Z"⟩
abbrev cX11_house : ByteArray := prog_13_method_44_code
def yX11_house : MethodName := ⟨"ReceiptLeftModel", "house", "(II)I"⟩
abbrev cX11_thing : ByteArray := prog_13_method_45_code
def yX11_thing : MethodName := ⟨"ReceiptLeftModel", "thing", "(II)I"⟩
abbrev cX11_value : ByteArray := prog_13_method_46_code
def yX11_value : MethodName := ⟨"ReceiptLeftModel", "value", "(II)I"⟩
abbrev cX11_net : ByteArray := prog_13_method_50_code
def yX11_net : MethodName := ⟨"ReceiptLeftModel", "net", "(I)I"⟩
abbrev cX11_steal : ByteArray := prog_13_method_52_code
def yX11_steal : MethodName := ⟨"ReceiptLeftModel", "steal", "(III)I"⟩
abbrev cX11_lock : ByteArray := prog_13_method_56_code
def yX11_lock : MethodName := ⟨"ReceiptLeftModel", "lock", "(II)I"⟩
abbrev cX11_night : ByteArray := prog_13_method_57_code
def yX11_night : MethodName := ⟨"ReceiptLeftModel", "night", "()I"⟩
abbrev cX11_undo : ByteArray := prog_13_method_58_code
def yX11_undo : MethodName := ⟨"ReceiptLeftModel", "undo", "()I"⟩
abbrev cX11_anew : ByteArray := prog_13_method_59_code
def yX11_anew : MethodName := ⟨"ReceiptLeftModel", "anew", "()I"⟩
abbrev cX11_now : ByteArray := prog_13_method_60_code
def yX11_now : MethodName := ⟨"ReceiptLeftModel", "now", "(I)I"⟩
abbrev cX11_owner : ByteArray := prog_13_method_64_code
def yX11_owner : MethodName := ⟨"ReceiptLeftModel", "owner", "(I)I"⟩
abbrev cX11_chain : ByteArray := prog_13_method_65_code
def yX11_chain : MethodName := ⟨"ReceiptLeftModel", "chain", "(II)I"⟩
abbrev cX11_rings : ByteArray := prog_13_method_66_code
def yX11_rings : MethodName := ⟨"ReceiptLeftModel", "rings", "()I"⟩
abbrev cX11_owns : ByteArray := prog_13_method_67_code
def yX11_owns : MethodName := ⟨"ReceiptLeftModel", "owns", "(I)I"⟩
abbrev cX11_twice : ByteArray := prog_13_method_69_code
def yX11_twice : MethodName := ⟨"ReceiptLeftModel", "twice", "()I"⟩
abbrev cX11_strikes : ByteArray := prog_13_method_74_code
def yX11_strikes : MethodName := ⟨"ReceiptLeftModel", "strikes", "()I"⟩
abbrev cX11_struck : ByteArray := prog_13_method_75_code
def yX11_struck : MethodName := ⟨"ReceiptLeftModel", "struck", "()I"⟩
abbrev cX11_trail : ByteArray := prog_13_method_76_code
def yX11_trail : MethodName := ⟨"ReceiptLeftModel", "trail", "(II)I"⟩
abbrev cX11_went : ByteArray := prog_13_method_77_code
def yX11_went : MethodName := ⟨"ReceiptLeftModel", "went", "(I)I"⟩
abbrev cX11_lies : ByteArray := prog_13_method_79_code
def yX11_lies : MethodName := ⟨"ReceiptLeftModel", "lies", "(I)I"⟩
abbrev cX11_poorest : ByteArray := prog_13_method_80_code
def yX11_poorest : MethodName := ⟨"ReceiptLeftModel", "poorest", "()I"⟩
abbrev cX11_due : ByteArray := prog_13_method_82_code
def yX11_due : MethodName := ⟨"ReceiptLeftModel", "due", "(I)I"⟩
abbrev cX11_monday : ByteArray := prog_13_method_83_code
def yX11_monday : MethodName := ⟨"ReceiptLeftModel", "monday", "()I"⟩
abbrev cX11_lacks : ByteArray := prog_13_method_84_code
def yX11_lacks : MethodName := ⟨"ReceiptLeftModel", "lacks", "(I)I"⟩
abbrev cX11_needs_ : ByteArray := prog_13_method_85_code
def yX11_needs_ : MethodName := ⟨"ReceiptLeftModel", "needs", "(I)I"⟩
abbrev cX11_fails : ByteArray := prog_13_method_89_code
def yX11_fails : MethodName := ⟨"ReceiptLeftModel", "fails", "(I)I"⟩
abbrev cX11_later : ByteArray := prog_13_method_90_code
def yX11_later : MethodName := ⟨"ReceiptLeftModel", "later", "(II)I"⟩
abbrev cX11_purse : ByteArray := prog_13_method_91_code
def yX11_purse : MethodName := ⟨"ReceiptLeftModel", "purse", "(II)I"⟩
abbrev cX11_run : ByteArray := prog_13_method_92_code
def yX11_run : MethodName := ⟨"ReceiptLeftModel", "run", "()I"⟩
abbrev cX11_hit : ByteArray := prog_13_method_94_code
def yX11_hit : MethodName := ⟨"ReceiptLeftModel", "hit", "(I)I"⟩
abbrev cX11_hits : ByteArray := prog_13_method_95_code
def yX11_hits : MethodName := ⟨"ReceiptLeftModel", "hits", "(I)I"⟩
abbrev cX11_plan : ByteArray := prog_13_method_98_code
def yX11_plan : MethodName := ⟨"ReceiptLeftModel", "plan", "(II)I"⟩
abbrev cX11_plans : ByteArray := prog_13_method_99_code
def yX11_plans : MethodName := ⟨"ReceiptLeftModel", "plans", "(III)I"⟩
abbrev cX11_change : ByteArray := prog_13_method_100_code
def yX11_change : MethodName := ⟨"ReceiptLeftModel", "change", "(II)I"⟩
abbrev cX11_deal : ByteArray := prog_13_method_104_code
def yX11_deal : MethodName := ⟨"ReceiptLeftModel", "deal", "()I"⟩
abbrev cX11_deals : ByteArray := prog_13_method_105_code
def yX11_deals : MethodName := ⟨"ReceiptLeftModel", "deals", "(I)I"⟩
abbrev cX11_dear : ByteArray := prog_13_method_113_code
def yX11_dear : MethodName := ⟨"ReceiptLeftModel", "dear", "()I"⟩
abbrev cX11_rate : ByteArray := prog_13_method_128_code
def yX11_rate : MethodName := ⟨"ReceiptLeftModel", "rate", "(II)I"⟩
abbrev cX11_want : ByteArray := prog_13_method_129_code
def yX11_want : MethodName := ⟨"ReceiptLeftModel", "want", "(III)I"⟩
abbrev cX10_hasCity : ByteArray := prog_1_method_63_code
def yX10_hasCity : MethodName := ⟨"ReceiptLeft", "hasCity", "()Z"⟩
abbrev cX10_isHouse : ByteArray := prog_1_method_64_code
def yX10_isHouse : MethodName := ⟨"ReceiptLeft", "isHouse", "(I)Z"⟩
end
section
theorem hw_5_188 : (Jvm.Cond.fieldLink "ReceiptLeftModel" (9 : Nat) "ReceiptLeftModel" "world" "[I") ∈ zT := zT_in (z_c5 (List.mem_of_getElem? (i := 188) (by decide +kernel))) (by decide +kernel)
theorem hw_6_87 : (Jvm.Cond.static ({ cls := "ReceiptLeftModel", name := "in", desc := "(JJJ)Z" } : Jvm.MethodName)) ∈ zT := zT_in (z_c6 (List.mem_of_getElem? (i := 87) (by decide +kernel))) (by decide +kernel)
theorem hw_1_12 : (Jvm.Cond.initialized "ReceiptLeftModel") ∈ zT := zT_in (z_c1 (List.mem_of_getElem? (i := 12) (by decide +kernel))) (by decide +kernel)
theorem hw_6_88 : (Jvm.Cond.code ({ cls := "ReceiptLeftModel", name := "in", desc := "(JJJ)Z" } : Jvm.MethodName) prog_13_method_3_code (6 : Nat) (Option.some Jvm.ClassFile.FieldType.boolean)) ∈ zT := zT_in (z_c6 (List.mem_of_getElem? (i := 88) (by decide +kernel))) (by decide +kernel)
theorem hmX11_in : Cond.static yX11_in ∈ zT ∧ Cond.initialized yX11_in.cls ∈ zT ∧ Cond.code yX11_in cX11_in 6 (some .boolean) ∈ zT := ⟨hw_6_87, hw_1_12, hw_6_88⟩
theorem hw_6_86 : (Jvm.Cond.methodLink "ReceiptLeftModel" (94 : Nat) ({ cls := "ReceiptLeftModel", name := "in", desc := "(JJJ)Z" } : Jvm.MethodName)) ∈ zT := zT_in (z_c6 (List.mem_of_getElem? (i := 86) (by decide +kernel))) (by decide +kernel)
theorem hw_6_178 : (Jvm.Cond.instanceMethod ({ cls := "ReceiptLeftModel", name := "isHouse", desc := "(J)Z" } : Jvm.MethodName)) ∈ zT := zT_in (z_c6 (List.mem_of_getElem? (i := 178) (by decide +kernel))) (by decide +kernel)
theorem hs_6 : Cond.selects "ReceiptLeftModel" ⟨"ReceiptLeftModel", "isHouse", "(J)Z"⟩ ⟨"ReceiptLeftModel", "isHouse", "(J)Z"⟩ ∈ zT := zT_in (z_c0 (by decide +kernel)) (by decide +kernel)
theorem hw_6_179 : (Jvm.Cond.code ({ cls := "ReceiptLeftModel", name := "isHouse", desc := "(J)Z" } : Jvm.MethodName) prog_13_method_9_code (3 : Nat) (Option.some Jvm.ClassFile.FieldType.boolean)) ∈ zT := zT_in (z_c6 (List.mem_of_getElem? (i := 179) (by decide +kernel))) (by decide +kernel)
theorem hmX11_isHouse : Cond.instanceMethod yX11_isHouse ∈ zT ∧ Cond.selects "ReceiptLeftModel" yX11_isHouse yX11_isHouse ∈ zT ∧ Cond.initialized yX11_isHouse.cls ∈ zT ∧ Cond.code yX11_isHouse cX11_isHouse 3 (some .boolean) ∈ zT := ⟨hw_6_178, hs_6, hw_1_12, hw_6_179⟩
theorem hw_6_176 : (Jvm.Cond.methodLink "ReceiptLeftModel" (257 : Nat) ({ cls := "ReceiptLeftModel", name := "isHouse", desc := "(J)Z" } : Jvm.MethodName)) ∈ zT := zT_in (z_c6 (List.mem_of_getElem? (i := 176) (by decide +kernel))) (by decide +kernel)
theorem hw_7_0 : (Jvm.Cond.instanceMethod ({ cls := "ReceiptLeftModel", name := "isThing", desc := "(J)Z" } : Jvm.MethodName)) ∈ zT := zT_in (z_c7 (List.mem_of_getElem? (i := 0) (by decide +kernel))) (by decide +kernel)
theorem hs_10 : Cond.selects "ReceiptLeftModel" ⟨"ReceiptLeftModel", "isThing", "(J)Z"⟩ ⟨"ReceiptLeftModel", "isThing", "(J)Z"⟩ ∈ zT := zT_in (z_c0 (by decide +kernel)) (by decide +kernel)
theorem hw_7_1 : (Jvm.Cond.code ({ cls := "ReceiptLeftModel", name := "isThing", desc := "(J)Z" } : Jvm.MethodName) prog_13_method_10_code (3 : Nat) (Option.some Jvm.ClassFile.FieldType.boolean)) ∈ zT := zT_in (z_c7 (List.mem_of_getElem? (i := 1) (by decide +kernel))) (by decide +kernel)
theorem hmX11_isThing : Cond.instanceMethod yX11_isThing ∈ zT ∧ Cond.selects "ReceiptLeftModel" yX11_isThing yX11_isThing ∈ zT ∧ Cond.initialized yX11_isThing.cls ∈ zT ∧ Cond.code yX11_isThing cX11_isThing 3 (some .boolean) ∈ zT := ⟨hw_7_0, hs_10, hw_1_12, hw_7_1⟩
theorem hw_6_238 : (Jvm.Cond.methodLink "ReceiptLeftModel" (266 : Nat) ({ cls := "ReceiptLeftModel", name := "isThing", desc := "(J)Z" } : Jvm.MethodName)) ∈ zT := zT_in (z_c6 (List.mem_of_getElem? (i := 238) (by decide +kernel))) (by decide +kernel)
theorem hw_7_30 : (Jvm.Cond.constant "ReceiptLeftModel" (275 : Nat) (-100000 : Int32)) ∈ zT := zT_in (z_c7 (List.mem_of_getElem? (i := 30) (by decide +kernel))) (by decide +kernel)
theorem hw_7_77 : (Jvm.Cond.instanceMethod ({ cls := "ReceiptLeftModel", name := "isCity", desc := "()Z" } : Jvm.MethodName)) ∈ zT := zT_in (z_c7 (List.mem_of_getElem? (i := 77) (by decide +kernel))) (by decide +kernel)
theorem hs_15 : Cond.selects "ReceiptLeftModel" ⟨"ReceiptLeftModel", "isCity", "()Z"⟩ ⟨"ReceiptLeftModel", "isCity", "()Z"⟩ ∈ zT := zT_in (z_c0 (by decide +kernel)) (by decide +kernel)
theorem hw_7_78 : (Jvm.Cond.code ({ cls := "ReceiptLeftModel", name := "isCity", desc := "()Z" } : Jvm.MethodName) prog_13_method_8_code (1 : Nat) (Option.some Jvm.ClassFile.FieldType.boolean)) ∈ zT := zT_in (z_c7 (List.mem_of_getElem? (i := 78) (by decide +kernel))) (by decide +kernel)
theorem hmX11_isCity : Cond.instanceMethod yX11_isCity ∈ zT ∧ Cond.selects "ReceiptLeftModel" yX11_isCity yX11_isCity ∈ zT ∧ Cond.initialized yX11_isCity.cls ∈ zT ∧ Cond.code yX11_isCity cX11_isCity 1 (some .boolean) ∈ zT := ⟨hw_7_77, hs_15, hw_1_12, hw_7_78⟩
theorem hw_7_75 : (Jvm.Cond.methodLink "ReceiptLeftModel" (295 : Nat) ({ cls := "ReceiptLeftModel", name := "isCity", desc := "()Z" } : Jvm.MethodName)) ∈ zT := zT_in (z_c7 (List.mem_of_getElem? (i := 75) (by decide +kernel))) (by decide +kernel)
theorem hw_2_94 : (Jvm.Cond.fieldLink "ReceiptLeft" (19 : Nat) "ReceiptLeft" "city" "LReceiptLeft$City;") ∈ zT := zT_in (z_c2 (List.mem_of_getElem? (i := 94) (by decide +kernel))) (by decide +kernel)
theorem hw_1_68 : (Jvm.Cond.fieldLink "ReceiptLeft" (112 : Nat) "ReceiptLeft$City" "lines" "I") ∈ zT := zT_in (z_c1 (List.mem_of_getElem? (i := 68) (by decide +kernel))) (by decide +kernel)
theorem hw_1_85 : (Jvm.Cond.fieldLink "ReceiptLeft" (255 : Nat) "ReceiptLeft$City" "houses" "I") ∈ zT := zT_in (z_c1 (List.mem_of_getElem? (i := 85) (by decide +kernel))) (by decide +kernel)
end
section
theorem dX11_in_0 : decode cX11_in 0 = .ok (.lload_n 0, 1) := by decide +kernel
theorem dX11_in_1 : decode cX11_in 1 = .ok (.lload_n 2, 1) := by decide +kernel
theorem dX11_in_2 : decode cX11_in 2 = .ok (.lcmp, 1) := by decide +kernel
theorem dX11_in_3 : decode cX11_in 3 = .ok (.ifCond .lt 14, 3) := by decide +kernel
theorem dX11_in_17 : decode cX11_in 17 = .ok (.iconst 0, 1) := by decide +kernel
theorem dX11_in_18 : decode cX11_in 18 = .ok (.ireturn, 1) := by decide +kernel
theorem dX11_in_6 : decode cX11_in 6 = .ok (.lload_n 0, 1) := by decide +kernel
theorem dX11_in_7 : decode cX11_in 7 = .ok (.lload 4, 2) := by decide +kernel
theorem dX11_in_9 : decode cX11_in 9 = .ok (.lcmp, 1) := by decide +kernel
theorem dX11_in_10 : decode cX11_in 10 = .ok (.ifCond .gt 7, 3) := by decide +kernel
theorem dX11_in_13 : decode cX11_in 13 = .ok (.iconst 1, 1) := by decide +kernel
theorem dX11_in_14 : decode cX11_in 14 = .ok (.goto 4, 3) := by decide +kernel
theorem dX11_isCity_0 : decode cX11_isCity 0 = .ok (.aload_n 0, 1) := by decide +kernel
theorem dX11_isCity_1 : decode cX11_isCity 1 = .ok (.getfield 9, 3) := by decide +kernel
theorem dX11_isCity_4 : decode cX11_isCity 4 = .ok (.iconst 5, 1) := by decide +kernel
theorem dX11_isCity_5 : decode cX11_isCity 5 = .ok (.iaload, 1) := by decide +kernel
theorem dX11_isCity_6 : decode cX11_isCity 6 = .ok (.ifCond .le 7, 3) := by decide +kernel
theorem dX11_isCity_13 : decode cX11_isCity 13 = .ok (.iconst 0, 1) := by decide +kernel
theorem dX11_isCity_14 : decode cX11_isCity 14 = .ok (.ireturn, 1) := by decide +kernel
theorem dX11_isHouse_0 : decode cX11_isHouse 0 = .ok (.lload_n 1, 1) := by decide +kernel
theorem dX11_isHouse_1 : decode cX11_isHouse 1 = .ok (.lconst 0, 1) := by decide +kernel
theorem dX11_isHouse_2 : decode cX11_isHouse 2 = .ok (.aload_n 0, 1) := by decide +kernel
theorem dX11_isHouse_3 : decode cX11_isHouse 3 = .ok (.getfield 9, 3) := by decide +kernel
theorem dX11_isHouse_6 : decode cX11_isHouse 6 = .ok (.iconst 3, 1) := by decide +kernel
theorem dX11_isHouse_7 : decode cX11_isHouse 7 = .ok (.iaload, 1) := by decide +kernel
theorem dX11_isHouse_8 : decode cX11_isHouse 8 = .ok (.iconst 1, 1) := by decide +kernel
theorem dX11_isHouse_9 : decode cX11_isHouse 9 = .ok (.isub, 1) := by decide +kernel
theorem dX11_isHouse_10 : decode cX11_isHouse 10 = .ok (.i2l, 1) := by decide +kernel
theorem dX11_isHouse_11 : decode cX11_isHouse 11 = .ok (.invokestatic 94, 3) := by decide +kernel
theorem dX11_isHouse_14 : decode cX11_isHouse 14 = .ok (.ireturn, 1) := by decide +kernel
theorem dX11_isThing_0 : decode cX11_isThing 0 = .ok (.lload_n 1, 1) := by decide +kernel
theorem dX11_isThing_1 : decode cX11_isThing 1 = .ok (.lconst 0, 1) := by decide +kernel
theorem dX11_isThing_2 : decode cX11_isThing 2 = .ok (.aload_n 0, 1) := by decide +kernel
theorem dX11_isThing_3 : decode cX11_isThing 3 = .ok (.getfield 9, 3) := by decide +kernel
theorem dX11_isThing_6 : decode cX11_isThing 6 = .ok (.iconst 4, 1) := by decide +kernel
theorem dX11_isThing_7 : decode cX11_isThing 7 = .ok (.iaload, 1) := by decide +kernel
theorem dX11_isThing_8 : decode cX11_isThing 8 = .ok (.iconst 1, 1) := by decide +kernel
theorem dX11_isThing_9 : decode cX11_isThing 9 = .ok (.isub, 1) := by decide +kernel
theorem dX11_isThing_10 : decode cX11_isThing 10 = .ok (.i2l, 1) := by decide +kernel
theorem dX11_isThing_11 : decode cX11_isThing 11 = .ok (.invokestatic 94, 3) := by decide +kernel
theorem dX11_isThing_14 : decode cX11_isThing 14 = .ok (.ireturn, 1) := by decide +kernel
theorem dX11_house_0 : decode cX11_house 0 = .ok (.aload_n 0, 1) := by decide +kernel
theorem dX11_house_1 : decode cX11_house 1 = .ok (.iload_n 1, 1) := by decide +kernel
theorem dX11_house_2 : decode cX11_house 2 = .ok (.i2l, 1) := by decide +kernel
theorem dX11_house_3 : decode cX11_house 3 = .ok (.invokevirtual 257, 3) := by decide +kernel
theorem dX11_house_6 : decode cX11_house 6 = .ok (.ifCond .eq 15, 3) := by decide +kernel
theorem dX11_house_21 : decode cX11_house 21 = .ok (.bipush (-2), 2) := by decide +kernel
theorem dX11_house_23 : decode cX11_house 23 = .ok (.ireturn, 1) := by decide +kernel
theorem dX11_thing_0 : decode cX11_thing 0 = .ok (.aload_n 0, 1) := by decide +kernel
theorem dX11_thing_1 : decode cX11_thing 1 = .ok (.iload_n 1, 1) := by decide +kernel
theorem dX11_thing_2 : decode cX11_thing 2 = .ok (.i2l, 1) := by decide +kernel
theorem dX11_thing_3 : decode cX11_thing 3 = .ok (.invokevirtual 266, 3) := by decide +kernel
theorem dX11_thing_6 : decode cX11_thing 6 = .ok (.ifCond .eq 15, 3) := by decide +kernel
theorem dX11_thing_21 : decode cX11_thing 21 = .ok (.bipush (-2), 2) := by decide +kernel
theorem dX11_thing_23 : decode cX11_thing 23 = .ok (.ireturn, 1) := by decide +kernel
theorem dX11_value_0 : decode cX11_value 0 = .ok (.aload_n 0, 1) := by decide +kernel
theorem dX11_value_1 : decode cX11_value 1 = .ok (.iload_n 1, 1) := by decide +kernel
theorem dX11_value_2 : decode cX11_value 2 = .ok (.i2l, 1) := by decide +kernel
theorem dX11_value_3 : decode cX11_value 3 = .ok (.invokevirtual 257, 3) := by decide +kernel
theorem dX11_value_6 : decode cX11_value 6 = .ok (.ifCond .eq 21, 3) := by decide +kernel
theorem dX11_value_27 : decode cX11_value 27 = .ok (.bipush (-2), 2) := by decide +kernel
theorem dX11_value_29 : decode cX11_value 29 = .ok (.ireturn, 1) := by decide +kernel
theorem dX11_net_0 : decode cX11_net 0 = .ok (.aload_n 0, 1) := by decide +kernel
theorem dX11_net_1 : decode cX11_net 1 = .ok (.iload_n 1, 1) := by decide +kernel
theorem dX11_net_2 : decode cX11_net 2 = .ok (.i2l, 1) := by decide +kernel
theorem dX11_net_3 : decode cX11_net 3 = .ok (.invokevirtual 257, 3) := by decide +kernel
theorem dX11_net_6 : decode cX11_net 6 = .ok (.ifCond .ne 7, 3) := by decide +kernel
theorem dX11_net_9 : decode cX11_net 9 = .ok (.ldc_w 275, 3) := by decide +kernel
theorem dX11_net_12 : decode cX11_net 12 = .ok (.ireturn, 1) := by decide +kernel
theorem dX11_steal_0 : decode cX11_steal 0 = .ok (.aload_n 0, 1) := by decide +kernel
theorem dX11_steal_1 : decode cX11_steal 1 = .ok (.iload_n 1, 1) := by decide +kernel
theorem dX11_steal_2 : decode cX11_steal 2 = .ok (.i2l, 1) := by decide +kernel
theorem dX11_steal_3 : decode cX11_steal 3 = .ok (.invokevirtual 257, 3) := by decide +kernel
theorem dX11_steal_6 : decode cX11_steal 6 = .ok (.ifCond .eq 24, 3) := by decide +kernel
theorem dX11_steal_30 : decode cX11_steal 30 = .ok (.bipush (-2), 2) := by decide +kernel
theorem dX11_steal_32 : decode cX11_steal 32 = .ok (.ireturn, 1) := by decide +kernel
theorem dX11_lock_0 : decode cX11_lock 0 = .ok (.aload_n 0, 1) := by decide +kernel
theorem dX11_lock_1 : decode cX11_lock 1 = .ok (.iload_n 1, 1) := by decide +kernel
theorem dX11_lock_2 : decode cX11_lock 2 = .ok (.i2l, 1) := by decide +kernel
theorem dX11_lock_3 : decode cX11_lock 3 = .ok (.invokevirtual 257, 3) := by decide +kernel
theorem dX11_lock_6 : decode cX11_lock 6 = .ok (.ifCond .eq 13, 3) := by decide +kernel
theorem dX11_lock_19 : decode cX11_lock 19 = .ok (.bipush (-2), 2) := by decide +kernel
theorem dX11_lock_21 : decode cX11_lock 21 = .ok (.ireturn, 1) := by decide +kernel
theorem dX11_night_0 : decode cX11_night 0 = .ok (.aload_n 0, 1) := by decide +kernel
theorem dX11_night_1 : decode cX11_night 1 = .ok (.invokevirtual 295, 3) := by decide +kernel
theorem dX11_night_4 : decode cX11_night 4 = .ok (.ifCond .ne 6, 3) := by decide +kernel
theorem dX11_night_7 : decode cX11_night 7 = .ok (.bipush (-2), 2) := by decide +kernel
theorem dX11_night_9 : decode cX11_night 9 = .ok (.ireturn, 1) := by decide +kernel
theorem dX11_undo_0 : decode cX11_undo 0 = .ok (.aload_n 0, 1) := by decide +kernel
theorem dX11_undo_1 : decode cX11_undo 1 = .ok (.invokevirtual 295, 3) := by decide +kernel
theorem dX11_undo_4 : decode cX11_undo 4 = .ok (.ifCond .ne 6, 3) := by decide +kernel
theorem dX11_undo_7 : decode cX11_undo 7 = .ok (.bipush (-2), 2) := by decide +kernel
theorem dX11_undo_9 : decode cX11_undo 9 = .ok (.ireturn, 1) := by decide +kernel
theorem dX11_anew_0 : decode cX11_anew 0 = .ok (.aload_n 0, 1) := by decide +kernel
theorem dX11_anew_1 : decode cX11_anew 1 = .ok (.invokevirtual 295, 3) := by decide +kernel
theorem dX11_anew_4 : decode cX11_anew 4 = .ok (.ifCond .ne 6, 3) := by decide +kernel
theorem dX11_anew_7 : decode cX11_anew 7 = .ok (.bipush (-2), 2) := by decide +kernel
theorem dX11_anew_9 : decode cX11_anew 9 = .ok (.ireturn, 1) := by decide +kernel
theorem dX11_now_0 : decode cX11_now 0 = .ok (.aload_n 0, 1) := by decide +kernel
theorem dX11_now_1 : decode cX11_now 1 = .ok (.invokevirtual 295, 3) := by decide +kernel
theorem dX11_now_4 : decode cX11_now 4 = .ok (.ifCond .eq 15, 3) := by decide +kernel
theorem dX11_now_19 : decode cX11_now 19 = .ok (.bipush (-2), 2) := by decide +kernel
theorem dX11_now_21 : decode cX11_now 21 = .ok (.ireturn, 1) := by decide +kernel
theorem dX11_owner_0 : decode cX11_owner 0 = .ok (.aload_n 0, 1) := by decide +kernel
theorem dX11_owner_1 : decode cX11_owner 1 = .ok (.iload_n 1, 1) := by decide +kernel
theorem dX11_owner_2 : decode cX11_owner 2 = .ok (.i2l, 1) := by decide +kernel
theorem dX11_owner_3 : decode cX11_owner 3 = .ok (.invokevirtual 266, 3) := by decide +kernel
theorem dX11_owner_6 : decode cX11_owner 6 = .ok (.ifCond .ne 6, 3) := by decide +kernel
theorem dX11_owner_9 : decode cX11_owner 9 = .ok (.bipush (-2), 2) := by decide +kernel
theorem dX11_owner_11 : decode cX11_owner 11 = .ok (.ireturn, 1) := by decide +kernel
theorem dX11_chain_0 : decode cX11_chain 0 = .ok (.aload_n 0, 1) := by decide +kernel
theorem dX11_chain_1 : decode cX11_chain 1 = .ok (.iload_n 1, 1) := by decide +kernel
theorem dX11_chain_2 : decode cX11_chain 2 = .ok (.i2l, 1) := by decide +kernel
theorem dX11_chain_3 : decode cX11_chain 3 = .ok (.invokevirtual 266, 3) := by decide +kernel
theorem dX11_chain_6 : decode cX11_chain 6 = .ok (.ifCond .ne 6, 3) := by decide +kernel
theorem dX11_chain_9 : decode cX11_chain 9 = .ok (.bipush (-2), 2) := by decide +kernel
theorem dX11_chain_11 : decode cX11_chain 11 = .ok (.ireturn, 1) := by decide +kernel
theorem dX11_rings_0 : decode cX11_rings 0 = .ok (.aload_n 0, 1) := by decide +kernel
theorem dX11_rings_1 : decode cX11_rings 1 = .ok (.invokevirtual 295, 3) := by decide +kernel
theorem dX11_rings_4 : decode cX11_rings 4 = .ok (.ifCond .ne 6, 3) := by decide +kernel
theorem dX11_rings_7 : decode cX11_rings 7 = .ok (.bipush (-2), 2) := by decide +kernel
theorem dX11_rings_9 : decode cX11_rings 9 = .ok (.ireturn, 1) := by decide +kernel
theorem dX11_owns_0 : decode cX11_owns 0 = .ok (.aload_n 0, 1) := by decide +kernel
theorem dX11_owns_1 : decode cX11_owns 1 = .ok (.iload_n 1, 1) := by decide +kernel
theorem dX11_owns_2 : decode cX11_owns 2 = .ok (.i2l, 1) := by decide +kernel
theorem dX11_owns_3 : decode cX11_owns 3 = .ok (.invokevirtual 257, 3) := by decide +kernel
theorem dX11_owns_6 : decode cX11_owns 6 = .ok (.ifCond .ne 6, 3) := by decide +kernel
theorem dX11_owns_9 : decode cX11_owns 9 = .ok (.bipush (-2), 2) := by decide +kernel
theorem dX11_owns_11 : decode cX11_owns 11 = .ok (.ireturn, 1) := by decide +kernel
theorem dX11_twice_0 : decode cX11_twice 0 = .ok (.aload_n 0, 1) := by decide +kernel
theorem dX11_twice_1 : decode cX11_twice 1 = .ok (.invokevirtual 295, 3) := by decide +kernel
theorem dX11_twice_4 : decode cX11_twice 4 = .ok (.ifCond .ne 6, 3) := by decide +kernel
theorem dX11_twice_7 : decode cX11_twice 7 = .ok (.bipush (-2), 2) := by decide +kernel
theorem dX11_twice_9 : decode cX11_twice 9 = .ok (.ireturn, 1) := by decide +kernel
theorem dX11_strikes_0 : decode cX11_strikes 0 = .ok (.aload_n 0, 1) := by decide +kernel
theorem dX11_strikes_1 : decode cX11_strikes 1 = .ok (.invokevirtual 295, 3) := by decide +kernel
theorem dX11_strikes_4 : decode cX11_strikes 4 = .ok (.ifCond .eq 13, 3) := by decide +kernel
theorem dX11_strikes_17 : decode cX11_strikes 17 = .ok (.bipush (-2), 2) := by decide +kernel
theorem dX11_strikes_19 : decode cX11_strikes 19 = .ok (.ireturn, 1) := by decide +kernel
theorem dX11_struck_0 : decode cX11_struck 0 = .ok (.aload_n 0, 1) := by decide +kernel
theorem dX11_struck_1 : decode cX11_struck 1 = .ok (.invokevirtual 295, 3) := by decide +kernel
theorem dX11_struck_4 : decode cX11_struck 4 = .ok (.ifCond .eq 10, 3) := by decide +kernel
theorem dX11_struck_14 : decode cX11_struck 14 = .ok (.bipush (-2), 2) := by decide +kernel
theorem dX11_struck_16 : decode cX11_struck 16 = .ok (.ireturn, 1) := by decide +kernel
theorem dX11_trail_0 : decode cX11_trail 0 = .ok (.aload_n 0, 1) := by decide +kernel
theorem dX11_trail_1 : decode cX11_trail 1 = .ok (.iload_n 1, 1) := by decide +kernel
theorem dX11_trail_2 : decode cX11_trail 2 = .ok (.i2l, 1) := by decide +kernel
theorem dX11_trail_3 : decode cX11_trail 3 = .ok (.invokevirtual 266, 3) := by decide +kernel
theorem dX11_trail_6 : decode cX11_trail 6 = .ok (.ifCond .ne 6, 3) := by decide +kernel
theorem dX11_trail_9 : decode cX11_trail 9 = .ok (.bipush (-2), 2) := by decide +kernel
theorem dX11_trail_11 : decode cX11_trail 11 = .ok (.ireturn, 1) := by decide +kernel
theorem dX11_went_0 : decode cX11_went 0 = .ok (.aload_n 0, 1) := by decide +kernel
theorem dX11_went_1 : decode cX11_went 1 = .ok (.iload_n 1, 1) := by decide +kernel
theorem dX11_went_2 : decode cX11_went 2 = .ok (.i2l, 1) := by decide +kernel
theorem dX11_went_3 : decode cX11_went 3 = .ok (.invokevirtual 266, 3) := by decide +kernel
theorem dX11_went_6 : decode cX11_went 6 = .ok (.ifCond .ne 6, 3) := by decide +kernel
theorem dX11_went_9 : decode cX11_went 9 = .ok (.bipush (-2), 2) := by decide +kernel
theorem dX11_went_11 : decode cX11_went 11 = .ok (.ireturn, 1) := by decide +kernel
theorem dX11_lies_0 : decode cX11_lies 0 = .ok (.aload_n 0, 1) := by decide +kernel
theorem dX11_lies_1 : decode cX11_lies 1 = .ok (.iload_n 1, 1) := by decide +kernel
theorem dX11_lies_2 : decode cX11_lies 2 = .ok (.i2l, 1) := by decide +kernel
theorem dX11_lies_3 : decode cX11_lies 3 = .ok (.invokevirtual 257, 3) := by decide +kernel
theorem dX11_lies_6 : decode cX11_lies 6 = .ok (.ifCond .ne 6, 3) := by decide +kernel
theorem dX11_lies_9 : decode cX11_lies 9 = .ok (.bipush (-2), 2) := by decide +kernel
theorem dX11_lies_11 : decode cX11_lies 11 = .ok (.ireturn, 1) := by decide +kernel
theorem dX11_poorest_0 : decode cX11_poorest 0 = .ok (.aload_n 0, 1) := by decide +kernel
theorem dX11_poorest_1 : decode cX11_poorest 1 = .ok (.invokevirtual 295, 3) := by decide +kernel
theorem dX11_poorest_4 : decode cX11_poorest 4 = .ok (.ifCond .ne 6, 3) := by decide +kernel
theorem dX11_poorest_7 : decode cX11_poorest 7 = .ok (.bipush (-2), 2) := by decide +kernel
theorem dX11_poorest_9 : decode cX11_poorest 9 = .ok (.ireturn, 1) := by decide +kernel
theorem dX11_due_0 : decode cX11_due 0 = .ok (.aload_n 0, 1) := by decide +kernel
theorem dX11_due_1 : decode cX11_due 1 = .ok (.invokevirtual 295, 3) := by decide +kernel
theorem dX11_due_4 : decode cX11_due 4 = .ok (.ifCond .eq 15, 3) := by decide +kernel
theorem dX11_due_19 : decode cX11_due 19 = .ok (.bipush (-2), 2) := by decide +kernel
theorem dX11_due_21 : decode cX11_due 21 = .ok (.ireturn, 1) := by decide +kernel
theorem dX11_monday_0 : decode cX11_monday 0 = .ok (.aload_n 0, 1) := by decide +kernel
theorem dX11_monday_1 : decode cX11_monday 1 = .ok (.invokevirtual 295, 3) := by decide +kernel
theorem dX11_monday_4 : decode cX11_monday 4 = .ok (.ifCond .ne 6, 3) := by decide +kernel
theorem dX11_monday_7 : decode cX11_monday 7 = .ok (.bipush (-2), 2) := by decide +kernel
theorem dX11_monday_9 : decode cX11_monday 9 = .ok (.ireturn, 1) := by decide +kernel
theorem dX11_lacks_0 : decode cX11_lacks 0 = .ok (.aload_n 0, 1) := by decide +kernel
theorem dX11_lacks_1 : decode cX11_lacks 1 = .ok (.iload_n 1, 1) := by decide +kernel
theorem dX11_lacks_2 : decode cX11_lacks 2 = .ok (.i2l, 1) := by decide +kernel
theorem dX11_lacks_3 : decode cX11_lacks 3 = .ok (.invokevirtual 257, 3) := by decide +kernel
theorem dX11_lacks_6 : decode cX11_lacks 6 = .ok (.ifCond .ne 6, 3) := by decide +kernel
theorem dX11_lacks_9 : decode cX11_lacks 9 = .ok (.bipush (-2), 2) := by decide +kernel
theorem dX11_lacks_11 : decode cX11_lacks 11 = .ok (.ireturn, 1) := by decide +kernel
theorem dX11_needs__0 : decode cX11_needs_ 0 = .ok (.aload_n 0, 1) := by decide +kernel
theorem dX11_needs__1 : decode cX11_needs_ 1 = .ok (.iload_n 1, 1) := by decide +kernel
theorem dX11_needs__2 : decode cX11_needs_ 2 = .ok (.i2l, 1) := by decide +kernel
theorem dX11_needs__3 : decode cX11_needs_ 3 = .ok (.invokevirtual 257, 3) := by decide +kernel
theorem dX11_needs__6 : decode cX11_needs_ 6 = .ok (.ifCond .ne 6, 3) := by decide +kernel
theorem dX11_needs__9 : decode cX11_needs_ 9 = .ok (.bipush (-2), 2) := by decide +kernel
theorem dX11_needs__11 : decode cX11_needs_ 11 = .ok (.ireturn, 1) := by decide +kernel
theorem dX11_fails_0 : decode cX11_fails 0 = .ok (.aload_n 0, 1) := by decide +kernel
theorem dX11_fails_1 : decode cX11_fails 1 = .ok (.invokevirtual 295, 3) := by decide +kernel
theorem dX11_fails_4 : decode cX11_fails 4 = .ok (.ifCond .eq 18, 3) := by decide +kernel
theorem dX11_fails_22 : decode cX11_fails 22 = .ok (.bipush (-2), 2) := by decide +kernel
theorem dX11_fails_24 : decode cX11_fails 24 = .ok (.ireturn, 1) := by decide +kernel
theorem dX11_later_0 : decode cX11_later 0 = .ok (.aload_n 0, 1) := by decide +kernel
theorem dX11_later_1 : decode cX11_later 1 = .ok (.iload_n 1, 1) := by decide +kernel
theorem dX11_later_2 : decode cX11_later 2 = .ok (.i2l, 1) := by decide +kernel
theorem dX11_later_3 : decode cX11_later 3 = .ok (.invokevirtual 266, 3) := by decide +kernel
theorem dX11_later_6 : decode cX11_later 6 = .ok (.ifCond .eq 10, 3) := by decide +kernel
theorem dX11_later_16 : decode cX11_later 16 = .ok (.bipush (-2), 2) := by decide +kernel
theorem dX11_later_18 : decode cX11_later 18 = .ok (.ireturn, 1) := by decide +kernel
theorem dX11_purse_0 : decode cX11_purse 0 = .ok (.aload_n 0, 1) := by decide +kernel
theorem dX11_purse_1 : decode cX11_purse 1 = .ok (.iload_n 1, 1) := by decide +kernel
theorem dX11_purse_2 : decode cX11_purse 2 = .ok (.i2l, 1) := by decide +kernel
theorem dX11_purse_3 : decode cX11_purse 3 = .ok (.invokevirtual 257, 3) := by decide +kernel
theorem dX11_purse_6 : decode cX11_purse 6 = .ok (.ifCond .eq 10, 3) := by decide +kernel
theorem dX11_purse_16 : decode cX11_purse 16 = .ok (.bipush (-2), 2) := by decide +kernel
theorem dX11_purse_18 : decode cX11_purse 18 = .ok (.ireturn, 1) := by decide +kernel
theorem dX11_run_0 : decode cX11_run 0 = .ok (.aload_n 0, 1) := by decide +kernel
theorem dX11_run_1 : decode cX11_run 1 = .ok (.invokevirtual 295, 3) := by decide +kernel
theorem dX11_run_4 : decode cX11_run 4 = .ok (.ifCond .ne 6, 3) := by decide +kernel
theorem dX11_run_7 : decode cX11_run 7 = .ok (.bipush (-2), 2) := by decide +kernel
theorem dX11_run_9 : decode cX11_run 9 = .ok (.ireturn, 1) := by decide +kernel
theorem dX11_hit_0 : decode cX11_hit 0 = .ok (.aload_n 0, 1) := by decide +kernel
theorem dX11_hit_1 : decode cX11_hit 1 = .ok (.iload_n 1, 1) := by decide +kernel
theorem dX11_hit_2 : decode cX11_hit 2 = .ok (.i2l, 1) := by decide +kernel
theorem dX11_hit_3 : decode cX11_hit 3 = .ok (.invokevirtual 257, 3) := by decide +kernel
theorem dX11_hit_6 : decode cX11_hit 6 = .ok (.ifCond .eq 11, 3) := by decide +kernel
theorem dX11_hit_17 : decode cX11_hit 17 = .ok (.bipush (-2), 2) := by decide +kernel
theorem dX11_hit_19 : decode cX11_hit 19 = .ok (.ireturn, 1) := by decide +kernel
theorem dX11_hits_0 : decode cX11_hits 0 = .ok (.aload_n 0, 1) := by decide +kernel
theorem dX11_hits_1 : decode cX11_hits 1 = .ok (.iload_n 1, 1) := by decide +kernel
theorem dX11_hits_2 : decode cX11_hits 2 = .ok (.i2l, 1) := by decide +kernel
theorem dX11_hits_3 : decode cX11_hits 3 = .ok (.invokevirtual 257, 3) := by decide +kernel
theorem dX11_hits_6 : decode cX11_hits 6 = .ok (.ifCond .ne 6, 3) := by decide +kernel
theorem dX11_hits_9 : decode cX11_hits 9 = .ok (.bipush (-2), 2) := by decide +kernel
theorem dX11_hits_11 : decode cX11_hits 11 = .ok (.ireturn, 1) := by decide +kernel
theorem dX11_plan_0 : decode cX11_plan 0 = .ok (.aload_n 0, 1) := by decide +kernel
theorem dX11_plan_1 : decode cX11_plan 1 = .ok (.iload_n 1, 1) := by decide +kernel
theorem dX11_plan_2 : decode cX11_plan 2 = .ok (.i2l, 1) := by decide +kernel
theorem dX11_plan_3 : decode cX11_plan 3 = .ok (.invokevirtual 257, 3) := by decide +kernel
theorem dX11_plan_6 : decode cX11_plan 6 = .ok (.ifCond .eq 10, 3) := by decide +kernel
theorem dX11_plan_16 : decode cX11_plan 16 = .ok (.bipush (-2), 2) := by decide +kernel
theorem dX11_plan_18 : decode cX11_plan 18 = .ok (.ireturn, 1) := by decide +kernel
theorem dX11_plans_0 : decode cX11_plans 0 = .ok (.aload_n 0, 1) := by decide +kernel
theorem dX11_plans_1 : decode cX11_plans 1 = .ok (.iload_n 1, 1) := by decide +kernel
theorem dX11_plans_2 : decode cX11_plans 2 = .ok (.i2l, 1) := by decide +kernel
theorem dX11_plans_3 : decode cX11_plans 3 = .ok (.invokevirtual 257, 3) := by decide +kernel
theorem dX11_plans_6 : decode cX11_plans 6 = .ok (.ifCond .eq 10, 3) := by decide +kernel
theorem dX11_plans_16 : decode cX11_plans 16 = .ok (.bipush (-2), 2) := by decide +kernel
theorem dX11_plans_18 : decode cX11_plans 18 = .ok (.ireturn, 1) := by decide +kernel
theorem dX11_change_0 : decode cX11_change 0 = .ok (.aload_n 0, 1) := by decide +kernel
theorem dX11_change_1 : decode cX11_change 1 = .ok (.iload_n 1, 1) := by decide +kernel
theorem dX11_change_2 : decode cX11_change 2 = .ok (.i2l, 1) := by decide +kernel
theorem dX11_change_3 : decode cX11_change 3 = .ok (.invokevirtual 257, 3) := by decide +kernel
theorem dX11_change_6 : decode cX11_change 6 = .ok (.ifCond .eq 17, 3) := by decide +kernel
theorem dX11_change_23 : decode cX11_change 23 = .ok (.bipush (-2), 2) := by decide +kernel
theorem dX11_change_25 : decode cX11_change 25 = .ok (.ireturn, 1) := by decide +kernel
theorem dX11_deal_0 : decode cX11_deal 0 = .ok (.aload_n 0, 1) := by decide +kernel
theorem dX11_deal_1 : decode cX11_deal 1 = .ok (.invokevirtual 295, 3) := by decide +kernel
theorem dX11_deal_4 : decode cX11_deal 4 = .ok (.ifCond .eq 10, 3) := by decide +kernel
theorem dX11_deal_14 : decode cX11_deal 14 = .ok (.bipush (-2), 2) := by decide +kernel
theorem dX11_deal_16 : decode cX11_deal 16 = .ok (.ireturn, 1) := by decide +kernel
theorem dX11_deals_0 : decode cX11_deals 0 = .ok (.aload_n 0, 1) := by decide +kernel
theorem dX11_deals_1 : decode cX11_deals 1 = .ok (.iload_n 1, 1) := by decide +kernel
theorem dX11_deals_2 : decode cX11_deals 2 = .ok (.i2l, 1) := by decide +kernel
theorem dX11_deals_3 : decode cX11_deals 3 = .ok (.invokevirtual 266, 3) := by decide +kernel
theorem dX11_deals_6 : decode cX11_deals 6 = .ok (.ifCond .ne 6, 3) := by decide +kernel
theorem dX11_deals_9 : decode cX11_deals 9 = .ok (.bipush (-2), 2) := by decide +kernel
theorem dX11_deals_11 : decode cX11_deals 11 = .ok (.ireturn, 1) := by decide +kernel
theorem dX11_dear_0 : decode cX11_dear 0 = .ok (.aload_n 0, 1) := by decide +kernel
theorem dX11_dear_1 : decode cX11_dear 1 = .ok (.invokevirtual 295, 3) := by decide +kernel
theorem dX11_dear_4 : decode cX11_dear 4 = .ok (.ifCond .ne 6, 3) := by decide +kernel
theorem dX11_dear_7 : decode cX11_dear 7 = .ok (.bipush (-2), 2) := by decide +kernel
theorem dX11_dear_9 : decode cX11_dear 9 = .ok (.ireturn, 1) := by decide +kernel
theorem dX11_rate_0 : decode cX11_rate 0 = .ok (.aload_n 0, 1) := by decide +kernel
theorem dX11_rate_1 : decode cX11_rate 1 = .ok (.iload_n 1, 1) := by decide +kernel
theorem dX11_rate_2 : decode cX11_rate 2 = .ok (.i2l, 1) := by decide +kernel
theorem dX11_rate_3 : decode cX11_rate 3 = .ok (.invokevirtual 266, 3) := by decide +kernel
theorem dX11_rate_6 : decode cX11_rate 6 = .ok (.ifCond .eq 31, 3) := by decide +kernel
theorem dX11_rate_37 : decode cX11_rate 37 = .ok (.bipush (-2), 2) := by decide +kernel
theorem dX11_rate_39 : decode cX11_rate 39 = .ok (.ireturn, 1) := by decide +kernel
theorem dX11_want_0 : decode cX11_want 0 = .ok (.aload_n 0, 1) := by decide +kernel
theorem dX11_want_1 : decode cX11_want 1 = .ok (.iload_n 1, 1) := by decide +kernel
theorem dX11_want_2 : decode cX11_want 2 = .ok (.i2l, 1) := by decide +kernel
theorem dX11_want_3 : decode cX11_want 3 = .ok (.invokevirtual 257, 3) := by decide +kernel
theorem dX11_want_6 : decode cX11_want 6 = .ok (.ifCond .eq 41, 3) := by decide +kernel
theorem dX11_want_47 : decode cX11_want 47 = .ok (.bipush (-2), 2) := by decide +kernel
theorem dX11_want_49 : decode cX11_want 49 = .ok (.ireturn, 1) := by decide +kernel
theorem dX10_hasCity_0 : decode cX10_hasCity 0 = .ok (.aload_n 0, 1) := by decide +kernel
theorem dX10_hasCity_1 : decode cX10_hasCity 1 = .ok (.getfield 19, 3) := by decide +kernel
theorem dX10_hasCity_4 : decode cX10_hasCity 4 = .ok (.getfield 112, 3) := by decide +kernel
theorem dX10_hasCity_7 : decode cX10_hasCity 7 = .ok (.ifCond .le 7, 3) := by decide +kernel
theorem dX10_hasCity_14 : decode cX10_hasCity 14 = .ok (.iconst 0, 1) := by decide +kernel
theorem dX10_hasCity_15 : decode cX10_hasCity 15 = .ok (.ireturn, 1) := by decide +kernel
theorem dX10_isHouse_0 : decode cX10_isHouse 0 = .ok (.iload_n 1, 1) := by decide +kernel
theorem dX10_isHouse_1 : decode cX10_isHouse 1 = .ok (.ifCond .lt 18, 3) := by decide +kernel
theorem dX10_isHouse_19 : decode cX10_isHouse 19 = .ok (.iconst 0, 1) := by decide +kernel
theorem dX10_isHouse_20 : decode cX10_isHouse 20 = .ok (.ireturn, 1) := by decide +kernel
theorem dX10_isHouse_4 : decode cX10_isHouse 4 = .ok (.iload_n 1, 1) := by decide +kernel
theorem dX10_isHouse_5 : decode cX10_isHouse 5 = .ok (.aload_n 0, 1) := by decide +kernel
theorem dX10_isHouse_6 : decode cX10_isHouse 6 = .ok (.getfield 19, 3) := by decide +kernel
theorem dX10_isHouse_9 : decode cX10_isHouse 9 = .ok (.getfield 255, 3) := by decide +kernel
theorem dX10_isHouse_12 : decode cX10_isHouse 12 = .ok (.if_icmp .ge 7, 3) := by decide +kernel
theorem dX10_isHouse_15 : decode cX10_isHouse 15 = .ok (.iconst 1, 1) := by decide +kernel
theorem dX10_isHouse_16 : decode cX10_isHouse 16 = .ok (.goto 4, 3) := by decide +kernel
end
section
def zXd (q : Nat → Nat) (cA : Nat → ClassId) : zKd := fun k i r j => match k with
  | 0 => .inr (10, [.ref (q 1), .ref (q 3), .ref (q 8), .ref (q 13), .ref (q 15), .ref (q 27), .ref (q 39), .ref (q 43), .ref (q 45), .ref (q 46), .ref (q 47), .ref (q 72)])
  | 1 => .inr (7, [.ref (q 2), .int (i 1), .int (i 2), .int (i 3), .int (i 4), .int (i 5), .int (i 6)])
  | 2 => .inl (cA 2, 800, .inl r)
  | 3 => .inr (2, [.int (i 0), .int (i 1), .int (i 2), .int (i 3), .int (i 4), .int (i 5), .int (i 6), .ref (q 4), .ref (q 5), .ref (q 6), .ref (q 7)])
  | 4 => .inl (cA 4, 5, .inl r)
  | 5 => .inl (cA 5, 6, .inl r)
  | 6 => .inl (cA 6, 6, .inl r)
  | 7 => .inl (cA 7, 30, .inl r)
  | 8 => .inr (2, [.int (i 0), .int (i 1), .int (i 2), .int (i 3), .int (i 4), .int (i 5), .int (i 6), .ref (q 9), .ref (q 10), .ref (q 11), .ref (q 12)])
  | 9 => .inl (cA 9, 5, .inl r)
  | 10 => .inl (cA 10, 6, .inl r)
  | 11 => .inl (cA 11, 6, .inl r)
  | 12 => .inl (cA 12, 30, .inl r)
  | 13 => .inr (0, [.int (i 0), .ref (q 14)])
  | 14 => .inl (cA 14, 240, .inl r)
  | 15 => .inr (9, [.ref (q 3), .int (i 1), .int (i 2), .int (i 3), .ref (q 16), .ref (q 17), .ref (q 18), .ref (q 19), .ref (q 20), .ref (q 21), .ref (q 22), .ref (q 23), .ref (q 24), .ref (q 25), .ref (q 26)])
  | 16 => .inl (cA 16, 5, .inl r)
  | 17 => .inl (cA 17, 6, .inl r)
  | 18 => .inl (cA 18, 6, .inl r)
  | 19 => .inl (cA 19, 24, .inl r)
  | 20 => .inl (cA 20, 24, .inl r)
  | 21 => .inl (cA 21, 24, .inl r)
  | 22 => .inl (cA 22, 24, .inl r)
  | 23 => .inl (cA 23, 24, .inl r)
  | 24 => .inl (cA 24, 294, .inl r)
  | 25 => .inl (cA 25, 5, .inl r)
  | 26 => .inl (cA 26, 5, .inl r)
  | 27 => .inr (9, [.ref (q 3), .int (i 1), .int (i 2), .int (i 3), .ref (q 28), .ref (q 29), .ref (q 30), .ref (q 31), .ref (q 32), .ref (q 33), .ref (q 34), .ref (q 35), .ref (q 36), .ref (q 37), .ref (q 38)])
  | 28 => .inl (cA 28, 5, .inl r)
  | 29 => .inl (cA 29, 6, .inl r)
  | 30 => .inl (cA 30, 6, .inl r)
  | 31 => .inl (cA 31, 24, .inl r)
  | 32 => .inl (cA 32, 24, .inl r)
  | 33 => .inl (cA 33, 24, .inl r)
  | 34 => .inl (cA 34, 24, .inl r)
  | 35 => .inl (cA 35, 24, .inl r)
  | 36 => .inl (cA 36, 294, .inl r)
  | 37 => .inl (cA 37, 5, .inl r)
  | 38 => .inl (cA 38, 5, .inl r)
  | 39 => .inr (8, [.int (i 0), .ref (q 40), .int (i 2), .ref (q 41), .ref (q 42), .int (i 5)])
  | 40 => .inl (cA 40, 5, .inl r)
  | 41 => .inl (cA 41, 25, .inl r)
  | 42 => .inl (cA 42, 5, .inl r)
  | 43 => .inr (3, [.ref (q 44)])
  | 44 => .inl (cA 44, 224, .inl r)
  | 45 => .inr (4, [.long (j 0)])
  | 46 => .inr (1, [.int (i 0), .int (i 1), .int (i 2)])
  | 47 => .inl (cA 47, 3, .inr (.inr (.inr (.inr (fun x => bif Nat.beq x 0 then some (q 48) else bif Nat.beq x 1 then some (q 56) else bif Nat.beq x 2 then some (q 64) else none)))))
  | 48 => .inr (5, [.int (i 0), .ref (q 49), .ref (q 54)])
  | 49 => .inr (2, [.int (i 0), .int (i 1), .int (i 2), .int (i 3), .int (i 4), .int (i 5), .int (i 6), .ref (q 50), .ref (q 51), .ref (q 52), .ref (q 53)])
  | 50 => .inl (cA 50, 5, .inl r)
  | 51 => .inl (cA 51, 6, .inl r)
  | 52 => .inl (cA 52, 6, .inl r)
  | 53 => .inl (cA 53, 30, .inl r)
  | 54 => .inr (0, [.int (i 0), .ref (q 55)])
  | 55 => .inl (cA 55, 240, .inl r)
  | 56 => .inr (5, [.int (i 0), .ref (q 57), .ref (q 62)])
  | 57 => .inr (2, [.int (i 0), .int (i 1), .int (i 2), .int (i 3), .int (i 4), .int (i 5), .int (i 6), .ref (q 58), .ref (q 59), .ref (q 60), .ref (q 61)])
  | 58 => .inl (cA 58, 5, .inl r)
  | 59 => .inl (cA 59, 6, .inl r)
  | 60 => .inl (cA 60, 6, .inl r)
  | 61 => .inl (cA 61, 30, .inl r)
  | 62 => .inr (0, [.int (i 0), .ref (q 63)])
  | 63 => .inl (cA 63, 240, .inl r)
  | 64 => .inr (5, [.int (i 0), .ref (q 65), .ref (q 70)])
  | 65 => .inr (2, [.int (i 0), .int (i 1), .int (i 2), .int (i 3), .int (i 4), .int (i 5), .int (i 6), .ref (q 66), .ref (q 67), .ref (q 68), .ref (q 69)])
  | 66 => .inl (cA 66, 5, .inl r)
  | 67 => .inl (cA 67, 6, .inl r)
  | 68 => .inl (cA 68, 6, .inl r)
  | 69 => .inl (cA 69, 30, .inl r)
  | 70 => .inr (0, [.int (i 0), .ref (q 71)])
  | 71 => .inl (cA 71, 240, .inl r)
  | 72 => .inl (cA 72, 4, .inr (.inr (.inr (.inr (fun x => bif Nat.beq x 0 then some (q 73) else bif Nat.beq x 1 then some (q 75) else bif Nat.beq x 2 then some (q 77) else bif Nat.beq x 3 then some (q 79) else none)))))
  | 73 => .inr (6, [.int (i 0), .int (i 1), .ref (q 74)])
  | 74 => .inl (cA 74, 60, .inr (.inl j))
  | 75 => .inr (6, [.int (i 0), .int (i 1), .ref (q 76)])
  | 76 => .inl (cA 76, 60, .inr (.inl j))
  | 77 => .inr (6, [.int (i 0), .int (i 1), .ref (q 78)])
  | 78 => .inl (cA 78, 60, .inr (.inl j))
  | 79 => .inr (6, [.int (i 0), .int (i 1), .ref (q 80)])
  | _ => .inl (cA 80, 60, .inr (.inl j))
abbrev zXtys (cA : Nat → ClassId) : List (ClassId × FieldType) := [(cA 2, .byte), (cA 4, .int), (cA 5, .int), (cA 6, .int), (cA 7, .int), (cA 9, .int), (cA 10, .int), (cA 11, .int), (cA 12, .int), (cA 14, .int), (cA 16, .int), (cA 17, .int), (cA 18, .int), (cA 19, .int), (cA 20, .int), (cA 21, .int), (cA 22, .int), (cA 23, .int), (cA 24, .int), (cA 25, .int), (cA 26, .int), (cA 28, .int), (cA 29, .int), (cA 30, .int), (cA 31, .int), (cA 32, .int), (cA 33, .int), (cA 34, .int), (cA 35, .int), (cA 36, .int), (cA 37, .int), (cA 38, .int), (cA 40, .int), (cA 41, .int), (cA 42, .int), (cA 44, .int), (cA 47, .object "ReceiptLeft$Image"), (cA 50, .int), (cA 51, .int), (cA 52, .int), (cA 53, .int), (cA 55, .int), (cA 58, .int), (cA 59, .int), (cA 60, .int), (cA 61, .int), (cA 63, .int), (cA 66, .int), (cA 67, .int), (cA 68, .int), (cA 69, .int), (cA 71, .int), (cA 72, .object "ReceiptLeft$Row"), (cA 74, .long), (cA 76, .long), (cA 78, .long), (cA 80, .long)]
def zMd (q : Nat → Nat) (cA : Nat → ClassId) : zKd := fun k i r j => match k with
  | 0 => .inr (11, [.int (i 0), .ref (q 1), .ref (q 2), .ref (q 3), .ref (q 4), .int (i 5), .ref (q 5), .int (i 7), .int (i 8), .int (i 9), .int (i 10), .int (i 11), .int (i 12), .int (i 13), .ref (q 6), .ref (q 7), .ref (q 8), .ref (q 9), .ref (q 10), .ref (q 11), .ref (q 12), .ref (q 13), .ref (q 14), .ref (q 15), .ref (q 16), .ref (q 17), .int (i 26), .int (i 27), .int (i 28), .int (i 29), .ref (q 18), .int (i 31), .ref (q 19), .int (i 33), .int (i 34), .ref (q 20), .int (i 36), .int (i 37), .int (i 38), .long (j 39), .ref (q 21), .ref (q 22), .ref (q 23), .ref (q 24)])
  | 1 => .inl (cA 1, 119, .inl r)
  | 2 => .inl (cA 2, 357, .inl r)
  | 3 => .inl (cA 3, 3, .inl r)
  | 4 => .inl (cA 4, 800, .inl r)
  | 5 => .inl (cA 5, 5, .inl r)
  | 6 => .inl (cA 6, 119, .inl r)
  | 7 => .inl (cA 7, 5, .inl r)
  | 8 => .inl (cA 8, 5, .inl r)
  | 9 => .inl (cA 9, 6, .inl r)
  | 10 => .inl (cA 10, 24, .inl r)
  | 11 => .inl (cA 11, 24, .inl r)
  | 12 => .inl (cA 12, 24, .inl r)
  | 13 => .inl (cA 13, 24, .inl r)
  | 14 => .inl (cA 14, 24, .inl r)
  | 15 => .inl (cA 15, 5, .inl r)
  | 16 => .inl (cA 16, 876, .inl r)
  | 17 => .inl (cA 17, 6, .inl r)
  | 18 => .inl (cA 18, 5, .inl r)
  | 19 => .inl (cA 19, 5, .inl r)
  | 20 => .inl (cA 20, 224, .inl r)
  | 21 => .inl (cA 21, 4, .inl r)
  | 22 => .inl (cA 22, 4, .inl r)
  | 23 => .inl (cA 23, 240, .inr (.inl j))
  | _ => .inl (cA 24, 60, .inr (.inl j))
abbrev zMtys (cA : Nat → ClassId) : List (ClassId × FieldType) := [(cA 1, .int), (cA 2, .int), (cA 3, .boolean), (cA 4, .byte), (cA 5, .int), (cA 6, .int), (cA 7, .int), (cA 8, .int), (cA 9, .int), (cA 10, .int), (cA 11, .int), (cA 12, .int), (cA 13, .int), (cA 14, .int), (cA 15, .int), (cA 16, .int), (cA 17, .int), (cA 18, .int), (cA 19, .int), (cA 20, .int), (cA 21, .int), (cA 22, .int), (cA 23, .long), (cA 24, .long)]
def zXI0 : Nat → Nat → Int32 := fun k f => bif (Nat.beq k 1 && Nat.beq f 3) || (Nat.beq f 1 && (Nat.beq k 73 || Nat.beq k 75 || Nat.beq k 77 || Nat.beq k 79)) then -1 else nI 0
def zXR0 : Nat → Nat → Int32 := fun _ _ => nI 0
def zXJ0 : Nat → Nat → Int64 := fun _ _ => 0
def zMI0 : Nat → Nat → Int32 := fun k f => bif (Nat.beq k 0 && Nat.beq f 13) then -1 else nI 0
def zMR0 : Nat → Nat → Int32 := fun k j => bif Nat.beq k 21 then (bif Nat.blt j 4 then -1 else nI 0) else nI 0
def zMJ0 : Nat → Nat → Int64 := fun _ _ => 0
end
section
set_option maxHeartbeats 4000000 in
set_option maxRecDepth 100000 in
theorem kX11_in (l : Launch) (D : va_G) (q : Nat → Nat) (cA : Nat → ClassId) (I R : Nat → Nat → Int32) (J : Nat → Nat → Int64) (x a b : Int) (v : Int64) (lo : Int64) (hi : Int64) (hv : v.toInt = x) (hlo : lo.toInt = a) (hhi : hi.toInt = b) : zMi l D vwCl (zMtys cA) 25 q (zMd q cA) yX11_in cX11_in 6 (some .boolean) ({ frames := 0, cells := 0, slots := 0, locals := 0 } : Room) [.long (v), .long (lo), .long (hi)] (I, R, J) (fun r u => (r = nI 1 ∧ u = (I, R, J) ∧ a ≤ x ∧ x ≤ b) ∨ (r = nI 0 ∧ u = (I, R, J) ∧ (x < a ∨ b < x))) := by
  intro sz
  refine z_body (by decide +kernel) (Nat.le_of_ble_eq_true rfl) (fun p e s m below meth c ls hx hb hml hr ht hown hlocks hsz hK hP hD hS hl => ?_)
  have hA : ∀ a, s.heap.size ≤ a → zA 25 q sz a := fun a h => Or.inr (hsz ▸ h)
  have hl : lv_has ls 6 [(0, .long (v)), (2, .long (lo)), (4, .long (hi))] := hl
  refine lv_lload_n hx hb dX11_in_0 rfl (lv_at hl 0 rfl) ?_
  refine lv_lload_n hx hb dX11_in_1 rfl (lv_at hl 1 rfl) ?_
  refine W.lcmp hx hb dX11_in_2 ?_
  refine lv_if_lt (tgt := 17) hx hb dX11_in_3 (by decide) (fun c_1 => ?_) (fun c_1 => ?_)
  · have t_c_1 := z_lltT ((lg_cmp_lt _ _).mp c_1)
    refine lv_iconst (v := nI 0) hx hb dX11_in_17 (by decide +kernel) ?_
    exact z_zret (v := nI 0) hx hb hr hlocks hP hD hS (by decide +kernel) dX11_in_18 (Or.inr ⟨rfl, rfl, by omega⟩)
  · have t_c_1 := z_lltF (fun h => c_1 ((lg_cmp_lt _ _).mpr h))
    refine lv_lload_n hx hb dX11_in_6 rfl (lv_at hl 0 rfl) ?_
    refine lv_lload hx hb dX11_in_7 (lv_at hl 2 rfl) ?_
    refine W.lcmp hx hb dX11_in_9 ?_
    refine lv_if_gt (tgt := 17) hx hb dX11_in_10 (by decide) (fun c_2 => ?_) (fun c_2 => ?_)
    · have t_c_2 := z_lltT ((lg_cmp_gt _ _).mp c_2)
      refine lv_iconst (v := nI 0) hx hb dX11_in_17 (by decide +kernel) ?_
      exact z_zret (v := nI 0) hx hb hr hlocks hP hD hS (by decide +kernel) dX11_in_18 (Or.inr ⟨rfl, rfl, by omega⟩)
    · have t_c_2 := z_lltF (fun h => c_2 ((lg_cmp_gt _ _).mpr h))
      refine lv_iconst (v := nI 1) hx hb dX11_in_13 (by decide +kernel) ?_
      refine lv_goto (tgt := 18) hx hb dX11_in_14 (by decide) ?_
      exact z_zret (v := nI 1) hx hb hr hlocks hP hD hS (by decide +kernel) dX11_in_18 (Or.inl ⟨rfl, rfl, by omega, by omega⟩)
set_option maxHeartbeats 4000000 in
set_option maxRecDepth 100000 in
theorem kX11_isCity (l : Launch) (D : va_G) (q : Nat → Nat) (cA : Nat → ClassId)    : zMi l D vwCl (zMtys cA) 25 q (zMd q cA) yX11_isCity cX11_isCity 1 (some .boolean) ({ frames := 0, cells := 0, slots := 0, locals := 0 } : Room) [.ref (q 0)] (zMI0, zMR0, zMJ0) (fun r u => r = nI 0 ∧ u = (zMI0, zMR0, zMJ0)) := by
  intro sz
  refine z_body (by decide +kernel) (Nat.le_of_ble_eq_true rfl) (fun p e s m below meth c ls hx hb hml hr ht hown hlocks hsz hK hP hD hS hl => ?_)
  have hA : ∀ a, s.heap.size ≤ a → zA 25 q sz a := fun a h => Or.inr (hsz ▸ h)
  have hl : lv_has ls 1 [(0, .ref (q 0))] := hl
  refine lv_aload_n hx hb dX11_isCity_0 rfl (lv_at hl 0 rfl) ?_
  refine z_get hx hb ht hown hK hP ziX11 rfl 0 (by decide) 1 (by decide) hw_5_188 rfl (v := .ref (q 1)) rfl dX11_isCity_1 ?_
  refine lv_iconst (v := nI 5) hx hb dX11_isCity_4 (by decide +kernel) ?_
  refine z_iald hx hb hK hP 1 (by decide) 0 rfl rfl (vp_in_nI (by omega) (by decide)) dX11_isCity_5 ?_
  refine z_eqi (y := nI 0) rfl ?_
  refine lv_if_le (tgt := 13) hx hb dX11_isCity_6 (by decide) (fun _ => ?_) (fun c_0 => absurd (by decide +kernel) c_0)
  refine lv_iconst (v := nI 0) hx hb dX11_isCity_13 (by decide +kernel) ?_
  exact z_zret (v := nI 0) hx hb hr hlocks hP hD hS (by decide +kernel) dX11_isCity_14 ⟨rfl, rfl⟩
set_option maxHeartbeats 4000000 in
set_option maxRecDepth 100000 in
theorem kX11_isHouse (l : Launch) (D : va_G) (q : Nat → Nat) (cA : Nat → ClassId)  (h : Int64)  : zMi l D vwCl (zMtys cA) 25 q (zMd q cA) yX11_isHouse cX11_isHouse 3 (some .boolean) ({ frames := 1, cells := 0, slots := 0, locals := 25 } : Room) [.ref (q 0), .long (h)] (zMI0, zMR0, zMJ0) (fun r u => r = nI 0 ∧ u = (zMI0, zMR0, zMJ0)) := by
  intro sz
  refine z_body (by decide +kernel) (Nat.le_of_ble_eq_true rfl) (fun p e s m below meth c ls hx hb hml hr ht hown hlocks hsz hK hP hD hS hl => ?_)
  have hA : ∀ a, s.heap.size ≤ a → zA 25 q sz a := fun a h => Or.inr (hsz ▸ h)
  have hl : lv_has ls 3 [(0, .ref (q 0)), (1, .long (h))] := hl
  refine lv_lload_n hx hb dX11_isHouse_0 rfl (lv_at hl 1 rfl) ?_
  refine lv_lconst (v := (0 : Int64)) hx hb dX11_isHouse_1 (by decide +kernel) ?_
  refine lv_aload_n hx hb dX11_isHouse_2 rfl (lv_at hl 0 rfl) ?_
  refine z_get hx hb ht hown hK hP ziX11 rfl 0 (by decide) 1 (by decide) hw_5_188 rfl (v := .ref (q 1)) rfl dX11_isHouse_3 ?_
  refine lv_iconst (v := nI 3) hx hb dX11_isHouse_6 (by decide +kernel) ?_
  refine z_iald hx hb hK hP 1 (by decide) 0 rfl rfl (vp_in_nI (by omega) (by decide)) dX11_isHouse_7 ?_
  refine z_eqi (y := nI 0) rfl ?_
  refine lv_iconst (v := nI 1) hx hb dX11_isHouse_8 (by decide +kernel) ?_
  refine lv_isub hx hb dX11_isHouse_9 ?_
  refine z_eqi (y := (-1)) (by decide +kernel) ?_
  refine lv_i2l (v := (-1 : Int64)) hx hb dX11_isHouse_10 (by decide +kernel) ?_
  refine z_callSi (As := [.long (h), .long ((0 : Int64)), .long ((-1 : Int64))]) (rest := []) hx hb hml hown ht (kX11_in l D q cA _ _ _ (h).toInt 0 (-1) (h) ((0 : Int64)) ((-1 : Int64)) rfl (by decide +kernel) (by decide +kernel)) hw_6_86 hmX11_in ⟨rfl, rfl⟩ (na := 3) rfl (by decide +kernel) (by decide) hK hP hD hS hA hl.1 rfl (Nat.le_of_ble_eq_true rfl) ⟨Nat.zero_le _, Nat.zero_le _⟩ dX11_isHouse_11 (fun r_1 I_1 R_1 J_1 H locs hp_1 hP hD hS _ _ => ?_)
  rcases hp_1 with ⟨rfl, hu_1, h1_1, h2_1⟩ | ⟨rfl, hu_1, h1_1⟩
  · exfalso; omega
  · cases hu_1
    exact z_zret (v := nI 0) hx hb hr hlocks hP hD hS (by decide +kernel) dX11_isHouse_14 ⟨rfl, rfl⟩
set_option maxHeartbeats 4000000 in
set_option maxRecDepth 100000 in
theorem kX11_isThing (l : Launch) (D : va_G) (q : Nat → Nat) (cA : Nat → ClassId)  (h : Int64)  : zMi l D vwCl (zMtys cA) 25 q (zMd q cA) yX11_isThing cX11_isThing 3 (some .boolean) ({ frames := 1, cells := 0, slots := 0, locals := 25 } : Room) [.ref (q 0), .long (h)] (zMI0, zMR0, zMJ0) (fun r u => r = nI 0 ∧ u = (zMI0, zMR0, zMJ0)) := by
  intro sz
  refine z_body (by decide +kernel) (Nat.le_of_ble_eq_true rfl) (fun p e s m below meth c ls hx hb hml hr ht hown hlocks hsz hK hP hD hS hl => ?_)
  have hA : ∀ a, s.heap.size ≤ a → zA 25 q sz a := fun a h => Or.inr (hsz ▸ h)
  have hl : lv_has ls 3 [(0, .ref (q 0)), (1, .long (h))] := hl
  refine lv_lload_n hx hb dX11_isThing_0 rfl (lv_at hl 1 rfl) ?_
  refine lv_lconst (v := (0 : Int64)) hx hb dX11_isThing_1 (by decide +kernel) ?_
  refine lv_aload_n hx hb dX11_isThing_2 rfl (lv_at hl 0 rfl) ?_
  refine z_get hx hb ht hown hK hP ziX11 rfl 0 (by decide) 1 (by decide) hw_5_188 rfl (v := .ref (q 1)) rfl dX11_isThing_3 ?_
  refine lv_iconst (v := nI 4) hx hb dX11_isThing_6 (by decide +kernel) ?_
  refine z_iald hx hb hK hP 1 (by decide) 0 rfl rfl (vp_in_nI (by omega) (by decide)) dX11_isThing_7 ?_
  refine z_eqi (y := nI 0) rfl ?_
  refine lv_iconst (v := nI 1) hx hb dX11_isThing_8 (by decide +kernel) ?_
  refine lv_isub hx hb dX11_isThing_9 ?_
  refine z_eqi (y := (-1)) (by decide +kernel) ?_
  refine lv_i2l (v := (-1 : Int64)) hx hb dX11_isThing_10 (by decide +kernel) ?_
  refine z_callSi (As := [.long (h), .long ((0 : Int64)), .long ((-1 : Int64))]) (rest := []) hx hb hml hown ht (kX11_in l D q cA _ _ _ (h).toInt 0 (-1) (h) ((0 : Int64)) ((-1 : Int64)) rfl (by decide +kernel) (by decide +kernel)) hw_6_86 hmX11_in ⟨rfl, rfl⟩ (na := 3) rfl (by decide +kernel) (by decide) hK hP hD hS hA hl.1 rfl (Nat.le_of_ble_eq_true rfl) ⟨Nat.zero_le _, Nat.zero_le _⟩ dX11_isThing_11 (fun r_1 I_1 R_1 J_1 H locs hp_1 hP hD hS _ _ => ?_)
  rcases hp_1 with ⟨rfl, hu_1, h1_1, h2_1⟩ | ⟨rfl, hu_1, h1_1⟩
  · exfalso; omega
  · cases hu_1
    exact z_zret (v := nI 0) hx hb hr hlocks hP hD hS (by decide +kernel) dX11_isThing_14 ⟨rfl, rfl⟩
set_option maxHeartbeats 4000000 in
set_option maxRecDepth 100000 in
theorem kX11_house (l : Launch) (D : va_G) (q : Nat → Nat) (cA : Nat → ClassId)  (h : Int32) (w : Int32)  : zMi l D vwCl (zMtys cA) 25 q (zMd q cA) yX11_house cX11_house 5 (some .int) ({ frames := 2, cells := 0, slots := 0, locals := 47 } : Room) [.ref (q 0), .int (h), .int (w)] (zMI0, zMR0, zMJ0) (fun r _ => r = (-2)) := by
  intro sz
  refine z_body (by decide +kernel) (Nat.le_of_ble_eq_true rfl) (fun p e s m below meth c ls hx hb hml hr ht hown hlocks hsz hK hP hD hS hl => ?_)
  have hA : ∀ a, s.heap.size ≤ a → zA 25 q sz a := fun a h => Or.inr (hsz ▸ h)
  have hl : lv_has ls 5 [(0, .ref (q 0)), (1, .int (h)), (2, .int (w))] := hl
  refine lv_aload_n hx hb dX11_house_0 rfl (lv_at hl 0 rfl) ?_
  refine lv_iload_n hx hb dX11_house_1 rfl (lv_at hl 1 rfl) ?_
  refine lv_i2l (v := (h).toInt64) hx hb dX11_house_2 rfl ?_
  refine z_callVi (k := 0) (As := [.long ((h).toInt64)]) (rest := []) hx hb hml hown ht (kX11_isHouse l D q cA ((h).toInt64)) hw_6_176 hmX11_isHouse ⟨rfl, rfl⟩ (na := 1) rfl (by decide +kernel) (by decide) (by decide) rfl rfl hK hP hD hS hA hl.1 rfl (Nat.le_of_ble_eq_true rfl) ⟨Nat.zero_le _, Nat.zero_le _⟩ dX11_house_3 (fun r_1 I_1 R_1 J_1 H locs hp_1 hP hD hS _ _ => ?_)
  obtain ⟨rfl, hu_1⟩ := hp_1
  cases hu_1
  refine lv_if_eq (tgt := 21) hx hb dX11_house_6 (by decide) (fun _ => ?_) (fun c_0 => absurd (by decide +kernel) c_0)
  refine lv_bipush (v := (-2)) hx hb dX11_house_21 (by decide +kernel) ?_
  exact z_iret (v := (-2)) hx hb hr hlocks hP hD hS dX11_house_23 rfl
set_option maxHeartbeats 4000000 in
set_option maxRecDepth 100000 in
theorem kX11_thing (l : Launch) (D : va_G) (q : Nat → Nat) (cA : Nat → ClassId)  (h : Int32) (w : Int32)  : zMi l D vwCl (zMtys cA) 25 q (zMd q cA) yX11_thing cX11_thing 3 (some .int) ({ frames := 2, cells := 0, slots := 0, locals := 47 } : Room) [.ref (q 0), .int (h), .int (w)] (zMI0, zMR0, zMJ0) (fun r _ => r = (-2)) := by
  intro sz
  refine z_body (by decide +kernel) (Nat.le_of_ble_eq_true rfl) (fun p e s m below meth c ls hx hb hml hr ht hown hlocks hsz hK hP hD hS hl => ?_)
  have hA : ∀ a, s.heap.size ≤ a → zA 25 q sz a := fun a h => Or.inr (hsz ▸ h)
  have hl : lv_has ls 3 [(0, .ref (q 0)), (1, .int (h)), (2, .int (w))] := hl
  refine lv_aload_n hx hb dX11_thing_0 rfl (lv_at hl 0 rfl) ?_
  refine lv_iload_n hx hb dX11_thing_1 rfl (lv_at hl 1 rfl) ?_
  refine lv_i2l (v := (h).toInt64) hx hb dX11_thing_2 rfl ?_
  refine z_callVi (k := 0) (As := [.long ((h).toInt64)]) (rest := []) hx hb hml hown ht (kX11_isThing l D q cA ((h).toInt64)) hw_6_238 hmX11_isThing ⟨rfl, rfl⟩ (na := 1) rfl (by decide +kernel) (by decide) (by decide) rfl rfl hK hP hD hS hA hl.1 rfl (Nat.le_of_ble_eq_true rfl) ⟨Nat.zero_le _, Nat.zero_le _⟩ dX11_thing_3 (fun r_1 I_1 R_1 J_1 H locs hp_1 hP hD hS _ _ => ?_)
  obtain ⟨rfl, hu_1⟩ := hp_1
  cases hu_1
  refine lv_if_eq (tgt := 21) hx hb dX11_thing_6 (by decide) (fun _ => ?_) (fun c_0 => absurd (by decide +kernel) c_0)
  refine lv_bipush (v := (-2)) hx hb dX11_thing_21 (by decide +kernel) ?_
  exact z_iret (v := (-2)) hx hb hr hlocks hP hD hS dX11_thing_23 rfl
set_option maxHeartbeats 4000000 in
set_option maxRecDepth 100000 in
theorem kX11_value (l : Launch) (D : va_G) (q : Nat → Nat) (cA : Nat → ClassId)  (h : Int32) (w : Int32)  : zMi l D vwCl (zMtys cA) 25 q (zMd q cA) yX11_value cX11_value 3 (some .int) ({ frames := 2, cells := 0, slots := 0, locals := 47 } : Room) [.ref (q 0), .int (h), .int (w)] (zMI0, zMR0, zMJ0) (fun r _ => r = (-2)) := by
  intro sz
  refine z_body (by decide +kernel) (Nat.le_of_ble_eq_true rfl) (fun p e s m below meth c ls hx hb hml hr ht hown hlocks hsz hK hP hD hS hl => ?_)
  have hA : ∀ a, s.heap.size ≤ a → zA 25 q sz a := fun a h => Or.inr (hsz ▸ h)
  have hl : lv_has ls 3 [(0, .ref (q 0)), (1, .int (h)), (2, .int (w))] := hl
  refine lv_aload_n hx hb dX11_value_0 rfl (lv_at hl 0 rfl) ?_
  refine lv_iload_n hx hb dX11_value_1 rfl (lv_at hl 1 rfl) ?_
  refine lv_i2l (v := (h).toInt64) hx hb dX11_value_2 rfl ?_
  refine z_callVi (k := 0) (As := [.long ((h).toInt64)]) (rest := []) hx hb hml hown ht (kX11_isHouse l D q cA ((h).toInt64)) hw_6_176 hmX11_isHouse ⟨rfl, rfl⟩ (na := 1) rfl (by decide +kernel) (by decide) (by decide) rfl rfl hK hP hD hS hA hl.1 rfl (Nat.le_of_ble_eq_true rfl) ⟨Nat.zero_le _, Nat.zero_le _⟩ dX11_value_3 (fun r_1 I_1 R_1 J_1 H locs hp_1 hP hD hS _ _ => ?_)
  obtain ⟨rfl, hu_1⟩ := hp_1
  cases hu_1
  refine lv_if_eq (tgt := 27) hx hb dX11_value_6 (by decide) (fun _ => ?_) (fun c_0 => absurd (by decide +kernel) c_0)
  refine lv_bipush (v := (-2)) hx hb dX11_value_27 (by decide +kernel) ?_
  exact z_iret (v := (-2)) hx hb hr hlocks hP hD hS dX11_value_29 rfl
set_option maxHeartbeats 4000000 in
set_option maxRecDepth 100000 in
theorem kX11_net (l : Launch) (D : va_G) (q : Nat → Nat) (cA : Nat → ClassId)  (h : Int32)  : zMi l D vwCl (zMtys cA) 25 q (zMd q cA) yX11_net cX11_net 2 (some .int) ({ frames := 2, cells := 0, slots := 0, locals := 47 } : Room) [.ref (q 0), .int (h)] (zMI0, zMR0, zMJ0) (fun r _ => r = (-100000)) := by
  intro sz
  refine z_body (by decide +kernel) (Nat.le_of_ble_eq_true rfl) (fun p e s m below meth c ls hx hb hml hr ht hown hlocks hsz hK hP hD hS hl => ?_)
  have hA : ∀ a, s.heap.size ≤ a → zA 25 q sz a := fun a h => Or.inr (hsz ▸ h)
  have hl : lv_has ls 2 [(0, .ref (q 0)), (1, .int (h))] := hl
  refine lv_aload_n hx hb dX11_net_0 rfl (lv_at hl 0 rfl) ?_
  refine lv_iload_n hx hb dX11_net_1 rfl (lv_at hl 1 rfl) ?_
  refine lv_i2l (v := (h).toInt64) hx hb dX11_net_2 rfl ?_
  refine z_callVi (k := 0) (As := [.long ((h).toInt64)]) (rest := []) hx hb hml hown ht (kX11_isHouse l D q cA ((h).toInt64)) hw_6_176 hmX11_isHouse ⟨rfl, rfl⟩ (na := 1) rfl (by decide +kernel) (by decide) (by decide) rfl rfl hK hP hD hS hA hl.1 rfl (Nat.le_of_ble_eq_true rfl) ⟨Nat.zero_le _, Nat.zero_le _⟩ dX11_net_3 (fun r_1 I_1 R_1 J_1 H locs hp_1 hP hD hS _ _ => ?_)
  obtain ⟨rfl, hu_1⟩ := hp_1
  cases hu_1
  refine lv_if_ne (tgt := 13) hx hb dX11_net_6 (by decide) (fun c_0 => absurd c_0 (by decide +kernel)) (fun _ => ?_)
  refine lv_ldcw (v := (-100000)) hx hb hown (ht _ hw_7_30) dX11_net_9 ?_
  exact z_iret (v := (-100000)) hx hb hr hlocks hP hD hS dX11_net_12 rfl
set_option maxHeartbeats 4000000 in
set_option maxRecDepth 100000 in
theorem kX11_steal (l : Launch) (D : va_G) (q : Nat → Nat) (cA : Nat → ClassId)  (h : Int32) (t : Int32) (d : Int32)  : zMi l D vwCl (zMtys cA) 25 q (zMd q cA) yX11_steal cX11_steal 4 (some .int) ({ frames := 2, cells := 0, slots := 0, locals := 47 } : Room) [.ref (q 0), .int (h), .int (t), .int (d)] (zMI0, zMR0, zMJ0) (fun r _ => r = (-2)) := by
  intro sz
  refine z_body (by decide +kernel) (Nat.le_of_ble_eq_true rfl) (fun p e s m below meth c ls hx hb hml hr ht hown hlocks hsz hK hP hD hS hl => ?_)
  have hA : ∀ a, s.heap.size ≤ a → zA 25 q sz a := fun a h => Or.inr (hsz ▸ h)
  have hl : lv_has ls 4 [(0, .ref (q 0)), (1, .int (h)), (2, .int (t)), (3, .int (d))] := hl
  refine lv_aload_n hx hb dX11_steal_0 rfl (lv_at hl 0 rfl) ?_
  refine lv_iload_n hx hb dX11_steal_1 rfl (lv_at hl 1 rfl) ?_
  refine lv_i2l (v := (h).toInt64) hx hb dX11_steal_2 rfl ?_
  refine z_callVi (k := 0) (As := [.long ((h).toInt64)]) (rest := []) hx hb hml hown ht (kX11_isHouse l D q cA ((h).toInt64)) hw_6_176 hmX11_isHouse ⟨rfl, rfl⟩ (na := 1) rfl (by decide +kernel) (by decide) (by decide) rfl rfl hK hP hD hS hA hl.1 rfl (Nat.le_of_ble_eq_true rfl) ⟨Nat.zero_le _, Nat.zero_le _⟩ dX11_steal_3 (fun r_1 I_1 R_1 J_1 H locs hp_1 hP hD hS _ _ => ?_)
  obtain ⟨rfl, hu_1⟩ := hp_1
  cases hu_1
  refine lv_if_eq (tgt := 30) hx hb dX11_steal_6 (by decide) (fun _ => ?_) (fun c_0 => absurd (by decide +kernel) c_0)
  refine lv_bipush (v := (-2)) hx hb dX11_steal_30 (by decide +kernel) ?_
  exact z_iret (v := (-2)) hx hb hr hlocks hP hD hS dX11_steal_32 rfl
set_option maxHeartbeats 4000000 in
set_option maxRecDepth 100000 in
theorem kX11_lock (l : Launch) (D : va_G) (q : Nat → Nat) (cA : Nat → ClassId)  (h : Int32) (w : Int32)  : zMi l D vwCl (zMtys cA) 25 q (zMd q cA) yX11_lock cX11_lock 3 (some .int) ({ frames := 2, cells := 0, slots := 0, locals := 47 } : Room) [.ref (q 0), .int (h), .int (w)] (zMI0, zMR0, zMJ0) (fun r _ => r = (-2)) := by
  intro sz
  refine z_body (by decide +kernel) (Nat.le_of_ble_eq_true rfl) (fun p e s m below meth c ls hx hb hml hr ht hown hlocks hsz hK hP hD hS hl => ?_)
  have hA : ∀ a, s.heap.size ≤ a → zA 25 q sz a := fun a h => Or.inr (hsz ▸ h)
  have hl : lv_has ls 3 [(0, .ref (q 0)), (1, .int (h)), (2, .int (w))] := hl
  refine lv_aload_n hx hb dX11_lock_0 rfl (lv_at hl 0 rfl) ?_
  refine lv_iload_n hx hb dX11_lock_1 rfl (lv_at hl 1 rfl) ?_
  refine lv_i2l (v := (h).toInt64) hx hb dX11_lock_2 rfl ?_
  refine z_callVi (k := 0) (As := [.long ((h).toInt64)]) (rest := []) hx hb hml hown ht (kX11_isHouse l D q cA ((h).toInt64)) hw_6_176 hmX11_isHouse ⟨rfl, rfl⟩ (na := 1) rfl (by decide +kernel) (by decide) (by decide) rfl rfl hK hP hD hS hA hl.1 rfl (Nat.le_of_ble_eq_true rfl) ⟨Nat.zero_le _, Nat.zero_le _⟩ dX11_lock_3 (fun r_1 I_1 R_1 J_1 H locs hp_1 hP hD hS _ _ => ?_)
  obtain ⟨rfl, hu_1⟩ := hp_1
  cases hu_1
  refine lv_if_eq (tgt := 19) hx hb dX11_lock_6 (by decide) (fun _ => ?_) (fun c_0 => absurd (by decide +kernel) c_0)
  refine lv_bipush (v := (-2)) hx hb dX11_lock_19 (by decide +kernel) ?_
  exact z_iret (v := (-2)) hx hb hr hlocks hP hD hS dX11_lock_21 rfl
set_option maxHeartbeats 4000000 in
set_option maxRecDepth 100000 in
theorem kX11_night (l : Launch) (D : va_G) (q : Nat → Nat) (cA : Nat → ClassId)    : zMi l D vwCl (zMtys cA) 25 q (zMd q cA) yX11_night cX11_night 1 (some .int) ({ frames := 1, cells := 0, slots := 0, locals := 20 } : Room) [.ref (q 0)] (zMI0, zMR0, zMJ0) (fun r _ => r = (-2)) := by
  intro sz
  refine z_body (by decide +kernel) (Nat.le_of_ble_eq_true rfl) (fun p e s m below meth c ls hx hb hml hr ht hown hlocks hsz hK hP hD hS hl => ?_)
  have hA : ∀ a, s.heap.size ≤ a → zA 25 q sz a := fun a h => Or.inr (hsz ▸ h)
  have hl : lv_has ls 1 [(0, .ref (q 0))] := hl
  refine lv_aload_n hx hb dX11_night_0 rfl (lv_at hl 0 rfl) ?_
  refine z_callVi (k := 0) (As := []) (rest := []) hx hb hml hown ht (kX11_isCity l D q cA ) hw_7_75 hmX11_isCity ⟨rfl, rfl⟩ (na := 0) rfl (by decide +kernel) (by decide) (by decide) rfl rfl hK hP hD hS hA hl.1 rfl (Nat.le_of_ble_eq_true rfl) ⟨Nat.zero_le _, Nat.zero_le _⟩ dX11_night_1 (fun r_1 I_1 R_1 J_1 H locs hp_1 hP hD hS _ _ => ?_)
  obtain ⟨rfl, hu_1⟩ := hp_1
  cases hu_1
  refine lv_if_ne (tgt := 10) hx hb dX11_night_4 (by decide) (fun c_0 => absurd c_0 (by decide +kernel)) (fun _ => ?_)
  refine lv_bipush (v := (-2)) hx hb dX11_night_7 (by decide +kernel) ?_
  exact z_iret (v := (-2)) hx hb hr hlocks hP hD hS dX11_night_9 rfl
set_option maxHeartbeats 4000000 in
set_option maxRecDepth 100000 in
theorem kX11_undo (l : Launch) (D : va_G) (q : Nat → Nat) (cA : Nat → ClassId)    : zMi l D vwCl (zMtys cA) 25 q (zMd q cA) yX11_undo cX11_undo 1 (some .int) ({ frames := 1, cells := 0, slots := 0, locals := 20 } : Room) [.ref (q 0)] (zMI0, zMR0, zMJ0) (fun r _ => r = (-2)) := by
  intro sz
  refine z_body (by decide +kernel) (Nat.le_of_ble_eq_true rfl) (fun p e s m below meth c ls hx hb hml hr ht hown hlocks hsz hK hP hD hS hl => ?_)
  have hA : ∀ a, s.heap.size ≤ a → zA 25 q sz a := fun a h => Or.inr (hsz ▸ h)
  have hl : lv_has ls 1 [(0, .ref (q 0))] := hl
  refine lv_aload_n hx hb dX11_undo_0 rfl (lv_at hl 0 rfl) ?_
  refine z_callVi (k := 0) (As := []) (rest := []) hx hb hml hown ht (kX11_isCity l D q cA ) hw_7_75 hmX11_isCity ⟨rfl, rfl⟩ (na := 0) rfl (by decide +kernel) (by decide) (by decide) rfl rfl hK hP hD hS hA hl.1 rfl (Nat.le_of_ble_eq_true rfl) ⟨Nat.zero_le _, Nat.zero_le _⟩ dX11_undo_1 (fun r_1 I_1 R_1 J_1 H locs hp_1 hP hD hS _ _ => ?_)
  obtain ⟨rfl, hu_1⟩ := hp_1
  cases hu_1
  refine lv_if_ne (tgt := 10) hx hb dX11_undo_4 (by decide) (fun c_0 => absurd c_0 (by decide +kernel)) (fun _ => ?_)
  refine lv_bipush (v := (-2)) hx hb dX11_undo_7 (by decide +kernel) ?_
  exact z_iret (v := (-2)) hx hb hr hlocks hP hD hS dX11_undo_9 rfl
set_option maxHeartbeats 4000000 in
set_option maxRecDepth 100000 in
theorem kX11_anew (l : Launch) (D : va_G) (q : Nat → Nat) (cA : Nat → ClassId)    : zMi l D vwCl (zMtys cA) 25 q (zMd q cA) yX11_anew cX11_anew 2 (some .int) ({ frames := 1, cells := 0, slots := 0, locals := 20 } : Room) [.ref (q 0)] (zMI0, zMR0, zMJ0) (fun r _ => r = (-2)) := by
  intro sz
  refine z_body (by decide +kernel) (Nat.le_of_ble_eq_true rfl) (fun p e s m below meth c ls hx hb hml hr ht hown hlocks hsz hK hP hD hS hl => ?_)
  have hA : ∀ a, s.heap.size ≤ a → zA 25 q sz a := fun a h => Or.inr (hsz ▸ h)
  have hl : lv_has ls 2 [(0, .ref (q 0))] := hl
  refine lv_aload_n hx hb dX11_anew_0 rfl (lv_at hl 0 rfl) ?_
  refine z_callVi (k := 0) (As := []) (rest := []) hx hb hml hown ht (kX11_isCity l D q cA ) hw_7_75 hmX11_isCity ⟨rfl, rfl⟩ (na := 0) rfl (by decide +kernel) (by decide) (by decide) rfl rfl hK hP hD hS hA hl.1 rfl (Nat.le_of_ble_eq_true rfl) ⟨Nat.zero_le _, Nat.zero_le _⟩ dX11_anew_1 (fun r_1 I_1 R_1 J_1 H locs hp_1 hP hD hS _ _ => ?_)
  obtain ⟨rfl, hu_1⟩ := hp_1
  cases hu_1
  refine lv_if_ne (tgt := 10) hx hb dX11_anew_4 (by decide) (fun c_0 => absurd c_0 (by decide +kernel)) (fun _ => ?_)
  refine lv_bipush (v := (-2)) hx hb dX11_anew_7 (by decide +kernel) ?_
  exact z_iret (v := (-2)) hx hb hr hlocks hP hD hS dX11_anew_9 rfl
set_option maxHeartbeats 4000000 in
set_option maxRecDepth 100000 in
theorem kX11_now (l : Launch) (D : va_G) (q : Nat → Nat) (cA : Nat → ClassId)  (w : Int32)  : zMi l D vwCl (zMtys cA) 25 q (zMd q cA) yX11_now cX11_now 4 (some .int) ({ frames := 1, cells := 0, slots := 0, locals := 20 } : Room) [.ref (q 0), .int (w)] (zMI0, zMR0, zMJ0) (fun r _ => r = (-2)) := by
  intro sz
  refine z_body (by decide +kernel) (Nat.le_of_ble_eq_true rfl) (fun p e s m below meth c ls hx hb hml hr ht hown hlocks hsz hK hP hD hS hl => ?_)
  have hA : ∀ a, s.heap.size ≤ a → zA 25 q sz a := fun a h => Or.inr (hsz ▸ h)
  have hl : lv_has ls 4 [(0, .ref (q 0)), (1, .int (w))] := hl
  refine lv_aload_n hx hb dX11_now_0 rfl (lv_at hl 0 rfl) ?_
  refine z_callVi (k := 0) (As := []) (rest := []) hx hb hml hown ht (kX11_isCity l D q cA ) hw_7_75 hmX11_isCity ⟨rfl, rfl⟩ (na := 0) rfl (by decide +kernel) (by decide) (by decide) rfl rfl hK hP hD hS hA hl.1 rfl (Nat.le_of_ble_eq_true rfl) ⟨Nat.zero_le _, Nat.zero_le _⟩ dX11_now_1 (fun r_1 I_1 R_1 J_1 H locs hp_1 hP hD hS _ _ => ?_)
  obtain ⟨rfl, hu_1⟩ := hp_1
  cases hu_1
  refine lv_if_eq (tgt := 19) hx hb dX11_now_4 (by decide) (fun _ => ?_) (fun c_0 => absurd (by decide +kernel) c_0)
  refine lv_bipush (v := (-2)) hx hb dX11_now_19 (by decide +kernel) ?_
  exact z_iret (v := (-2)) hx hb hr hlocks hP hD hS dX11_now_21 rfl
set_option maxHeartbeats 4000000 in
set_option maxRecDepth 100000 in
theorem kX11_owner (l : Launch) (D : va_G) (q : Nat → Nat) (cA : Nat → ClassId)  (t : Int32)  : zMi l D vwCl (zMtys cA) 25 q (zMd q cA) yX11_owner cX11_owner 2 (some .int) ({ frames := 2, cells := 0, slots := 0, locals := 47 } : Room) [.ref (q 0), .int (t)] (zMI0, zMR0, zMJ0) (fun r _ => r = (-2)) := by
  intro sz
  refine z_body (by decide +kernel) (Nat.le_of_ble_eq_true rfl) (fun p e s m below meth c ls hx hb hml hr ht hown hlocks hsz hK hP hD hS hl => ?_)
  have hA : ∀ a, s.heap.size ≤ a → zA 25 q sz a := fun a h => Or.inr (hsz ▸ h)
  have hl : lv_has ls 2 [(0, .ref (q 0)), (1, .int (t))] := hl
  refine lv_aload_n hx hb dX11_owner_0 rfl (lv_at hl 0 rfl) ?_
  refine lv_iload_n hx hb dX11_owner_1 rfl (lv_at hl 1 rfl) ?_
  refine lv_i2l (v := (t).toInt64) hx hb dX11_owner_2 rfl ?_
  refine z_callVi (k := 0) (As := [.long ((t).toInt64)]) (rest := []) hx hb hml hown ht (kX11_isThing l D q cA ((t).toInt64)) hw_6_238 hmX11_isThing ⟨rfl, rfl⟩ (na := 1) rfl (by decide +kernel) (by decide) (by decide) rfl rfl hK hP hD hS hA hl.1 rfl (Nat.le_of_ble_eq_true rfl) ⟨Nat.zero_le _, Nat.zero_le _⟩ dX11_owner_3 (fun r_1 I_1 R_1 J_1 H locs hp_1 hP hD hS _ _ => ?_)
  obtain ⟨rfl, hu_1⟩ := hp_1
  cases hu_1
  refine lv_if_ne (tgt := 12) hx hb dX11_owner_6 (by decide) (fun c_0 => absurd c_0 (by decide +kernel)) (fun _ => ?_)
  refine lv_bipush (v := (-2)) hx hb dX11_owner_9 (by decide +kernel) ?_
  exact z_iret (v := (-2)) hx hb hr hlocks hP hD hS dX11_owner_11 rfl
set_option maxHeartbeats 4000000 in
set_option maxRecDepth 100000 in
theorem kX11_chain (l : Launch) (D : va_G) (q : Nat → Nat) (cA : Nat → ClassId)  (t : Int32) (i : Int32)  : zMi l D vwCl (zMtys cA) 25 q (zMd q cA) yX11_chain cX11_chain 3 (some .int) ({ frames := 2, cells := 0, slots := 0, locals := 47 } : Room) [.ref (q 0), .int (t), .int (i)] (zMI0, zMR0, zMJ0) (fun r _ => r = (-2)) := by
  intro sz
  refine z_body (by decide +kernel) (Nat.le_of_ble_eq_true rfl) (fun p e s m below meth c ls hx hb hml hr ht hown hlocks hsz hK hP hD hS hl => ?_)
  have hA : ∀ a, s.heap.size ≤ a → zA 25 q sz a := fun a h => Or.inr (hsz ▸ h)
  have hl : lv_has ls 3 [(0, .ref (q 0)), (1, .int (t)), (2, .int (i))] := hl
  refine lv_aload_n hx hb dX11_chain_0 rfl (lv_at hl 0 rfl) ?_
  refine lv_iload_n hx hb dX11_chain_1 rfl (lv_at hl 1 rfl) ?_
  refine lv_i2l (v := (t).toInt64) hx hb dX11_chain_2 rfl ?_
  refine z_callVi (k := 0) (As := [.long ((t).toInt64)]) (rest := []) hx hb hml hown ht (kX11_isThing l D q cA ((t).toInt64)) hw_6_238 hmX11_isThing ⟨rfl, rfl⟩ (na := 1) rfl (by decide +kernel) (by decide) (by decide) rfl rfl hK hP hD hS hA hl.1 rfl (Nat.le_of_ble_eq_true rfl) ⟨Nat.zero_le _, Nat.zero_le _⟩ dX11_chain_3 (fun r_1 I_1 R_1 J_1 H locs hp_1 hP hD hS _ _ => ?_)
  obtain ⟨rfl, hu_1⟩ := hp_1
  cases hu_1
  refine lv_if_ne (tgt := 12) hx hb dX11_chain_6 (by decide) (fun c_0 => absurd c_0 (by decide +kernel)) (fun _ => ?_)
  refine lv_bipush (v := (-2)) hx hb dX11_chain_9 (by decide +kernel) ?_
  exact z_iret (v := (-2)) hx hb hr hlocks hP hD hS dX11_chain_11 rfl
set_option maxHeartbeats 4000000 in
set_option maxRecDepth 100000 in
theorem kX11_rings (l : Launch) (D : va_G) (q : Nat → Nat) (cA : Nat → ClassId)    : zMi l D vwCl (zMtys cA) 25 q (zMd q cA) yX11_rings cX11_rings 3 (some .int) ({ frames := 1, cells := 0, slots := 0, locals := 20 } : Room) [.ref (q 0)] (zMI0, zMR0, zMJ0) (fun r _ => r = (-2)) := by
  intro sz
  refine z_body (by decide +kernel) (Nat.le_of_ble_eq_true rfl) (fun p e s m below meth c ls hx hb hml hr ht hown hlocks hsz hK hP hD hS hl => ?_)
  have hA : ∀ a, s.heap.size ≤ a → zA 25 q sz a := fun a h => Or.inr (hsz ▸ h)
  have hl : lv_has ls 3 [(0, .ref (q 0))] := hl
  refine lv_aload_n hx hb dX11_rings_0 rfl (lv_at hl 0 rfl) ?_
  refine z_callVi (k := 0) (As := []) (rest := []) hx hb hml hown ht (kX11_isCity l D q cA ) hw_7_75 hmX11_isCity ⟨rfl, rfl⟩ (na := 0) rfl (by decide +kernel) (by decide) (by decide) rfl rfl hK hP hD hS hA hl.1 rfl (Nat.le_of_ble_eq_true rfl) ⟨Nat.zero_le _, Nat.zero_le _⟩ dX11_rings_1 (fun r_1 I_1 R_1 J_1 H locs hp_1 hP hD hS _ _ => ?_)
  obtain ⟨rfl, hu_1⟩ := hp_1
  cases hu_1
  refine lv_if_ne (tgt := 10) hx hb dX11_rings_4 (by decide) (fun c_0 => absurd c_0 (by decide +kernel)) (fun _ => ?_)
  refine lv_bipush (v := (-2)) hx hb dX11_rings_7 (by decide +kernel) ?_
  exact z_iret (v := (-2)) hx hb hr hlocks hP hD hS dX11_rings_9 rfl
set_option maxHeartbeats 4000000 in
set_option maxRecDepth 100000 in
theorem kX11_owns (l : Launch) (D : va_G) (q : Nat → Nat) (cA : Nat → ClassId)  (h : Int32)  : zMi l D vwCl (zMtys cA) 25 q (zMd q cA) yX11_owns cX11_owns 4 (some .int) ({ frames := 2, cells := 0, slots := 0, locals := 47 } : Room) [.ref (q 0), .int (h)] (zMI0, zMR0, zMJ0) (fun r _ => r = (-2)) := by
  intro sz
  refine z_body (by decide +kernel) (Nat.le_of_ble_eq_true rfl) (fun p e s m below meth c ls hx hb hml hr ht hown hlocks hsz hK hP hD hS hl => ?_)
  have hA : ∀ a, s.heap.size ≤ a → zA 25 q sz a := fun a h => Or.inr (hsz ▸ h)
  have hl : lv_has ls 4 [(0, .ref (q 0)), (1, .int (h))] := hl
  refine lv_aload_n hx hb dX11_owns_0 rfl (lv_at hl 0 rfl) ?_
  refine lv_iload_n hx hb dX11_owns_1 rfl (lv_at hl 1 rfl) ?_
  refine lv_i2l (v := (h).toInt64) hx hb dX11_owns_2 rfl ?_
  refine z_callVi (k := 0) (As := [.long ((h).toInt64)]) (rest := []) hx hb hml hown ht (kX11_isHouse l D q cA ((h).toInt64)) hw_6_176 hmX11_isHouse ⟨rfl, rfl⟩ (na := 1) rfl (by decide +kernel) (by decide) (by decide) rfl rfl hK hP hD hS hA hl.1 rfl (Nat.le_of_ble_eq_true rfl) ⟨Nat.zero_le _, Nat.zero_le _⟩ dX11_owns_3 (fun r_1 I_1 R_1 J_1 H locs hp_1 hP hD hS _ _ => ?_)
  obtain ⟨rfl, hu_1⟩ := hp_1
  cases hu_1
  refine lv_if_ne (tgt := 12) hx hb dX11_owns_6 (by decide) (fun c_0 => absurd c_0 (by decide +kernel)) (fun _ => ?_)
  refine lv_bipush (v := (-2)) hx hb dX11_owns_9 (by decide +kernel) ?_
  exact z_iret (v := (-2)) hx hb hr hlocks hP hD hS dX11_owns_11 rfl
set_option maxHeartbeats 4000000 in
set_option maxRecDepth 100000 in
theorem kX11_twice (l : Launch) (D : va_G) (q : Nat → Nat) (cA : Nat → ClassId)    : zMi l D vwCl (zMtys cA) 25 q (zMd q cA) yX11_twice cX11_twice 4 (some .int) ({ frames := 1, cells := 0, slots := 0, locals := 20 } : Room) [.ref (q 0)] (zMI0, zMR0, zMJ0) (fun r _ => r = (-2)) := by
  intro sz
  refine z_body (by decide +kernel) (Nat.le_of_ble_eq_true rfl) (fun p e s m below meth c ls hx hb hml hr ht hown hlocks hsz hK hP hD hS hl => ?_)
  have hA : ∀ a, s.heap.size ≤ a → zA 25 q sz a := fun a h => Or.inr (hsz ▸ h)
  have hl : lv_has ls 4 [(0, .ref (q 0))] := hl
  refine lv_aload_n hx hb dX11_twice_0 rfl (lv_at hl 0 rfl) ?_
  refine z_callVi (k := 0) (As := []) (rest := []) hx hb hml hown ht (kX11_isCity l D q cA ) hw_7_75 hmX11_isCity ⟨rfl, rfl⟩ (na := 0) rfl (by decide +kernel) (by decide) (by decide) rfl rfl hK hP hD hS hA hl.1 rfl (Nat.le_of_ble_eq_true rfl) ⟨Nat.zero_le _, Nat.zero_le _⟩ dX11_twice_1 (fun r_1 I_1 R_1 J_1 H locs hp_1 hP hD hS _ _ => ?_)
  obtain ⟨rfl, hu_1⟩ := hp_1
  cases hu_1
  refine lv_if_ne (tgt := 10) hx hb dX11_twice_4 (by decide) (fun c_0 => absurd c_0 (by decide +kernel)) (fun _ => ?_)
  refine lv_bipush (v := (-2)) hx hb dX11_twice_7 (by decide +kernel) ?_
  exact z_iret (v := (-2)) hx hb hr hlocks hP hD hS dX11_twice_9 rfl
set_option maxHeartbeats 4000000 in
set_option maxRecDepth 100000 in
theorem kX11_strikes (l : Launch) (D : va_G) (q : Nat → Nat) (cA : Nat → ClassId)    : zMi l D vwCl (zMtys cA) 25 q (zMd q cA) yX11_strikes cX11_strikes 1 (some .int) ({ frames := 1, cells := 0, slots := 0, locals := 20 } : Room) [.ref (q 0)] (zMI0, zMR0, zMJ0) (fun r _ => r = (-2)) := by
  intro sz
  refine z_body (by decide +kernel) (Nat.le_of_ble_eq_true rfl) (fun p e s m below meth c ls hx hb hml hr ht hown hlocks hsz hK hP hD hS hl => ?_)
  have hA : ∀ a, s.heap.size ≤ a → zA 25 q sz a := fun a h => Or.inr (hsz ▸ h)
  have hl : lv_has ls 1 [(0, .ref (q 0))] := hl
  refine lv_aload_n hx hb dX11_strikes_0 rfl (lv_at hl 0 rfl) ?_
  refine z_callVi (k := 0) (As := []) (rest := []) hx hb hml hown ht (kX11_isCity l D q cA ) hw_7_75 hmX11_isCity ⟨rfl, rfl⟩ (na := 0) rfl (by decide +kernel) (by decide) (by decide) rfl rfl hK hP hD hS hA hl.1 rfl (Nat.le_of_ble_eq_true rfl) ⟨Nat.zero_le _, Nat.zero_le _⟩ dX11_strikes_1 (fun r_1 I_1 R_1 J_1 H locs hp_1 hP hD hS _ _ => ?_)
  obtain ⟨rfl, hu_1⟩ := hp_1
  cases hu_1
  refine lv_if_eq (tgt := 17) hx hb dX11_strikes_4 (by decide) (fun _ => ?_) (fun c_0 => absurd (by decide +kernel) c_0)
  refine lv_bipush (v := (-2)) hx hb dX11_strikes_17 (by decide +kernel) ?_
  exact z_iret (v := (-2)) hx hb hr hlocks hP hD hS dX11_strikes_19 rfl
set_option maxHeartbeats 4000000 in
set_option maxRecDepth 100000 in
theorem kX11_struck (l : Launch) (D : va_G) (q : Nat → Nat) (cA : Nat → ClassId)    : zMi l D vwCl (zMtys cA) 25 q (zMd q cA) yX11_struck cX11_struck 1 (some .int) ({ frames := 1, cells := 0, slots := 0, locals := 20 } : Room) [.ref (q 0)] (zMI0, zMR0, zMJ0) (fun r _ => r = (-2)) := by
  intro sz
  refine z_body (by decide +kernel) (Nat.le_of_ble_eq_true rfl) (fun p e s m below meth c ls hx hb hml hr ht hown hlocks hsz hK hP hD hS hl => ?_)
  have hA : ∀ a, s.heap.size ≤ a → zA 25 q sz a := fun a h => Or.inr (hsz ▸ h)
  have hl : lv_has ls 1 [(0, .ref (q 0))] := hl
  refine lv_aload_n hx hb dX11_struck_0 rfl (lv_at hl 0 rfl) ?_
  refine z_callVi (k := 0) (As := []) (rest := []) hx hb hml hown ht (kX11_isCity l D q cA ) hw_7_75 hmX11_isCity ⟨rfl, rfl⟩ (na := 0) rfl (by decide +kernel) (by decide) (by decide) rfl rfl hK hP hD hS hA hl.1 rfl (Nat.le_of_ble_eq_true rfl) ⟨Nat.zero_le _, Nat.zero_le _⟩ dX11_struck_1 (fun r_1 I_1 R_1 J_1 H locs hp_1 hP hD hS _ _ => ?_)
  obtain ⟨rfl, hu_1⟩ := hp_1
  cases hu_1
  refine lv_if_eq (tgt := 14) hx hb dX11_struck_4 (by decide) (fun _ => ?_) (fun c_0 => absurd (by decide +kernel) c_0)
  refine lv_bipush (v := (-2)) hx hb dX11_struck_14 (by decide +kernel) ?_
  exact z_iret (v := (-2)) hx hb hr hlocks hP hD hS dX11_struck_16 rfl
set_option maxHeartbeats 4000000 in
set_option maxRecDepth 100000 in
theorem kX11_trail (l : Launch) (D : va_G) (q : Nat → Nat) (cA : Nat → ClassId)  (t : Int32) (i : Int32)  : zMi l D vwCl (zMtys cA) 25 q (zMd q cA) yX11_trail cX11_trail 3 (some .int) ({ frames := 2, cells := 0, slots := 0, locals := 47 } : Room) [.ref (q 0), .int (t), .int (i)] (zMI0, zMR0, zMJ0) (fun r _ => r = (-2)) := by
  intro sz
  refine z_body (by decide +kernel) (Nat.le_of_ble_eq_true rfl) (fun p e s m below meth c ls hx hb hml hr ht hown hlocks hsz hK hP hD hS hl => ?_)
  have hA : ∀ a, s.heap.size ≤ a → zA 25 q sz a := fun a h => Or.inr (hsz ▸ h)
  have hl : lv_has ls 3 [(0, .ref (q 0)), (1, .int (t)), (2, .int (i))] := hl
  refine lv_aload_n hx hb dX11_trail_0 rfl (lv_at hl 0 rfl) ?_
  refine lv_iload_n hx hb dX11_trail_1 rfl (lv_at hl 1 rfl) ?_
  refine lv_i2l (v := (t).toInt64) hx hb dX11_trail_2 rfl ?_
  refine z_callVi (k := 0) (As := [.long ((t).toInt64)]) (rest := []) hx hb hml hown ht (kX11_isThing l D q cA ((t).toInt64)) hw_6_238 hmX11_isThing ⟨rfl, rfl⟩ (na := 1) rfl (by decide +kernel) (by decide) (by decide) rfl rfl hK hP hD hS hA hl.1 rfl (Nat.le_of_ble_eq_true rfl) ⟨Nat.zero_le _, Nat.zero_le _⟩ dX11_trail_3 (fun r_1 I_1 R_1 J_1 H locs hp_1 hP hD hS _ _ => ?_)
  obtain ⟨rfl, hu_1⟩ := hp_1
  cases hu_1
  refine lv_if_ne (tgt := 12) hx hb dX11_trail_6 (by decide) (fun c_0 => absurd c_0 (by decide +kernel)) (fun _ => ?_)
  refine lv_bipush (v := (-2)) hx hb dX11_trail_9 (by decide +kernel) ?_
  exact z_iret (v := (-2)) hx hb hr hlocks hP hD hS dX11_trail_11 rfl
set_option maxHeartbeats 4000000 in
set_option maxRecDepth 100000 in
theorem kX11_went (l : Launch) (D : va_G) (q : Nat → Nat) (cA : Nat → ClassId)  (t : Int32)  : zMi l D vwCl (zMtys cA) 25 q (zMd q cA) yX11_went cX11_went 2 (some .int) ({ frames := 2, cells := 0, slots := 0, locals := 47 } : Room) [.ref (q 0), .int (t)] (zMI0, zMR0, zMJ0) (fun r _ => r = (-2)) := by
  intro sz
  refine z_body (by decide +kernel) (Nat.le_of_ble_eq_true rfl) (fun p e s m below meth c ls hx hb hml hr ht hown hlocks hsz hK hP hD hS hl => ?_)
  have hA : ∀ a, s.heap.size ≤ a → zA 25 q sz a := fun a h => Or.inr (hsz ▸ h)
  have hl : lv_has ls 2 [(0, .ref (q 0)), (1, .int (t))] := hl
  refine lv_aload_n hx hb dX11_went_0 rfl (lv_at hl 0 rfl) ?_
  refine lv_iload_n hx hb dX11_went_1 rfl (lv_at hl 1 rfl) ?_
  refine lv_i2l (v := (t).toInt64) hx hb dX11_went_2 rfl ?_
  refine z_callVi (k := 0) (As := [.long ((t).toInt64)]) (rest := []) hx hb hml hown ht (kX11_isThing l D q cA ((t).toInt64)) hw_6_238 hmX11_isThing ⟨rfl, rfl⟩ (na := 1) rfl (by decide +kernel) (by decide) (by decide) rfl rfl hK hP hD hS hA hl.1 rfl (Nat.le_of_ble_eq_true rfl) ⟨Nat.zero_le _, Nat.zero_le _⟩ dX11_went_3 (fun r_1 I_1 R_1 J_1 H locs hp_1 hP hD hS _ _ => ?_)
  obtain ⟨rfl, hu_1⟩ := hp_1
  cases hu_1
  refine lv_if_ne (tgt := 12) hx hb dX11_went_6 (by decide) (fun c_0 => absurd c_0 (by decide +kernel)) (fun _ => ?_)
  refine lv_bipush (v := (-2)) hx hb dX11_went_9 (by decide +kernel) ?_
  exact z_iret (v := (-2)) hx hb hr hlocks hP hD hS dX11_went_11 rfl
set_option maxHeartbeats 4000000 in
set_option maxRecDepth 100000 in
theorem kX11_lies (l : Launch) (D : va_G) (q : Nat → Nat) (cA : Nat → ClassId)  (h : Int32)  : zMi l D vwCl (zMtys cA) 25 q (zMd q cA) yX11_lies cX11_lies 2 (some .int) ({ frames := 2, cells := 0, slots := 0, locals := 47 } : Room) [.ref (q 0), .int (h)] (zMI0, zMR0, zMJ0) (fun r _ => r = (-2)) := by
  intro sz
  refine z_body (by decide +kernel) (Nat.le_of_ble_eq_true rfl) (fun p e s m below meth c ls hx hb hml hr ht hown hlocks hsz hK hP hD hS hl => ?_)
  have hA : ∀ a, s.heap.size ≤ a → zA 25 q sz a := fun a h => Or.inr (hsz ▸ h)
  have hl : lv_has ls 2 [(0, .ref (q 0)), (1, .int (h))] := hl
  refine lv_aload_n hx hb dX11_lies_0 rfl (lv_at hl 0 rfl) ?_
  refine lv_iload_n hx hb dX11_lies_1 rfl (lv_at hl 1 rfl) ?_
  refine lv_i2l (v := (h).toInt64) hx hb dX11_lies_2 rfl ?_
  refine z_callVi (k := 0) (As := [.long ((h).toInt64)]) (rest := []) hx hb hml hown ht (kX11_isHouse l D q cA ((h).toInt64)) hw_6_176 hmX11_isHouse ⟨rfl, rfl⟩ (na := 1) rfl (by decide +kernel) (by decide) (by decide) rfl rfl hK hP hD hS hA hl.1 rfl (Nat.le_of_ble_eq_true rfl) ⟨Nat.zero_le _, Nat.zero_le _⟩ dX11_lies_3 (fun r_1 I_1 R_1 J_1 H locs hp_1 hP hD hS _ _ => ?_)
  obtain ⟨rfl, hu_1⟩ := hp_1
  cases hu_1
  refine lv_if_ne (tgt := 12) hx hb dX11_lies_6 (by decide) (fun c_0 => absurd c_0 (by decide +kernel)) (fun _ => ?_)
  refine lv_bipush (v := (-2)) hx hb dX11_lies_9 (by decide +kernel) ?_
  exact z_iret (v := (-2)) hx hb hr hlocks hP hD hS dX11_lies_11 rfl
set_option maxHeartbeats 4000000 in
set_option maxRecDepth 100000 in
theorem kX11_poorest (l : Launch) (D : va_G) (q : Nat → Nat) (cA : Nat → ClassId)    : zMi l D vwCl (zMtys cA) 25 q (zMd q cA) yX11_poorest cX11_poorest 3 (some .int) ({ frames := 1, cells := 0, slots := 0, locals := 20 } : Room) [.ref (q 0)] (zMI0, zMR0, zMJ0) (fun r _ => r = (-2)) := by
  intro sz
  refine z_body (by decide +kernel) (Nat.le_of_ble_eq_true rfl) (fun p e s m below meth c ls hx hb hml hr ht hown hlocks hsz hK hP hD hS hl => ?_)
  have hA : ∀ a, s.heap.size ≤ a → zA 25 q sz a := fun a h => Or.inr (hsz ▸ h)
  have hl : lv_has ls 3 [(0, .ref (q 0))] := hl
  refine lv_aload_n hx hb dX11_poorest_0 rfl (lv_at hl 0 rfl) ?_
  refine z_callVi (k := 0) (As := []) (rest := []) hx hb hml hown ht (kX11_isCity l D q cA ) hw_7_75 hmX11_isCity ⟨rfl, rfl⟩ (na := 0) rfl (by decide +kernel) (by decide) (by decide) rfl rfl hK hP hD hS hA hl.1 rfl (Nat.le_of_ble_eq_true rfl) ⟨Nat.zero_le _, Nat.zero_le _⟩ dX11_poorest_1 (fun r_1 I_1 R_1 J_1 H locs hp_1 hP hD hS _ _ => ?_)
  obtain ⟨rfl, hu_1⟩ := hp_1
  cases hu_1
  refine lv_if_ne (tgt := 10) hx hb dX11_poorest_4 (by decide) (fun c_0 => absurd c_0 (by decide +kernel)) (fun _ => ?_)
  refine lv_bipush (v := (-2)) hx hb dX11_poorest_7 (by decide +kernel) ?_
  exact z_iret (v := (-2)) hx hb hr hlocks hP hD hS dX11_poorest_9 rfl
set_option maxHeartbeats 4000000 in
set_option maxRecDepth 100000 in
theorem kX11_due (l : Launch) (D : va_G) (q : Nat → Nat) (cA : Nat → ClassId)  (d : Int32)  : zMi l D vwCl (zMtys cA) 25 q (zMd q cA) yX11_due cX11_due 2 (some .int) ({ frames := 1, cells := 0, slots := 0, locals := 20 } : Room) [.ref (q 0), .int (d)] (zMI0, zMR0, zMJ0) (fun r _ => r = (-2)) := by
  intro sz
  refine z_body (by decide +kernel) (Nat.le_of_ble_eq_true rfl) (fun p e s m below meth c ls hx hb hml hr ht hown hlocks hsz hK hP hD hS hl => ?_)
  have hA : ∀ a, s.heap.size ≤ a → zA 25 q sz a := fun a h => Or.inr (hsz ▸ h)
  have hl : lv_has ls 2 [(0, .ref (q 0)), (1, .int (d))] := hl
  refine lv_aload_n hx hb dX11_due_0 rfl (lv_at hl 0 rfl) ?_
  refine z_callVi (k := 0) (As := []) (rest := []) hx hb hml hown ht (kX11_isCity l D q cA ) hw_7_75 hmX11_isCity ⟨rfl, rfl⟩ (na := 0) rfl (by decide +kernel) (by decide) (by decide) rfl rfl hK hP hD hS hA hl.1 rfl (Nat.le_of_ble_eq_true rfl) ⟨Nat.zero_le _, Nat.zero_le _⟩ dX11_due_1 (fun r_1 I_1 R_1 J_1 H locs hp_1 hP hD hS _ _ => ?_)
  obtain ⟨rfl, hu_1⟩ := hp_1
  cases hu_1
  refine lv_if_eq (tgt := 19) hx hb dX11_due_4 (by decide) (fun _ => ?_) (fun c_0 => absurd (by decide +kernel) c_0)
  refine lv_bipush (v := (-2)) hx hb dX11_due_19 (by decide +kernel) ?_
  exact z_iret (v := (-2)) hx hb hr hlocks hP hD hS dX11_due_21 rfl
set_option maxHeartbeats 4000000 in
set_option maxRecDepth 100000 in
theorem kX11_monday (l : Launch) (D : va_G) (q : Nat → Nat) (cA : Nat → ClassId)    : zMi l D vwCl (zMtys cA) 25 q (zMd q cA) yX11_monday cX11_monday 4 (some .int) ({ frames := 1, cells := 0, slots := 0, locals := 20 } : Room) [.ref (q 0)] (zMI0, zMR0, zMJ0) (fun r _ => r = (-2)) := by
  intro sz
  refine z_body (by decide +kernel) (Nat.le_of_ble_eq_true rfl) (fun p e s m below meth c ls hx hb hml hr ht hown hlocks hsz hK hP hD hS hl => ?_)
  have hA : ∀ a, s.heap.size ≤ a → zA 25 q sz a := fun a h => Or.inr (hsz ▸ h)
  have hl : lv_has ls 4 [(0, .ref (q 0))] := hl
  refine lv_aload_n hx hb dX11_monday_0 rfl (lv_at hl 0 rfl) ?_
  refine z_callVi (k := 0) (As := []) (rest := []) hx hb hml hown ht (kX11_isCity l D q cA ) hw_7_75 hmX11_isCity ⟨rfl, rfl⟩ (na := 0) rfl (by decide +kernel) (by decide) (by decide) rfl rfl hK hP hD hS hA hl.1 rfl (Nat.le_of_ble_eq_true rfl) ⟨Nat.zero_le _, Nat.zero_le _⟩ dX11_monday_1 (fun r_1 I_1 R_1 J_1 H locs hp_1 hP hD hS _ _ => ?_)
  obtain ⟨rfl, hu_1⟩ := hp_1
  cases hu_1
  refine lv_if_ne (tgt := 10) hx hb dX11_monday_4 (by decide) (fun c_0 => absurd c_0 (by decide +kernel)) (fun _ => ?_)
  refine lv_bipush (v := (-2)) hx hb dX11_monday_7 (by decide +kernel) ?_
  exact z_iret (v := (-2)) hx hb hr hlocks hP hD hS dX11_monday_9 rfl
set_option maxHeartbeats 4000000 in
set_option maxRecDepth 100000 in
theorem kX11_lacks (l : Launch) (D : va_G) (q : Nat → Nat) (cA : Nat → ClassId)  (h : Int32)  : zMi l D vwCl (zMtys cA) 25 q (zMd q cA) yX11_lacks cX11_lacks 4 (some .int) ({ frames := 2, cells := 0, slots := 0, locals := 47 } : Room) [.ref (q 0), .int (h)] (zMI0, zMR0, zMJ0) (fun r _ => r = (-2)) := by
  intro sz
  refine z_body (by decide +kernel) (Nat.le_of_ble_eq_true rfl) (fun p e s m below meth c ls hx hb hml hr ht hown hlocks hsz hK hP hD hS hl => ?_)
  have hA : ∀ a, s.heap.size ≤ a → zA 25 q sz a := fun a h => Or.inr (hsz ▸ h)
  have hl : lv_has ls 4 [(0, .ref (q 0)), (1, .int (h))] := hl
  refine lv_aload_n hx hb dX11_lacks_0 rfl (lv_at hl 0 rfl) ?_
  refine lv_iload_n hx hb dX11_lacks_1 rfl (lv_at hl 1 rfl) ?_
  refine lv_i2l (v := (h).toInt64) hx hb dX11_lacks_2 rfl ?_
  refine z_callVi (k := 0) (As := [.long ((h).toInt64)]) (rest := []) hx hb hml hown ht (kX11_isHouse l D q cA ((h).toInt64)) hw_6_176 hmX11_isHouse ⟨rfl, rfl⟩ (na := 1) rfl (by decide +kernel) (by decide) (by decide) rfl rfl hK hP hD hS hA hl.1 rfl (Nat.le_of_ble_eq_true rfl) ⟨Nat.zero_le _, Nat.zero_le _⟩ dX11_lacks_3 (fun r_1 I_1 R_1 J_1 H locs hp_1 hP hD hS _ _ => ?_)
  obtain ⟨rfl, hu_1⟩ := hp_1
  cases hu_1
  refine lv_if_ne (tgt := 12) hx hb dX11_lacks_6 (by decide) (fun c_0 => absurd c_0 (by decide +kernel)) (fun _ => ?_)
  refine lv_bipush (v := (-2)) hx hb dX11_lacks_9 (by decide +kernel) ?_
  exact z_iret (v := (-2)) hx hb hr hlocks hP hD hS dX11_lacks_11 rfl
set_option maxHeartbeats 4000000 in
set_option maxRecDepth 100000 in
theorem kX11_needs_ (l : Launch) (D : va_G) (q : Nat → Nat) (cA : Nat → ClassId)  (h : Int32)  : zMi l D vwCl (zMtys cA) 25 q (zMd q cA) yX11_needs_ cX11_needs_ 3 (some .int) ({ frames := 2, cells := 0, slots := 0, locals := 47 } : Room) [.ref (q 0), .int (h)] (zMI0, zMR0, zMJ0) (fun r _ => r = (-2)) := by
  intro sz
  refine z_body (by decide +kernel) (Nat.le_of_ble_eq_true rfl) (fun p e s m below meth c ls hx hb hml hr ht hown hlocks hsz hK hP hD hS hl => ?_)
  have hA : ∀ a, s.heap.size ≤ a → zA 25 q sz a := fun a h => Or.inr (hsz ▸ h)
  have hl : lv_has ls 3 [(0, .ref (q 0)), (1, .int (h))] := hl
  refine lv_aload_n hx hb dX11_needs__0 rfl (lv_at hl 0 rfl) ?_
  refine lv_iload_n hx hb dX11_needs__1 rfl (lv_at hl 1 rfl) ?_
  refine lv_i2l (v := (h).toInt64) hx hb dX11_needs__2 rfl ?_
  refine z_callVi (k := 0) (As := [.long ((h).toInt64)]) (rest := []) hx hb hml hown ht (kX11_isHouse l D q cA ((h).toInt64)) hw_6_176 hmX11_isHouse ⟨rfl, rfl⟩ (na := 1) rfl (by decide +kernel) (by decide) (by decide) rfl rfl hK hP hD hS hA hl.1 rfl (Nat.le_of_ble_eq_true rfl) ⟨Nat.zero_le _, Nat.zero_le _⟩ dX11_needs__3 (fun r_1 I_1 R_1 J_1 H locs hp_1 hP hD hS _ _ => ?_)
  obtain ⟨rfl, hu_1⟩ := hp_1
  cases hu_1
  refine lv_if_ne (tgt := 12) hx hb dX11_needs__6 (by decide) (fun c_0 => absurd c_0 (by decide +kernel)) (fun _ => ?_)
  refine lv_bipush (v := (-2)) hx hb dX11_needs__9 (by decide +kernel) ?_
  exact z_iret (v := (-2)) hx hb hr hlocks hP hD hS dX11_needs__11 rfl
set_option maxHeartbeats 4000000 in
set_option maxRecDepth 100000 in
theorem kX11_fails (l : Launch) (D : va_G) (q : Nat → Nat) (cA : Nat → ClassId)  (n : Int32)  : zMi l D vwCl (zMtys cA) 25 q (zMd q cA) yX11_fails cX11_fails 2 (some .int) ({ frames := 1, cells := 0, slots := 0, locals := 20 } : Room) [.ref (q 0), .int (n)] (zMI0, zMR0, zMJ0) (fun r _ => r = (-2)) := by
  intro sz
  refine z_body (by decide +kernel) (Nat.le_of_ble_eq_true rfl) (fun p e s m below meth c ls hx hb hml hr ht hown hlocks hsz hK hP hD hS hl => ?_)
  have hA : ∀ a, s.heap.size ≤ a → zA 25 q sz a := fun a h => Or.inr (hsz ▸ h)
  have hl : lv_has ls 2 [(0, .ref (q 0)), (1, .int (n))] := hl
  refine lv_aload_n hx hb dX11_fails_0 rfl (lv_at hl 0 rfl) ?_
  refine z_callVi (k := 0) (As := []) (rest := []) hx hb hml hown ht (kX11_isCity l D q cA ) hw_7_75 hmX11_isCity ⟨rfl, rfl⟩ (na := 0) rfl (by decide +kernel) (by decide) (by decide) rfl rfl hK hP hD hS hA hl.1 rfl (Nat.le_of_ble_eq_true rfl) ⟨Nat.zero_le _, Nat.zero_le _⟩ dX11_fails_1 (fun r_1 I_1 R_1 J_1 H locs hp_1 hP hD hS _ _ => ?_)
  obtain ⟨rfl, hu_1⟩ := hp_1
  cases hu_1
  refine lv_if_eq (tgt := 22) hx hb dX11_fails_4 (by decide) (fun _ => ?_) (fun c_0 => absurd (by decide +kernel) c_0)
  refine lv_bipush (v := (-2)) hx hb dX11_fails_22 (by decide +kernel) ?_
  exact z_iret (v := (-2)) hx hb hr hlocks hP hD hS dX11_fails_24 rfl
set_option maxHeartbeats 4000000 in
set_option maxRecDepth 100000 in
theorem kX11_later (l : Launch) (D : va_G) (q : Nat → Nat) (cA : Nat → ClassId)  (t : Int32) (n : Int32)  : zMi l D vwCl (zMtys cA) 25 q (zMd q cA) yX11_later cX11_later 3 (some .int) ({ frames := 2, cells := 0, slots := 0, locals := 47 } : Room) [.ref (q 0), .int (t), .int (n)] (zMI0, zMR0, zMJ0) (fun r _ => r = (-2)) := by
  intro sz
  refine z_body (by decide +kernel) (Nat.le_of_ble_eq_true rfl) (fun p e s m below meth c ls hx hb hml hr ht hown hlocks hsz hK hP hD hS hl => ?_)
  have hA : ∀ a, s.heap.size ≤ a → zA 25 q sz a := fun a h => Or.inr (hsz ▸ h)
  have hl : lv_has ls 3 [(0, .ref (q 0)), (1, .int (t)), (2, .int (n))] := hl
  refine lv_aload_n hx hb dX11_later_0 rfl (lv_at hl 0 rfl) ?_
  refine lv_iload_n hx hb dX11_later_1 rfl (lv_at hl 1 rfl) ?_
  refine lv_i2l (v := (t).toInt64) hx hb dX11_later_2 rfl ?_
  refine z_callVi (k := 0) (As := [.long ((t).toInt64)]) (rest := []) hx hb hml hown ht (kX11_isThing l D q cA ((t).toInt64)) hw_6_238 hmX11_isThing ⟨rfl, rfl⟩ (na := 1) rfl (by decide +kernel) (by decide) (by decide) rfl rfl hK hP hD hS hA hl.1 rfl (Nat.le_of_ble_eq_true rfl) ⟨Nat.zero_le _, Nat.zero_le _⟩ dX11_later_3 (fun r_1 I_1 R_1 J_1 H locs hp_1 hP hD hS _ _ => ?_)
  obtain ⟨rfl, hu_1⟩ := hp_1
  cases hu_1
  refine lv_if_eq (tgt := 16) hx hb dX11_later_6 (by decide) (fun _ => ?_) (fun c_0 => absurd (by decide +kernel) c_0)
  refine lv_bipush (v := (-2)) hx hb dX11_later_16 (by decide +kernel) ?_
  exact z_iret (v := (-2)) hx hb hr hlocks hP hD hS dX11_later_18 rfl
set_option maxHeartbeats 4000000 in
set_option maxRecDepth 100000 in
theorem kX11_purse (l : Launch) (D : va_G) (q : Nat → Nat) (cA : Nat → ClassId)  (h : Int32) (n : Int32)  : zMi l D vwCl (zMtys cA) 25 q (zMd q cA) yX11_purse cX11_purse 3 (some .int) ({ frames := 2, cells := 0, slots := 0, locals := 47 } : Room) [.ref (q 0), .int (h), .int (n)] (zMI0, zMR0, zMJ0) (fun r _ => r = (-2)) := by
  intro sz
  refine z_body (by decide +kernel) (Nat.le_of_ble_eq_true rfl) (fun p e s m below meth c ls hx hb hml hr ht hown hlocks hsz hK hP hD hS hl => ?_)
  have hA : ∀ a, s.heap.size ≤ a → zA 25 q sz a := fun a h => Or.inr (hsz ▸ h)
  have hl : lv_has ls 3 [(0, .ref (q 0)), (1, .int (h)), (2, .int (n))] := hl
  refine lv_aload_n hx hb dX11_purse_0 rfl (lv_at hl 0 rfl) ?_
  refine lv_iload_n hx hb dX11_purse_1 rfl (lv_at hl 1 rfl) ?_
  refine lv_i2l (v := (h).toInt64) hx hb dX11_purse_2 rfl ?_
  refine z_callVi (k := 0) (As := [.long ((h).toInt64)]) (rest := []) hx hb hml hown ht (kX11_isHouse l D q cA ((h).toInt64)) hw_6_176 hmX11_isHouse ⟨rfl, rfl⟩ (na := 1) rfl (by decide +kernel) (by decide) (by decide) rfl rfl hK hP hD hS hA hl.1 rfl (Nat.le_of_ble_eq_true rfl) ⟨Nat.zero_le _, Nat.zero_le _⟩ dX11_purse_3 (fun r_1 I_1 R_1 J_1 H locs hp_1 hP hD hS _ _ => ?_)
  obtain ⟨rfl, hu_1⟩ := hp_1
  cases hu_1
  refine lv_if_eq (tgt := 16) hx hb dX11_purse_6 (by decide) (fun _ => ?_) (fun c_0 => absurd (by decide +kernel) c_0)
  refine lv_bipush (v := (-2)) hx hb dX11_purse_16 (by decide +kernel) ?_
  exact z_iret (v := (-2)) hx hb hr hlocks hP hD hS dX11_purse_18 rfl
set_option maxHeartbeats 4000000 in
set_option maxRecDepth 100000 in
theorem kX11_run (l : Launch) (D : va_G) (q : Nat → Nat) (cA : Nat → ClassId)    : zMi l D vwCl (zMtys cA) 25 q (zMd q cA) yX11_run cX11_run 4 (some .int) ({ frames := 1, cells := 0, slots := 0, locals := 20 } : Room) [.ref (q 0)] (zMI0, zMR0, zMJ0) (fun r _ => r = (-2)) := by
  intro sz
  refine z_body (by decide +kernel) (Nat.le_of_ble_eq_true rfl) (fun p e s m below meth c ls hx hb hml hr ht hown hlocks hsz hK hP hD hS hl => ?_)
  have hA : ∀ a, s.heap.size ≤ a → zA 25 q sz a := fun a h => Or.inr (hsz ▸ h)
  have hl : lv_has ls 4 [(0, .ref (q 0))] := hl
  refine lv_aload_n hx hb dX11_run_0 rfl (lv_at hl 0 rfl) ?_
  refine z_callVi (k := 0) (As := []) (rest := []) hx hb hml hown ht (kX11_isCity l D q cA ) hw_7_75 hmX11_isCity ⟨rfl, rfl⟩ (na := 0) rfl (by decide +kernel) (by decide) (by decide) rfl rfl hK hP hD hS hA hl.1 rfl (Nat.le_of_ble_eq_true rfl) ⟨Nat.zero_le _, Nat.zero_le _⟩ dX11_run_1 (fun r_1 I_1 R_1 J_1 H locs hp_1 hP hD hS _ _ => ?_)
  obtain ⟨rfl, hu_1⟩ := hp_1
  cases hu_1
  refine lv_if_ne (tgt := 10) hx hb dX11_run_4 (by decide) (fun c_0 => absurd c_0 (by decide +kernel)) (fun _ => ?_)
  refine lv_bipush (v := (-2)) hx hb dX11_run_7 (by decide +kernel) ?_
  exact z_iret (v := (-2)) hx hb hr hlocks hP hD hS dX11_run_9 rfl
set_option maxHeartbeats 4000000 in
set_option maxRecDepth 100000 in
theorem kX11_hit (l : Launch) (D : va_G) (q : Nat → Nat) (cA : Nat → ClassId)  (h : Int32)  : zMi l D vwCl (zMtys cA) 25 q (zMd q cA) yX11_hit cX11_hit 2 (some .int) ({ frames := 2, cells := 0, slots := 0, locals := 47 } : Room) [.ref (q 0), .int (h)] (zMI0, zMR0, zMJ0) (fun r _ => r = (-2)) := by
  intro sz
  refine z_body (by decide +kernel) (Nat.le_of_ble_eq_true rfl) (fun p e s m below meth c ls hx hb hml hr ht hown hlocks hsz hK hP hD hS hl => ?_)
  have hA : ∀ a, s.heap.size ≤ a → zA 25 q sz a := fun a h => Or.inr (hsz ▸ h)
  have hl : lv_has ls 2 [(0, .ref (q 0)), (1, .int (h))] := hl
  refine lv_aload_n hx hb dX11_hit_0 rfl (lv_at hl 0 rfl) ?_
  refine lv_iload_n hx hb dX11_hit_1 rfl (lv_at hl 1 rfl) ?_
  refine lv_i2l (v := (h).toInt64) hx hb dX11_hit_2 rfl ?_
  refine z_callVi (k := 0) (As := [.long ((h).toInt64)]) (rest := []) hx hb hml hown ht (kX11_isHouse l D q cA ((h).toInt64)) hw_6_176 hmX11_isHouse ⟨rfl, rfl⟩ (na := 1) rfl (by decide +kernel) (by decide) (by decide) rfl rfl hK hP hD hS hA hl.1 rfl (Nat.le_of_ble_eq_true rfl) ⟨Nat.zero_le _, Nat.zero_le _⟩ dX11_hit_3 (fun r_1 I_1 R_1 J_1 H locs hp_1 hP hD hS _ _ => ?_)
  obtain ⟨rfl, hu_1⟩ := hp_1
  cases hu_1
  refine lv_if_eq (tgt := 17) hx hb dX11_hit_6 (by decide) (fun _ => ?_) (fun c_0 => absurd (by decide +kernel) c_0)
  refine lv_bipush (v := (-2)) hx hb dX11_hit_17 (by decide +kernel) ?_
  exact z_iret (v := (-2)) hx hb hr hlocks hP hD hS dX11_hit_19 rfl
set_option maxHeartbeats 4000000 in
set_option maxRecDepth 100000 in
theorem kX11_hits (l : Launch) (D : va_G) (q : Nat → Nat) (cA : Nat → ClassId)  (h : Int32)  : zMi l D vwCl (zMtys cA) 25 q (zMd q cA) yX11_hits cX11_hits 2 (some .int) ({ frames := 2, cells := 0, slots := 0, locals := 47 } : Room) [.ref (q 0), .int (h)] (zMI0, zMR0, zMJ0) (fun r _ => r = (-2)) := by
  intro sz
  refine z_body (by decide +kernel) (Nat.le_of_ble_eq_true rfl) (fun p e s m below meth c ls hx hb hml hr ht hown hlocks hsz hK hP hD hS hl => ?_)
  have hA : ∀ a, s.heap.size ≤ a → zA 25 q sz a := fun a h => Or.inr (hsz ▸ h)
  have hl : lv_has ls 2 [(0, .ref (q 0)), (1, .int (h))] := hl
  refine lv_aload_n hx hb dX11_hits_0 rfl (lv_at hl 0 rfl) ?_
  refine lv_iload_n hx hb dX11_hits_1 rfl (lv_at hl 1 rfl) ?_
  refine lv_i2l (v := (h).toInt64) hx hb dX11_hits_2 rfl ?_
  refine z_callVi (k := 0) (As := [.long ((h).toInt64)]) (rest := []) hx hb hml hown ht (kX11_isHouse l D q cA ((h).toInt64)) hw_6_176 hmX11_isHouse ⟨rfl, rfl⟩ (na := 1) rfl (by decide +kernel) (by decide) (by decide) rfl rfl hK hP hD hS hA hl.1 rfl (Nat.le_of_ble_eq_true rfl) ⟨Nat.zero_le _, Nat.zero_le _⟩ dX11_hits_3 (fun r_1 I_1 R_1 J_1 H locs hp_1 hP hD hS _ _ => ?_)
  obtain ⟨rfl, hu_1⟩ := hp_1
  cases hu_1
  refine lv_if_ne (tgt := 12) hx hb dX11_hits_6 (by decide) (fun c_0 => absurd c_0 (by decide +kernel)) (fun _ => ?_)
  refine lv_bipush (v := (-2)) hx hb dX11_hits_9 (by decide +kernel) ?_
  exact z_iret (v := (-2)) hx hb hr hlocks hP hD hS dX11_hits_11 rfl
set_option maxHeartbeats 4000000 in
set_option maxRecDepth 100000 in
theorem kX11_plan (l : Launch) (D : va_G) (q : Nat → Nat) (cA : Nat → ClassId)  (h : Int32) (n : Int32)  : zMi l D vwCl (zMtys cA) 25 q (zMd q cA) yX11_plan cX11_plan 6 (some .int) ({ frames := 2, cells := 0, slots := 0, locals := 47 } : Room) [.ref (q 0), .int (h), .int (n)] (zMI0, zMR0, zMJ0) (fun r _ => r = (-2)) := by
  intro sz
  refine z_body (by decide +kernel) (Nat.le_of_ble_eq_true rfl) (fun p e s m below meth c ls hx hb hml hr ht hown hlocks hsz hK hP hD hS hl => ?_)
  have hA : ∀ a, s.heap.size ≤ a → zA 25 q sz a := fun a h => Or.inr (hsz ▸ h)
  have hl : lv_has ls 6 [(0, .ref (q 0)), (1, .int (h)), (2, .int (n))] := hl
  refine lv_aload_n hx hb dX11_plan_0 rfl (lv_at hl 0 rfl) ?_
  refine lv_iload_n hx hb dX11_plan_1 rfl (lv_at hl 1 rfl) ?_
  refine lv_i2l (v := (h).toInt64) hx hb dX11_plan_2 rfl ?_
  refine z_callVi (k := 0) (As := [.long ((h).toInt64)]) (rest := []) hx hb hml hown ht (kX11_isHouse l D q cA ((h).toInt64)) hw_6_176 hmX11_isHouse ⟨rfl, rfl⟩ (na := 1) rfl (by decide +kernel) (by decide) (by decide) rfl rfl hK hP hD hS hA hl.1 rfl (Nat.le_of_ble_eq_true rfl) ⟨Nat.zero_le _, Nat.zero_le _⟩ dX11_plan_3 (fun r_1 I_1 R_1 J_1 H locs hp_1 hP hD hS _ _ => ?_)
  obtain ⟨rfl, hu_1⟩ := hp_1
  cases hu_1
  refine lv_if_eq (tgt := 16) hx hb dX11_plan_6 (by decide) (fun _ => ?_) (fun c_0 => absurd (by decide +kernel) c_0)
  refine lv_bipush (v := (-2)) hx hb dX11_plan_16 (by decide +kernel) ?_
  exact z_iret (v := (-2)) hx hb hr hlocks hP hD hS dX11_plan_18 rfl
set_option maxHeartbeats 4000000 in
set_option maxRecDepth 100000 in
theorem kX11_plans (l : Launch) (D : va_G) (q : Nat → Nat) (cA : Nat → ClassId)  (h : Int32) (n : Int32) (i : Int32)  : zMi l D vwCl (zMtys cA) 25 q (zMd q cA) yX11_plans cX11_plans 6 (some .int) ({ frames := 2, cells := 0, slots := 0, locals := 47 } : Room) [.ref (q 0), .int (h), .int (n), .int (i)] (zMI0, zMR0, zMJ0) (fun r _ => r = (-2)) := by
  intro sz
  refine z_body (by decide +kernel) (Nat.le_of_ble_eq_true rfl) (fun p e s m below meth c ls hx hb hml hr ht hown hlocks hsz hK hP hD hS hl => ?_)
  have hA : ∀ a, s.heap.size ≤ a → zA 25 q sz a := fun a h => Or.inr (hsz ▸ h)
  have hl : lv_has ls 6 [(0, .ref (q 0)), (1, .int (h)), (2, .int (n)), (3, .int (i))] := hl
  refine lv_aload_n hx hb dX11_plans_0 rfl (lv_at hl 0 rfl) ?_
  refine lv_iload_n hx hb dX11_plans_1 rfl (lv_at hl 1 rfl) ?_
  refine lv_i2l (v := (h).toInt64) hx hb dX11_plans_2 rfl ?_
  refine z_callVi (k := 0) (As := [.long ((h).toInt64)]) (rest := []) hx hb hml hown ht (kX11_isHouse l D q cA ((h).toInt64)) hw_6_176 hmX11_isHouse ⟨rfl, rfl⟩ (na := 1) rfl (by decide +kernel) (by decide) (by decide) rfl rfl hK hP hD hS hA hl.1 rfl (Nat.le_of_ble_eq_true rfl) ⟨Nat.zero_le _, Nat.zero_le _⟩ dX11_plans_3 (fun r_1 I_1 R_1 J_1 H locs hp_1 hP hD hS _ _ => ?_)
  obtain ⟨rfl, hu_1⟩ := hp_1
  cases hu_1
  refine lv_if_eq (tgt := 16) hx hb dX11_plans_6 (by decide) (fun _ => ?_) (fun c_0 => absurd (by decide +kernel) c_0)
  refine lv_bipush (v := (-2)) hx hb dX11_plans_16 (by decide +kernel) ?_
  exact z_iret (v := (-2)) hx hb hr hlocks hP hD hS dX11_plans_18 rfl
set_option maxHeartbeats 4000000 in
set_option maxRecDepth 100000 in
theorem kX11_change (l : Launch) (D : va_G) (q : Nat → Nat) (cA : Nat → ClassId)  (h : Int32) (o : Int32)  : zMi l D vwCl (zMtys cA) 25 q (zMd q cA) yX11_change cX11_change 5 (some .int) ({ frames := 2, cells := 0, slots := 0, locals := 47 } : Room) [.ref (q 0), .int (h), .int (o)] (zMI0, zMR0, zMJ0) (fun r _ => r = (-2)) := by
  intro sz
  refine z_body (by decide +kernel) (Nat.le_of_ble_eq_true rfl) (fun p e s m below meth c ls hx hb hml hr ht hown hlocks hsz hK hP hD hS hl => ?_)
  have hA : ∀ a, s.heap.size ≤ a → zA 25 q sz a := fun a h => Or.inr (hsz ▸ h)
  have hl : lv_has ls 5 [(0, .ref (q 0)), (1, .int (h)), (2, .int (o))] := hl
  refine lv_aload_n hx hb dX11_change_0 rfl (lv_at hl 0 rfl) ?_
  refine lv_iload_n hx hb dX11_change_1 rfl (lv_at hl 1 rfl) ?_
  refine lv_i2l (v := (h).toInt64) hx hb dX11_change_2 rfl ?_
  refine z_callVi (k := 0) (As := [.long ((h).toInt64)]) (rest := []) hx hb hml hown ht (kX11_isHouse l D q cA ((h).toInt64)) hw_6_176 hmX11_isHouse ⟨rfl, rfl⟩ (na := 1) rfl (by decide +kernel) (by decide) (by decide) rfl rfl hK hP hD hS hA hl.1 rfl (Nat.le_of_ble_eq_true rfl) ⟨Nat.zero_le _, Nat.zero_le _⟩ dX11_change_3 (fun r_1 I_1 R_1 J_1 H locs hp_1 hP hD hS _ _ => ?_)
  obtain ⟨rfl, hu_1⟩ := hp_1
  cases hu_1
  refine lv_if_eq (tgt := 23) hx hb dX11_change_6 (by decide) (fun _ => ?_) (fun c_0 => absurd (by decide +kernel) c_0)
  refine lv_bipush (v := (-2)) hx hb dX11_change_23 (by decide +kernel) ?_
  exact z_iret (v := (-2)) hx hb hr hlocks hP hD hS dX11_change_25 rfl
set_option maxHeartbeats 4000000 in
set_option maxRecDepth 100000 in
theorem kX11_deal (l : Launch) (D : va_G) (q : Nat → Nat) (cA : Nat → ClassId)    : zMi l D vwCl (zMtys cA) 25 q (zMd q cA) yX11_deal cX11_deal 1 (some .int) ({ frames := 1, cells := 0, slots := 0, locals := 20 } : Room) [.ref (q 0)] (zMI0, zMR0, zMJ0) (fun r _ => r = (-2)) := by
  intro sz
  refine z_body (by decide +kernel) (Nat.le_of_ble_eq_true rfl) (fun p e s m below meth c ls hx hb hml hr ht hown hlocks hsz hK hP hD hS hl => ?_)
  have hA : ∀ a, s.heap.size ≤ a → zA 25 q sz a := fun a h => Or.inr (hsz ▸ h)
  have hl : lv_has ls 1 [(0, .ref (q 0))] := hl
  refine lv_aload_n hx hb dX11_deal_0 rfl (lv_at hl 0 rfl) ?_
  refine z_callVi (k := 0) (As := []) (rest := []) hx hb hml hown ht (kX11_isCity l D q cA ) hw_7_75 hmX11_isCity ⟨rfl, rfl⟩ (na := 0) rfl (by decide +kernel) (by decide) (by decide) rfl rfl hK hP hD hS hA hl.1 rfl (Nat.le_of_ble_eq_true rfl) ⟨Nat.zero_le _, Nat.zero_le _⟩ dX11_deal_1 (fun r_1 I_1 R_1 J_1 H locs hp_1 hP hD hS _ _ => ?_)
  obtain ⟨rfl, hu_1⟩ := hp_1
  cases hu_1
  refine lv_if_eq (tgt := 14) hx hb dX11_deal_4 (by decide) (fun _ => ?_) (fun c_0 => absurd (by decide +kernel) c_0)
  refine lv_bipush (v := (-2)) hx hb dX11_deal_14 (by decide +kernel) ?_
  exact z_iret (v := (-2)) hx hb hr hlocks hP hD hS dX11_deal_16 rfl
set_option maxHeartbeats 4000000 in
set_option maxRecDepth 100000 in
theorem kX11_deals (l : Launch) (D : va_G) (q : Nat → Nat) (cA : Nat → ClassId)  (t : Int32)  : zMi l D vwCl (zMtys cA) 25 q (zMd q cA) yX11_deals cX11_deals 6 (some .int) ({ frames := 2, cells := 0, slots := 0, locals := 47 } : Room) [.ref (q 0), .int (t)] (zMI0, zMR0, zMJ0) (fun r _ => r = (-2)) := by
  intro sz
  refine z_body (by decide +kernel) (Nat.le_of_ble_eq_true rfl) (fun p e s m below meth c ls hx hb hml hr ht hown hlocks hsz hK hP hD hS hl => ?_)
  have hA : ∀ a, s.heap.size ≤ a → zA 25 q sz a := fun a h => Or.inr (hsz ▸ h)
  have hl : lv_has ls 6 [(0, .ref (q 0)), (1, .int (t))] := hl
  refine lv_aload_n hx hb dX11_deals_0 rfl (lv_at hl 0 rfl) ?_
  refine lv_iload_n hx hb dX11_deals_1 rfl (lv_at hl 1 rfl) ?_
  refine lv_i2l (v := (t).toInt64) hx hb dX11_deals_2 rfl ?_
  refine z_callVi (k := 0) (As := [.long ((t).toInt64)]) (rest := []) hx hb hml hown ht (kX11_isThing l D q cA ((t).toInt64)) hw_6_238 hmX11_isThing ⟨rfl, rfl⟩ (na := 1) rfl (by decide +kernel) (by decide) (by decide) rfl rfl hK hP hD hS hA hl.1 rfl (Nat.le_of_ble_eq_true rfl) ⟨Nat.zero_le _, Nat.zero_le _⟩ dX11_deals_3 (fun r_1 I_1 R_1 J_1 H locs hp_1 hP hD hS _ _ => ?_)
  obtain ⟨rfl, hu_1⟩ := hp_1
  cases hu_1
  refine lv_if_ne (tgt := 12) hx hb dX11_deals_6 (by decide) (fun c_0 => absurd c_0 (by decide +kernel)) (fun _ => ?_)
  refine lv_bipush (v := (-2)) hx hb dX11_deals_9 (by decide +kernel) ?_
  exact z_iret (v := (-2)) hx hb hr hlocks hP hD hS dX11_deals_11 rfl
set_option maxHeartbeats 4000000 in
set_option maxRecDepth 100000 in
theorem kX11_dear (l : Launch) (D : va_G) (q : Nat → Nat) (cA : Nat → ClassId)    : zMi l D vwCl (zMtys cA) 25 q (zMd q cA) yX11_dear cX11_dear 2 (some .int) ({ frames := 1, cells := 0, slots := 0, locals := 20 } : Room) [.ref (q 0)] (zMI0, zMR0, zMJ0) (fun r _ => r = (-2)) := by
  intro sz
  refine z_body (by decide +kernel) (Nat.le_of_ble_eq_true rfl) (fun p e s m below meth c ls hx hb hml hr ht hown hlocks hsz hK hP hD hS hl => ?_)
  have hA : ∀ a, s.heap.size ≤ a → zA 25 q sz a := fun a h => Or.inr (hsz ▸ h)
  have hl : lv_has ls 2 [(0, .ref (q 0))] := hl
  refine lv_aload_n hx hb dX11_dear_0 rfl (lv_at hl 0 rfl) ?_
  refine z_callVi (k := 0) (As := []) (rest := []) hx hb hml hown ht (kX11_isCity l D q cA ) hw_7_75 hmX11_isCity ⟨rfl, rfl⟩ (na := 0) rfl (by decide +kernel) (by decide) (by decide) rfl rfl hK hP hD hS hA hl.1 rfl (Nat.le_of_ble_eq_true rfl) ⟨Nat.zero_le _, Nat.zero_le _⟩ dX11_dear_1 (fun r_1 I_1 R_1 J_1 H locs hp_1 hP hD hS _ _ => ?_)
  obtain ⟨rfl, hu_1⟩ := hp_1
  cases hu_1
  refine lv_if_ne (tgt := 10) hx hb dX11_dear_4 (by decide) (fun c_0 => absurd c_0 (by decide +kernel)) (fun _ => ?_)
  refine lv_bipush (v := (-2)) hx hb dX11_dear_7 (by decide +kernel) ?_
  exact z_iret (v := (-2)) hx hb hr hlocks hP hD hS dX11_dear_9 rfl
set_option maxHeartbeats 4000000 in
set_option maxRecDepth 100000 in
theorem kX11_rate (l : Launch) (D : va_G) (q : Nat → Nat) (cA : Nat → ClassId)  (t : Int32) (n : Int32)  : zMi l D vwCl (zMtys cA) 25 q (zMd q cA) yX11_rate cX11_rate 3 (some .int) ({ frames := 2, cells := 0, slots := 0, locals := 47 } : Room) [.ref (q 0), .int (t), .int (n)] (zMI0, zMR0, zMJ0) (fun r _ => r = (-2)) := by
  intro sz
  refine z_body (by decide +kernel) (Nat.le_of_ble_eq_true rfl) (fun p e s m below meth c ls hx hb hml hr ht hown hlocks hsz hK hP hD hS hl => ?_)
  have hA : ∀ a, s.heap.size ≤ a → zA 25 q sz a := fun a h => Or.inr (hsz ▸ h)
  have hl : lv_has ls 3 [(0, .ref (q 0)), (1, .int (t)), (2, .int (n))] := hl
  refine lv_aload_n hx hb dX11_rate_0 rfl (lv_at hl 0 rfl) ?_
  refine lv_iload_n hx hb dX11_rate_1 rfl (lv_at hl 1 rfl) ?_
  refine lv_i2l (v := (t).toInt64) hx hb dX11_rate_2 rfl ?_
  refine z_callVi (k := 0) (As := [.long ((t).toInt64)]) (rest := []) hx hb hml hown ht (kX11_isThing l D q cA ((t).toInt64)) hw_6_238 hmX11_isThing ⟨rfl, rfl⟩ (na := 1) rfl (by decide +kernel) (by decide) (by decide) rfl rfl hK hP hD hS hA hl.1 rfl (Nat.le_of_ble_eq_true rfl) ⟨Nat.zero_le _, Nat.zero_le _⟩ dX11_rate_3 (fun r_1 I_1 R_1 J_1 H locs hp_1 hP hD hS _ _ => ?_)
  obtain ⟨rfl, hu_1⟩ := hp_1
  cases hu_1
  refine lv_if_eq (tgt := 37) hx hb dX11_rate_6 (by decide) (fun _ => ?_) (fun c_0 => absurd (by decide +kernel) c_0)
  refine lv_bipush (v := (-2)) hx hb dX11_rate_37 (by decide +kernel) ?_
  exact z_iret (v := (-2)) hx hb hr hlocks hP hD hS dX11_rate_39 rfl
set_option maxHeartbeats 4000000 in
set_option maxRecDepth 100000 in
theorem kX11_want (l : Launch) (D : va_G) (q : Nat → Nat) (cA : Nat → ClassId)  (h : Int32) (t : Int32) (n : Int32)  : zMi l D vwCl (zMtys cA) 25 q (zMd q cA) yX11_want cX11_want 4 (some .int) ({ frames := 2, cells := 0, slots := 0, locals := 47 } : Room) [.ref (q 0), .int (h), .int (t), .int (n)] (zMI0, zMR0, zMJ0) (fun r _ => r = (-2)) := by
  intro sz
  refine z_body (by decide +kernel) (Nat.le_of_ble_eq_true rfl) (fun p e s m below meth c ls hx hb hml hr ht hown hlocks hsz hK hP hD hS hl => ?_)
  have hA : ∀ a, s.heap.size ≤ a → zA 25 q sz a := fun a h => Or.inr (hsz ▸ h)
  have hl : lv_has ls 4 [(0, .ref (q 0)), (1, .int (h)), (2, .int (t)), (3, .int (n))] := hl
  refine lv_aload_n hx hb dX11_want_0 rfl (lv_at hl 0 rfl) ?_
  refine lv_iload_n hx hb dX11_want_1 rfl (lv_at hl 1 rfl) ?_
  refine lv_i2l (v := (h).toInt64) hx hb dX11_want_2 rfl ?_
  refine z_callVi (k := 0) (As := [.long ((h).toInt64)]) (rest := []) hx hb hml hown ht (kX11_isHouse l D q cA ((h).toInt64)) hw_6_176 hmX11_isHouse ⟨rfl, rfl⟩ (na := 1) rfl (by decide +kernel) (by decide) (by decide) rfl rfl hK hP hD hS hA hl.1 rfl (Nat.le_of_ble_eq_true rfl) ⟨Nat.zero_le _, Nat.zero_le _⟩ dX11_want_3 (fun r_1 I_1 R_1 J_1 H locs hp_1 hP hD hS _ _ => ?_)
  obtain ⟨rfl, hu_1⟩ := hp_1
  cases hu_1
  refine lv_if_eq (tgt := 47) hx hb dX11_want_6 (by decide) (fun _ => ?_) (fun c_0 => absurd (by decide +kernel) c_0)
  refine lv_bipush (v := (-2)) hx hb dX11_want_47 (by decide +kernel) ?_
  exact z_iret (v := (-2)) hx hb hr hlocks hP hD hS dX11_want_49 rfl
set_option maxHeartbeats 4000000 in
set_option maxRecDepth 100000 in
theorem kX10_hasCity (l : Launch) (D : va_G) (q : Nat → Nat) (cA : Nat → ClassId)    : zMi l D vwCl (zXtys cA) 81 q (zXd q cA) yX10_hasCity cX10_hasCity 1 (some .boolean) ({ frames := 0, cells := 0, slots := 0, locals := 0 } : Room) [.ref (q 0)] (zXI0, zXR0, zXJ0) (fun r u => r = nI 0 ∧ u = (zXI0, zXR0, zXJ0)) := by
  intro sz
  refine z_body (by decide +kernel) (Nat.le_of_ble_eq_true rfl) (fun p e s m below meth c ls hx hb hml hr ht hown hlocks hsz hK hP hD hS hl => ?_)
  have hA : ∀ a, s.heap.size ≤ a → zA 81 q sz a := fun a h => Or.inr (hsz ▸ h)
  have hl : lv_has ls 1 [(0, .ref (q 0))] := hl
  refine lv_aload_n hx hb dX10_hasCity_0 rfl (lv_at hl 0 rfl) ?_
  refine z_get hx hb ht hown hK hP ziX10 rfl 0 (by decide) 1 (by decide) hw_2_94 rfl (v := .ref (q 3)) rfl dX10_hasCity_1 ?_
  refine z_get hx hb ht hown hK hP ziX2 rfl 3 (by decide) 0 (by decide) hw_1_68 rfl (v := .int (nI 0)) rfl dX10_hasCity_4 ?_
  refine lv_if_le (tgt := 14) hx hb dX10_hasCity_7 (by decide) (fun _ => ?_) (fun c_0 => absurd (by decide +kernel) c_0)
  refine lv_iconst (v := nI 0) hx hb dX10_hasCity_14 (by decide +kernel) ?_
  exact z_zret (v := nI 0) hx hb hr hlocks hP hD hS (by decide +kernel) dX10_hasCity_15 ⟨rfl, rfl⟩
set_option maxHeartbeats 4000000 in
set_option maxRecDepth 100000 in
theorem kX10_isHouse (l : Launch) (D : va_G) (q : Nat → Nat) (cA : Nat → ClassId)  (h : Int32)  : zMi l D vwCl (zXtys cA) 81 q (zXd q cA) yX10_isHouse cX10_isHouse 2 (some .boolean) ({ frames := 0, cells := 0, slots := 0, locals := 0 } : Room) [.ref (q 0), .int (h)] (zXI0, zXR0, zXJ0) (fun r u => r = nI 0 ∧ u = (zXI0, zXR0, zXJ0)) := by
  intro sz
  refine z_body (by decide +kernel) (Nat.le_of_ble_eq_true rfl) (fun p e s m below meth c ls hx hb hml hr ht hown hlocks hsz hK hP hD hS hl => ?_)
  have hA : ∀ a, s.heap.size ≤ a → zA 81 q sz a := fun a h => Or.inr (hsz ▸ h)
  have hl : lv_has ls 2 [(0, .ref (q 0)), (1, .int (h))] := hl
  refine lv_iload_n hx hb dX10_isHouse_0 rfl (lv_at hl 1 rfl) ?_
  refine lv_if_lt (tgt := 19) hx hb dX10_isHouse_1 (by decide) (fun c_1 => ?_) (fun c_1 => ?_)
  · have kc_1_1 : (nI 0 : Int32).toInt = 0 := by decide +kernel
    have kc_1_2 : (0 : Int32).toInt = 0 := by decide +kernel
    have t_c_1 := z_ltT c_1
    refine lv_iconst (v := nI 0) hx hb dX10_isHouse_19 (by decide +kernel) ?_
    exact z_zret (v := nI 0) hx hb hr hlocks hP hD hS (by decide +kernel) dX10_isHouse_20 ⟨rfl, rfl⟩
  · have kc_1_1 : (nI 0 : Int32).toInt = 0 := by decide +kernel
    have kc_1_2 : (0 : Int32).toInt = 0 := by decide +kernel
    have t_c_1 := z_ltF c_1
    refine lv_iload_n hx hb dX10_isHouse_4 rfl (lv_at hl 1 rfl) ?_
    refine lv_aload_n hx hb dX10_isHouse_5 rfl (lv_at hl 0 rfl) ?_
    refine z_get hx hb ht hown hK hP ziX10 rfl 0 (by decide) 1 (by decide) hw_2_94 rfl (v := .ref (q 3)) rfl dX10_isHouse_6 ?_
    refine z_get hx hb ht hown hK hP ziX2 rfl 3 (by decide) 4 (by decide) hw_1_85 rfl (v := .int (nI 0)) rfl dX10_isHouse_9 ?_
    refine lv_icmp_ge (tgt := 19) hx hb dX10_isHouse_12 (by decide) (fun c_2 => ?_) (fun c_2 => ?_)
    · have kc_2_1 : (nI 0 : Int32).toInt = 0 := by decide +kernel
      have kc_2_2 : (0 : Int32).toInt = 0 := by decide +kernel
      have t_c_2 := z_leT c_2
      refine lv_iconst (v := nI 0) hx hb dX10_isHouse_19 (by decide +kernel) ?_
      exact z_zret (v := nI 0) hx hb hr hlocks hP hD hS (by decide +kernel) dX10_isHouse_20 ⟨rfl, rfl⟩
    · have kc_2_1 : (nI 0 : Int32).toInt = 0 := by decide +kernel
      have kc_2_2 : (0 : Int32).toInt = 0 := by decide +kernel
      have t_c_2 := z_leF c_2
      refine lv_iconst (v := nI 1) hx hb dX10_isHouse_15 (by decide +kernel) ?_
      refine lv_goto (tgt := 20) hx hb dX10_isHouse_16 (by decide) ?_
      exact z_zret (v := nI 1) hx hb hr hlocks hP hD hS (by decide +kernel) dX10_isHouse_20 (by exfalso; omega)
end
