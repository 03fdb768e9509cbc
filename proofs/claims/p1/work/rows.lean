section
-- ===== PART A: goes FIRST, ahead of the names: the tables' words, and 'selects' of the private methods out of them =====
/-- a private method of a class that the tables say can be made, by its rows of tables_1 -/
def lw_okq (q : MethodName × Nat) : Prop := (q.1.cls ≠ "java/lang/invoke/MethodHandle" ∧ q.1.cls ≠ "java/lang/invoke/VarHandle") ∧ Cond.instantiable q.1.cls q.2 ∈ tables_1 ∧ Cond.privateMethod q.1 ∈ tables_1 ∧ Cond.instanceMethod q.1 ∈ tables_1
theorem lw_p0 : lw_okq (⟨"ReceiptLeft$Tape", "step", "()V"⟩, 7) := ⟨⟨by decide +kernel, by decide +kernel⟩, List.mem_of_getElem? (i := 30) (by decide +kernel), List.mem_of_getElem? (i := 402) (by decide +kernel), List.mem_of_getElem? (i := 403) (by decide +kernel)⟩
theorem lw_p1 : lw_okq (⟨"ReceiptLeft$Tape", "readLine", "(LReceiptLeft$City;)V"⟩, 7) := ⟨⟨by decide +kernel, by decide +kernel⟩, List.mem_of_getElem? (i := 30) (by decide +kernel), List.mem_of_getElem? (i := 415) (by decide +kernel), List.mem_of_getElem? (i := 416) (by decide +kernel)⟩
theorem lw_p2 : lw_okq (⟨"ReceiptLeft$Tape", "readHead", "(LReceiptLeft$City;)V"⟩, 7) := ⟨⟨by decide +kernel, by decide +kernel⟩, List.mem_of_getElem? (i := 30) (by decide +kernel), List.mem_of_getElem? (i := 419) (by decide +kernel), List.mem_of_getElem? (i := 420) (by decide +kernel)⟩
theorem lw_p3 : lw_okq (⟨"ReceiptLeft$Tape", "isWord", "(Ljava/lang/String;)Z"⟩, 7) := ⟨⟨by decide +kernel, by decide +kernel⟩, List.mem_of_getElem? (i := 30) (by decide +kernel), List.mem_of_getElem? (i := 424) (by decide +kernel), List.mem_of_getElem? (i := 425) (by decide +kernel)⟩
theorem lw_p4 : lw_okq (⟨"ReceiptLeft$Tape", "expect", "(Z)V"⟩, 7) := ⟨⟨by decide +kernel, by decide +kernel⟩, List.mem_of_getElem? (i := 30) (by decide +kernel), List.mem_of_getElem? (i := 476) (by decide +kernel), List.mem_of_getElem? (i := 477) (by decide +kernel)⟩
theorem lw_p5 : lw_okq (⟨"ReceiptLeft$Tape", "refuse", "(I)V"⟩, 7) := ⟨⟨by decide +kernel, by decide +kernel⟩, List.mem_of_getElem? (i := 30) (by decide +kernel), List.mem_of_getElem? (i := 480) (by decide +kernel), List.mem_of_getElem? (i := 481) (by decide +kernel)⟩
theorem lw_p6 : lw_okq (⟨"ReceiptLeft$Tape", "number", "(II)I"⟩, 7) := ⟨⟨by decide +kernel, by decide +kernel⟩, List.mem_of_getElem? (i := 30) (by decide +kernel), List.mem_of_getElem? (i := 485) (by decide +kernel), List.mem_of_getElem? (i := 486) (by decide +kernel)⟩
theorem lw_p7 : lw_okq (⟨"ReceiptLeft$Tape", "told", "()I"⟩, 7) := ⟨⟨by decide +kernel, by decide +kernel⟩, List.mem_of_getElem? (i := 30) (by decide +kernel), List.mem_of_getElem? (i := 489) (by decide +kernel), List.mem_of_getElem? (i := 490) (by decide +kernel)⟩
theorem lw_p8 : lw_okq (⟨"ReceiptLeft$Tape", "readHouse", "(LReceiptLeft$City;)V"⟩, 7) := ⟨⟨by decide +kernel, by decide +kernel⟩, List.mem_of_getElem? (i := 30) (by decide +kernel), List.mem_of_getElem? (i := 497) (by decide +kernel), List.mem_of_getElem? (i := 498) (by decide +kernel)⟩
theorem lw_p9 : lw_okq (⟨"ReceiptLeft$Tape", "readThing", "(LReceiptLeft$City;)V"⟩, 7) := ⟨⟨by decide +kernel, by decide +kernel⟩, List.mem_of_getElem? (i := 30) (by decide +kernel), List.mem_of_getElem? (i := 504) (by decide +kernel), List.mem_of_getElem? (i := 505) (by decide +kernel)⟩
theorem lw_p10 : lw_okq (⟨"ReceiptLeft$Tape", "readWant", "(LReceiptLeft$City;)V"⟩, 7) := ⟨⟨by decide +kernel, by decide +kernel⟩, List.mem_of_getElem? (i := 30) (by decide +kernel), List.mem_of_getElem? (i := 511) (by decide +kernel), List.mem_of_getElem? (i := 512) (by decide +kernel)⟩
theorem lw_p11 : lw_okq (⟨"ReceiptLeft", "isHouse", "(I)Z"⟩, 12) := ⟨⟨by decide +kernel, by decide +kernel⟩, List.mem_of_getElem? (i := 22) (by decide +kernel), List.mem_of_getElem? (i := 540) (by decide +kernel), List.mem_of_getElem? (i := 541) (by decide +kernel)⟩
theorem lw_p12 : lw_okq (⟨"ReceiptLeft", "isThing", "(I)Z"⟩, 12) := ⟨⟨by decide +kernel, by decide +kernel⟩, List.mem_of_getElem? (i := 22) (by decide +kernel), List.mem_of_getElem? (i := 568) (by decide +kernel), List.mem_of_getElem? (i := 569) (by decide +kernel)⟩
theorem lw_p13 : lw_okq (⟨"ReceiptLeft", "isPaper", "(I)Z"⟩, 12) := ⟨⟨by decide +kernel, by decide +kernel⟩, List.mem_of_getElem? (i := 22) (by decide +kernel), List.mem_of_getElem? (i := 588) (by decide +kernel), List.mem_of_getElem? (i := 589) (by decide +kernel)⟩
theorem lw_p14 : lw_okq (⟨"ReceiptLeft", "isFull", "()Z"⟩, 12) := ⟨⟨by decide +kernel, by decide +kernel⟩, List.mem_of_getElem? (i := 22) (by decide +kernel), List.mem_of_getElem? (i := 625) (by decide +kernel), List.mem_of_getElem? (i := 626) (by decide +kernel)⟩
theorem lw_p15 : lw_okq (⟨"ReceiptLeft", "perform", "(IIII)I"⟩, 12) := ⟨⟨by decide +kernel, by decide +kernel⟩, List.mem_of_getElem? (i := 22) (by decide +kernel), List.mem_of_getElem? (i := 634) (by decide +kernel), List.mem_of_getElem? (i := 635) (by decide +kernel)⟩
def lw_privs_1 : List (MethodName × Nat) := [(⟨"ReceiptLeft$Tape", "step", "()V"⟩, 7), (⟨"ReceiptLeft$Tape", "readLine", "(LReceiptLeft$City;)V"⟩, 7), (⟨"ReceiptLeft$Tape", "readHead", "(LReceiptLeft$City;)V"⟩, 7), (⟨"ReceiptLeft$Tape", "isWord", "(Ljava/lang/String;)Z"⟩, 7), (⟨"ReceiptLeft$Tape", "expect", "(Z)V"⟩, 7), (⟨"ReceiptLeft$Tape", "refuse", "(I)V"⟩, 7), (⟨"ReceiptLeft$Tape", "number", "(II)I"⟩, 7), (⟨"ReceiptLeft$Tape", "told", "()I"⟩, 7), (⟨"ReceiptLeft$Tape", "readHouse", "(LReceiptLeft$City;)V"⟩, 7), (⟨"ReceiptLeft$Tape", "readThing", "(LReceiptLeft$City;)V"⟩, 7), (⟨"ReceiptLeft$Tape", "readWant", "(LReceiptLeft$City;)V"⟩, 7), (⟨"ReceiptLeft", "isHouse", "(I)Z"⟩, 12), (⟨"ReceiptLeft", "isThing", "(I)Z"⟩, 12), (⟨"ReceiptLeft", "isPaper", "(I)Z"⟩, 12), (⟨"ReceiptLeft", "isFull", "()Z"⟩, 12), (⟨"ReceiptLeft", "perform", "(IIII)I"⟩, 12)]
theorem lw_r1 : ∀ q ∈ lw_privs_1, lw_okq q := List.forall_mem_cons.mpr ⟨lw_p0, List.forall_mem_cons.mpr ⟨lw_p1, List.forall_mem_cons.mpr ⟨lw_p2, List.forall_mem_cons.mpr ⟨lw_p3, List.forall_mem_cons.mpr ⟨lw_p4, List.forall_mem_cons.mpr ⟨lw_p5, List.forall_mem_cons.mpr ⟨lw_p6, List.forall_mem_cons.mpr ⟨lw_p7, List.forall_mem_cons.mpr ⟨lw_p8, List.forall_mem_cons.mpr ⟨lw_p9, List.forall_mem_cons.mpr ⟨lw_p10, List.forall_mem_cons.mpr ⟨lw_p11, List.forall_mem_cons.mpr ⟨lw_p12, List.forall_mem_cons.mpr ⟨lw_p13, List.forall_mem_cons.mpr ⟨lw_p14, List.forall_mem_cons.mpr ⟨lw_p15, fun _ h => absurd h List.not_mem_nil⟩⟩⟩⟩⟩⟩⟩⟩⟩⟩⟩⟩⟩⟩⟩⟩
theorem lw_p16 : lw_okq (⟨"ReceiptLeft$World", "move", "(II)V"⟩, 15) := ⟨⟨by decide +kernel, by decide +kernel⟩, List.mem_of_getElem? (i := 149) (by decide +kernel), List.mem_of_getElem? (i := 650) (by decide +kernel), List.mem_of_getElem? (i := 651) (by decide +kernel)⟩
theorem lw_p17 : lw_okq (⟨"ReceiptLeft$World", "handOn", "(II)I"⟩, 15) := ⟨⟨by decide +kernel, by decide +kernel⟩, List.mem_of_getElem? (i := 149) (by decide +kernel), List.mem_of_getElem? (i := 654) (by decide +kernel), List.mem_of_getElem? (i := 655) (by decide +kernel)⟩
theorem lw_p18 : lw_okq (⟨"ReceiptLeft$World", "pay", "(III)V"⟩, 15) := ⟨⟨by decide +kernel, by decide +kernel⟩, List.mem_of_getElem? (i := 149) (by decide +kernel), List.mem_of_getElem? (i := 659) (by decide +kernel), List.mem_of_getElem? (i := 660) (by decide +kernel)⟩
theorem lw_p19 : lw_okq (⟨"ReceiptLeft$World", "giveBack", "(I)I"⟩, 15) := ⟨⟨by decide +kernel, by decide +kernel⟩, List.mem_of_getElem? (i := 149) (by decide +kernel), List.mem_of_getElem? (i := 663) (by decide +kernel), List.mem_of_getElem? (i := 664) (by decide +kernel)⟩
theorem lw_p20 : lw_okq (⟨"ReceiptLeft$World", "cross", "(I)I"⟩, 15) := ⟨⟨by decide +kernel, by decide +kernel⟩, List.mem_of_getElem? (i := 149) (by decide +kernel), List.mem_of_getElem? (i := 667) (by decide +kernel), List.mem_of_getElem? (i := 668) (by decide +kernel)⟩
theorem lw_p21 : lw_okq (⟨"ReceiptLeft$World", "turnKey", "(II)I"⟩, 15) := ⟨⟨by decide +kernel, by decide +kernel⟩, List.mem_of_getElem? (i := 149) (by decide +kernel), List.mem_of_getElem? (i := 681) (by decide +kernel), List.mem_of_getElem? (i := 682) (by decide +kernel)⟩
theorem lw_p22 : lw_okq (⟨"ReceiptLeft$World", "settle", "(I)V"⟩, 15) := ⟨⟨by decide +kernel, by decide +kernel⟩, List.mem_of_getElem? (i := 149) (by decide +kernel), List.mem_of_getElem? (i := 689) (by decide +kernel), List.mem_of_getElem? (i := 690) (by decide +kernel)⟩
theorem lw_p23 : lw_okq (⟨"ReceiptLeft", "hasCity", "()Z"⟩, 12) := ⟨⟨by decide +kernel, by decide +kernel⟩, List.mem_of_getElem? (i := 22) (by decide +kernel), List.mem_of_getElem? (i := 721) (by decide +kernel), List.mem_of_getElem? (i := 722) (by decide +kernel)⟩
theorem lw_p24 : lw_okq (⟨"ReceiptLeft", "thingsOwnedBy", "(I)I"⟩, 12) := ⟨⟨by decide +kernel, by decide +kernel⟩, List.mem_of_getElem? (i := 22) (by decide +kernel), List.mem_of_getElem? (i := 779) (by decide +kernel), List.mem_of_getElem? (i := 780) (by decide +kernel)⟩
theorem lw_p25 : lw_okq (⟨"ReceiptLeft$Titles", "drawEdges", "(LReceiptLeft$World;I)I"⟩, 6) := ⟨⟨by decide +kernel, by decide +kernel⟩, List.mem_of_getElem? (i := 222) (by decide +kernel), List.mem_of_getElem? (i := 806) (by decide +kernel), List.mem_of_getElem? (i := 807) (by decide +kernel)⟩
theorem lw_p26 : lw_okq (⟨"ReceiptLeft$Titles", "keep", "(II)V"⟩, 6) := ⟨⟨by decide +kernel, by decide +kernel⟩, List.mem_of_getElem? (i := 222) (by decide +kernel), List.mem_of_getElem? (i := 811) (by decide +kernel), List.mem_of_getElem? (i := 812) (by decide +kernel)⟩
theorem lw_p27 : lw_okq (⟨"ReceiptLeft$Titles", "isBetter", "(I)Z"⟩, 6) := ⟨⟨by decide +kernel, by decide +kernel⟩, List.mem_of_getElem? (i := 222) (by decide +kernel), List.mem_of_getElem? (i := 815) (by decide +kernel), List.mem_of_getElem? (i := 816) (by decide +kernel)⟩
theorem lw_p28 : lw_okq (⟨"ReceiptLeft$Titles", "leads", "(II)Z"⟩, 6) := ⟨⟨by decide +kernel, by decide +kernel⟩, List.mem_of_getElem? (i := 222) (by decide +kernel), List.mem_of_getElem? (i := 820) (by decide +kernel), List.mem_of_getElem? (i := 821) (by decide +kernel)⟩
theorem lw_p29 : lw_okq (⟨"ReceiptLeft", "tryNights", "(I)I"⟩, 12) := ⟨⟨by decide +kernel, by decide +kernel⟩, List.mem_of_getElem? (i := 22) (by decide +kernel), List.mem_of_getElem? (i := 893) (by decide +kernel), List.mem_of_getElem? (i := 894) (by decide +kernel)⟩
theorem lw_p30 : lw_okq (⟨"ReceiptLeft", "hardestHitBy", "(I)I"⟩, 12) := ⟨⟨by decide +kernel, by decide +kernel⟩, List.mem_of_getElem? (i := 22) (by decide +kernel), List.mem_of_getElem? (i := 922) (by decide +kernel), List.mem_of_getElem? (i := 923) (by decide +kernel)⟩
theorem lw_p31 : lw_okq (⟨"ReceiptLeft", "wishOf", "(II)I"⟩, 12) := ⟨⟨by decide +kernel, by decide +kernel⟩, List.mem_of_getElem? (i := 22) (by decide +kernel), List.mem_of_getElem? (i := 938) (by decide +kernel), List.mem_of_getElem? (i := 939) (by decide +kernel)⟩
def lw_privs_2 : List (MethodName × Nat) := [(⟨"ReceiptLeft$World", "move", "(II)V"⟩, 15), (⟨"ReceiptLeft$World", "handOn", "(II)I"⟩, 15), (⟨"ReceiptLeft$World", "pay", "(III)V"⟩, 15), (⟨"ReceiptLeft$World", "giveBack", "(I)I"⟩, 15), (⟨"ReceiptLeft$World", "cross", "(I)I"⟩, 15), (⟨"ReceiptLeft$World", "turnKey", "(II)I"⟩, 15), (⟨"ReceiptLeft$World", "settle", "(I)V"⟩, 15), (⟨"ReceiptLeft", "hasCity", "()Z"⟩, 12), (⟨"ReceiptLeft", "thingsOwnedBy", "(I)I"⟩, 12), (⟨"ReceiptLeft$Titles", "drawEdges", "(LReceiptLeft$World;I)I"⟩, 6), (⟨"ReceiptLeft$Titles", "keep", "(II)V"⟩, 6), (⟨"ReceiptLeft$Titles", "isBetter", "(I)Z"⟩, 6), (⟨"ReceiptLeft$Titles", "leads", "(II)Z"⟩, 6), (⟨"ReceiptLeft", "tryNights", "(I)I"⟩, 12), (⟨"ReceiptLeft", "hardestHitBy", "(I)I"⟩, 12), (⟨"ReceiptLeft", "wishOf", "(II)I"⟩, 12)]
theorem lw_r2 : ∀ q ∈ lw_privs_2, lw_okq q := List.forall_mem_cons.mpr ⟨lw_p16, List.forall_mem_cons.mpr ⟨lw_p17, List.forall_mem_cons.mpr ⟨lw_p18, List.forall_mem_cons.mpr ⟨lw_p19, List.forall_mem_cons.mpr ⟨lw_p20, List.forall_mem_cons.mpr ⟨lw_p21, List.forall_mem_cons.mpr ⟨lw_p22, List.forall_mem_cons.mpr ⟨lw_p23, List.forall_mem_cons.mpr ⟨lw_p24, List.forall_mem_cons.mpr ⟨lw_p25, List.forall_mem_cons.mpr ⟨lw_p26, List.forall_mem_cons.mpr ⟨lw_p27, List.forall_mem_cons.mpr ⟨lw_p28, List.forall_mem_cons.mpr ⟨lw_p29, List.forall_mem_cons.mpr ⟨lw_p30, List.forall_mem_cons.mpr ⟨lw_p31, fun _ h => absurd h List.not_mem_nil⟩⟩⟩⟩⟩⟩⟩⟩⟩⟩⟩⟩⟩⟩⟩⟩
theorem lw_p32 : lw_okq (⟨"ReceiptLeft", "mostWanted", "(II)I"⟩, 12) := ⟨⟨by decide +kernel, by decide +kernel⟩, List.mem_of_getElem? (i := 22) (by decide +kernel), List.mem_of_getElem? (i := 942) (by decide +kernel), List.mem_of_getElem? (i := 943) (by decide +kernel)⟩
theorem lw_p33 : lw_okq (⟨"ReceiptLeft$Deal", "weigh", "(LReceiptLeft$City;)V"⟩, 1) := ⟨⟨by decide +kernel, by decide +kernel⟩, List.mem_of_getElem? (i := 249) (by decide +kernel), List.mem_of_getElem? (i := 963) (by decide +kernel), List.mem_of_getElem? (i := 964) (by decide +kernel)⟩
theorem lw_p34 : lw_okq (⟨"ReceiptLeft$Deal", "with", "(LReceiptLeft$City;III)I"⟩, 1) := ⟨⟨by decide +kernel, by decide +kernel⟩, List.mem_of_getElem? (i := 249) (by decide +kernel), List.mem_of_getElem? (i := 967) (by decide +kernel), List.mem_of_getElem? (i := 968) (by decide +kernel)⟩
theorem lw_p35 : lw_okq (⟨"ReceiptLeft$Deal", "firstFor", "(LReceiptLeft$City;II)I"⟩, 1) := ⟨⟨by decide +kernel, by decide +kernel⟩, List.mem_of_getElem? (i := 249) (by decide +kernel), List.mem_of_getElem? (i := 983) (by decide +kernel), List.mem_of_getElem? (i := 984) (by decide +kernel)⟩
theorem lw_p36 : lw_okq (⟨"ReceiptLeft", "isAtRest", "(II)Z"⟩, 12) := ⟨⟨by decide +kernel, by decide +kernel⟩, List.mem_of_getElem? (i := 22) (by decide +kernel), List.mem_of_getElem? (i := 994) (by decide +kernel), List.mem_of_getElem? (i := 995) (by decide +kernel)⟩
theorem lw_p37 : lw_okq (⟨"ReceiptLeft", "look", "(I)I"⟩, 12) := ⟨⟨by decide +kernel, by decide +kernel⟩, List.mem_of_getElem? (i := 22) (by decide +kernel), List.mem_of_getElem? (i := 1017) (by decide +kernel), List.mem_of_getElem? (i := 1018) (by decide +kernel)⟩
theorem lw_p38 : lw_okq (⟨"ReceiptLeft", "drawNights", "(II)I"⟩, 12) := ⟨⟨by decide +kernel, by decide +kernel⟩, List.mem_of_getElem? (i := 22) (by decide +kernel), List.mem_of_getElem? (i := 1060) (by decide +kernel), List.mem_of_getElem? (i := 1061) (by decide +kernel)⟩
theorem lw_p39 : lw_okq (⟨"ReceiptLeft", "drawTheft", "(I)V"⟩, 12) := ⟨⟨by decide +kernel, by decide +kernel⟩, List.mem_of_getElem? (i := 22) (by decide +kernel), List.mem_of_getElem? (i := 1068) (by decide +kernel), List.mem_of_getElem? (i := 1069) (by decide +kernel)⟩
theorem lw_p40 : lw_okq (⟨"ReceiptLeft", "filledSlots", "()I"⟩, 12) := ⟨⟨by decide +kernel, by decide +kernel⟩, List.mem_of_getElem? (i := 22) (by decide +kernel), List.mem_of_getElem? (i := 1098) (by decide +kernel), List.mem_of_getElem? (i := 1099) (by decide +kernel)⟩
theorem lw_p41 : lw_okq (⟨"ReceiptLeftModel", "advance", "()V"⟩, 44) := ⟨⟨by decide +kernel, by decide +kernel⟩, List.mem_of_getElem? (i := 1143) (by decide +kernel), List.mem_of_getElem? (i := 1310) (by decide +kernel), List.mem_of_getElem? (i := 1311) (by decide +kernel)⟩
theorem lw_p42 : lw_okq (⟨"ReceiptLeftModel", "see", "(I)I"⟩, 44) := ⟨⟨by decide +kernel, by decide +kernel⟩, List.mem_of_getElem? (i := 1143) (by decide +kernel), List.mem_of_getElem? (i := 1314) (by decide +kernel), List.mem_of_getElem? (i := 1315) (by decide +kernel)⟩
theorem lw_p43 : lw_okq (⟨"ReceiptLeftModel", "good", "()Z"⟩, 44) := ⟨⟨by decide +kernel, by decide +kernel⟩, List.mem_of_getElem? (i := 1143) (by decide +kernel), List.mem_of_getElem? (i := 1324) (by decide +kernel), List.mem_of_getElem? (i := 1325) (by decide +kernel)⟩
theorem lw_p44 : lw_okq (⟨"ReceiptLeftModel", "readLine", "()V"⟩, 44) := ⟨⟨by decide +kernel, by decide +kernel⟩, List.mem_of_getElem? (i := 1143) (by decide +kernel), List.mem_of_getElem? (i := 1328) (by decide +kernel), List.mem_of_getElem? (i := 1329) (by decide +kernel)⟩
theorem lw_p45 : lw_okq (⟨"ReceiptLeftModel", "needs", "(Ljava/lang/String;)V"⟩, 44) := ⟨⟨by decide +kernel, by decide +kernel⟩, List.mem_of_getElem? (i := 1143) (by decide +kernel), List.mem_of_getElem? (i := 1333) (by decide +kernel), List.mem_of_getElem? (i := 1334) (by decide +kernel)⟩
theorem lw_p46 : lw_okq (⟨"ReceiptLeftModel", "takes", "(Ljava/lang/String;)Z"⟩, 44) := ⟨⟨by decide +kernel, by decide +kernel⟩, List.mem_of_getElem? (i := 1143) (by decide +kernel), List.mem_of_getElem? (i := 1337) (by decide +kernel), List.mem_of_getElem? (i := 1338) (by decide +kernel)⟩
theorem lw_p47 : lw_okq (⟨"ReceiptLeftModel", "is", "(Ljava/lang/String;)Z"⟩, 44) := ⟨⟨by decide +kernel, by decide +kernel⟩, List.mem_of_getElem? (i := 1143) (by decide +kernel), List.mem_of_getElem? (i := 1341) (by decide +kernel), List.mem_of_getElem? (i := 1342) (by decide +kernel)⟩
def lw_privs_3 : List (MethodName × Nat) := [(⟨"ReceiptLeft", "mostWanted", "(II)I"⟩, 12), (⟨"ReceiptLeft$Deal", "weigh", "(LReceiptLeft$City;)V"⟩, 1), (⟨"ReceiptLeft$Deal", "with", "(LReceiptLeft$City;III)I"⟩, 1), (⟨"ReceiptLeft$Deal", "firstFor", "(LReceiptLeft$City;II)I"⟩, 1), (⟨"ReceiptLeft", "isAtRest", "(II)Z"⟩, 12), (⟨"ReceiptLeft", "look", "(I)I"⟩, 12), (⟨"ReceiptLeft", "drawNights", "(II)I"⟩, 12), (⟨"ReceiptLeft", "drawTheft", "(I)V"⟩, 12), (⟨"ReceiptLeft", "filledSlots", "()I"⟩, 12), (⟨"ReceiptLeftModel", "advance", "()V"⟩, 44), (⟨"ReceiptLeftModel", "see", "(I)I"⟩, 44), (⟨"ReceiptLeftModel", "good", "()Z"⟩, 44), (⟨"ReceiptLeftModel", "readLine", "()V"⟩, 44), (⟨"ReceiptLeftModel", "needs", "(Ljava/lang/String;)V"⟩, 44), (⟨"ReceiptLeftModel", "takes", "(Ljava/lang/String;)Z"⟩, 44), (⟨"ReceiptLeftModel", "is", "(Ljava/lang/String;)Z"⟩, 44)]
theorem lw_r3 : ∀ q ∈ lw_privs_3, lw_okq q := List.forall_mem_cons.mpr ⟨lw_p32, List.forall_mem_cons.mpr ⟨lw_p33, List.forall_mem_cons.mpr ⟨lw_p34, List.forall_mem_cons.mpr ⟨lw_p35, List.forall_mem_cons.mpr ⟨lw_p36, List.forall_mem_cons.mpr ⟨lw_p37, List.forall_mem_cons.mpr ⟨lw_p38, List.forall_mem_cons.mpr ⟨lw_p39, List.forall_mem_cons.mpr ⟨lw_p40, List.forall_mem_cons.mpr ⟨lw_p41, List.forall_mem_cons.mpr ⟨lw_p42, List.forall_mem_cons.mpr ⟨lw_p43, List.forall_mem_cons.mpr ⟨lw_p44, List.forall_mem_cons.mpr ⟨lw_p45, List.forall_mem_cons.mpr ⟨lw_p46, List.forall_mem_cons.mpr ⟨lw_p47, fun _ h => absurd h List.not_mem_nil⟩⟩⟩⟩⟩⟩⟩⟩⟩⟩⟩⟩⟩⟩⟩⟩
theorem lw_p48 : lw_okq (⟨"ReceiptLeftModel", "errs", "(I)V"⟩, 44) := ⟨⟨by decide +kernel, by decide +kernel⟩, List.mem_of_getElem? (i := 1143) (by decide +kernel), List.mem_of_getElem? (i := 1347) (by decide +kernel), List.mem_of_getElem? (i := 1348) (by decide +kernel)⟩
theorem lw_p49 : lw_okq (⟨"ReceiptLeftModel", "told", "(Ljava/lang/String;II)I"⟩, 44) := ⟨⟨by decide +kernel, by decide +kernel⟩, List.mem_of_getElem? (i := 1143) (by decide +kernel), List.mem_of_getElem? (i := 1352) (by decide +kernel), List.mem_of_getElem? (i := 1353) (by decide +kernel)⟩
theorem lw_p50 : lw_okq (⟨"ReceiptLeftModel", "number", "(II)I"⟩, 44) := ⟨⟨by decide +kernel, by decide +kernel⟩, List.mem_of_getElem? (i := 1143) (by decide +kernel), List.mem_of_getElem? (i := 1356) (by decide +kernel), List.mem_of_getElem? (i := 1357) (by decide +kernel)⟩
theorem lw_p51 : lw_okq (⟨"ReceiptLeftModel", "readNext", "()V"⟩, 44) := ⟨⟨by decide +kernel, by decide +kernel⟩, List.mem_of_getElem? (i := 1143) (by decide +kernel), List.mem_of_getElem? (i := 1362) (by decide +kernel), List.mem_of_getElem? (i := 1363) (by decide +kernel)⟩
theorem lw_p52 : lw_okq (⟨"ReceiptLeftModel", "isHouse", "(J)Z"⟩, 44) := ⟨⟨by decide +kernel, by decide +kernel⟩, List.mem_of_getElem? (i := 1143) (by decide +kernel), List.mem_of_getElem? (i := 1377) (by decide +kernel), List.mem_of_getElem? (i := 1378) (by decide +kernel)⟩
theorem lw_p53 : lw_okq (⟨"ReceiptLeftModel", "asItIs", "()V"⟩, 44) := ⟨⟨by decide +kernel, by decide +kernel⟩, List.mem_of_getElem? (i := 1143) (by decide +kernel), List.mem_of_getElem? (i := 1382) (by decide +kernel), List.mem_of_getElem? (i := 1383) (by decide +kernel)⟩
theorem lw_p54 : lw_okq (⟨"ReceiptLeftModel", "act0", "(I)V"⟩, 44) := ⟨⟨by decide +kernel, by decide +kernel⟩, List.mem_of_getElem? (i := 1143) (by decide +kernel), List.mem_of_getElem? (i := 1386) (by decide +kernel), List.mem_of_getElem? (i := 1387) (by decide +kernel)⟩
theorem lw_p55 : lw_okq (⟨"ReceiptLeftModel", "steal0", "(III)V"⟩, 44) := ⟨⟨by decide +kernel, by decide +kernel⟩, List.mem_of_getElem? (i := 1143) (by decide +kernel), List.mem_of_getElem? (i := 1391) (by decide +kernel), List.mem_of_getElem? (i := 1392) (by decide +kernel)⟩
theorem lw_p56 : lw_okq (⟨"ReceiptLeftModel", "goTo", "(II)V"⟩, 44) := ⟨⟨by decide +kernel, by decide +kernel⟩, List.mem_of_getElem? (i := 1143) (by decide +kernel), List.mem_of_getElem? (i := 1395) (by decide +kernel), List.mem_of_getElem? (i := 1396) (by decide +kernel)⟩
theorem lw_p57 : lw_okq (⟨"ReceiptLeftModel", "sell0", "(II)V"⟩, 44) := ⟨⟨by decide +kernel, by decide +kernel⟩, List.mem_of_getElem? (i := 1143) (by decide +kernel), List.mem_of_getElem? (i := 1399) (by decide +kernel), List.mem_of_getElem? (i := 1400) (by decide +kernel)⟩
theorem lw_p58 : lw_okq (⟨"ReceiptLeftModel", "priceOf", "(I)I"⟩, 44) := ⟨⟨by decide +kernel, by decide +kernel⟩, List.mem_of_getElem? (i := 1143) (by decide +kernel), List.mem_of_getElem? (i := 1403) (by decide +kernel), List.mem_of_getElem? (i := 1404) (by decide +kernel)⟩
theorem lw_p59 : lw_okq (⟨"ReceiptLeftModel", "worthP", "(I)I"⟩, 44) := ⟨⟨by decide +kernel, by decide +kernel⟩, List.mem_of_getElem? (i := 1143) (by decide +kernel), List.mem_of_getElem? (i := 1407) (by decide +kernel), List.mem_of_getElem? (i := 1408) (by decide +kernel)⟩
theorem lw_p60 : lw_okq (⟨"ReceiptLeftModel", "worthOf", "(I)I"⟩, 44) := ⟨⟨by decide +kernel, by decide +kernel⟩, List.mem_of_getElem? (i := 1143) (by decide +kernel), List.mem_of_getElem? (i := 1411) (by decide +kernel), List.mem_of_getElem? (i := 1412) (by decide +kernel)⟩
theorem lw_p61 : lw_okq (⟨"ReceiptLeftModel", "pay", "(III)V"⟩, 44) := ⟨⟨by decide +kernel, by decide +kernel⟩, List.mem_of_getElem? (i := 1143) (by decide +kernel), List.mem_of_getElem? (i := 1415) (by decide +kernel), List.mem_of_getElem? (i := 1416) (by decide +kernel)⟩
theorem lw_p62 : lw_okq (⟨"ReceiptLeftModel", "bring0", "(I)V"⟩, 44) := ⟨⟨by decide +kernel, by decide +kernel⟩, List.mem_of_getElem? (i := 1143) (by decide +kernel), List.mem_of_getElem? (i := 1419) (by decide +kernel), List.mem_of_getElem? (i := 1420) (by decide +kernel)⟩
theorem lw_p63 : lw_okq (⟨"ReceiptLeftModel", "night0", "()I"⟩, 44) := ⟨⟨by decide +kernel, by decide +kernel⟩, List.mem_of_getElem? (i := 1143) (by decide +kernel), List.mem_of_getElem? (i := 1423) (by decide +kernel), List.mem_of_getElem? (i := 1424) (by decide +kernel)⟩
def lw_privs_4 : List (MethodName × Nat) := [(⟨"ReceiptLeftModel", "errs", "(I)V"⟩, 44), (⟨"ReceiptLeftModel", "told", "(Ljava/lang/String;II)I"⟩, 44), (⟨"ReceiptLeftModel", "number", "(II)I"⟩, 44), (⟨"ReceiptLeftModel", "readNext", "()V"⟩, 44), (⟨"ReceiptLeftModel", "isHouse", "(J)Z"⟩, 44), (⟨"ReceiptLeftModel", "asItIs", "()V"⟩, 44), (⟨"ReceiptLeftModel", "act0", "(I)V"⟩, 44), (⟨"ReceiptLeftModel", "steal0", "(III)V"⟩, 44), (⟨"ReceiptLeftModel", "goTo", "(II)V"⟩, 44), (⟨"ReceiptLeftModel", "sell0", "(II)V"⟩, 44), (⟨"ReceiptLeftModel", "priceOf", "(I)I"⟩, 44), (⟨"ReceiptLeftModel", "worthP", "(I)I"⟩, 44), (⟨"ReceiptLeftModel", "worthOf", "(I)I"⟩, 44), (⟨"ReceiptLeftModel", "pay", "(III)V"⟩, 44), (⟨"ReceiptLeftModel", "bring0", "(I)V"⟩, 44), (⟨"ReceiptLeftModel", "night0", "()I"⟩, 44)]
theorem lw_r4 : ∀ q ∈ lw_privs_4, lw_okq q := List.forall_mem_cons.mpr ⟨lw_p48, List.forall_mem_cons.mpr ⟨lw_p49, List.forall_mem_cons.mpr ⟨lw_p50, List.forall_mem_cons.mpr ⟨lw_p51, List.forall_mem_cons.mpr ⟨lw_p52, List.forall_mem_cons.mpr ⟨lw_p53, List.forall_mem_cons.mpr ⟨lw_p54, List.forall_mem_cons.mpr ⟨lw_p55, List.forall_mem_cons.mpr ⟨lw_p56, List.forall_mem_cons.mpr ⟨lw_p57, List.forall_mem_cons.mpr ⟨lw_p58, List.forall_mem_cons.mpr ⟨lw_p59, List.forall_mem_cons.mpr ⟨lw_p60, List.forall_mem_cons.mpr ⟨lw_p61, List.forall_mem_cons.mpr ⟨lw_p62, List.forall_mem_cons.mpr ⟨lw_p63, fun _ h => absurd h List.not_mem_nil⟩⟩⟩⟩⟩⟩⟩⟩⟩⟩⟩⟩⟩⟩⟩⟩
theorem lw_p64 : lw_okq (⟨"ReceiptLeftModel", "thingsIn", "(I)I"⟩, 44) := ⟨⟨by decide +kernel, by decide +kernel⟩, List.mem_of_getElem? (i := 1143) (by decide +kernel), List.mem_of_getElem? (i := 1427) (by decide +kernel), List.mem_of_getElem? (i := 1428) (by decide +kernel)⟩
theorem lw_p65 : lw_okq (⟨"ReceiptLeftModel", "isOpen", "(I)Z"⟩, 44) := ⟨⟨by decide +kernel, by decide +kernel⟩, List.mem_of_getElem? (i := 1143) (by decide +kernel), List.mem_of_getElem? (i := 1431) (by decide +kernel), List.mem_of_getElem? (i := 1432) (by decide +kernel)⟩
theorem lw_p66 : lw_okq (⟨"ReceiptLeftModel", "isThing", "(J)Z"⟩, 44) := ⟨⟨by decide +kernel, by decide +kernel⟩, List.mem_of_getElem? (i := 1143) (by decide +kernel), List.mem_of_getElem? (i := 1439) (by decide +kernel), List.mem_of_getElem? (i := 1440) (by decide +kernel)⟩
theorem lw_p67 : lw_okq (⟨"ReceiptLeftModel", "valueOf", "(II)I"⟩, 44) := ⟨⟨by decide +kernel, by decide +kernel⟩, List.mem_of_getElem? (i := 1143) (by decide +kernel), List.mem_of_getElem? (i := 1447) (by decide +kernel), List.mem_of_getElem? (i := 1448) (by decide +kernel)⟩
theorem lw_p68 : lw_okq (⟨"ReceiptLeftModel", "wantOf", "(II)I"⟩, 44) := ⟨⟨by decide +kernel, by decide +kernel⟩, List.mem_of_getElem? (i := 1143) (by decide +kernel), List.mem_of_getElem? (i := 1451) (by decide +kernel), List.mem_of_getElem? (i := 1452) (by decide +kernel)⟩
theorem lw_p69 : lw_okq (⟨"ReceiptLeftModel", "isPaper", "(I)Z"⟩, 44) := ⟨⟨by decide +kernel, by decide +kernel⟩, List.mem_of_getElem? (i := 1143) (by decide +kernel), List.mem_of_getElem? (i := 1459) (by decide +kernel), List.mem_of_getElem? (i := 1460) (by decide +kernel)⟩
theorem lw_p70 : lw_okq (⟨"ReceiptLeftModel", "netOf", "(I)I"⟩, 44) := ⟨⟨by decide +kernel, by decide +kernel⟩, List.mem_of_getElem? (i := 1143) (by decide +kernel), List.mem_of_getElem? (i := 1472) (by decide +kernel), List.mem_of_getElem? (i := 1473) (by decide +kernel)⟩
theorem lw_p71 : lw_okq (⟨"ReceiptLeftModel", "canSteal", "(II)Z"⟩, 44) := ⟨⟨by decide +kernel, by decide +kernel⟩, List.mem_of_getElem? (i := 1143) (by decide +kernel), List.mem_of_getElem? (i := 1481) (by decide +kernel), List.mem_of_getElem? (i := 1482) (by decide +kernel)⟩
theorem lw_p72 : lw_okq (⟨"ReceiptLeftModel", "keepAct", "(IIII)Z"⟩, 44) := ⟨⟨by decide +kernel, by decide +kernel⟩, List.mem_of_getElem? (i := 1143) (by decide +kernel), List.mem_of_getElem? (i := 1485) (by decide +kernel), List.mem_of_getElem? (i := 1486) (by decide +kernel)⟩
theorem lw_p73 : lw_okq (⟨"ReceiptLeftModel", "openSet", "()I"⟩, 44) := ⟨⟨by decide +kernel, by decide +kernel⟩, List.mem_of_getElem? (i := 1143) (by decide +kernel), List.mem_of_getElem? (i := 1501) (by decide +kernel), List.mem_of_getElem? (i := 1502) (by decide +kernel)⟩
theorem lw_p74 : lw_okq (⟨"ReceiptLeftModel", "isCity", "()Z"⟩, 44) := ⟨⟨by decide +kernel, by decide +kernel⟩, List.mem_of_getElem? (i := 1143) (by decide +kernel), List.mem_of_getElem? (i := 1516) (by decide +kernel), List.mem_of_getElem? (i := 1517) (by decide +kernel)⟩
theorem lw_p75 : lw_okq (⟨"ReceiptLeftModel", "layChain", "(I)I"⟩, 44) := ⟨⟨by decide +kernel, by decide +kernel⟩, List.mem_of_getElem? (i := 1143) (by decide +kernel), List.mem_of_getElem? (i := 1537) (by decide +kernel), List.mem_of_getElem? (i := 1538) (by decide +kernel)⟩
theorem lw_p76 : lw_okq (⟨"ReceiptLeftModel", "wasInChain", "(I)Z"⟩, 44) := ⟨⟨by decide +kernel, by decide +kernel⟩, List.mem_of_getElem? (i := 1143) (by decide +kernel), List.mem_of_getElem? (i := 1541) (by decide +kernel), List.mem_of_getElem? (i := 1542) (by decide +kernel)⟩
theorem lw_p77 : lw_okq (⟨"ReceiptLeftModel", "leadsTo", "(II)I"⟩, 44) := ⟨⟨by decide +kernel, by decide +kernel⟩, List.mem_of_getElem? (i := 1143) (by decide +kernel), List.mem_of_getElem? (i := 1545) (by decide +kernel), List.mem_of_getElem? (i := 1546) (by decide +kernel)⟩
theorem lw_p78 : lw_okq (⟨"ReceiptLeftModel", "isEdge", "(II)Z"⟩, 44) := ⟨⟨by decide +kernel, by decide +kernel⟩, List.mem_of_getElem? (i := 1143) (by decide +kernel), List.mem_of_getElem? (i := 1565) (by decide +kernel), List.mem_of_getElem? (i := 1566) (by decide +kernel)⟩
theorem lw_p79 : lw_okq (⟨"ReceiptLeftModel", "struckOf", "()I"⟩, 44) := ⟨⟨by decide +kernel, by decide +kernel⟩, List.mem_of_getElem? (i := 1143) (by decide +kernel), List.mem_of_getElem? (i := 1573) (by decide +kernel), List.mem_of_getElem? (i := 1574) (by decide +kernel)⟩
def lw_privs_5 : List (MethodName × Nat) := [(⟨"ReceiptLeftModel", "thingsIn", "(I)I"⟩, 44), (⟨"ReceiptLeftModel", "isOpen", "(I)Z"⟩, 44), (⟨"ReceiptLeftModel", "isThing", "(J)Z"⟩, 44), (⟨"ReceiptLeftModel", "valueOf", "(II)I"⟩, 44), (⟨"ReceiptLeftModel", "wantOf", "(II)I"⟩, 44), (⟨"ReceiptLeftModel", "isPaper", "(I)Z"⟩, 44), (⟨"ReceiptLeftModel", "netOf", "(I)I"⟩, 44), (⟨"ReceiptLeftModel", "canSteal", "(II)Z"⟩, 44), (⟨"ReceiptLeftModel", "keepAct", "(IIII)Z"⟩, 44), (⟨"ReceiptLeftModel", "openSet", "()I"⟩, 44), (⟨"ReceiptLeftModel", "isCity", "()Z"⟩, 44), (⟨"ReceiptLeftModel", "layChain", "(I)I"⟩, 44), (⟨"ReceiptLeftModel", "wasInChain", "(I)Z"⟩, 44), (⟨"ReceiptLeftModel", "leadsTo", "(II)I"⟩, 44), (⟨"ReceiptLeftModel", "isEdge", "(II)Z"⟩, 44), (⟨"ReceiptLeftModel", "struckOf", "()I"⟩, 44)]
theorem lw_r5 : ∀ q ∈ lw_privs_5, lw_okq q := List.forall_mem_cons.mpr ⟨lw_p64, List.forall_mem_cons.mpr ⟨lw_p65, List.forall_mem_cons.mpr ⟨lw_p66, List.forall_mem_cons.mpr ⟨lw_p67, List.forall_mem_cons.mpr ⟨lw_p68, List.forall_mem_cons.mpr ⟨lw_p69, List.forall_mem_cons.mpr ⟨lw_p70, List.forall_mem_cons.mpr ⟨lw_p71, List.forall_mem_cons.mpr ⟨lw_p72, List.forall_mem_cons.mpr ⟨lw_p73, List.forall_mem_cons.mpr ⟨lw_p74, List.forall_mem_cons.mpr ⟨lw_p75, List.forall_mem_cons.mpr ⟨lw_p76, List.forall_mem_cons.mpr ⟨lw_p77, List.forall_mem_cons.mpr ⟨lw_p78, List.forall_mem_cons.mpr ⟨lw_p79, fun _ h => absurd h List.not_mem_nil⟩⟩⟩⟩⟩⟩⟩⟩⟩⟩⟩⟩⟩⟩⟩⟩
theorem lw_p80 : lw_okq (⟨"ReceiptLeftModel", "staying", "(I)I"⟩, 44) := ⟨⟨by decide +kernel, by decide +kernel⟩, List.mem_of_getElem? (i := 1143) (by decide +kernel), List.mem_of_getElem? (i := 1577) (by decide +kernel), List.mem_of_getElem? (i := 1578) (by decide +kernel)⟩
theorem lw_p81 : lw_okq (⟨"ReceiptLeftModel", "latest", "(III)I"⟩, 44) := ⟨⟨by decide +kernel, by decide +kernel⟩, List.mem_of_getElem? (i := 1143) (by decide +kernel), List.mem_of_getElem? (i := 1581) (by decide +kernel), List.mem_of_getElem? (i := 1582) (by decide +kernel)⟩
theorem lw_p82 : lw_okq (⟨"ReceiptLeftModel", "leadRound", "()Z"⟩, 44) := ⟨⟨by decide +kernel, by decide +kernel⟩, List.mem_of_getElem? (i := 1143) (by decide +kernel), List.mem_of_getElem? (i := 1585) (by decide +kernel), List.mem_of_getElem? (i := 1586) (by decide +kernel)⟩
theorem lw_p83 : lw_okq (⟨"ReceiptLeftModel", "liesFor", "(I)I"⟩, 44) := ⟨⟨by decide +kernel, by decide +kernel⟩, List.mem_of_getElem? (i := 1143) (by decide +kernel), List.mem_of_getElem? (i := 1605) (by decide +kernel), List.mem_of_getElem? (i := 1606) (by decide +kernel)⟩
theorem lw_p84 : lw_okq (⟨"ReceiptLeftModel", "dueOn", "(I)I"⟩, 44) := ⟨⟨by decide +kernel, by decide +kernel⟩, List.mem_of_getElem? (i := 1143) (by decide +kernel), List.mem_of_getElem? (i := 1617) (by decide +kernel), List.mem_of_getElem? (i := 1618) (by decide +kernel)⟩
theorem lw_p85 : lw_okq (⟨"ReceiptLeftModel", "goNights", "(I)I"⟩, 44) := ⟨⟨by decide +kernel, by decide +kernel⟩, List.mem_of_getElem? (i := 1143) (by decide +kernel), List.mem_of_getElem? (i := 1641) (by decide +kernel), List.mem_of_getElem? (i := 1642) (by decide +kernel)⟩
theorem lw_p86 : lw_okq (⟨"ReceiptLeftModel", "failedSet", "()I"⟩, 44) := ⟨⟨by decide +kernel, by decide +kernel⟩, List.mem_of_getElem? (i := 1143) (by decide +kernel), List.mem_of_getElem? (i := 1645) (by decide +kernel), List.mem_of_getElem? (i := 1646) (by decide +kernel)⟩
theorem lw_p87 : lw_okq (⟨"ReceiptLeftModel", "hitOf", "(I)I"⟩, 44) := ⟨⟨by decide +kernel, by decide +kernel⟩, List.mem_of_getElem? (i := 1143) (by decide +kernel), List.mem_of_getElem? (i := 1668) (by decide +kernel), List.mem_of_getElem? (i := 1669) (by decide +kernel)⟩
theorem lw_p88 : lw_okq (⟨"ReceiptLeftModel", "mostWanted", "(II)I"⟩, 44) := ⟨⟨by decide +kernel, by decide +kernel⟩, List.mem_of_getElem? (i := 1143) (by decide +kernel), List.mem_of_getElem? (i := 1683) (by decide +kernel), List.mem_of_getElem? (i := 1684) (by decide +kernel)⟩
theorem lw_p89 : lw_okq (⟨"ReceiptLeftModel", "layDeals", "()I"⟩, 44) := ⟨⟨by decide +kernel, by decide +kernel⟩, List.mem_of_getElem? (i := 1143) (by decide +kernel), List.mem_of_getElem? (i := 1699) (by decide +kernel), List.mem_of_getElem? (i := 1700) (by decide +kernel)⟩
theorem lw_p90 : lw_okq (⟨"ReceiptLeftModel", "dealtFrom", "(II)I"⟩, 44) := ⟨⟨by decide +kernel, by decide +kernel⟩, List.mem_of_getElem? (i := 1143) (by decide +kernel), List.mem_of_getElem? (i := 1703) (by decide +kernel), List.mem_of_getElem? (i := 1704) (by decide +kernel)⟩
theorem lw_p91 : lw_okq (⟨"ReceiptLeftModel", "dealtBy", "(III)I"⟩, 44) := ⟨⟨by decide +kernel, by decide +kernel⟩, List.mem_of_getElem? (i := 1143) (by decide +kernel), List.mem_of_getElem? (i := 1707) (by decide +kernel), List.mem_of_getElem? (i := 1708) (by decide +kernel)⟩
theorem lw_p92 : lw_okq (⟨"ReceiptLeftModel", "isCost", "(I)Z"⟩, 44) := ⟨⟨by decide +kernel, by decide +kernel⟩, List.mem_of_getElem? (i := 1143) (by decide +kernel), List.mem_of_getElem? (i := 1720) (by decide +kernel), List.mem_of_getElem? (i := 1721) (by decide +kernel)⟩
theorem lw_p93 : lw_okq (⟨"ReceiptLeftModel", "isRest", "(II)Z"⟩, 44) := ⟨⟨by decide +kernel, by decide +kernel⟩, List.mem_of_getElem? (i := 1143) (by decide +kernel), List.mem_of_getElem? (i := 1725) (by decide +kernel), List.mem_of_getElem? (i := 1726) (by decide +kernel)⟩
theorem lw_p94 : lw_okq (⟨"ReceiptLeftModel", "getsBy", "(III)I"⟩, 44) := ⟨⟨by decide +kernel, by decide +kernel⟩, List.mem_of_getElem? (i := 1143) (by decide +kernel), List.mem_of_getElem? (i := 1729) (by decide +kernel), List.mem_of_getElem? (i := 1730) (by decide +kernel)⟩
theorem lw_p95 : lw_okq (⟨"ReceiptLeftModel", "gainOf", "(II)I"⟩, 44) := ⟨⟨by decide +kernel, by decide +kernel⟩, List.mem_of_getElem? (i := 1143) (by decide +kernel), List.mem_of_getElem? (i := 1733) (by decide +kernel), List.mem_of_getElem? (i := 1734) (by decide +kernel)⟩
def lw_privs_6 : List (MethodName × Nat) := [(⟨"ReceiptLeftModel", "staying", "(I)I"⟩, 44), (⟨"ReceiptLeftModel", "latest", "(III)I"⟩, 44), (⟨"ReceiptLeftModel", "leadRound", "()Z"⟩, 44), (⟨"ReceiptLeftModel", "liesFor", "(I)I"⟩, 44), (⟨"ReceiptLeftModel", "dueOn", "(I)I"⟩, 44), (⟨"ReceiptLeftModel", "goNights", "(I)I"⟩, 44), (⟨"ReceiptLeftModel", "failedSet", "()I"⟩, 44), (⟨"ReceiptLeftModel", "hitOf", "(I)I"⟩, 44), (⟨"ReceiptLeftModel", "mostWanted", "(II)I"⟩, 44), (⟨"ReceiptLeftModel", "layDeals", "()I"⟩, 44), (⟨"ReceiptLeftModel", "dealtFrom", "(II)I"⟩, 44), (⟨"ReceiptLeftModel", "dealtBy", "(III)I"⟩, 44), (⟨"ReceiptLeftModel", "isCost", "(I)Z"⟩, 44), (⟨"ReceiptLeftModel", "isRest", "(II)Z"⟩, 44), (⟨"ReceiptLeftModel", "getsBy", "(III)I"⟩, 44), (⟨"ReceiptLeftModel", "gainOf", "(II)I"⟩, 44)]
theorem lw_r6 : ∀ q ∈ lw_privs_6, lw_okq q := List.forall_mem_cons.mpr ⟨lw_p80, List.forall_mem_cons.mpr ⟨lw_p81, List.forall_mem_cons.mpr ⟨lw_p82, List.forall_mem_cons.mpr ⟨lw_p83, List.forall_mem_cons.mpr ⟨lw_p84, List.forall_mem_cons.mpr ⟨lw_p85, List.forall_mem_cons.mpr ⟨lw_p86, List.forall_mem_cons.mpr ⟨lw_p87, List.forall_mem_cons.mpr ⟨lw_p88, List.forall_mem_cons.mpr ⟨lw_p89, List.forall_mem_cons.mpr ⟨lw_p90, List.forall_mem_cons.mpr ⟨lw_p91, List.forall_mem_cons.mpr ⟨lw_p92, List.forall_mem_cons.mpr ⟨lw_p93, List.forall_mem_cons.mpr ⟨lw_p94, List.forall_mem_cons.mpr ⟨lw_p95, fun _ h => absurd h List.not_mem_nil⟩⟩⟩⟩⟩⟩⟩⟩⟩⟩⟩⟩⟩⟩⟩⟩
theorem lw_p96 : lw_okq (⟨"ReceiptLeftModel", "lossOf", "(I)I"⟩, 44) := ⟨⟨by decide +kernel, by decide +kernel⟩, List.mem_of_getElem? (i := 1143) (by decide +kernel), List.mem_of_getElem? (i := 1737) (by decide +kernel), List.mem_of_getElem? (i := 1738) (by decide +kernel)⟩
theorem lw_p97 : lw_okq (⟨"ReceiptLeftModel", "asksPapers", "(I)I"⟩, 44) := ⟨⟨by decide +kernel, by decide +kernel⟩, List.mem_of_getElem? (i := 1143) (by decide +kernel), List.mem_of_getElem? (i := 1753) (by decide +kernel), List.mem_of_getElem? (i := 1754) (by decide +kernel)⟩
theorem lw_p98 : lw_okq (⟨"ReceiptLeftModel", "isRowPaper", "(II)Z"⟩, 44) := ⟨⟨by decide +kernel, by decide +kernel⟩, List.mem_of_getElem? (i := 1143) (by decide +kernel), List.mem_of_getElem? (i := 1760) (by decide +kernel), List.mem_of_getElem? (i := 1761) (by decide +kernel)⟩
theorem lw_p99 : lw_okq (⟨"ReceiptLeftModel", "numberAt", "(II)J"⟩, 44) := ⟨⟨by decide +kernel, by decide +kernel⟩, List.mem_of_getElem? (i := 1143) (by decide +kernel), List.mem_of_getElem? (i := 1764) (by decide +kernel), List.mem_of_getElem? (i := 1765) (by decide +kernel)⟩
theorem lw_p100 : lw_okq (⟨"ReceiptLeftModel", "layFalse", "(I)V"⟩, 44) := ⟨⟨by decide +kernel, by decide +kernel⟩, List.mem_of_getElem? (i := 1143) (by decide +kernel), List.mem_of_getElem? (i := 1769) (by decide +kernel), List.mem_of_getElem? (i := 1770) (by decide +kernel)⟩
theorem lw_p101 : lw_okq (⟨"ReceiptLeftModel", "fitsRow", "(IIIZ)Z"⟩, 44) := ⟨⟨by decide +kernel, by decide +kernel⟩, List.mem_of_getElem? (i := 1143) (by decide +kernel), List.mem_of_getElem? (i := 1773) (by decide +kernel), List.mem_of_getElem? (i := 1774) (by decide +kernel)⟩
theorem lw_p102 : lw_okq (⟨"ReceiptLeftModel", "areDrawn", "(II)Z"⟩, 44) := ⟨⟨by decide +kernel, by decide +kernel⟩, List.mem_of_getElem? (i := 1143) (by decide +kernel), List.mem_of_getElem? (i := 1789) (by decide +kernel), List.mem_of_getElem? (i := 1790) (by decide +kernel)⟩
theorem lw_p103 : lw_okq (⟨"ReceiptLeftModel", "goDrawn", "(JI)I"⟩, 44) := ⟨⟨by decide +kernel, by decide +kernel⟩, List.mem_of_getElem? (i := 1143) (by decide +kernel), List.mem_of_getElem? (i := 1795) (by decide +kernel), List.mem_of_getElem? (i := 1796) (by decide +kernel)⟩
theorem lw_p104 : lw_okq (⟨"ReceiptLeftModel", "draw", "(I)I"⟩, 44) := ⟨⟨by decide +kernel, by decide +kernel⟩, List.mem_of_getElem? (i := 1143) (by decide +kernel), List.mem_of_getElem? (i := 1799) (by decide +kernel), List.mem_of_getElem? (i := 1800) (by decide +kernel)⟩
theorem lw_p105 : lw_okq (⟨"ReceiptLeftModel", "tell", "(II)I"⟩, 44) := ⟨⟨by decide +kernel, by decide +kernel⟩, List.mem_of_getElem? (i := 1143) (by decide +kernel), List.mem_of_getElem? (i := 1816) (by decide +kernel), List.mem_of_getElem? (i := 1817) (by decide +kernel)⟩
def lw_privs_7 : List (MethodName × Nat) := [(⟨"ReceiptLeftModel", "lossOf", "(I)I"⟩, 44), (⟨"ReceiptLeftModel", "asksPapers", "(I)I"⟩, 44), (⟨"ReceiptLeftModel", "isRowPaper", "(II)Z"⟩, 44), (⟨"ReceiptLeftModel", "numberAt", "(II)J"⟩, 44), (⟨"ReceiptLeftModel", "layFalse", "(I)V"⟩, 44), (⟨"ReceiptLeftModel", "fitsRow", "(IIIZ)Z"⟩, 44), (⟨"ReceiptLeftModel", "areDrawn", "(II)Z"⟩, 44), (⟨"ReceiptLeftModel", "goDrawn", "(JI)I"⟩, 44), (⟨"ReceiptLeftModel", "draw", "(I)I"⟩, 44), (⟨"ReceiptLeftModel", "tell", "(II)I"⟩, 44)]
theorem lw_r7 : ∀ q ∈ lw_privs_7, lw_okq q := List.forall_mem_cons.mpr ⟨lw_p96, List.forall_mem_cons.mpr ⟨lw_p97, List.forall_mem_cons.mpr ⟨lw_p98, List.forall_mem_cons.mpr ⟨lw_p99, List.forall_mem_cons.mpr ⟨lw_p100, List.forall_mem_cons.mpr ⟨lw_p101, List.forall_mem_cons.mpr ⟨lw_p102, List.forall_mem_cons.mpr ⟨lw_p103, List.forall_mem_cons.mpr ⟨lw_p104, List.forall_mem_cons.mpr ⟨lw_p105, fun _ h => absurd h List.not_mem_nil⟩⟩⟩⟩⟩⟩⟩⟩⟩⟩
def lw_privs : List (MethodName × Nat) := lw_privs_1 ++ (lw_privs_2 ++ (lw_privs_3 ++ (lw_privs_4 ++ (lw_privs_5 ++ (lw_privs_6 ++ (lw_privs_7))))))
def lw_tbl : List Cond := k2_sels lw_privs ++ tables_1
theorem lw_privs_ok : ∀ q ∈ lw_privs, lw_okq q := by
  show ∀ q ∈ lw_privs_1 ++ (lw_privs_2 ++ (lw_privs_3 ++ (lw_privs_4 ++ (lw_privs_5 ++ (lw_privs_6 ++ (lw_privs_7)))))), lw_okq q
  exact List.forall_mem_append.mpr ⟨lw_r1, List.forall_mem_append.mpr ⟨lw_r2, List.forall_mem_append.mpr ⟨lw_r3, List.forall_mem_append.mpr ⟨lw_r4, List.forall_mem_append.mpr ⟨lw_r5, List.forall_mem_append.mpr ⟨lw_r6, lw_r7⟩⟩⟩⟩⟩⟩
end
section
/-! ===== z: the words, all of the tables' good ones, for every method alike ===== -/
def zT : List Cond := lw_tbl.filter goodWord
theorem zT_in {w : Cond} (h : w ∈ lw_tbl) (g : goodWord w = true) : w ∈ zT := List.mem_filter.mpr ⟨h, g⟩
theorem zT_good : ∀ w ∈ zT, (w.onTables && w.keeps) = true ∨ ∃ ty, w = .arrayClass ty := fun _ h => good_of_word (List.mem_filter.mp h).2
theorem zT_lw : ∀ w ∈ zT, w ∈ lw_tbl := fun _ h => (List.mem_filter.mp h).1
theorem z_c {w : Cond} (h : w ∈ tables_1) : w ∈ lw_tbl := List.mem_append_right _ h
theorem z_c1 {w : Cond} (h : w ∈ tables_1_1) : w ∈ lw_tbl := z_c (List.mem_append_left _ h)
theorem z_c2 {w : Cond} (h : w ∈ tables_1_2) : w ∈ lw_tbl := z_c (List.mem_append_right _ (List.mem_append_left _ h))
theorem z_c3 {w : Cond} (h : w ∈ tables_1_3) : w ∈ lw_tbl := z_c (List.mem_append_right _ (List.mem_append_right _ (List.mem_append_left _ h)))
theorem z_c4 {w : Cond} (h : w ∈ tables_1_4) : w ∈ lw_tbl := z_c (List.mem_append_right _ (List.mem_append_right _ (List.mem_append_right _ (List.mem_append_left _ h))))
theorem z_c5 {w : Cond} (h : w ∈ tables_1_5) : w ∈ lw_tbl := z_c (List.mem_append_right _ (List.mem_append_right _ (List.mem_append_right _ (List.mem_append_right _ (List.mem_append_left _ h)))))
theorem z_c6 {w : Cond} (h : w ∈ tables_1_6) : w ∈ lw_tbl := z_c (List.mem_append_right _ (List.mem_append_right _ (List.mem_append_right _ (List.mem_append_right _ (List.mem_append_right _ (List.mem_append_left _ h))))))
theorem z_c7 {w : Cond} (h : w ∈ tables_1_7) : w ∈ lw_tbl := z_c (List.mem_append_right _ (List.mem_append_right _ (List.mem_append_right _ (List.mem_append_right _ (List.mem_append_right _ (List.mem_append_right _ (List.mem_append_left _ h)))))))
theorem z_c8 {w : Cond} (h : w ∈ tables_1_8) : w ∈ lw_tbl := z_c (List.mem_append_right _ (List.mem_append_right _ (List.mem_append_right _ (List.mem_append_right _ (List.mem_append_right _ (List.mem_append_right _ (List.mem_append_right _ h)))))))
theorem z_c0 {w : Cond} (h : w ∈ k2_sels lw_privs) : w ∈ lw_tbl := List.mem_append_left _ h
theorem z_GI {ws : List Cond} (h : ∀ w ∈ ws, w ∈ zT) : GoodIn zT ws := fun w hw => ⟨h w hw, zT_good w (h w hw)⟩
theorem z_GC {w : Cond} (h : w ∈ zT) : GoodIn zT (w :: zT) := z_GI (fun v hv => (List.mem_cons.mp hv).elim (fun e => e ▸ h) id)
theorem z_cwV {R : Room} {s : State} {args : Array Value} {own C : String} {index : Nat} {y : MethodName} {bytes : ByteArray} {maxL : Nat} {ret : Option FieldType} {rm : Room} (n : Nat) (ht : ∀ w ∈ zT, w.before args s = true) (hl : Cond.methodLink own index y ∈ zT) (hm : Cond.instanceMethod y ∈ zT ∧ Cond.selects C y y ∈ zT ∧ Cond.initialized y.cls ∈ zT ∧ Cond.code y bytes maxL ret ∈ zT)
    (hd : y.cls ≠ "java/lang/invoke/MethodHandle" ∧ y.cls ≠ "java/lang/invoke/VarHandle" ∧ (parseMethodDescriptor y.desc).map (fun d => d.parameters.length) = some n) (hR : rm.frames + 1 ≤ R.frames ∧ 8 + (maxL + 11) + rm.locals ≤ R.locals) :
    CallW R s args own C index y bytes maxL ret (Cond.code y bytes maxL ret :: zT) rm rm.cells rm.slots n :=
  ⟨callB_of n ht (z_GC hm.2.2.2) rfl rfl rfl (ht _ hm.2.2.1) (ht _ hl) hd hR, ht _ hm.1, ht _ hm.2.1⟩
theorem z_cwS {R : Room} {s : State} {args : Array Value} {own : String} {index : Nat} {y : MethodName} {bytes : ByteArray} {maxL : Nat} {ret : Option FieldType} {rm : Room} (n : Nat) (ht : ∀ w ∈ zT, w.before args s = true) (hl : Cond.methodLink own index y ∈ zT) (hm : Cond.static y ∈ zT ∧ Cond.initialized y.cls ∈ zT ∧ Cond.code y bytes maxL ret ∈ zT)
    (hd : y.cls ≠ "java/lang/invoke/MethodHandle" ∧ y.cls ≠ "java/lang/invoke/VarHandle" ∧ (parseMethodDescriptor y.desc).map (fun d => d.parameters.length) = some n) (hR : rm.frames + 1 ≤ R.frames ∧ 8 + (maxL + 11) + rm.locals ≤ R.locals) :
    CallB R s args own index y bytes maxL ret (Cond.code y bytes maxL ret :: zT) rm rm.cells rm.slots n ∧ (Cond.static y).before args s = true :=
  ⟨callB_of n ht (z_GC hm.2.2) rfl rfl rfl (ht _ hm.2.1) (ht _ hl) hd hR, ht _ hm.1⟩
/-! ===== z: worlds of a fixed shape: cell k lies at q k, and what it holds is K k of its own row of ints, its own row of an array, its own row of longs ===== -/
def zr {α : Type} (R : Nat → α) (k : Nat) (g : α) : Nat → α := fun j => bif Nat.beq j k then g else R j
theorem zr_eq {α : Type} {R : Nat → α} {k : Nat} {g : α} : zr R k g k = g := by
  have h : Nat.beq k k = true := Nat.beq_refl k
  simp only [zr, h, cond_true]
theorem zr_ne {α : Type} {R : Nat → α} {k j : Nat} {g : α} (h : j ≠ k) : zr R k g j = R j := by
  have h1 : Nat.beq j k = false := by
    cases hb : Nat.beq j k with
    | false => rfl
    | true => exact absurd (Nat.eq_of_beq_eq_true hb) h
  simp only [zr, h1, cond_false]
theorem zr_self {α : Type} {R : Nat → α} {k : Nat} : zr R k (R k) = R := by
  funext j
  by_cases h : j = k
  · subst h
    exact zr_eq
  · exact zr_ne h
/-- one place of one row -/
def zp {α : Type} (I : Nat → Nat → α) (k f : Nat) (v : α) : Nat → Nat → α := fun k' f' => bif Nat.beq k' k && Nat.beq f' f then v else I k' f'
theorem z_beq {a b : Nat} (h : a ≠ b) : Nat.beq a b = false := by
  cases hb : Nat.beq a b with
  | false => rfl
  | true => exact absurd (Nat.eq_of_beq_eq_true hb) h
theorem zp_eq {α : Type} {I : Nat → Nat → α} {k f : Nat} {v : α} : zp I k f v k f = v := by
  simp only [zp, Nat.beq_refl, Bool.and_self, cond_true]
theorem zp_nf {α : Type} {I : Nat → Nat → α} {k f j : Nat} {v : α} (h : j ≠ f) : zp I k f v k j = I k j := by
  simp only [zp, z_beq h, Bool.and_false, cond_false]
theorem zp_nk {α : Type} {I : Nat → Nat → α} {k f i : Nat} {v : α} (h : i ≠ k) : zp I k f v i = I i := by
  funext j
  simp only [zp, z_beq h, Bool.false_and, cond_false]
theorem zp_zr {α : Type} {R : Nat → Nat → α} {k f : Nat} {g : Nat → α} {v : α} : zp (zr R k g) k f v = zr R k (fun j => bif Nat.beq j f then v else g j) := by
  funext i
  by_cases h : i = k
  · subst h
    funext j
    rw [zr_eq]
    simp only [zp, Nat.beq_refl, Bool.true_and, zr_eq]
  · rw [zp_nk h, zr_ne h, zr_ne h]
theorem zp_upd {I : Nat → Nat → Int32} {k f : Nat} {v : Int32} : zp I k f v k = upd (I k) f v := by
  funext j
  by_cases h : j = f
  · subst h
    rw [zp_eq]
    simp [upd]
  · rw [zp_nf h]
    simp [upd, h]
theorem zp_updL {I : Nat → Nat → Int64} {k f : Nat} {v : Int64} : zp I k f v k = vp_updL (I k) f v := by
  funext j
  by_cases h : j = f
  · subst h
    rw [zp_eq]
    simp [vp_updL]
  · rw [zp_nf h]
    simp [vp_updL, h]
abbrev zKd : Type := Nat → (Nat → Int32) → (Nat → Int32) → (Nat → Int64) → va_E
def zw (n : Nat) (q : Nat → Nat) (K : zKd) (I R : Nat → Nat → Int32) (J : Nat → Nat → Int64) : va_W := (List.range n).map (fun k => (q k, K k (I k) (R k) (J k)))
theorem zw_get {n : Nat} {q : Nat → Nat} {K : zKd} {I R : Nat → Nat → Int32} {J : Nat → Nat → Int64} {k : Nat} (h : k < n) : (zw n q K I R J)[k]? = some (q k, K k (I k) (R k) (J k)) := by
  simp [zw, List.getElem?_map, List.getElem?_range h]
theorem zw_at {n : Nat} {q : Nat → Nat} {K : zKd} {I R : Nat → Nat → Int32} {J : Nat → Nat → Int64} {k : Nat} {e : va_E} (h : k < n) (he : K k (I k) (R k) (J k) = e) : (zw n q K I R J)[k]? = some (q k, e) := he ▸ zw_get h
theorem zw_inv {n : Nat} {q : Nat → Nat} {K : zKd} {I R : Nat → Nat → Int32} {J : Nat → Nat → Int64} {k : Nat} {x : Nat × va_E} (h : (zw n q K I R J)[k]? = some x) : k < n ∧ x = (q k, K k (I k) (R k) (J k)) := by
  rcases Nat.lt_or_ge k n with hk | hk
  · rw [zw_get hk] at h
    exact ⟨hk, (Option.some.inj h).symm⟩
  · have : (zw n q K I R J)[k]? = none := by
      simp [zw, hk]
    rw [this] at h
    cases h
theorem zw_set {n : Nat} {q : Nat → Nat} {K : zKd} {I R I' R' : Nat → Nat → Int32} {J J' : Nat → Nat → Int64} {k : Nat} {e : va_E} (he : K k (I' k) (R' k) (J' k) = e) (hI : ∀ j, j ≠ k → I' j = I j) (hR : ∀ j, j ≠ k → R' j = R j) (hJ : ∀ j, j ≠ k → J' j = J j) : (zw n q K I R J).set k (q k, e) = zw n q K I' R' J' := by
  apply List.ext_getElem?
  intro j
  by_cases hj : j = k
  · subst hj
    rcases Nat.lt_or_ge j n with h | h
    · rw [zw_at h he, List.getElem?_set_self (by simpa [zw] using h)]
    · rw [List.getElem?_eq_none (by simpa [zw] using h), List.getElem?_eq_none (by simpa [zw] using h)]
  · rw [List.getElem?_set_ne (fun h => hj h.symm)]
    rcases Nat.lt_or_ge j n with h | h
    · rw [zw_get h, zw_get h, hI j hj, hR j hj, hJ j hj]
    · rw [List.getElem?_eq_none (by simpa [zw] using h), List.getElem?_eq_none (by simpa [zw] using h)]
theorem zw_setI {n : Nat} {q : Nat → Nat} {K : zKd} {I R : Nat → Nat → Int32} {J : Nat → Nat → Int64} {k : Nat} {e : va_E} {g : Nat → Int32} (he : K k g (R k) (J k) = e) : (zw n q K I R J).set k (q k, e) = zw n q K (zr I k g) R J :=
  zw_set (by rw [zr_eq]; exact he) (fun _ h => zr_ne h) (fun _ _ => rfl) (fun _ _ => rfl)
theorem zw_setR {n : Nat} {q : Nat → Nat} {K : zKd} {I R : Nat → Nat → Int32} {J : Nat → Nat → Int64} {k : Nat} {e : va_E} {g : Nat → Int32} (he : K k (I k) g (J k) = e) : (zw n q K I R J).set k (q k, e) = zw n q K I (zr R k g) J :=
  zw_set (by rw [zr_eq]; exact he) (fun _ _ => rfl) (fun _ h => zr_ne h) (fun _ _ => rfl)
theorem zw_setJ {n : Nat} {q : Nat → Nat} {K : zKd} {I R : Nat → Nat → Int32} {J : Nat → Nat → Int64} {k : Nat} {e : va_E} {g : Nat → Int64} (he : K k (I k) (R k) g = e) : (zw n q K I R J).set k (q k, e) = zw n q K I R (zr J k g) :=
  zw_set (by rw [zr_eq]; exact he) (fun _ _ => rfl) (fun _ _ => rfl) (fun _ h => zr_ne h)
theorem zw_pI {n : Nat} {q : Nat → Nat} {K : zKd} {I R : Nat → Nat → Int32} {J : Nat → Nat → Int64} {k f : Nat} {v : Int32} {e : va_E} (he : K k (zp I k f v k) (R k) (J k) = e) : (zw n q K I R J).set k (q k, e) = zw n q K (zp I k f v) R J :=
  zw_set he (fun _ h => zp_nk h) (fun _ _ => rfl) (fun _ _ => rfl)
theorem zw_pR {n : Nat} {q : Nat → Nat} {K : zKd} {I R : Nat → Nat → Int32} {J : Nat → Nat → Int64} {k f : Nat} {v : Int32} {e : va_E} (he : K k (I k) (zp R k f v k) (J k) = e) : (zw n q K I R J).set k (q k, e) = zw n q K I (zp R k f v) J :=
  zw_set he (fun _ _ => rfl) (fun _ h => zp_nk h) (fun _ _ => rfl)
theorem zw_pJ {n : Nat} {q : Nat → Nat} {K : zKd} {I R : Nat → Nat → Int32} {J : Nat → Nat → Int64} {k f : Nat} {v : Int64} {e : va_E} (he : K k (I k) (R k) (zp J k f v k) = e) : (zw n q K I R J).set k (q k, e) = zw n q K I R (zp J k f v) :=
  zw_set he (fun _ _ => rfl) (fun _ _ => rfl) (fun _ h => zp_nk h)
theorem zw_pRu {n : Nat} {q : Nat → Nat} {K : zKd} {I R : Nat → Nat → Int32} {J : Nat → Nat → Int64} {k f : Nat} {v : Int32} {cA : ClassId} {N : Nat} (he : ∀ g, K k (I k) g (J k) = .inl (cA, N, .inl g)) : (zw n q K I R J).set k (q k, .inl (cA, N, .inl (upd (R k) f v))) = zw n q K I (zp R k f v) J :=
  zw_pR (by rw [zp_upd]; exact he _)
theorem zw_pJu {n : Nat} {q : Nat → Nat} {K : zKd} {I R : Nat → Nat → Int32} {J : Nat → Nat → Int64} {k f : Nat} {v : Int64} {cA : ClassId} {N : Nat} (he : ∀ g, K k (I k) (R k) g = .inl (cA, N, .inr (.inl g))) : (zw n q K I R J).set k (q k, .inl (cA, N, .inr (.inl (vp_updL (J k) f v)))) = zw n q K I R (zp J k f v) :=
  zw_pJ (by rw [zp_updL]; exact he _)
/-- what a method may touch: the world's cells, and what is new -/
def zA (n : Nat) (q : Nat → Nat) (sz : Nat) : Nat → Prop := fun a => (∃ k, k < n ∧ q k = a) ∨ sz ≤ a
theorem zA_D {n : Nat} {q : Nat → Nat} {K : zKd} {I R : Nat → Nat → Int32} {J : Nat → Nat → Int64} {A : Nat → Prop} {sz : Nat} (h : va_D A (zw n q K I R J)) : va_D (zA n q sz) (zw n q K I R J) :=
  ⟨h.1, fun k x hk => by obtain ⟨h1, h2⟩ := zw_inv hk; rw [h2]; exact Or.inl ⟨k, h1, rfl⟩⟩
theorem zA_mono {n : Nat} {q : Nat → Nat} {a b : Nat} (h : a ≤ b) : ∀ x, zA n q b x → zA n q a x := fun _ hx => hx.elim Or.inl (fun g => Or.inr (Nat.le_trans h g))
theorem zA_of {n : Nat} {q : Nat → Nat} {K : zKd} {I R : Nat → Nat → Int32} {J : Nat → Nat → Int64} {A : Nat → Prop} {H0 H : Heap} {locs : List Loc} (hD : va_D A (zw n q K I R J)) (hS : va_S A H0 H locs) (hA : ∀ a, H0.size ≤ a → A a) : ∀ a, zA n q H.size a → A a := by
  intro a h
  rcases h with ⟨k, hk, rfl⟩ | h
  · exact hD.2 k _ (zw_get hk)
  · exact hA a (Nat.le_trans hS.1 h)
abbrev zU : Type := (Nat → Nat → Int32) × (Nat → Nat → Int32) × (Nat → Nat → Int64)
def zPc (D : va_G) (cl : List vw_C) (tys : List (ClassId × FieldType)) (n : Nat) (q : Nat → Nat) (K : zKd) (av : List Value) (u : zU) (sz : Nat) : Array Value → State → Prop :=
  va_Pc av (fun U => U.heap.size = sz ∧ va_P D cl (zw n q K u.1 u.2.1 u.2.2) U.heap ∧ va_K D cl tys U ∧ va_D (fun _ => True) (zw n q K u.1 u.2.1 u.2.2))
def zB (D : va_G) (cl : List vw_C) (n : Nat) (q : Nat → Nat) (K : zKd) (sz : Nat) (u : zU) (t : State) : Prop :=
  va_P D cl (zw n q K u.1 u.2.1 u.2.2) t.heap ∧ va_D (zA n q sz) (zw n q K u.1 u.2.1 u.2.2)
/-- contracts over a world of a fixed shape: an int comes back, or nothing, or a long -/
def zMi (l : Launch) (D : va_G) (cl : List vw_C) (tys : List (ClassId × FieldType)) (n : Nat) (q : Nat → Nat) (K : zKd) (y : MethodName) (cc : ByteArray) (mL : Nat) (ret : Option FieldType) (rm : Room) (av : List Value) (u : zU) (post : Int32 → zU → Prop) : Prop :=
  ∀ sz : Nat, Met l y (Cond.code y cc mL ret :: zT) rm (zPc D cl tys n q K av u sz) (va_Qi post (zB D cl n q K sz) (zA n q sz)) 0 0 (zA n q sz)
def zMv (l : Launch) (D : va_G) (cl : List vw_C) (tys : List (ClassId × FieldType)) (n : Nat) (q : Nat → Nat) (K : zKd) (y : MethodName) (cc : ByteArray) (mL : Nat) (ret : Option FieldType) (rm : Room) (av : List Value) (u : zU) (post : zU → Prop) : Prop :=
  ∀ sz : Nat, Met l y (Cond.code y cc mL ret :: zT) rm (zPc D cl tys n q K av u sz) (va_Qv post (zB D cl n q K sz) (zA n q sz)) 0 0 (zA n q sz)
def zMl (l : Launch) (D : va_G) (cl : List vw_C) (tys : List (ClassId × FieldType)) (n : Nat) (q : Nat → Nat) (K : zKd) (y : MethodName) (cc : ByteArray) (mL : Nat) (ret : Option FieldType) (rm : Room) (av : List Value) (u : zU) (post : Int64 → zU → Prop) : Prop :=
  ∀ sz : Nat, Met l y (Cond.code y cc mL ret :: zT) rm (zPc D cl tys n q K av u sz) (va_Ql post (zB D cl n q K sz) (zA n q sz)) 0 0 (zA n q sz)
theorem zPc_blind {D : va_G} {cl : List vw_C} {tys : List (ClassId × FieldType)} {n : Nat} {q : Nat → Nat} {K : zKd} {av : List Value} {u : zU} {sz : Nat} : FrameBlind (zPc D cl tys n q K av u sz) :=
  fun a U g mk h => by
    obtain ⟨q0, q1, qP, qK, qD⟩ := h
    exact ⟨q0, q1, qP, va_K.moved (u := U) (U := U.calling g mk a) (Vm.Alike.refl U.vm) qK, qD⟩
section ZB
variable {l : Launch} {D : va_G} {cl : List vw_C} {tys : List (ClassId × FieldType)} {n : Nat} {q : Nat → Nat} {K : zKd} {y : MethodName} {cc : ByteArray} {mL : Nat} {ret : Option FieldType} {rm : Room} {av : List Value} {I R : Nat → Nat → Int32} {J : Nat → Nat → Int64}
/-- the body of a method: what stands at its entry -/
theorem z_body {Qc : Array Value → State → Outcome → State → Prop} {sz : Nat} (hy : plainName y.cls = true) (hlen : (lg_sl av).length ≤ mL)
    (body : ∀ (p : Program) (e : Env) (s : State) (m : MethodId) (below : List Frame) (meth : Method) (c : Code) (ls : Array Slot), p.tables.exec = Jvm.exec → c.code = cc → c.maxLocals = mL → meth.sig.returnType = ret → (∀ w ∈ zT, w.before av.toArray s = true) → s.vm.findClass y.cls = some m.cls → meth.locks = false → s.heap.size = sz → va_K D cl tys s → va_P D cl (zw n q K I R J) s.heap → va_D (zA n q sz) (zw n q K I R J) → va_S (zA n q sz) s.heap s.heap [] → lv_has ls mL (lv_args 0 av) →
      W p l e rm s m av.toArray below meth c s.heap [] 0 0 (MQ below Qc av.toArray s 0 0 (zA n q sz)) (F0 m 0 ls [])) :
    Met l y (Cond.code y cc mL ret :: zT) rm (zPc D cl tys n q K av (I, R, J) sz) Qc 0 0 (zA n q sz) := by
  refine Met.ofW (cc := cc) (maxL := mL) (ret := ret) hy rfl ?_
  intro p e s m args below meth c s₁ B hml hv
  obtain ⟨rfl, hsz, hP, hK, hD0⟩ := hv
  have hts := atoms_spec (ws := Cond.code y cc mL ret :: zT) B.pre
  have hl := lv_entry av (n := mL) hlen
  rw [lg_entry_eq]
  exact body p e s m below meth c _ B.exec B.bytes hml B.returns (fun w h => hts w (List.mem_cons_of_mem _ h)) (findClass_of_methodNamed B.named) B.notSynchronized hsz hK hP (zA_D hD0) va_S.rf hl
end ZB
section ZR
variable {own : String} {p : Program} {l : Launch} {e : Env} {Rm : Room} {s : State} {m : MethodId} {args : Array Value} {below : List Frame} {meth : Method} {c : Code} {H H0 : Heap} {locs : List Loc} {cells slots : Nat} {Q : State → Prop} {D : va_G} {cl : List vw_C} {tys : List (ClassId × FieldType)} {n : Nat} {q : Nat → Nat} {K : zKd} {I R : Nat → Nat → Int32} {J : Nat → Nat → Int64} {A : Nat → Prop} {cc : ByteArray} {pc : Nat} {ls : Array Slot} {rest : List Value}
theorem z_eqi {x y : Int32} (h : x = y) (k : W p l e Rm s m args below meth c H locs cells slots Q (F0 m pc ls (.int y :: rest))) : W p l e Rm s m args below meth c H locs cells slots Q (F0 m pc ls (.int x :: rest)) := h ▸ k
theorem z_eql {x y : Int64} (h : x = y) (k : W p l e Rm s m args below meth c H locs cells slots Q (F0 m pc ls (.long y :: rest))) : W p l e Rm s m args below meth c H locs cells slots Q (F0 m pc ls (.long x :: rest)) := h ▸ k
theorem z_get (hx : p.tables.exec = Jvm.exec) (hb : c.code = cc) (ht : ∀ w ∈ zT, w.before args s = true) (hown : s.vm.findClass own = some m.cls) (hK : va_K D cl tys s) (hP : va_P D cl (zw n q K I R J) H) {C : String} {T : u_T} {N ci : Nat} (hin : ∀ w ∈ u_ws C T N, w ∈ zT) (hc : cl[ci]? = some (C, T, N)) (k : Nat) (hk : k < n) (f : Nat) (hf : f < N) {index : Nat} (hlink : Cond.fieldLink own index (T f).1 (T f).2.1 (T f).2.2.1 ∈ zT) {fs : List Value} (he : K k (I k) (R k) (J k) = .inr (ci, fs)) {v : Value} (hv : fs[f]? = some v) (hdg : decode cc pc = .ok (.getfield index, 3))
    (kk : W p l e Rm s m args below meth c H locs cells slots Q (F0 m (pc + 3) ls (v :: rest))) : W p l e Rm s m args below meth c H locs cells slots Q (F0 m pc ls (.ref (q k) :: rest)) :=
  va_get hx hb ht hin hown hK hP k (zw_at hk he) hc f hf (ht _ hlink) (fun _ h => h) hv hdg kk
theorem z_putI (hx : p.tables.exec = Jvm.exec) (hb : c.code = cc) (ht : ∀ w ∈ zT, w.before args s = true) (hown : s.vm.findClass own = some m.cls) (hK : va_K D cl tys s) (hP : va_P D cl (zw n q K I R J) H) (hD : va_D A (zw n q K I R J)) (hS : va_S A H0 H locs) {C : String} {T : u_T} {N ci : Nat} (hin : ∀ w ∈ u_ws C T N, w ∈ zT) (ty0 : Nat → FieldType) (hty : ∀ k, k < N → parseFieldDescriptor (T k).2.2.1 = some (ty0 k)) (hnm : ∀ a, a < N → ∀ b, b < N → a ≠ b → (T a).2.1 ≠ (T b).2.1) (hc : cl[ci]? = some (C, T, N)) (k : Nat) (hk : k < n) (f : Nat) (hf : f < N) {index : Nat} (hlink : Cond.fieldLink own index (T f).1 (T f).2.1 (T f).2.2.1 ∈ zT) (hfin : (T f).2.2.2 = false) {v : Int32} (hn : narrow (ty0 f) (.int v) = .int v) (hfit : fits (ty0 f) (.int v) = true) {fs : List Value} (he : K k (I k) (R k) (J k) = .inr (ci, fs)) (hl : f < fs.length) (he' : K k (zp I k f v k) (R k) (J k) = .inr (ci, fs.set f (.int v))) (hdg : decode cc pc = .ok (.putfield index, 3))
    (kk : ∀ (H1 : Heap) (locs1 : List Loc), va_P D cl (zw n q K (zp I k f v) R J) H1 → va_D A (zw n q K (zp I k f v) R J) → va_S A H0 H1 locs1 → W p l e Rm s m args below meth c H1 locs1 cells slots Q (F0 m (pc + 3) ls rest)) : W p l e Rm s m args below meth c H locs cells slots Q (F0 m pc ls (.int v :: .ref (q k) :: rest)) :=
  va_put hx hb ht hin ty0 hty hnm hown hK hP hD hS k (zw_at hk he) hc f hf (ht _ hlink) (fun _ h => h) hfin (hty f hf) hn hfit hl hdg (fun H1 locs1 hP1 hD1 hS1 => kk H1 locs1 (zw_pI he' ▸ hP1) (zw_pI he' ▸ hD1) hS1)
theorem z_putJ (hx : p.tables.exec = Jvm.exec) (hb : c.code = cc) (ht : ∀ w ∈ zT, w.before args s = true) (hown : s.vm.findClass own = some m.cls) (hK : va_K D cl tys s) (hP : va_P D cl (zw n q K I R J) H) (hD : va_D A (zw n q K I R J)) (hS : va_S A H0 H locs) {C : String} {T : u_T} {N ci : Nat} (hin : ∀ w ∈ u_ws C T N, w ∈ zT) (ty0 : Nat → FieldType) (hty : ∀ k, k < N → parseFieldDescriptor (T k).2.2.1 = some (ty0 k)) (hnm : ∀ a, a < N → ∀ b, b < N → a ≠ b → (T a).2.1 ≠ (T b).2.1) (hc : cl[ci]? = some (C, T, N)) (k : Nat) (hk : k < n) (f : Nat) (hf : f < N) {index : Nat} (hlink : Cond.fieldLink own index (T f).1 (T f).2.1 (T f).2.2.1 ∈ zT) (hfin : (T f).2.2.2 = false) {v : Int64} (hn : narrow (ty0 f) (.long v) = .long v) (hfit : fits (ty0 f) (.long v) = true) {fs : List Value} (he : K k (I k) (R k) (J k) = .inr (ci, fs)) (hl : f < fs.length) (he' : K k (I k) (R k) (zp J k f v k) = .inr (ci, fs.set f (.long v))) (hdg : decode cc pc = .ok (.putfield index, 3))
    (kk : ∀ (H1 : Heap) (locs1 : List Loc), va_P D cl (zw n q K I R (zp J k f v)) H1 → va_D A (zw n q K I R (zp J k f v)) → va_S A H0 H1 locs1 → W p l e Rm s m args below meth c H1 locs1 cells slots Q (F0 m (pc + 3) ls rest)) : W p l e Rm s m args below meth c H locs cells slots Q (F0 m pc ls (.long v :: .ref (q k) :: rest)) :=
  va_put hx hb ht hin ty0 hty hnm hown hK hP hD hS k (zw_at hk he) hc f hf (ht _ hlink) (fun _ h => h) hfin (hty f hf) hn hfit hl hdg (fun H1 locs1 hP1 hD1 hS1 => kk H1 locs1 (zw_pJ he' ▸ hP1) (zw_pJ he' ▸ hD1) hS1)
theorem z_iald (hx : p.tables.exec = Jvm.exec) (hb : c.code = cc) (hK : va_K D cl tys s) (hP : va_P D cl (zw n q K I R J) H) (k : Nat) (hk : k < n) (t0 : Nat) {cA : ClassId} {N : Nat} (he : K k (I k) (R k) (J k) = .inl (cA, N, .inl (R k))) (hty : tys[t0]? = some (cA, .int)) {i : Int32} (hin : vp_in i N) (hdg : decode cc pc = .ok (.iaload, 1))
    (kk : W p l e Rm s m args below meth c H locs cells slots Q (F0 m (pc + 1) ls (.int (R k i.toNatClampNeg) :: rest))) : W p l e Rm s m args below meth c H locs cells slots Q (F0 m pc ls (.int i :: .ref (q k) :: rest)) :=
  va_iald hx hb hK hP k t0 (zw_at hk he) hty hin hdg kk
theorem z_bald (hx : p.tables.exec = Jvm.exec) (hb : c.code = cc) (hK : va_K D cl tys s) (hP : va_P D cl (zw n q K I R J) H) (k : Nat) (hk : k < n) (t0 : Nat) {cA : ClassId} {N : Nat} (he : K k (I k) (R k) (J k) = .inl (cA, N, .inl (R k))) (hty : tys[t0]? = some (cA, .byte)) {i : Int32} (hin : vp_in i N) (hdg : decode cc pc = .ok (.baload, 1))
    (kk : W p l e Rm s m args below meth c H locs cells slots Q (F0 m (pc + 1) ls (.int (R k i.toNatClampNeg) :: rest))) : W p l e Rm s m args below meth c H locs cells slots Q (F0 m pc ls (.int i :: .ref (q k) :: rest)) :=
  va_bald hx hb hK hP k t0 (zw_at hk he) hty hin hdg kk
theorem z_zald (hx : p.tables.exec = Jvm.exec) (hb : c.code = cc) (hK : va_K D cl tys s) (hP : va_P D cl (zw n q K I R J) H) (k : Nat) (hk : k < n) (t0 : Nat) {cA : ClassId} {N : Nat} (he : K k (I k) (R k) (J k) = .inl (cA, N, .inl (R k))) (hty : tys[t0]? = some (cA, .boolean)) {i : Int32} (hin : vp_in i N) (hdg : decode cc pc = .ok (.baload, 1))
    (kk : W p l e Rm s m args below meth c H locs cells slots Q (F0 m (pc + 1) ls (.int (R k i.toNatClampNeg) :: rest))) : W p l e Rm s m args below meth c H locs cells slots Q (F0 m pc ls (.int i :: .ref (q k) :: rest)) :=
  va_zald hx hb hK hP k t0 (zw_at hk he) hty hin hdg kk
theorem z_lald (hx : p.tables.exec = Jvm.exec) (hb : c.code = cc) (hK : va_K D cl tys s) (hP : va_P D cl (zw n q K I R J) H) (k : Nat) (hk : k < n) (t0 : Nat) {cA : ClassId} {N : Nat} (he : K k (I k) (R k) (J k) = .inl (cA, N, .inr (.inl (J k)))) (hty : tys[t0]? = some (cA, .long)) {i : Int32} (hin : vp_in i N) (hdg : decode cc pc = .ok (.laload, 1))
    (kk : W p l e Rm s m args below meth c H locs cells slots Q (F0 m (pc + 1) ls (.long (J k i.toNatClampNeg) :: rest))) : W p l e Rm s m args below meth c H locs cells slots Q (F0 m pc ls (.int i :: .ref (q k) :: rest)) :=
  va_lald hx hb hK hP k t0 (zw_at hk he) hty hin hdg kk
theorem z_iast (hx : p.tables.exec = Jvm.exec) (hb : c.code = cc) (hK : va_K D cl tys s) (hP : va_P D cl (zw n q K I R J) H) (hD : va_D A (zw n q K I R J)) (hS : va_S A H0 H locs) (k : Nat) (hk : k < n) (t0 : Nat) {cA : ClassId} {N : Nat} (he : ∀ g, K k (I k) g (J k) = .inl (cA, N, .inl g)) (hty : tys[t0]? = some (cA, .int)) {i x : Int32} (hin : vp_in i N) (hdg : decode cc pc = .ok (.iastore, 1))
    (kk : ∀ (H1 : Heap) (locs1 : List Loc), va_P D cl (zw n q K I (zp R k i.toNatClampNeg x) J) H1 → va_D A (zw n q K I (zp R k i.toNatClampNeg x) J) → va_S A H0 H1 locs1 → W p l e Rm s m args below meth c H1 locs1 cells slots Q (F0 m (pc + 1) ls rest)) : W p l e Rm s m args below meth c H locs cells slots Q (F0 m pc ls (.int x :: .int i :: .ref (q k) :: rest)) :=
  va_iast hx hb hK hP hD hS k t0 (zw_at hk (he (R k))) hty hin hdg (fun H1 locs1 hP1 hD1 hS1 => kk H1 locs1 (zw_pRu he ▸ hP1) (zw_pRu he ▸ hD1) hS1)
theorem z_bast (hx : p.tables.exec = Jvm.exec) (hb : c.code = cc) (hK : va_K D cl tys s) (hP : va_P D cl (zw n q K I R J) H) (hD : va_D A (zw n q K I R J)) (hS : va_S A H0 H locs) (k : Nat) (hk : k < n) (t0 : Nat) {cA : ClassId} {N : Nat} (he : ∀ g, K k (I k) g (J k) = .inl (cA, N, .inl g)) (hty : tys[t0]? = some (cA, .byte)) {i x : Int32} (hin : vp_in i N) (hdg : decode cc pc = .ok (.bastore, 1))
    (kk : ∀ (H1 : Heap) (locs1 : List Loc), va_P D cl (zw n q K I (zp R k i.toNatClampNeg (vp_nar .byte x)) J) H1 → va_D A (zw n q K I (zp R k i.toNatClampNeg (vp_nar .byte x)) J) → va_S A H0 H1 locs1 → W p l e Rm s m args below meth c H1 locs1 cells slots Q (F0 m (pc + 1) ls rest)) : W p l e Rm s m args below meth c H locs cells slots Q (F0 m pc ls (.int x :: .int i :: .ref (q k) :: rest)) :=
  va_bast hx hb hK hP hD hS k t0 (zw_at hk (he (R k))) hty hin hdg (fun H1 locs1 hP1 hD1 hS1 => kk H1 locs1 (zw_pRu he ▸ hP1) (zw_pRu he ▸ hD1) hS1)
theorem z_zast (hx : p.tables.exec = Jvm.exec) (hb : c.code = cc) (hK : va_K D cl tys s) (hP : va_P D cl (zw n q K I R J) H) (hD : va_D A (zw n q K I R J)) (hS : va_S A H0 H locs) (k : Nat) (hk : k < n) (t0 : Nat) {cA : ClassId} {N : Nat} (he : ∀ g, K k (I k) g (J k) = .inl (cA, N, .inl g)) (hty : tys[t0]? = some (cA, .boolean)) {i x : Int32} (hin : vp_in i N) (hdg : decode cc pc = .ok (.bastore, 1))
    (kk : ∀ (H1 : Heap) (locs1 : List Loc), va_P D cl (zw n q K I (zp R k i.toNatClampNeg (vp_nar .boolean x)) J) H1 → va_D A (zw n q K I (zp R k i.toNatClampNeg (vp_nar .boolean x)) J) → va_S A H0 H1 locs1 → W p l e Rm s m args below meth c H1 locs1 cells slots Q (F0 m (pc + 1) ls rest)) : W p l e Rm s m args below meth c H locs cells slots Q (F0 m pc ls (.int x :: .int i :: .ref (q k) :: rest)) :=
  va_zast hx hb hK hP hD hS k t0 (zw_at hk (he (R k))) hty hin hdg (fun H1 locs1 hP1 hD1 hS1 => kk H1 locs1 (zw_pRu he ▸ hP1) (zw_pRu he ▸ hD1) hS1)
theorem z_last (hx : p.tables.exec = Jvm.exec) (hb : c.code = cc) (hK : va_K D cl tys s) (hP : va_P D cl (zw n q K I R J) H) (hD : va_D A (zw n q K I R J)) (hS : va_S A H0 H locs) (k : Nat) (hk : k < n) (t0 : Nat) {cA : ClassId} {N : Nat} (he : ∀ g, K k (I k) (R k) g = .inl (cA, N, .inr (.inl g))) (hty : tys[t0]? = some (cA, .long)) {i : Int32} {x : Int64} (hin : vp_in i N) (hdg : decode cc pc = .ok (.lastore, 1))
    (kk : ∀ (H1 : Heap) (locs1 : List Loc), va_P D cl (zw n q K I R (zp J k i.toNatClampNeg x)) H1 → va_D A (zw n q K I R (zp J k i.toNatClampNeg x)) → va_S A H0 H1 locs1 → W p l e Rm s m args below meth c H1 locs1 cells slots Q (F0 m (pc + 1) ls rest)) : W p l e Rm s m args below meth c H locs cells slots Q (F0 m pc ls (.long x :: .int i :: .ref (q k) :: rest)) :=
  va_last hx hb hK hP hD hS k t0 (zw_at hk (he (J k))) hty hin hdg (fun H1 locs1 hP1 hD1 hS1 => kk H1 locs1 (zw_pJu he ▸ hP1) (zw_pJu he ▸ hD1) hS1)
theorem z_copyi (hx : p.tables.exec = Jvm.exec) (hb : c.code = cc) (hml : c.maxLocals = ls.size) (ht : ∀ w ∈ zT, w.before args s = true) (hown : s.vm.findClass own = some m.cls) {index : Nat} (hlink : Cond.methodLink own index arraycopyName ∈ zT) (hw : Cond.native arraycopyName ∈ zT ∧ Cond.static arraycopyName ∈ zT ∧ Cond.initialized "java/lang/System" ∈ zT) (hK : va_K D cl tys s) (hP : va_P D cl (zw n q K I R J) H) (hD : va_D A (zw n q K I R J)) (hS : va_S A H0 H locs) (k0 k1 : Nat) (hk0 : k0 < n) (hk1 : k1 < n) (t0 t1 : Nat) {c0 c1 : ClassId} {n0 n1 : Nat} (he0 : K k0 (I k0) (R k0) (J k0) = .inl (c0, n0, .inl (R k0))) (he1 : ∀ g, K k1 (I k1) g (J k1) = .inl (c1, n1, .inl g)) (ht0 : tys[t0]? = some (c0, .int)) (ht1 : tys[t1]? = some (c1, .int)) {sp dp nn : Int32} (h1 : ¬ sp < 0) (h2 : ¬ dp < 0) (h3 : ¬ nn < 0) (h4 : sp.toNatClampNeg + nn.toNatClampNeg ≤ n0) (h5 : dp.toNatClampNeg + nn.toNatClampNeg ≤ n1) (hfr : 1 ≤ Rm.frames) (hlo : (rest.map fun v => v.category).sum + (nativeFrameWords "java/lang/System" "arraycopy" 5 + 11) ≤ Rm.locals) (hdg : decode cc pc = .ok (.invokestatic index, 3))
    (kk : ∀ (g : Nat → Int32) (H1 : Heap) (locs1 : List Loc), g = va_cpy (R k0) (R k1) sp.toNatClampNeg dp.toNatClampNeg nn.toNatClampNeg → va_P D cl (zw n q K I (zr R k1 g) J) H1 → va_D A (zw n q K I (zr R k1 g) J) → va_S A H0 H1 locs1 → W p l e Rm s m args below meth c H1 locs1 cells slots Q (F0 m (pc + 3) ls rest)) : W p l e Rm s m args below meth c H locs cells slots Q (F0 m pc ls (.int nn :: .int dp :: .ref (q k1) :: .int sp :: .ref (q k0) :: rest)) :=
  va_copyi hx hb hml hown (ht _ hlink) (ht _ hw.1) (ht _ hw.2.1) (ht _ hw.2.2) hK hP hD hS k0 k1 t0 t1 (zw_at hk0 he0) (zw_at hk1 (he1 (R k1))) ht0 ht1 rfl h1 h2 h3 h4 h5 (fun _ _ => rfl) hfr hlo hdg (fun H1 locs1 hP1 hD1 hS1 => kk _ H1 locs1 rfl (zw_setR (he1 _) ▸ hP1) (zw_setR (he1 _) ▸ hD1) hS1)
theorem z_alen (hx : p.tables.exec = Jvm.exec) (hb : c.code = cc) (hK : va_K D cl tys s) (hP : va_P D cl (zw n q K I R J) H) (k : Nat) (hk : k < n) (t0 : Nat) {cA : ClassId} {x : vp_A} (he : K k (I k) (R k) (J k) = .inl (cA, x)) {ty : FieldType} (hty : tys[t0]? = some (cA, ty)) (hdg : decode cc pc = .ok (.arraylength, 1))
    (kk : W p l e Rm s m args below meth c H locs cells slots Q (F0 m (pc + 1) ls (.int (nI x.1) :: rest))) : W p l e Rm s m args below meth c H locs cells slots Q (F0 m pc ls (.ref (q k) :: rest)) :=
  va_alen hx hb hK hP k t0 (zw_at hk he) hty rfl hdg kk
theorem z_iret {sz : Nat} {post : Int32 → zU → Prop} (hx : p.tables.exec = Jvm.exec) (hb : c.code = cc) (hr : meth.sig.returnType = some .int) (hlocks : meth.locks = false) (hP : va_P D cl (zw n q K I R J) H) (hD : va_D (zA n q sz) (zw n q K I R J)) (hS : va_S (zA n q sz) s.heap H locs) {v : Int32} (hdg : decode cc pc = .ok (.ireturn, 1)) (hp : post v (I, R, J)) :
    W p l e Rm s m args below meth c H locs 0 0 (MQ below (va_Qi post (zB D cl n q K sz) (zA n q sz)) args s 0 0 (zA n q sz)) (F0 m pc ls [.int v]) :=
  W.iret (v := v) hx hb hr (fun t ht _ => ⟨⟨v, (I, R, J), rfl, hp, by rw [ht]; exact hP, hD⟩, hS.F ht⟩) hS.2.2 hdg hlocks
theorem z_zret {sz : Nat} {post : Int32 → zU → Prop} {ty : FieldType} (hx : p.tables.exec = Jvm.exec) (hb : c.code = cc) (hr : meth.sig.returnType = some ty) (hlocks : meth.locks = false) (hP : va_P D cl (zw n q K I R J) H) (hD : va_D (zA n q sz) (zw n q K I R J)) (hS : va_S (zA n q sz) s.heap H locs) {v : Int32} (hn : narrow ty (.int v) = .int v) (hdg : decode cc pc = .ok (.ireturn, 1)) (hp : post v (I, R, J)) :
    W p l e Rm s m args below meth c H locs 0 0 (MQ below (va_Qi post (zB D cl n q K sz) (zA n q sz)) args s 0 0 (zA n q sz)) (F0 m pc ls [.int v]) :=
  W.zret (v := v) hx hb hr hn (fun t ht _ => ⟨⟨v, (I, R, J), rfl, hp, by rw [ht]; exact hP, hD⟩, hS.F ht⟩) hS.2.2 hdg hlocks
theorem z_lret {sz : Nat} {post : Int64 → zU → Prop} (hx : p.tables.exec = Jvm.exec) (hb : c.code = cc) (hr : meth.sig.returnType = some .long) (hlocks : meth.locks = false) (hP : va_P D cl (zw n q K I R J) H) (hD : va_D (zA n q sz) (zw n q K I R J)) (hS : va_S (zA n q sz) s.heap H locs) {v : Int64} (hdg : decode cc pc = .ok (.lreturn, 1)) (hp : post v (I, R, J)) :
    W p l e Rm s m args below meth c H locs 0 0 (MQ below (va_Ql post (zB D cl n q K sz) (zA n q sz)) args s 0 0 (zA n q sz)) (F0 m pc ls [.long v]) :=
  W.lret (v := v) hx hb hr (fun t ht _ => ⟨⟨v, (I, R, J), rfl, hp, by rw [ht]; exact hP, hD⟩, hS.F ht⟩) hS.2.2 hdg hlocks
theorem z_vret {sz : Nat} {post : zU → Prop} (hx : p.tables.exec = Jvm.exec) (hb : c.code = cc) (hr : meth.sig.returnType = none) (hlocks : meth.locks = false) (hP : va_P D cl (zw n q K I R J) H) (hD : va_D (zA n q sz) (zw n q K I R J)) (hS : va_S (zA n q sz) s.heap H locs) (hdg : decode cc pc = .ok (.return_, 1)) (hp : post (I, R, J)) :
    W p l e Rm s m args below meth c H locs 0 0 (MQ below (va_Qv post (zB D cl n q K sz) (zA n q sz)) args s 0 0 (zA n q sz)) (F0 m pc ls []) :=
  W.vret hx hb hr (fun t ht _ => ⟨⟨(I, R, J), rfl, hp, by rw [ht]; exact hP, hD⟩, hS.F ht⟩) hS.2.2 hdg hlocks
end ZR
section ZC
variable {p : Program} {l : Launch} {e : Env} {Rm : Room} {s : State} {m : MethodId} {args : Array Value} {below : List Frame} {meth : Method} {c : Code} {H H0 : Heap} {locs : List Loc} {cells slots : Nat} {Q : State → Prop} {D : va_G} {cl : List vw_C} {tys : List (ClassId × FieldType)} {n : Nat} {q : Nat → Nat} {K : zKd} {I R : Nat → Nat → Int32} {J : Nat → Nat → Int64} {A : Nat → Prop} {cc : ByteArray} {pc : Nat} {ls : Array Slot} {rest st0 As : List Value}
  {y : MethodName} {bytes : ByteArray} {mL nL na index : Nat} {ret : Option FieldType} {rm : Room} {own C : String} {T : u_T} {N ci k : Nat} {fs : List Value}
theorem z_preV (hK : va_K D cl tys s) (hP : va_P D cl (zw n q K I R J) H) (hD : va_D A (zw n q K I R J)) (hk : k < n) (he : K k (I k) (R k) (J k) = .inr (ci, fs)) (hc : cl[ci]? = some (C, T, N)) : PreV s H C (q k) (zPc D cl tys n q K (.ref (q k) :: As) (I, R, J) H.size) As :=
  ⟨zPc_blind, va_recv hK hP hc (zw_at hk he), fun U hU hW => ⟨rfl, by rw [hU], by rw [hU]; exact hP, va_K.moved hW.alike hK, hD.weaken (fun _ _ _ _ => trivial)⟩⟩
theorem z_preS (hK : va_K D cl tys s) (hP : va_P D cl (zw n q K I R J) H) (hD : va_D A (zw n q K I R J)) : PreS s H (zPc D cl tys n q K As (I, R, J) H.size) As :=
  ⟨zPc_blind, fun U hU hW => ⟨rfl, by rw [hU], by rw [hU]; exact hP, va_K.moved hW.alike hK, hD.weaken (fun _ _ _ _ => trivial)⟩⟩
theorem z_runi {post : Int32 → zU → Prop} {a : Array Value} (hr : va_Run p l e Rm s m args below meth c H locs cells slots 0 0 (F0 m pc ls st0) rest (va_Qi post (zB D cl n q K H.size) (zA n q H.size) a) (zA n q H.size)) (hS : va_S A H0 H locs) (hAA : ∀ a, zA n q H.size a → A a)
    (kk : ∀ (r : Int32) (I1 R1 : Nat → Nat → Int32) (J1 : Nat → Nat → Int64) (H1 : Heap) (locs1 : List Loc), post r (I1, R1, J1) → va_P D cl (zw n q K I1 R1 J1) H1 → va_D A (zw n q K I1 R1 J1) → va_S A H0 H1 locs1 → H.size ≤ H1.size → (∀ a : Nat, a < H.size → ¬ zA n q H.size a → H1[a]? = H[a]?) → W p l e Rm s m args below meth c H1 locs1 cells slots Q (F0 m (pc + 3) ls (.int r :: rest))) : W p l e Rm s m args below meth c H locs cells slots Q (F0 m pc ls st0) :=
  va_calli hr hS (fun a _ h => hAA a h) hAA (fun r u t H1 locs1 ht _ hp hB hz hk hS1 => by
    obtain ⟨I1, R1, J1⟩ := u
    obtain ⟨hP1, hD1⟩ := hB
    rw [ht] at hP1
    exact kk r I1 R1 J1 H1 locs1 hp hP1 (hD1.weaken (fun _ x _ hx => hAA x.1 hx)) hS1 hz hk)
theorem z_runl {post : Int64 → zU → Prop} {a : Array Value} (hr : va_Run p l e Rm s m args below meth c H locs cells slots 0 0 (F0 m pc ls st0) rest (va_Ql post (zB D cl n q K H.size) (zA n q H.size) a) (zA n q H.size)) (hS : va_S A H0 H locs) (hAA : ∀ a, zA n q H.size a → A a)
    (kk : ∀ (r : Int64) (I1 R1 : Nat → Nat → Int32) (J1 : Nat → Nat → Int64) (H1 : Heap) (locs1 : List Loc), post r (I1, R1, J1) → va_P D cl (zw n q K I1 R1 J1) H1 → va_D A (zw n q K I1 R1 J1) → va_S A H0 H1 locs1 → H.size ≤ H1.size → (∀ a : Nat, a < H.size → ¬ zA n q H.size a → H1[a]? = H[a]?) → W p l e Rm s m args below meth c H1 locs1 cells slots Q (F0 m (pc + 3) ls (.long r :: rest))) : W p l e Rm s m args below meth c H locs cells slots Q (F0 m pc ls st0) :=
  va_calll hr hS (fun a _ h => hAA a h) hAA (fun r u t H1 locs1 ht _ hp hB hz hk hS1 => by
    obtain ⟨I1, R1, J1⟩ := u
    obtain ⟨hP1, hD1⟩ := hB
    rw [ht] at hP1
    exact kk r I1 R1 J1 H1 locs1 hp hP1 (hD1.weaken (fun _ x _ hx => hAA x.1 hx)) hS1 hz hk)
theorem z_runv {post : zU → Prop} {a : Array Value} (hr : va_Run p l e Rm s m args below meth c H locs cells slots 0 0 (F0 m pc ls st0) rest (va_Qv post (zB D cl n q K H.size) (zA n q H.size) a) (zA n q H.size)) (hS : va_S A H0 H locs) (hAA : ∀ a, zA n q H.size a → A a)
    (kk : ∀ (I1 R1 : Nat → Nat → Int32) (J1 : Nat → Nat → Int64) (H1 : Heap) (locs1 : List Loc), post (I1, R1, J1) → va_P D cl (zw n q K I1 R1 J1) H1 → va_D A (zw n q K I1 R1 J1) → va_S A H0 H1 locs1 → H.size ≤ H1.size → (∀ a : Nat, a < H.size → ¬ zA n q H.size a → H1[a]? = H[a]?) → W p l e Rm s m args below meth c H1 locs1 cells slots Q (F0 m (pc + 3) ls rest)) : W p l e Rm s m args below meth c H locs cells slots Q (F0 m pc ls st0) :=
  va_callv hr hS (fun a _ h => hAA a h) hAA (fun u t H1 locs1 ht _ hp hB hz hk hS1 => by
    obtain ⟨I1, R1, J1⟩ := u
    obtain ⟨hP1, hD1⟩ := hB
    rw [ht] at hP1
    exact kk I1 R1 J1 H1 locs1 hp hP1 (hD1.weaken (fun _ x _ hx => hAA x.1 hx)) hS1 hz hk)
/-- a call of a method of the world's cell k, that answers an int -/
theorem z_callVi {post : Int32 → zU → Prop} (hx : p.tables.exec = Jvm.exec) (hb : c.code = cc) (hml : c.maxLocals = nL) (hown : s.vm.findClass own = some m.cls) (ht : ∀ w ∈ zT, w.before args s = true) (hM : zMi l D cl tys n q K y bytes mL ret rm (.ref (q k) :: As) (I, R, J) post) (hl : Cond.methodLink own index y ∈ zT) (hm : Cond.instanceMethod y ∈ zT ∧ Cond.selects C y y ∈ zT ∧ Cond.initialized y.cls ∈ zT ∧ Cond.code y bytes mL ret ∈ zT) (hrm : rm.cells = 0 ∧ rm.slots = 0) (hna : As.length = na)
    (hd : y.cls ≠ "java/lang/invoke/MethodHandle" ∧ y.cls ≠ "java/lang/invoke/VarHandle" ∧ (parseMethodDescriptor y.desc).map (fun d => d.parameters.length) = some na) (hR : rm.frames + 1 ≤ Rm.frames ∧ 8 + (mL + 11) + rm.locals ≤ Rm.locals) (hk : k < n) (he : K k (I k) (R k) (J k) = .inr (ci, fs)) (hc : cl[ci]? = some (C, T, N)) (hK : va_K D cl tys s) (hP : va_P D cl (zw n q K I R J) H) (hD : va_D A (zw n q K I R J)) (hS : va_S A H0 H locs) (hA : ∀ a, H0.size ≤ a → A a) (hsz : ls.size = nL) (hst : st0 = As.reverse ++ .ref (q k) :: rest) (hW : (rest.map fun v => v.category).sum ≤ 8) (hf : cells + 0 ≤ Rm.cells ∧ slots + 0 ≤ Rm.slots) (hdg : decode cc pc = .ok (.invokevirtual index, 3))
    (kk : ∀ (r : Int32) (I1 R1 : Nat → Nat → Int32) (J1 : Nat → Nat → Int64) (H1 : Heap) (locs1 : List Loc), post r (I1, R1, J1) → va_P D cl (zw n q K I1 R1 J1) H1 → va_D A (zw n q K I1 R1 J1) → va_S A H0 H1 locs1 → H.size ≤ H1.size → (∀ a : Nat, a < H.size → ¬ zA n q H.size a → H1[a]? = H[a]?) → W p l e Rm s m args below meth c H1 locs1 cells slots Q (F0 m (pc + 3) ls (.int r :: rest))) : W p l e Rm s m args below meth c H locs cells slots Q (F0 m pc ls st0) := by
  subst hst
  obtain ⟨rf, rc, rs, rl⟩ := rm
  obtain ⟨h1, h2⟩ := hrm
  cases h1
  cases h2
  exact z_runi (va_runV (As := As) (rest := rest) ⟨hx, hb, hml, hown, ht⟩ (hM H.size) (z_cwV na ht hl hm hd hR) (z_preV hK hP hD hk he hc) rfl hna hsz rfl (lv_room hW) hdg hf) hS (zA_of hD hS hA) kk
theorem z_callVv {post : zU → Prop} (hx : p.tables.exec = Jvm.exec) (hb : c.code = cc) (hml : c.maxLocals = nL) (hown : s.vm.findClass own = some m.cls) (ht : ∀ w ∈ zT, w.before args s = true) (hM : zMv l D cl tys n q K y bytes mL ret rm (.ref (q k) :: As) (I, R, J) post) (hl : Cond.methodLink own index y ∈ zT) (hm : Cond.instanceMethod y ∈ zT ∧ Cond.selects C y y ∈ zT ∧ Cond.initialized y.cls ∈ zT ∧ Cond.code y bytes mL ret ∈ zT) (hrm : rm.cells = 0 ∧ rm.slots = 0) (hna : As.length = na)
    (hd : y.cls ≠ "java/lang/invoke/MethodHandle" ∧ y.cls ≠ "java/lang/invoke/VarHandle" ∧ (parseMethodDescriptor y.desc).map (fun d => d.parameters.length) = some na) (hR : rm.frames + 1 ≤ Rm.frames ∧ 8 + (mL + 11) + rm.locals ≤ Rm.locals) (hk : k < n) (he : K k (I k) (R k) (J k) = .inr (ci, fs)) (hc : cl[ci]? = some (C, T, N)) (hK : va_K D cl tys s) (hP : va_P D cl (zw n q K I R J) H) (hD : va_D A (zw n q K I R J)) (hS : va_S A H0 H locs) (hA : ∀ a, H0.size ≤ a → A a) (hsz : ls.size = nL) (hst : st0 = As.reverse ++ .ref (q k) :: rest) (hW : (rest.map fun v => v.category).sum ≤ 8) (hf : cells + 0 ≤ Rm.cells ∧ slots + 0 ≤ Rm.slots) (hdg : decode cc pc = .ok (.invokevirtual index, 3))
    (kk : ∀ (I1 R1 : Nat → Nat → Int32) (J1 : Nat → Nat → Int64) (H1 : Heap) (locs1 : List Loc), post (I1, R1, J1) → va_P D cl (zw n q K I1 R1 J1) H1 → va_D A (zw n q K I1 R1 J1) → va_S A H0 H1 locs1 → H.size ≤ H1.size → (∀ a : Nat, a < H.size → ¬ zA n q H.size a → H1[a]? = H[a]?) → W p l e Rm s m args below meth c H1 locs1 cells slots Q (F0 m (pc + 3) ls rest)) : W p l e Rm s m args below meth c H locs cells slots Q (F0 m pc ls st0) := by
  subst hst
  obtain ⟨rf, rc, rs, rl⟩ := rm
  obtain ⟨h1, h2⟩ := hrm
  cases h1
  cases h2
  exact z_runv (va_runV (As := As) (rest := rest) ⟨hx, hb, hml, hown, ht⟩ (hM H.size) (z_cwV na ht hl hm hd hR) (z_preV hK hP hD hk he hc) rfl hna hsz rfl (lv_room hW) hdg hf) hS (zA_of hD hS hA) kk
theorem z_callVl {post : Int64 → zU → Prop} (hx : p.tables.exec = Jvm.exec) (hb : c.code = cc) (hml : c.maxLocals = nL) (hown : s.vm.findClass own = some m.cls) (ht : ∀ w ∈ zT, w.before args s = true) (hM : zMl l D cl tys n q K y bytes mL ret rm (.ref (q k) :: As) (I, R, J) post) (hl : Cond.methodLink own index y ∈ zT) (hm : Cond.instanceMethod y ∈ zT ∧ Cond.selects C y y ∈ zT ∧ Cond.initialized y.cls ∈ zT ∧ Cond.code y bytes mL ret ∈ zT) (hrm : rm.cells = 0 ∧ rm.slots = 0) (hna : As.length = na)
    (hd : y.cls ≠ "java/lang/invoke/MethodHandle" ∧ y.cls ≠ "java/lang/invoke/VarHandle" ∧ (parseMethodDescriptor y.desc).map (fun d => d.parameters.length) = some na) (hR : rm.frames + 1 ≤ Rm.frames ∧ 8 + (mL + 11) + rm.locals ≤ Rm.locals) (hk : k < n) (he : K k (I k) (R k) (J k) = .inr (ci, fs)) (hc : cl[ci]? = some (C, T, N)) (hK : va_K D cl tys s) (hP : va_P D cl (zw n q K I R J) H) (hD : va_D A (zw n q K I R J)) (hS : va_S A H0 H locs) (hA : ∀ a, H0.size ≤ a → A a) (hsz : ls.size = nL) (hst : st0 = As.reverse ++ .ref (q k) :: rest) (hW : (rest.map fun v => v.category).sum ≤ 8) (hf : cells + 0 ≤ Rm.cells ∧ slots + 0 ≤ Rm.slots) (hdg : decode cc pc = .ok (.invokevirtual index, 3))
    (kk : ∀ (r : Int64) (I1 R1 : Nat → Nat → Int32) (J1 : Nat → Nat → Int64) (H1 : Heap) (locs1 : List Loc), post r (I1, R1, J1) → va_P D cl (zw n q K I1 R1 J1) H1 → va_D A (zw n q K I1 R1 J1) → va_S A H0 H1 locs1 → H.size ≤ H1.size → (∀ a : Nat, a < H.size → ¬ zA n q H.size a → H1[a]? = H[a]?) → W p l e Rm s m args below meth c H1 locs1 cells slots Q (F0 m (pc + 3) ls (.long r :: rest))) : W p l e Rm s m args below meth c H locs cells slots Q (F0 m pc ls st0) := by
  subst hst
  obtain ⟨rf, rc, rs, rl⟩ := rm
  obtain ⟨h1, h2⟩ := hrm
  cases h1
  cases h2
  exact z_runl (va_runV (As := As) (rest := rest) ⟨hx, hb, hml, hown, ht⟩ (hM H.size) (z_cwV na ht hl hm hd hR) (z_preV hK hP hD hk he hc) rfl hna hsz rfl (lv_room hW) hdg hf) hS (zA_of hD hS hA) kk
theorem z_callSi {post : Int32 → zU → Prop} (hx : p.tables.exec = Jvm.exec) (hb : c.code = cc) (hml : c.maxLocals = nL) (hown : s.vm.findClass own = some m.cls) (ht : ∀ w ∈ zT, w.before args s = true) (hM : zMi l D cl tys n q K y bytes mL ret rm As (I, R, J) post) (hl : Cond.methodLink own index y ∈ zT) (hm : Cond.static y ∈ zT ∧ Cond.initialized y.cls ∈ zT ∧ Cond.code y bytes mL ret ∈ zT) (hrm : rm.cells = 0 ∧ rm.slots = 0) (hna : As.length = na)
    (hd : y.cls ≠ "java/lang/invoke/MethodHandle" ∧ y.cls ≠ "java/lang/invoke/VarHandle" ∧ (parseMethodDescriptor y.desc).map (fun d => d.parameters.length) = some na) (hR : rm.frames + 1 ≤ Rm.frames ∧ 8 + (mL + 11) + rm.locals ≤ Rm.locals) (hK : va_K D cl tys s) (hP : va_P D cl (zw n q K I R J) H) (hD : va_D A (zw n q K I R J)) (hS : va_S A H0 H locs) (hA : ∀ a, H0.size ≤ a → A a) (hsz : ls.size = nL) (hst : st0 = As.reverse ++ rest) (hW : (rest.map fun v => v.category).sum ≤ 8) (hf : cells + 0 ≤ Rm.cells ∧ slots + 0 ≤ Rm.slots) (hdg : decode cc pc = .ok (.invokestatic index, 3))
    (kk : ∀ (r : Int32) (I1 R1 : Nat → Nat → Int32) (J1 : Nat → Nat → Int64) (H1 : Heap) (locs1 : List Loc), post r (I1, R1, J1) → va_P D cl (zw n q K I1 R1 J1) H1 → va_D A (zw n q K I1 R1 J1) → va_S A H0 H1 locs1 → H.size ≤ H1.size → (∀ a : Nat, a < H.size → ¬ zA n q H.size a → H1[a]? = H[a]?) → W p l e Rm s m args below meth c H1 locs1 cells slots Q (F0 m (pc + 3) ls (.int r :: rest))) : W p l e Rm s m args below meth c H locs cells slots Q (F0 m pc ls st0) := by
  subst hst
  obtain ⟨rf, rc, rs, rl⟩ := rm
  obtain ⟨h1, h2⟩ := hrm
  cases h1
  cases h2
  exact z_runi (va_runS (As := As) (rest := rest) ⟨hx, hb, hml, hown, ht⟩ (hM H.size) (z_cwS na ht hl hm hd hR) (z_preS hK hP hD) rfl hna hsz rfl (lv_room hW) hdg hf) hS (zA_of hD hS hA) kk
theorem z_callSl {post : Int64 → zU → Prop} (hx : p.tables.exec = Jvm.exec) (hb : c.code = cc) (hml : c.maxLocals = nL) (hown : s.vm.findClass own = some m.cls) (ht : ∀ w ∈ zT, w.before args s = true) (hM : zMl l D cl tys n q K y bytes mL ret rm As (I, R, J) post) (hl : Cond.methodLink own index y ∈ zT) (hm : Cond.static y ∈ zT ∧ Cond.initialized y.cls ∈ zT ∧ Cond.code y bytes mL ret ∈ zT) (hrm : rm.cells = 0 ∧ rm.slots = 0) (hna : As.length = na)
    (hd : y.cls ≠ "java/lang/invoke/MethodHandle" ∧ y.cls ≠ "java/lang/invoke/VarHandle" ∧ (parseMethodDescriptor y.desc).map (fun d => d.parameters.length) = some na) (hR : rm.frames + 1 ≤ Rm.frames ∧ 8 + (mL + 11) + rm.locals ≤ Rm.locals) (hK : va_K D cl tys s) (hP : va_P D cl (zw n q K I R J) H) (hD : va_D A (zw n q K I R J)) (hS : va_S A H0 H locs) (hA : ∀ a, H0.size ≤ a → A a) (hsz : ls.size = nL) (hst : st0 = As.reverse ++ rest) (hW : (rest.map fun v => v.category).sum ≤ 8) (hf : cells + 0 ≤ Rm.cells ∧ slots + 0 ≤ Rm.slots) (hdg : decode cc pc = .ok (.invokestatic index, 3))
    (kk : ∀ (r : Int64) (I1 R1 : Nat → Nat → Int32) (J1 : Nat → Nat → Int64) (H1 : Heap) (locs1 : List Loc), post r (I1, R1, J1) → va_P D cl (zw n q K I1 R1 J1) H1 → va_D A (zw n q K I1 R1 J1) → va_S A H0 H1 locs1 → H.size ≤ H1.size → (∀ a : Nat, a < H.size → ¬ zA n q H.size a → H1[a]? = H[a]?) → W p l e Rm s m args below meth c H1 locs1 cells slots Q (F0 m (pc + 3) ls (.long r :: rest))) : W p l e Rm s m args below meth c H locs cells slots Q (F0 m pc ls st0) := by
  subst hst
  obtain ⟨rf, rc, rs, rl⟩ := rm
  obtain ⟨h1, h2⟩ := hrm
  cases h1
  cases h2
  exact z_runl (va_runS (As := As) (rest := rest) ⟨hx, hb, hml, hown, ht⟩ (hM H.size) (z_cwS na ht hl hm hd hR) (z_preS hK hP hD) rfl hna hsz rfl (lv_room hW) hdg hf) hS (zA_of hD hS hA) kk
theorem z_callSv {post : zU → Prop} (hx : p.tables.exec = Jvm.exec) (hb : c.code = cc) (hml : c.maxLocals = nL) (hown : s.vm.findClass own = some m.cls) (ht : ∀ w ∈ zT, w.before args s = true) (hM : zMv l D cl tys n q K y bytes mL ret rm As (I, R, J) post) (hl : Cond.methodLink own index y ∈ zT) (hm : Cond.static y ∈ zT ∧ Cond.initialized y.cls ∈ zT ∧ Cond.code y bytes mL ret ∈ zT) (hrm : rm.cells = 0 ∧ rm.slots = 0) (hna : As.length = na)
    (hd : y.cls ≠ "java/lang/invoke/MethodHandle" ∧ y.cls ≠ "java/lang/invoke/VarHandle" ∧ (parseMethodDescriptor y.desc).map (fun d => d.parameters.length) = some na) (hR : rm.frames + 1 ≤ Rm.frames ∧ 8 + (mL + 11) + rm.locals ≤ Rm.locals) (hK : va_K D cl tys s) (hP : va_P D cl (zw n q K I R J) H) (hD : va_D A (zw n q K I R J)) (hS : va_S A H0 H locs) (hA : ∀ a, H0.size ≤ a → A a) (hsz : ls.size = nL) (hst : st0 = As.reverse ++ rest) (hW : (rest.map fun v => v.category).sum ≤ 8) (hf : cells + 0 ≤ Rm.cells ∧ slots + 0 ≤ Rm.slots) (hdg : decode cc pc = .ok (.invokestatic index, 3))
    (kk : ∀ (I1 R1 : Nat → Nat → Int32) (J1 : Nat → Nat → Int64) (H1 : Heap) (locs1 : List Loc), post (I1, R1, J1) → va_P D cl (zw n q K I1 R1 J1) H1 → va_D A (zw n q K I1 R1 J1) → va_S A H0 H1 locs1 → H.size ≤ H1.size → (∀ a : Nat, a < H.size → ¬ zA n q H.size a → H1[a]? = H[a]?) → W p l e Rm s m args below meth c H1 locs1 cells slots Q (F0 m (pc + 3) ls rest)) : W p l e Rm s m args below meth c H locs cells slots Q (F0 m pc ls st0) := by
  subst hst
  obtain ⟨rf, rc, rs, rl⟩ := rm
  obtain ⟨h1, h2⟩ := hrm
  cases h1
  cases h2
  exact z_runv (va_runS (As := As) (rest := rest) ⟨hx, hb, hml, hown, ht⟩ (hM H.size) (z_cwS na ht hl hm hd hR) (z_preS hK hP hD) rfl hna hsz rfl (lv_room hW) hdg hf) hS (zA_of hD hS hA) kk
end ZC
theorem z_ltT {x y : Int32} (h : x < y) : x.toInt < y.toInt := Int32.lt_iff_toInt_lt.mp h
theorem z_ltF {x y : Int32} (h : ¬ x < y) : y.toInt ≤ x.toInt := Int.not_lt.mp (fun g => h (Int32.lt_iff_toInt_lt.mpr g))
theorem z_leT {x y : Int32} (h : x ≤ y) : x.toInt ≤ y.toInt := Int32.le_iff_toInt_le.mp h
theorem z_leF {x y : Int32} (h : ¬ x ≤ y) : y.toInt < x.toInt := Int.not_le.mp (fun g => h (Int32.le_iff_toInt_le.mpr g))
theorem z_eqT {x y : Int32} (h : x = y) : x.toInt = y.toInt := congrArg Int32.toInt h
theorem z_eqF {x y : Int32} (h : ¬ x = y) : x.toInt ≠ y.toInt := fun g => h (Int32.toInt_inj.mp g)
theorem z_lltT {x y : Int64} (h : x < y) : x.toInt < y.toInt := Int64.lt_iff_toInt_lt.mp h
theorem z_lltF {x y : Int64} (h : ¬ x < y) : y.toInt ≤ x.toInt := Int.not_lt.mp (fun g => h (Int64.lt_iff_toInt_lt.mpr g))
theorem z_i2l (x : Int32) : x.toInt64.toInt = x.toInt := Int32.toInt_toInt64 x
theorem z_nI (n : Nat) (h : n < 2 ^ 31) : (nI n).toInt = (n : Int) := nI_toInt h
theorem z_of {x : Int32} (h0 : 0 ≤ x.toInt) {n : Nat} (h : x.toInt = n) : x = nI n := by
  apply Int32.toInt_inj.mp
  have : n < 2 ^ 31 := by
    have := Int32.toInt_lt x
    omega
  rw [nI_toInt this, h]
theorem z_ex {x : Int32} {N : Nat} (h0 : 0 ≤ x.toInt) (h : x.toInt < N) : ∃ n : Nat, n < N ∧ x = nI n := ⟨x.toInt.toNat, by omega, z_of h0 (by omega)⟩
theorem z_lleT {x y : Int64} (h : x ≤ y) : x.toInt ≤ y.toInt := Int64.le_iff_toInt_le.mp h
theorem z_lleF {x y : Int64} (h : ¬ x ≤ y) : y.toInt < x.toInt := Int.not_le.mp (fun g => h (Int64.le_iff_toInt_le.mpr g))
theorem z_leqT {x y : Int64} (h : x = y) : x.toInt = y.toInt := congrArg Int64.toInt h
theorem z_leqF {x y : Int64} (h : ¬ x = y) : x.toInt ≠ y.toInt := fun g => h (Int64.toInt_inj.mp g)
/-- another world's cells, when a method has worked on this one's alone -/
theorem z_frame {D : va_G} {cl : List vw_C} {n n' : Nat} {q q' : Nat → Nat} {K' : zKd} {I' R' : Nat → Nat → Int32} {J' : Nat → Nat → Int64} {H H1 : Heap} (hP : va_P D cl (zw n' q' K' I' R' J') H) (hdis : ∀ i, i < n → ∀ j, j < n' → q i ≠ q' j) (hk : ∀ a : Nat, a < H.size → ¬ zA n q H.size a → H1[a]? = H[a]?) : va_P D cl (zw n' q' K' I' R' J') H1 := by
  intro k x hx
  have h := hP k x hx
  obtain ⟨h1, h2⟩ := zw_inv hx
  have hlt := h.lt
  refine h.kept (hk _ hlt (fun g => ?_))
  rcases g with ⟨i, hi, e⟩ | g
  · rw [h2] at e
    exact hdis i hi k h1 e
  · exact absurd hlt (Nat.not_lt.mpr g)
theorem z_vin {x : Int32} {N : Nat} (h0 : 0 ≤ x.toInt) (h : x.toInt < N) : vp_in x N := vp_in_iff.mpr ⟨h0, h⟩
theorem z_all {g : Nat → Int32} {f : Nat} {v c : Int32} (hg : ∀ j, g j = c) (hv : v = c) : ∀ j, (bif Nat.beq j f then v else g j) = c := by
  intro j
  cases Nat.beq j f
  · exact hg j
  · exact hv
end
section
def RX0 : String := "ReceiptLeft$Acts"
def TX0 : u_T := fun k => match k with
  | 0 => ("ReceiptLeft$Acts", "count", "I", false)
  | _ => ("ReceiptLeft$Acts", "told", "[I", true)
def tyX0 : Nat → FieldType := fun k => match k with
  | 0 => .int
  | _ => .array .int
theorem nmX0 : ∀ a, a < 2 → ∀ b, b < 2 → a ≠ b → (TX0 a).2.1 ≠ (TX0 b).2.1 := by decide +kernel
theorem tyX0_ok : ∀ k, k < 2 → parseFieldDescriptor (TX0 k).2.2.1 = some (tyX0 k) := by decide +kernel
theorem ziX0 : ∀ w ∈ u_ws RX0 TX0 2, w ∈ zT := fun w h => zT_in ((by decide +kernel : ∀ w ∈ u_ws RX0 TX0 2, w ∈ lw_tbl) w h) ((by decide +kernel : ∀ w ∈ u_ws RX0 TX0 2, goodWord w = true) w h)
def RX1 : String := "ReceiptLeft$Audit"
def TX1 : u_T := fun k => match k with
  | 0 => ("ReceiptLeft$Audit", "wrong", "I", false)
  | 1 => ("ReceiptLeft$Audit", "first", "I", false)
  | _ => ("ReceiptLeft$Audit", "argued", "I", false)
def tyX1 : Nat → FieldType := fun k => match k with
  | 0 => .int
  | 1 => .int
  | _ => .int
theorem nmX1 : ∀ a, a < 3 → ∀ b, b < 3 → a ≠ b → (TX1 a).2.1 ≠ (TX1 b).2.1 := by decide +kernel
theorem tyX1_ok : ∀ k, k < 3 → parseFieldDescriptor (TX1 k).2.2.1 = some (tyX1 k) := by decide +kernel
theorem ziX1 : ∀ w ∈ u_ws RX1 TX1 3, w ∈ zT := fun w h => zT_in ((by decide +kernel : ∀ w ∈ u_ws RX1 TX1 3, w ∈ lw_tbl) w h) ((by decide +kernel : ∀ w ∈ u_ws RX1 TX1 3, goodWord w = true) w h)
def RX2 : String := "ReceiptLeft$City"
def TX2 : u_T := fun k => match k with
  | 0 => ("ReceiptLeft$City", "lines", "I", false)
  | 1 => ("ReceiptLeft$City", "eats", "I", false)
  | 2 => ("ReceiptLeft$City", "carry", "I", false)
  | 3 => ("ReceiptLeft$City", "odds", "I", false)
  | 4 => ("ReceiptLeft$City", "houses", "I", false)
  | 5 => ("ReceiptLeft$City", "things", "I", false)
  | 6 => ("ReceiptLeft$City", "locked", "I", false)
  | 7 => ("ReceiptLeft$City", "purse", "[I", true)
  | 8 => ("ReceiptLeft$City", "at", "[I", true)
  | 9 => ("ReceiptLeft$City", "worth", "[I", true)
  | _ => ("ReceiptLeft$City", "more", "[I", true)
def tyX2 : Nat → FieldType := fun k => match k with
  | 0 => .int
  | 1 => .int
  | 2 => .int
  | 3 => .int
  | 4 => .int
  | 5 => .int
  | 6 => .int
  | 7 => .array .int
  | 8 => .array .int
  | 9 => .array .int
  | _ => .array .int
theorem nmX2 : ∀ a, a < 11 → ∀ b, b < 11 → a ≠ b → (TX2 a).2.1 ≠ (TX2 b).2.1 := by decide +kernel
theorem tyX2_ok : ∀ k, k < 11 → parseFieldDescriptor (TX2 k).2.2.1 = some (tyX2 k) := by decide +kernel
theorem ziX2 : ∀ w ∈ u_ws RX2 TX2 11, w ∈ zT := fun w h => zT_in ((by decide +kernel : ∀ w ∈ u_ws RX2 TX2 11, w ∈ lw_tbl) w h) ((by decide +kernel : ∀ w ∈ u_ws RX2 TX2 11, goodWord w = true) w h)
def RX3 : String := "ReceiptLeft$Deal"
def TX3 : u_T := fun k => match k with
  | _ => ("ReceiptLeft$Deal", "best", "[I", true)
def tyX3 : Nat → FieldType := fun k => match k with
  | _ => .array .int
theorem nmX3 : ∀ a, a < 1 → ∀ b, b < 1 → a ≠ b → (TX3 a).2.1 ≠ (TX3 b).2.1 := by decide +kernel
theorem tyX3_ok : ∀ k, k < 1 → parseFieldDescriptor (TX3 k).2.2.1 = some (tyX3 k) := by decide +kernel
theorem ziX3 : ∀ w ∈ u_ws RX3 TX3 1, w ∈ zT := fun w h => zT_in ((by decide +kernel : ∀ w ∈ u_ws RX3 TX3 1, w ∈ lw_tbl) w h) ((by decide +kernel : ∀ w ∈ u_ws RX3 TX3 1, goodWord w = true) w h)
def RX4 : String := "ReceiptLeft$Dice"
def TX4 : u_T := fun k => match k with
  | _ => ("ReceiptLeft$Dice", "x", "J", false)
def tyX4 : Nat → FieldType := fun k => match k with
  | _ => .long
theorem nmX4 : ∀ a, a < 1 → ∀ b, b < 1 → a ≠ b → (TX4 a).2.1 ≠ (TX4 b).2.1 := by decide +kernel
theorem tyX4_ok : ∀ k, k < 1 → parseFieldDescriptor (TX4 k).2.2.1 = some (tyX4 k) := by decide +kernel
theorem ziX4 : ∀ w ∈ u_ws RX4 TX4 1, w ∈ zT := fun w h => zT_in ((by decide +kernel : ∀ w ∈ u_ws RX4 TX4 1, w ∈ lw_tbl) w h) ((by decide +kernel : ∀ w ∈ u_ws RX4 TX4 1, goodWord w = true) w h)
def RX5 : String := "ReceiptLeft$Image"
def TX5 : u_T := fun k => match k with
  | 0 => ("ReceiptLeft$Image", "kept", "Z", false)
  | 1 => ("ReceiptLeft$Image", "city", "LReceiptLeft$City;", true)
  | _ => ("ReceiptLeft$Image", "acts", "LReceiptLeft$Acts;", true)
def tyX5 : Nat → FieldType := fun k => match k with
  | 0 => .boolean
  | 1 => .object "ReceiptLeft$City"
  | _ => .object "ReceiptLeft$Acts"
theorem nmX5 : ∀ a, a < 3 → ∀ b, b < 3 → a ≠ b → (TX5 a).2.1 ≠ (TX5 b).2.1 := by decide +kernel
theorem tyX5_ok : ∀ k, k < 3 → parseFieldDescriptor (TX5 k).2.2.1 = some (tyX5 k) := by decide +kernel
theorem ziX5 : ∀ w ∈ u_ws RX5 TX5 3, w ∈ zT := fun w h => zT_in ((by decide +kernel : ∀ w ∈ u_ws RX5 TX5 3, w ∈ lw_tbl) w h) ((by decide +kernel : ∀ w ∈ u_ws RX5 TX5 3, goodWord w = true) w h)
def RX6 : String := "ReceiptLeft$Row"
def TX6 : u_T := fun k => match k with
  | 0 => ("ReceiptLeft$Row", "width", "I", false)
  | 1 => ("ReceiptLeft$Row", "length", "I", false)
  | _ => ("ReceiptLeft$Row", "numbers", "[J", true)
def tyX6 : Nat → FieldType := fun k => match k with
  | 0 => .int
  | 1 => .int
  | _ => .array .long
theorem nmX6 : ∀ a, a < 3 → ∀ b, b < 3 → a ≠ b → (TX6 a).2.1 ≠ (TX6 b).2.1 := by decide +kernel
theorem tyX6_ok : ∀ k, k < 3 → parseFieldDescriptor (TX6 k).2.2.1 = some (tyX6 k) := by decide +kernel
theorem ziX6 : ∀ w ∈ u_ws RX6 TX6 3, w ∈ zT := fun w h => zT_in ((by decide +kernel : ∀ w ∈ u_ws RX6 TX6 3, w ∈ lw_tbl) w h) ((by decide +kernel : ∀ w ∈ u_ws RX6 TX6 3, goodWord w = true) w h)
def RX7 : String := "ReceiptLeft$Tape"
def TX7 : u_T := fun k => match k with
  | 0 => ("ReceiptLeft$Tape", "bytes", "[B", true)
  | 1 => ("ReceiptLeft$Tape", "length", "I", false)
  | 2 => ("ReceiptLeft$Tape", "faultKind", "I", false)
  | 3 => ("ReceiptLeft$Tape", "faultPlace", "I", false)
  | 4 => ("ReceiptLeft$Tape", "token", "I", false)
  | 5 => ("ReceiptLeft$Tape", "start", "I", false)
  | _ => ("ReceiptLeft$Tape", "behind", "I", false)
def tyX7 : Nat → FieldType := fun k => match k with
  | 0 => .array .byte
  | 1 => .int
  | 2 => .int
  | 3 => .int
  | 4 => .int
  | 5 => .int
  | _ => .int
theorem nmX7 : ∀ a, a < 7 → ∀ b, b < 7 → a ≠ b → (TX7 a).2.1 ≠ (TX7 b).2.1 := by decide +kernel
theorem tyX7_ok : ∀ k, k < 7 → parseFieldDescriptor (TX7 k).2.2.1 = some (tyX7 k) := by decide +kernel
theorem ziX7 : ∀ w ∈ u_ws RX7 TX7 7, w ∈ zT := fun w h => zT_in ((by decide +kernel : ∀ w ∈ u_ws RX7 TX7 7, w ∈ lw_tbl) w h) ((by decide +kernel : ∀ w ∈ u_ws RX7 TX7 7, goodWord w = true) w h)
def RX8 : String := "ReceiptLeft$Titles"
def TX8 : u_T := fun k => match k with
  | 0 => ("ReceiptLeft$Titles", "length", "I", false)
  | 1 => ("ReceiptLeft$Titles", "chain", "[I", true)
  | 2 => ("ReceiptLeft$Titles", "ring", "Z", false)
  | 3 => ("ReceiptLeft$Titles", "edges", "[I", true)
  | 4 => ("ReceiptLeft$Titles", "next", "[I", true)
  | _ => ("ReceiptLeft$Titles", "most", "I", false)
def tyX8 : Nat → FieldType := fun k => match k with
  | 0 => .int
  | 1 => .array .int
  | 2 => .boolean
  | 3 => .array .int
  | 4 => .array .int
  | _ => .int
theorem nmX8 : ∀ a, a < 6 → ∀ b, b < 6 → a ≠ b → (TX8 a).2.1 ≠ (TX8 b).2.1 := by decide +kernel
theorem tyX8_ok : ∀ k, k < 6 → parseFieldDescriptor (TX8 k).2.2.1 = some (tyX8 k) := by decide +kernel
theorem ziX8 : ∀ w ∈ u_ws RX8 TX8 6, w ∈ zT := fun w h => zT_in ((by decide +kernel : ∀ w ∈ u_ws RX8 TX8 6, w ∈ lw_tbl) w h) ((by decide +kernel : ∀ w ∈ u_ws RX8 TX8 6, goodWord w = true) w h)
def RX9 : String := "ReceiptLeft$World"
def TX9 : u_T := fun k => match k with
  | 0 => ("ReceiptLeft$World", "city", "LReceiptLeft$City;", true)
  | 1 => ("ReceiptLeft$World", "day", "I", false)
  | 2 => ("ReceiptLeft$World", "papers", "I", false)
  | 3 => ("ReceiptLeft$World", "locked", "I", false)
  | 4 => ("ReceiptLeft$World", "purses", "[I", true)
  | 5 => ("ReceiptLeft$World", "place", "[I", true)
  | 6 => ("ReceiptLeft$World", "moves", "[I", true)
  | 7 => ("ReceiptLeft$World", "thief", "[I", true)
  | 8 => ("ReceiptLeft$World", "stolen", "[I", true)
  | 9 => ("ReceiptLeft$World", "holder", "[I", true)
  | 10 => ("ReceiptLeft$World", "dueDay", "[I", true)
  | 11 => ("ReceiptLeft$World", "how", "[I", true)
  | 12 => ("ReceiptLeft$World", "stations", "[I", true)
  | 13 => ("ReceiptLeft$World", "brought", "[I", true)
  | _ => ("ReceiptLeft$World", "lowest", "[I", true)
def tyX9 : Nat → FieldType := fun k => match k with
  | 0 => .object "ReceiptLeft$City"
  | 1 => .int
  | 2 => .int
  | 3 => .int
  | 4 => .array .int
  | 5 => .array .int
  | 6 => .array .int
  | 7 => .array .int
  | 8 => .array .int
  | 9 => .array .int
  | 10 => .array .int
  | 11 => .array .int
  | 12 => .array .int
  | 13 => .array .int
  | _ => .array .int
theorem nmX9 : ∀ a, a < 15 → ∀ b, b < 15 → a ≠ b → (TX9 a).2.1 ≠ (TX9 b).2.1 := by decide +kernel
theorem tyX9_ok : ∀ k, k < 15 → parseFieldDescriptor (TX9 k).2.2.1 = some (tyX9 k) := by decide +kernel
theorem ziX9 : ∀ w ∈ u_ws RX9 TX9 15, w ∈ zT := fun w h => zT_in ((by decide +kernel : ∀ w ∈ u_ws RX9 TX9 15, w ∈ lw_tbl) w h) ((by decide +kernel : ∀ w ∈ u_ws RX9 TX9 15, goodWord w = true) w h)
def RX10 : String := "ReceiptLeft"
def TX10 : u_T := fun k => match k with
  | 0 => ("ReceiptLeft", "tape", "LReceiptLeft$Tape;", true)
  | 1 => ("ReceiptLeft", "city", "LReceiptLeft$City;", true)
  | 2 => ("ReceiptLeft", "draft", "LReceiptLeft$City;", true)
  | 3 => ("ReceiptLeft", "acts", "LReceiptLeft$Acts;", true)
  | 4 => ("ReceiptLeft", "world", "LReceiptLeft$World;", true)
  | 5 => ("ReceiptLeft", "trial", "LReceiptLeft$World;", true)
  | 6 => ("ReceiptLeft", "titles", "LReceiptLeft$Titles;", true)
  | 7 => ("ReceiptLeft", "deal", "LReceiptLeft$Deal;", true)
  | 8 => ("ReceiptLeft", "dice", "LReceiptLeft$Dice;", true)
  | 9 => ("ReceiptLeft", "audit", "LReceiptLeft$Audit;", true)
  | 10 => ("ReceiptLeft", "images", "[LReceiptLeft$Image;", true)
  | _ => ("ReceiptLeft", "slots", "[LReceiptLeft$Row;", true)
def tyX10 : Nat → FieldType := fun k => match k with
  | 0 => .object "ReceiptLeft$Tape"
  | 1 => .object "ReceiptLeft$City"
  | 2 => .object "ReceiptLeft$City"
  | 3 => .object "ReceiptLeft$Acts"
  | 4 => .object "ReceiptLeft$World"
  | 5 => .object "ReceiptLeft$World"
  | 6 => .object "ReceiptLeft$Titles"
  | 7 => .object "ReceiptLeft$Deal"
  | 8 => .object "ReceiptLeft$Dice"
  | 9 => .object "ReceiptLeft$Audit"
  | 10 => .array (.object "ReceiptLeft$Image")
  | _ => .array (.object "ReceiptLeft$Row")
theorem nmX10 : ∀ a, a < 12 → ∀ b, b < 12 → a ≠ b → (TX10 a).2.1 ≠ (TX10 b).2.1 := by decide +kernel
theorem tyX10_ok : ∀ k, k < 12 → parseFieldDescriptor (TX10 k).2.2.1 = some (tyX10 k) := by decide +kernel
theorem ziX10 : ∀ w ∈ u_ws RX10 TX10 12, w ∈ zT := fun w h => zT_in ((by decide +kernel : ∀ w ∈ u_ws RX10 TX10 12, w ∈ lw_tbl) w h) ((by decide +kernel : ∀ w ∈ u_ws RX10 TX10 12, goodWord w = true) w h)
def RX11 : String := "ReceiptLeftModel"
def TX11 : u_T := fun k => match k with
  | 0 => ("ReceiptLeftModel", "thrown", "I", false)
  | 1 => ("ReceiptLeftModel", "world", "[I", true)
  | 2 => ("ReceiptLeftModel", "images", "[I", true)
  | 3 => ("ReceiptLeftModel", "hasImage", "[Z", true)
  | 4 => ("ReceiptLeftModel", "tape", "[B", true)
  | 5 => ("ReceiptLeftModel", "taped", "I", false)
  | 6 => ("ReceiptLeftModel", "five", "[I", true)
  | 7 => ("ReceiptLeftModel", "size", "I", false)
  | 8 => ("ReceiptLeftModel", "at", "I", false)
  | 9 => ("ReceiptLeftModel", "from", "I", false)
  | 10 => ("ReceiptLeftModel", "token", "I", false)
  | 11 => ("ReceiptLeftModel", "value", "I", false)
  | 12 => ("ReceiptLeftModel", "faultKind", "I", false)
  | 13 => ("ReceiptLeftModel", "faultPlace", "I", false)
  | 14 => ("ReceiptLeftModel", "fresh", "[I", true)
  | 15 => ("ReceiptLeftModel", "purse", "[I", true)
  | 16 => ("ReceiptLeftModel", "locked", "[I", true)
  | 17 => ("ReceiptLeftModel", "place", "[I", true)
  | 18 => ("ReceiptLeftModel", "thief", "[I", true)
  | 19 => ("ReceiptLeftModel", "stolen", "[I", true)
  | 20 => ("ReceiptLeftModel", "holder", "[I", true)
  | 21 => ("ReceiptLeftModel", "dueDay", "[I", true)
  | 22 => ("ReceiptLeftModel", "state", "[I", true)
  | 23 => ("ReceiptLeftModel", "brought", "[I", true)
  | 24 => ("ReceiptLeftModel", "trail", "[I", true)
  | 25 => ("ReceiptLeftModel", "trailLong", "[I", true)
  | 26 => ("ReceiptLeftModel", "papers", "I", false)
  | 27 => ("ReceiptLeftModel", "day", "I", false)
  | 28 => ("ReceiptLeftModel", "leastPurse", "I", false)
  | 29 => ("ReceiptLeftModel", "watched", "I", false)
  | 30 => ("ReceiptLeftModel", "chain", "[I", true)
  | 31 => ("ReceiptLeftModel", "chainLong", "I", false)
  | 32 => ("ReceiptLeftModel", "keeps", "[I", true)
  | 33 => ("ReceiptLeftModel", "hitHouse", "I", false)
  | 34 => ("ReceiptLeftModel", "planSet", "I", false)
  | 35 => ("ReceiptLeftModel", "dealt", "[I", true)
  | 36 => ("ReceiptLeftModel", "falseMany", "I", false)
  | 37 => ("ReceiptLeftModel", "falseFirst", "I", false)
  | 38 => ("ReceiptLeftModel", "falseWorth", "I", false)
  | 39 => ("ReceiptLeftModel", "drawX", "J", false)
  | 40 => ("ReceiptLeftModel", "many", "[I", true)
  | 41 => ("ReceiptLeftModel", "width", "[I", true)
  | 42 => ("ReceiptLeftModel", "numbers", "[J", true)
  | _ => ("ReceiptLeftModel", "moving", "[J", true)
def tyX11 : Nat → FieldType := fun k => match k with
  | 0 => .int
  | 1 => .array .int
  | 2 => .array .int
  | 3 => .array .boolean
  | 4 => .array .byte
  | 5 => .int
  | 6 => .array .int
  | 7 => .int
  | 8 => .int
  | 9 => .int
  | 10 => .int
  | 11 => .int
  | 12 => .int
  | 13 => .int
  | 14 => .array .int
  | 15 => .array .int
  | 16 => .array .int
  | 17 => .array .int
  | 18 => .array .int
  | 19 => .array .int
  | 20 => .array .int
  | 21 => .array .int
  | 22 => .array .int
  | 23 => .array .int
  | 24 => .array .int
  | 25 => .array .int
  | 26 => .int
  | 27 => .int
  | 28 => .int
  | 29 => .int
  | 30 => .array .int
  | 31 => .int
  | 32 => .array .int
  | 33 => .int
  | 34 => .int
  | 35 => .array .int
  | 36 => .int
  | 37 => .int
  | 38 => .int
  | 39 => .long
  | 40 => .array .int
  | 41 => .array .int
  | 42 => .array .long
  | _ => .array .long
theorem nmX11 : ∀ a, a < 44 → ∀ b, b < 44 → a ≠ b → (TX11 a).2.1 ≠ (TX11 b).2.1 := by decide +kernel
theorem tyX11_ok : ∀ k, k < 44 → parseFieldDescriptor (TX11 k).2.2.1 = some (tyX11 k) := by decide +kernel
theorem ziX11 : ∀ w ∈ u_ws RX11 TX11 44, w ∈ zT := fun w h => zT_in ((by decide +kernel : ∀ w ∈ u_ws RX11 TX11 44, w ∈ lw_tbl) w h) ((by decide +kernel : ∀ w ∈ u_ws RX11 TX11 44, goodWord w = true) w h)
abbrev vwCl : List vw_C := [(RX0, TX0, 2), (RX1, TX1, 3), (RX2, TX2, 11), (RX3, TX3, 1), (RX4, TX4, 1), (RX5, TX5, 3), (RX6, TX6, 3), (RX7, TX7, 7), (RX8, TX8, 6), (RX9, TX9, 15), (RX10, TX10, 12), (RX11, TX11, 44)]
abbrev cX11_in : ByteArray := prog_13_method_3_code
def yX11_in : MethodName := ⟨"ReceiptLeftModel", "in", "(JJJ)Z"⟩
abbrev cX11_isCity : ByteArray := prog_13_method_8_code
def yX11_isCity : MethodName := ⟨"ReceiptLeftModel", "isCity", "()Z"⟩
abbrev cX11_isHouse : ByteArray := prog_13_method_9_code
def yX11_isHouse : MethodName := ⟨"ReceiptLeftModel", "isHouse", "(J)Z"⟩
abbrev cX11_isThing : ByteArray := prog_13_method_10_code
def yX11_isThing : MethodName := ⟨"ReceiptLeftModel", "isThing", "(J)Z"⟩
abbrev cX11_house : ByteArray := prog_13_method_44_code
def yX11_house : MethodName := ⟨"ReceiptLeftModel", "house", "(II)I"⟩
abbrev cX11_thing : ByteArray := prog_13_method_45_code
def yX11_thing : MethodName := ⟨"ReceiptLeftModel", "thing", "(II)I"⟩
abbrev cX11_value : ByteArray := prog_13_method_46_code
def yX11_value : MethodName := ⟨"ReceiptLeftModel", "value", "(II)I"⟩
abbrev cX11_net : ByteArray := prog_13_method_50_code
def yX11_net : MethodName := ⟨"ReceiptLeftModel", "net", "(I)I"⟩
abbrev cX11_steal : ByteArray := prog_13_method_52_code
def yX11_steal : MethodName := ⟨"ReceiptLeftModel", "steal", "(III)I"⟩
abbrev cX11_lock : ByteArray := prog_13_method_56_code
def yX11_lock : MethodName := ⟨"ReceiptLeftModel", "lock", "(II)I"⟩
abbrev cX11_night : ByteArray := prog_13_method_57_code
def yX11_night : MethodName := ⟨"ReceiptLeftModel", "night", "()I"⟩
abbrev cX11_undo : ByteArray := prog_13_method_58_code
def yX11_undo : MethodName := ⟨"ReceiptLeftModel", "undo", "()I"⟩
abbrev cX11_anew : ByteArray := prog_13_method_59_code
def yX11_anew : MethodName := ⟨"ReceiptLeftModel", "anew", "()I"⟩
abbrev cX11_now : ByteArray := prog_13_method_60_code
def yX11_now : MethodName := ⟨"ReceiptLeftModel", "now", "(I)I"⟩
abbrev cX11_owner : ByteArray := prog_13_method_64_code
def yX11_owner : MethodName := ⟨"ReceiptLeftModel", "owner", "(I)I"⟩
abbrev cX11_chain : ByteArray := prog_13_method_65_code
def yX11_chain : MethodName := ⟨"ReceiptLeftModel", "chain", "(II)I"⟩
abbrev cX11_rings : ByteArray := prog_13_method_66_code
def yX11_rings : MethodName := ⟨"ReceiptLeftModel", "rings", "()I"⟩
abbrev cX11_owns : ByteArray := prog_13_method_67_code
def yX11_owns : MethodName := ⟨"ReceiptLeftModel", "owns", "(I)I"⟩
abbrev cX11_twice : ByteArray := prog_13_method_69_code
def yX11_twice : MethodName := ⟨"ReceiptLeftModel", "twice", "()I"⟩
abbrev cX11_strikes : ByteArray := prog_13_method_74_code
def yX11_strikes : MethodName := ⟨"ReceiptLeftModel", "strikes", "()I"⟩
abbrev cX11_struck : ByteArray := prog_13_method_75_code
def yX11_struck : MethodName := ⟨"ReceiptLeftModel", "struck", "()I"⟩
abbrev cX11_trail : ByteArray := prog_13_method_76_code
def yX11_trail : MethodName := ⟨"ReceiptLeftModel", "trail", "(II)I"⟩
abbrev cX11_went : ByteArray := prog_13_method_77_code
def yX11_went : MethodName := ⟨"ReceiptLeftModel", "went", "(I)I"⟩
abbrev cX11_lies : ByteArray := prog_13_method_79_code
def yX11_lies : MethodName := ⟨"ReceiptLeftModel", "lies", "(I)I"⟩
abbrev cX11_poorest : ByteArray := prog_13_method_80_code
def yX11_poorest : MethodName := ⟨"ReceiptLeftModel", "poorest", "()I"⟩
abbrev cX11_due : ByteArray := prog_13_method_82_code
def yX11_due : MethodName := ⟨"ReceiptLeftModel", "due", "(I)I"⟩
abbrev cX11_monday : ByteArray := prog_13_method_83_code
def yX11_monday : MethodName := ⟨"ReceiptLeftModel", "monday", "()I"⟩
abbrev cX11_lacks : ByteArray := prog_13_method_84_code
def yX11_lacks : MethodName := ⟨"ReceiptLeftModel", "lacks", "(I)I"⟩
abbrev cX11_needs_ : ByteArray := prog_13_method_85_code
def yX11_needs_ : MethodName := ⟨"ReceiptLeftModel", "needs", "(I)I"⟩
abbrev cX11_fails : ByteArray := prog_13_method_89_code
def yX11_fails : MethodName := ⟨"ReceiptLeftModel", "fails", "(I)I"⟩
abbrev cX11_later : ByteArray := prog_13_method_90_code
def yX11_later : MethodName := ⟨"ReceiptLeftModel", "later", "(II)I"⟩
abbrev cX11_purse : ByteArray := prog_13_method_91_code
def yX11_purse : MethodName := ⟨"ReceiptLeftModel", "purse", "(II)I"⟩
abbrev cX11_run : ByteArray := prog_13_method_92_code
def yX11_run : MethodName := ⟨"ReceiptLeftModel", "run", "()I"⟩
abbrev cX11_hit : ByteArray := prog_13_method_94_code
def yX11_hit : MethodName := ⟨"ReceiptLeftModel", "hit", "(I)I"⟩
abbrev cX11_hits : ByteArray := prog_13_method_95_code
def yX11_hits : MethodName := ⟨"ReceiptLeftModel", "hits", "(I)I"⟩
abbrev cX11_plan : ByteArray := prog_13_method_98_code
def yX11_plan : MethodName := ⟨"ReceiptLeftModel", "plan", "(II)I"⟩
abbrev cX11_plans : ByteArray := prog_13_method_99_code
def yX11_plans : MethodName := ⟨"ReceiptLeftModel", "plans", "(III)I"⟩
abbrev cX11_change : ByteArray := prog_13_method_100_code
def yX11_change : MethodName := ⟨"ReceiptLeftModel", "change", "(II)I"⟩
abbrev cX11_deal : ByteArray := prog_13_method_104_code
def yX11_deal : MethodName := ⟨"ReceiptLeftModel", "deal", "()I"⟩
abbrev cX11_deals : ByteArray := prog_13_method_105_code
def yX11_deals : MethodName := ⟨"ReceiptLeftModel", "deals", "(I)I"⟩
abbrev cX11_dear : ByteArray := prog_13_method_113_code
def yX11_dear : MethodName := ⟨"ReceiptLeftModel", "dear", "()I"⟩
abbrev cX11_rate : ByteArray := prog_13_method_128_code
def yX11_rate : MethodName := ⟨"ReceiptLeftModel", "rate", "(II)I"⟩
abbrev cX11_want : ByteArray := prog_13_method_129_code
def yX11_want : MethodName := ⟨"ReceiptLeftModel", "want", "(III)I"⟩
abbrev cX11_asItIs : ByteArray := prog_13_method_29_code
def yX11_asItIs : MethodName := ⟨"ReceiptLeftModel", "asItIs", "()V"⟩
abbrev cX11_isPaper : ByteArray := prog_13_method_40_code
def yX11_isPaper : MethodName := ⟨"ReceiptLeftModel", "isPaper", "(I)Z"⟩
abbrev cX11_isCost : ByteArray := prog_13_method_110_code
def yX11_isCost : MethodName := ⟨"ReceiptLeftModel", "isCost", "(I)Z"⟩
abbrev cX11_areDrawn : ByteArray := prog_13_method_124_code
def yX11_areDrawn : MethodName := ⟨"ReceiptLeftModel", "areDrawn", "(II)Z"⟩
abbrev cX11_isSlot : ByteArray := prog_13_method_131_code
def yX11_isSlot : MethodName := ⟨"ReceiptLeftModel", "isSlot", "(I)Z"⟩
abbrev cX11_asksPapers : ByteArray := prog_13_method_116_code
def yX11_asksPapers : MethodName := ⟨"ReceiptLeftModel", "asksPapers", "(I)I"⟩
abbrev cX11_paper : ByteArray := prog_13_method_47_code
def yX11_paper : MethodName := ⟨"ReceiptLeftModel", "paper", "(II)I"⟩
abbrev cX11_price : ByteArray := prog_13_method_48_code
def yX11_price : MethodName := ⟨"ReceiptLeftModel", "price", "(I)I"⟩
abbrev cX11_sell : ByteArray := prog_13_method_53_code
def yX11_sell : MethodName := ⟨"ReceiptLeftModel", "sell", "(II)I"⟩
abbrev cX11_brings : ByteArray := prog_13_method_54_code
def yX11_brings : MethodName := ⟨"ReceiptLeftModel", "brings", "(I)I"⟩
abbrev cX11_strike : ByteArray := prog_13_method_55_code
def yX11_strike : MethodName := ⟨"ReceiptLeftModel", "strike", "(I)I"⟩
abbrev cX11_rests : ByteArray := prog_13_method_111_code
def yX11_rests : MethodName := ⟨"ReceiptLeftModel", "rests", "(I)I"⟩
abbrev cX11_rest : ByteArray := prog_13_method_112_code
def yX11_rest : MethodName := ⟨"ReceiptLeftModel", "rest", "(I)I"⟩
abbrev cX11_wrong : ByteArray := prog_13_method_119_code
def yX11_wrong : MethodName := ⟨"ReceiptLeftModel", "wrong", "(I)I"⟩
abbrev cX11_forged : ByteArray := prog_13_method_120_code
def yX11_forged : MethodName := ⟨"ReceiptLeftModel", "forged", "(I)I"⟩
abbrev cX11_argued : ByteArray := prog_13_method_121_code
def yX11_argued : MethodName := ⟨"ReceiptLeftModel", "argued", "(I)I"⟩
abbrev cX11_drawn : ByteArray := prog_13_method_125_code
def yX11_drawn : MethodName := ⟨"ReceiptLeftModel", "drawn", "(III)I"⟩
abbrev cX11_luck : ByteArray := prog_13_method_126_code
def yX11_luck : MethodName := ⟨"ReceiptLeftModel", "luck", "(IIIII)I"⟩
abbrev cX11_end : ByteArray := prog_13_method_15_code
def yX11_end : MethodName := ⟨"ReceiptLeftModel", "end", "(I)I"⟩
abbrev cX11_fault : ByteArray := prog_13_method_25_code
def yX11_fault : MethodName := ⟨"ReceiptLeftModel", "fault", "(I)I"⟩
abbrev cX11_count : ByteArray := prog_13_method_130_code
def yX11_count : MethodName := ⟨"ReceiptLeftModel", "count", "(I)I"⟩
abbrev cX11_back : ByteArray := prog_13_method_7_code
def yX11_back : MethodName := ⟨"ReceiptLeftModel", "back", "(I)I"⟩
abbrev cX11_write : ByteArray := prog_13_method_134_code
def yX11_write : MethodName := ⟨"ReceiptLeftModel", "write", "(IIJ)I"⟩
abbrev cX11_paste : ByteArray := prog_13_method_135_code
def yX11_paste : MethodName := ⟨"ReceiptLeftModel", "paste", "(IIIII)I"⟩
abbrev cX11_image : ByteArray := prog_13_method_6_code
def yX11_image : MethodName := ⟨"ReceiptLeftModel", "image", "(I)I"⟩
abbrev cX11_row : ByteArray := prog_13_method_133_code
def yX11_row : MethodName := ⟨"ReceiptLeftModel", "row", "(III)I"⟩
abbrev cX11_feed : ByteArray := prog_13_method_14_code
def yX11_feed : MethodName := ⟨"ReceiptLeftModel", "feed", "(IIIII)I"⟩
abbrev cX11_good : ByteArray := prog_13_method_18_code
def yX11_good : MethodName := ⟨"ReceiptLeftModel", "good", "()Z"⟩
abbrev cX11_see : ByteArray := prog_13_method_16_code
def yX11_see : MethodName := ⟨"ReceiptLeftModel", "see", "(I)I"⟩
abbrev cX11_advance : ByteArray := prog_13_method_17_code
def yX11_advance : MethodName := ⟨"ReceiptLeftModel", "advance", "()V"⟩
abbrev cX11_city : ByteArray := prog_13_method_28_code
def yX11_city : MethodName := ⟨"ReceiptLeftModel", "city", "()I"⟩
abbrev cX10_hasCity : ByteArray := prog_1_method_63_code
def yX10_hasCity : MethodName := ⟨"ReceiptLeft", "hasCity", "()Z"⟩
abbrev cX10_isHouse : ByteArray := prog_1_method_64_code
def yX10_isHouse : MethodName := ⟨"ReceiptLeft", "isHouse", "(I)Z"⟩
abbrev cX10_isThing : ByteArray := prog_1_method_65_code
def yX10_isThing : MethodName := ⟨"ReceiptLeft", "isThing", "(I)Z"⟩
abbrev cX10_isPaper : ByteArray := prog_1_method_66_code
def yX10_isPaper : MethodName := ⟨"ReceiptLeft", "isPaper", "(I)Z"⟩
abbrev cX10_isSlot : ByteArray := prog_1_method_68_code
def yX10_isSlot : MethodName := ⟨"ReceiptLeft", "isSlot", "(I)Z"⟩
abbrev cX10_look : ByteArray := prog_1_method_79_code
def yX10_look : MethodName := ⟨"ReceiptLeft", "look", "(I)I"⟩
abbrev cX10_house : ByteArray := prog_1_method_6_code
def yX10_house : MethodName := ⟨"ReceiptLeft", "house", "(II)I"⟩
abbrev cX10_thing : ByteArray := prog_1_method_7_code
def yX10_thing : MethodName := ⟨"ReceiptLeft", "thing", "(II)I"⟩
abbrev cX10_value : ByteArray := prog_1_method_8_code
def yX10_value : MethodName := ⟨"ReceiptLeft", "value", "(II)I"⟩
abbrev cX10_paper : ByteArray := prog_1_method_9_code
def yX10_paper : MethodName := ⟨"ReceiptLeft", "paper", "(II)I"⟩
abbrev cX10_price : ByteArray := prog_1_method_10_code
def yX10_price : MethodName := ⟨"ReceiptLeft", "price", "(I)I"⟩
abbrev cX10_net : ByteArray := prog_1_method_11_code
def yX10_net : MethodName := ⟨"ReceiptLeft", "net", "(I)I"⟩
abbrev cX10_steal : ByteArray := prog_1_method_12_code
def yX10_steal : MethodName := ⟨"ReceiptLeft", "steal", "(III)I"⟩
abbrev cX10_sell : ByteArray := prog_1_method_13_code
def yX10_sell : MethodName := ⟨"ReceiptLeft", "sell", "(II)I"⟩
abbrev cX10_brings : ByteArray := prog_1_method_14_code
def yX10_brings : MethodName := ⟨"ReceiptLeft", "brings", "(I)I"⟩
abbrev cX10_strike : ByteArray := prog_1_method_15_code
def yX10_strike : MethodName := ⟨"ReceiptLeft", "strike", "(I)I"⟩
abbrev cX10_lock : ByteArray := prog_1_method_16_code
def yX10_lock : MethodName := ⟨"ReceiptLeft", "lock", "(II)I"⟩
abbrev cX10_night : ByteArray := prog_1_method_17_code
def yX10_night : MethodName := ⟨"ReceiptLeft", "night", "()I"⟩
abbrev cX10_undo : ByteArray := prog_1_method_18_code
def yX10_undo : MethodName := ⟨"ReceiptLeft", "undo", "()I"⟩
abbrev cX10_anew : ByteArray := prog_1_method_19_code
def yX10_anew : MethodName := ⟨"ReceiptLeft", "anew", "()I"⟩
abbrev cX10_now : ByteArray := prog_1_method_20_code
def yX10_now : MethodName := ⟨"ReceiptLeft", "now", "(I)I"⟩
abbrev cX10_owner : ByteArray := prog_1_method_21_code
def yX10_owner : MethodName := ⟨"ReceiptLeft", "owner", "(I)I"⟩
abbrev cX10_chain : ByteArray := prog_1_method_22_code
def yX10_chain : MethodName := ⟨"ReceiptLeft", "chain", "(II)I"⟩
abbrev cX10_rings : ByteArray := prog_1_method_23_code
def yX10_rings : MethodName := ⟨"ReceiptLeft", "rings", "()I"⟩
abbrev cX10_owns : ByteArray := prog_1_method_24_code
def yX10_owns : MethodName := ⟨"ReceiptLeft", "owns", "(I)I"⟩
abbrev cX10_twice : ByteArray := prog_1_method_25_code
def yX10_twice : MethodName := ⟨"ReceiptLeft", "twice", "()I"⟩
abbrev cX10_strikes : ByteArray := prog_1_method_26_code
def yX10_strikes : MethodName := ⟨"ReceiptLeft", "strikes", "()I"⟩
abbrev cX10_struck : ByteArray := prog_1_method_27_code
def yX10_struck : MethodName := ⟨"ReceiptLeft", "struck", "()I"⟩
abbrev cX10_trail : ByteArray := prog_1_method_28_code
def yX10_trail : MethodName := ⟨"ReceiptLeft", "trail", "(II)I"⟩
abbrev cX10_went : ByteArray := prog_1_method_29_code
def yX10_went : MethodName := ⟨"ReceiptLeft", "went", "(I)I"⟩
abbrev cX10_lies : ByteArray := prog_1_method_30_code
def yX10_lies : MethodName := ⟨"ReceiptLeft", "lies", "(I)I"⟩
abbrev cX10_poorest : ByteArray := prog_1_method_31_code
def yX10_poorest : MethodName := ⟨"ReceiptLeft", "poorest", "()I"⟩
abbrev cX10_due : ByteArray := prog_1_method_32_code
def yX10_due : MethodName := ⟨"ReceiptLeft", "due", "(I)I"⟩
abbrev cX10_monday : ByteArray := prog_1_method_33_code
def yX10_monday : MethodName := ⟨"ReceiptLeft", "monday", "()I"⟩
abbrev cX10_lacks : ByteArray := prog_1_method_34_code
def yX10_lacks : MethodName := ⟨"ReceiptLeft", "lacks", "(I)I"⟩
abbrev cX10_needs : ByteArray := prog_1_method_35_code
def yX10_needs : MethodName := ⟨"ReceiptLeft", "needs", "(I)I"⟩
abbrev cX10_fails : ByteArray := prog_1_method_36_code
def yX10_fails : MethodName := ⟨"ReceiptLeft", "fails", "(I)I"⟩
abbrev cX10_later : ByteArray := prog_1_method_37_code
def yX10_later : MethodName := ⟨"ReceiptLeft", "later", "(II)I"⟩
abbrev cX10_purse : ByteArray := prog_1_method_38_code
def yX10_purse : MethodName := ⟨"ReceiptLeft", "purse", "(II)I"⟩
abbrev cX10_run : ByteArray := prog_1_method_39_code
def yX10_run : MethodName := ⟨"ReceiptLeft", "run", "()I"⟩
abbrev cX10_hit : ByteArray := prog_1_method_40_code
def yX10_hit : MethodName := ⟨"ReceiptLeft", "hit", "(I)I"⟩
abbrev cX10_hits : ByteArray := prog_1_method_41_code
def yX10_hits : MethodName := ⟨"ReceiptLeft", "hits", "(I)I"⟩
abbrev cX10_plan : ByteArray := prog_1_method_42_code
def yX10_plan : MethodName := ⟨"ReceiptLeft", "plan", "(II)I"⟩
abbrev cX10_plans : ByteArray := prog_1_method_43_code
def yX10_plans : MethodName := ⟨"ReceiptLeft", "plans", "(III)I"⟩
abbrev cX10_change : ByteArray := prog_1_method_44_code
def yX10_change : MethodName := ⟨"ReceiptLeft", "change", "(II)I"⟩
abbrev cX10_deal : ByteArray := prog_1_method_45_code
def yX10_deal : MethodName := ⟨"ReceiptLeft", "deal", "()I"⟩
abbrev cX10_deals : ByteArray := prog_1_method_46_code
def yX10_deals : MethodName := ⟨"ReceiptLeft", "deals", "(I)I"⟩
abbrev cX10_rests : ByteArray := prog_1_method_47_code
def yX10_rests : MethodName := ⟨"ReceiptLeft", "rests", "(I)I"⟩
abbrev cX10_rest : ByteArray := prog_1_method_48_code
def yX10_rest : MethodName := ⟨"ReceiptLeft", "rest", "(I)I"⟩
abbrev cX10_dear : ByteArray := prog_1_method_49_code
def yX10_dear : MethodName := ⟨"ReceiptLeft", "dear", "()I"⟩
abbrev cX10_wrong : ByteArray := prog_1_method_50_code
def yX10_wrong : MethodName := ⟨"ReceiptLeft", "wrong", "(I)I"⟩
abbrev cX10_forged : ByteArray := prog_1_method_51_code
def yX10_forged : MethodName := ⟨"ReceiptLeft", "forged", "(I)I"⟩
abbrev cX10_argued : ByteArray := prog_1_method_52_code
def yX10_argued : MethodName := ⟨"ReceiptLeft", "argued", "(I)I"⟩
abbrev cX10_drawn : ByteArray := prog_1_method_53_code
def yX10_drawn : MethodName := ⟨"ReceiptLeft", "drawn", "(III)I"⟩
abbrev cX10_luck : ByteArray := prog_1_method_54_code
def yX10_luck : MethodName := ⟨"ReceiptLeft", "luck", "(IIIII)I"⟩
abbrev cX10_rate : ByteArray := prog_1_method_55_code
def yX10_rate : MethodName := ⟨"ReceiptLeft", "rate", "(II)I"⟩
abbrev cX10_want : ByteArray := prog_1_method_56_code
def yX10_want : MethodName := ⟨"ReceiptLeft", "want", "(III)I"⟩
abbrev cX10_end : ByteArray := prog_1_method_3_code
def yX10_end : MethodName := ⟨"ReceiptLeft", "end", "(I)I"⟩
abbrev cX10_fault : ByteArray := prog_1_method_5_code
def yX10_fault : MethodName := ⟨"ReceiptLeft", "fault", "(I)I"⟩
abbrev cX6_isThere : ByteArray := prog_8_method_2_code
def yX6_isThere : MethodName := ⟨"ReceiptLeft$Row", "isThere", "()Z"⟩
abbrev cX10_filledSlots : ByteArray := prog_1_method_82_code
def yX10_filledSlots : MethodName := ⟨"ReceiptLeft", "filledSlots", "()I"⟩
abbrev cX10_count : ByteArray := prog_1_method_57_code
def yX10_count : MethodName := ⟨"ReceiptLeft", "count", "(I)I"⟩
abbrev cX10_back : ByteArray := prog_1_method_59_code
def yX10_back : MethodName := ⟨"ReceiptLeft", "back", "(I)I"⟩
abbrev cX10_write : ByteArray := prog_1_method_61_code
def yX10_write : MethodName := ⟨"ReceiptLeft", "write", "(IIJ)I"⟩
abbrev cX10_paste : ByteArray := prog_1_method_62_code
def yX10_paste : MethodName := ⟨"ReceiptLeft", "paste", "(IIIII)I"⟩
abbrev cX7_hasRoom : ByteArray := prog_9_method_2_code
def yX7_hasRoom : MethodName := ⟨"ReceiptLeft$Tape", "hasRoom", "()Z"⟩
abbrev cX7_add : ByteArray := prog_9_method_3_code
def yX7_add : MethodName := ⟨"ReceiptLeft$Tape", "add", "(I)V"⟩
abbrev cX10_feed : ByteArray := prog_1_method_2_code
def yX10_feed : MethodName := ⟨"ReceiptLeft", "feed", "(IIIII)I"⟩
abbrev cJ7_fill_53178 : ByteArray := prog_20_method_103_code
def yJ7_fill_53178 : MethodName := ⟨"java/util/Arrays", "fill", "([II)V"⟩
abbrev cJ7_fill_d0a16 : ByteArray := prog_20_method_101_code
def yJ7_fill_d0a16 : MethodName := ⟨"java/util/Arrays", "fill", "([JJ)V"⟩
abbrev cX6_begin : ByteArray := prog_8_method_3_code
def yX6_begin : MethodName := ⟨"ReceiptLeft$Row", "begin", "(II)V"⟩
abbrev cX10_row : ByteArray := prog_1_method_60_code
def yX10_row : MethodName := ⟨"ReceiptLeft", "row", "(III)I"⟩
abbrev cX2_copyFrom : ByteArray := prog_4_method_3_code
def yX2_copyFrom : MethodName := ⟨"ReceiptLeft$City", "copyFrom", "(LReceiptLeft$City;)V"⟩
abbrev cX0_copyFrom : ByteArray := prog_2_method_3_code
def yX0_copyFrom : MethodName := ⟨"ReceiptLeft$Acts", "copyFrom", "(LReceiptLeft$Acts;)V"⟩
abbrev cX10_image : ByteArray := prog_1_method_58_code
def yX10_image : MethodName := ⟨"ReceiptLeft", "image", "(I)I"⟩
abbrev cX2_clear : ByteArray := prog_4_method_2_code
def yX2_clear : MethodName := ⟨"ReceiptLeft$City", "clear", "()V"⟩
abbrev cX7_step : ByteArray := prog_9_method_14_code
def yX7_step : MethodName := ⟨"ReceiptLeft$Tape", "step", "()V"⟩
abbrev cX7_read : ByteArray := prog_9_method_4_code
def yX7_read : MethodName := ⟨"ReceiptLeft$Tape", "read", "(LReceiptLeft$City;)Z"⟩
abbrev cX9_begin : ByteArray := prog_11_method_2_code
def yX9_begin : MethodName := ⟨"ReceiptLeft$World", "begin", "()V"⟩
abbrev cX10_city : ByteArray := prog_1_method_4_code
def yX10_city : MethodName := ⟨"ReceiptLeft", "city", "()I"⟩
end
section
theorem hw_5_188 : (Jvm.Cond.fieldLink "ReceiptLeftModel" (9 : Nat) "ReceiptLeftModel" "world" "[I") ∈ zT := zT_in (z_c5 (List.mem_of_getElem? (i := 188) (by decide +kernel))) (by decide +kernel)
theorem hw_6_87 : (Jvm.Cond.static ({ cls := "ReceiptLeftModel", name := "in", desc := "(JJJ)Z" } : Jvm.MethodName)) ∈ zT := zT_in (z_c6 (List.mem_of_getElem? (i := 87) (by decide +kernel))) (by decide +kernel)
theorem hw_1_12 : (Jvm.Cond.initialized "ReceiptLeftModel") ∈ zT := zT_in (z_c1 (List.mem_of_getElem? (i := 12) (by decide +kernel))) (by decide +kernel)
theorem hw_6_88 : (Jvm.Cond.code ({ cls := "ReceiptLeftModel", name := "in", desc := "(JJJ)Z" } : Jvm.MethodName) prog_13_method_3_code (6 : Nat) (Option.some Jvm.ClassFile.FieldType.boolean)) ∈ zT := zT_in (z_c6 (List.mem_of_getElem? (i := 88) (by decide +kernel))) (by decide +kernel)
theorem hmX11_in : Cond.static yX11_in ∈ zT ∧ Cond.initialized yX11_in.cls ∈ zT ∧ Cond.code yX11_in cX11_in 6 (some .boolean) ∈ zT := ⟨hw_6_87, hw_1_12, hw_6_88⟩
theorem hw_6_86 : (Jvm.Cond.methodLink "ReceiptLeftModel" (94 : Nat) ({ cls := "ReceiptLeftModel", name := "in", desc := "(JJJ)Z" } : Jvm.MethodName)) ∈ zT := zT_in (z_c6 (List.mem_of_getElem? (i := 86) (by decide +kernel))) (by decide +kernel)
theorem hw_6_178 : (Jvm.Cond.instanceMethod ({ cls := "ReceiptLeftModel", name := "isHouse", desc := "(J)Z" } : Jvm.MethodName)) ∈ zT := zT_in (z_c6 (List.mem_of_getElem? (i := 178) (by decide +kernel))) (by decide +kernel)
theorem hs_6 : Cond.selects "ReceiptLeftModel" ⟨"ReceiptLeftModel", "isHouse", "(J)Z"⟩ ⟨"ReceiptLeftModel", "isHouse", "(J)Z"⟩ ∈ zT := zT_in (z_c0 (by decide +kernel)) (by decide +kernel)
theorem hw_6_179 : (Jvm.Cond.code ({ cls := "ReceiptLeftModel", name := "isHouse", desc := "(J)Z" } : Jvm.MethodName) prog_13_method_9_code (3 : Nat) (Option.some Jvm.ClassFile.FieldType.boolean)) ∈ zT := zT_in (z_c6 (List.mem_of_getElem? (i := 179) (by decide +kernel))) (by decide +kernel)
theorem hmX11_isHouse : Cond.instanceMethod yX11_isHouse ∈ zT ∧ Cond.selects "ReceiptLeftModel" yX11_isHouse yX11_isHouse ∈ zT ∧ Cond.initialized yX11_isHouse.cls ∈ zT ∧ Cond.code yX11_isHouse cX11_isHouse 3 (some .boolean) ∈ zT := ⟨hw_6_178, hs_6, hw_1_12, hw_6_179⟩
theorem hw_6_176 : (Jvm.Cond.methodLink "ReceiptLeftModel" (257 : Nat) ({ cls := "ReceiptLeftModel", name := "isHouse", desc := "(J)Z" } : Jvm.MethodName)) ∈ zT := zT_in (z_c6 (List.mem_of_getElem? (i := 176) (by decide +kernel))) (by decide +kernel)
theorem hw_7_0 : (Jvm.Cond.instanceMethod ({ cls := "ReceiptLeftModel", name := "isThing", desc := "(J)Z" } : Jvm.MethodName)) ∈ zT := zT_in (z_c7 (List.mem_of_getElem? (i := 0) (by decide +kernel))) (by decide +kernel)
theorem hs_10 : Cond.selects "ReceiptLeftModel" ⟨"ReceiptLeftModel", "isThing", "(J)Z"⟩ ⟨"ReceiptLeftModel", "isThing", "(J)Z"⟩ ∈ zT := zT_in (z_c0 (by decide +kernel)) (by decide +kernel)
theorem hw_7_1 : (Jvm.Cond.code ({ cls := "ReceiptLeftModel", name := "isThing", desc := "(J)Z" } : Jvm.MethodName) prog_13_method_10_code (3 : Nat) (Option.some Jvm.ClassFile.FieldType.boolean)) ∈ zT := zT_in (z_c7 (List.mem_of_getElem? (i := 1) (by decide +kernel))) (by decide +kernel)
theorem hmX11_isThing : Cond.instanceMethod yX11_isThing ∈ zT ∧ Cond.selects "ReceiptLeftModel" yX11_isThing yX11_isThing ∈ zT ∧ Cond.initialized yX11_isThing.cls ∈ zT ∧ Cond.code yX11_isThing cX11_isThing 3 (some .boolean) ∈ zT := ⟨hw_7_0, hs_10, hw_1_12, hw_7_1⟩
theorem hw_6_238 : (Jvm.Cond.methodLink "ReceiptLeftModel" (266 : Nat) ({ cls := "ReceiptLeftModel", name := "isThing", desc := "(J)Z" } : Jvm.MethodName)) ∈ zT := zT_in (z_c6 (List.mem_of_getElem? (i := 238) (by decide +kernel))) (by decide +kernel)
theorem hw_7_30 : (Jvm.Cond.constant "ReceiptLeftModel" (275 : Nat) (-100000 : Int32)) ∈ zT := zT_in (z_c7 (List.mem_of_getElem? (i := 30) (by decide +kernel))) (by decide +kernel)
theorem hw_7_77 : (Jvm.Cond.instanceMethod ({ cls := "ReceiptLeftModel", name := "isCity", desc := "()Z" } : Jvm.MethodName)) ∈ zT := zT_in (z_c7 (List.mem_of_getElem? (i := 77) (by decide +kernel))) (by decide +kernel)
theorem hs_15 : Cond.selects "ReceiptLeftModel" ⟨"ReceiptLeftModel", "isCity", "()Z"⟩ ⟨"ReceiptLeftModel", "isCity", "()Z"⟩ ∈ zT := zT_in (z_c0 (by decide +kernel)) (by decide +kernel)
theorem hw_7_78 : (Jvm.Cond.code ({ cls := "ReceiptLeftModel", name := "isCity", desc := "()Z" } : Jvm.MethodName) prog_13_method_8_code (1 : Nat) (Option.some Jvm.ClassFile.FieldType.boolean)) ∈ zT := zT_in (z_c7 (List.mem_of_getElem? (i := 78) (by decide +kernel))) (by decide +kernel)
theorem hmX11_isCity : Cond.instanceMethod yX11_isCity ∈ zT ∧ Cond.selects "ReceiptLeftModel" yX11_isCity yX11_isCity ∈ zT ∧ Cond.initialized yX11_isCity.cls ∈ zT ∧ Cond.code yX11_isCity cX11_isCity 1 (some .boolean) ∈ zT := ⟨hw_7_77, hs_15, hw_1_12, hw_7_78⟩
theorem hw_7_75 : (Jvm.Cond.methodLink "ReceiptLeftModel" (295 : Nat) ({ cls := "ReceiptLeftModel", name := "isCity", desc := "()Z" } : Jvm.MethodName)) ∈ zT := zT_in (z_c7 (List.mem_of_getElem? (i := 75) (by decide +kernel))) (by decide +kernel)
theorem hw_5_213 : (Jvm.Cond.fieldLink "ReceiptLeftModel" (208 : Nat) "ReceiptLeftModel" "papers" "I") ∈ zT := zT_in (z_c5 (List.mem_of_getElem? (i := 213) (by decide +kernel))) (by decide +kernel)
theorem hw_5_214 : (Jvm.Cond.fieldLink "ReceiptLeftModel" (211 : Nat) "ReceiptLeftModel" "day" "I") ∈ zT := zT_in (z_c5 (List.mem_of_getElem? (i := 214) (by decide +kernel))) (by decide +kernel)
theorem hw_5_216 : (Jvm.Cond.fieldLink "ReceiptLeftModel" (214 : Nat) "ReceiptLeftModel" "watched" "I") ∈ zT := zT_in (z_c5 (List.mem_of_getElem? (i := 216) (by decide +kernel))) (by decide +kernel)
theorem hw_5_202 : (Jvm.Cond.fieldLink "ReceiptLeftModel" (34 : Nat) "ReceiptLeftModel" "purse" "[I") ∈ zT := zT_in (z_c5 (List.mem_of_getElem? (i := 202) (by decide +kernel))) (by decide +kernel)
theorem hw_5_203 : (Jvm.Cond.fieldLink "ReceiptLeftModel" (37 : Nat) "ReceiptLeftModel" "locked" "[I") ∈ zT := zT_in (z_c5 (List.mem_of_getElem? (i := 203) (by decide +kernel))) (by decide +kernel)
theorem hw_5_204 : (Jvm.Cond.fieldLink "ReceiptLeftModel" (40 : Nat) "ReceiptLeftModel" "place" "[I") ∈ zT := zT_in (z_c5 (List.mem_of_getElem? (i := 204) (by decide +kernel))) (by decide +kernel)
theorem hw_5_212 : (Jvm.Cond.fieldLink "ReceiptLeftModel" (64 : Nat) "ReceiptLeftModel" "trailLong" "[I") ∈ zT := zT_in (z_c5 (List.mem_of_getElem? (i := 212) (by decide +kernel))) (by decide +kernel)
theorem hw_5_211 : (Jvm.Cond.fieldLink "ReceiptLeftModel" (61 : Nat) "ReceiptLeftModel" "trail" "[I") ∈ zT := zT_in (z_c5 (List.mem_of_getElem? (i := 211) (by decide +kernel))) (by decide +kernel)
theorem hw_6_183 : (Jvm.Cond.instanceMethod ({ cls := "ReceiptLeftModel", name := "asItIs", desc := "()V" } : Jvm.MethodName)) ∈ zT := zT_in (z_c6 (List.mem_of_getElem? (i := 183) (by decide +kernel))) (by decide +kernel)
theorem hs_27 : Cond.selects "ReceiptLeftModel" ⟨"ReceiptLeftModel", "asItIs", "()V"⟩ ⟨"ReceiptLeftModel", "asItIs", "()V"⟩ ∈ zT := zT_in (z_c0 (by decide +kernel)) (by decide +kernel)
theorem hw_6_184 : (Jvm.Cond.code ({ cls := "ReceiptLeftModel", name := "asItIs", desc := "()V" } : Jvm.MethodName) prog_13_method_29_code (2 : Nat) (Option.none : Option Jvm.ClassFile.FieldType)) ∈ zT := zT_in (z_c6 (List.mem_of_getElem? (i := 184) (by decide +kernel))) (by decide +kernel)
theorem hmX11_asItIs : Cond.instanceMethod yX11_asItIs ∈ zT ∧ Cond.selects "ReceiptLeftModel" yX11_asItIs yX11_asItIs ∈ zT ∧ Cond.initialized yX11_asItIs.cls ∈ zT ∧ Cond.code yX11_asItIs cX11_asItIs 2 none ∈ zT := ⟨hw_6_183, hs_27, hw_1_12, hw_6_184⟩
theorem hw_6_181 : (Jvm.Cond.methodLink "ReceiptLeftModel" (250 : Nat) ({ cls := "ReceiptLeftModel", name := "asItIs", desc := "()V" } : Jvm.MethodName)) ∈ zT := zT_in (z_c6 (List.mem_of_getElem? (i := 181) (by decide +kernel))) (by decide +kernel)
theorem hw_7_91 : (Jvm.Cond.constantLong "ReceiptLeftModel" (298 : Nat) (3 : Int64)) ∈ zT := zT_in (z_c7 (List.mem_of_getElem? (i := 91) (by decide +kernel))) (by decide +kernel)
theorem hw_8_77 : (Jvm.Cond.static ({ cls := "ReceiptLeftModel", name := "isSlot", desc := "(I)Z" } : Jvm.MethodName)) ∈ zT := zT_in (z_c8 (List.mem_of_getElem? (i := 77) (by decide +kernel))) (by decide +kernel)
theorem hw_8_78 : (Jvm.Cond.code ({ cls := "ReceiptLeftModel", name := "isSlot", desc := "(I)Z" } : Jvm.MethodName) prog_13_method_131_code (1 : Nat) (Option.some Jvm.ClassFile.FieldType.boolean)) ∈ zT := zT_in (z_c8 (List.mem_of_getElem? (i := 78) (by decide +kernel))) (by decide +kernel)
theorem hmX11_isSlot : Cond.static yX11_isSlot ∈ zT ∧ Cond.initialized yX11_isSlot.cls ∈ zT ∧ Cond.code yX11_isSlot cX11_isSlot 1 (some .boolean) ∈ zT := ⟨hw_8_77, hw_1_12, hw_8_78⟩
theorem hw_8_76 : (Jvm.Cond.methodLink "ReceiptLeftModel" (397 : Nat) ({ cls := "ReceiptLeftModel", name := "isSlot", desc := "(I)Z" } : Jvm.MethodName)) ∈ zT := zT_in (z_c8 (List.mem_of_getElem? (i := 76) (by decide +kernel))) (by decide +kernel)
theorem hw_7_20 : (Jvm.Cond.instanceMethod ({ cls := "ReceiptLeftModel", name := "isPaper", desc := "(I)Z" } : Jvm.MethodName)) ∈ zT := zT_in (z_c7 (List.mem_of_getElem? (i := 20) (by decide +kernel))) (by decide +kernel)
theorem hs_35 : Cond.selects "ReceiptLeftModel" ⟨"ReceiptLeftModel", "isPaper", "(I)Z"⟩ ⟨"ReceiptLeftModel", "isPaper", "(I)Z"⟩ ∈ zT := zT_in (z_c0 (by decide +kernel)) (by decide +kernel)
theorem hw_7_21 : (Jvm.Cond.code ({ cls := "ReceiptLeftModel", name := "isPaper", desc := "(I)Z" } : Jvm.MethodName) prog_13_method_40_code (2 : Nat) (Option.some Jvm.ClassFile.FieldType.boolean)) ∈ zT := zT_in (z_c7 (List.mem_of_getElem? (i := 21) (by decide +kernel))) (by decide +kernel)
theorem hmX11_isPaper : Cond.instanceMethod yX11_isPaper ∈ zT ∧ Cond.selects "ReceiptLeftModel" yX11_isPaper yX11_isPaper ∈ zT ∧ Cond.initialized yX11_isPaper.cls ∈ zT ∧ Cond.code yX11_isPaper cX11_isPaper 2 (some .boolean) ∈ zT := ⟨hw_7_20, hs_35, hw_1_12, hw_7_21⟩
theorem hw_7_18 : (Jvm.Cond.methodLink "ReceiptLeftModel" (272 : Nat) ({ cls := "ReceiptLeftModel", name := "isPaper", desc := "(I)Z" } : Jvm.MethodName)) ∈ zT := zT_in (z_c7 (List.mem_of_getElem? (i := 18) (by decide +kernel))) (by decide +kernel)
theorem hw_8_41 : (Jvm.Cond.instanceMethod ({ cls := "ReceiptLeftModel", name := "isCost", desc := "(I)Z" } : Jvm.MethodName)) ∈ zT := zT_in (z_c8 (List.mem_of_getElem? (i := 41) (by decide +kernel))) (by decide +kernel)
theorem hs_39 : Cond.selects "ReceiptLeftModel" ⟨"ReceiptLeftModel", "isCost", "(I)Z"⟩ ⟨"ReceiptLeftModel", "isCost", "(I)Z"⟩ ∈ zT := zT_in (z_c0 (by decide +kernel)) (by decide +kernel)
theorem hw_8_42 : (Jvm.Cond.code ({ cls := "ReceiptLeftModel", name := "isCost", desc := "(I)Z" } : Jvm.MethodName) prog_13_method_110_code (2 : Nat) (Option.some Jvm.ClassFile.FieldType.boolean)) ∈ zT := zT_in (z_c8 (List.mem_of_getElem? (i := 42) (by decide +kernel))) (by decide +kernel)
theorem hmX11_isCost : Cond.instanceMethod yX11_isCost ∈ zT ∧ Cond.selects "ReceiptLeftModel" yX11_isCost yX11_isCost ∈ zT ∧ Cond.initialized yX11_isCost.cls ∈ zT ∧ Cond.code yX11_isCost cX11_isCost 2 (some .boolean) ∈ zT := ⟨hw_8_41, hs_39, hw_1_12, hw_8_42⟩
theorem hw_8_39 : (Jvm.Cond.methodLink "ReceiptLeftModel" (385 : Nat) ({ cls := "ReceiptLeftModel", name := "isCost", desc := "(I)Z" } : Jvm.MethodName)) ∈ zT := zT_in (z_c8 (List.mem_of_getElem? (i := 39) (by decide +kernel))) (by decide +kernel)
theorem hw_8_74 : (Jvm.Cond.instanceMethod ({ cls := "ReceiptLeftModel", name := "asksPapers", desc := "(I)I" } : Jvm.MethodName)) ∈ zT := zT_in (z_c8 (List.mem_of_getElem? (i := 74) (by decide +kernel))) (by decide +kernel)
theorem hs_43 : Cond.selects "ReceiptLeftModel" ⟨"ReceiptLeftModel", "asksPapers", "(I)I"⟩ ⟨"ReceiptLeftModel", "asksPapers", "(I)I"⟩ ∈ zT := zT_in (z_c0 (by decide +kernel)) (by decide +kernel)
theorem hw_8_75 : (Jvm.Cond.code ({ cls := "ReceiptLeftModel", name := "asksPapers", desc := "(I)I" } : Jvm.MethodName) prog_13_method_116_code (3 : Nat) (Option.some Jvm.ClassFile.FieldType.int)) ∈ zT := zT_in (z_c8 (List.mem_of_getElem? (i := 75) (by decide +kernel))) (by decide +kernel)
theorem hmX11_asksPapers : Cond.instanceMethod yX11_asksPapers ∈ zT ∧ Cond.selects "ReceiptLeftModel" yX11_asksPapers yX11_asksPapers ∈ zT ∧ Cond.initialized yX11_asksPapers.cls ∈ zT ∧ Cond.code yX11_asksPapers cX11_asksPapers 3 (some .int) ∈ zT := ⟨hw_8_74, hs_43, hw_1_12, hw_8_75⟩
theorem hw_8_72 : (Jvm.Cond.methodLink "ReceiptLeftModel" (416 : Nat) ({ cls := "ReceiptLeftModel", name := "asksPapers", desc := "(I)I" } : Jvm.MethodName)) ∈ zT := zT_in (z_c8 (List.mem_of_getElem? (i := 72) (by decide +kernel))) (by decide +kernel)
theorem hw_8_110 : (Jvm.Cond.instanceMethod ({ cls := "ReceiptLeftModel", name := "areDrawn", desc := "(II)Z" } : Jvm.MethodName)) ∈ zT := zT_in (z_c8 (List.mem_of_getElem? (i := 110) (by decide +kernel))) (by decide +kernel)
theorem hs_47 : Cond.selects "ReceiptLeftModel" ⟨"ReceiptLeftModel", "areDrawn", "(II)Z"⟩ ⟨"ReceiptLeftModel", "areDrawn", "(II)Z"⟩ ∈ zT := zT_in (z_c0 (by decide +kernel)) (by decide +kernel)
theorem hw_8_111 : (Jvm.Cond.code ({ cls := "ReceiptLeftModel", name := "areDrawn", desc := "(II)Z" } : Jvm.MethodName) prog_13_method_124_code (3 : Nat) (Option.some Jvm.ClassFile.FieldType.boolean)) ∈ zT := zT_in (z_c8 (List.mem_of_getElem? (i := 111) (by decide +kernel))) (by decide +kernel)
theorem hmX11_areDrawn : Cond.instanceMethod yX11_areDrawn ∈ zT ∧ Cond.selects "ReceiptLeftModel" yX11_areDrawn yX11_areDrawn ∈ zT ∧ Cond.initialized yX11_areDrawn.cls ∈ zT ∧ Cond.code yX11_areDrawn cX11_areDrawn 3 (some .boolean) ∈ zT := ⟨hw_8_110, hs_47, hw_1_12, hw_8_111⟩
theorem hw_8_108 : (Jvm.Cond.methodLink "ReceiptLeftModel" (441 : Nat) ({ cls := "ReceiptLeftModel", name := "areDrawn", desc := "(II)Z" } : Jvm.MethodName)) ∈ zT := zT_in (z_c8 (List.mem_of_getElem? (i := 108) (by decide +kernel))) (by decide +kernel)
theorem hw_5_192 : (Jvm.Cond.fieldLink "ReceiptLeftModel" (106 : Nat) "ReceiptLeftModel" "taped" "I") ∈ zT := zT_in (z_c5 (List.mem_of_getElem? (i := 192) (by decide +kernel))) (by decide +kernel)
theorem hw_5_200 : (Jvm.Cond.fieldLink "ReceiptLeftModel" (27 : Nat) "ReceiptLeftModel" "faultPlace" "I") ∈ zT := zT_in (z_c5 (List.mem_of_getElem? (i := 200) (by decide +kernel))) (by decide +kernel)
theorem hw_5_199 : (Jvm.Cond.fieldLink "ReceiptLeftModel" (141 : Nat) "ReceiptLeftModel" "faultKind" "I") ∈ zT := zT_in (z_c5 (List.mem_of_getElem? (i := 199) (by decide +kernel))) (by decide +kernel)
theorem hw_5_227 : (Jvm.Cond.fieldLink "ReceiptLeftModel" (76 : Nat) "ReceiptLeftModel" "many" "[I") ∈ zT := zT_in (z_c5 (List.mem_of_getElem? (i := 227) (by decide +kernel))) (by decide +kernel)
theorem hw_6_85 : (Jvm.Cond.constantLong "ReceiptLeftModel" (92 : Nat) (2 : Int64)) ∈ zT := zT_in (z_c6 (List.mem_of_getElem? (i := 85) (by decide +kernel))) (by decide +kernel)
theorem hw_5_190 : (Jvm.Cond.fieldLink "ReceiptLeftModel" (16 : Nat) "ReceiptLeftModel" "hasImage" "[Z") ∈ zT := zT_in (z_c5 (List.mem_of_getElem? (i := 190) (by decide +kernel))) (by decide +kernel)
theorem hw_5_189 : (Jvm.Cond.fieldLink "ReceiptLeftModel" (13 : Nat) "ReceiptLeftModel" "images" "[I") ∈ zT := zT_in (z_c5 (List.mem_of_getElem? (i := 189) (by decide +kernel))) (by decide +kernel)
theorem hw_5_228 : (Jvm.Cond.fieldLink "ReceiptLeftModel" (79 : Nat) "ReceiptLeftModel" "width" "[I") ∈ zT := zT_in (z_c5 (List.mem_of_getElem? (i := 228) (by decide +kernel))) (by decide +kernel)
theorem hw_5_229 : (Jvm.Cond.fieldLink "ReceiptLeftModel" (82 : Nat) "ReceiptLeftModel" "numbers" "[J") ∈ zT := zT_in (z_c5 (List.mem_of_getElem? (i := 229) (by decide +kernel))) (by decide +kernel)
theorem hw_5_193 : (Jvm.Cond.fieldLink "ReceiptLeftModel" (24 : Nat) "ReceiptLeftModel" "five" "[I") ∈ zT := zT_in (z_c5 (List.mem_of_getElem? (i := 193) (by decide +kernel))) (by decide +kernel)
theorem hw_5_191 : (Jvm.Cond.fieldLink "ReceiptLeftModel" (20 : Nat) "ReceiptLeftModel" "tape" "[B") ∈ zT := zT_in (z_c5 (List.mem_of_getElem? (i := 191) (by decide +kernel))) (by decide +kernel)
theorem hw_5_194 : (Jvm.Cond.fieldLink "ReceiptLeftModel" (109 : Nat) "ReceiptLeftModel" "size" "I") ∈ zT := zT_in (z_c5 (List.mem_of_getElem? (i := 194) (by decide +kernel))) (by decide +kernel)
theorem hw_5_195 : (Jvm.Cond.fieldLink "ReceiptLeftModel" (112 : Nat) "ReceiptLeftModel" "at" "I") ∈ zT := zT_in (z_c5 (List.mem_of_getElem? (i := 195) (by decide +kernel))) (by decide +kernel)
theorem hw_6_115 : (Jvm.Cond.instanceMethod ({ cls := "ReceiptLeftModel", name := "see", desc := "(I)I" } : Jvm.MethodName)) ∈ zT := zT_in (z_c6 (List.mem_of_getElem? (i := 115) (by decide +kernel))) (by decide +kernel)
theorem hs_64 : Cond.selects "ReceiptLeftModel" ⟨"ReceiptLeftModel", "see", "(I)I"⟩ ⟨"ReceiptLeftModel", "see", "(I)I"⟩ ∈ zT := zT_in (z_c0 (by decide +kernel)) (by decide +kernel)
theorem hw_6_116 : (Jvm.Cond.code ({ cls := "ReceiptLeftModel", name := "see", desc := "(I)I" } : Jvm.MethodName) prog_13_method_16_code (2 : Nat) (Option.some Jvm.ClassFile.FieldType.int)) ∈ zT := zT_in (z_c6 (List.mem_of_getElem? (i := 116) (by decide +kernel))) (by decide +kernel)
theorem hmX11_see : Cond.instanceMethod yX11_see ∈ zT ∧ Cond.selects "ReceiptLeftModel" yX11_see yX11_see ∈ zT ∧ Cond.initialized yX11_see.cls ∈ zT ∧ Cond.code yX11_see cX11_see 2 (some .int) ∈ zT := ⟨hw_6_115, hs_64, hw_1_12, hw_6_116⟩
theorem hw_6_113 : (Jvm.Cond.methodLink "ReceiptLeftModel" (115 : Nat) ({ cls := "ReceiptLeftModel", name := "see", desc := "(I)I" } : Jvm.MethodName)) ∈ zT := zT_in (z_c6 (List.mem_of_getElem? (i := 113) (by decide +kernel))) (by decide +kernel)
theorem hw_5_196 : (Jvm.Cond.fieldLink "ReceiptLeftModel" (118 : Nat) "ReceiptLeftModel" "from" "I") ∈ zT := zT_in (z_c5 (List.mem_of_getElem? (i := 196) (by decide +kernel))) (by decide +kernel)
theorem hw_5_197 : (Jvm.Cond.fieldLink "ReceiptLeftModel" (121 : Nat) "ReceiptLeftModel" "token" "I") ∈ zT := zT_in (z_c5 (List.mem_of_getElem? (i := 197) (by decide +kernel))) (by decide +kernel)
theorem hw_5_201 : (Jvm.Cond.fieldLink "ReceiptLeftModel" (31 : Nat) "ReceiptLeftModel" "fresh" "[I") ∈ zT := zT_in (z_c5 (List.mem_of_getElem? (i := 201) (by decide +kernel))) (by decide +kernel)
theorem hw_6_111 : (Jvm.Cond.instanceMethod ({ cls := "ReceiptLeftModel", name := "advance", desc := "()V" } : Jvm.MethodName)) ∈ zT := zT_in (z_c6 (List.mem_of_getElem? (i := 111) (by decide +kernel))) (by decide +kernel)
theorem hs_71 : Cond.selects "ReceiptLeftModel" ⟨"ReceiptLeftModel", "advance", "()V"⟩ ⟨"ReceiptLeftModel", "advance", "()V"⟩ ∈ zT := zT_in (z_c0 (by decide +kernel)) (by decide +kernel)
theorem hw_6_112 : (Jvm.Cond.code ({ cls := "ReceiptLeftModel", name := "advance", desc := "()V" } : Jvm.MethodName) prog_13_method_17_code (2 : Nat) (Option.none : Option Jvm.ClassFile.FieldType)) ∈ zT := zT_in (z_c6 (List.mem_of_getElem? (i := 112) (by decide +kernel))) (by decide +kernel)
theorem hmX11_advance : Cond.instanceMethod yX11_advance ∈ zT ∧ Cond.selects "ReceiptLeftModel" yX11_advance yX11_advance ∈ zT ∧ Cond.initialized yX11_advance.cls ∈ zT ∧ Cond.code yX11_advance cX11_advance 2 none ∈ zT := ⟨hw_6_111, hs_71, hw_1_12, hw_6_112⟩
theorem hw_6_109 : (Jvm.Cond.methodLink "ReceiptLeftModel" (162 : Nat) ({ cls := "ReceiptLeftModel", name := "advance", desc := "()V" } : Jvm.MethodName)) ∈ zT := zT_in (z_c6 (List.mem_of_getElem? (i := 109) (by decide +kernel))) (by decide +kernel)
theorem hw_6_125 : (Jvm.Cond.instanceMethod ({ cls := "ReceiptLeftModel", name := "good", desc := "()Z" } : Jvm.MethodName)) ∈ zT := zT_in (z_c6 (List.mem_of_getElem? (i := 125) (by decide +kernel))) (by decide +kernel)
theorem hs_75 : Cond.selects "ReceiptLeftModel" ⟨"ReceiptLeftModel", "good", "()Z"⟩ ⟨"ReceiptLeftModel", "good", "()Z"⟩ ∈ zT := zT_in (z_c0 (by decide +kernel)) (by decide +kernel)
theorem hw_6_126 : (Jvm.Cond.code ({ cls := "ReceiptLeftModel", name := "good", desc := "()Z" } : Jvm.MethodName) prog_13_method_18_code (1 : Nat) (Option.some Jvm.ClassFile.FieldType.boolean)) ∈ zT := zT_in (z_c6 (List.mem_of_getElem? (i := 126) (by decide +kernel))) (by decide +kernel)
theorem hmX11_good : Cond.instanceMethod yX11_good ∈ zT ∧ Cond.selects "ReceiptLeftModel" yX11_good yX11_good ∈ zT ∧ Cond.initialized yX11_good.cls ∈ zT ∧ Cond.code yX11_good cX11_good 1 (some .boolean) ∈ zT := ⟨hw_6_125, hs_75, hw_1_12, hw_6_126⟩
theorem hw_6_123 : (Jvm.Cond.methodLink "ReceiptLeftModel" (144 : Nat) ({ cls := "ReceiptLeftModel", name := "good", desc := "()Z" } : Jvm.MethodName)) ∈ zT := zT_in (z_c6 (List.mem_of_getElem? (i := 123) (by decide +kernel))) (by decide +kernel)
theorem hw_2_94 : (Jvm.Cond.fieldLink "ReceiptLeft" (19 : Nat) "ReceiptLeft" "city" "LReceiptLeft$City;") ∈ zT := zT_in (z_c2 (List.mem_of_getElem? (i := 94) (by decide +kernel))) (by decide +kernel)
theorem hw_1_68 : (Jvm.Cond.fieldLink "ReceiptLeft" (112 : Nat) "ReceiptLeft$City" "lines" "I") ∈ zT := zT_in (z_c1 (List.mem_of_getElem? (i := 68) (by decide +kernel))) (by decide +kernel)
theorem hw_1_85 : (Jvm.Cond.fieldLink "ReceiptLeft" (255 : Nat) "ReceiptLeft$City" "houses" "I") ∈ zT := zT_in (z_c1 (List.mem_of_getElem? (i := 85) (by decide +kernel))) (by decide +kernel)
theorem hw_1_93 : (Jvm.Cond.fieldLink "ReceiptLeft" (296 : Nat) "ReceiptLeft$City" "things" "I") ∈ zT := zT_in (z_c1 (List.mem_of_getElem? (i := 93) (by decide +kernel))) (by decide +kernel)
theorem hw_2_97 : (Jvm.Cond.fieldLink "ReceiptLeft" (38 : Nat) "ReceiptLeft" "world" "LReceiptLeft$World;") ∈ zT := zT_in (z_c2 (List.mem_of_getElem? (i := 97) (by decide +kernel))) (by decide +kernel)
theorem hw_1_162 : (Jvm.Cond.fieldLink "ReceiptLeft" (339 : Nat) "ReceiptLeft$World" "papers" "I") ∈ zT := zT_in (z_c1 (List.mem_of_getElem? (i := 162) (by decide +kernel))) (by decide +kernel)
theorem hw_5_61 : (Jvm.Cond.static ({ cls := "ReceiptLeft", name := "isSlot", desc := "(I)Z" } : Jvm.MethodName)) ∈ zT := zT_in (z_c5 (List.mem_of_getElem? (i := 61) (by decide +kernel))) (by decide +kernel)
theorem hw_1_1 : (Jvm.Cond.initialized "ReceiptLeft") ∈ zT := zT_in (z_c1 (List.mem_of_getElem? (i := 1) (by decide +kernel))) (by decide +kernel)
theorem hw_5_62 : (Jvm.Cond.code ({ cls := "ReceiptLeft", name := "isSlot", desc := "(I)Z" } : Jvm.MethodName) prog_1_method_68_code (1 : Nat) (Option.some Jvm.ClassFile.FieldType.boolean)) ∈ zT := zT_in (z_c5 (List.mem_of_getElem? (i := 62) (by decide +kernel))) (by decide +kernel)
theorem hmX10_isSlot : Cond.static yX10_isSlot ∈ zT ∧ Cond.initialized yX10_isSlot.cls ∈ zT ∧ Cond.code yX10_isSlot cX10_isSlot 1 (some .boolean) ∈ zT := ⟨hw_5_61, hw_1_1, hw_5_62⟩
theorem hw_5_60 : (Jvm.Cond.methodLink "ReceiptLeft" (367 : Nat) ({ cls := "ReceiptLeft", name := "isSlot", desc := "(I)Z" } : Jvm.MethodName)) ∈ zT := zT_in (z_c5 (List.mem_of_getElem? (i := 60) (by decide +kernel))) (by decide +kernel)
theorem hw_4_2 : (Jvm.Cond.instanceMethod ({ cls := "ReceiptLeft", name := "hasCity", desc := "()Z" } : Jvm.MethodName)) ∈ zT := zT_in (z_c4 (List.mem_of_getElem? (i := 2) (by decide +kernel))) (by decide +kernel)
theorem hs_89 : Cond.selects "ReceiptLeft" ⟨"ReceiptLeft", "hasCity", "()Z"⟩ ⟨"ReceiptLeft", "hasCity", "()Z"⟩ ∈ zT := zT_in (z_c0 (by decide +kernel)) (by decide +kernel)
theorem hw_4_3 : (Jvm.Cond.code ({ cls := "ReceiptLeft", name := "hasCity", desc := "()Z" } : Jvm.MethodName) prog_1_method_63_code (1 : Nat) (Option.some Jvm.ClassFile.FieldType.boolean)) ∈ zT := zT_in (z_c4 (List.mem_of_getElem? (i := 3) (by decide +kernel))) (by decide +kernel)
theorem hmX10_hasCity : Cond.instanceMethod yX10_hasCity ∈ zT ∧ Cond.selects "ReceiptLeft" yX10_hasCity yX10_hasCity ∈ zT ∧ Cond.initialized yX10_hasCity.cls ∈ zT ∧ Cond.code yX10_hasCity cX10_hasCity 1 (some .boolean) ∈ zT := ⟨hw_4_2, hs_89, hw_1_1, hw_4_3⟩
theorem hw_4_0 : (Jvm.Cond.methodLink "ReceiptLeft" (203 : Nat) ({ cls := "ReceiptLeft", name := "hasCity", desc := "()Z" } : Jvm.MethodName)) ∈ zT := zT_in (z_c4 (List.mem_of_getElem? (i := 0) (by decide +kernel))) (by decide +kernel)
theorem hw_3_61 : (Jvm.Cond.instanceMethod ({ cls := "ReceiptLeft", name := "isHouse", desc := "(I)Z" } : Jvm.MethodName)) ∈ zT := zT_in (z_c3 (List.mem_of_getElem? (i := 61) (by decide +kernel))) (by decide +kernel)
theorem hs_93 : Cond.selects "ReceiptLeft" ⟨"ReceiptLeft", "isHouse", "(I)Z"⟩ ⟨"ReceiptLeft", "isHouse", "(I)Z"⟩ ∈ zT := zT_in (z_c0 (by decide +kernel)) (by decide +kernel)
theorem hw_3_62 : (Jvm.Cond.code ({ cls := "ReceiptLeft", name := "isHouse", desc := "(I)Z" } : Jvm.MethodName) prog_1_method_64_code (2 : Nat) (Option.some Jvm.ClassFile.FieldType.boolean)) ∈ zT := zT_in (z_c3 (List.mem_of_getElem? (i := 62) (by decide +kernel))) (by decide +kernel)
theorem hmX10_isHouse : Cond.instanceMethod yX10_isHouse ∈ zT ∧ Cond.selects "ReceiptLeft" yX10_isHouse yX10_isHouse ∈ zT ∧ Cond.initialized yX10_isHouse.cls ∈ zT ∧ Cond.code yX10_isHouse cX10_isHouse 2 (some .boolean) ∈ zT := ⟨hw_3_61, hs_93, hw_1_1, hw_3_62⟩
theorem hw_3_59 : (Jvm.Cond.methodLink "ReceiptLeft" (121 : Nat) ({ cls := "ReceiptLeft", name := "isHouse", desc := "(I)Z" } : Jvm.MethodName)) ∈ zT := zT_in (z_c3 (List.mem_of_getElem? (i := 59) (by decide +kernel))) (by decide +kernel)
theorem hw_3_89 : (Jvm.Cond.instanceMethod ({ cls := "ReceiptLeft", name := "isThing", desc := "(I)Z" } : Jvm.MethodName)) ∈ zT := zT_in (z_c3 (List.mem_of_getElem? (i := 89) (by decide +kernel))) (by decide +kernel)
theorem hs_97 : Cond.selects "ReceiptLeft" ⟨"ReceiptLeft", "isThing", "(I)Z"⟩ ⟨"ReceiptLeft", "isThing", "(I)Z"⟩ ∈ zT := zT_in (z_c0 (by decide +kernel)) (by decide +kernel)
theorem hw_3_90 : (Jvm.Cond.code ({ cls := "ReceiptLeft", name := "isThing", desc := "(I)Z" } : Jvm.MethodName) prog_1_method_65_code (2 : Nat) (Option.some Jvm.ClassFile.FieldType.boolean)) ∈ zT := zT_in (z_c3 (List.mem_of_getElem? (i := 90) (by decide +kernel))) (by decide +kernel)
theorem hmX10_isThing : Cond.instanceMethod yX10_isThing ∈ zT ∧ Cond.selects "ReceiptLeft" yX10_isThing yX10_isThing ∈ zT ∧ Cond.initialized yX10_isThing.cls ∈ zT ∧ Cond.code yX10_isThing cX10_isThing 2 (some .boolean) ∈ zT := ⟨hw_3_89, hs_97, hw_1_1, hw_3_90⟩
theorem hw_3_87 : (Jvm.Cond.methodLink "ReceiptLeft" (142 : Nat) ({ cls := "ReceiptLeft", name := "isThing", desc := "(I)Z" } : Jvm.MethodName)) ∈ zT := zT_in (z_c3 (List.mem_of_getElem? (i := 87) (by decide +kernel))) (by decide +kernel)
theorem hw_3_109 : (Jvm.Cond.instanceMethod ({ cls := "ReceiptLeft", name := "isPaper", desc := "(I)Z" } : Jvm.MethodName)) ∈ zT := zT_in (z_c3 (List.mem_of_getElem? (i := 109) (by decide +kernel))) (by decide +kernel)
theorem hs_101 : Cond.selects "ReceiptLeft" ⟨"ReceiptLeft", "isPaper", "(I)Z"⟩ ⟨"ReceiptLeft", "isPaper", "(I)Z"⟩ ∈ zT := zT_in (z_c0 (by decide +kernel)) (by decide +kernel)
theorem hw_3_110 : (Jvm.Cond.code ({ cls := "ReceiptLeft", name := "isPaper", desc := "(I)Z" } : Jvm.MethodName) prog_1_method_66_code (2 : Nat) (Option.some Jvm.ClassFile.FieldType.boolean)) ∈ zT := zT_in (z_c3 (List.mem_of_getElem? (i := 110) (by decide +kernel))) (by decide +kernel)
theorem hmX10_isPaper : Cond.instanceMethod yX10_isPaper ∈ zT ∧ Cond.selects "ReceiptLeft" yX10_isPaper yX10_isPaper ∈ zT ∧ Cond.initialized yX10_isPaper.cls ∈ zT ∧ Cond.code yX10_isPaper cX10_isPaper 2 (some .boolean) ∈ zT := ⟨hw_3_109, hs_101, hw_1_1, hw_3_110⟩
theorem hw_3_107 : (Jvm.Cond.methodLink "ReceiptLeft" (158 : Nat) ({ cls := "ReceiptLeft", name := "isPaper", desc := "(I)Z" } : Jvm.MethodName)) ∈ zT := zT_in (z_c3 (List.mem_of_getElem? (i := 107) (by decide +kernel))) (by decide +kernel)
theorem hw_3_139 : (Jvm.Cond.constant "ReceiptLeft" (185 : Nat) (-100000 : Int32)) ∈ zT := zT_in (z_c3 (List.mem_of_getElem? (i := 139) (by decide +kernel))) (by decide +kernel)
theorem hw_5_58 : (Jvm.Cond.instanceMethod ({ cls := "ReceiptLeft", name := "look", desc := "(I)I" } : Jvm.MethodName)) ∈ zT := zT_in (z_c5 (List.mem_of_getElem? (i := 58) (by decide +kernel))) (by decide +kernel)
theorem hs_106 : Cond.selects "ReceiptLeft" ⟨"ReceiptLeft", "look", "(I)I"⟩ ⟨"ReceiptLeft", "look", "(I)I"⟩ ∈ zT := zT_in (z_c0 (by decide +kernel)) (by decide +kernel)
theorem hw_5_59 : (Jvm.Cond.code ({ cls := "ReceiptLeft", name := "look", desc := "(I)I" } : Jvm.MethodName) prog_1_method_79_code (3 : Nat) (Option.some Jvm.ClassFile.FieldType.int)) ∈ zT := zT_in (z_c5 (List.mem_of_getElem? (i := 59) (by decide +kernel))) (by decide +kernel)
theorem hmX10_look : Cond.instanceMethod yX10_look ∈ zT ∧ Cond.selects "ReceiptLeft" yX10_look yX10_look ∈ zT ∧ Cond.initialized yX10_look.cls ∈ zT ∧ Cond.code yX10_look cX10_look 3 (some .int) ∈ zT := ⟨hw_5_58, hs_106, hw_1_1, hw_5_59⟩
theorem hw_5_56 : (Jvm.Cond.methodLink "ReceiptLeft" (321 : Nat) ({ cls := "ReceiptLeft", name := "look", desc := "(I)I" } : Jvm.MethodName)) ∈ zT := zT_in (z_c5 (List.mem_of_getElem? (i := 56) (by decide +kernel))) (by decide +kernel)
theorem hw_2_93 : (Jvm.Cond.fieldLink "ReceiptLeft" (10 : Nat) "ReceiptLeft" "tape" "LReceiptLeft$Tape;") ∈ zT := zT_in (z_c2 (List.mem_of_getElem? (i := 93) (by decide +kernel))) (by decide +kernel)
theorem hw_1_37 : (Jvm.Cond.fieldLink "ReceiptLeft" (95 : Nat) "ReceiptLeft$Tape" "length" "I") ∈ zT := zT_in (z_c1 (List.mem_of_getElem? (i := 37) (by decide +kernel))) (by decide +kernel)
theorem hw_1_41 : (Jvm.Cond.fieldLink "ReceiptLeft" (118 : Nat) "ReceiptLeft$Tape" "faultPlace" "I") ∈ zT := zT_in (z_c1 (List.mem_of_getElem? (i := 41) (by decide +kernel))) (by decide +kernel)
theorem hw_1_39 : (Jvm.Cond.fieldLink "ReceiptLeft" (115 : Nat) "ReceiptLeft$Tape" "faultKind" "I") ∈ zT := zT_in (z_c1 (List.mem_of_getElem? (i := 39) (by decide +kernel))) (by decide +kernel)
theorem hw_2_79 : (Jvm.Cond.fieldLink "ReceiptLeft$Row" (9 : Nat) "ReceiptLeft$Row" "length" "I") ∈ zT := zT_in (z_c2 (List.mem_of_getElem? (i := 79) (by decide +kernel))) (by decide +kernel)
theorem hw_2_104 : (Jvm.Cond.fieldLink "ReceiptLeft" (81 : Nat) "ReceiptLeft" "slots" "[LReceiptLeft$Row;") ∈ zT := zT_in (z_c2 (List.mem_of_getElem? (i := 104) (by decide +kernel))) (by decide +kernel)
theorem hw_5_64 : (Jvm.Cond.instanceMethod ({ cls := "ReceiptLeft$Row", name := "isThere", desc := "()Z" } : Jvm.MethodName)) ∈ zT := zT_in (z_c5 (List.mem_of_getElem? (i := 64) (by decide +kernel))) (by decide +kernel)
theorem hw_5_65 : (Jvm.Cond.selects "ReceiptLeft$Row" ({ cls := "ReceiptLeft$Row", name := "isThere", desc := "()Z" } : Jvm.MethodName) ({ cls := "ReceiptLeft$Row", name := "isThere", desc := "()Z" } : Jvm.MethodName)) ∈ zT := zT_in (z_c5 (List.mem_of_getElem? (i := 65) (by decide +kernel))) (by decide +kernel)
theorem hw_1_11 : (Jvm.Cond.initialized "ReceiptLeft$Row") ∈ zT := zT_in (z_c1 (List.mem_of_getElem? (i := 11) (by decide +kernel))) (by decide +kernel)
theorem hw_5_66 : (Jvm.Cond.code ({ cls := "ReceiptLeft$Row", name := "isThere", desc := "()Z" } : Jvm.MethodName) prog_8_method_2_code (1 : Nat) (Option.some Jvm.ClassFile.FieldType.boolean)) ∈ zT := zT_in (z_c5 (List.mem_of_getElem? (i := 66) (by decide +kernel))) (by decide +kernel)
theorem hmX6_isThere : Cond.instanceMethod yX6_isThere ∈ zT ∧ Cond.selects "ReceiptLeft$Row" yX6_isThere yX6_isThere ∈ zT ∧ Cond.initialized yX6_isThere.cls ∈ zT ∧ Cond.code yX6_isThere cX6_isThere 1 (some .boolean) ∈ zT := ⟨hw_5_64, hw_5_65, hw_1_11, hw_5_66⟩
theorem hw_5_63 : (Jvm.Cond.methodLink "ReceiptLeft" (373 : Nat) ({ cls := "ReceiptLeft$Row", name := "isThere", desc := "()Z" } : Jvm.MethodName)) ∈ zT := zT_in (z_c5 (List.mem_of_getElem? (i := 63) (by decide +kernel))) (by decide +kernel)
theorem hw_1_73 : (Jvm.Cond.fieldLink "ReceiptLeft" (346 : Nat) "ReceiptLeft$City" "eats" "I") ∈ zT := zT_in (z_c1 (List.mem_of_getElem? (i := 73) (by decide +kernel))) (by decide +kernel)
theorem hw_1_77 : (Jvm.Cond.fieldLink "ReceiptLeft" (349 : Nat) "ReceiptLeft$City" "carry" "I") ∈ zT := zT_in (z_c1 (List.mem_of_getElem? (i := 77) (by decide +kernel))) (by decide +kernel)
theorem hw_1_80 : (Jvm.Cond.fieldLink "ReceiptLeft" (352 : Nat) "ReceiptLeft$City" "odds" "I") ∈ zT := zT_in (z_c1 (List.mem_of_getElem? (i := 80) (by decide +kernel))) (by decide +kernel)
theorem hw_2_96 : (Jvm.Cond.fieldLink "ReceiptLeft" (29 : Nat) "ReceiptLeft" "acts" "LReceiptLeft$Acts;") ∈ zT := zT_in (z_c2 (List.mem_of_getElem? (i := 96) (by decide +kernel))) (by decide +kernel)
theorem hw_1_141 : (Jvm.Cond.fieldLink "ReceiptLeft" (106 : Nat) "ReceiptLeft$Acts" "count" "I") ∈ zT := zT_in (z_c1 (List.mem_of_getElem? (i := 141) (by decide +kernel))) (by decide +kernel)
theorem hw_5_139 : (Jvm.Cond.instanceMethod ({ cls := "ReceiptLeft", name := "filledSlots", desc := "()I" } : Jvm.MethodName)) ∈ zT := zT_in (z_c5 (List.mem_of_getElem? (i := 139) (by decide +kernel))) (by decide +kernel)
theorem hs_126 : Cond.selects "ReceiptLeft" ⟨"ReceiptLeft", "filledSlots", "()I"⟩ ⟨"ReceiptLeft", "filledSlots", "()I"⟩ ∈ zT := zT_in (z_c0 (by decide +kernel)) (by decide +kernel)
theorem hw_5_140 : (Jvm.Cond.code ({ cls := "ReceiptLeft", name := "filledSlots", desc := "()I" } : Jvm.MethodName) prog_1_method_82_code (3 : Nat) (Option.some Jvm.ClassFile.FieldType.int)) ∈ zT := zT_in (z_c5 (List.mem_of_getElem? (i := 140) (by decide +kernel))) (by decide +kernel)
theorem hmX10_filledSlots : Cond.instanceMethod yX10_filledSlots ∈ zT ∧ Cond.selects "ReceiptLeft" yX10_filledSlots yX10_filledSlots ∈ zT ∧ Cond.initialized yX10_filledSlots.cls ∈ zT ∧ Cond.code yX10_filledSlots cX10_filledSlots 3 (some .int) ∈ zT := ⟨hw_5_139, hs_126, hw_1_1, hw_5_140⟩
theorem hw_5_137 : (Jvm.Cond.methodLink "ReceiptLeft" (355 : Nat) ({ cls := "ReceiptLeft", name := "filledSlots", desc := "()I" } : Jvm.MethodName)) ∈ zT := zT_in (z_c5 (List.mem_of_getElem? (i := 137) (by decide +kernel))) (by decide +kernel)
theorem hw_2_103 : (Jvm.Cond.fieldLink "ReceiptLeft" (75 : Nat) "ReceiptLeft" "images" "[LReceiptLeft$Image;") ∈ zT := zT_in (z_c2 (List.mem_of_getElem? (i := 103) (by decide +kernel))) (by decide +kernel)
theorem hw_2_60 : (Jvm.Cond.fieldLink "ReceiptLeft" (358 : Nat) "ReceiptLeft$Image" "kept" "Z") ∈ zT := zT_in (z_c2 (List.mem_of_getElem? (i := 60) (by decide +kernel))) (by decide +kernel)
theorem hw_1_36 : (Jvm.Cond.fieldLink "ReceiptLeft$Tape" (19 : Nat) "ReceiptLeft$Tape" "length" "I") ∈ zT := zT_in (z_c1 (List.mem_of_getElem? (i := 36) (by decide +kernel))) (by decide +kernel)
theorem hw_1_35 : (Jvm.Cond.fieldLink "ReceiptLeft$Tape" (11 : Nat) "ReceiptLeft$Tape" "bytes" "[B") ∈ zT := zT_in (z_c1 (List.mem_of_getElem? (i := 35) (by decide +kernel))) (by decide +kernel)
theorem hw_2_135 : (Jvm.Cond.instanceMethod ({ cls := "ReceiptLeft$Tape", name := "hasRoom", desc := "()Z" } : Jvm.MethodName)) ∈ zT := zT_in (z_c2 (List.mem_of_getElem? (i := 135) (by decide +kernel))) (by decide +kernel)
theorem hw_2_136 : (Jvm.Cond.selects "ReceiptLeft$Tape" ({ cls := "ReceiptLeft$Tape", name := "hasRoom", desc := "()Z" } : Jvm.MethodName) ({ cls := "ReceiptLeft$Tape", name := "hasRoom", desc := "()Z" } : Jvm.MethodName)) ∈ zT := zT_in (z_c2 (List.mem_of_getElem? (i := 136) (by decide +kernel))) (by decide +kernel)
theorem hw_1_2 : (Jvm.Cond.initialized "ReceiptLeft$Tape") ∈ zT := zT_in (z_c1 (List.mem_of_getElem? (i := 2) (by decide +kernel))) (by decide +kernel)
theorem hw_2_137 : (Jvm.Cond.code ({ cls := "ReceiptLeft$Tape", name := "hasRoom", desc := "()Z" } : Jvm.MethodName) prog_9_method_2_code (1 : Nat) (Option.some Jvm.ClassFile.FieldType.boolean)) ∈ zT := zT_in (z_c2 (List.mem_of_getElem? (i := 137) (by decide +kernel))) (by decide +kernel)
theorem hmX7_hasRoom : Cond.instanceMethod yX7_hasRoom ∈ zT ∧ Cond.selects "ReceiptLeft$Tape" yX7_hasRoom yX7_hasRoom ∈ zT ∧ Cond.initialized yX7_hasRoom.cls ∈ zT ∧ Cond.code yX7_hasRoom cX7_hasRoom 1 (some .boolean) ∈ zT := ⟨hw_2_135, hw_2_136, hw_1_2, hw_2_137⟩
theorem hw_2_134 : (Jvm.Cond.methodLink "ReceiptLeft" (87 : Nat) ({ cls := "ReceiptLeft$Tape", name := "hasRoom", desc := "()Z" } : Jvm.MethodName)) ∈ zT := zT_in (z_c2 (List.mem_of_getElem? (i := 134) (by decide +kernel))) (by decide +kernel)
theorem hw_2_139 : (Jvm.Cond.instanceMethod ({ cls := "ReceiptLeft$Tape", name := "add", desc := "(I)V" } : Jvm.MethodName)) ∈ zT := zT_in (z_c2 (List.mem_of_getElem? (i := 139) (by decide +kernel))) (by decide +kernel)
theorem hw_2_140 : (Jvm.Cond.selects "ReceiptLeft$Tape" ({ cls := "ReceiptLeft$Tape", name := "add", desc := "(I)V" } : Jvm.MethodName) ({ cls := "ReceiptLeft$Tape", name := "add", desc := "(I)V" } : Jvm.MethodName)) ∈ zT := zT_in (z_c2 (List.mem_of_getElem? (i := 140) (by decide +kernel))) (by decide +kernel)
theorem hw_2_141 : (Jvm.Cond.code ({ cls := "ReceiptLeft$Tape", name := "add", desc := "(I)V" } : Jvm.MethodName) prog_9_method_3_code (3 : Nat) (Option.none : Option Jvm.ClassFile.FieldType)) ∈ zT := zT_in (z_c2 (List.mem_of_getElem? (i := 141) (by decide +kernel))) (by decide +kernel)
theorem hmX7_add : Cond.instanceMethod yX7_add ∈ zT ∧ Cond.selects "ReceiptLeft$Tape" yX7_add yX7_add ∈ zT ∧ Cond.initialized yX7_add.cls ∈ zT ∧ Cond.code yX7_add cX7_add 3 none ∈ zT := ⟨hw_2_139, hw_2_140, hw_1_2, hw_2_141⟩
theorem hw_2_138 : (Jvm.Cond.methodLink "ReceiptLeft" (91 : Nat) ({ cls := "ReceiptLeft$Tape", name := "add", desc := "(I)V" } : Jvm.MethodName)) ∈ zT := zT_in (z_c2 (List.mem_of_getElem? (i := 138) (by decide +kernel))) (by decide +kernel)
theorem hw_2_77 : (Jvm.Cond.fieldLink "ReceiptLeft$Row" (17 : Nat) "ReceiptLeft$Row" "width" "I") ∈ zT := zT_in (z_c2 (List.mem_of_getElem? (i := 77) (by decide +kernel))) (by decide +kernel)
theorem hw_2_82 : (Jvm.Cond.fieldLink "ReceiptLeft$Row" (13 : Nat) "ReceiptLeft$Row" "numbers" "[J") ∈ zT := zT_in (z_c2 (List.mem_of_getElem? (i := 82) (by decide +kernel))) (by decide +kernel)
theorem hw_5_163 : (Jvm.Cond.static ({ cls := "java/util/Arrays", name := "fill", desc := "([JJ)V" } : Jvm.MethodName)) ∈ zT := zT_in (z_c5 (List.mem_of_getElem? (i := 163) (by decide +kernel))) (by decide +kernel)
theorem hw_1_13 : (Jvm.Cond.initialized "java/util/Arrays") ∈ zT := zT_in (z_c1 (List.mem_of_getElem? (i := 13) (by decide +kernel))) (by decide +kernel)
theorem hw_5_164 : (Jvm.Cond.code ({ cls := "java/util/Arrays", name := "fill", desc := "([JJ)V" } : Jvm.MethodName) prog_20_method_101_code (5 : Nat) (Option.none : Option Jvm.ClassFile.FieldType)) ∈ zT := zT_in (z_c5 (List.mem_of_getElem? (i := 164) (by decide +kernel))) (by decide +kernel)
theorem hmJ7_fill_d0a16 : Cond.static yJ7_fill_d0a16 ∈ zT ∧ Cond.initialized yJ7_fill_d0a16.cls ∈ zT ∧ Cond.code yJ7_fill_d0a16 cJ7_fill_d0a16 5 none ∈ zT := ⟨hw_5_163, hw_1_13, hw_5_164⟩
theorem hw_5_162 : (Jvm.Cond.methodLink "ReceiptLeft$Row" (20 : Nat) ({ cls := "java/util/Arrays", name := "fill", desc := "([JJ)V" } : Jvm.MethodName)) ∈ zT := zT_in (z_c5 (List.mem_of_getElem? (i := 162) (by decide +kernel))) (by decide +kernel)
theorem hw_5_159 : (Jvm.Cond.instanceMethod ({ cls := "ReceiptLeft$Row", name := "begin", desc := "(II)V" } : Jvm.MethodName)) ∈ zT := zT_in (z_c5 (List.mem_of_getElem? (i := 159) (by decide +kernel))) (by decide +kernel)
theorem hw_5_160 : (Jvm.Cond.selects "ReceiptLeft$Row" ({ cls := "ReceiptLeft$Row", name := "begin", desc := "(II)V" } : Jvm.MethodName) ({ cls := "ReceiptLeft$Row", name := "begin", desc := "(II)V" } : Jvm.MethodName)) ∈ zT := zT_in (z_c5 (List.mem_of_getElem? (i := 160) (by decide +kernel))) (by decide +kernel)
theorem hw_5_161 : (Jvm.Cond.code ({ cls := "ReceiptLeft$Row", name := "begin", desc := "(II)V" } : Jvm.MethodName) prog_8_method_3_code (3 : Nat) (Option.none : Option Jvm.ClassFile.FieldType)) ∈ zT := zT_in (z_c5 (List.mem_of_getElem? (i := 161) (by decide +kernel))) (by decide +kernel)
theorem hmX6_begin : Cond.instanceMethod yX6_begin ∈ zT ∧ Cond.selects "ReceiptLeft$Row" yX6_begin yX6_begin ∈ zT ∧ Cond.initialized yX6_begin.cls ∈ zT ∧ Cond.code yX6_begin cX6_begin 3 none ∈ zT := ⟨hw_5_159, hw_5_160, hw_1_11, hw_5_161⟩
theorem hw_5_158 : (Jvm.Cond.methodLink "ReceiptLeft" (370 : Nat) ({ cls := "ReceiptLeft$Row", name := "begin", desc := "(II)V" } : Jvm.MethodName)) ∈ zT := zT_in (z_c5 (List.mem_of_getElem? (i := 158) (by decide +kernel))) (by decide +kernel)
theorem hw_1_67 : (Jvm.Cond.fieldLink "ReceiptLeft$City" (24 : Nat) "ReceiptLeft$City" "lines" "I") ∈ zT := zT_in (z_c1 (List.mem_of_getElem? (i := 67) (by decide +kernel))) (by decide +kernel)
theorem hw_1_70 : (Jvm.Cond.fieldLink "ReceiptLeft$City" (28 : Nat) "ReceiptLeft$City" "eats" "I") ∈ zT := zT_in (z_c1 (List.mem_of_getElem? (i := 70) (by decide +kernel))) (by decide +kernel)
theorem hw_1_74 : (Jvm.Cond.fieldLink "ReceiptLeft$City" (31 : Nat) "ReceiptLeft$City" "carry" "I") ∈ zT := zT_in (z_c1 (List.mem_of_getElem? (i := 74) (by decide +kernel))) (by decide +kernel)
theorem hw_1_78 : (Jvm.Cond.fieldLink "ReceiptLeft$City" (34 : Nat) "ReceiptLeft$City" "odds" "I") ∈ zT := zT_in (z_c1 (List.mem_of_getElem? (i := 78) (by decide +kernel))) (by decide +kernel)
theorem hw_1_81 : (Jvm.Cond.fieldLink "ReceiptLeft$City" (37 : Nat) "ReceiptLeft$City" "houses" "I") ∈ zT := zT_in (z_c1 (List.mem_of_getElem? (i := 81) (by decide +kernel))) (by decide +kernel)
theorem hw_1_87 : (Jvm.Cond.fieldLink "ReceiptLeft$City" (40 : Nat) "ReceiptLeft$City" "things" "I") ∈ zT := zT_in (z_c1 (List.mem_of_getElem? (i := 87) (by decide +kernel))) (by decide +kernel)
theorem hw_1_95 : (Jvm.Cond.fieldLink "ReceiptLeft$City" (43 : Nat) "ReceiptLeft$City" "locked" "I") ∈ zT := zT_in (z_c1 (List.mem_of_getElem? (i := 95) (by decide +kernel))) (by decide +kernel)
theorem hw_1_97 : (Jvm.Cond.fieldLink "ReceiptLeft$City" (9 : Nat) "ReceiptLeft$City" "purse" "[I") ∈ zT := zT_in (z_c1 (List.mem_of_getElem? (i := 97) (by decide +kernel))) (by decide +kernel)
theorem hw_3_44 : (Jvm.Cond.native ({ cls := "java/lang/System", name := "arraycopy", desc := "(Ljava/lang/Object;ILjava/lang/Object;II)V" } : Jvm.MethodName)) ∈ zT := zT_in (z_c3 (List.mem_of_getElem? (i := 44) (by decide +kernel))) (by decide +kernel)
theorem hw_3_43 : (Jvm.Cond.static ({ cls := "java/lang/System", name := "arraycopy", desc := "(Ljava/lang/Object;ILjava/lang/Object;II)V" } : Jvm.MethodName)) ∈ zT := zT_in (z_c3 (List.mem_of_getElem? (i := 43) (by decide +kernel))) (by decide +kernel)
theorem hw_1_18 : (Jvm.Cond.initialized "java/lang/System") ∈ zT := zT_in (z_c1 (List.mem_of_getElem? (i := 18) (by decide +kernel))) (by decide +kernel)
theorem hw_3_42 : (Jvm.Cond.methodLink "ReceiptLeft$City" (52 : Nat) ({ cls := "java/lang/System", name := "arraycopy", desc := "(Ljava/lang/Object;ILjava/lang/Object;II)V" } : Jvm.MethodName)) ∈ zT := zT_in (z_c3 (List.mem_of_getElem? (i := 42) (by decide +kernel))) (by decide +kernel)
theorem hw_1_100 : (Jvm.Cond.fieldLink "ReceiptLeft$City" (15 : Nat) "ReceiptLeft$City" "at" "[I") ∈ zT := zT_in (z_c1 (List.mem_of_getElem? (i := 100) (by decide +kernel))) (by decide +kernel)
theorem hw_1_104 : (Jvm.Cond.fieldLink "ReceiptLeft$City" (18 : Nat) "ReceiptLeft$City" "worth" "[I") ∈ zT := zT_in (z_c1 (List.mem_of_getElem? (i := 104) (by decide +kernel))) (by decide +kernel)
theorem hw_1_109 : (Jvm.Cond.fieldLink "ReceiptLeft$City" (21 : Nat) "ReceiptLeft$City" "more" "[I") ∈ zT := zT_in (z_c1 (List.mem_of_getElem? (i := 109) (by decide +kernel))) (by decide +kernel)
theorem hw_1_140 : (Jvm.Cond.fieldLink "ReceiptLeft$Acts" (15 : Nat) "ReceiptLeft$Acts" "count" "I") ∈ zT := zT_in (z_c1 (List.mem_of_getElem? (i := 140) (by decide +kernel))) (by decide +kernel)
theorem hw_1_142 : (Jvm.Cond.fieldLink "ReceiptLeft$Acts" (11 : Nat) "ReceiptLeft$Acts" "told" "[I") ∈ zT := zT_in (z_c1 (List.mem_of_getElem? (i := 142) (by decide +kernel))) (by decide +kernel)
theorem hw_5_149 : (Jvm.Cond.methodLink "ReceiptLeft$Acts" (19 : Nat) ({ cls := "java/lang/System", name := "arraycopy", desc := "(Ljava/lang/Object;ILjava/lang/Object;II)V" } : Jvm.MethodName)) ∈ zT := zT_in (z_c5 (List.mem_of_getElem? (i := 149) (by decide +kernel))) (by decide +kernel)
theorem hw_2_62 : (Jvm.Cond.fieldLink "ReceiptLeft" (362 : Nat) "ReceiptLeft$Image" "city" "LReceiptLeft$City;") ∈ zT := zT_in (z_c2 (List.mem_of_getElem? (i := 62) (by decide +kernel))) (by decide +kernel)
theorem hw_3_39 : (Jvm.Cond.instanceMethod ({ cls := "ReceiptLeft$City", name := "copyFrom", desc := "(LReceiptLeft$City;)V" } : Jvm.MethodName)) ∈ zT := zT_in (z_c3 (List.mem_of_getElem? (i := 39) (by decide +kernel))) (by decide +kernel)
theorem hw_3_40 : (Jvm.Cond.selects "ReceiptLeft$City" ({ cls := "ReceiptLeft$City", name := "copyFrom", desc := "(LReceiptLeft$City;)V" } : Jvm.MethodName) ({ cls := "ReceiptLeft$City", name := "copyFrom", desc := "(LReceiptLeft$City;)V" } : Jvm.MethodName)) ∈ zT := zT_in (z_c3 (List.mem_of_getElem? (i := 40) (by decide +kernel))) (by decide +kernel)
theorem hw_1_3 : (Jvm.Cond.initialized "ReceiptLeft$City") ∈ zT := zT_in (z_c1 (List.mem_of_getElem? (i := 3) (by decide +kernel))) (by decide +kernel)
theorem hw_3_41 : (Jvm.Cond.code ({ cls := "ReceiptLeft$City", name := "copyFrom", desc := "(LReceiptLeft$City;)V" } : Jvm.MethodName) prog_4_method_3_code (2 : Nat) (Option.none : Option Jvm.ClassFile.FieldType)) ∈ zT := zT_in (z_c3 (List.mem_of_getElem? (i := 41) (by decide +kernel))) (by decide +kernel)
theorem hmX2_copyFrom : Cond.instanceMethod yX2_copyFrom ∈ zT ∧ Cond.selects "ReceiptLeft$City" yX2_copyFrom yX2_copyFrom ∈ zT ∧ Cond.initialized yX2_copyFrom.cls ∈ zT ∧ Cond.code yX2_copyFrom cX2_copyFrom 2 none ∈ zT := ⟨hw_3_39, hw_3_40, hw_1_3, hw_3_41⟩
theorem hw_3_38 : (Jvm.Cond.methodLink "ReceiptLeft" (103 : Nat) ({ cls := "ReceiptLeft$City", name := "copyFrom", desc := "(LReceiptLeft$City;)V" } : Jvm.MethodName)) ∈ zT := zT_in (z_c3 (List.mem_of_getElem? (i := 38) (by decide +kernel))) (by decide +kernel)
theorem hw_2_64 : (Jvm.Cond.fieldLink "ReceiptLeft" (363 : Nat) "ReceiptLeft$Image" "acts" "LReceiptLeft$Acts;") ∈ zT := zT_in (z_c2 (List.mem_of_getElem? (i := 64) (by decide +kernel))) (by decide +kernel)
theorem hw_5_146 : (Jvm.Cond.instanceMethod ({ cls := "ReceiptLeft$Acts", name := "copyFrom", desc := "(LReceiptLeft$Acts;)V" } : Jvm.MethodName)) ∈ zT := zT_in (z_c5 (List.mem_of_getElem? (i := 146) (by decide +kernel))) (by decide +kernel)
theorem hw_5_147 : (Jvm.Cond.selects "ReceiptLeft$Acts" ({ cls := "ReceiptLeft$Acts", name := "copyFrom", desc := "(LReceiptLeft$Acts;)V" } : Jvm.MethodName) ({ cls := "ReceiptLeft$Acts", name := "copyFrom", desc := "(LReceiptLeft$Acts;)V" } : Jvm.MethodName)) ∈ zT := zT_in (z_c5 (List.mem_of_getElem? (i := 147) (by decide +kernel))) (by decide +kernel)
theorem hw_1_4 : (Jvm.Cond.initialized "ReceiptLeft$Acts") ∈ zT := zT_in (z_c1 (List.mem_of_getElem? (i := 4) (by decide +kernel))) (by decide +kernel)
theorem hw_5_148 : (Jvm.Cond.code ({ cls := "ReceiptLeft$Acts", name := "copyFrom", desc := "(LReceiptLeft$Acts;)V" } : Jvm.MethodName) prog_2_method_3_code (2 : Nat) (Option.none : Option Jvm.ClassFile.FieldType)) ∈ zT := zT_in (z_c5 (List.mem_of_getElem? (i := 148) (by decide +kernel))) (by decide +kernel)
theorem hmX0_copyFrom : Cond.instanceMethod yX0_copyFrom ∈ zT ∧ Cond.selects "ReceiptLeft$Acts" yX0_copyFrom yX0_copyFrom ∈ zT ∧ Cond.initialized yX0_copyFrom.cls ∈ zT ∧ Cond.code yX0_copyFrom cX0_copyFrom 2 none ∈ zT := ⟨hw_5_146, hw_5_147, hw_1_4, hw_5_148⟩
theorem hw_5_145 : (Jvm.Cond.methodLink "ReceiptLeft" (364 : Nat) ({ cls := "ReceiptLeft$Acts", name := "copyFrom", desc := "(LReceiptLeft$Acts;)V" } : Jvm.MethodName)) ∈ zT := zT_in (z_c5 (List.mem_of_getElem? (i := 145) (by decide +kernel))) (by decide +kernel)
theorem hw_2_159 : (Jvm.Cond.static ({ cls := "java/util/Arrays", name := "fill", desc := "([II)V" } : Jvm.MethodName)) ∈ zT := zT_in (z_c2 (List.mem_of_getElem? (i := 159) (by decide +kernel))) (by decide +kernel)
theorem hw_2_160 : (Jvm.Cond.code ({ cls := "java/util/Arrays", name := "fill", desc := "([II)V" } : Jvm.MethodName) prog_20_method_103_code (4 : Nat) (Option.none : Option Jvm.ClassFile.FieldType)) ∈ zT := zT_in (z_c2 (List.mem_of_getElem? (i := 160) (by decide +kernel))) (by decide +kernel)
theorem hmJ7_fill_53178 : Cond.static yJ7_fill_53178 ∈ zT ∧ Cond.initialized yJ7_fill_53178.cls ∈ zT ∧ Cond.code yJ7_fill_53178 cJ7_fill_53178 4 none ∈ zT := ⟨hw_2_159, hw_1_13, hw_2_160⟩
theorem hw_2_158 : (Jvm.Cond.methodLink "ReceiptLeft$City" (46 : Nat) ({ cls := "java/util/Arrays", name := "fill", desc := "([II)V" } : Jvm.MethodName)) ∈ zT := zT_in (z_c2 (List.mem_of_getElem? (i := 158) (by decide +kernel))) (by decide +kernel)
theorem hw_1_44 : (Jvm.Cond.fieldLink "ReceiptLeft$Tape" (30 : Nat) "ReceiptLeft$Tape" "behind" "I") ∈ zT := zT_in (z_c1 (List.mem_of_getElem? (i := 44) (by decide +kernel))) (by decide +kernel)
theorem hw_1_43 : (Jvm.Cond.fieldLink "ReceiptLeft$Tape" (125 : Nat) "ReceiptLeft$Tape" "start" "I") ∈ zT := zT_in (z_c1 (List.mem_of_getElem? (i := 43) (by decide +kernel))) (by decide +kernel)
theorem hw_1_42 : (Jvm.Cond.fieldLink "ReceiptLeft$Tape" (36 : Nat) "ReceiptLeft$Tape" "token" "I") ∈ zT := zT_in (z_c1 (List.mem_of_getElem? (i := 42) (by decide +kernel))) (by decide +kernel)
theorem hw_2_155 : (Jvm.Cond.instanceMethod ({ cls := "ReceiptLeft$City", name := "clear", desc := "()V" } : Jvm.MethodName)) ∈ zT := zT_in (z_c2 (List.mem_of_getElem? (i := 155) (by decide +kernel))) (by decide +kernel)
theorem hw_2_156 : (Jvm.Cond.selects "ReceiptLeft$City" ({ cls := "ReceiptLeft$City", name := "clear", desc := "()V" } : Jvm.MethodName) ({ cls := "ReceiptLeft$City", name := "clear", desc := "()V" } : Jvm.MethodName)) ∈ zT := zT_in (z_c2 (List.mem_of_getElem? (i := 156) (by decide +kernel))) (by decide +kernel)
theorem hw_2_157 : (Jvm.Cond.code ({ cls := "ReceiptLeft$City", name := "clear", desc := "()V" } : Jvm.MethodName) prog_4_method_2_code (1 : Nat) (Option.none : Option Jvm.ClassFile.FieldType)) ∈ zT := zT_in (z_c2 (List.mem_of_getElem? (i := 157) (by decide +kernel))) (by decide +kernel)
theorem hmX2_clear : Cond.instanceMethod yX2_clear ∈ zT ∧ Cond.selects "ReceiptLeft$City" yX2_clear yX2_clear ∈ zT ∧ Cond.initialized yX2_clear.cls ∈ zT ∧ Cond.code yX2_clear cX2_clear 1 none ∈ zT := ⟨hw_2_155, hw_2_156, hw_1_3, hw_2_157⟩
theorem hw_2_154 : (Jvm.Cond.methodLink "ReceiptLeft$Tape" (22 : Nat) ({ cls := "ReceiptLeft$City", name := "clear", desc := "()V" } : Jvm.MethodName)) ∈ zT := zT_in (z_c2 (List.mem_of_getElem? (i := 154) (by decide +kernel))) (by decide +kernel)
theorem hw_1_38 : (Jvm.Cond.fieldLink "ReceiptLeft$Tape" (27 : Nat) "ReceiptLeft$Tape" "faultKind" "I") ∈ zT := zT_in (z_c1 (List.mem_of_getElem? (i := 38) (by decide +kernel))) (by decide +kernel)
theorem hw_1_40 : (Jvm.Cond.fieldLink "ReceiptLeft$Tape" (15 : Nat) "ReceiptLeft$Tape" "faultPlace" "I") ∈ zT := zT_in (z_c1 (List.mem_of_getElem? (i := 40) (by decide +kernel))) (by decide +kernel)
theorem hw_2_163 : (Jvm.Cond.instanceMethod ({ cls := "ReceiptLeft$Tape", name := "step", desc := "()V" } : Jvm.MethodName)) ∈ zT := zT_in (z_c2 (List.mem_of_getElem? (i := 163) (by decide +kernel))) (by decide +kernel)
theorem hs_195 : Cond.selects "ReceiptLeft$Tape" ⟨"ReceiptLeft$Tape", "step", "()V"⟩ ⟨"ReceiptLeft$Tape", "step", "()V"⟩ ∈ zT := zT_in (z_c0 (by decide +kernel)) (by decide +kernel)
theorem hw_2_164 : (Jvm.Cond.code ({ cls := "ReceiptLeft$Tape", name := "step", desc := "()V" } : Jvm.MethodName) prog_9_method_14_code (1 : Nat) (Option.none : Option Jvm.ClassFile.FieldType)) ∈ zT := zT_in (z_c2 (List.mem_of_getElem? (i := 164) (by decide +kernel))) (by decide +kernel)
theorem hmX7_step : Cond.instanceMethod yX7_step ∈ zT ∧ Cond.selects "ReceiptLeft$Tape" yX7_step yX7_step ∈ zT ∧ Cond.initialized yX7_step.cls ∈ zT ∧ Cond.code yX7_step cX7_step 1 none ∈ zT := ⟨hw_2_163, hs_195, hw_1_2, hw_2_164⟩
theorem hw_2_161 : (Jvm.Cond.methodLink "ReceiptLeft$Tape" (33 : Nat) ({ cls := "ReceiptLeft$Tape", name := "step", desc := "()V" } : Jvm.MethodName)) ∈ zT := zT_in (z_c2 (List.mem_of_getElem? (i := 161) (by decide +kernel))) (by decide +kernel)
theorem hw_1_157 : (Jvm.Cond.fieldLink "ReceiptLeft$World" (49 : Nat) "ReceiptLeft$World" "day" "I") ∈ zT := zT_in (z_c1 (List.mem_of_getElem? (i := 157) (by decide +kernel))) (by decide +kernel)
theorem hw_1_159 : (Jvm.Cond.fieldLink "ReceiptLeft$World" (53 : Nat) "ReceiptLeft$World" "papers" "I") ∈ zT := zT_in (z_c1 (List.mem_of_getElem? (i := 159) (by decide +kernel))) (by decide +kernel)
theorem hw_1_154 : (Jvm.Cond.fieldLink "ReceiptLeft$World" (45 : Nat) "ReceiptLeft$World" "city" "LReceiptLeft$City;") ∈ zT := zT_in (z_c1 (List.mem_of_getElem? (i := 154) (by decide +kernel))) (by decide +kernel)
theorem hw_1_94 : (Jvm.Cond.fieldLink "ReceiptLeft$World" (56 : Nat) "ReceiptLeft$City" "locked" "I") ∈ zT := zT_in (z_c1 (List.mem_of_getElem? (i := 94) (by decide +kernel))) (by decide +kernel)
theorem hw_1_163 : (Jvm.Cond.fieldLink "ReceiptLeft$World" (61 : Nat) "ReceiptLeft$World" "locked" "I") ∈ zT := zT_in (z_c1 (List.mem_of_getElem? (i := 163) (by decide +kernel))) (by decide +kernel)
theorem hw_1_98 : (Jvm.Cond.fieldLink "ReceiptLeft$World" (62 : Nat) "ReceiptLeft$City" "purse" "[I") ∈ zT := zT_in (z_c1 (List.mem_of_getElem? (i := 98) (by decide +kernel))) (by decide +kernel)
theorem hw_1_164 : (Jvm.Cond.fieldLink "ReceiptLeft$World" (9 : Nat) "ReceiptLeft$World" "purses" "[I") ∈ zT := zT_in (z_c1 (List.mem_of_getElem? (i := 164) (by decide +kernel))) (by decide +kernel)
theorem hw_3_49 : (Jvm.Cond.methodLink "ReceiptLeft$World" (65 : Nat) ({ cls := "java/lang/System", name := "arraycopy", desc := "(Ljava/lang/Object;ILjava/lang/Object;II)V" } : Jvm.MethodName)) ∈ zT := zT_in (z_c3 (List.mem_of_getElem? (i := 49) (by decide +kernel))) (by decide +kernel)
theorem hw_1_101 : (Jvm.Cond.fieldLink "ReceiptLeft$World" (71 : Nat) "ReceiptLeft$City" "at" "[I") ∈ zT := zT_in (z_c1 (List.mem_of_getElem? (i := 101) (by decide +kernel))) (by decide +kernel)
theorem hw_1_166 : (Jvm.Cond.fieldLink "ReceiptLeft$World" (15 : Nat) "ReceiptLeft$World" "place" "[I") ∈ zT := zT_in (z_c1 (List.mem_of_getElem? (i := 166) (by decide +kernel))) (by decide +kernel)
theorem hw_1_169 : (Jvm.Cond.fieldLink "ReceiptLeft$World" (18 : Nat) "ReceiptLeft$World" "moves" "[I") ∈ zT := zT_in (z_c1 (List.mem_of_getElem? (i := 169) (by decide +kernel))) (by decide +kernel)
theorem hw_3_50 : (Jvm.Cond.methodLink "ReceiptLeft$World" (74 : Nat) ({ cls := "java/util/Arrays", name := "fill", desc := "([II)V" } : Jvm.MethodName)) ∈ zT := zT_in (z_c3 (List.mem_of_getElem? (i := 50) (by decide +kernel))) (by decide +kernel)
theorem hw_1_187 : (Jvm.Cond.fieldLink "ReceiptLeft$World" (36 : Nat) "ReceiptLeft$World" "stations" "[I") ∈ zT := zT_in (z_c1 (List.mem_of_getElem? (i := 187) (by decide +kernel))) (by decide +kernel)
theorem hw_2_95 : (Jvm.Cond.fieldLink "ReceiptLeft" (23 : Nat) "ReceiptLeft" "draft" "LReceiptLeft$City;") ∈ zT := zT_in (z_c2 (List.mem_of_getElem? (i := 95) (by decide +kernel))) (by decide +kernel)
theorem hw_2_151 : (Jvm.Cond.instanceMethod ({ cls := "ReceiptLeft$Tape", name := "read", desc := "(LReceiptLeft$City;)Z" } : Jvm.MethodName)) ∈ zT := zT_in (z_c2 (List.mem_of_getElem? (i := 151) (by decide +kernel))) (by decide +kernel)
theorem hw_2_152 : (Jvm.Cond.selects "ReceiptLeft$Tape" ({ cls := "ReceiptLeft$Tape", name := "read", desc := "(LReceiptLeft$City;)Z" } : Jvm.MethodName) ({ cls := "ReceiptLeft$Tape", name := "read", desc := "(LReceiptLeft$City;)Z" } : Jvm.MethodName)) ∈ zT := zT_in (z_c2 (List.mem_of_getElem? (i := 152) (by decide +kernel))) (by decide +kernel)
theorem hw_2_153 : (Jvm.Cond.code ({ cls := "ReceiptLeft$Tape", name := "read", desc := "(LReceiptLeft$City;)Z" } : Jvm.MethodName) prog_9_method_4_code (3 : Nat) (Option.some Jvm.ClassFile.FieldType.boolean)) ∈ zT := zT_in (z_c2 (List.mem_of_getElem? (i := 153) (by decide +kernel))) (by decide +kernel)
theorem hmX7_read : Cond.instanceMethod yX7_read ∈ zT ∧ Cond.selects "ReceiptLeft$Tape" yX7_read yX7_read ∈ zT ∧ Cond.initialized yX7_read.cls ∈ zT ∧ Cond.code yX7_read cX7_read 3 (some .boolean) ∈ zT := ⟨hw_2_151, hw_2_152, hw_1_2, hw_2_153⟩
theorem hw_2_150 : (Jvm.Cond.methodLink "ReceiptLeft" (99 : Nat) ({ cls := "ReceiptLeft$Tape", name := "read", desc := "(LReceiptLeft$City;)Z" } : Jvm.MethodName)) ∈ zT := zT_in (z_c2 (List.mem_of_getElem? (i := 150) (by decide +kernel))) (by decide +kernel)
theorem hw_3_46 : (Jvm.Cond.instanceMethod ({ cls := "ReceiptLeft$World", name := "begin", desc := "()V" } : Jvm.MethodName)) ∈ zT := zT_in (z_c3 (List.mem_of_getElem? (i := 46) (by decide +kernel))) (by decide +kernel)
theorem hw_3_47 : (Jvm.Cond.selects "ReceiptLeft$World" ({ cls := "ReceiptLeft$World", name := "begin", desc := "()V" } : Jvm.MethodName) ({ cls := "ReceiptLeft$World", name := "begin", desc := "()V" } : Jvm.MethodName)) ∈ zT := zT_in (z_c3 (List.mem_of_getElem? (i := 47) (by decide +kernel))) (by decide +kernel)
theorem hw_1_5 : (Jvm.Cond.initialized "ReceiptLeft$World") ∈ zT := zT_in (z_c1 (List.mem_of_getElem? (i := 5) (by decide +kernel))) (by decide +kernel)
theorem hw_3_48 : (Jvm.Cond.code ({ cls := "ReceiptLeft$World", name := "begin", desc := "()V" } : Jvm.MethodName) prog_11_method_2_code (2 : Nat) (Option.none : Option Jvm.ClassFile.FieldType)) ∈ zT := zT_in (z_c3 (List.mem_of_getElem? (i := 48) (by decide +kernel))) (by decide +kernel)
theorem hmX9_begin : Cond.instanceMethod yX9_begin ∈ zT ∧ Cond.selects "ReceiptLeft$World" yX9_begin yX9_begin ∈ zT ∧ Cond.initialized yX9_begin.cls ∈ zT ∧ Cond.code yX9_begin cX9_begin 2 none ∈ zT := ⟨hw_3_46, hw_3_47, hw_1_5, hw_3_48⟩
theorem hw_3_45 : (Jvm.Cond.methodLink "ReceiptLeft" (109 : Nat) ({ cls := "ReceiptLeft$World", name := "begin", desc := "()V" } : Jvm.MethodName)) ∈ zT := zT_in (z_c3 (List.mem_of_getElem? (i := 45) (by decide +kernel))) (by decide +kernel)
end
section
theorem dX11_in_0 : decode cX11_in 0 = .ok (.lload_n 0, 1) := by decide +kernel
theorem dX11_in_1 : decode cX11_in 1 = .ok (.lload_n 2, 1) := by decide +kernel
theorem dX11_in_2 : decode cX11_in 2 = .ok (.lcmp, 1) := by decide +kernel
theorem dX11_in_3 : decode cX11_in 3 = .ok (.ifCond .lt 14, 3) := by decide +kernel
theorem dX11_in_17 : decode cX11_in 17 = .ok (.iconst 0, 1) := by decide +kernel
theorem dX11_in_18 : decode cX11_in 18 = .ok (.ireturn, 1) := by decide +kernel
theorem dX11_in_6 : decode cX11_in 6 = .ok (.lload_n 0, 1) := by decide +kernel
theorem dX11_in_7 : decode cX11_in 7 = .ok (.lload 4, 2) := by decide +kernel
theorem dX11_in_9 : decode cX11_in 9 = .ok (.lcmp, 1) := by decide +kernel
theorem dX11_in_10 : decode cX11_in 10 = .ok (.ifCond .gt 7, 3) := by decide +kernel
theorem dX11_in_13 : decode cX11_in 13 = .ok (.iconst 1, 1) := by decide +kernel
theorem dX11_in_14 : decode cX11_in 14 = .ok (.goto 4, 3) := by decide +kernel
theorem dX11_isCity_0 : decode cX11_isCity 0 = .ok (.aload_n 0, 1) := by decide +kernel
theorem dX11_isCity_1 : decode cX11_isCity 1 = .ok (.getfield 9, 3) := by decide +kernel
theorem dX11_isCity_4 : decode cX11_isCity 4 = .ok (.iconst 5, 1) := by decide +kernel
theorem dX11_isCity_5 : decode cX11_isCity 5 = .ok (.iaload, 1) := by decide +kernel
theorem dX11_isCity_6 : decode cX11_isCity 6 = .ok (.ifCond .le 7, 3) := by decide +kernel
theorem dX11_isCity_13 : decode cX11_isCity 13 = .ok (.iconst 0, 1) := by decide +kernel
theorem dX11_isCity_14 : decode cX11_isCity 14 = .ok (.ireturn, 1) := by decide +kernel
theorem dX11_isHouse_0 : decode cX11_isHouse 0 = .ok (.lload_n 1, 1) := by decide +kernel
theorem dX11_isHouse_1 : decode cX11_isHouse 1 = .ok (.lconst 0, 1) := by decide +kernel
theorem dX11_isHouse_2 : decode cX11_isHouse 2 = .ok (.aload_n 0, 1) := by decide +kernel
theorem dX11_isHouse_3 : decode cX11_isHouse 3 = .ok (.getfield 9, 3) := by decide +kernel
theorem dX11_isHouse_6 : decode cX11_isHouse 6 = .ok (.iconst 3, 1) := by decide +kernel
theorem dX11_isHouse_7 : decode cX11_isHouse 7 = .ok (.iaload, 1) := by decide +kernel
theorem dX11_isHouse_8 : decode cX11_isHouse 8 = .ok (.iconst 1, 1) := by decide +kernel
theorem dX11_isHouse_9 : decode cX11_isHouse 9 = .ok (.isub, 1) := by decide +kernel
theorem dX11_isHouse_10 : decode cX11_isHouse 10 = .ok (.i2l, 1) := by decide +kernel
theorem dX11_isHouse_11 : decode cX11_isHouse 11 = .ok (.invokestatic 94, 3) := by decide +kernel
theorem dX11_isHouse_14 : decode cX11_isHouse 14 = .ok (.ireturn, 1) := by decide +kernel
theorem dX11_isThing_0 : decode cX11_isThing 0 = .ok (.lload_n 1, 1) := by decide +kernel
theorem dX11_isThing_1 : decode cX11_isThing 1 = .ok (.lconst 0, 1) := by decide +kernel
theorem dX11_isThing_2 : decode cX11_isThing 2 = .ok (.aload_n 0, 1) := by decide +kernel
theorem dX11_isThing_3 : decode cX11_isThing 3 = .ok (.getfield 9, 3) := by decide +kernel
theorem dX11_isThing_6 : decode cX11_isThing 6 = .ok (.iconst 4, 1) := by decide +kernel
theorem dX11_isThing_7 : decode cX11_isThing 7 = .ok (.iaload, 1) := by decide +kernel
theorem dX11_isThing_8 : decode cX11_isThing 8 = .ok (.iconst 1, 1) := by decide +kernel
theorem dX11_isThing_9 : decode cX11_isThing 9 = .ok (.isub, 1) := by decide +kernel
theorem dX11_isThing_10 : decode cX11_isThing 10 = .ok (.i2l, 1) := by decide +kernel
theorem dX11_isThing_11 : decode cX11_isThing 11 = .ok (.invokestatic 94, 3) := by decide +kernel
theorem dX11_isThing_14 : decode cX11_isThing 14 = .ok (.ireturn, 1) := by decide +kernel
theorem dX11_house_0 : decode cX11_house 0 = .ok (.aload_n 0, 1) := by decide +kernel
theorem dX11_house_1 : decode cX11_house 1 = .ok (.iload_n 1, 1) := by decide +kernel
theorem dX11_house_2 : decode cX11_house 2 = .ok (.i2l, 1) := by decide +kernel
theorem dX11_house_3 : decode cX11_house 3 = .ok (.invokevirtual 257, 3) := by decide +kernel
theorem dX11_house_6 : decode cX11_house 6 = .ok (.ifCond .eq 15, 3) := by decide +kernel
theorem dX11_house_21 : decode cX11_house 21 = .ok (.bipush (-2), 2) := by decide +kernel
theorem dX11_house_23 : decode cX11_house 23 = .ok (.ireturn, 1) := by decide +kernel
theorem dX11_thing_0 : decode cX11_thing 0 = .ok (.aload_n 0, 1) := by decide +kernel
theorem dX11_thing_1 : decode cX11_thing 1 = .ok (.iload_n 1, 1) := by decide +kernel
theorem dX11_thing_2 : decode cX11_thing 2 = .ok (.i2l, 1) := by decide +kernel
theorem dX11_thing_3 : decode cX11_thing 3 = .ok (.invokevirtual 266, 3) := by decide +kernel
theorem dX11_thing_6 : decode cX11_thing 6 = .ok (.ifCond .eq 15, 3) := by decide +kernel
theorem dX11_thing_21 : decode cX11_thing 21 = .ok (.bipush (-2), 2) := by decide +kernel
theorem dX11_thing_23 : decode cX11_thing 23 = .ok (.ireturn, 1) := by decide +kernel
theorem dX11_value_0 : decode cX11_value 0 = .ok (.aload_n 0, 1) := by decide +kernel
theorem dX11_value_1 : decode cX11_value 1 = .ok (.iload_n 1, 1) := by decide +kernel
theorem dX11_value_2 : decode cX11_value 2 = .ok (.i2l, 1) := by decide +kernel
theorem dX11_value_3 : decode cX11_value 3 = .ok (.invokevirtual 257, 3) := by decide +kernel
theorem dX11_value_6 : decode cX11_value 6 = .ok (.ifCond .eq 21, 3) := by decide +kernel
theorem dX11_value_27 : decode cX11_value 27 = .ok (.bipush (-2), 2) := by decide +kernel
theorem dX11_value_29 : decode cX11_value 29 = .ok (.ireturn, 1) := by decide +kernel
theorem dX11_net_0 : decode cX11_net 0 = .ok (.aload_n 0, 1) := by decide +kernel
theorem dX11_net_1 : decode cX11_net 1 = .ok (.iload_n 1, 1) := by decide +kernel
theorem dX11_net_2 : decode cX11_net 2 = .ok (.i2l, 1) := by decide +kernel
theorem dX11_net_3 : decode cX11_net 3 = .ok (.invokevirtual 257, 3) := by decide +kernel
theorem dX11_net_6 : decode cX11_net 6 = .ok (.ifCond .ne 7, 3) := by decide +kernel
theorem dX11_net_9 : decode cX11_net 9 = .ok (.ldc_w 275, 3) := by decide +kernel
theorem dX11_net_12 : decode cX11_net 12 = .ok (.ireturn, 1) := by decide +kernel
theorem dX11_steal_0 : decode cX11_steal 0 = .ok (.aload_n 0, 1) := by decide +kernel
theorem dX11_steal_1 : decode cX11_steal 1 = .ok (.iload_n 1, 1) := by decide +kernel
theorem dX11_steal_2 : decode cX11_steal 2 = .ok (.i2l, 1) := by decide +kernel
theorem dX11_steal_3 : decode cX11_steal 3 = .ok (.invokevirtual 257, 3) := by decide +kernel
theorem dX11_steal_6 : decode cX11_steal 6 = .ok (.ifCond .eq 24, 3) := by decide +kernel
theorem dX11_steal_30 : decode cX11_steal 30 = .ok (.bipush (-2), 2) := by decide +kernel
theorem dX11_steal_32 : decode cX11_steal 32 = .ok (.ireturn, 1) := by decide +kernel
theorem dX11_lock_0 : decode cX11_lock 0 = .ok (.aload_n 0, 1) := by decide +kernel
theorem dX11_lock_1 : decode cX11_lock 1 = .ok (.iload_n 1, 1) := by decide +kernel
theorem dX11_lock_2 : decode cX11_lock 2 = .ok (.i2l, 1) := by decide +kernel
theorem dX11_lock_3 : decode cX11_lock 3 = .ok (.invokevirtual 257, 3) := by decide +kernel
theorem dX11_lock_6 : decode cX11_lock 6 = .ok (.ifCond .eq 13, 3) := by decide +kernel
theorem dX11_lock_19 : decode cX11_lock 19 = .ok (.bipush (-2), 2) := by decide +kernel
theorem dX11_lock_21 : decode cX11_lock 21 = .ok (.ireturn, 1) := by decide +kernel
theorem dX11_night_0 : decode cX11_night 0 = .ok (.aload_n 0, 1) := by decide +kernel
theorem dX11_night_1 : decode cX11_night 1 = .ok (.invokevirtual 295, 3) := by decide +kernel
theorem dX11_night_4 : decode cX11_night 4 = .ok (.ifCond .ne 6, 3) := by decide +kernel
theorem dX11_night_7 : decode cX11_night 7 = .ok (.bipush (-2), 2) := by decide +kernel
theorem dX11_night_9 : decode cX11_night 9 = .ok (.ireturn, 1) := by decide +kernel
theorem dX11_undo_0 : decode cX11_undo 0 = .ok (.aload_n 0, 1) := by decide +kernel
theorem dX11_undo_1 : decode cX11_undo 1 = .ok (.invokevirtual 295, 3) := by decide +kernel
theorem dX11_undo_4 : decode cX11_undo 4 = .ok (.ifCond .ne 6, 3) := by decide +kernel
theorem dX11_undo_7 : decode cX11_undo 7 = .ok (.bipush (-2), 2) := by decide +kernel
theorem dX11_undo_9 : decode cX11_undo 9 = .ok (.ireturn, 1) := by decide +kernel
theorem dX11_anew_0 : decode cX11_anew 0 = .ok (.aload_n 0, 1) := by decide +kernel
theorem dX11_anew_1 : decode cX11_anew 1 = .ok (.invokevirtual 295, 3) := by decide +kernel
theorem dX11_anew_4 : decode cX11_anew 4 = .ok (.ifCond .ne 6, 3) := by decide +kernel
theorem dX11_anew_7 : decode cX11_anew 7 = .ok (.bipush (-2), 2) := by decide +kernel
theorem dX11_anew_9 : decode cX11_anew 9 = .ok (.ireturn, 1) := by decide +kernel
theorem dX11_now_0 : decode cX11_now 0 = .ok (.aload_n 0, 1) := by decide +kernel
theorem dX11_now_1 : decode cX11_now 1 = .ok (.invokevirtual 295, 3) := by decide +kernel
theorem dX11_now_4 : decode cX11_now 4 = .ok (.ifCond .eq 15, 3) := by decide +kernel
theorem dX11_now_19 : decode cX11_now 19 = .ok (.bipush (-2), 2) := by decide +kernel
theorem dX11_now_21 : decode cX11_now 21 = .ok (.ireturn, 1) := by decide +kernel
theorem dX11_owner_0 : decode cX11_owner 0 = .ok (.aload_n 0, 1) := by decide +kernel
theorem dX11_owner_1 : decode cX11_owner 1 = .ok (.iload_n 1, 1) := by decide +kernel
theorem dX11_owner_2 : decode cX11_owner 2 = .ok (.i2l, 1) := by decide +kernel
theorem dX11_owner_3 : decode cX11_owner 3 = .ok (.invokevirtual 266, 3) := by decide +kernel
theorem dX11_owner_6 : decode cX11_owner 6 = .ok (.ifCond .ne 6, 3) := by decide +kernel
theorem dX11_owner_9 : decode cX11_owner 9 = .ok (.bipush (-2), 2) := by decide +kernel
theorem dX11_owner_11 : decode cX11_owner 11 = .ok (.ireturn, 1) := by decide +kernel
theorem dX11_chain_0 : decode cX11_chain 0 = .ok (.aload_n 0, 1) := by decide +kernel
theorem dX11_chain_1 : decode cX11_chain 1 = .ok (.iload_n 1, 1) := by decide +kernel
theorem dX11_chain_2 : decode cX11_chain 2 = .ok (.i2l, 1) := by decide +kernel
theorem dX11_chain_3 : decode cX11_chain 3 = .ok (.invokevirtual 266, 3) := by decide +kernel
theorem dX11_chain_6 : decode cX11_chain 6 = .ok (.ifCond .ne 6, 3) := by decide +kernel
theorem dX11_chain_9 : decode cX11_chain 9 = .ok (.bipush (-2), 2) := by decide +kernel
theorem dX11_chain_11 : decode cX11_chain 11 = .ok (.ireturn, 1) := by decide +kernel
theorem dX11_rings_0 : decode cX11_rings 0 = .ok (.aload_n 0, 1) := by decide +kernel
theorem dX11_rings_1 : decode cX11_rings 1 = .ok (.invokevirtual 295, 3) := by decide +kernel
theorem dX11_rings_4 : decode cX11_rings 4 = .ok (.ifCond .ne 6, 3) := by decide +kernel
theorem dX11_rings_7 : decode cX11_rings 7 = .ok (.bipush (-2), 2) := by decide +kernel
theorem dX11_rings_9 : decode cX11_rings 9 = .ok (.ireturn, 1) := by decide +kernel
theorem dX11_owns_0 : decode cX11_owns 0 = .ok (.aload_n 0, 1) := by decide +kernel
theorem dX11_owns_1 : decode cX11_owns 1 = .ok (.iload_n 1, 1) := by decide +kernel
theorem dX11_owns_2 : decode cX11_owns 2 = .ok (.i2l, 1) := by decide +kernel
theorem dX11_owns_3 : decode cX11_owns 3 = .ok (.invokevirtual 257, 3) := by decide +kernel
theorem dX11_owns_6 : decode cX11_owns 6 = .ok (.ifCond .ne 6, 3) := by decide +kernel
theorem dX11_owns_9 : decode cX11_owns 9 = .ok (.bipush (-2), 2) := by decide +kernel
theorem dX11_owns_11 : decode cX11_owns 11 = .ok (.ireturn, 1) := by decide +kernel
theorem dX11_twice_0 : decode cX11_twice 0 = .ok (.aload_n 0, 1) := by decide +kernel
theorem dX11_twice_1 : decode cX11_twice 1 = .ok (.invokevirtual 295, 3) := by decide +kernel
theorem dX11_twice_4 : decode cX11_twice 4 = .ok (.ifCond .ne 6, 3) := by decide +kernel
theorem dX11_twice_7 : decode cX11_twice 7 = .ok (.bipush (-2), 2) := by decide +kernel
theorem dX11_twice_9 : decode cX11_twice 9 = .ok (.ireturn, 1) := by decide +kernel
theorem dX11_strikes_0 : decode cX11_strikes 0 = .ok (.aload_n 0, 1) := by decide +kernel
theorem dX11_strikes_1 : decode cX11_strikes 1 = .ok (.invokevirtual 295, 3) := by decide +kernel
theorem dX11_strikes_4 : decode cX11_strikes 4 = .ok (.ifCond .eq 13, 3) := by decide +kernel
theorem dX11_strikes_17 : decode cX11_strikes 17 = .ok (.bipush (-2), 2) := by decide +kernel
theorem dX11_strikes_19 : decode cX11_strikes 19 = .ok (.ireturn, 1) := by decide +kernel
theorem dX11_struck_0 : decode cX11_struck 0 = .ok (.aload_n 0, 1) := by decide +kernel
theorem dX11_struck_1 : decode cX11_struck 1 = .ok (.invokevirtual 295, 3) := by decide +kernel
theorem dX11_struck_4 : decode cX11_struck 4 = .ok (.ifCond .eq 10, 3) := by decide +kernel
theorem dX11_struck_14 : decode cX11_struck 14 = .ok (.bipush (-2), 2) := by decide +kernel
theorem dX11_struck_16 : decode cX11_struck 16 = .ok (.ireturn, 1) := by decide +kernel
theorem dX11_trail_0 : decode cX11_trail 0 = .ok (.aload_n 0, 1) := by decide +kernel
theorem dX11_trail_1 : decode cX11_trail 1 = .ok (.iload_n 1, 1) := by decide +kernel
theorem dX11_trail_2 : decode cX11_trail 2 = .ok (.i2l, 1) := by decide +kernel
theorem dX11_trail_3 : decode cX11_trail 3 = .ok (.invokevirtual 266, 3) := by decide +kernel
theorem dX11_trail_6 : decode cX11_trail 6 = .ok (.ifCond .ne 6, 3) := by decide +kernel
theorem dX11_trail_9 : decode cX11_trail 9 = .ok (.bipush (-2), 2) := by decide +kernel
theorem dX11_trail_11 : decode cX11_trail 11 = .ok (.ireturn, 1) := by decide +kernel
theorem dX11_went_0 : decode cX11_went 0 = .ok (.aload_n 0, 1) := by decide +kernel
theorem dX11_went_1 : decode cX11_went 1 = .ok (.iload_n 1, 1) := by decide +kernel
theorem dX11_went_2 : decode cX11_went 2 = .ok (.i2l, 1) := by decide +kernel
theorem dX11_went_3 : decode cX11_went 3 = .ok (.invokevirtual 266, 3) := by decide +kernel
theorem dX11_went_6 : decode cX11_went 6 = .ok (.ifCond .ne 6, 3) := by decide +kernel
theorem dX11_went_9 : decode cX11_went 9 = .ok (.bipush (-2), 2) := by decide +kernel
theorem dX11_went_11 : decode cX11_went 11 = .ok (.ireturn, 1) := by decide +kernel
theorem dX11_lies_0 : decode cX11_lies 0 = .ok (.aload_n 0, 1) := by decide +kernel
theorem dX11_lies_1 : decode cX11_lies 1 = .ok (.iload_n 1, 1) := by decide +kernel
theorem dX11_lies_2 : decode cX11_lies 2 = .ok (.i2l, 1) := by decide +kernel
theorem dX11_lies_3 : decode cX11_lies 3 = .ok (.invokevirtual 257, 3) := by decide +kernel
theorem dX11_lies_6 : decode cX11_lies 6 = .ok (.ifCond .ne 6, 3) := by decide +kernel
theorem dX11_lies_9 : decode cX11_lies 9 = .ok (.bipush (-2), 2) := by decide +kernel
theorem dX11_lies_11 : decode cX11_lies 11 = .ok (.ireturn, 1) := by decide +kernel
theorem dX11_poorest_0 : decode cX11_poorest 0 = .ok (.aload_n 0, 1) := by decide +kernel
theorem dX11_poorest_1 : decode cX11_poorest 1 = .ok (.invokevirtual 295, 3) := by decide +kernel
theorem dX11_poorest_4 : decode cX11_poorest 4 = .ok (.ifCond .ne 6, 3) := by decide +kernel
theorem dX11_poorest_7 : decode cX11_poorest 7 = .ok (.bipush (-2), 2) := by decide +kernel
theorem dX11_poorest_9 : decode cX11_poorest 9 = .ok (.ireturn, 1) := by decide +kernel
theorem dX11_due_0 : decode cX11_due 0 = .ok (.aload_n 0, 1) := by decide +kernel
theorem dX11_due_1 : decode cX11_due 1 = .ok (.invokevirtual 295, 3) := by decide +kernel
theorem dX11_due_4 : decode cX11_due 4 = .ok (.ifCond .eq 15, 3) := by decide +kernel
theorem dX11_due_19 : decode cX11_due 19 = .ok (.bipush (-2), 2) := by decide +kernel
theorem dX11_due_21 : decode cX11_due 21 = .ok (.ireturn, 1) := by decide +kernel
theorem dX11_monday_0 : decode cX11_monday 0 = .ok (.aload_n 0, 1) := by decide +kernel
theorem dX11_monday_1 : decode cX11_monday 1 = .ok (.invokevirtual 295, 3) := by decide +kernel
theorem dX11_monday_4 : decode cX11_monday 4 = .ok (.ifCond .ne 6, 3) := by decide +kernel
theorem dX11_monday_7 : decode cX11_monday 7 = .ok (.bipush (-2), 2) := by decide +kernel
theorem dX11_monday_9 : decode cX11_monday 9 = .ok (.ireturn, 1) := by decide +kernel
theorem dX11_lacks_0 : decode cX11_lacks 0 = .ok (.aload_n 0, 1) := by decide +kernel
theorem dX11_lacks_1 : decode cX11_lacks 1 = .ok (.iload_n 1, 1) := by decide +kernel
theorem dX11_lacks_2 : decode cX11_lacks 2 = .ok (.i2l, 1) := by decide +kernel
theorem dX11_lacks_3 : decode cX11_lacks 3 = .ok (.invokevirtual 257, 3) := by decide +kernel
theorem dX11_lacks_6 : decode cX11_lacks 6 = .ok (.ifCond .ne 6, 3) := by decide +kernel
theorem dX11_lacks_9 : decode cX11_lacks 9 = .ok (.bipush (-2), 2) := by decide +kernel
theorem dX11_lacks_11 : decode cX11_lacks 11 = .ok (.ireturn, 1) := by decide +kernel
theorem dX11_needs__0 : decode cX11_needs_ 0 = .ok (.aload_n 0, 1) := by decide +kernel
theorem dX11_needs__1 : decode cX11_needs_ 1 = .ok (.iload_n 1, 1) := by decide +kernel
theorem dX11_needs__2 : decode cX11_needs_ 2 = .ok (.i2l, 1) := by decide +kernel
theorem dX11_needs__3 : decode cX11_needs_ 3 = .ok (.invokevirtual 257, 3) := by decide +kernel
theorem dX11_needs__6 : decode cX11_needs_ 6 = .ok (.ifCond .ne 6, 3) := by decide +kernel
theorem dX11_needs__9 : decode cX11_needs_ 9 = .ok (.bipush (-2), 2) := by decide +kernel
theorem dX11_needs__11 : decode cX11_needs_ 11 = .ok (.ireturn, 1) := by decide +kernel
theorem dX11_fails_0 : decode cX11_fails 0 = .ok (.aload_n 0, 1) := by decide +kernel
theorem dX11_fails_1 : decode cX11_fails 1 = .ok (.invokevirtual 295, 3) := by decide +kernel
theorem dX11_fails_4 : decode cX11_fails 4 = .ok (.ifCond .eq 18, 3) := by decide +kernel
theorem dX11_fails_22 : decode cX11_fails 22 = .ok (.bipush (-2), 2) := by decide +kernel
theorem dX11_fails_24 : decode cX11_fails 24 = .ok (.ireturn, 1) := by decide +kernel
theorem dX11_later_0 : decode cX11_later 0 = .ok (.aload_n 0, 1) := by decide +kernel
theorem dX11_later_1 : decode cX11_later 1 = .ok (.iload_n 1, 1) := by decide +kernel
theorem dX11_later_2 : decode cX11_later 2 = .ok (.i2l, 1) := by decide +kernel
theorem dX11_later_3 : decode cX11_later 3 = .ok (.invokevirtual 266, 3) := by decide +kernel
theorem dX11_later_6 : decode cX11_later 6 = .ok (.ifCond .eq 10, 3) := by decide +kernel
theorem dX11_later_16 : decode cX11_later 16 = .ok (.bipush (-2), 2) := by decide +kernel
theorem dX11_later_18 : decode cX11_later 18 = .ok (.ireturn, 1) := by decide +kernel
theorem dX11_purse_0 : decode cX11_purse 0 = .ok (.aload_n 0, 1) := by decide +kernel
theorem dX11_purse_1 : decode cX11_purse 1 = .ok (.iload_n 1, 1) := by decide +kernel
theorem dX11_purse_2 : decode cX11_purse 2 = .ok (.i2l, 1) := by decide +kernel
theorem dX11_purse_3 : decode cX11_purse 3 = .ok (.invokevirtual 257, 3) := by decide +kernel
theorem dX11_purse_6 : decode cX11_purse 6 = .ok (.ifCond .eq 10, 3) := by decide +kernel
theorem dX11_purse_16 : decode cX11_purse 16 = .ok (.bipush (-2), 2) := by decide +kernel
theorem dX11_purse_18 : decode cX11_purse 18 = .ok (.ireturn, 1) := by decide +kernel
theorem dX11_run_0 : decode cX11_run 0 = .ok (.aload_n 0, 1) := by decide +kernel
theorem dX11_run_1 : decode cX11_run 1 = .ok (.invokevirtual 295, 3) := by decide +kernel
theorem dX11_run_4 : decode cX11_run 4 = .ok (.ifCond .ne 6, 3) := by decide +kernel
theorem dX11_run_7 : decode cX11_run 7 = .ok (.bipush (-2), 2) := by decide +kernel
theorem dX11_run_9 : decode cX11_run 9 = .ok (.ireturn, 1) := by decide +kernel
theorem dX11_hit_0 : decode cX11_hit 0 = .ok (.aload_n 0, 1) := by decide +kernel
theorem dX11_hit_1 : decode cX11_hit 1 = .ok (.iload_n 1, 1) := by decide +kernel
theorem dX11_hit_2 : decode cX11_hit 2 = .ok (.i2l, 1) := by decide +kernel
theorem dX11_hit_3 : decode cX11_hit 3 = .ok (.invokevirtual 257, 3) := by decide +kernel
theorem dX11_hit_6 : decode cX11_hit 6 = .ok (.ifCond .eq 11, 3) := by decide +kernel
theorem dX11_hit_17 : decode cX11_hit 17 = .ok (.bipush (-2), 2) := by decide +kernel
theorem dX11_hit_19 : decode cX11_hit 19 = .ok (.ireturn, 1) := by decide +kernel
theorem dX11_hits_0 : decode cX11_hits 0 = .ok (.aload_n 0, 1) := by decide +kernel
theorem dX11_hits_1 : decode cX11_hits 1 = .ok (.iload_n 1, 1) := by decide +kernel
theorem dX11_hits_2 : decode cX11_hits 2 = .ok (.i2l, 1) := by decide +kernel
theorem dX11_hits_3 : decode cX11_hits 3 = .ok (.invokevirtual 257, 3) := by decide +kernel
theorem dX11_hits_6 : decode cX11_hits 6 = .ok (.ifCond .ne 6, 3) := by decide +kernel
theorem dX11_hits_9 : decode cX11_hits 9 = .ok (.bipush (-2), 2) := by decide +kernel
theorem dX11_hits_11 : decode cX11_hits 11 = .ok (.ireturn, 1) := by decide +kernel
theorem dX11_plan_0 : decode cX11_plan 0 = .ok (.aload_n 0, 1) := by decide +kernel
theorem dX11_plan_1 : decode cX11_plan 1 = .ok (.iload_n 1, 1) := by decide +kernel
theorem dX11_plan_2 : decode cX11_plan 2 = .ok (.i2l, 1) := by decide +kernel
theorem dX11_plan_3 : decode cX11_plan 3 = .ok (.invokevirtual 257, 3) := by decide +kernel
theorem dX11_plan_6 : decode cX11_plan 6 = .ok (.ifCond .eq 10, 3) := by decide +kernel
theorem dX11_plan_16 : decode cX11_plan 16 = .ok (.bipush (-2), 2) := by decide +kernel
theorem dX11_plan_18 : decode cX11_plan 18 = .ok (.ireturn, 1) := by decide +kernel
theorem dX11_plans_0 : decode cX11_plans 0 = .ok (.aload_n 0, 1) := by decide +kernel
theorem dX11_plans_1 : decode cX11_plans 1 = .ok (.iload_n 1, 1) := by decide +kernel
theorem dX11_plans_2 : decode cX11_plans 2 = .ok (.i2l, 1) := by decide +kernel
theorem dX11_plans_3 : decode cX11_plans 3 = .ok (.invokevirtual 257, 3) := by decide +kernel
theorem dX11_plans_6 : decode cX11_plans 6 = .ok (.ifCond .eq 10, 3) := by decide +kernel
theorem dX11_plans_16 : decode cX11_plans 16 = .ok (.bipush (-2), 2) := by decide +kernel
theorem dX11_plans_18 : decode cX11_plans 18 = .ok (.ireturn, 1) := by decide +kernel
theorem dX11_change_0 : decode cX11_change 0 = .ok (.aload_n 0, 1) := by decide +kernel
theorem dX11_change_1 : decode cX11_change 1 = .ok (.iload_n 1, 1) := by decide +kernel
theorem dX11_change_2 : decode cX11_change 2 = .ok (.i2l, 1) := by decide +kernel
theorem dX11_change_3 : decode cX11_change 3 = .ok (.invokevirtual 257, 3) := by decide +kernel
theorem dX11_change_6 : decode cX11_change 6 = .ok (.ifCond .eq 17, 3) := by decide +kernel
theorem dX11_change_23 : decode cX11_change 23 = .ok (.bipush (-2), 2) := by decide +kernel
theorem dX11_change_25 : decode cX11_change 25 = .ok (.ireturn, 1) := by decide +kernel
theorem dX11_deal_0 : decode cX11_deal 0 = .ok (.aload_n 0, 1) := by decide +kernel
theorem dX11_deal_1 : decode cX11_deal 1 = .ok (.invokevirtual 295, 3) := by decide +kernel
theorem dX11_deal_4 : decode cX11_deal 4 = .ok (.ifCond .eq 10, 3) := by decide +kernel
theorem dX11_deal_14 : decode cX11_deal 14 = .ok (.bipush (-2), 2) := by decide +kernel
theorem dX11_deal_16 : decode cX11_deal 16 = .ok (.ireturn, 1) := by decide +kernel
theorem dX11_deals_0 : decode cX11_deals 0 = .ok (.aload_n 0, 1) := by decide +kernel
theorem dX11_deals_1 : decode cX11_deals 1 = .ok (.iload_n 1, 1) := by decide +kernel
theorem dX11_deals_2 : decode cX11_deals 2 = .ok (.i2l, 1) := by decide +kernel
theorem dX11_deals_3 : decode cX11_deals 3 = .ok (.invokevirtual 266, 3) := by decide +kernel
theorem dX11_deals_6 : decode cX11_deals 6 = .ok (.ifCond .ne 6, 3) := by decide +kernel
theorem dX11_deals_9 : decode cX11_deals 9 = .ok (.bipush (-2), 2) := by decide +kernel
theorem dX11_deals_11 : decode cX11_deals 11 = .ok (.ireturn, 1) := by decide +kernel
theorem dX11_dear_0 : decode cX11_dear 0 = .ok (.aload_n 0, 1) := by decide +kernel
theorem dX11_dear_1 : decode cX11_dear 1 = .ok (.invokevirtual 295, 3) := by decide +kernel
theorem dX11_dear_4 : decode cX11_dear 4 = .ok (.ifCond .ne 6, 3) := by decide +kernel
theorem dX11_dear_7 : decode cX11_dear 7 = .ok (.bipush (-2), 2) := by decide +kernel
theorem dX11_dear_9 : decode cX11_dear 9 = .ok (.ireturn, 1) := by decide +kernel
theorem dX11_rate_0 : decode cX11_rate 0 = .ok (.aload_n 0, 1) := by decide +kernel
theorem dX11_rate_1 : decode cX11_rate 1 = .ok (.iload_n 1, 1) := by decide +kernel
theorem dX11_rate_2 : decode cX11_rate 2 = .ok (.i2l, 1) := by decide +kernel
theorem dX11_rate_3 : decode cX11_rate 3 = .ok (.invokevirtual 266, 3) := by decide +kernel
theorem dX11_rate_6 : decode cX11_rate 6 = .ok (.ifCond .eq 31, 3) := by decide +kernel
theorem dX11_rate_37 : decode cX11_rate 37 = .ok (.bipush (-2), 2) := by decide +kernel
theorem dX11_rate_39 : decode cX11_rate 39 = .ok (.ireturn, 1) := by decide +kernel
theorem dX11_want_0 : decode cX11_want 0 = .ok (.aload_n 0, 1) := by decide +kernel
theorem dX11_want_1 : decode cX11_want 1 = .ok (.iload_n 1, 1) := by decide +kernel
theorem dX11_want_2 : decode cX11_want 2 = .ok (.i2l, 1) := by decide +kernel
theorem dX11_want_3 : decode cX11_want 3 = .ok (.invokevirtual 257, 3) := by decide +kernel
theorem dX11_want_6 : decode cX11_want 6 = .ok (.ifCond .eq 41, 3) := by decide +kernel
theorem dX11_want_47 : decode cX11_want 47 = .ok (.bipush (-2), 2) := by decide +kernel
theorem dX11_want_49 : decode cX11_want 49 = .ok (.ireturn, 1) := by decide +kernel
theorem dX11_asItIs_0 : decode cX11_asItIs 0 = .ok (.aload_n 0, 1) := by decide +kernel
theorem dX11_asItIs_1 : decode cX11_asItIs 1 = .ok (.iconst 0, 1) := by decide +kernel
theorem dX11_asItIs_2 : decode cX11_asItIs 2 = .ok (.putfield 208, 3) := by decide +kernel
theorem dX11_asItIs_5 : decode cX11_asItIs 5 = .ok (.aload_n 0, 1) := by decide +kernel
theorem dX11_asItIs_6 : decode cX11_asItIs 6 = .ok (.iconst 0, 1) := by decide +kernel
theorem dX11_asItIs_7 : decode cX11_asItIs 7 = .ok (.putfield 211, 3) := by decide +kernel
theorem dX11_asItIs_10 : decode cX11_asItIs 10 = .ok (.aload_n 0, 1) := by decide +kernel
theorem dX11_asItIs_11 : decode cX11_asItIs 11 = .ok (.iconst (-1), 1) := by decide +kernel
theorem dX11_asItIs_12 : decode cX11_asItIs 12 = .ok (.putfield 214, 3) := by decide +kernel
theorem dX11_asItIs_15 : decode cX11_asItIs 15 = .ok (.iconst 0, 1) := by decide +kernel
theorem dX11_asItIs_16 : decode cX11_asItIs 16 = .ok (.istore_n 1, 1) := by decide +kernel
theorem dX11_asItIs_17 : decode cX11_asItIs 17 = .ok (.iload_n 1, 1) := by decide +kernel
theorem dX11_asItIs_18 : decode cX11_asItIs 18 = .ok (.iconst 5, 1) := by decide +kernel
theorem dX11_asItIs_19 : decode cX11_asItIs 19 = .ok (.if_icmp .ge 45, 3) := by decide +kernel
theorem dX11_asItIs_22 : decode cX11_asItIs 22 = .ok (.aload_n 0, 1) := by decide +kernel
theorem dX11_asItIs_23 : decode cX11_asItIs 23 = .ok (.getfield 34, 3) := by decide +kernel
theorem dX11_asItIs_26 : decode cX11_asItIs 26 = .ok (.iload_n 1, 1) := by decide +kernel
theorem dX11_asItIs_27 : decode cX11_asItIs 27 = .ok (.aload_n 0, 1) := by decide +kernel
theorem dX11_asItIs_28 : decode cX11_asItIs 28 = .ok (.getfield 9, 3) := by decide +kernel
theorem dX11_asItIs_31 : decode cX11_asItIs 31 = .ok (.bipush 7, 2) := by decide +kernel
theorem dX11_asItIs_33 : decode cX11_asItIs 33 = .ok (.iconst 2, 1) := by decide +kernel
theorem dX11_asItIs_34 : decode cX11_asItIs 34 = .ok (.iload_n 1, 1) := by decide +kernel
theorem dX11_asItIs_35 : decode cX11_asItIs 35 = .ok (.imul, 1) := by decide +kernel
theorem dX11_asItIs_36 : decode cX11_asItIs 36 = .ok (.iadd, 1) := by decide +kernel
theorem dX11_asItIs_37 : decode cX11_asItIs 37 = .ok (.iaload, 1) := by decide +kernel
theorem dX11_asItIs_38 : decode cX11_asItIs 38 = .ok (.iastore, 1) := by decide +kernel
theorem dX11_asItIs_39 : decode cX11_asItIs 39 = .ok (.aload_n 0, 1) := by decide +kernel
theorem dX11_asItIs_40 : decode cX11_asItIs 40 = .ok (.getfield 37, 3) := by decide +kernel
theorem dX11_asItIs_43 : decode cX11_asItIs 43 = .ok (.iload_n 1, 1) := by decide +kernel
theorem dX11_asItIs_44 : decode cX11_asItIs 44 = .ok (.aload_n 0, 1) := by decide +kernel
theorem dX11_asItIs_45 : decode cX11_asItIs 45 = .ok (.getfield 9, 3) := by decide +kernel
theorem dX11_asItIs_48 : decode cX11_asItIs 48 = .ok (.bipush 7, 2) := by decide +kernel
theorem dX11_asItIs_50 : decode cX11_asItIs 50 = .ok (.iconst 2, 1) := by decide +kernel
theorem dX11_asItIs_51 : decode cX11_asItIs 51 = .ok (.iload_n 1, 1) := by decide +kernel
theorem dX11_asItIs_52 : decode cX11_asItIs 52 = .ok (.imul, 1) := by decide +kernel
theorem dX11_asItIs_53 : decode cX11_asItIs 53 = .ok (.iadd, 1) := by decide +kernel
theorem dX11_asItIs_54 : decode cX11_asItIs 54 = .ok (.iconst 1, 1) := by decide +kernel
theorem dX11_asItIs_55 : decode cX11_asItIs 55 = .ok (.iadd, 1) := by decide +kernel
theorem dX11_asItIs_56 : decode cX11_asItIs 56 = .ok (.iaload, 1) := by decide +kernel
theorem dX11_asItIs_57 : decode cX11_asItIs 57 = .ok (.iastore, 1) := by decide +kernel
theorem dX11_asItIs_58 : decode cX11_asItIs 58 = .ok (.iinc 1 1, 3) := by decide +kernel
theorem dX11_asItIs_61 : decode cX11_asItIs 61 = .ok (.goto (-44), 3) := by decide +kernel
theorem dX11_asItIs_64 : decode cX11_asItIs 64 = .ok (.iconst 0, 1) := by decide +kernel
theorem dX11_asItIs_65 : decode cX11_asItIs 65 = .ok (.istore_n 1, 1) := by decide +kernel
theorem dX11_asItIs_66 : decode cX11_asItIs 66 = .ok (.iload_n 1, 1) := by decide +kernel
theorem dX11_asItIs_67 : decode cX11_asItIs 67 = .ok (.bipush 6, 2) := by decide +kernel
theorem dX11_asItIs_69 : decode cX11_asItIs 69 = .ok (.if_icmp .ge 49, 3) := by decide +kernel
theorem dX11_asItIs_72 : decode cX11_asItIs 72 = .ok (.aload_n 0, 1) := by decide +kernel
theorem dX11_asItIs_73 : decode cX11_asItIs 73 = .ok (.getfield 40, 3) := by decide +kernel
theorem dX11_asItIs_76 : decode cX11_asItIs 76 = .ok (.iload_n 1, 1) := by decide +kernel
theorem dX11_asItIs_77 : decode cX11_asItIs 77 = .ok (.aload_n 0, 1) := by decide +kernel
theorem dX11_asItIs_78 : decode cX11_asItIs 78 = .ok (.getfield 9, 3) := by decide +kernel
theorem dX11_asItIs_81 : decode cX11_asItIs 81 = .ok (.bipush 17, 2) := by decide +kernel
theorem dX11_asItIs_83 : decode cX11_asItIs 83 = .ok (.iconst 2, 1) := by decide +kernel
theorem dX11_asItIs_84 : decode cX11_asItIs 84 = .ok (.iload_n 1, 1) := by decide +kernel
theorem dX11_asItIs_85 : decode cX11_asItIs 85 = .ok (.imul, 1) := by decide +kernel
theorem dX11_asItIs_86 : decode cX11_asItIs 86 = .ok (.iadd, 1) := by decide +kernel
theorem dX11_asItIs_87 : decode cX11_asItIs 87 = .ok (.iaload, 1) := by decide +kernel
theorem dX11_asItIs_88 : decode cX11_asItIs 88 = .ok (.iastore, 1) := by decide +kernel
theorem dX11_asItIs_89 : decode cX11_asItIs 89 = .ok (.aload_n 0, 1) := by decide +kernel
theorem dX11_asItIs_90 : decode cX11_asItIs 90 = .ok (.getfield 64, 3) := by decide +kernel
theorem dX11_asItIs_93 : decode cX11_asItIs 93 = .ok (.iload_n 1, 1) := by decide +kernel
theorem dX11_asItIs_94 : decode cX11_asItIs 94 = .ok (.iconst 1, 1) := by decide +kernel
theorem dX11_asItIs_95 : decode cX11_asItIs 95 = .ok (.iastore, 1) := by decide +kernel
theorem dX11_asItIs_96 : decode cX11_asItIs 96 = .ok (.aload_n 0, 1) := by decide +kernel
theorem dX11_asItIs_97 : decode cX11_asItIs 97 = .ok (.getfield 61, 3) := by decide +kernel
theorem dX11_asItIs_100 : decode cX11_asItIs 100 = .ok (.sipush 146, 3) := by decide +kernel
theorem dX11_asItIs_103 : decode cX11_asItIs 103 = .ok (.iload_n 1, 1) := by decide +kernel
theorem dX11_asItIs_104 : decode cX11_asItIs 104 = .ok (.imul, 1) := by decide +kernel
theorem dX11_asItIs_105 : decode cX11_asItIs 105 = .ok (.aload_n 0, 1) := by decide +kernel
theorem dX11_asItIs_106 : decode cX11_asItIs 106 = .ok (.getfield 40, 3) := by decide +kernel
theorem dX11_asItIs_109 : decode cX11_asItIs 109 = .ok (.iload_n 1, 1) := by decide +kernel
theorem dX11_asItIs_110 : decode cX11_asItIs 110 = .ok (.iaload, 1) := by decide +kernel
theorem dX11_asItIs_111 : decode cX11_asItIs 111 = .ok (.iastore, 1) := by decide +kernel
theorem dX11_asItIs_112 : decode cX11_asItIs 112 = .ok (.iinc 1 1, 3) := by decide +kernel
theorem dX11_asItIs_115 : decode cX11_asItIs 115 = .ok (.goto (-49), 3) := by decide +kernel
theorem dX11_asItIs_118 : decode cX11_asItIs 118 = .ok (.iconst 0, 1) := by decide +kernel
theorem dX11_asItIs_119 : decode cX11_asItIs 119 = .ok (.istore_n 1, 1) := by decide +kernel
theorem dX11_asItIs_120 : decode cX11_asItIs 120 = .ok (.iload_n 1, 1) := by decide +kernel
theorem dX11_asItIs_121 : decode cX11_asItIs 121 = .ok (.aload_n 0, 1) := by decide +kernel
theorem dX11_asItIs_122 : decode cX11_asItIs 122 = .ok (.getfield 9, 3) := by decide +kernel
theorem dX11_asItIs_125 : decode cX11_asItIs 125 = .ok (.bipush 6, 2) := by decide +kernel
theorem dX11_asItIs_127 : decode cX11_asItIs 127 = .ok (.iaload, 1) := by decide +kernel
theorem dX11_asItIs_128 : decode cX11_asItIs 128 = .ok (.if_icmp .ge 22, 3) := by decide +kernel
theorem dX11_asItIs_150 : decode cX11_asItIs 150 = .ok (.return_, 1) := by decide +kernel
theorem dX11_isPaper_0 : decode cX11_isPaper 0 = .ok (.aload_n 0, 1) := by decide +kernel
theorem dX11_isPaper_1 : decode cX11_isPaper 1 = .ok (.invokevirtual 250, 3) := by decide +kernel
theorem dX11_isPaper_4 : decode cX11_isPaper 4 = .ok (.iload_n 1, 1) := by decide +kernel
theorem dX11_isPaper_5 : decode cX11_isPaper 5 = .ok (.i2l, 1) := by decide +kernel
theorem dX11_isPaper_6 : decode cX11_isPaper 6 = .ok (.lconst 0, 1) := by decide +kernel
theorem dX11_isPaper_7 : decode cX11_isPaper 7 = .ok (.aload_n 0, 1) := by decide +kernel
theorem dX11_isPaper_8 : decode cX11_isPaper 8 = .ok (.getfield 208, 3) := by decide +kernel
theorem dX11_isPaper_11 : decode cX11_isPaper 11 = .ok (.iconst 1, 1) := by decide +kernel
theorem dX11_isPaper_12 : decode cX11_isPaper 12 = .ok (.isub, 1) := by decide +kernel
theorem dX11_isPaper_13 : decode cX11_isPaper 13 = .ok (.i2l, 1) := by decide +kernel
theorem dX11_isPaper_14 : decode cX11_isPaper 14 = .ok (.invokestatic 94, 3) := by decide +kernel
theorem dX11_isPaper_17 : decode cX11_isPaper 17 = .ok (.ireturn, 1) := by decide +kernel
theorem dX11_isCost_0 : decode cX11_isCost 0 = .ok (.aload_n 0, 1) := by decide +kernel
theorem dX11_isCost_1 : decode cX11_isCost 1 = .ok (.invokevirtual 250, 3) := by decide +kernel
theorem dX11_isCost_4 : decode cX11_isCost 4 = .ok (.aload_n 0, 1) := by decide +kernel
theorem dX11_isCost_5 : decode cX11_isCost 5 = .ok (.invokevirtual 295, 3) := by decide +kernel
theorem dX11_isCost_8 : decode cX11_isCost 8 = .ok (.ifCond .eq 19, 3) := by decide +kernel
theorem dX11_isCost_27 : decode cX11_isCost 27 = .ok (.iconst 0, 1) := by decide +kernel
theorem dX11_isCost_28 : decode cX11_isCost 28 = .ok (.ireturn, 1) := by decide +kernel
theorem dX11_areDrawn_0 : decode cX11_areDrawn 0 = .ok (.aload_n 0, 1) := by decide +kernel
theorem dX11_areDrawn_1 : decode cX11_areDrawn 1 = .ok (.invokevirtual 295, 3) := by decide +kernel
theorem dX11_areDrawn_4 : decode cX11_areDrawn 4 = .ok (.ifCond .eq 31, 3) := by decide +kernel
theorem dX11_areDrawn_35 : decode cX11_areDrawn 35 = .ok (.iconst 0, 1) := by decide +kernel
theorem dX11_areDrawn_36 : decode cX11_areDrawn 36 = .ok (.ireturn, 1) := by decide +kernel
theorem dX11_isSlot_0 : decode cX11_isSlot 0 = .ok (.iload_n 0, 1) := by decide +kernel
theorem dX11_isSlot_1 : decode cX11_isSlot 1 = .ok (.i2l, 1) := by decide +kernel
theorem dX11_isSlot_2 : decode cX11_isSlot 2 = .ok (.lconst 0, 1) := by decide +kernel
theorem dX11_isSlot_3 : decode cX11_isSlot 3 = .ok (.ldc2_w 298, 3) := by decide +kernel
theorem dX11_isSlot_6 : decode cX11_isSlot 6 = .ok (.invokestatic 94, 3) := by decide +kernel
theorem dX11_isSlot_9 : decode cX11_isSlot 9 = .ok (.ireturn, 1) := by decide +kernel
theorem dX11_asksPapers_0 : decode cX11_asksPapers 0 = .ok (.iload_n 1, 1) := by decide +kernel
theorem dX11_asksPapers_1 : decode cX11_asksPapers 1 = .ok (.invokestatic 397, 3) := by decide +kernel
theorem dX11_asksPapers_4 : decode cX11_asksPapers 4 = .ok (.ifCond .eq 10, 3) := by decide +kernel
theorem dX11_asksPapers_7 : decode cX11_asksPapers 7 = .ok (.aload_n 0, 1) := by decide +kernel
theorem dX11_asksPapers_8 : decode cX11_asksPapers 8 = .ok (.invokevirtual 295, 3) := by decide +kernel
theorem dX11_asksPapers_11 : decode cX11_asksPapers 11 = .ok (.ifCond .ne 6, 3) := by decide +kernel
theorem dX11_asksPapers_14 : decode cX11_asksPapers 14 = .ok (.bipush (-2), 2) := by decide +kernel
theorem dX11_asksPapers_16 : decode cX11_asksPapers 16 = .ok (.ireturn, 1) := by decide +kernel
theorem dX11_paper_0 : decode cX11_paper 0 = .ok (.aload_n 0, 1) := by decide +kernel
theorem dX11_paper_1 : decode cX11_paper 1 = .ok (.iload_n 1, 1) := by decide +kernel
theorem dX11_paper_2 : decode cX11_paper 2 = .ok (.invokevirtual 272, 3) := by decide +kernel
theorem dX11_paper_5 : decode cX11_paper 5 = .ok (.ifCond .eq 15, 3) := by decide +kernel
theorem dX11_paper_20 : decode cX11_paper 20 = .ok (.bipush (-2), 2) := by decide +kernel
theorem dX11_paper_22 : decode cX11_paper 22 = .ok (.ireturn, 1) := by decide +kernel
theorem dX11_price_0 : decode cX11_price 0 = .ok (.aload_n 0, 1) := by decide +kernel
theorem dX11_price_1 : decode cX11_price 1 = .ok (.iload_n 1, 1) := by decide +kernel
theorem dX11_price_2 : decode cX11_price 2 = .ok (.invokevirtual 272, 3) := by decide +kernel
theorem dX11_price_5 : decode cX11_price 5 = .ok (.ifCond .ne 6, 3) := by decide +kernel
theorem dX11_price_8 : decode cX11_price 8 = .ok (.bipush (-2), 2) := by decide +kernel
theorem dX11_price_10 : decode cX11_price 10 = .ok (.ireturn, 1) := by decide +kernel
theorem dX11_sell_0 : decode cX11_sell 0 = .ok (.aload_n 0, 1) := by decide +kernel
theorem dX11_sell_1 : decode cX11_sell 1 = .ok (.iload_n 1, 1) := by decide +kernel
theorem dX11_sell_2 : decode cX11_sell 2 = .ok (.invokevirtual 272, 3) := by decide +kernel
theorem dX11_sell_5 : decode cX11_sell 5 = .ok (.ifCond .eq 12, 3) := by decide +kernel
theorem dX11_sell_17 : decode cX11_sell 17 = .ok (.bipush (-2), 2) := by decide +kernel
theorem dX11_sell_19 : decode cX11_sell 19 = .ok (.ireturn, 1) := by decide +kernel
theorem dX11_brings_0 : decode cX11_brings 0 = .ok (.aload_n 0, 1) := by decide +kernel
theorem dX11_brings_1 : decode cX11_brings 1 = .ok (.iload_n 1, 1) := by decide +kernel
theorem dX11_brings_2 : decode cX11_brings 2 = .ok (.invokevirtual 272, 3) := by decide +kernel
theorem dX11_brings_5 : decode cX11_brings 5 = .ok (.ifCond .ne 6, 3) := by decide +kernel
theorem dX11_brings_8 : decode cX11_brings 8 = .ok (.bipush (-2), 2) := by decide +kernel
theorem dX11_brings_10 : decode cX11_brings 10 = .ok (.ireturn, 1) := by decide +kernel
theorem dX11_strike_0 : decode cX11_strike 0 = .ok (.aload_n 0, 1) := by decide +kernel
theorem dX11_strike_1 : decode cX11_strike 1 = .ok (.iload_n 1, 1) := by decide +kernel
theorem dX11_strike_2 : decode cX11_strike 2 = .ok (.invokevirtual 272, 3) := by decide +kernel
theorem dX11_strike_5 : decode cX11_strike 5 = .ok (.ifCond .ne 6, 3) := by decide +kernel
theorem dX11_strike_8 : decode cX11_strike 8 = .ok (.bipush (-2), 2) := by decide +kernel
theorem dX11_strike_10 : decode cX11_strike 10 = .ok (.ireturn, 1) := by decide +kernel
theorem dX11_rests_0 : decode cX11_rests 0 = .ok (.aload_n 0, 1) := by decide +kernel
theorem dX11_rests_1 : decode cX11_rests 1 = .ok (.iload_n 1, 1) := by decide +kernel
theorem dX11_rests_2 : decode cX11_rests 2 = .ok (.invokevirtual 385, 3) := by decide +kernel
theorem dX11_rests_5 : decode cX11_rests 5 = .ok (.ifCond .ne 6, 3) := by decide +kernel
theorem dX11_rests_8 : decode cX11_rests 8 = .ok (.bipush (-2), 2) := by decide +kernel
theorem dX11_rests_10 : decode cX11_rests 10 = .ok (.ireturn, 1) := by decide +kernel
theorem dX11_rest_0 : decode cX11_rest 0 = .ok (.aload_n 0, 1) := by decide +kernel
theorem dX11_rest_1 : decode cX11_rest 1 = .ok (.iload_n 1, 1) := by decide +kernel
theorem dX11_rest_2 : decode cX11_rest 2 = .ok (.invokevirtual 385, 3) := by decide +kernel
theorem dX11_rest_5 : decode cX11_rest 5 = .ok (.ifCond .ne 6, 3) := by decide +kernel
theorem dX11_rest_8 : decode cX11_rest 8 = .ok (.bipush (-2), 2) := by decide +kernel
theorem dX11_rest_10 : decode cX11_rest 10 = .ok (.ireturn, 1) := by decide +kernel
theorem dX11_wrong_0 : decode cX11_wrong 0 = .ok (.aload_n 0, 1) := by decide +kernel
theorem dX11_wrong_1 : decode cX11_wrong 1 = .ok (.iload_n 1, 1) := by decide +kernel
theorem dX11_wrong_2 : decode cX11_wrong 2 = .ok (.invokevirtual 416, 3) := by decide +kernel
theorem dX11_wrong_5 : decode cX11_wrong 5 = .ok (.istore_n 2, 1) := by decide +kernel
theorem dX11_wrong_6 : decode cX11_wrong 6 = .ok (.iload_n 2, 1) := by decide +kernel
theorem dX11_wrong_7 : decode cX11_wrong 7 = .ok (.ifCond .ge 5, 3) := by decide +kernel
theorem dX11_wrong_10 : decode cX11_wrong 10 = .ok (.iload_n 2, 1) := by decide +kernel
theorem dX11_wrong_11 : decode cX11_wrong 11 = .ok (.ireturn, 1) := by decide +kernel
theorem dX11_forged_0 : decode cX11_forged 0 = .ok (.aload_n 0, 1) := by decide +kernel
theorem dX11_forged_1 : decode cX11_forged 1 = .ok (.iload_n 1, 1) := by decide +kernel
theorem dX11_forged_2 : decode cX11_forged 2 = .ok (.invokevirtual 416, 3) := by decide +kernel
theorem dX11_forged_5 : decode cX11_forged 5 = .ok (.istore_n 2, 1) := by decide +kernel
theorem dX11_forged_6 : decode cX11_forged 6 = .ok (.iload_n 2, 1) := by decide +kernel
theorem dX11_forged_7 : decode cX11_forged 7 = .ok (.ifCond .ge 5, 3) := by decide +kernel
theorem dX11_forged_10 : decode cX11_forged 10 = .ok (.iload_n 2, 1) := by decide +kernel
theorem dX11_forged_11 : decode cX11_forged 11 = .ok (.ireturn, 1) := by decide +kernel
theorem dX11_argued_0 : decode cX11_argued 0 = .ok (.aload_n 0, 1) := by decide +kernel
theorem dX11_argued_1 : decode cX11_argued 1 = .ok (.iload_n 1, 1) := by decide +kernel
theorem dX11_argued_2 : decode cX11_argued 2 = .ok (.invokevirtual 416, 3) := by decide +kernel
theorem dX11_argued_5 : decode cX11_argued 5 = .ok (.istore_n 2, 1) := by decide +kernel
theorem dX11_argued_6 : decode cX11_argued 6 = .ok (.iload_n 2, 1) := by decide +kernel
theorem dX11_argued_7 : decode cX11_argued 7 = .ok (.ifCond .ge 5, 3) := by decide +kernel
theorem dX11_argued_10 : decode cX11_argued 10 = .ok (.iload_n 2, 1) := by decide +kernel
theorem dX11_argued_11 : decode cX11_argued 11 = .ok (.ireturn, 1) := by decide +kernel
theorem dX11_drawn_0 : decode cX11_drawn 0 = .ok (.aload_n 0, 1) := by decide +kernel
theorem dX11_drawn_1 : decode cX11_drawn 1 = .ok (.iload_n 1, 1) := by decide +kernel
theorem dX11_drawn_2 : decode cX11_drawn 2 = .ok (.iload_n 2, 1) := by decide +kernel
theorem dX11_drawn_3 : decode cX11_drawn 3 = .ok (.invokevirtual 441, 3) := by decide +kernel
theorem dX11_drawn_6 : decode cX11_drawn 6 = .ok (.ifCond .eq 15, 3) := by decide +kernel
theorem dX11_drawn_21 : decode cX11_drawn 21 = .ok (.bipush (-2), 2) := by decide +kernel
theorem dX11_drawn_23 : decode cX11_drawn 23 = .ok (.ireturn, 1) := by decide +kernel
theorem dX11_luck_0 : decode cX11_luck 0 = .ok (.aload_n 0, 1) := by decide +kernel
theorem dX11_luck_1 : decode cX11_luck 1 = .ok (.iload_n 1, 1) := by decide +kernel
theorem dX11_luck_2 : decode cX11_luck 2 = .ok (.iload_n 3, 1) := by decide +kernel
theorem dX11_luck_3 : decode cX11_luck 3 = .ok (.invokevirtual 441, 3) := by decide +kernel
theorem dX11_luck_6 : decode cX11_luck 6 = .ok (.ifCond .eq 35, 3) := by decide +kernel
theorem dX11_luck_41 : decode cX11_luck 41 = .ok (.bipush (-2), 2) := by decide +kernel
theorem dX11_luck_43 : decode cX11_luck 43 = .ok (.ireturn, 1) := by decide +kernel
theorem dX11_end_0 : decode cX11_end 0 = .ok (.iload_n 1, 1) := by decide +kernel
theorem dX11_end_1 : decode cX11_end 1 = .ok (.i2l, 1) := by decide +kernel
theorem dX11_end_2 : decode cX11_end 2 = .ok (.lconst 0, 1) := by decide +kernel
theorem dX11_end_3 : decode cX11_end 3 = .ok (.aload_n 0, 1) := by decide +kernel
theorem dX11_end_4 : decode cX11_end 4 = .ok (.getfield 106, 3) := by decide +kernel
theorem dX11_end_7 : decode cX11_end 7 = .ok (.i2l, 1) := by decide +kernel
theorem dX11_end_8 : decode cX11_end 8 = .ok (.invokestatic 94, 3) := by decide +kernel
theorem dX11_end_11 : decode cX11_end 11 = .ok (.ifCond .ne 5, 3) := by decide +kernel
theorem dX11_end_16 : decode cX11_end 16 = .ok (.aload_n 0, 1) := by decide +kernel
theorem dX11_end_17 : decode cX11_end 17 = .ok (.iload_n 1, 1) := by decide +kernel
theorem dX11_end_18 : decode cX11_end 18 = .ok (.putfield 106, 3) := by decide +kernel
theorem dX11_end_21 : decode cX11_end 21 = .ok (.iload_n 1, 1) := by decide +kernel
theorem dX11_end_22 : decode cX11_end 22 = .ok (.ireturn, 1) := by decide +kernel
theorem dX11_end_14 : decode cX11_end 14 = .ok (.iconst (-1), 1) := by decide +kernel
theorem dX11_end_15 : decode cX11_end 15 = .ok (.ireturn, 1) := by decide +kernel
theorem dX11_fault_0 : decode cX11_fault 0 = .ok (.iload_n 1, 1) := by decide +kernel
theorem dX11_fault_1 : decode cX11_fault 1 = .ok (.ifCond .ne 10, 3) := by decide +kernel
theorem dX11_fault_11 : decode cX11_fault 11 = .ok (.iload_n 1, 1) := by decide +kernel
theorem dX11_fault_12 : decode cX11_fault 12 = .ok (.iconst 1, 1) := by decide +kernel
theorem dX11_fault_13 : decode cX11_fault 13 = .ok (.if_icmp .ne 10, 3) := by decide +kernel
theorem dX11_fault_23 : decode cX11_fault 23 = .ok (.iconst (-1), 1) := by decide +kernel
theorem dX11_fault_24 : decode cX11_fault 24 = .ok (.ireturn, 1) := by decide +kernel
theorem dX11_fault_16 : decode cX11_fault 16 = .ok (.aload_n 0, 1) := by decide +kernel
theorem dX11_fault_17 : decode cX11_fault 17 = .ok (.getfield 27, 3) := by decide +kernel
theorem dX11_fault_20 : decode cX11_fault 20 = .ok (.goto 4, 3) := by decide +kernel
theorem dX11_fault_4 : decode cX11_fault 4 = .ok (.aload_n 0, 1) := by decide +kernel
theorem dX11_fault_5 : decode cX11_fault 5 = .ok (.getfield 141, 3) := by decide +kernel
theorem dX11_fault_8 : decode cX11_fault 8 = .ok (.goto 16, 3) := by decide +kernel
theorem dX11_count_0 : decode cX11_count 0 = .ok (.iconst 0, 1) := by decide +kernel
theorem dX11_count_1 : decode cX11_count 1 = .ok (.istore_n 2, 1) := by decide +kernel
theorem dX11_count_2 : decode cX11_count 2 = .ok (.iload_n 1, 1) := by decide +kernel
theorem dX11_count_3 : decode cX11_count 3 = .ok (.tableswitch 150 0 9 #[53, 60, 67, 74, 81, 88, 97, 105, 112, 117], 53) := by decide +kernel
theorem dX11_count_153 : decode cX11_count 153 = .ok (.iconst (-1), 1) := by decide +kernel
theorem dX11_count_154 : decode cX11_count 154 = .ok (.ireturn, 1) := by decide +kernel
theorem dX11_count_56 : decode cX11_count 56 = .ok (.aload_n 0, 1) := by decide +kernel
theorem dX11_count_57 : decode cX11_count 57 = .ok (.getfield 9, 3) := by decide +kernel
theorem dX11_count_60 : decode cX11_count 60 = .ok (.iconst 0, 1) := by decide +kernel
theorem dX11_count_61 : decode cX11_count 61 = .ok (.iaload, 1) := by decide +kernel
theorem dX11_count_62 : decode cX11_count 62 = .ok (.ireturn, 1) := by decide +kernel
theorem dX11_count_63 : decode cX11_count 63 = .ok (.aload_n 0, 1) := by decide +kernel
theorem dX11_count_64 : decode cX11_count 64 = .ok (.getfield 9, 3) := by decide +kernel
theorem dX11_count_67 : decode cX11_count 67 = .ok (.iconst 1, 1) := by decide +kernel
theorem dX11_count_68 : decode cX11_count 68 = .ok (.iaload, 1) := by decide +kernel
theorem dX11_count_69 : decode cX11_count 69 = .ok (.ireturn, 1) := by decide +kernel
theorem dX11_count_70 : decode cX11_count 70 = .ok (.aload_n 0, 1) := by decide +kernel
theorem dX11_count_71 : decode cX11_count 71 = .ok (.getfield 9, 3) := by decide +kernel
theorem dX11_count_74 : decode cX11_count 74 = .ok (.iconst 2, 1) := by decide +kernel
theorem dX11_count_75 : decode cX11_count 75 = .ok (.iaload, 1) := by decide +kernel
theorem dX11_count_76 : decode cX11_count 76 = .ok (.ireturn, 1) := by decide +kernel
theorem dX11_count_77 : decode cX11_count 77 = .ok (.aload_n 0, 1) := by decide +kernel
theorem dX11_count_78 : decode cX11_count 78 = .ok (.getfield 9, 3) := by decide +kernel
theorem dX11_count_81 : decode cX11_count 81 = .ok (.iconst 3, 1) := by decide +kernel
theorem dX11_count_82 : decode cX11_count 82 = .ok (.iaload, 1) := by decide +kernel
theorem dX11_count_83 : decode cX11_count 83 = .ok (.ireturn, 1) := by decide +kernel
theorem dX11_count_84 : decode cX11_count 84 = .ok (.aload_n 0, 1) := by decide +kernel
theorem dX11_count_85 : decode cX11_count 85 = .ok (.getfield 9, 3) := by decide +kernel
theorem dX11_count_88 : decode cX11_count 88 = .ok (.iconst 4, 1) := by decide +kernel
theorem dX11_count_89 : decode cX11_count 89 = .ok (.iaload, 1) := by decide +kernel
theorem dX11_count_90 : decode cX11_count 90 = .ok (.ireturn, 1) := by decide +kernel
theorem dX11_count_91 : decode cX11_count 91 = .ok (.aload_n 0, 1) := by decide +kernel
theorem dX11_count_92 : decode cX11_count 92 = .ok (.invokevirtual 250, 3) := by decide +kernel
theorem dX11_count_95 : decode cX11_count 95 = .ok (.aload_n 0, 1) := by decide +kernel
theorem dX11_count_96 : decode cX11_count 96 = .ok (.getfield 208, 3) := by decide +kernel
theorem dX11_count_99 : decode cX11_count 99 = .ok (.ireturn, 1) := by decide +kernel
theorem dX11_count_100 : decode cX11_count 100 = .ok (.aload_n 0, 1) := by decide +kernel
theorem dX11_count_101 : decode cX11_count 101 = .ok (.getfield 9, 3) := by decide +kernel
theorem dX11_count_104 : decode cX11_count 104 = .ok (.bipush 6, 2) := by decide +kernel
theorem dX11_count_106 : decode cX11_count 106 = .ok (.iaload, 1) := by decide +kernel
theorem dX11_count_107 : decode cX11_count 107 = .ok (.ireturn, 1) := by decide +kernel
theorem dX11_count_108 : decode cX11_count 108 = .ok (.aload_n 0, 1) := by decide +kernel
theorem dX11_count_109 : decode cX11_count 109 = .ok (.getfield 9, 3) := by decide +kernel
theorem dX11_count_112 : decode cX11_count 112 = .ok (.iconst 5, 1) := by decide +kernel
theorem dX11_count_113 : decode cX11_count 113 = .ok (.iaload, 1) := by decide +kernel
theorem dX11_count_114 : decode cX11_count 114 = .ok (.ireturn, 1) := by decide +kernel
theorem dX11_count_115 : decode cX11_count 115 = .ok (.aload_n 0, 1) := by decide +kernel
theorem dX11_count_116 : decode cX11_count 116 = .ok (.getfield 106, 3) := by decide +kernel
theorem dX11_count_119 : decode cX11_count 119 = .ok (.ireturn, 1) := by decide +kernel
theorem dX11_count_120 : decode cX11_count 120 = .ok (.iconst 0, 1) := by decide +kernel
theorem dX11_count_121 : decode cX11_count 121 = .ok (.istore_n 3, 1) := by decide +kernel
theorem dX11_count_122 : decode cX11_count 122 = .ok (.iload_n 3, 1) := by decide +kernel
theorem dX11_count_123 : decode cX11_count 123 = .ok (.iconst 4, 1) := by decide +kernel
theorem dX11_count_124 : decode cX11_count 124 = .ok (.if_icmp .ge 27, 3) := by decide +kernel
theorem dX11_count_127 : decode cX11_count 127 = .ok (.iload_n 2, 1) := by decide +kernel
theorem dX11_count_128 : decode cX11_count 128 = .ok (.aload_n 0, 1) := by decide +kernel
theorem dX11_count_129 : decode cX11_count 129 = .ok (.getfield 76, 3) := by decide +kernel
theorem dX11_count_132 : decode cX11_count 132 = .ok (.iload_n 3, 1) := by decide +kernel
theorem dX11_count_133 : decode cX11_count 133 = .ok (.iaload, 1) := by decide +kernel
theorem dX11_count_134 : decode cX11_count 134 = .ok (.iconst (-1), 1) := by decide +kernel
theorem dX11_count_135 : decode cX11_count 135 = .ok (.if_icmp .ne 7, 3) := by decide +kernel
theorem dX11_count_138 : decode cX11_count 138 = .ok (.iconst 0, 1) := by decide +kernel
theorem dX11_count_139 : decode cX11_count 139 = .ok (.goto 4, 3) := by decide +kernel
theorem dX11_count_143 : decode cX11_count 143 = .ok (.iadd, 1) := by decide +kernel
theorem dX11_count_144 : decode cX11_count 144 = .ok (.istore_n 2, 1) := by decide +kernel
theorem dX11_count_145 : decode cX11_count 145 = .ok (.iinc 3 1, 3) := by decide +kernel
theorem dX11_count_148 : decode cX11_count 148 = .ok (.goto (-26), 3) := by decide +kernel
theorem dX11_count_151 : decode cX11_count 151 = .ok (.iload_n 2, 1) := by decide +kernel
theorem dX11_count_152 : decode cX11_count 152 = .ok (.ireturn, 1) := by decide +kernel
theorem dX11_back_0 : decode cX11_back 0 = .ok (.iload_n 1, 1) := by decide +kernel
theorem dX11_back_1 : decode cX11_back 1 = .ok (.i2l, 1) := by decide +kernel
theorem dX11_back_2 : decode cX11_back 2 = .ok (.lconst 0, 1) := by decide +kernel
theorem dX11_back_3 : decode cX11_back 3 = .ok (.ldc2_w 92, 3) := by decide +kernel
theorem dX11_back_6 : decode cX11_back 6 = .ok (.invokestatic 94, 3) := by decide +kernel
theorem dX11_back_9 : decode cX11_back 9 = .ok (.ifCond .ne 6, 3) := by decide +kernel
theorem dX11_back_15 : decode cX11_back 15 = .ok (.aload_n 0, 1) := by decide +kernel
theorem dX11_back_16 : decode cX11_back 16 = .ok (.getfield 16, 3) := by decide +kernel
theorem dX11_back_19 : decode cX11_back 19 = .ok (.iload_n 1, 1) := by decide +kernel
theorem dX11_back_20 : decode cX11_back 20 = .ok (.baload, 1) := by decide +kernel
theorem dX11_back_21 : decode cX11_back 21 = .ok (.ifCond .ne 6, 3) := by decide +kernel
theorem dX11_back_24 : decode cX11_back 24 = .ok (.bipush (-6), 2) := by decide +kernel
theorem dX11_back_26 : decode cX11_back 26 = .ok (.ireturn, 1) := by decide +kernel
theorem dX11_back_12 : decode cX11_back 12 = .ok (.bipush (-2), 2) := by decide +kernel
theorem dX11_back_14 : decode cX11_back 14 = .ok (.ireturn, 1) := by decide +kernel
theorem dX11_write_0 : decode cX11_write 0 = .ok (.iload_n 1, 1) := by decide +kernel
theorem dX11_write_1 : decode cX11_write 1 = .ok (.invokestatic 397, 3) := by decide +kernel
theorem dX11_write_4 : decode cX11_write 4 = .ok (.ifCond .ne 6, 3) := by decide +kernel
theorem dX11_write_10 : decode cX11_write 10 = .ok (.aload_n 0, 1) := by decide +kernel
theorem dX11_write_11 : decode cX11_write 11 = .ok (.getfield 76, 3) := by decide +kernel
theorem dX11_write_14 : decode cX11_write 14 = .ok (.iload_n 1, 1) := by decide +kernel
theorem dX11_write_15 : decode cX11_write 15 = .ok (.iaload, 1) := by decide +kernel
theorem dX11_write_16 : decode cX11_write 16 = .ok (.iconst (-1), 1) := by decide +kernel
theorem dX11_write_17 : decode cX11_write 17 = .ok (.if_icmp .ne 6, 3) := by decide +kernel
theorem dX11_write_20 : decode cX11_write 20 = .ok (.bipush (-6), 2) := by decide +kernel
theorem dX11_write_22 : decode cX11_write 22 = .ok (.ireturn, 1) := by decide +kernel
theorem dX11_write_7 : decode cX11_write 7 = .ok (.bipush (-2), 2) := by decide +kernel
theorem dX11_write_9 : decode cX11_write 9 = .ok (.ireturn, 1) := by decide +kernel
theorem dX11_paste_0 : decode cX11_paste 0 = .ok (.iload_n 1, 1) := by decide +kernel
theorem dX11_paste_1 : decode cX11_paste 1 = .ok (.invokestatic 397, 3) := by decide +kernel
theorem dX11_paste_4 : decode cX11_paste 4 = .ok (.ifCond .eq 10, 3) := by decide +kernel
theorem dX11_paste_7 : decode cX11_paste 7 = .ok (.iload_n 3, 1) := by decide +kernel
theorem dX11_paste_8 : decode cX11_paste 8 = .ok (.invokestatic 397, 3) := by decide +kernel
theorem dX11_paste_11 : decode cX11_paste 11 = .ok (.ifCond .ne 6, 3) := by decide +kernel
theorem dX11_paste_17 : decode cX11_paste 17 = .ok (.aload_n 0, 1) := by decide +kernel
theorem dX11_paste_18 : decode cX11_paste 18 = .ok (.getfield 76, 3) := by decide +kernel
theorem dX11_paste_21 : decode cX11_paste 21 = .ok (.iload_n 1, 1) := by decide +kernel
theorem dX11_paste_22 : decode cX11_paste 22 = .ok (.iaload, 1) := by decide +kernel
theorem dX11_paste_23 : decode cX11_paste 23 = .ok (.iconst (-1), 1) := by decide +kernel
theorem dX11_paste_24 : decode cX11_paste 24 = .ok (.if_icmp .eq 13, 3) := by decide +kernel
theorem dX11_paste_37 : decode cX11_paste 37 = .ok (.bipush (-6), 2) := by decide +kernel
theorem dX11_paste_39 : decode cX11_paste 39 = .ok (.ireturn, 1) := by decide +kernel
theorem dX11_paste_14 : decode cX11_paste 14 = .ok (.bipush (-2), 2) := by decide +kernel
theorem dX11_paste_16 : decode cX11_paste 16 = .ok (.ireturn, 1) := by decide +kernel
theorem dX11_image_0 : decode cX11_image 0 = .ok (.iload_n 1, 1) := by decide +kernel
theorem dX11_image_1 : decode cX11_image 1 = .ok (.i2l, 1) := by decide +kernel
theorem dX11_image_2 : decode cX11_image 2 = .ok (.lconst 0, 1) := by decide +kernel
theorem dX11_image_3 : decode cX11_image 3 = .ok (.ldc2_w 92, 3) := by decide +kernel
theorem dX11_image_6 : decode cX11_image 6 = .ok (.invokestatic 94, 3) := by decide +kernel
theorem dX11_image_9 : decode cX11_image 9 = .ok (.ifCond .ne 6, 3) := by decide +kernel
theorem dX11_image_15 : decode cX11_image 15 = .ok (.iconst 0, 1) := by decide +kernel
theorem dX11_image_16 : decode cX11_image 16 = .ok (.istore_n 2, 1) := by decide +kernel
theorem dX11_image_17 : decode cX11_image 17 = .ok (.iload_n 2, 1) := by decide +kernel
theorem dX11_image_18 : decode cX11_image 18 = .ok (.bipush 119, 2) := by decide +kernel
theorem dX11_image_20 : decode cX11_image 20 = .ok (.if_icmp .ge 26, 3) := by decide +kernel
theorem dX11_image_23 : decode cX11_image 23 = .ok (.aload_n 0, 1) := by decide +kernel
theorem dX11_image_24 : decode cX11_image 24 = .ok (.getfield 13, 3) := by decide +kernel
theorem dX11_image_27 : decode cX11_image 27 = .ok (.bipush 119, 2) := by decide +kernel
theorem dX11_image_29 : decode cX11_image 29 = .ok (.iload_n 1, 1) := by decide +kernel
theorem dX11_image_30 : decode cX11_image 30 = .ok (.imul, 1) := by decide +kernel
theorem dX11_image_31 : decode cX11_image 31 = .ok (.iload_n 2, 1) := by decide +kernel
theorem dX11_image_32 : decode cX11_image 32 = .ok (.iadd, 1) := by decide +kernel
theorem dX11_image_33 : decode cX11_image 33 = .ok (.aload_n 0, 1) := by decide +kernel
theorem dX11_image_34 : decode cX11_image 34 = .ok (.getfield 9, 3) := by decide +kernel
theorem dX11_image_37 : decode cX11_image 37 = .ok (.iload_n 2, 1) := by decide +kernel
theorem dX11_image_38 : decode cX11_image 38 = .ok (.iaload, 1) := by decide +kernel
theorem dX11_image_39 : decode cX11_image 39 = .ok (.iastore, 1) := by decide +kernel
theorem dX11_image_40 : decode cX11_image 40 = .ok (.iinc 2 1, 3) := by decide +kernel
theorem dX11_image_43 : decode cX11_image 43 = .ok (.goto (-26), 3) := by decide +kernel
theorem dX11_image_46 : decode cX11_image 46 = .ok (.aload_n 0, 1) := by decide +kernel
theorem dX11_image_47 : decode cX11_image 47 = .ok (.getfield 16, 3) := by decide +kernel
theorem dX11_image_50 : decode cX11_image 50 = .ok (.iload_n 1, 1) := by decide +kernel
theorem dX11_image_51 : decode cX11_image 51 = .ok (.iconst 1, 1) := by decide +kernel
theorem dX11_image_52 : decode cX11_image 52 = .ok (.bastore, 1) := by decide +kernel
theorem dX11_image_53 : decode cX11_image 53 = .ok (.iconst 0, 1) := by decide +kernel
theorem dX11_image_54 : decode cX11_image 54 = .ok (.ireturn, 1) := by decide +kernel
theorem dX11_image_12 : decode cX11_image 12 = .ok (.bipush (-2), 2) := by decide +kernel
theorem dX11_image_14 : decode cX11_image 14 = .ok (.ireturn, 1) := by decide +kernel
theorem dX11_row_0 : decode cX11_row 0 = .ok (.iload_n 1, 1) := by decide +kernel
theorem dX11_row_1 : decode cX11_row 1 = .ok (.invokestatic 397, 3) := by decide +kernel
theorem dX11_row_4 : decode cX11_row 4 = .ok (.ifCond .eq 21, 3) := by decide +kernel
theorem dX11_row_7 : decode cX11_row 7 = .ok (.iload_n 2, 1) := by decide +kernel
theorem dX11_row_8 : decode cX11_row 8 = .ok (.i2l, 1) := by decide +kernel
theorem dX11_row_9 : decode cX11_row 9 = .ok (.lconst 0, 1) := by decide +kernel
theorem dX11_row_10 : decode cX11_row 10 = .ok (.ldc2_w 298, 3) := by decide +kernel
theorem dX11_row_13 : decode cX11_row 13 = .ok (.invokestatic 94, 3) := by decide +kernel
theorem dX11_row_16 : decode cX11_row 16 = .ok (.ifCond .eq 9, 3) := by decide +kernel
theorem dX11_row_19 : decode cX11_row 19 = .ok (.iload_n 3, 1) := by decide +kernel
theorem dX11_row_20 : decode cX11_row 20 = .ok (.bipush 60, 2) := by decide +kernel
theorem dX11_row_22 : decode cX11_row 22 = .ok (.if_icmp .le 6, 3) := by decide +kernel
theorem dX11_row_28 : decode cX11_row 28 = .ok (.iload_n 3, 1) := by decide +kernel
theorem dX11_row_29 : decode cX11_row 29 = .ok (.ifCond .ge 6, 3) := by decide +kernel
theorem dX11_row_35 : decode cX11_row 35 = .ok (.aload_n 0, 1) := by decide +kernel
theorem dX11_row_36 : decode cX11_row 36 = .ok (.getfield 76, 3) := by decide +kernel
theorem dX11_row_39 : decode cX11_row 39 = .ok (.iload_n 1, 1) := by decide +kernel
theorem dX11_row_40 : decode cX11_row 40 = .ok (.iload_n 3, 1) := by decide +kernel
theorem dX11_row_41 : decode cX11_row 41 = .ok (.iastore, 1) := by decide +kernel
theorem dX11_row_42 : decode cX11_row 42 = .ok (.aload_n 0, 1) := by decide +kernel
theorem dX11_row_43 : decode cX11_row 43 = .ok (.getfield 79, 3) := by decide +kernel
theorem dX11_row_46 : decode cX11_row 46 = .ok (.iload_n 1, 1) := by decide +kernel
theorem dX11_row_47 : decode cX11_row 47 = .ok (.iload_n 2, 1) := by decide +kernel
theorem dX11_row_48 : decode cX11_row 48 = .ok (.iastore, 1) := by decide +kernel
theorem dX11_row_49 : decode cX11_row 49 = .ok (.iconst 0, 1) := by decide +kernel
theorem dX11_row_50 : decode cX11_row 50 = .ok (.istore 4, 2) := by decide +kernel
theorem dX11_row_52 : decode cX11_row 52 = .ok (.iload 4, 2) := by decide +kernel
theorem dX11_row_54 : decode cX11_row 54 = .ok (.bipush 60, 2) := by decide +kernel
theorem dX11_row_56 : decode cX11_row 56 = .ok (.if_icmp .ge 22, 3) := by decide +kernel
theorem dX11_row_59 : decode cX11_row 59 = .ok (.aload_n 0, 1) := by decide +kernel
theorem dX11_row_60 : decode cX11_row 60 = .ok (.getfield 82, 3) := by decide +kernel
theorem dX11_row_63 : decode cX11_row 63 = .ok (.bipush 60, 2) := by decide +kernel
theorem dX11_row_65 : decode cX11_row 65 = .ok (.iload_n 1, 1) := by decide +kernel
theorem dX11_row_66 : decode cX11_row 66 = .ok (.imul, 1) := by decide +kernel
theorem dX11_row_67 : decode cX11_row 67 = .ok (.iload 4, 2) := by decide +kernel
theorem dX11_row_69 : decode cX11_row 69 = .ok (.iadd, 1) := by decide +kernel
theorem dX11_row_70 : decode cX11_row 70 = .ok (.lconst 0, 1) := by decide +kernel
theorem dX11_row_71 : decode cX11_row 71 = .ok (.lastore, 1) := by decide +kernel
theorem dX11_row_72 : decode cX11_row 72 = .ok (.iinc 4 1, 3) := by decide +kernel
theorem dX11_row_75 : decode cX11_row 75 = .ok (.goto (-23), 3) := by decide +kernel
theorem dX11_row_78 : decode cX11_row 78 = .ok (.iconst 0, 1) := by decide +kernel
theorem dX11_row_79 : decode cX11_row 79 = .ok (.ireturn, 1) := by decide +kernel
theorem dX11_row_32 : decode cX11_row 32 = .ok (.bipush (-3), 2) := by decide +kernel
theorem dX11_row_34 : decode cX11_row 34 = .ok (.ireturn, 1) := by decide +kernel
theorem dX11_row_25 : decode cX11_row 25 = .ok (.bipush (-2), 2) := by decide +kernel
theorem dX11_row_27 : decode cX11_row 27 = .ok (.ireturn, 1) := by decide +kernel
theorem dX11_feed_0 : decode cX11_feed 0 = .ok (.aload_n 0, 1) := by decide +kernel
theorem dX11_feed_1 : decode cX11_feed 1 = .ok (.getfield 106, 3) := by decide +kernel
theorem dX11_feed_4 : decode cX11_feed 4 = .ok (.bipush 20, 2) := by decide +kernel
theorem dX11_feed_6 : decode cX11_feed 6 = .ok (.iadd, 1) := by decide +kernel
theorem dX11_feed_7 : decode cX11_feed 7 = .ok (.sipush 800, 3) := by decide +kernel
theorem dX11_feed_10 : decode cX11_feed 10 = .ok (.if_icmp .le 5, 3) := by decide +kernel
theorem dX11_feed_15 : decode cX11_feed 15 = .ok (.aload_n 0, 1) := by decide +kernel
theorem dX11_feed_16 : decode cX11_feed 16 = .ok (.getfield 24, 3) := by decide +kernel
theorem dX11_feed_19 : decode cX11_feed 19 = .ok (.iconst 0, 1) := by decide +kernel
theorem dX11_feed_20 : decode cX11_feed 20 = .ok (.iload_n 1, 1) := by decide +kernel
theorem dX11_feed_21 : decode cX11_feed 21 = .ok (.iastore, 1) := by decide +kernel
theorem dX11_feed_22 : decode cX11_feed 22 = .ok (.aload_n 0, 1) := by decide +kernel
theorem dX11_feed_23 : decode cX11_feed 23 = .ok (.getfield 24, 3) := by decide +kernel
theorem dX11_feed_26 : decode cX11_feed 26 = .ok (.iconst 1, 1) := by decide +kernel
theorem dX11_feed_27 : decode cX11_feed 27 = .ok (.iload_n 2, 1) := by decide +kernel
theorem dX11_feed_28 : decode cX11_feed 28 = .ok (.iastore, 1) := by decide +kernel
theorem dX11_feed_29 : decode cX11_feed 29 = .ok (.aload_n 0, 1) := by decide +kernel
theorem dX11_feed_30 : decode cX11_feed 30 = .ok (.getfield 24, 3) := by decide +kernel
theorem dX11_feed_33 : decode cX11_feed 33 = .ok (.iconst 2, 1) := by decide +kernel
theorem dX11_feed_34 : decode cX11_feed 34 = .ok (.iload_n 3, 1) := by decide +kernel
theorem dX11_feed_35 : decode cX11_feed 35 = .ok (.iastore, 1) := by decide +kernel
theorem dX11_feed_36 : decode cX11_feed 36 = .ok (.aload_n 0, 1) := by decide +kernel
theorem dX11_feed_37 : decode cX11_feed 37 = .ok (.getfield 24, 3) := by decide +kernel
theorem dX11_feed_40 : decode cX11_feed 40 = .ok (.iconst 3, 1) := by decide +kernel
theorem dX11_feed_41 : decode cX11_feed 41 = .ok (.iload 4, 2) := by decide +kernel
theorem dX11_feed_43 : decode cX11_feed 43 = .ok (.iastore, 1) := by decide +kernel
theorem dX11_feed_44 : decode cX11_feed 44 = .ok (.aload_n 0, 1) := by decide +kernel
theorem dX11_feed_45 : decode cX11_feed 45 = .ok (.getfield 24, 3) := by decide +kernel
theorem dX11_feed_48 : decode cX11_feed 48 = .ok (.iconst 4, 1) := by decide +kernel
theorem dX11_feed_49 : decode cX11_feed 49 = .ok (.iload 5, 2) := by decide +kernel
theorem dX11_feed_51 : decode cX11_feed 51 = .ok (.iastore, 1) := by decide +kernel
theorem dX11_feed_52 : decode cX11_feed 52 = .ok (.iconst 0, 1) := by decide +kernel
theorem dX11_feed_53 : decode cX11_feed 53 = .ok (.istore 6, 2) := by decide +kernel
theorem dX11_feed_55 : decode cX11_feed 55 = .ok (.iload 6, 2) := by decide +kernel
theorem dX11_feed_57 : decode cX11_feed 57 = .ok (.bipush 20, 2) := by decide +kernel
theorem dX11_feed_59 : decode cX11_feed 59 = .ok (.if_icmp .ge 42, 3) := by decide +kernel
theorem dX11_feed_62 : decode cX11_feed 62 = .ok (.aload_n 0, 1) := by decide +kernel
theorem dX11_feed_63 : decode cX11_feed 63 = .ok (.getfield 20, 3) := by decide +kernel
theorem dX11_feed_66 : decode cX11_feed 66 = .ok (.aload_n 0, 1) := by decide +kernel
theorem dX11_feed_67 : decode cX11_feed 67 = .ok (.getfield 106, 3) := by decide +kernel
theorem dX11_feed_70 : decode cX11_feed 70 = .ok (.iload 6, 2) := by decide +kernel
theorem dX11_feed_72 : decode cX11_feed 72 = .ok (.iadd, 1) := by decide +kernel
theorem dX11_feed_73 : decode cX11_feed 73 = .ok (.aload_n 0, 1) := by decide +kernel
theorem dX11_feed_74 : decode cX11_feed 74 = .ok (.getfield 24, 3) := by decide +kernel
theorem dX11_feed_77 : decode cX11_feed 77 = .ok (.iload 6, 2) := by decide +kernel
theorem dX11_feed_79 : decode cX11_feed 79 = .ok (.iconst 4, 1) := by decide +kernel
theorem dX11_feed_80 : decode cX11_feed 80 = .ok (.idiv, 1) := by decide +kernel
theorem dX11_feed_81 : decode cX11_feed 81 = .ok (.iaload, 1) := by decide +kernel
theorem dX11_feed_82 : decode cX11_feed 82 = .ok (.bipush 24, 2) := by decide +kernel
theorem dX11_feed_84 : decode cX11_feed 84 = .ok (.bipush 8, 2) := by decide +kernel
theorem dX11_feed_86 : decode cX11_feed 86 = .ok (.iload 6, 2) := by decide +kernel
theorem dX11_feed_88 : decode cX11_feed 88 = .ok (.iconst 4, 1) := by decide +kernel
theorem dX11_feed_89 : decode cX11_feed 89 = .ok (.irem, 1) := by decide +kernel
theorem dX11_feed_90 : decode cX11_feed 90 = .ok (.imul, 1) := by decide +kernel
theorem dX11_feed_91 : decode cX11_feed 91 = .ok (.isub, 1) := by decide +kernel
theorem dX11_feed_92 : decode cX11_feed 92 = .ok (.ishr, 1) := by decide +kernel
theorem dX11_feed_93 : decode cX11_feed 93 = .ok (.i2b, 1) := by decide +kernel
theorem dX11_feed_94 : decode cX11_feed 94 = .ok (.bastore, 1) := by decide +kernel
theorem dX11_feed_95 : decode cX11_feed 95 = .ok (.iinc 6 1, 3) := by decide +kernel
theorem dX11_feed_98 : decode cX11_feed 98 = .ok (.goto (-43), 3) := by decide +kernel
theorem dX11_feed_101 : decode cX11_feed 101 = .ok (.aload_n 0, 1) := by decide +kernel
theorem dX11_feed_102 : decode cX11_feed 102 = .ok (.dup, 1) := by decide +kernel
theorem dX11_feed_103 : decode cX11_feed 103 = .ok (.getfield 106, 3) := by decide +kernel
theorem dX11_feed_106 : decode cX11_feed 106 = .ok (.bipush 20, 2) := by decide +kernel
theorem dX11_feed_108 : decode cX11_feed 108 = .ok (.iadd, 1) := by decide +kernel
theorem dX11_feed_109 : decode cX11_feed 109 = .ok (.putfield 106, 3) := by decide +kernel
theorem dX11_feed_112 : decode cX11_feed 112 = .ok (.aload_n 0, 1) := by decide +kernel
theorem dX11_feed_113 : decode cX11_feed 113 = .ok (.getfield 106, 3) := by decide +kernel
theorem dX11_feed_116 : decode cX11_feed 116 = .ok (.ireturn, 1) := by decide +kernel
theorem dX11_good_0 : decode cX11_good 0 = .ok (.aload_n 0, 1) := by decide +kernel
theorem dX11_good_1 : decode cX11_good 1 = .ok (.getfield 141, 3) := by decide +kernel
theorem dX11_good_4 : decode cX11_good 4 = .ok (.ifCond .ne 7, 3) := by decide +kernel
theorem dX11_good_7 : decode cX11_good 7 = .ok (.iconst 1, 1) := by decide +kernel
theorem dX11_good_8 : decode cX11_good 8 = .ok (.goto 4, 3) := by decide +kernel
theorem dX11_good_12 : decode cX11_good 12 = .ok (.ireturn, 1) := by decide +kernel
theorem dX11_see_0 : decode cX11_see 0 = .ok (.iload_n 1, 1) := by decide +kernel
theorem dX11_see_1 : decode cX11_see 1 = .ok (.aload_n 0, 1) := by decide +kernel
theorem dX11_see_2 : decode cX11_see 2 = .ok (.getfield 109, 3) := by decide +kernel
theorem dX11_see_5 : decode cX11_see 5 = .ok (.if_icmp .ge 16, 3) := by decide +kernel
theorem dX11_see_21 : decode cX11_see 21 = .ok (.iconst (-1), 1) := by decide +kernel
theorem dX11_see_22 : decode cX11_see 22 = .ok (.ireturn, 1) := by decide +kernel
theorem dX11_advance_0 : decode cX11_advance 0 = .ok (.aload_n 0, 1) := by decide +kernel
theorem dX11_advance_1 : decode cX11_advance 1 = .ok (.aload_n 0, 1) := by decide +kernel
theorem dX11_advance_2 : decode cX11_advance 2 = .ok (.getfield 112, 3) := by decide +kernel
theorem dX11_advance_5 : decode cX11_advance 5 = .ok (.invokevirtual 115, 3) := by decide +kernel
theorem dX11_advance_8 : decode cX11_advance 8 = .ok (.bipush 32, 2) := by decide +kernel
theorem dX11_advance_10 : decode cX11_advance 10 = .ok (.if_icmp .eq 16, 3) := by decide +kernel
theorem dX11_advance_13 : decode cX11_advance 13 = .ok (.aload_n 0, 1) := by decide +kernel
theorem dX11_advance_14 : decode cX11_advance 14 = .ok (.aload_n 0, 1) := by decide +kernel
theorem dX11_advance_15 : decode cX11_advance 15 = .ok (.getfield 112, 3) := by decide +kernel
theorem dX11_advance_18 : decode cX11_advance 18 = .ok (.invokevirtual 115, 3) := by decide +kernel
theorem dX11_advance_21 : decode cX11_advance 21 = .ok (.bipush 10, 2) := by decide +kernel
theorem dX11_advance_23 : decode cX11_advance 23 = .ok (.if_icmp .ne 16, 3) := by decide +kernel
theorem dX11_advance_39 : decode cX11_advance 39 = .ok (.aload_n 0, 1) := by decide +kernel
theorem dX11_advance_40 : decode cX11_advance 40 = .ok (.aload_n 0, 1) := by decide +kernel
theorem dX11_advance_41 : decode cX11_advance 41 = .ok (.getfield 112, 3) := by decide +kernel
theorem dX11_advance_44 : decode cX11_advance 44 = .ok (.putfield 118, 3) := by decide +kernel
theorem dX11_advance_47 : decode cX11_advance 47 = .ok (.aload_n 0, 1) := by decide +kernel
theorem dX11_advance_48 : decode cX11_advance 48 = .ok (.aload_n 0, 1) := by decide +kernel
theorem dX11_advance_49 : decode cX11_advance 49 = .ok (.getfield 112, 3) := by decide +kernel
theorem dX11_advance_52 : decode cX11_advance 52 = .ok (.invokevirtual 115, 3) := by decide +kernel
theorem dX11_advance_55 : decode cX11_advance 55 = .ok (.istore_n 1, 1) := by decide +kernel
theorem dX11_advance_56 : decode cX11_advance 56 = .ok (.iload_n 1, 1) := by decide +kernel
theorem dX11_advance_57 : decode cX11_advance 57 = .ok (.iconst (-1), 1) := by decide +kernel
theorem dX11_advance_58 : decode cX11_advance 58 = .ok (.if_icmp .ne 11, 3) := by decide +kernel
theorem dX11_advance_61 : decode cX11_advance 61 = .ok (.aload_n 0, 1) := by decide +kernel
theorem dX11_advance_62 : decode cX11_advance 62 = .ok (.iconst 0, 1) := by decide +kernel
theorem dX11_advance_63 : decode cX11_advance 63 = .ok (.putfield 121, 3) := by decide +kernel
theorem dX11_advance_66 : decode cX11_advance 66 = .ok (.goto 173, 3) := by decide +kernel
theorem dX11_advance_239 : decode cX11_advance 239 = .ok (.return_, 1) := by decide +kernel
theorem dX11_city_0 : decode cX11_city 0 = .ok (.aload_n 0, 1) := by decide +kernel
theorem dX11_city_1 : decode cX11_city 1 = .ok (.aload_n 0, 1) := by decide +kernel
theorem dX11_city_2 : decode cX11_city 2 = .ok (.getfield 106, 3) := by decide +kernel
theorem dX11_city_5 : decode cX11_city 5 = .ok (.putfield 109, 3) := by decide +kernel
theorem dX11_city_8 : decode cX11_city 8 = .ok (.aload_n 0, 1) := by decide +kernel
theorem dX11_city_9 : decode cX11_city 9 = .ok (.iconst 0, 1) := by decide +kernel
theorem dX11_city_10 : decode cX11_city 10 = .ok (.putfield 106, 3) := by decide +kernel
theorem dX11_city_13 : decode cX11_city 13 = .ok (.aload_n 0, 1) := by decide +kernel
theorem dX11_city_14 : decode cX11_city 14 = .ok (.iconst 0, 1) := by decide +kernel
theorem dX11_city_15 : decode cX11_city 15 = .ok (.putfield 112, 3) := by decide +kernel
theorem dX11_city_18 : decode cX11_city 18 = .ok (.aload_n 0, 1) := by decide +kernel
theorem dX11_city_19 : decode cX11_city 19 = .ok (.iconst 0, 1) := by decide +kernel
theorem dX11_city_20 : decode cX11_city 20 = .ok (.putfield 141, 3) := by decide +kernel
theorem dX11_city_23 : decode cX11_city 23 = .ok (.aload_n 0, 1) := by decide +kernel
theorem dX11_city_24 : decode cX11_city 24 = .ok (.iconst (-1), 1) := by decide +kernel
theorem dX11_city_25 : decode cX11_city 25 = .ok (.putfield 27, 3) := by decide +kernel
theorem dX11_city_28 : decode cX11_city 28 = .ok (.iconst 0, 1) := by decide +kernel
theorem dX11_city_29 : decode cX11_city 29 = .ok (.istore_n 1, 1) := by decide +kernel
theorem dX11_city_30 : decode cX11_city 30 = .ok (.iload_n 1, 1) := by decide +kernel
theorem dX11_city_31 : decode cX11_city 31 = .ok (.bipush 119, 2) := by decide +kernel
theorem dX11_city_33 : decode cX11_city 33 = .ok (.if_icmp .ge 16, 3) := by decide +kernel
theorem dX11_city_36 : decode cX11_city 36 = .ok (.aload_n 0, 1) := by decide +kernel
theorem dX11_city_37 : decode cX11_city 37 = .ok (.getfield 31, 3) := by decide +kernel
theorem dX11_city_40 : decode cX11_city 40 = .ok (.iload_n 1, 1) := by decide +kernel
theorem dX11_city_41 : decode cX11_city 41 = .ok (.iconst 0, 1) := by decide +kernel
theorem dX11_city_42 : decode cX11_city 42 = .ok (.iastore, 1) := by decide +kernel
theorem dX11_city_43 : decode cX11_city 43 = .ok (.iinc 1 1, 3) := by decide +kernel
theorem dX11_city_46 : decode cX11_city 46 = .ok (.goto (-16), 3) := by decide +kernel
theorem dX11_city_49 : decode cX11_city 49 = .ok (.aload_n 0, 1) := by decide +kernel
theorem dX11_city_50 : decode cX11_city 50 = .ok (.invokevirtual 162, 3) := by decide +kernel
theorem dX11_city_53 : decode cX11_city 53 = .ok (.aload_n 0, 1) := by decide +kernel
theorem dX11_city_54 : decode cX11_city 54 = .ok (.invokevirtual 144, 3) := by decide +kernel
theorem dX11_city_57 : decode cX11_city 57 = .ok (.ifCond .eq 17, 3) := by decide +kernel
theorem dX11_city_60 : decode cX11_city 60 = .ok (.aload_n 0, 1) := by decide +kernel
theorem dX11_city_61 : decode cX11_city 61 = .ok (.getfield 121, 3) := by decide +kernel
theorem dX11_city_64 : decode cX11_city 64 = .ok (.ifCond .eq 10, 3) := by decide +kernel
theorem dX11_city_74 : decode cX11_city 74 = .ok (.aload_n 0, 1) := by decide +kernel
theorem dX11_city_75 : decode cX11_city 75 = .ok (.invokevirtual 144, 3) := by decide +kernel
theorem dX11_city_78 : decode cX11_city 78 = .ok (.ifCond .ne 6, 3) := by decide +kernel
theorem dX11_city_84 : decode cX11_city 84 = .ok (.iconst 0, 1) := by decide +kernel
theorem dX11_city_85 : decode cX11_city 85 = .ok (.istore_n 1, 1) := by decide +kernel
theorem dX11_city_86 : decode cX11_city 86 = .ok (.iload_n 1, 1) := by decide +kernel
theorem dX11_city_87 : decode cX11_city 87 = .ok (.bipush 119, 2) := by decide +kernel
theorem dX11_city_89 : decode cX11_city 89 = .ok (.if_icmp .ge 21, 3) := by decide +kernel
theorem dX11_city_92 : decode cX11_city 92 = .ok (.aload_n 0, 1) := by decide +kernel
theorem dX11_city_93 : decode cX11_city 93 = .ok (.getfield 9, 3) := by decide +kernel
theorem dX11_city_96 : decode cX11_city 96 = .ok (.iload_n 1, 1) := by decide +kernel
theorem dX11_city_97 : decode cX11_city 97 = .ok (.aload_n 0, 1) := by decide +kernel
theorem dX11_city_98 : decode cX11_city 98 = .ok (.getfield 31, 3) := by decide +kernel
theorem dX11_city_101 : decode cX11_city 101 = .ok (.iload_n 1, 1) := by decide +kernel
theorem dX11_city_102 : decode cX11_city 102 = .ok (.iaload, 1) := by decide +kernel
theorem dX11_city_103 : decode cX11_city 103 = .ok (.iastore, 1) := by decide +kernel
theorem dX11_city_104 : decode cX11_city 104 = .ok (.iinc 1 1, 3) := by decide +kernel
theorem dX11_city_107 : decode cX11_city 107 = .ok (.goto (-21), 3) := by decide +kernel
theorem dX11_city_110 : decode cX11_city 110 = .ok (.aload_n 0, 1) := by decide +kernel
theorem dX11_city_111 : decode cX11_city 111 = .ok (.getfield 9, 3) := by decide +kernel
theorem dX11_city_114 : decode cX11_city 114 = .ok (.iconst 5, 1) := by decide +kernel
theorem dX11_city_115 : decode cX11_city 115 = .ok (.iaload, 1) := by decide +kernel
theorem dX11_city_116 : decode cX11_city 116 = .ok (.ireturn, 1) := by decide +kernel
theorem dX10_hasCity_0 : decode cX10_hasCity 0 = .ok (.aload_n 0, 1) := by decide +kernel
theorem dX10_hasCity_1 : decode cX10_hasCity 1 = .ok (.getfield 19, 3) := by decide +kernel
theorem dX10_hasCity_4 : decode cX10_hasCity 4 = .ok (.getfield 112, 3) := by decide +kernel
theorem dX10_hasCity_7 : decode cX10_hasCity 7 = .ok (.ifCond .le 7, 3) := by decide +kernel
theorem dX10_hasCity_14 : decode cX10_hasCity 14 = .ok (.iconst 0, 1) := by decide +kernel
theorem dX10_hasCity_15 : decode cX10_hasCity 15 = .ok (.ireturn, 1) := by decide +kernel
theorem dX10_isHouse_0 : decode cX10_isHouse 0 = .ok (.iload_n 1, 1) := by decide +kernel
theorem dX10_isHouse_1 : decode cX10_isHouse 1 = .ok (.ifCond .lt 18, 3) := by decide +kernel
theorem dX10_isHouse_19 : decode cX10_isHouse 19 = .ok (.iconst 0, 1) := by decide +kernel
theorem dX10_isHouse_20 : decode cX10_isHouse 20 = .ok (.ireturn, 1) := by decide +kernel
theorem dX10_isHouse_4 : decode cX10_isHouse 4 = .ok (.iload_n 1, 1) := by decide +kernel
theorem dX10_isHouse_5 : decode cX10_isHouse 5 = .ok (.aload_n 0, 1) := by decide +kernel
theorem dX10_isHouse_6 : decode cX10_isHouse 6 = .ok (.getfield 19, 3) := by decide +kernel
theorem dX10_isHouse_9 : decode cX10_isHouse 9 = .ok (.getfield 255, 3) := by decide +kernel
theorem dX10_isHouse_12 : decode cX10_isHouse 12 = .ok (.if_icmp .ge 7, 3) := by decide +kernel
theorem dX10_isHouse_15 : decode cX10_isHouse 15 = .ok (.iconst 1, 1) := by decide +kernel
theorem dX10_isHouse_16 : decode cX10_isHouse 16 = .ok (.goto 4, 3) := by decide +kernel
theorem dX10_isThing_0 : decode cX10_isThing 0 = .ok (.iload_n 1, 1) := by decide +kernel
theorem dX10_isThing_1 : decode cX10_isThing 1 = .ok (.ifCond .lt 18, 3) := by decide +kernel
theorem dX10_isThing_19 : decode cX10_isThing 19 = .ok (.iconst 0, 1) := by decide +kernel
theorem dX10_isThing_20 : decode cX10_isThing 20 = .ok (.ireturn, 1) := by decide +kernel
theorem dX10_isThing_4 : decode cX10_isThing 4 = .ok (.iload_n 1, 1) := by decide +kernel
theorem dX10_isThing_5 : decode cX10_isThing 5 = .ok (.aload_n 0, 1) := by decide +kernel
theorem dX10_isThing_6 : decode cX10_isThing 6 = .ok (.getfield 19, 3) := by decide +kernel
theorem dX10_isThing_9 : decode cX10_isThing 9 = .ok (.getfield 296, 3) := by decide +kernel
theorem dX10_isThing_12 : decode cX10_isThing 12 = .ok (.if_icmp .ge 7, 3) := by decide +kernel
theorem dX10_isThing_15 : decode cX10_isThing 15 = .ok (.iconst 1, 1) := by decide +kernel
theorem dX10_isThing_16 : decode cX10_isThing 16 = .ok (.goto 4, 3) := by decide +kernel
theorem dX10_isPaper_0 : decode cX10_isPaper 0 = .ok (.iload_n 1, 1) := by decide +kernel
theorem dX10_isPaper_1 : decode cX10_isPaper 1 = .ok (.ifCond .lt 18, 3) := by decide +kernel
theorem dX10_isPaper_19 : decode cX10_isPaper 19 = .ok (.iconst 0, 1) := by decide +kernel
theorem dX10_isPaper_20 : decode cX10_isPaper 20 = .ok (.ireturn, 1) := by decide +kernel
theorem dX10_isPaper_4 : decode cX10_isPaper 4 = .ok (.iload_n 1, 1) := by decide +kernel
theorem dX10_isPaper_5 : decode cX10_isPaper 5 = .ok (.aload_n 0, 1) := by decide +kernel
theorem dX10_isPaper_6 : decode cX10_isPaper 6 = .ok (.getfield 38, 3) := by decide +kernel
theorem dX10_isPaper_9 : decode cX10_isPaper 9 = .ok (.getfield 339, 3) := by decide +kernel
theorem dX10_isPaper_12 : decode cX10_isPaper 12 = .ok (.if_icmp .ge 7, 3) := by decide +kernel
theorem dX10_isPaper_15 : decode cX10_isPaper 15 = .ok (.iconst 1, 1) := by decide +kernel
theorem dX10_isPaper_16 : decode cX10_isPaper 16 = .ok (.goto 4, 3) := by decide +kernel
theorem dX10_isSlot_0 : decode cX10_isSlot 0 = .ok (.iload_n 0, 1) := by decide +kernel
theorem dX10_isSlot_1 : decode cX10_isSlot 1 = .ok (.ifCond .lt 12, 3) := by decide +kernel
theorem dX10_isSlot_13 : decode cX10_isSlot 13 = .ok (.iconst 0, 1) := by decide +kernel
theorem dX10_isSlot_14 : decode cX10_isSlot 14 = .ok (.ireturn, 1) := by decide +kernel
theorem dX10_isSlot_4 : decode cX10_isSlot 4 = .ok (.iload_n 0, 1) := by decide +kernel
theorem dX10_isSlot_5 : decode cX10_isSlot 5 = .ok (.iconst 4, 1) := by decide +kernel
theorem dX10_isSlot_6 : decode cX10_isSlot 6 = .ok (.if_icmp .ge 7, 3) := by decide +kernel
theorem dX10_isSlot_9 : decode cX10_isSlot 9 = .ok (.iconst 1, 1) := by decide +kernel
theorem dX10_isSlot_10 : decode cX10_isSlot 10 = .ok (.goto 4, 3) := by decide +kernel
theorem dX10_look_0 : decode cX10_look 0 = .ok (.iload_n 1, 1) := by decide +kernel
theorem dX10_look_1 : decode cX10_look 1 = .ok (.invokestatic 367, 3) := by decide +kernel
theorem dX10_look_4 : decode cX10_look 4 = .ok (.ifCond .eq 10, 3) := by decide +kernel
theorem dX10_look_7 : decode cX10_look 7 = .ok (.aload_n 0, 1) := by decide +kernel
theorem dX10_look_8 : decode cX10_look 8 = .ok (.invokevirtual 203, 3) := by decide +kernel
theorem dX10_look_11 : decode cX10_look 11 = .ok (.ifCond .ne 6, 3) := by decide +kernel
theorem dX10_look_14 : decode cX10_look 14 = .ok (.bipush (-2), 2) := by decide +kernel
theorem dX10_look_16 : decode cX10_look 16 = .ok (.ireturn, 1) := by decide +kernel
theorem dX10_house_0 : decode cX10_house 0 = .ok (.aload_n 0, 1) := by decide +kernel
theorem dX10_house_1 : decode cX10_house 1 = .ok (.iload_n 1, 1) := by decide +kernel
theorem dX10_house_2 : decode cX10_house 2 = .ok (.invokevirtual 121, 3) := by decide +kernel
theorem dX10_house_5 : decode cX10_house 5 = .ok (.ifCond .ne 6, 3) := by decide +kernel
theorem dX10_house_8 : decode cX10_house 8 = .ok (.bipush (-2), 2) := by decide +kernel
theorem dX10_house_10 : decode cX10_house 10 = .ok (.ireturn, 1) := by decide +kernel
theorem dX10_thing_0 : decode cX10_thing 0 = .ok (.aload_n 0, 1) := by decide +kernel
theorem dX10_thing_1 : decode cX10_thing 1 = .ok (.iload_n 1, 1) := by decide +kernel
theorem dX10_thing_2 : decode cX10_thing 2 = .ok (.invokevirtual 142, 3) := by decide +kernel
theorem dX10_thing_5 : decode cX10_thing 5 = .ok (.ifCond .ne 6, 3) := by decide +kernel
theorem dX10_thing_8 : decode cX10_thing 8 = .ok (.bipush (-2), 2) := by decide +kernel
theorem dX10_thing_10 : decode cX10_thing 10 = .ok (.ireturn, 1) := by decide +kernel
theorem dX10_value_0 : decode cX10_value 0 = .ok (.aload_n 0, 1) := by decide +kernel
theorem dX10_value_1 : decode cX10_value 1 = .ok (.iload_n 1, 1) := by decide +kernel
theorem dX10_value_2 : decode cX10_value 2 = .ok (.invokevirtual 121, 3) := by decide +kernel
theorem dX10_value_5 : decode cX10_value 5 = .ok (.ifCond .eq 23, 3) := by decide +kernel
theorem dX10_value_28 : decode cX10_value 28 = .ok (.bipush (-2), 2) := by decide +kernel
theorem dX10_value_30 : decode cX10_value 30 = .ok (.ireturn, 1) := by decide +kernel
theorem dX10_paper_0 : decode cX10_paper 0 = .ok (.aload_n 0, 1) := by decide +kernel
theorem dX10_paper_1 : decode cX10_paper 1 = .ok (.iload_n 1, 1) := by decide +kernel
theorem dX10_paper_2 : decode cX10_paper 2 = .ok (.invokevirtual 158, 3) := by decide +kernel
theorem dX10_paper_5 : decode cX10_paper 5 = .ok (.ifCond .ne 6, 3) := by decide +kernel
theorem dX10_paper_8 : decode cX10_paper 8 = .ok (.bipush (-2), 2) := by decide +kernel
theorem dX10_paper_10 : decode cX10_paper 10 = .ok (.ireturn, 1) := by decide +kernel
theorem dX10_price_0 : decode cX10_price 0 = .ok (.aload_n 0, 1) := by decide +kernel
theorem dX10_price_1 : decode cX10_price 1 = .ok (.iload_n 1, 1) := by decide +kernel
theorem dX10_price_2 : decode cX10_price 2 = .ok (.invokevirtual 158, 3) := by decide +kernel
theorem dX10_price_5 : decode cX10_price 5 = .ok (.ifCond .ne 6, 3) := by decide +kernel
theorem dX10_price_8 : decode cX10_price 8 = .ok (.bipush (-2), 2) := by decide +kernel
theorem dX10_price_10 : decode cX10_price 10 = .ok (.ireturn, 1) := by decide +kernel
theorem dX10_net_0 : decode cX10_net 0 = .ok (.aload_n 0, 1) := by decide +kernel
theorem dX10_net_1 : decode cX10_net 1 = .ok (.iload_n 1, 1) := by decide +kernel
theorem dX10_net_2 : decode cX10_net 2 = .ok (.invokevirtual 121, 3) := by decide +kernel
theorem dX10_net_5 : decode cX10_net 5 = .ok (.ifCond .eq 14, 3) := by decide +kernel
theorem dX10_net_19 : decode cX10_net 19 = .ok (.ldc 185, 2) := by decide +kernel
theorem dX10_net_21 : decode cX10_net 21 = .ok (.ireturn, 1) := by decide +kernel
theorem dX10_steal_0 : decode cX10_steal 0 = .ok (.aload_n 0, 1) := by decide +kernel
theorem dX10_steal_1 : decode cX10_steal 1 = .ok (.iload_n 1, 1) := by decide +kernel
theorem dX10_steal_2 : decode cX10_steal 2 = .ok (.invokevirtual 121, 3) := by decide +kernel
theorem dX10_steal_5 : decode cX10_steal 5 = .ok (.ifCond .eq 22, 3) := by decide +kernel
theorem dX10_steal_27 : decode cX10_steal 27 = .ok (.bipush (-2), 2) := by decide +kernel
theorem dX10_steal_29 : decode cX10_steal 29 = .ok (.ireturn, 1) := by decide +kernel
theorem dX10_sell_0 : decode cX10_sell 0 = .ok (.aload_n 0, 1) := by decide +kernel
theorem dX10_sell_1 : decode cX10_sell 1 = .ok (.iload_n 1, 1) := by decide +kernel
theorem dX10_sell_2 : decode cX10_sell 2 = .ok (.invokevirtual 158, 3) := by decide +kernel
theorem dX10_sell_5 : decode cX10_sell 5 = .ok (.ifCond .eq 11, 3) := by decide +kernel
theorem dX10_sell_16 : decode cX10_sell 16 = .ok (.bipush (-2), 2) := by decide +kernel
theorem dX10_sell_18 : decode cX10_sell 18 = .ok (.ireturn, 1) := by decide +kernel
theorem dX10_brings_0 : decode cX10_brings 0 = .ok (.aload_n 0, 1) := by decide +kernel
theorem dX10_brings_1 : decode cX10_brings 1 = .ok (.iload_n 1, 1) := by decide +kernel
theorem dX10_brings_2 : decode cX10_brings 2 = .ok (.invokevirtual 158, 3) := by decide +kernel
theorem dX10_brings_5 : decode cX10_brings 5 = .ok (.ifCond .ne 6, 3) := by decide +kernel
theorem dX10_brings_8 : decode cX10_brings 8 = .ok (.bipush (-2), 2) := by decide +kernel
theorem dX10_brings_10 : decode cX10_brings 10 = .ok (.ireturn, 1) := by decide +kernel
theorem dX10_strike_0 : decode cX10_strike 0 = .ok (.aload_n 0, 1) := by decide +kernel
theorem dX10_strike_1 : decode cX10_strike 1 = .ok (.iload_n 1, 1) := by decide +kernel
theorem dX10_strike_2 : decode cX10_strike 2 = .ok (.invokevirtual 158, 3) := by decide +kernel
theorem dX10_strike_5 : decode cX10_strike 5 = .ok (.ifCond .ne 6, 3) := by decide +kernel
theorem dX10_strike_8 : decode cX10_strike 8 = .ok (.bipush (-2), 2) := by decide +kernel
theorem dX10_strike_10 : decode cX10_strike 10 = .ok (.ireturn, 1) := by decide +kernel
theorem dX10_lock_0 : decode cX10_lock 0 = .ok (.aload_n 0, 1) := by decide +kernel
theorem dX10_lock_1 : decode cX10_lock 1 = .ok (.iload_n 1, 1) := by decide +kernel
theorem dX10_lock_2 : decode cX10_lock 2 = .ok (.invokevirtual 121, 3) := by decide +kernel
theorem dX10_lock_5 : decode cX10_lock 5 = .ok (.ifCond .eq 12, 3) := by decide +kernel
theorem dX10_lock_17 : decode cX10_lock 17 = .ok (.bipush (-2), 2) := by decide +kernel
theorem dX10_lock_19 : decode cX10_lock 19 = .ok (.ireturn, 1) := by decide +kernel
theorem dX10_night_0 : decode cX10_night 0 = .ok (.aload_n 0, 1) := by decide +kernel
theorem dX10_night_1 : decode cX10_night 1 = .ok (.invokevirtual 203, 3) := by decide +kernel
theorem dX10_night_4 : decode cX10_night 4 = .ok (.ifCond .ne 6, 3) := by decide +kernel
theorem dX10_night_7 : decode cX10_night 7 = .ok (.bipush (-2), 2) := by decide +kernel
theorem dX10_night_9 : decode cX10_night 9 = .ok (.ireturn, 1) := by decide +kernel
theorem dX10_undo_0 : decode cX10_undo 0 = .ok (.aload_n 0, 1) := by decide +kernel
theorem dX10_undo_1 : decode cX10_undo 1 = .ok (.invokevirtual 203, 3) := by decide +kernel
theorem dX10_undo_4 : decode cX10_undo 4 = .ok (.ifCond .ne 6, 3) := by decide +kernel
theorem dX10_undo_7 : decode cX10_undo 7 = .ok (.bipush (-2), 2) := by decide +kernel
theorem dX10_undo_9 : decode cX10_undo 9 = .ok (.ireturn, 1) := by decide +kernel
theorem dX10_anew_0 : decode cX10_anew 0 = .ok (.aload_n 0, 1) := by decide +kernel
theorem dX10_anew_1 : decode cX10_anew 1 = .ok (.invokevirtual 203, 3) := by decide +kernel
theorem dX10_anew_4 : decode cX10_anew 4 = .ok (.ifCond .ne 6, 3) := by decide +kernel
theorem dX10_anew_7 : decode cX10_anew 7 = .ok (.bipush (-2), 2) := by decide +kernel
theorem dX10_anew_9 : decode cX10_anew 9 = .ok (.ireturn, 1) := by decide +kernel
theorem dX10_now_0 : decode cX10_now 0 = .ok (.aload_n 0, 1) := by decide +kernel
theorem dX10_now_1 : decode cX10_now 1 = .ok (.invokevirtual 203, 3) := by decide +kernel
theorem dX10_now_4 : decode cX10_now 4 = .ok (.ifCond .ne 6, 3) := by decide +kernel
theorem dX10_now_7 : decode cX10_now 7 = .ok (.bipush (-2), 2) := by decide +kernel
theorem dX10_now_9 : decode cX10_now 9 = .ok (.ireturn, 1) := by decide +kernel
theorem dX10_owner_0 : decode cX10_owner 0 = .ok (.aload_n 0, 1) := by decide +kernel
theorem dX10_owner_1 : decode cX10_owner 1 = .ok (.iload_n 1, 1) := by decide +kernel
theorem dX10_owner_2 : decode cX10_owner 2 = .ok (.invokevirtual 142, 3) := by decide +kernel
theorem dX10_owner_5 : decode cX10_owner 5 = .ok (.ifCond .ne 6, 3) := by decide +kernel
theorem dX10_owner_8 : decode cX10_owner 8 = .ok (.bipush (-2), 2) := by decide +kernel
theorem dX10_owner_10 : decode cX10_owner 10 = .ok (.ireturn, 1) := by decide +kernel
theorem dX10_chain_0 : decode cX10_chain 0 = .ok (.aload_n 0, 1) := by decide +kernel
theorem dX10_chain_1 : decode cX10_chain 1 = .ok (.iload_n 1, 1) := by decide +kernel
theorem dX10_chain_2 : decode cX10_chain 2 = .ok (.invokevirtual 142, 3) := by decide +kernel
theorem dX10_chain_5 : decode cX10_chain 5 = .ok (.ifCond .ne 6, 3) := by decide +kernel
theorem dX10_chain_8 : decode cX10_chain 8 = .ok (.bipush (-2), 2) := by decide +kernel
theorem dX10_chain_10 : decode cX10_chain 10 = .ok (.ireturn, 1) := by decide +kernel
theorem dX10_rings_0 : decode cX10_rings 0 = .ok (.aload_n 0, 1) := by decide +kernel
theorem dX10_rings_1 : decode cX10_rings 1 = .ok (.invokevirtual 203, 3) := by decide +kernel
theorem dX10_rings_4 : decode cX10_rings 4 = .ok (.ifCond .eq 11, 3) := by decide +kernel
theorem dX10_rings_15 : decode cX10_rings 15 = .ok (.bipush (-2), 2) := by decide +kernel
theorem dX10_rings_17 : decode cX10_rings 17 = .ok (.ireturn, 1) := by decide +kernel
theorem dX10_owns_0 : decode cX10_owns 0 = .ok (.aload_n 0, 1) := by decide +kernel
theorem dX10_owns_1 : decode cX10_owns 1 = .ok (.iload_n 1, 1) := by decide +kernel
theorem dX10_owns_2 : decode cX10_owns 2 = .ok (.invokevirtual 121, 3) := by decide +kernel
theorem dX10_owns_5 : decode cX10_owns 5 = .ok (.ifCond .eq 11, 3) := by decide +kernel
theorem dX10_owns_16 : decode cX10_owns 16 = .ok (.bipush (-2), 2) := by decide +kernel
theorem dX10_owns_18 : decode cX10_owns 18 = .ok (.ireturn, 1) := by decide +kernel
theorem dX10_twice_0 : decode cX10_twice 0 = .ok (.aload_n 0, 1) := by decide +kernel
theorem dX10_twice_1 : decode cX10_twice 1 = .ok (.invokevirtual 203, 3) := by decide +kernel
theorem dX10_twice_4 : decode cX10_twice 4 = .ok (.ifCond .eq 17, 3) := by decide +kernel
theorem dX10_twice_21 : decode cX10_twice 21 = .ok (.bipush (-2), 2) := by decide +kernel
theorem dX10_twice_23 : decode cX10_twice 23 = .ok (.ireturn, 1) := by decide +kernel
theorem dX10_strikes_0 : decode cX10_strikes 0 = .ok (.aload_n 0, 1) := by decide +kernel
theorem dX10_strikes_1 : decode cX10_strikes 1 = .ok (.invokevirtual 203, 3) := by decide +kernel
theorem dX10_strikes_4 : decode cX10_strikes 4 = .ok (.ifCond .eq 20, 3) := by decide +kernel
theorem dX10_strikes_24 : decode cX10_strikes 24 = .ok (.bipush (-2), 2) := by decide +kernel
theorem dX10_strikes_26 : decode cX10_strikes 26 = .ok (.ireturn, 1) := by decide +kernel
theorem dX10_struck_0 : decode cX10_struck 0 = .ok (.aload_n 0, 1) := by decide +kernel
theorem dX10_struck_1 : decode cX10_struck 1 = .ok (.invokevirtual 203, 3) := by decide +kernel
theorem dX10_struck_4 : decode cX10_struck 4 = .ok (.ifCond .eq 17, 3) := by decide +kernel
theorem dX10_struck_21 : decode cX10_struck 21 = .ok (.bipush (-2), 2) := by decide +kernel
theorem dX10_struck_23 : decode cX10_struck 23 = .ok (.ireturn, 1) := by decide +kernel
theorem dX10_trail_0 : decode cX10_trail 0 = .ok (.aload_n 0, 1) := by decide +kernel
theorem dX10_trail_1 : decode cX10_trail 1 = .ok (.iload_n 1, 1) := by decide +kernel
theorem dX10_trail_2 : decode cX10_trail 2 = .ok (.invokevirtual 142, 3) := by decide +kernel
theorem dX10_trail_5 : decode cX10_trail 5 = .ok (.ifCond .ne 6, 3) := by decide +kernel
theorem dX10_trail_8 : decode cX10_trail 8 = .ok (.bipush (-2), 2) := by decide +kernel
theorem dX10_trail_10 : decode cX10_trail 10 = .ok (.ireturn, 1) := by decide +kernel
theorem dX10_went_0 : decode cX10_went 0 = .ok (.aload_n 0, 1) := by decide +kernel
theorem dX10_went_1 : decode cX10_went 1 = .ok (.iload_n 1, 1) := by decide +kernel
theorem dX10_went_2 : decode cX10_went 2 = .ok (.invokevirtual 142, 3) := by decide +kernel
theorem dX10_went_5 : decode cX10_went 5 = .ok (.ifCond .eq 15, 3) := by decide +kernel
theorem dX10_went_20 : decode cX10_went 20 = .ok (.bipush (-2), 2) := by decide +kernel
theorem dX10_went_22 : decode cX10_went 22 = .ok (.ireturn, 1) := by decide +kernel
theorem dX10_lies_0 : decode cX10_lies 0 = .ok (.aload_n 0, 1) := by decide +kernel
theorem dX10_lies_1 : decode cX10_lies 1 = .ok (.iload_n 1, 1) := by decide +kernel
theorem dX10_lies_2 : decode cX10_lies 2 = .ok (.invokevirtual 121, 3) := by decide +kernel
theorem dX10_lies_5 : decode cX10_lies 5 = .ok (.ifCond .eq 14, 3) := by decide +kernel
theorem dX10_lies_19 : decode cX10_lies 19 = .ok (.bipush (-2), 2) := by decide +kernel
theorem dX10_lies_21 : decode cX10_lies 21 = .ok (.ireturn, 1) := by decide +kernel
theorem dX10_poorest_0 : decode cX10_poorest 0 = .ok (.aload_n 0, 1) := by decide +kernel
theorem dX10_poorest_1 : decode cX10_poorest 1 = .ok (.invokevirtual 203, 3) := by decide +kernel
theorem dX10_poorest_4 : decode cX10_poorest 4 = .ok (.ifCond .ne 6, 3) := by decide +kernel
theorem dX10_poorest_7 : decode cX10_poorest 7 = .ok (.bipush (-2), 2) := by decide +kernel
theorem dX10_poorest_9 : decode cX10_poorest 9 = .ok (.ireturn, 1) := by decide +kernel
theorem dX10_due_0 : decode cX10_due 0 = .ok (.aload_n 0, 1) := by decide +kernel
theorem dX10_due_1 : decode cX10_due 1 = .ok (.invokevirtual 203, 3) := by decide +kernel
theorem dX10_due_4 : decode cX10_due 4 = .ok (.ifCond .eq 13, 3) := by decide +kernel
theorem dX10_due_17 : decode cX10_due 17 = .ok (.bipush (-2), 2) := by decide +kernel
theorem dX10_due_19 : decode cX10_due 19 = .ok (.ireturn, 1) := by decide +kernel
theorem dX10_monday_0 : decode cX10_monday 0 = .ok (.aload_n 0, 1) := by decide +kernel
theorem dX10_monday_1 : decode cX10_monday 1 = .ok (.invokevirtual 203, 3) := by decide +kernel
theorem dX10_monday_4 : decode cX10_monday 4 = .ok (.ifCond .ne 6, 3) := by decide +kernel
theorem dX10_monday_7 : decode cX10_monday 7 = .ok (.bipush (-2), 2) := by decide +kernel
theorem dX10_monday_9 : decode cX10_monday 9 = .ok (.ireturn, 1) := by decide +kernel
theorem dX10_lacks_0 : decode cX10_lacks 0 = .ok (.aload_n 0, 1) := by decide +kernel
theorem dX10_lacks_1 : decode cX10_lacks 1 = .ok (.iload_n 1, 1) := by decide +kernel
theorem dX10_lacks_2 : decode cX10_lacks 2 = .ok (.invokevirtual 121, 3) := by decide +kernel
theorem dX10_lacks_5 : decode cX10_lacks 5 = .ok (.ifCond .eq 14, 3) := by decide +kernel
theorem dX10_lacks_19 : decode cX10_lacks 19 = .ok (.bipush (-2), 2) := by decide +kernel
theorem dX10_lacks_21 : decode cX10_lacks 21 = .ok (.ireturn, 1) := by decide +kernel
theorem dX10_needs_0 : decode cX10_needs 0 = .ok (.aload_n 0, 1) := by decide +kernel
theorem dX10_needs_1 : decode cX10_needs 1 = .ok (.iload_n 1, 1) := by decide +kernel
theorem dX10_needs_2 : decode cX10_needs 2 = .ok (.invokevirtual 121, 3) := by decide +kernel
theorem dX10_needs_5 : decode cX10_needs 5 = .ok (.ifCond .ne 6, 3) := by decide +kernel
theorem dX10_needs_8 : decode cX10_needs 8 = .ok (.bipush (-2), 2) := by decide +kernel
theorem dX10_needs_10 : decode cX10_needs 10 = .ok (.ireturn, 1) := by decide +kernel
theorem dX10_fails_0 : decode cX10_fails 0 = .ok (.aload_n 0, 1) := by decide +kernel
theorem dX10_fails_1 : decode cX10_fails 1 = .ok (.invokevirtual 203, 3) := by decide +kernel
theorem dX10_fails_4 : decode cX10_fails 4 = .ok (.ifCond .eq 18, 3) := by decide +kernel
theorem dX10_fails_22 : decode cX10_fails 22 = .ok (.bipush (-2), 2) := by decide +kernel
theorem dX10_fails_24 : decode cX10_fails 24 = .ok (.ireturn, 1) := by decide +kernel
theorem dX10_later_0 : decode cX10_later 0 = .ok (.aload_n 0, 1) := by decide +kernel
theorem dX10_later_1 : decode cX10_later 1 = .ok (.iload_n 1, 1) := by decide +kernel
theorem dX10_later_2 : decode cX10_later 2 = .ok (.invokevirtual 142, 3) := by decide +kernel
theorem dX10_later_5 : decode cX10_later 5 = .ok (.ifCond .eq 10, 3) := by decide +kernel
theorem dX10_later_15 : decode cX10_later 15 = .ok (.bipush (-2), 2) := by decide +kernel
theorem dX10_later_17 : decode cX10_later 17 = .ok (.ireturn, 1) := by decide +kernel
theorem dX10_purse_0 : decode cX10_purse 0 = .ok (.aload_n 0, 1) := by decide +kernel
theorem dX10_purse_1 : decode cX10_purse 1 = .ok (.iload_n 1, 1) := by decide +kernel
theorem dX10_purse_2 : decode cX10_purse 2 = .ok (.invokevirtual 121, 3) := by decide +kernel
theorem dX10_purse_5 : decode cX10_purse 5 = .ok (.ifCond .eq 10, 3) := by decide +kernel
theorem dX10_purse_15 : decode cX10_purse 15 = .ok (.bipush (-2), 2) := by decide +kernel
theorem dX10_purse_17 : decode cX10_purse 17 = .ok (.ireturn, 1) := by decide +kernel
theorem dX10_run_0 : decode cX10_run 0 = .ok (.aload_n 0, 1) := by decide +kernel
theorem dX10_run_1 : decode cX10_run 1 = .ok (.invokevirtual 203, 3) := by decide +kernel
theorem dX10_run_4 : decode cX10_run 4 = .ok (.ifCond .ne 6, 3) := by decide +kernel
theorem dX10_run_7 : decode cX10_run 7 = .ok (.bipush (-2), 2) := by decide +kernel
theorem dX10_run_9 : decode cX10_run 9 = .ok (.ireturn, 1) := by decide +kernel
theorem dX10_hit_0 : decode cX10_hit 0 = .ok (.aload_n 0, 1) := by decide +kernel
theorem dX10_hit_1 : decode cX10_hit 1 = .ok (.iload_n 1, 1) := by decide +kernel
theorem dX10_hit_2 : decode cX10_hit 2 = .ok (.invokevirtual 121, 3) := by decide +kernel
theorem dX10_hit_5 : decode cX10_hit 5 = .ok (.ifCond .ne 6, 3) := by decide +kernel
theorem dX10_hit_8 : decode cX10_hit 8 = .ok (.bipush (-2), 2) := by decide +kernel
theorem dX10_hit_10 : decode cX10_hit 10 = .ok (.ireturn, 1) := by decide +kernel
theorem dX10_hits_0 : decode cX10_hits 0 = .ok (.aload_n 0, 1) := by decide +kernel
theorem dX10_hits_1 : decode cX10_hits 1 = .ok (.iload_n 1, 1) := by decide +kernel
theorem dX10_hits_2 : decode cX10_hits 2 = .ok (.invokevirtual 121, 3) := by decide +kernel
theorem dX10_hits_5 : decode cX10_hits 5 = .ok (.ifCond .eq 11, 3) := by decide +kernel
theorem dX10_hits_16 : decode cX10_hits 16 = .ok (.bipush (-2), 2) := by decide +kernel
theorem dX10_hits_18 : decode cX10_hits 18 = .ok (.ireturn, 1) := by decide +kernel
theorem dX10_plan_0 : decode cX10_plan 0 = .ok (.aload_n 0, 1) := by decide +kernel
theorem dX10_plan_1 : decode cX10_plan 1 = .ok (.iload_n 1, 1) := by decide +kernel
theorem dX10_plan_2 : decode cX10_plan 2 = .ok (.invokevirtual 121, 3) := by decide +kernel
theorem dX10_plan_5 : decode cX10_plan 5 = .ok (.ifCond .eq 13, 3) := by decide +kernel
theorem dX10_plan_18 : decode cX10_plan 18 = .ok (.bipush (-2), 2) := by decide +kernel
theorem dX10_plan_20 : decode cX10_plan 20 = .ok (.ireturn, 1) := by decide +kernel
theorem dX10_plans_0 : decode cX10_plans 0 = .ok (.aload_n 0, 1) := by decide +kernel
theorem dX10_plans_1 : decode cX10_plans 1 = .ok (.iload_n 1, 1) := by decide +kernel
theorem dX10_plans_2 : decode cX10_plans 2 = .ok (.invokevirtual 121, 3) := by decide +kernel
theorem dX10_plans_5 : decode cX10_plans 5 = .ok (.ifCond .eq 13, 3) := by decide +kernel
theorem dX10_plans_18 : decode cX10_plans 18 = .ok (.bipush (-2), 2) := by decide +kernel
theorem dX10_plans_20 : decode cX10_plans 20 = .ok (.ireturn, 1) := by decide +kernel
theorem dX10_change_0 : decode cX10_change 0 = .ok (.aload_n 0, 1) := by decide +kernel
theorem dX10_change_1 : decode cX10_change 1 = .ok (.iload_n 1, 1) := by decide +kernel
theorem dX10_change_2 : decode cX10_change 2 = .ok (.invokevirtual 121, 3) := by decide +kernel
theorem dX10_change_5 : decode cX10_change 5 = .ok (.ifCond .eq 16, 3) := by decide +kernel
theorem dX10_change_21 : decode cX10_change 21 = .ok (.bipush (-2), 2) := by decide +kernel
theorem dX10_change_23 : decode cX10_change 23 = .ok (.ireturn, 1) := by decide +kernel
theorem dX10_deal_0 : decode cX10_deal 0 = .ok (.aload_n 0, 1) := by decide +kernel
theorem dX10_deal_1 : decode cX10_deal 1 = .ok (.invokevirtual 203, 3) := by decide +kernel
theorem dX10_deal_4 : decode cX10_deal 4 = .ok (.ifCond .eq 17, 3) := by decide +kernel
theorem dX10_deal_21 : decode cX10_deal 21 = .ok (.bipush (-2), 2) := by decide +kernel
theorem dX10_deal_23 : decode cX10_deal 23 = .ok (.ireturn, 1) := by decide +kernel
theorem dX10_deals_0 : decode cX10_deals 0 = .ok (.aload_n 0, 1) := by decide +kernel
theorem dX10_deals_1 : decode cX10_deals 1 = .ok (.iload_n 1, 1) := by decide +kernel
theorem dX10_deals_2 : decode cX10_deals 2 = .ok (.invokevirtual 142, 3) := by decide +kernel
theorem dX10_deals_5 : decode cX10_deals 5 = .ok (.ifCond .eq 18, 3) := by decide +kernel
theorem dX10_deals_23 : decode cX10_deals 23 = .ok (.bipush (-2), 2) := by decide +kernel
theorem dX10_deals_25 : decode cX10_deals 25 = .ok (.ireturn, 1) := by decide +kernel
theorem dX10_rests_0 : decode cX10_rests 0 = .ok (.aload_n 0, 1) := by decide +kernel
theorem dX10_rests_1 : decode cX10_rests 1 = .ok (.invokevirtual 203, 3) := by decide +kernel
theorem dX10_rests_4 : decode cX10_rests 4 = .ok (.ifCond .eq 10, 3) := by decide +kernel
theorem dX10_rests_14 : decode cX10_rests 14 = .ok (.bipush (-2), 2) := by decide +kernel
theorem dX10_rests_16 : decode cX10_rests 16 = .ok (.ireturn, 1) := by decide +kernel
theorem dX10_rest_0 : decode cX10_rest 0 = .ok (.aload_n 0, 1) := by decide +kernel
theorem dX10_rest_1 : decode cX10_rest 1 = .ok (.invokevirtual 203, 3) := by decide +kernel
theorem dX10_rest_4 : decode cX10_rest 4 = .ok (.ifCond .eq 10, 3) := by decide +kernel
theorem dX10_rest_14 : decode cX10_rest 14 = .ok (.bipush (-2), 2) := by decide +kernel
theorem dX10_rest_16 : decode cX10_rest 16 = .ok (.ireturn, 1) := by decide +kernel
theorem dX10_dear_0 : decode cX10_dear 0 = .ok (.aload_n 0, 1) := by decide +kernel
theorem dX10_dear_1 : decode cX10_dear 1 = .ok (.invokevirtual 203, 3) := by decide +kernel
theorem dX10_dear_4 : decode cX10_dear 4 = .ok (.ifCond .ne 6, 3) := by decide +kernel
theorem dX10_dear_7 : decode cX10_dear 7 = .ok (.bipush (-2), 2) := by decide +kernel
theorem dX10_dear_9 : decode cX10_dear 9 = .ok (.ireturn, 1) := by decide +kernel
theorem dX10_wrong_0 : decode cX10_wrong 0 = .ok (.aload_n 0, 1) := by decide +kernel
theorem dX10_wrong_1 : decode cX10_wrong 1 = .ok (.iload_n 1, 1) := by decide +kernel
theorem dX10_wrong_2 : decode cX10_wrong 2 = .ok (.invokevirtual 321, 3) := by decide +kernel
theorem dX10_wrong_5 : decode cX10_wrong 5 = .ok (.istore_n 2, 1) := by decide +kernel
theorem dX10_wrong_6 : decode cX10_wrong 6 = .ok (.iload_n 2, 1) := by decide +kernel
theorem dX10_wrong_7 : decode cX10_wrong 7 = .ok (.ifCond .ne 13, 3) := by decide +kernel
theorem dX10_wrong_20 : decode cX10_wrong 20 = .ok (.iload_n 2, 1) := by decide +kernel
theorem dX10_wrong_21 : decode cX10_wrong 21 = .ok (.ireturn, 1) := by decide +kernel
theorem dX10_forged_0 : decode cX10_forged 0 = .ok (.aload_n 0, 1) := by decide +kernel
theorem dX10_forged_1 : decode cX10_forged 1 = .ok (.iload_n 1, 1) := by decide +kernel
theorem dX10_forged_2 : decode cX10_forged 2 = .ok (.invokevirtual 321, 3) := by decide +kernel
theorem dX10_forged_5 : decode cX10_forged 5 = .ok (.istore_n 2, 1) := by decide +kernel
theorem dX10_forged_6 : decode cX10_forged 6 = .ok (.iload_n 2, 1) := by decide +kernel
theorem dX10_forged_7 : decode cX10_forged 7 = .ok (.ifCond .ne 13, 3) := by decide +kernel
theorem dX10_forged_20 : decode cX10_forged 20 = .ok (.iload_n 2, 1) := by decide +kernel
theorem dX10_forged_21 : decode cX10_forged 21 = .ok (.ireturn, 1) := by decide +kernel
theorem dX10_argued_0 : decode cX10_argued 0 = .ok (.aload_n 0, 1) := by decide +kernel
theorem dX10_argued_1 : decode cX10_argued 1 = .ok (.iload_n 1, 1) := by decide +kernel
theorem dX10_argued_2 : decode cX10_argued 2 = .ok (.invokevirtual 321, 3) := by decide +kernel
theorem dX10_argued_5 : decode cX10_argued 5 = .ok (.istore_n 2, 1) := by decide +kernel
theorem dX10_argued_6 : decode cX10_argued 6 = .ok (.iload_n 2, 1) := by decide +kernel
theorem dX10_argued_7 : decode cX10_argued 7 = .ok (.ifCond .ne 13, 3) := by decide +kernel
theorem dX10_argued_20 : decode cX10_argued 20 = .ok (.iload_n 2, 1) := by decide +kernel
theorem dX10_argued_21 : decode cX10_argued 21 = .ok (.ireturn, 1) := by decide +kernel
theorem dX10_drawn_0 : decode cX10_drawn 0 = .ok (.aload_n 0, 1) := by decide +kernel
theorem dX10_drawn_1 : decode cX10_drawn 1 = .ok (.invokevirtual 203, 3) := by decide +kernel
theorem dX10_drawn_4 : decode cX10_drawn 4 = .ok (.ifCond .eq 20, 3) := by decide +kernel
theorem dX10_drawn_24 : decode cX10_drawn 24 = .ok (.bipush (-2), 2) := by decide +kernel
theorem dX10_drawn_26 : decode cX10_drawn 26 = .ok (.ireturn, 1) := by decide +kernel
theorem dX10_luck_0 : decode cX10_luck 0 = .ok (.aload_n 0, 1) := by decide +kernel
theorem dX10_luck_1 : decode cX10_luck 1 = .ok (.iload 4, 2) := by decide +kernel
theorem dX10_luck_3 : decode cX10_luck 3 = .ok (.invokevirtual 142, 3) := by decide +kernel
theorem dX10_luck_6 : decode cX10_luck 6 = .ok (.ifCond .eq 31, 3) := by decide +kernel
theorem dX10_luck_37 : decode cX10_luck 37 = .ok (.bipush (-2), 2) := by decide +kernel
theorem dX10_luck_39 : decode cX10_luck 39 = .ok (.ireturn, 1) := by decide +kernel
theorem dX10_rate_0 : decode cX10_rate 0 = .ok (.aload_n 0, 1) := by decide +kernel
theorem dX10_rate_1 : decode cX10_rate 1 = .ok (.iload_n 1, 1) := by decide +kernel
theorem dX10_rate_2 : decode cX10_rate 2 = .ok (.invokevirtual 142, 3) := by decide +kernel
theorem dX10_rate_5 : decode cX10_rate 5 = .ok (.ifCond .eq 15, 3) := by decide +kernel
theorem dX10_rate_20 : decode cX10_rate 20 = .ok (.bipush (-2), 2) := by decide +kernel
theorem dX10_rate_22 : decode cX10_rate 22 = .ok (.ireturn, 1) := by decide +kernel
theorem dX10_want_0 : decode cX10_want 0 = .ok (.aload_n 0, 1) := by decide +kernel
theorem dX10_want_1 : decode cX10_want 1 = .ok (.iload_n 1, 1) := by decide +kernel
theorem dX10_want_2 : decode cX10_want 2 = .ok (.invokevirtual 121, 3) := by decide +kernel
theorem dX10_want_5 : decode cX10_want 5 = .ok (.ifCond .eq 22, 3) := by decide +kernel
theorem dX10_want_27 : decode cX10_want 27 = .ok (.bipush (-2), 2) := by decide +kernel
theorem dX10_want_29 : decode cX10_want 29 = .ok (.ireturn, 1) := by decide +kernel
theorem dX10_end_0 : decode cX10_end 0 = .ok (.iload_n 1, 1) := by decide +kernel
theorem dX10_end_1 : decode cX10_end 1 = .ok (.ifCond .lt 14, 3) := by decide +kernel
theorem dX10_end_15 : decode cX10_end 15 = .ok (.iconst (-1), 1) := by decide +kernel
theorem dX10_end_16 : decode cX10_end 16 = .ok (.ireturn, 1) := by decide +kernel
theorem dX10_end_4 : decode cX10_end 4 = .ok (.iload_n 1, 1) := by decide +kernel
theorem dX10_end_5 : decode cX10_end 5 = .ok (.aload_n 0, 1) := by decide +kernel
theorem dX10_end_6 : decode cX10_end 6 = .ok (.getfield 10, 3) := by decide +kernel
theorem dX10_end_9 : decode cX10_end 9 = .ok (.getfield 95, 3) := by decide +kernel
theorem dX10_end_12 : decode cX10_end 12 = .ok (.if_icmp .le 5, 3) := by decide +kernel
theorem dX10_end_17 : decode cX10_end 17 = .ok (.aload_n 0, 1) := by decide +kernel
theorem dX10_end_18 : decode cX10_end 18 = .ok (.getfield 10, 3) := by decide +kernel
theorem dX10_end_21 : decode cX10_end 21 = .ok (.iload_n 1, 1) := by decide +kernel
theorem dX10_end_22 : decode cX10_end 22 = .ok (.putfield 95, 3) := by decide +kernel
theorem dX10_end_25 : decode cX10_end 25 = .ok (.iload_n 1, 1) := by decide +kernel
theorem dX10_end_26 : decode cX10_end 26 = .ok (.ireturn, 1) := by decide +kernel
theorem dX10_fault_0 : decode cX10_fault 0 = .ok (.iload_n 1, 1) := by decide +kernel
theorem dX10_fault_1 : decode cX10_fault 1 = .ok (.ifCond .ne 11, 3) := by decide +kernel
theorem dX10_fault_12 : decode cX10_fault 12 = .ok (.iload_n 1, 1) := by decide +kernel
theorem dX10_fault_13 : decode cX10_fault 13 = .ok (.iconst 1, 1) := by decide +kernel
theorem dX10_fault_14 : decode cX10_fault 14 = .ok (.if_icmp .ne 13, 3) := by decide +kernel
theorem dX10_fault_27 : decode cX10_fault 27 = .ok (.iconst (-1), 1) := by decide +kernel
theorem dX10_fault_28 : decode cX10_fault 28 = .ok (.ireturn, 1) := by decide +kernel
theorem dX10_fault_17 : decode cX10_fault 17 = .ok (.aload_n 0, 1) := by decide +kernel
theorem dX10_fault_18 : decode cX10_fault 18 = .ok (.getfield 10, 3) := by decide +kernel
theorem dX10_fault_21 : decode cX10_fault 21 = .ok (.getfield 118, 3) := by decide +kernel
theorem dX10_fault_24 : decode cX10_fault 24 = .ok (.goto 4, 3) := by decide +kernel
theorem dX10_fault_4 : decode cX10_fault 4 = .ok (.aload_n 0, 1) := by decide +kernel
theorem dX10_fault_5 : decode cX10_fault 5 = .ok (.getfield 10, 3) := by decide +kernel
theorem dX10_fault_8 : decode cX10_fault 8 = .ok (.getfield 115, 3) := by decide +kernel
theorem dX10_fault_11 : decode cX10_fault 11 = .ok (.ireturn, 1) := by decide +kernel
theorem dX6_isThere_0 : decode cX6_isThere 0 = .ok (.aload_n 0, 1) := by decide +kernel
theorem dX6_isThere_1 : decode cX6_isThere 1 = .ok (.getfield 9, 3) := by decide +kernel
theorem dX6_isThere_4 : decode cX6_isThere 4 = .ok (.iconst (-1), 1) := by decide +kernel
theorem dX6_isThere_5 : decode cX6_isThere 5 = .ok (.if_icmp .eq 7, 3) := by decide +kernel
theorem dX6_isThere_12 : decode cX6_isThere 12 = .ok (.iconst 0, 1) := by decide +kernel
theorem dX6_isThere_13 : decode cX6_isThere 13 = .ok (.ireturn, 1) := by decide +kernel
theorem dX10_filledSlots_0 : decode cX10_filledSlots 0 = .ok (.iconst 0, 1) := by decide +kernel
theorem dX10_filledSlots_1 : decode cX10_filledSlots 1 = .ok (.istore_n 1, 1) := by decide +kernel
theorem dX10_filledSlots_2 : decode cX10_filledSlots 2 = .ok (.iconst 0, 1) := by decide +kernel
theorem dX10_filledSlots_3 : decode cX10_filledSlots 3 = .ok (.istore_n 2, 1) := by decide +kernel
theorem dX10_filledSlots_4 : decode cX10_filledSlots 4 = .ok (.iload_n 2, 1) := by decide +kernel
theorem dX10_filledSlots_5 : decode cX10_filledSlots 5 = .ok (.iconst 4, 1) := by decide +kernel
theorem dX10_filledSlots_6 : decode cX10_filledSlots 6 = .ok (.if_icmp .ge 29, 3) := by decide +kernel
theorem dX10_filledSlots_9 : decode cX10_filledSlots 9 = .ok (.iload_n 1, 1) := by decide +kernel
theorem dX10_filledSlots_10 : decode cX10_filledSlots 10 = .ok (.aload_n 0, 1) := by decide +kernel
theorem dX10_filledSlots_11 : decode cX10_filledSlots 11 = .ok (.getfield 81, 3) := by decide +kernel
theorem dX10_filledSlots_14 : decode cX10_filledSlots 14 = .ok (.iload_n 2, 1) := by decide +kernel
theorem dX10_filledSlots_15 : decode cX10_filledSlots 15 = .ok (.aaload, 1) := by decide +kernel
theorem dX10_filledSlots_16 : decode cX10_filledSlots 16 = .ok (.invokevirtual 373, 3) := by decide +kernel
theorem dX10_filledSlots_19 : decode cX10_filledSlots 19 = .ok (.ifCond .eq 7, 3) := by decide +kernel
theorem dX10_filledSlots_26 : decode cX10_filledSlots 26 = .ok (.iconst 0, 1) := by decide +kernel
theorem dX10_filledSlots_27 : decode cX10_filledSlots 27 = .ok (.iadd, 1) := by decide +kernel
theorem dX10_filledSlots_28 : decode cX10_filledSlots 28 = .ok (.istore_n 1, 1) := by decide +kernel
theorem dX10_filledSlots_29 : decode cX10_filledSlots 29 = .ok (.iinc 2 1, 3) := by decide +kernel
theorem dX10_filledSlots_32 : decode cX10_filledSlots 32 = .ok (.goto (-28), 3) := by decide +kernel
theorem dX10_filledSlots_35 : decode cX10_filledSlots 35 = .ok (.iload_n 1, 1) := by decide +kernel
theorem dX10_filledSlots_36 : decode cX10_filledSlots 36 = .ok (.ireturn, 1) := by decide +kernel
theorem dX10_count_0 : decode cX10_count 0 = .ok (.iload_n 1, 1) := by decide +kernel
theorem dX10_count_1 : decode cX10_count 1 = .ok (.tableswitch 132 0 9 #[55, 63, 71, 79, 87, 95, 103, 111, 119, 127], 55) := by decide +kernel
theorem dX10_count_133 : decode cX10_count 133 = .ok (.iconst (-1), 1) := by decide +kernel
theorem dX10_count_134 : decode cX10_count 134 = .ok (.ireturn, 1) := by decide +kernel
theorem dX10_count_56 : decode cX10_count 56 = .ok (.aload_n 0, 1) := by decide +kernel
theorem dX10_count_57 : decode cX10_count 57 = .ok (.getfield 19, 3) := by decide +kernel
theorem dX10_count_60 : decode cX10_count 60 = .ok (.getfield 346, 3) := by decide +kernel
theorem dX10_count_63 : decode cX10_count 63 = .ok (.ireturn, 1) := by decide +kernel
theorem dX10_count_64 : decode cX10_count 64 = .ok (.aload_n 0, 1) := by decide +kernel
theorem dX10_count_65 : decode cX10_count 65 = .ok (.getfield 19, 3) := by decide +kernel
theorem dX10_count_68 : decode cX10_count 68 = .ok (.getfield 349, 3) := by decide +kernel
theorem dX10_count_71 : decode cX10_count 71 = .ok (.ireturn, 1) := by decide +kernel
theorem dX10_count_72 : decode cX10_count 72 = .ok (.aload_n 0, 1) := by decide +kernel
theorem dX10_count_73 : decode cX10_count 73 = .ok (.getfield 19, 3) := by decide +kernel
theorem dX10_count_76 : decode cX10_count 76 = .ok (.getfield 352, 3) := by decide +kernel
theorem dX10_count_79 : decode cX10_count 79 = .ok (.ireturn, 1) := by decide +kernel
theorem dX10_count_80 : decode cX10_count 80 = .ok (.aload_n 0, 1) := by decide +kernel
theorem dX10_count_81 : decode cX10_count 81 = .ok (.getfield 19, 3) := by decide +kernel
theorem dX10_count_84 : decode cX10_count 84 = .ok (.getfield 255, 3) := by decide +kernel
theorem dX10_count_87 : decode cX10_count 87 = .ok (.ireturn, 1) := by decide +kernel
theorem dX10_count_88 : decode cX10_count 88 = .ok (.aload_n 0, 1) := by decide +kernel
theorem dX10_count_89 : decode cX10_count 89 = .ok (.getfield 19, 3) := by decide +kernel
theorem dX10_count_92 : decode cX10_count 92 = .ok (.getfield 296, 3) := by decide +kernel
theorem dX10_count_95 : decode cX10_count 95 = .ok (.ireturn, 1) := by decide +kernel
theorem dX10_count_96 : decode cX10_count 96 = .ok (.aload_n 0, 1) := by decide +kernel
theorem dX10_count_97 : decode cX10_count 97 = .ok (.getfield 38, 3) := by decide +kernel
theorem dX10_count_100 : decode cX10_count 100 = .ok (.getfield 339, 3) := by decide +kernel
theorem dX10_count_103 : decode cX10_count 103 = .ok (.ireturn, 1) := by decide +kernel
theorem dX10_count_104 : decode cX10_count 104 = .ok (.aload_n 0, 1) := by decide +kernel
theorem dX10_count_105 : decode cX10_count 105 = .ok (.getfield 29, 3) := by decide +kernel
theorem dX10_count_108 : decode cX10_count 108 = .ok (.getfield 106, 3) := by decide +kernel
theorem dX10_count_111 : decode cX10_count 111 = .ok (.ireturn, 1) := by decide +kernel
theorem dX10_count_112 : decode cX10_count 112 = .ok (.aload_n 0, 1) := by decide +kernel
theorem dX10_count_113 : decode cX10_count 113 = .ok (.getfield 19, 3) := by decide +kernel
theorem dX10_count_116 : decode cX10_count 116 = .ok (.getfield 112, 3) := by decide +kernel
theorem dX10_count_119 : decode cX10_count 119 = .ok (.ireturn, 1) := by decide +kernel
theorem dX10_count_120 : decode cX10_count 120 = .ok (.aload_n 0, 1) := by decide +kernel
theorem dX10_count_121 : decode cX10_count 121 = .ok (.getfield 10, 3) := by decide +kernel
theorem dX10_count_124 : decode cX10_count 124 = .ok (.getfield 95, 3) := by decide +kernel
theorem dX10_count_127 : decode cX10_count 127 = .ok (.ireturn, 1) := by decide +kernel
theorem dX10_count_128 : decode cX10_count 128 = .ok (.aload_n 0, 1) := by decide +kernel
theorem dX10_count_129 : decode cX10_count 129 = .ok (.invokevirtual 355, 3) := by decide +kernel
theorem dX10_count_132 : decode cX10_count 132 = .ok (.ireturn, 1) := by decide +kernel
theorem dX10_back_0 : decode cX10_back 0 = .ok (.iload_n 1, 1) := by decide +kernel
theorem dX10_back_1 : decode cX10_back 1 = .ok (.ifCond .lt 8, 3) := by decide +kernel
theorem dX10_back_9 : decode cX10_back 9 = .ok (.bipush (-2), 2) := by decide +kernel
theorem dX10_back_11 : decode cX10_back 11 = .ok (.ireturn, 1) := by decide +kernel
theorem dX10_back_4 : decode cX10_back 4 = .ok (.iload_n 1, 1) := by decide +kernel
theorem dX10_back_5 : decode cX10_back 5 = .ok (.iconst 3, 1) := by decide +kernel
theorem dX10_back_6 : decode cX10_back 6 = .ok (.if_icmp .lt 6, 3) := by decide +kernel
theorem dX10_back_12 : decode cX10_back 12 = .ok (.aload_n 0, 1) := by decide +kernel
theorem dX10_back_13 : decode cX10_back 13 = .ok (.getfield 75, 3) := by decide +kernel
theorem dX10_back_16 : decode cX10_back 16 = .ok (.iload_n 1, 1) := by decide +kernel
theorem dX10_back_17 : decode cX10_back 17 = .ok (.aaload, 1) := by decide +kernel
theorem dX10_back_18 : decode cX10_back 18 = .ok (.astore_n 2, 1) := by decide +kernel
theorem dX10_back_19 : decode cX10_back 19 = .ok (.aload_n 2, 1) := by decide +kernel
theorem dX10_back_20 : decode cX10_back 20 = .ok (.getfield 358, 3) := by decide +kernel
theorem dX10_back_23 : decode cX10_back 23 = .ok (.ifCond .ne 6, 3) := by decide +kernel
theorem dX10_back_26 : decode cX10_back 26 = .ok (.bipush (-6), 2) := by decide +kernel
theorem dX10_back_28 : decode cX10_back 28 = .ok (.ireturn, 1) := by decide +kernel
theorem dX10_write_0 : decode cX10_write 0 = .ok (.iload_n 1, 1) := by decide +kernel
theorem dX10_write_1 : decode cX10_write 1 = .ok (.invokestatic 367, 3) := by decide +kernel
theorem dX10_write_4 : decode cX10_write 4 = .ok (.ifCond .ne 6, 3) := by decide +kernel
theorem dX10_write_10 : decode cX10_write 10 = .ok (.aload_n 0, 1) := by decide +kernel
theorem dX10_write_11 : decode cX10_write 11 = .ok (.getfield 81, 3) := by decide +kernel
theorem dX10_write_14 : decode cX10_write 14 = .ok (.iload_n 1, 1) := by decide +kernel
theorem dX10_write_15 : decode cX10_write 15 = .ok (.aaload, 1) := by decide +kernel
theorem dX10_write_16 : decode cX10_write 16 = .ok (.astore 5, 2) := by decide +kernel
theorem dX10_write_18 : decode cX10_write 18 = .ok (.aload 5, 2) := by decide +kernel
theorem dX10_write_20 : decode cX10_write 20 = .ok (.invokevirtual 373, 3) := by decide +kernel
theorem dX10_write_23 : decode cX10_write 23 = .ok (.ifCond .ne 6, 3) := by decide +kernel
theorem dX10_write_26 : decode cX10_write 26 = .ok (.bipush (-6), 2) := by decide +kernel
theorem dX10_write_28 : decode cX10_write 28 = .ok (.ireturn, 1) := by decide +kernel
theorem dX10_write_7 : decode cX10_write 7 = .ok (.bipush (-2), 2) := by decide +kernel
theorem dX10_write_9 : decode cX10_write 9 = .ok (.ireturn, 1) := by decide +kernel
theorem dX10_paste_0 : decode cX10_paste 0 = .ok (.iload_n 1, 1) := by decide +kernel
theorem dX10_paste_1 : decode cX10_paste 1 = .ok (.invokestatic 367, 3) := by decide +kernel
theorem dX10_paste_4 : decode cX10_paste 4 = .ok (.ifCond .eq 10, 3) := by decide +kernel
theorem dX10_paste_7 : decode cX10_paste 7 = .ok (.iload_n 3, 1) := by decide +kernel
theorem dX10_paste_8 : decode cX10_paste 8 = .ok (.invokestatic 367, 3) := by decide +kernel
theorem dX10_paste_11 : decode cX10_paste 11 = .ok (.ifCond .ne 6, 3) := by decide +kernel
theorem dX10_paste_17 : decode cX10_paste 17 = .ok (.aload_n 0, 1) := by decide +kernel
theorem dX10_paste_18 : decode cX10_paste 18 = .ok (.getfield 81, 3) := by decide +kernel
theorem dX10_paste_21 : decode cX10_paste 21 = .ok (.iload_n 1, 1) := by decide +kernel
theorem dX10_paste_22 : decode cX10_paste 22 = .ok (.aaload, 1) := by decide +kernel
theorem dX10_paste_23 : decode cX10_paste 23 = .ok (.astore 6, 2) := by decide +kernel
theorem dX10_paste_25 : decode cX10_paste 25 = .ok (.aload_n 0, 1) := by decide +kernel
theorem dX10_paste_26 : decode cX10_paste 26 = .ok (.getfield 81, 3) := by decide +kernel
theorem dX10_paste_29 : decode cX10_paste 29 = .ok (.iload_n 3, 1) := by decide +kernel
theorem dX10_paste_30 : decode cX10_paste 30 = .ok (.aaload, 1) := by decide +kernel
theorem dX10_paste_31 : decode cX10_paste 31 = .ok (.astore 7, 2) := by decide +kernel
theorem dX10_paste_33 : decode cX10_paste 33 = .ok (.aload 6, 2) := by decide +kernel
theorem dX10_paste_35 : decode cX10_paste 35 = .ok (.invokevirtual 373, 3) := by decide +kernel
theorem dX10_paste_38 : decode cX10_paste 38 = .ok (.ifCond .eq 11, 3) := by decide +kernel
theorem dX10_paste_49 : decode cX10_paste 49 = .ok (.bipush (-6), 2) := by decide +kernel
theorem dX10_paste_51 : decode cX10_paste 51 = .ok (.ireturn, 1) := by decide +kernel
theorem dX10_paste_14 : decode cX10_paste 14 = .ok (.bipush (-2), 2) := by decide +kernel
theorem dX10_paste_16 : decode cX10_paste 16 = .ok (.ireturn, 1) := by decide +kernel
theorem dX7_hasRoom_0 : decode cX7_hasRoom 0 = .ok (.aload_n 0, 1) := by decide +kernel
theorem dX7_hasRoom_1 : decode cX7_hasRoom 1 = .ok (.getfield 19, 3) := by decide +kernel
theorem dX7_hasRoom_4 : decode cX7_hasRoom 4 = .ok (.bipush 20, 2) := by decide +kernel
theorem dX7_hasRoom_6 : decode cX7_hasRoom 6 = .ok (.iadd, 1) := by decide +kernel
theorem dX7_hasRoom_7 : decode cX7_hasRoom 7 = .ok (.sipush 800, 3) := by decide +kernel
theorem dX7_hasRoom_10 : decode cX7_hasRoom 10 = .ok (.if_icmp .gt 7, 3) := by decide +kernel
theorem dX7_hasRoom_13 : decode cX7_hasRoom 13 = .ok (.iconst 1, 1) := by decide +kernel
theorem dX7_hasRoom_14 : decode cX7_hasRoom 14 = .ok (.goto 4, 3) := by decide +kernel
theorem dX7_hasRoom_18 : decode cX7_hasRoom 18 = .ok (.ireturn, 1) := by decide +kernel
theorem dX7_add_0 : decode cX7_add 0 = .ok (.bipush 24, 2) := by decide +kernel
theorem dX7_add_2 : decode cX7_add 2 = .ok (.istore_n 2, 1) := by decide +kernel
theorem dX7_add_3 : decode cX7_add 3 = .ok (.iload_n 2, 1) := by decide +kernel
theorem dX7_add_4 : decode cX7_add 4 = .ok (.ifCond .lt 42, 3) := by decide +kernel
theorem dX7_add_7 : decode cX7_add 7 = .ok (.aload_n 0, 1) := by decide +kernel
theorem dX7_add_8 : decode cX7_add 8 = .ok (.getfield 19, 3) := by decide +kernel
theorem dX7_add_11 : decode cX7_add 11 = .ok (.sipush 800, 3) := by decide +kernel
theorem dX7_add_14 : decode cX7_add 14 = .ok (.if_icmp .ge 32, 3) := by decide +kernel
theorem dX7_add_17 : decode cX7_add 17 = .ok (.aload_n 0, 1) := by decide +kernel
theorem dX7_add_18 : decode cX7_add 18 = .ok (.getfield 11, 3) := by decide +kernel
theorem dX7_add_21 : decode cX7_add 21 = .ok (.aload_n 0, 1) := by decide +kernel
theorem dX7_add_22 : decode cX7_add 22 = .ok (.getfield 19, 3) := by decide +kernel
theorem dX7_add_25 : decode cX7_add 25 = .ok (.iload_n 1, 1) := by decide +kernel
theorem dX7_add_26 : decode cX7_add 26 = .ok (.iload_n 2, 1) := by decide +kernel
theorem dX7_add_27 : decode cX7_add 27 = .ok (.ishr, 1) := by decide +kernel
theorem dX7_add_28 : decode cX7_add 28 = .ok (.i2b, 1) := by decide +kernel
theorem dX7_add_29 : decode cX7_add 29 = .ok (.bastore, 1) := by decide +kernel
theorem dX7_add_30 : decode cX7_add 30 = .ok (.aload_n 0, 1) := by decide +kernel
theorem dX7_add_31 : decode cX7_add 31 = .ok (.dup, 1) := by decide +kernel
theorem dX7_add_32 : decode cX7_add 32 = .ok (.getfield 19, 3) := by decide +kernel
theorem dX7_add_35 : decode cX7_add 35 = .ok (.iconst 1, 1) := by decide +kernel
theorem dX7_add_36 : decode cX7_add 36 = .ok (.iadd, 1) := by decide +kernel
theorem dX7_add_37 : decode cX7_add 37 = .ok (.putfield 19, 3) := by decide +kernel
theorem dX7_add_40 : decode cX7_add 40 = .ok (.iinc 2 (-8), 3) := by decide +kernel
theorem dX7_add_43 : decode cX7_add 43 = .ok (.goto (-40), 3) := by decide +kernel
theorem dX7_add_46 : decode cX7_add 46 = .ok (.return_, 1) := by decide +kernel
theorem dX10_feed_0 : decode cX10_feed 0 = .ok (.aload_n 0, 1) := by decide +kernel
theorem dX10_feed_1 : decode cX10_feed 1 = .ok (.getfield 10, 3) := by decide +kernel
theorem dX10_feed_4 : decode cX10_feed 4 = .ok (.invokevirtual 87, 3) := by decide +kernel
theorem dX10_feed_7 : decode cX10_feed 7 = .ok (.ifCond .ne 5, 3) := by decide +kernel
theorem dX10_feed_12 : decode cX10_feed 12 = .ok (.aload_n 0, 1) := by decide +kernel
theorem dX10_feed_13 : decode cX10_feed 13 = .ok (.getfield 10, 3) := by decide +kernel
theorem dX10_feed_16 : decode cX10_feed 16 = .ok (.iload_n 1, 1) := by decide +kernel
theorem dX10_feed_17 : decode cX10_feed 17 = .ok (.invokevirtual 91, 3) := by decide +kernel
theorem dX10_feed_20 : decode cX10_feed 20 = .ok (.aload_n 0, 1) := by decide +kernel
theorem dX10_feed_21 : decode cX10_feed 21 = .ok (.getfield 10, 3) := by decide +kernel
theorem dX10_feed_24 : decode cX10_feed 24 = .ok (.iload_n 2, 1) := by decide +kernel
theorem dX10_feed_25 : decode cX10_feed 25 = .ok (.invokevirtual 91, 3) := by decide +kernel
theorem dX10_feed_28 : decode cX10_feed 28 = .ok (.aload_n 0, 1) := by decide +kernel
theorem dX10_feed_29 : decode cX10_feed 29 = .ok (.getfield 10, 3) := by decide +kernel
theorem dX10_feed_32 : decode cX10_feed 32 = .ok (.iload_n 3, 1) := by decide +kernel
theorem dX10_feed_33 : decode cX10_feed 33 = .ok (.invokevirtual 91, 3) := by decide +kernel
theorem dX10_feed_36 : decode cX10_feed 36 = .ok (.aload_n 0, 1) := by decide +kernel
theorem dX10_feed_37 : decode cX10_feed 37 = .ok (.getfield 10, 3) := by decide +kernel
theorem dX10_feed_40 : decode cX10_feed 40 = .ok (.iload 4, 2) := by decide +kernel
theorem dX10_feed_42 : decode cX10_feed 42 = .ok (.invokevirtual 91, 3) := by decide +kernel
theorem dX10_feed_45 : decode cX10_feed 45 = .ok (.aload_n 0, 1) := by decide +kernel
theorem dX10_feed_46 : decode cX10_feed 46 = .ok (.getfield 10, 3) := by decide +kernel
theorem dX10_feed_49 : decode cX10_feed 49 = .ok (.iload 5, 2) := by decide +kernel
theorem dX10_feed_51 : decode cX10_feed 51 = .ok (.invokevirtual 91, 3) := by decide +kernel
theorem dX10_feed_54 : decode cX10_feed 54 = .ok (.aload_n 0, 1) := by decide +kernel
theorem dX10_feed_55 : decode cX10_feed 55 = .ok (.getfield 10, 3) := by decide +kernel
theorem dX10_feed_58 : decode cX10_feed 58 = .ok (.getfield 95, 3) := by decide +kernel
theorem dX10_feed_61 : decode cX10_feed 61 = .ok (.ireturn, 1) := by decide +kernel
theorem dJ7_fill_53178_0 : decode cJ7_fill_53178 0 = .ok (.iconst 0, 1) := by decide +kernel
theorem dJ7_fill_53178_1 : decode cJ7_fill_53178 1 = .ok (.istore_n 2, 1) := by decide +kernel
theorem dJ7_fill_53178_2 : decode cJ7_fill_53178 2 = .ok (.aload_n 0, 1) := by decide +kernel
theorem dJ7_fill_53178_3 : decode cJ7_fill_53178 3 = .ok (.arraylength, 1) := by decide +kernel
theorem dJ7_fill_53178_4 : decode cJ7_fill_53178 4 = .ok (.istore_n 3, 1) := by decide +kernel
theorem dJ7_fill_53178_5 : decode cJ7_fill_53178 5 = .ok (.iload_n 2, 1) := by decide +kernel
theorem dJ7_fill_53178_6 : decode cJ7_fill_53178 6 = .ok (.iload_n 3, 1) := by decide +kernel
theorem dJ7_fill_53178_7 : decode cJ7_fill_53178 7 = .ok (.if_icmp .ge 13, 3) := by decide +kernel
theorem dJ7_fill_53178_10 : decode cJ7_fill_53178 10 = .ok (.aload_n 0, 1) := by decide +kernel
theorem dJ7_fill_53178_11 : decode cJ7_fill_53178 11 = .ok (.iload_n 2, 1) := by decide +kernel
theorem dJ7_fill_53178_12 : decode cJ7_fill_53178 12 = .ok (.iload_n 1, 1) := by decide +kernel
theorem dJ7_fill_53178_13 : decode cJ7_fill_53178 13 = .ok (.iastore, 1) := by decide +kernel
theorem dJ7_fill_53178_14 : decode cJ7_fill_53178 14 = .ok (.iinc 2 1, 3) := by decide +kernel
theorem dJ7_fill_53178_17 : decode cJ7_fill_53178 17 = .ok (.goto (-12), 3) := by decide +kernel
theorem dJ7_fill_53178_20 : decode cJ7_fill_53178 20 = .ok (.return_, 1) := by decide +kernel
theorem dJ7_fill_d0a16_0 : decode cJ7_fill_d0a16 0 = .ok (.iconst 0, 1) := by decide +kernel
theorem dJ7_fill_d0a16_1 : decode cJ7_fill_d0a16 1 = .ok (.istore_n 3, 1) := by decide +kernel
theorem dJ7_fill_d0a16_2 : decode cJ7_fill_d0a16 2 = .ok (.aload_n 0, 1) := by decide +kernel
theorem dJ7_fill_d0a16_3 : decode cJ7_fill_d0a16 3 = .ok (.arraylength, 1) := by decide +kernel
theorem dJ7_fill_d0a16_4 : decode cJ7_fill_d0a16 4 = .ok (.istore 4, 2) := by decide +kernel
theorem dJ7_fill_d0a16_6 : decode cJ7_fill_d0a16 6 = .ok (.iload_n 3, 1) := by decide +kernel
theorem dJ7_fill_d0a16_7 : decode cJ7_fill_d0a16 7 = .ok (.iload 4, 2) := by decide +kernel
theorem dJ7_fill_d0a16_9 : decode cJ7_fill_d0a16 9 = .ok (.if_icmp .ge 13, 3) := by decide +kernel
theorem dJ7_fill_d0a16_12 : decode cJ7_fill_d0a16 12 = .ok (.aload_n 0, 1) := by decide +kernel
theorem dJ7_fill_d0a16_13 : decode cJ7_fill_d0a16 13 = .ok (.iload_n 3, 1) := by decide +kernel
theorem dJ7_fill_d0a16_14 : decode cJ7_fill_d0a16 14 = .ok (.lload_n 1, 1) := by decide +kernel
theorem dJ7_fill_d0a16_15 : decode cJ7_fill_d0a16 15 = .ok (.lastore, 1) := by decide +kernel
theorem dJ7_fill_d0a16_16 : decode cJ7_fill_d0a16 16 = .ok (.iinc 3 1, 3) := by decide +kernel
theorem dJ7_fill_d0a16_19 : decode cJ7_fill_d0a16 19 = .ok (.goto (-13), 3) := by decide +kernel
theorem dJ7_fill_d0a16_22 : decode cJ7_fill_d0a16 22 = .ok (.return_, 1) := by decide +kernel
theorem dX6_begin_0 : decode cX6_begin 0 = .ok (.aload_n 0, 1) := by decide +kernel
theorem dX6_begin_1 : decode cX6_begin 1 = .ok (.iload_n 1, 1) := by decide +kernel
theorem dX6_begin_2 : decode cX6_begin 2 = .ok (.putfield 17, 3) := by decide +kernel
theorem dX6_begin_5 : decode cX6_begin 5 = .ok (.aload_n 0, 1) := by decide +kernel
theorem dX6_begin_6 : decode cX6_begin 6 = .ok (.iload_n 2, 1) := by decide +kernel
theorem dX6_begin_7 : decode cX6_begin 7 = .ok (.putfield 9, 3) := by decide +kernel
theorem dX6_begin_10 : decode cX6_begin 10 = .ok (.aload_n 0, 1) := by decide +kernel
theorem dX6_begin_11 : decode cX6_begin 11 = .ok (.getfield 13, 3) := by decide +kernel
theorem dX6_begin_14 : decode cX6_begin 14 = .ok (.lconst 0, 1) := by decide +kernel
theorem dX6_begin_15 : decode cX6_begin 15 = .ok (.invokestatic 20, 3) := by decide +kernel
theorem dX6_begin_18 : decode cX6_begin 18 = .ok (.return_, 1) := by decide +kernel
theorem dX10_row_0 : decode cX10_row 0 = .ok (.iload_n 1, 1) := by decide +kernel
theorem dX10_row_1 : decode cX10_row 1 = .ok (.invokestatic 367, 3) := by decide +kernel
theorem dX10_row_4 : decode cX10_row 4 = .ok (.ifCond .eq 18, 3) := by decide +kernel
theorem dX10_row_7 : decode cX10_row 7 = .ok (.iload_n 2, 1) := by decide +kernel
theorem dX10_row_8 : decode cX10_row 8 = .ok (.ifCond .lt 14, 3) := by decide +kernel
theorem dX10_row_22 : decode cX10_row 22 = .ok (.bipush (-2), 2) := by decide +kernel
theorem dX10_row_24 : decode cX10_row 24 = .ok (.ireturn, 1) := by decide +kernel
theorem dX10_row_11 : decode cX10_row 11 = .ok (.iload_n 2, 1) := by decide +kernel
theorem dX10_row_12 : decode cX10_row 12 = .ok (.iconst 3, 1) := by decide +kernel
theorem dX10_row_13 : decode cX10_row 13 = .ok (.if_icmp .gt 9, 3) := by decide +kernel
theorem dX10_row_16 : decode cX10_row 16 = .ok (.iload_n 3, 1) := by decide +kernel
theorem dX10_row_17 : decode cX10_row 17 = .ok (.bipush 60, 2) := by decide +kernel
theorem dX10_row_19 : decode cX10_row 19 = .ok (.if_icmp .le 6, 3) := by decide +kernel
theorem dX10_row_25 : decode cX10_row 25 = .ok (.iload_n 3, 1) := by decide +kernel
theorem dX10_row_26 : decode cX10_row 26 = .ok (.ifCond .ge 6, 3) := by decide +kernel
theorem dX10_row_32 : decode cX10_row 32 = .ok (.aload_n 0, 1) := by decide +kernel
theorem dX10_row_33 : decode cX10_row 33 = .ok (.getfield 81, 3) := by decide +kernel
theorem dX10_row_36 : decode cX10_row 36 = .ok (.iload_n 1, 1) := by decide +kernel
theorem dX10_row_37 : decode cX10_row 37 = .ok (.aaload, 1) := by decide +kernel
theorem dX10_row_38 : decode cX10_row 38 = .ok (.iload_n 2, 1) := by decide +kernel
theorem dX10_row_39 : decode cX10_row 39 = .ok (.iload_n 3, 1) := by decide +kernel
theorem dX10_row_40 : decode cX10_row 40 = .ok (.invokevirtual 370, 3) := by decide +kernel
theorem dX10_row_43 : decode cX10_row 43 = .ok (.iconst 0, 1) := by decide +kernel
theorem dX10_row_44 : decode cX10_row 44 = .ok (.ireturn, 1) := by decide +kernel
theorem dX10_row_29 : decode cX10_row 29 = .ok (.bipush (-3), 2) := by decide +kernel
theorem dX10_row_31 : decode cX10_row 31 = .ok (.ireturn, 1) := by decide +kernel
theorem dX2_copyFrom_0 : decode cX2_copyFrom 0 = .ok (.aload_n 0, 1) := by decide +kernel
theorem dX2_copyFrom_1 : decode cX2_copyFrom 1 = .ok (.aload_n 1, 1) := by decide +kernel
theorem dX2_copyFrom_2 : decode cX2_copyFrom 2 = .ok (.getfield 24, 3) := by decide +kernel
theorem dX2_copyFrom_5 : decode cX2_copyFrom 5 = .ok (.putfield 24, 3) := by decide +kernel
theorem dX2_copyFrom_8 : decode cX2_copyFrom 8 = .ok (.aload_n 0, 1) := by decide +kernel
theorem dX2_copyFrom_9 : decode cX2_copyFrom 9 = .ok (.aload_n 1, 1) := by decide +kernel
theorem dX2_copyFrom_10 : decode cX2_copyFrom 10 = .ok (.getfield 28, 3) := by decide +kernel
theorem dX2_copyFrom_13 : decode cX2_copyFrom 13 = .ok (.putfield 28, 3) := by decide +kernel
theorem dX2_copyFrom_16 : decode cX2_copyFrom 16 = .ok (.aload_n 0, 1) := by decide +kernel
theorem dX2_copyFrom_17 : decode cX2_copyFrom 17 = .ok (.aload_n 1, 1) := by decide +kernel
theorem dX2_copyFrom_18 : decode cX2_copyFrom 18 = .ok (.getfield 31, 3) := by decide +kernel
theorem dX2_copyFrom_21 : decode cX2_copyFrom 21 = .ok (.putfield 31, 3) := by decide +kernel
theorem dX2_copyFrom_24 : decode cX2_copyFrom 24 = .ok (.aload_n 0, 1) := by decide +kernel
theorem dX2_copyFrom_25 : decode cX2_copyFrom 25 = .ok (.aload_n 1, 1) := by decide +kernel
theorem dX2_copyFrom_26 : decode cX2_copyFrom 26 = .ok (.getfield 34, 3) := by decide +kernel
theorem dX2_copyFrom_29 : decode cX2_copyFrom 29 = .ok (.putfield 34, 3) := by decide +kernel
theorem dX2_copyFrom_32 : decode cX2_copyFrom 32 = .ok (.aload_n 0, 1) := by decide +kernel
theorem dX2_copyFrom_33 : decode cX2_copyFrom 33 = .ok (.aload_n 1, 1) := by decide +kernel
theorem dX2_copyFrom_34 : decode cX2_copyFrom 34 = .ok (.getfield 37, 3) := by decide +kernel
theorem dX2_copyFrom_37 : decode cX2_copyFrom 37 = .ok (.putfield 37, 3) := by decide +kernel
theorem dX2_copyFrom_40 : decode cX2_copyFrom 40 = .ok (.aload_n 0, 1) := by decide +kernel
theorem dX2_copyFrom_41 : decode cX2_copyFrom 41 = .ok (.aload_n 1, 1) := by decide +kernel
theorem dX2_copyFrom_42 : decode cX2_copyFrom 42 = .ok (.getfield 40, 3) := by decide +kernel
theorem dX2_copyFrom_45 : decode cX2_copyFrom 45 = .ok (.putfield 40, 3) := by decide +kernel
theorem dX2_copyFrom_48 : decode cX2_copyFrom 48 = .ok (.aload_n 0, 1) := by decide +kernel
theorem dX2_copyFrom_49 : decode cX2_copyFrom 49 = .ok (.aload_n 1, 1) := by decide +kernel
theorem dX2_copyFrom_50 : decode cX2_copyFrom 50 = .ok (.getfield 43, 3) := by decide +kernel
theorem dX2_copyFrom_53 : decode cX2_copyFrom 53 = .ok (.putfield 43, 3) := by decide +kernel
theorem dX2_copyFrom_56 : decode cX2_copyFrom 56 = .ok (.aload_n 1, 1) := by decide +kernel
theorem dX2_copyFrom_57 : decode cX2_copyFrom 57 = .ok (.getfield 9, 3) := by decide +kernel
theorem dX2_copyFrom_60 : decode cX2_copyFrom 60 = .ok (.iconst 0, 1) := by decide +kernel
theorem dX2_copyFrom_61 : decode cX2_copyFrom 61 = .ok (.aload_n 0, 1) := by decide +kernel
theorem dX2_copyFrom_62 : decode cX2_copyFrom 62 = .ok (.getfield 9, 3) := by decide +kernel
theorem dX2_copyFrom_65 : decode cX2_copyFrom 65 = .ok (.iconst 0, 1) := by decide +kernel
theorem dX2_copyFrom_66 : decode cX2_copyFrom 66 = .ok (.iconst 5, 1) := by decide +kernel
theorem dX2_copyFrom_67 : decode cX2_copyFrom 67 = .ok (.invokestatic 52, 3) := by decide +kernel
theorem dX2_copyFrom_70 : decode cX2_copyFrom 70 = .ok (.aload_n 1, 1) := by decide +kernel
theorem dX2_copyFrom_71 : decode cX2_copyFrom 71 = .ok (.getfield 15, 3) := by decide +kernel
theorem dX2_copyFrom_74 : decode cX2_copyFrom 74 = .ok (.iconst 0, 1) := by decide +kernel
theorem dX2_copyFrom_75 : decode cX2_copyFrom 75 = .ok (.aload_n 0, 1) := by decide +kernel
theorem dX2_copyFrom_76 : decode cX2_copyFrom 76 = .ok (.getfield 15, 3) := by decide +kernel
theorem dX2_copyFrom_79 : decode cX2_copyFrom 79 = .ok (.iconst 0, 1) := by decide +kernel
theorem dX2_copyFrom_80 : decode cX2_copyFrom 80 = .ok (.bipush 6, 2) := by decide +kernel
theorem dX2_copyFrom_82 : decode cX2_copyFrom 82 = .ok (.invokestatic 52, 3) := by decide +kernel
theorem dX2_copyFrom_85 : decode cX2_copyFrom 85 = .ok (.aload_n 1, 1) := by decide +kernel
theorem dX2_copyFrom_86 : decode cX2_copyFrom 86 = .ok (.getfield 18, 3) := by decide +kernel
theorem dX2_copyFrom_89 : decode cX2_copyFrom 89 = .ok (.iconst 0, 1) := by decide +kernel
theorem dX2_copyFrom_90 : decode cX2_copyFrom 90 = .ok (.aload_n 0, 1) := by decide +kernel
theorem dX2_copyFrom_91 : decode cX2_copyFrom 91 = .ok (.getfield 18, 3) := by decide +kernel
theorem dX2_copyFrom_94 : decode cX2_copyFrom 94 = .ok (.iconst 0, 1) := by decide +kernel
theorem dX2_copyFrom_95 : decode cX2_copyFrom 95 = .ok (.bipush 6, 2) := by decide +kernel
theorem dX2_copyFrom_97 : decode cX2_copyFrom 97 = .ok (.invokestatic 52, 3) := by decide +kernel
theorem dX2_copyFrom_100 : decode cX2_copyFrom 100 = .ok (.aload_n 1, 1) := by decide +kernel
theorem dX2_copyFrom_101 : decode cX2_copyFrom 101 = .ok (.getfield 21, 3) := by decide +kernel
theorem dX2_copyFrom_104 : decode cX2_copyFrom 104 = .ok (.iconst 0, 1) := by decide +kernel
theorem dX2_copyFrom_105 : decode cX2_copyFrom 105 = .ok (.aload_n 0, 1) := by decide +kernel
theorem dX2_copyFrom_106 : decode cX2_copyFrom 106 = .ok (.getfield 21, 3) := by decide +kernel
theorem dX2_copyFrom_109 : decode cX2_copyFrom 109 = .ok (.iconst 0, 1) := by decide +kernel
theorem dX2_copyFrom_110 : decode cX2_copyFrom 110 = .ok (.bipush 30, 2) := by decide +kernel
theorem dX2_copyFrom_112 : decode cX2_copyFrom 112 = .ok (.invokestatic 52, 3) := by decide +kernel
theorem dX2_copyFrom_115 : decode cX2_copyFrom 115 = .ok (.return_, 1) := by decide +kernel
theorem dX0_copyFrom_0 : decode cX0_copyFrom 0 = .ok (.aload_n 0, 1) := by decide +kernel
theorem dX0_copyFrom_1 : decode cX0_copyFrom 1 = .ok (.aload_n 1, 1) := by decide +kernel
theorem dX0_copyFrom_2 : decode cX0_copyFrom 2 = .ok (.getfield 15, 3) := by decide +kernel
theorem dX0_copyFrom_5 : decode cX0_copyFrom 5 = .ok (.putfield 15, 3) := by decide +kernel
theorem dX0_copyFrom_8 : decode cX0_copyFrom 8 = .ok (.aload_n 1, 1) := by decide +kernel
theorem dX0_copyFrom_9 : decode cX0_copyFrom 9 = .ok (.getfield 11, 3) := by decide +kernel
theorem dX0_copyFrom_12 : decode cX0_copyFrom 12 = .ok (.iconst 0, 1) := by decide +kernel
theorem dX0_copyFrom_13 : decode cX0_copyFrom 13 = .ok (.aload_n 0, 1) := by decide +kernel
theorem dX0_copyFrom_14 : decode cX0_copyFrom 14 = .ok (.getfield 11, 3) := by decide +kernel
theorem dX0_copyFrom_17 : decode cX0_copyFrom 17 = .ok (.iconst 0, 1) := by decide +kernel
theorem dX0_copyFrom_18 : decode cX0_copyFrom 18 = .ok (.sipush 240, 3) := by decide +kernel
theorem dX0_copyFrom_21 : decode cX0_copyFrom 21 = .ok (.invokestatic 19, 3) := by decide +kernel
theorem dX0_copyFrom_24 : decode cX0_copyFrom 24 = .ok (.return_, 1) := by decide +kernel
theorem dX10_image_0 : decode cX10_image 0 = .ok (.iload_n 1, 1) := by decide +kernel
theorem dX10_image_1 : decode cX10_image 1 = .ok (.ifCond .lt 8, 3) := by decide +kernel
theorem dX10_image_9 : decode cX10_image 9 = .ok (.bipush (-2), 2) := by decide +kernel
theorem dX10_image_11 : decode cX10_image 11 = .ok (.ireturn, 1) := by decide +kernel
theorem dX10_image_4 : decode cX10_image 4 = .ok (.iload_n 1, 1) := by decide +kernel
theorem dX10_image_5 : decode cX10_image 5 = .ok (.iconst 3, 1) := by decide +kernel
theorem dX10_image_6 : decode cX10_image 6 = .ok (.if_icmp .lt 6, 3) := by decide +kernel
theorem dX10_image_12 : decode cX10_image 12 = .ok (.aload_n 0, 1) := by decide +kernel
theorem dX10_image_13 : decode cX10_image 13 = .ok (.getfield 75, 3) := by decide +kernel
theorem dX10_image_16 : decode cX10_image 16 = .ok (.iload_n 1, 1) := by decide +kernel
theorem dX10_image_17 : decode cX10_image 17 = .ok (.aaload, 1) := by decide +kernel
theorem dX10_image_18 : decode cX10_image 18 = .ok (.astore_n 2, 1) := by decide +kernel
theorem dX10_image_19 : decode cX10_image 19 = .ok (.aload_n 2, 1) := by decide +kernel
theorem dX10_image_20 : decode cX10_image 20 = .ok (.iconst 1, 1) := by decide +kernel
theorem dX10_image_21 : decode cX10_image 21 = .ok (.putfield 358, 3) := by decide +kernel
theorem dX10_image_24 : decode cX10_image 24 = .ok (.aload_n 2, 1) := by decide +kernel
theorem dX10_image_25 : decode cX10_image 25 = .ok (.getfield 362, 3) := by decide +kernel
theorem dX10_image_28 : decode cX10_image 28 = .ok (.aload_n 0, 1) := by decide +kernel
theorem dX10_image_29 : decode cX10_image 29 = .ok (.getfield 19, 3) := by decide +kernel
theorem dX10_image_32 : decode cX10_image 32 = .ok (.invokevirtual 103, 3) := by decide +kernel
theorem dX10_image_35 : decode cX10_image 35 = .ok (.aload_n 2, 1) := by decide +kernel
theorem dX10_image_36 : decode cX10_image 36 = .ok (.getfield 363, 3) := by decide +kernel
theorem dX10_image_39 : decode cX10_image 39 = .ok (.aload_n 0, 1) := by decide +kernel
theorem dX10_image_40 : decode cX10_image 40 = .ok (.getfield 29, 3) := by decide +kernel
theorem dX10_image_43 : decode cX10_image 43 = .ok (.invokevirtual 364, 3) := by decide +kernel
theorem dX10_image_46 : decode cX10_image 46 = .ok (.iconst 0, 1) := by decide +kernel
theorem dX10_image_47 : decode cX10_image 47 = .ok (.ireturn, 1) := by decide +kernel
theorem dX2_clear_0 : decode cX2_clear 0 = .ok (.aload_n 0, 1) := by decide +kernel
theorem dX2_clear_1 : decode cX2_clear 1 = .ok (.iconst 0, 1) := by decide +kernel
theorem dX2_clear_2 : decode cX2_clear 2 = .ok (.putfield 24, 3) := by decide +kernel
theorem dX2_clear_5 : decode cX2_clear 5 = .ok (.aload_n 0, 1) := by decide +kernel
theorem dX2_clear_6 : decode cX2_clear 6 = .ok (.iconst 0, 1) := by decide +kernel
theorem dX2_clear_7 : decode cX2_clear 7 = .ok (.putfield 28, 3) := by decide +kernel
theorem dX2_clear_10 : decode cX2_clear 10 = .ok (.aload_n 0, 1) := by decide +kernel
theorem dX2_clear_11 : decode cX2_clear 11 = .ok (.iconst 0, 1) := by decide +kernel
theorem dX2_clear_12 : decode cX2_clear 12 = .ok (.putfield 31, 3) := by decide +kernel
theorem dX2_clear_15 : decode cX2_clear 15 = .ok (.aload_n 0, 1) := by decide +kernel
theorem dX2_clear_16 : decode cX2_clear 16 = .ok (.iconst 0, 1) := by decide +kernel
theorem dX2_clear_17 : decode cX2_clear 17 = .ok (.putfield 34, 3) := by decide +kernel
theorem dX2_clear_20 : decode cX2_clear 20 = .ok (.aload_n 0, 1) := by decide +kernel
theorem dX2_clear_21 : decode cX2_clear 21 = .ok (.iconst 0, 1) := by decide +kernel
theorem dX2_clear_22 : decode cX2_clear 22 = .ok (.putfield 37, 3) := by decide +kernel
theorem dX2_clear_25 : decode cX2_clear 25 = .ok (.aload_n 0, 1) := by decide +kernel
theorem dX2_clear_26 : decode cX2_clear 26 = .ok (.iconst 0, 1) := by decide +kernel
theorem dX2_clear_27 : decode cX2_clear 27 = .ok (.putfield 40, 3) := by decide +kernel
theorem dX2_clear_30 : decode cX2_clear 30 = .ok (.aload_n 0, 1) := by decide +kernel
theorem dX2_clear_31 : decode cX2_clear 31 = .ok (.iconst 0, 1) := by decide +kernel
theorem dX2_clear_32 : decode cX2_clear 32 = .ok (.putfield 43, 3) := by decide +kernel
theorem dX2_clear_35 : decode cX2_clear 35 = .ok (.aload_n 0, 1) := by decide +kernel
theorem dX2_clear_36 : decode cX2_clear 36 = .ok (.getfield 21, 3) := by decide +kernel
theorem dX2_clear_39 : decode cX2_clear 39 = .ok (.iconst 0, 1) := by decide +kernel
theorem dX2_clear_40 : decode cX2_clear 40 = .ok (.invokestatic 46, 3) := by decide +kernel
theorem dX2_clear_43 : decode cX2_clear 43 = .ok (.return_, 1) := by decide +kernel
theorem dX7_step_0 : decode cX7_step 0 = .ok (.aload_n 0, 1) := by decide +kernel
theorem dX7_step_1 : decode cX7_step 1 = .ok (.getfield 30, 3) := by decide +kernel
theorem dX7_step_4 : decode cX7_step 4 = .ok (.aload_n 0, 1) := by decide +kernel
theorem dX7_step_5 : decode cX7_step 5 = .ok (.getfield 19, 3) := by decide +kernel
theorem dX7_step_8 : decode cX7_step 8 = .ok (.if_icmp .ge 31, 3) := by decide +kernel
theorem dX7_step_39 : decode cX7_step 39 = .ok (.aload_n 0, 1) := by decide +kernel
theorem dX7_step_40 : decode cX7_step 40 = .ok (.aload_n 0, 1) := by decide +kernel
theorem dX7_step_41 : decode cX7_step 41 = .ok (.getfield 30, 3) := by decide +kernel
theorem dX7_step_44 : decode cX7_step 44 = .ok (.putfield 125, 3) := by decide +kernel
theorem dX7_step_47 : decode cX7_step 47 = .ok (.aload_n 0, 1) := by decide +kernel
theorem dX7_step_48 : decode cX7_step 48 = .ok (.getfield 30, 3) := by decide +kernel
theorem dX7_step_51 : decode cX7_step 51 = .ok (.aload_n 0, 1) := by decide +kernel
theorem dX7_step_52 : decode cX7_step 52 = .ok (.getfield 19, 3) := by decide +kernel
theorem dX7_step_55 : decode cX7_step 55 = .ok (.if_icmp .lt 11, 3) := by decide +kernel
theorem dX7_step_58 : decode cX7_step 58 = .ok (.aload_n 0, 1) := by decide +kernel
theorem dX7_step_59 : decode cX7_step 59 = .ok (.iconst 0, 1) := by decide +kernel
theorem dX7_step_60 : decode cX7_step 60 = .ok (.putfield 36, 3) := by decide +kernel
theorem dX7_step_63 : decode cX7_step 63 = .ok (.goto 154, 3) := by decide +kernel
theorem dX7_step_217 : decode cX7_step 217 = .ok (.return_, 1) := by decide +kernel
theorem dX7_read_0 : decode cX7_read 0 = .ok (.aload_n 1, 1) := by decide +kernel
theorem dX7_read_1 : decode cX7_read 1 = .ok (.invokevirtual 22, 3) := by decide +kernel
theorem dX7_read_4 : decode cX7_read 4 = .ok (.aload_n 0, 1) := by decide +kernel
theorem dX7_read_5 : decode cX7_read 5 = .ok (.iconst 0, 1) := by decide +kernel
theorem dX7_read_6 : decode cX7_read 6 = .ok (.putfield 27, 3) := by decide +kernel
theorem dX7_read_9 : decode cX7_read 9 = .ok (.aload_n 0, 1) := by decide +kernel
theorem dX7_read_10 : decode cX7_read 10 = .ok (.iconst (-1), 1) := by decide +kernel
theorem dX7_read_11 : decode cX7_read 11 = .ok (.putfield 15, 3) := by decide +kernel
theorem dX7_read_14 : decode cX7_read 14 = .ok (.aload_n 0, 1) := by decide +kernel
theorem dX7_read_15 : decode cX7_read 15 = .ok (.iconst 0, 1) := by decide +kernel
theorem dX7_read_16 : decode cX7_read 16 = .ok (.putfield 30, 3) := by decide +kernel
theorem dX7_read_19 : decode cX7_read 19 = .ok (.aload_n 0, 1) := by decide +kernel
theorem dX7_read_20 : decode cX7_read 20 = .ok (.invokevirtual 33, 3) := by decide +kernel
theorem dX7_read_23 : decode cX7_read 23 = .ok (.iconst 0, 1) := by decide +kernel
theorem dX7_read_24 : decode cX7_read 24 = .ok (.istore_n 2, 1) := by decide +kernel
theorem dX7_read_25 : decode cX7_read 25 = .ok (.iload_n 2, 1) := by decide +kernel
theorem dX7_read_26 : decode cX7_read 26 = .ok (.sipush 800, 3) := by decide +kernel
theorem dX7_read_29 : decode cX7_read 29 = .ok (.if_icmp .ge 28, 3) := by decide +kernel
theorem dX7_read_32 : decode cX7_read 32 = .ok (.aload_n 0, 1) := by decide +kernel
theorem dX7_read_33 : decode cX7_read 33 = .ok (.getfield 36, 3) := by decide +kernel
theorem dX7_read_36 : decode cX7_read 36 = .ok (.ifCond .eq 21, 3) := by decide +kernel
theorem dX7_read_57 : decode cX7_read 57 = .ok (.aload_n 0, 1) := by decide +kernel
theorem dX7_read_58 : decode cX7_read 58 = .ok (.getfield 27, 3) := by decide +kernel
theorem dX7_read_61 : decode cX7_read 61 = .ok (.ifCond .ne 7, 3) := by decide +kernel
theorem dX7_read_64 : decode cX7_read 64 = .ok (.iconst 1, 1) := by decide +kernel
theorem dX7_read_65 : decode cX7_read 65 = .ok (.goto 4, 3) := by decide +kernel
theorem dX7_read_69 : decode cX7_read 69 = .ok (.ireturn, 1) := by decide +kernel
theorem dX9_begin_0 : decode cX9_begin 0 = .ok (.aload_n 0, 1) := by decide +kernel
theorem dX9_begin_1 : decode cX9_begin 1 = .ok (.iconst 0, 1) := by decide +kernel
theorem dX9_begin_2 : decode cX9_begin 2 = .ok (.putfield 49, 3) := by decide +kernel
theorem dX9_begin_5 : decode cX9_begin 5 = .ok (.aload_n 0, 1) := by decide +kernel
theorem dX9_begin_6 : decode cX9_begin 6 = .ok (.iconst 0, 1) := by decide +kernel
theorem dX9_begin_7 : decode cX9_begin 7 = .ok (.putfield 53, 3) := by decide +kernel
theorem dX9_begin_10 : decode cX9_begin 10 = .ok (.aload_n 0, 1) := by decide +kernel
theorem dX9_begin_11 : decode cX9_begin 11 = .ok (.aload_n 0, 1) := by decide +kernel
theorem dX9_begin_12 : decode cX9_begin 12 = .ok (.getfield 45, 3) := by decide +kernel
theorem dX9_begin_15 : decode cX9_begin 15 = .ok (.getfield 56, 3) := by decide +kernel
theorem dX9_begin_18 : decode cX9_begin 18 = .ok (.putfield 61, 3) := by decide +kernel
theorem dX9_begin_21 : decode cX9_begin 21 = .ok (.aload_n 0, 1) := by decide +kernel
theorem dX9_begin_22 : decode cX9_begin 22 = .ok (.getfield 45, 3) := by decide +kernel
theorem dX9_begin_25 : decode cX9_begin 25 = .ok (.getfield 62, 3) := by decide +kernel
theorem dX9_begin_28 : decode cX9_begin 28 = .ok (.iconst 0, 1) := by decide +kernel
theorem dX9_begin_29 : decode cX9_begin 29 = .ok (.aload_n 0, 1) := by decide +kernel
theorem dX9_begin_30 : decode cX9_begin 30 = .ok (.getfield 9, 3) := by decide +kernel
theorem dX9_begin_33 : decode cX9_begin 33 = .ok (.iconst 0, 1) := by decide +kernel
theorem dX9_begin_34 : decode cX9_begin 34 = .ok (.iconst 5, 1) := by decide +kernel
theorem dX9_begin_35 : decode cX9_begin 35 = .ok (.invokestatic 65, 3) := by decide +kernel
theorem dX9_begin_38 : decode cX9_begin 38 = .ok (.aload_n 0, 1) := by decide +kernel
theorem dX9_begin_39 : decode cX9_begin 39 = .ok (.getfield 45, 3) := by decide +kernel
theorem dX9_begin_42 : decode cX9_begin 42 = .ok (.getfield 71, 3) := by decide +kernel
theorem dX9_begin_45 : decode cX9_begin 45 = .ok (.iconst 0, 1) := by decide +kernel
theorem dX9_begin_46 : decode cX9_begin 46 = .ok (.aload_n 0, 1) := by decide +kernel
theorem dX9_begin_47 : decode cX9_begin 47 = .ok (.getfield 15, 3) := by decide +kernel
theorem dX9_begin_50 : decode cX9_begin 50 = .ok (.iconst 0, 1) := by decide +kernel
theorem dX9_begin_51 : decode cX9_begin 51 = .ok (.bipush 6, 2) := by decide +kernel
theorem dX9_begin_53 : decode cX9_begin 53 = .ok (.invokestatic 65, 3) := by decide +kernel
theorem dX9_begin_56 : decode cX9_begin 56 = .ok (.aload_n 0, 1) := by decide +kernel
theorem dX9_begin_57 : decode cX9_begin 57 = .ok (.getfield 18, 3) := by decide +kernel
theorem dX9_begin_60 : decode cX9_begin 60 = .ok (.iconst 0, 1) := by decide +kernel
theorem dX9_begin_61 : decode cX9_begin 61 = .ok (.invokestatic 74, 3) := by decide +kernel
theorem dX9_begin_64 : decode cX9_begin 64 = .ok (.iconst 0, 1) := by decide +kernel
theorem dX9_begin_65 : decode cX9_begin 65 = .ok (.istore_n 1, 1) := by decide +kernel
theorem dX9_begin_66 : decode cX9_begin 66 = .ok (.iload_n 1, 1) := by decide +kernel
theorem dX9_begin_67 : decode cX9_begin 67 = .ok (.bipush 6, 2) := by decide +kernel
theorem dX9_begin_69 : decode cX9_begin 69 = .ok (.if_icmp .ge 27, 3) := by decide +kernel
theorem dX9_begin_72 : decode cX9_begin 72 = .ok (.aload_n 0, 1) := by decide +kernel
theorem dX9_begin_73 : decode cX9_begin 73 = .ok (.getfield 36, 3) := by decide +kernel
theorem dX9_begin_76 : decode cX9_begin 76 = .ok (.iload_n 1, 1) := by decide +kernel
theorem dX9_begin_77 : decode cX9_begin 77 = .ok (.bipush 49, 2) := by decide +kernel
theorem dX9_begin_79 : decode cX9_begin 79 = .ok (.imul, 1) := by decide +kernel
theorem dX9_begin_80 : decode cX9_begin 80 = .ok (.aload_n 0, 1) := by decide +kernel
theorem dX9_begin_81 : decode cX9_begin 81 = .ok (.getfield 45, 3) := by decide +kernel
theorem dX9_begin_84 : decode cX9_begin 84 = .ok (.getfield 71, 3) := by decide +kernel
theorem dX9_begin_87 : decode cX9_begin 87 = .ok (.iload_n 1, 1) := by decide +kernel
theorem dX9_begin_88 : decode cX9_begin 88 = .ok (.iaload, 1) := by decide +kernel
theorem dX9_begin_89 : decode cX9_begin 89 = .ok (.iastore, 1) := by decide +kernel
theorem dX9_begin_90 : decode cX9_begin 90 = .ok (.iinc 1 1, 3) := by decide +kernel
theorem dX9_begin_93 : decode cX9_begin 93 = .ok (.goto (-27), 3) := by decide +kernel
theorem dX9_begin_96 : decode cX9_begin 96 = .ok (.return_, 1) := by decide +kernel
theorem dX10_city_0 : decode cX10_city 0 = .ok (.aload_n 0, 1) := by decide +kernel
theorem dX10_city_1 : decode cX10_city 1 = .ok (.getfield 10, 3) := by decide +kernel
theorem dX10_city_4 : decode cX10_city 4 = .ok (.aload_n 0, 1) := by decide +kernel
theorem dX10_city_5 : decode cX10_city 5 = .ok (.getfield 23, 3) := by decide +kernel
theorem dX10_city_8 : decode cX10_city 8 = .ok (.invokevirtual 99, 3) := by decide +kernel
theorem dX10_city_11 : decode cX10_city 11 = .ok (.ifCond .ne 6, 3) := by decide +kernel
theorem dX10_city_17 : decode cX10_city 17 = .ok (.aload_n 0, 1) := by decide +kernel
theorem dX10_city_18 : decode cX10_city 18 = .ok (.getfield 10, 3) := by decide +kernel
theorem dX10_city_21 : decode cX10_city 21 = .ok (.iconst 0, 1) := by decide +kernel
theorem dX10_city_22 : decode cX10_city 22 = .ok (.putfield 95, 3) := by decide +kernel
theorem dX10_city_25 : decode cX10_city 25 = .ok (.aload_n 0, 1) := by decide +kernel
theorem dX10_city_26 : decode cX10_city 26 = .ok (.getfield 19, 3) := by decide +kernel
theorem dX10_city_29 : decode cX10_city 29 = .ok (.aload_n 0, 1) := by decide +kernel
theorem dX10_city_30 : decode cX10_city 30 = .ok (.getfield 23, 3) := by decide +kernel
theorem dX10_city_33 : decode cX10_city 33 = .ok (.invokevirtual 103, 3) := by decide +kernel
theorem dX10_city_36 : decode cX10_city 36 = .ok (.aload_n 0, 1) := by decide +kernel
theorem dX10_city_37 : decode cX10_city 37 = .ok (.getfield 29, 3) := by decide +kernel
theorem dX10_city_40 : decode cX10_city 40 = .ok (.iconst 0, 1) := by decide +kernel
theorem dX10_city_41 : decode cX10_city 41 = .ok (.putfield 106, 3) := by decide +kernel
theorem dX10_city_44 : decode cX10_city 44 = .ok (.aload_n 0, 1) := by decide +kernel
theorem dX10_city_45 : decode cX10_city 45 = .ok (.getfield 38, 3) := by decide +kernel
theorem dX10_city_48 : decode cX10_city 48 = .ok (.invokevirtual 109, 3) := by decide +kernel
theorem dX10_city_51 : decode cX10_city 51 = .ok (.aload_n 0, 1) := by decide +kernel
theorem dX10_city_52 : decode cX10_city 52 = .ok (.getfield 19, 3) := by decide +kernel
theorem dX10_city_55 : decode cX10_city 55 = .ok (.getfield 112, 3) := by decide +kernel
theorem dX10_city_58 : decode cX10_city 58 = .ok (.ireturn, 1) := by decide +kernel
end
section
def zXd (q : Nat → Nat) (cA : Nat → ClassId) : zKd := fun k i r j => match k with
  | 0 => .inr (10, [.ref (q 1), .ref (q 3), .ref (q 8), .ref (q 13), .ref (q 15), .ref (q 27), .ref (q 39), .ref (q 43), .ref (q 45), .ref (q 46), .ref (q 47), .ref (q 72)])
  | 1 => .inr (7, [.ref (q 2), .int (i 1), .int (i 2), .int (i 3), .int (i 4), .int (i 5), .int (i 6)])
  | 2 => .inl (cA 2, 800, .inl r)
  | 3 => .inr (2, [.int (i 0), .int (i 1), .int (i 2), .int (i 3), .int (i 4), .int (i 5), .int (i 6), .ref (q 4), .ref (q 5), .ref (q 6), .ref (q 7)])
  | 4 => .inl (cA 4, 5, .inl r)
  | 5 => .inl (cA 5, 6, .inl r)
  | 6 => .inl (cA 6, 6, .inl r)
  | 7 => .inl (cA 7, 30, .inl r)
  | 8 => .inr (2, [.int (i 0), .int (i 1), .int (i 2), .int (i 3), .int (i 4), .int (i 5), .int (i 6), .ref (q 9), .ref (q 10), .ref (q 11), .ref (q 12)])
  | 9 => .inl (cA 9, 5, .inl r)
  | 10 => .inl (cA 10, 6, .inl r)
  | 11 => .inl (cA 11, 6, .inl r)
  | 12 => .inl (cA 12, 30, .inl r)
  | 13 => .inr (0, [.int (i 0), .ref (q 14)])
  | 14 => .inl (cA 14, 240, .inl r)
  | 15 => .inr (9, [.ref (q 3), .int (i 1), .int (i 2), .int (i 3), .ref (q 16), .ref (q 17), .ref (q 18), .ref (q 19), .ref (q 20), .ref (q 21), .ref (q 22), .ref (q 23), .ref (q 24), .ref (q 25), .ref (q 26)])
  | 16 => .inl (cA 16, 5, .inl r)
  | 17 => .inl (cA 17, 6, .inl r)
  | 18 => .inl (cA 18, 6, .inl r)
  | 19 => .inl (cA 19, 24, .inl r)
  | 20 => .inl (cA 20, 24, .inl r)
  | 21 => .inl (cA 21, 24, .inl r)
  | 22 => .inl (cA 22, 24, .inl r)
  | 23 => .inl (cA 23, 24, .inl r)
  | 24 => .inl (cA 24, 294, .inl r)
  | 25 => .inl (cA 25, 5, .inl r)
  | 26 => .inl (cA 26, 5, .inl r)
  | 27 => .inr (9, [.ref (q 3), .int (i 1), .int (i 2), .int (i 3), .ref (q 28), .ref (q 29), .ref (q 30), .ref (q 31), .ref (q 32), .ref (q 33), .ref (q 34), .ref (q 35), .ref (q 36), .ref (q 37), .ref (q 38)])
  | 28 => .inl (cA 28, 5, .inl r)
  | 29 => .inl (cA 29, 6, .inl r)
  | 30 => .inl (cA 30, 6, .inl r)
  | 31 => .inl (cA 31, 24, .inl r)
  | 32 => .inl (cA 32, 24, .inl r)
  | 33 => .inl (cA 33, 24, .inl r)
  | 34 => .inl (cA 34, 24, .inl r)
  | 35 => .inl (cA 35, 24, .inl r)
  | 36 => .inl (cA 36, 294, .inl r)
  | 37 => .inl (cA 37, 5, .inl r)
  | 38 => .inl (cA 38, 5, .inl r)
  | 39 => .inr (8, [.int (i 0), .ref (q 40), .int (i 2), .ref (q 41), .ref (q 42), .int (i 5)])
  | 40 => .inl (cA 40, 5, .inl r)
  | 41 => .inl (cA 41, 25, .inl r)
  | 42 => .inl (cA 42, 5, .inl r)
  | 43 => .inr (3, [.ref (q 44)])
  | 44 => .inl (cA 44, 224, .inl r)
  | 45 => .inr (4, [.long (j 0)])
  | 46 => .inr (1, [.int (i 0), .int (i 1), .int (i 2)])
  | 47 => .inl (cA 47, 3, .inr (.inr (.inr (.inr (fun x => bif Nat.beq x 0 then some (q 48) else bif Nat.beq x 1 then some (q 56) else bif Nat.beq x 2 then some (q 64) else none)))))
  | 48 => .inr (5, [.int (i 0), .ref (q 49), .ref (q 54)])
  | 49 => .inr (2, [.int (i 0), .int (i 1), .int (i 2), .int (i 3), .int (i 4), .int (i 5), .int (i 6), .ref (q 50), .ref (q 51), .ref (q 52), .ref (q 53)])
  | 50 => .inl (cA 50, 5, .inl r)
  | 51 => .inl (cA 51, 6, .inl r)
  | 52 => .inl (cA 52, 6, .inl r)
  | 53 => .inl (cA 53, 30, .inl r)
  | 54 => .inr (0, [.int (i 0), .ref (q 55)])
  | 55 => .inl (cA 55, 240, .inl r)
  | 56 => .inr (5, [.int (i 0), .ref (q 57), .ref (q 62)])
  | 57 => .inr (2, [.int (i 0), .int (i 1), .int (i 2), .int (i 3), .int (i 4), .int (i 5), .int (i 6), .ref (q 58), .ref (q 59), .ref (q 60), .ref (q 61)])
  | 58 => .inl (cA 58, 5, .inl r)
  | 59 => .inl (cA 59, 6, .inl r)
  | 60 => .inl (cA 60, 6, .inl r)
  | 61 => .inl (cA 61, 30, .inl r)
  | 62 => .inr (0, [.int (i 0), .ref (q 63)])
  | 63 => .inl (cA 63, 240, .inl r)
  | 64 => .inr (5, [.int (i 0), .ref (q 65), .ref (q 70)])
  | 65 => .inr (2, [.int (i 0), .int (i 1), .int (i 2), .int (i 3), .int (i 4), .int (i 5), .int (i 6), .ref (q 66), .ref (q 67), .ref (q 68), .ref (q 69)])
  | 66 => .inl (cA 66, 5, .inl r)
  | 67 => .inl (cA 67, 6, .inl r)
  | 68 => .inl (cA 68, 6, .inl r)
  | 69 => .inl (cA 69, 30, .inl r)
  | 70 => .inr (0, [.int (i 0), .ref (q 71)])
  | 71 => .inl (cA 71, 240, .inl r)
  | 72 => .inl (cA 72, 4, .inr (.inr (.inr (.inr (fun x => bif Nat.beq x 0 then some (q 73) else bif Nat.beq x 1 then some (q 75) else bif Nat.beq x 2 then some (q 77) else bif Nat.beq x 3 then some (q 79) else none)))))
  | 73 => .inr (6, [.int (i 0), .int (i 1), .ref (q 74)])
  | 74 => .inl (cA 74, 60, .inr (.inl j))
  | 75 => .inr (6, [.int (i 0), .int (i 1), .ref (q 76)])
  | 76 => .inl (cA 76, 60, .inr (.inl j))
  | 77 => .inr (6, [.int (i 0), .int (i 1), .ref (q 78)])
  | 78 => .inl (cA 78, 60, .inr (.inl j))
  | 79 => .inr (6, [.int (i 0), .int (i 1), .ref (q 80)])
  | _ => .inl (cA 80, 60, .inr (.inl j))
abbrev zXtys (cA : Nat → ClassId) : List (ClassId × FieldType) := [(cA 2, .byte), (cA 4, .int), (cA 5, .int), (cA 6, .int), (cA 7, .int), (cA 9, .int), (cA 10, .int), (cA 11, .int), (cA 12, .int), (cA 14, .int), (cA 16, .int), (cA 17, .int), (cA 18, .int), (cA 19, .int), (cA 20, .int), (cA 21, .int), (cA 22, .int), (cA 23, .int), (cA 24, .int), (cA 25, .int), (cA 26, .int), (cA 28, .int), (cA 29, .int), (cA 30, .int), (cA 31, .int), (cA 32, .int), (cA 33, .int), (cA 34, .int), (cA 35, .int), (cA 36, .int), (cA 37, .int), (cA 38, .int), (cA 40, .int), (cA 41, .int), (cA 42, .int), (cA 44, .int), (cA 47, .object "ReceiptLeft$Image"), (cA 50, .int), (cA 51, .int), (cA 52, .int), (cA 53, .int), (cA 55, .int), (cA 58, .int), (cA 59, .int), (cA 60, .int), (cA 61, .int), (cA 63, .int), (cA 66, .int), (cA 67, .int), (cA 68, .int), (cA 69, .int), (cA 71, .int), (cA 72, .object "ReceiptLeft$Row"), (cA 74, .long), (cA 76, .long), (cA 78, .long), (cA 80, .long)]
def zMd (q : Nat → Nat) (cA : Nat → ClassId) : zKd := fun k i r j => match k with
  | 0 => .inr (11, [.int (i 0), .ref (q 1), .ref (q 2), .ref (q 3), .ref (q 4), .int (i 5), .ref (q 5), .int (i 7), .int (i 8), .int (i 9), .int (i 10), .int (i 11), .int (i 12), .int (i 13), .ref (q 6), .ref (q 7), .ref (q 8), .ref (q 9), .ref (q 10), .ref (q 11), .ref (q 12), .ref (q 13), .ref (q 14), .ref (q 15), .ref (q 16), .ref (q 17), .int (i 26), .int (i 27), .int (i 28), .int (i 29), .ref (q 18), .int (i 31), .ref (q 19), .int (i 33), .int (i 34), .ref (q 20), .int (i 36), .int (i 37), .int (i 38), .long (j 39), .ref (q 21), .ref (q 22), .ref (q 23), .ref (q 24)])
  | 1 => .inl (cA 1, 119, .inl r)
  | 2 => .inl (cA 2, 357, .inl r)
  | 3 => .inl (cA 3, 3, .inl r)
  | 4 => .inl (cA 4, 800, .inl r)
  | 5 => .inl (cA 5, 5, .inl r)
  | 6 => .inl (cA 6, 119, .inl r)
  | 7 => .inl (cA 7, 5, .inl r)
  | 8 => .inl (cA 8, 5, .inl r)
  | 9 => .inl (cA 9, 6, .inl r)
  | 10 => .inl (cA 10, 24, .inl r)
  | 11 => .inl (cA 11, 24, .inl r)
  | 12 => .inl (cA 12, 24, .inl r)
  | 13 => .inl (cA 13, 24, .inl r)
  | 14 => .inl (cA 14, 24, .inl r)
  | 15 => .inl (cA 15, 5, .inl r)
  | 16 => .inl (cA 16, 876, .inl r)
  | 17 => .inl (cA 17, 6, .inl r)
  | 18 => .inl (cA 18, 5, .inl r)
  | 19 => .inl (cA 19, 5, .inl r)
  | 20 => .inl (cA 20, 224, .inl r)
  | 21 => .inl (cA 21, 4, .inl r)
  | 22 => .inl (cA 22, 4, .inl r)
  | 23 => .inl (cA 23, 240, .inr (.inl j))
  | _ => .inl (cA 24, 60, .inr (.inl j))
abbrev zMtys (cA : Nat → ClassId) : List (ClassId × FieldType) := [(cA 1, .int), (cA 2, .int), (cA 3, .boolean), (cA 4, .byte), (cA 5, .int), (cA 6, .int), (cA 7, .int), (cA 8, .int), (cA 9, .int), (cA 10, .int), (cA 11, .int), (cA 12, .int), (cA 13, .int), (cA 14, .int), (cA 15, .int), (cA 16, .int), (cA 17, .int), (cA 18, .int), (cA 19, .int), (cA 20, .int), (cA 21, .int), (cA 22, .int), (cA 23, .long), (cA 24, .long)]
def zXI0 : Nat → Nat → Int32 := fun k f => bif (Nat.beq k 1 && Nat.beq f 3) || (Nat.beq f 1 && (Nat.beq k 73 || Nat.beq k 75 || Nat.beq k 77 || Nat.beq k 79)) then -1 else nI 0
def zXR0 : Nat → Nat → Int32 := fun _ _ => nI 0
def zXJ0 : Nat → Nat → Int64 := fun _ _ => 0
def zMI0 : Nat → Nat → Int32 := fun k f => bif (Nat.beq k 0 && Nat.beq f 13) then -1 else nI 0
def zMR0 : Nat → Nat → Int32 := fun k j => bif Nat.beq k 21 then (bif Nat.blt j 4 then -1 else nI 0) else nI 0
def zMJ0 : Nat → Nat → Int64 := fun _ _ => 0
theorem z_many {x : Int32} (h0 : 0 ≤ x.toInt) (h : x.toInt < 4) : zMR0 21 x.toNatClampNeg = -1 := by
  have h1 : x.toNatClampNeg = x.toInt.toNat := rfl
  have h2 : Nat.blt x.toNatClampNeg 4 = true := by
    rw [h1]
    exact Nat.ble_eq.mpr (by omega)
  simp only [zMR0, Nat.beq_refl, cond_true, h2]
end
section
set_option maxHeartbeats 4000000 in
set_option maxRecDepth 100000 in
theorem kX11_in (l : Launch) (D : va_G) (q : Nat → Nat) (cA : Nat → ClassId) (I R : Nat → Nat → Int32) (J : Nat → Nat → Int64) (x a b : Int) (v : Int64) (lo : Int64) (hi : Int64) (hv : v.toInt = x) (hlo : lo.toInt = a) (hhi : hi.toInt = b) : zMi l D vwCl (zMtys cA) 25 q (zMd q cA) yX11_in cX11_in 6 (some .boolean) ({ frames := 0, cells := 0, slots := 0, locals := 0 } : Room) [.long (v), .long (lo), .long (hi)] (I, R, J) (fun r u => (r = nI 1 ∧ u = (I, R, J) ∧ a ≤ x ∧ x ≤ b) ∨ (r = nI 0 ∧ u = (I, R, J) ∧ (x < a ∨ b < x))) := by
  intro sz
  refine z_body (by decide +kernel) (Nat.le_of_ble_eq_true rfl) (fun p e s m below meth c ls hx hb hml hr ht hown hlocks hsz hK hP hD hS hl => ?_)
  have hA : ∀ a, s.heap.size ≤ a → zA 25 q sz a := fun a h => Or.inr (hsz ▸ h)
  have hl : lv_has ls 6 [(0, .long (v)), (2, .long (lo)), (4, .long (hi))] := hl
  refine lv_lload_n hx hb dX11_in_0 rfl (lv_at hl 0 rfl) ?_
  refine lv_lload_n hx hb dX11_in_1 rfl (lv_at hl 1 rfl) ?_
  refine W.lcmp hx hb dX11_in_2 ?_
  refine lv_if_lt (tgt := 17) hx hb dX11_in_3 (by decide) (fun c_1 => ?_) (fun c_1 => ?_)
  · have t_c_1 := z_lltT ((lg_cmp_lt _ _).mp c_1)
    refine lv_iconst (v := nI 0) hx hb dX11_in_17 (by decide +kernel) ?_
    exact z_zret (v := nI 0) hx hb hr hlocks hP hD hS (by decide +kernel) dX11_in_18 (Or.inr ⟨rfl, rfl, by omega⟩)
  · have t_c_1 := z_lltF (fun h => c_1 ((lg_cmp_lt _ _).mpr h))
    refine lv_lload_n hx hb dX11_in_6 rfl (lv_at hl 0 rfl) ?_
    refine lv_lload hx hb dX11_in_7 (lv_at hl 2 rfl) ?_
    refine W.lcmp hx hb dX11_in_9 ?_
    refine lv_if_gt (tgt := 17) hx hb dX11_in_10 (by decide) (fun c_2 => ?_) (fun c_2 => ?_)
    · have t_c_2 := z_lltT ((lg_cmp_gt _ _).mp c_2)
      refine lv_iconst (v := nI 0) hx hb dX11_in_17 (by decide +kernel) ?_
      exact z_zret (v := nI 0) hx hb hr hlocks hP hD hS (by decide +kernel) dX11_in_18 (Or.inr ⟨rfl, rfl, by omega⟩)
    · have t_c_2 := z_lltF (fun h => c_2 ((lg_cmp_gt _ _).mpr h))
      refine lv_iconst (v := nI 1) hx hb dX11_in_13 (by decide +kernel) ?_
      refine lv_goto (tgt := 18) hx hb dX11_in_14 (by decide) ?_
      exact z_zret (v := nI 1) hx hb hr hlocks hP hD hS (by decide +kernel) dX11_in_18 (Or.inl ⟨rfl, rfl, by omega, by omega⟩)
set_option maxHeartbeats 4000000 in
set_option maxRecDepth 100000 in
theorem kX11_isCity (l : Launch) (D : va_G) (q : Nat → Nat) (cA : Nat → ClassId)    : zMi l D vwCl (zMtys cA) 25 q (zMd q cA) yX11_isCity cX11_isCity 1 (some .boolean) ({ frames := 0, cells := 0, slots := 0, locals := 0 } : Room) [.ref (q 0)] (zMI0, zMR0, zMJ0) (fun r u => r = nI 0 ∧ u = (zMI0, zMR0, zMJ0)) := by
  intro sz
  refine z_body (by decide +kernel) (Nat.le_of_ble_eq_true rfl) (fun p e s m below meth c ls hx hb hml hr ht hown hlocks hsz hK hP hD hS hl => ?_)
  have hA : ∀ a, s.heap.size ≤ a → zA 25 q sz a := fun a h => Or.inr (hsz ▸ h)
  have hl : lv_has ls 1 [(0, .ref (q 0))] := hl
  refine lv_aload_n hx hb dX11_isCity_0 rfl (lv_at hl 0 rfl) ?_
  refine z_get hx hb ht hown hK hP ziX11 rfl 0 (by decide) 1 (by decide) hw_5_188 rfl (v := .ref (q 1)) rfl dX11_isCity_1 ?_
  refine lv_iconst (v := nI 5) hx hb dX11_isCity_4 (by decide +kernel) ?_
  refine z_iald hx hb hK hP 1 (by decide) 0 rfl rfl (vp_in_nI (by omega) (by decide)) dX11_isCity_5 ?_
  refine z_eqi (y := nI 0) rfl ?_
  refine lv_if_le (tgt := 13) hx hb dX11_isCity_6 (by decide) (fun _ => ?_) (fun c_0 => absurd (by decide +kernel) c_0)
  refine lv_iconst (v := nI 0) hx hb dX11_isCity_13 (by decide +kernel) ?_
  exact z_zret (v := nI 0) hx hb hr hlocks hP hD hS (by decide +kernel) dX11_isCity_14 ⟨rfl, rfl⟩
set_option maxHeartbeats 4000000 in
set_option maxRecDepth 100000 in
theorem kX11_isHouse (l : Launch) (D : va_G) (q : Nat → Nat) (cA : Nat → ClassId)  (h : Int64)  : zMi l D vwCl (zMtys cA) 25 q (zMd q cA) yX11_isHouse cX11_isHouse 3 (some .boolean) ({ frames := 1, cells := 0, slots := 0, locals := 25 } : Room) [.ref (q 0), .long (h)] (zMI0, zMR0, zMJ0) (fun r u => r = nI 0 ∧ u = (zMI0, zMR0, zMJ0)) := by
  intro sz
  refine z_body (by decide +kernel) (Nat.le_of_ble_eq_true rfl) (fun p e s m below meth c ls hx hb hml hr ht hown hlocks hsz hK hP hD hS hl => ?_)
  have hA : ∀ a, s.heap.size ≤ a → zA 25 q sz a := fun a h => Or.inr (hsz ▸ h)
  have hl : lv_has ls 3 [(0, .ref (q 0)), (1, .long (h))] := hl
  refine lv_lload_n hx hb dX11_isHouse_0 rfl (lv_at hl 1 rfl) ?_
  refine lv_lconst (v := (0 : Int64)) hx hb dX11_isHouse_1 (by decide +kernel) ?_
  refine lv_aload_n hx hb dX11_isHouse_2 rfl (lv_at hl 0 rfl) ?_
  refine z_get hx hb ht hown hK hP ziX11 rfl 0 (by decide) 1 (by decide) hw_5_188 rfl (v := .ref (q 1)) rfl dX11_isHouse_3 ?_
  refine lv_iconst (v := nI 3) hx hb dX11_isHouse_6 (by decide +kernel) ?_
  refine z_iald hx hb hK hP 1 (by decide) 0 rfl rfl (vp_in_nI (by omega) (by decide)) dX11_isHouse_7 ?_
  refine z_eqi (y := nI 0) rfl ?_
  refine lv_iconst (v := nI 1) hx hb dX11_isHouse_8 (by decide +kernel) ?_
  refine lv_isub hx hb dX11_isHouse_9 ?_
  refine z_eqi (y := (-1)) (by decide +kernel) ?_
  refine lv_i2l (v := (-1 : Int64)) hx hb dX11_isHouse_10 (by decide +kernel) ?_
  refine z_callSi (As := [.long (h), .long ((0 : Int64)), .long ((-1 : Int64))]) (rest := []) hx hb hml hown ht (kX11_in l D q cA _ _ _ (h).toInt 0 (-1) (h) ((0 : Int64)) ((-1 : Int64)) rfl (by decide +kernel) (by decide +kernel)) hw_6_86 hmX11_in ⟨rfl, rfl⟩ (na := 3) rfl (by decide +kernel) (by decide) hK hP hD hS hA hl.1 rfl (Nat.le_of_ble_eq_true rfl) ⟨Nat.zero_le _, Nat.zero_le _⟩ dX11_isHouse_11 (fun r_1 I_1 R_1 J_1 H locs hp_1 hP hD hS _ _ => ?_)
  rcases hp_1 with ⟨rfl, hu_1, h1_1, h2_1⟩ | ⟨rfl, hu_1, h1_1⟩
  · exfalso; omega
  · cases hu_1
    exact z_zret (v := nI 0) hx hb hr hlocks hP hD hS (by decide +kernel) dX11_isHouse_14 ⟨rfl, rfl⟩
set_option maxHeartbeats 4000000 in
set_option maxRecDepth 100000 in
theorem kX11_isThing (l : Launch) (D : va_G) (q : Nat → Nat) (cA : Nat → ClassId)  (h : Int64)  : zMi l D vwCl (zMtys cA) 25 q (zMd q cA) yX11_isThing cX11_isThing 3 (some .boolean) ({ frames := 1, cells := 0, slots := 0, locals := 25 } : Room) [.ref (q 0), .long (h)] (zMI0, zMR0, zMJ0) (fun r u => r = nI 0 ∧ u = (zMI0, zMR0, zMJ0)) := by
  intro sz
  refine z_body (by decide +kernel) (Nat.le_of_ble_eq_true rfl) (fun p e s m below meth c ls hx hb hml hr ht hown hlocks hsz hK hP hD hS hl => ?_)
  have hA : ∀ a, s.heap.size ≤ a → zA 25 q sz a := fun a h => Or.inr (hsz ▸ h)
  have hl : lv_has ls 3 [(0, .ref (q 0)), (1, .long (h))] := hl
  refine lv_lload_n hx hb dX11_isThing_0 rfl (lv_at hl 1 rfl) ?_
  refine lv_lconst (v := (0 : Int64)) hx hb dX11_isThing_1 (by decide +kernel) ?_
  refine lv_aload_n hx hb dX11_isThing_2 rfl (lv_at hl 0 rfl) ?_
  refine z_get hx hb ht hown hK hP ziX11 rfl 0 (by decide) 1 (by decide) hw_5_188 rfl (v := .ref (q 1)) rfl dX11_isThing_3 ?_
  refine lv_iconst (v := nI 4) hx hb dX11_isThing_6 (by decide +kernel) ?_
  refine z_iald hx hb hK hP 1 (by decide) 0 rfl rfl (vp_in_nI (by omega) (by decide)) dX11_isThing_7 ?_
  refine z_eqi (y := nI 0) rfl ?_
  refine lv_iconst (v := nI 1) hx hb dX11_isThing_8 (by decide +kernel) ?_
  refine lv_isub hx hb dX11_isThing_9 ?_
  refine z_eqi (y := (-1)) (by decide +kernel) ?_
  refine lv_i2l (v := (-1 : Int64)) hx hb dX11_isThing_10 (by decide +kernel) ?_
  refine z_callSi (As := [.long (h), .long ((0 : Int64)), .long ((-1 : Int64))]) (rest := []) hx hb hml hown ht (kX11_in l D q cA _ _ _ (h).toInt 0 (-1) (h) ((0 : Int64)) ((-1 : Int64)) rfl (by decide +kernel) (by decide +kernel)) hw_6_86 hmX11_in ⟨rfl, rfl⟩ (na := 3) rfl (by decide +kernel) (by decide) hK hP hD hS hA hl.1 rfl (Nat.le_of_ble_eq_true rfl) ⟨Nat.zero_le _, Nat.zero_le _⟩ dX11_isThing_11 (fun r_1 I_1 R_1 J_1 H locs hp_1 hP hD hS _ _ => ?_)
  rcases hp_1 with ⟨rfl, hu_1, h1_1, h2_1⟩ | ⟨rfl, hu_1, h1_1⟩
  · exfalso; omega
  · cases hu_1
    exact z_zret (v := nI 0) hx hb hr hlocks hP hD hS (by decide +kernel) dX11_isThing_14 ⟨rfl, rfl⟩
set_option maxHeartbeats 4000000 in
set_option maxRecDepth 100000 in
theorem kX11_house (l : Launch) (D : va_G) (q : Nat → Nat) (cA : Nat → ClassId)  (h : Int32) (w : Int32)  : zMi l D vwCl (zMtys cA) 25 q (zMd q cA) yX11_house cX11_house 5 (some .int) ({ frames := 2, cells := 0, slots := 0, locals := 47 } : Room) [.ref (q 0), .int (h), .int (w)] (zMI0, zMR0, zMJ0) (fun r _ => r = (-2)) := by
  intro sz
  refine z_body (by decide +kernel) (Nat.le_of_ble_eq_true rfl) (fun p e s m below meth c ls hx hb hml hr ht hown hlocks hsz hK hP hD hS hl => ?_)
  have hA : ∀ a, s.heap.size ≤ a → zA 25 q sz a := fun a h => Or.inr (hsz ▸ h)
  have hl : lv_has ls 5 [(0, .ref (q 0)), (1, .int (h)), (2, .int (w))] := hl
  refine lv_aload_n hx hb dX11_house_0 rfl (lv_at hl 0 rfl) ?_
  refine lv_iload_n hx hb dX11_house_1 rfl (lv_at hl 1 rfl) ?_
  refine lv_i2l (v := (h).toInt64) hx hb dX11_house_2 rfl ?_
  refine z_callVi (k := 0) (As := [.long ((h).toInt64)]) (rest := []) hx hb hml hown ht (kX11_isHouse l D q cA ((h).toInt64)) hw_6_176 hmX11_isHouse ⟨rfl, rfl⟩ (na := 1) rfl (by decide +kernel) (by decide) (by decide) rfl rfl hK hP hD hS hA hl.1 rfl (Nat.le_of_ble_eq_true rfl) ⟨Nat.zero_le _, Nat.zero_le _⟩ dX11_house_3 (fun r_1 I_1 R_1 J_1 H locs hp_1 hP hD hS _ _ => ?_)
  obtain ⟨rfl, hu_1⟩ := hp_1
  cases hu_1
  refine lv_if_eq (tgt := 21) hx hb dX11_house_6 (by decide) (fun _ => ?_) (fun c_0 => absurd (by decide +kernel) c_0)
  refine lv_bipush (v := (-2)) hx hb dX11_house_21 (by decide +kernel) ?_
  exact z_iret (v := (-2)) hx hb hr hlocks hP hD hS dX11_house_23 rfl
set_option maxHeartbeats 4000000 in
set_option maxRecDepth 100000 in
theorem kX11_thing (l : Launch) (D : va_G) (q : Nat → Nat) (cA : Nat → ClassId)  (h : Int32) (w : Int32)  : zMi l D vwCl (zMtys cA) 25 q (zMd q cA) yX11_thing cX11_thing 3 (some .int) ({ frames := 2, cells := 0, slots := 0, locals := 47 } : Room) [.ref (q 0), .int (h), .int (w)] (zMI0, zMR0, zMJ0) (fun r _ => r = (-2)) := by
  intro sz
  refine z_body (by decide +kernel) (Nat.le_of_ble_eq_true rfl) (fun p e s m below meth c ls hx hb hml hr ht hown hlocks hsz hK hP hD hS hl => ?_)
  have hA : ∀ a, s.heap.size ≤ a → zA 25 q sz a := fun a h => Or.inr (hsz ▸ h)
  have hl : lv_has ls 3 [(0, .ref (q 0)), (1, .int (h)), (2, .int (w))] := hl
  refine lv_aload_n hx hb dX11_thing_0 rfl (lv_at hl 0 rfl) ?_
  refine lv_iload_n hx hb dX11_thing_1 rfl (lv_at hl 1 rfl) ?_
  refine lv_i2l (v := (h).toInt64) hx hb dX11_thing_2 rfl ?_
  refine z_callVi (k := 0) (As := [.long ((h).toInt64)]) (rest := []) hx hb hml hown ht (kX11_isThing l D q cA ((h).toInt64)) hw_6_238 hmX11_isThing ⟨rfl, rfl⟩ (na := 1) rfl (by decide +kernel) (by decide) (by decide) rfl rfl hK hP hD hS hA hl.1 rfl (Nat.le_of_ble_eq_true rfl) ⟨Nat.zero_le _, Nat.zero_le _⟩ dX11_thing_3 (fun r_1 I_1 R_1 J_1 H locs hp_1 hP hD hS _ _ => ?_)
  obtain ⟨rfl, hu_1⟩ := hp_1
  cases hu_1
  refine lv_if_eq (tgt := 21) hx hb dX11_thing_6 (by decide) (fun _ => ?_) (fun c_0 => absurd (by decide +kernel) c_0)
  refine lv_bipush (v := (-2)) hx hb dX11_thing_21 (by decide +kernel) ?_
  exact z_iret (v := (-2)) hx hb hr hlocks hP hD hS dX11_thing_23 rfl
set_option maxHeartbeats 4000000 in
set_option maxRecDepth 100000 in
theorem kX11_value (l : Launch) (D : va_G) (q : Nat → Nat) (cA : Nat → ClassId)  (h : Int32) (w : Int32)  : zMi l D vwCl (zMtys cA) 25 q (zMd q cA) yX11_value cX11_value 3 (some .int) ({ frames := 2, cells := 0, slots := 0, locals := 47 } : Room) [.ref (q 0), .int (h), .int (w)] (zMI0, zMR0, zMJ0) (fun r _ => r = (-2)) := by
  intro sz
  refine z_body (by decide +kernel) (Nat.le_of_ble_eq_true rfl) (fun p e s m below meth c ls hx hb hml hr ht hown hlocks hsz hK hP hD hS hl => ?_)
  have hA : ∀ a, s.heap.size ≤ a → zA 25 q sz a := fun a h => Or.inr (hsz ▸ h)
  have hl : lv_has ls 3 [(0, .ref (q 0)), (1, .int (h)), (2, .int (w))] := hl
  refine lv_aload_n hx hb dX11_value_0 rfl (lv_at hl 0 rfl) ?_
  refine lv_iload_n hx hb dX11_value_1 rfl (lv_at hl 1 rfl) ?_
  refine lv_i2l (v := (h).toInt64) hx hb dX11_value_2 rfl ?_
  refine z_callVi (k := 0) (As := [.long ((h).toInt64)]) (rest := []) hx hb hml hown ht (kX11_isHouse l D q cA ((h).toInt64)) hw_6_176 hmX11_isHouse ⟨rfl, rfl⟩ (na := 1) rfl (by decide +kernel) (by decide) (by decide) rfl rfl hK hP hD hS hA hl.1 rfl (Nat.le_of_ble_eq_true rfl) ⟨Nat.zero_le _, Nat.zero_le _⟩ dX11_value_3 (fun r_1 I_1 R_1 J_1 H locs hp_1 hP hD hS _ _ => ?_)
  obtain ⟨rfl, hu_1⟩ := hp_1
  cases hu_1
  refine lv_if_eq (tgt := 27) hx hb dX11_value_6 (by decide) (fun _ => ?_) (fun c_0 => absurd (by decide +kernel) c_0)
  refine lv_bipush (v := (-2)) hx hb dX11_value_27 (by decide +kernel) ?_
  exact z_iret (v := (-2)) hx hb hr hlocks hP hD hS dX11_value_29 rfl
set_option maxHeartbeats 4000000 in
set_option maxRecDepth 100000 in
theorem kX11_net (l : Launch) (D : va_G) (q : Nat → Nat) (cA : Nat → ClassId)  (h : Int32)  : zMi l D vwCl (zMtys cA) 25 q (zMd q cA) yX11_net cX11_net 2 (some .int) ({ frames := 2, cells := 0, slots := 0, locals := 47 } : Room) [.ref (q 0), .int (h)] (zMI0, zMR0, zMJ0) (fun r _ => r = (-100000)) := by
  intro sz
  refine z_body (by decide +kernel) (Nat.le_of_ble_eq_true rfl) (fun p e s m below meth c ls hx hb hml hr ht hown hlocks hsz hK hP hD hS hl => ?_)
  have hA : ∀ a, s.heap.size ≤ a → zA 25 q sz a := fun a h => Or.inr (hsz ▸ h)
  have hl : lv_has ls 2 [(0, .ref (q 0)), (1, .int (h))] := hl
  refine lv_aload_n hx hb dX11_net_0 rfl (lv_at hl 0 rfl) ?_
  refine lv_iload_n hx hb dX11_net_1 rfl (lv_at hl 1 rfl) ?_
  refine lv_i2l (v := (h).toInt64) hx hb dX11_net_2 rfl ?_
  refine z_callVi (k := 0) (As := [.long ((h).toInt64)]) (rest := []) hx hb hml hown ht (kX11_isHouse l D q cA ((h).toInt64)) hw_6_176 hmX11_isHouse ⟨rfl, rfl⟩ (na := 1) rfl (by decide +kernel) (by decide) (by decide) rfl rfl hK hP hD hS hA hl.1 rfl (Nat.le_of_ble_eq_true rfl) ⟨Nat.zero_le _, Nat.zero_le _⟩ dX11_net_3 (fun r_1 I_1 R_1 J_1 H locs hp_1 hP hD hS _ _ => ?_)
  obtain ⟨rfl, hu_1⟩ := hp_1
  cases hu_1
  refine lv_if_ne (tgt := 13) hx hb dX11_net_6 (by decide) (fun c_0 => absurd (by decide +kernel) c_0) (fun _ => ?_)
  refine lv_ldcw (v := (-100000)) hx hb hown (ht _ hw_7_30) dX11_net_9 ?_
  exact z_iret (v := (-100000)) hx hb hr hlocks hP hD hS dX11_net_12 rfl
set_option maxHeartbeats 4000000 in
set_option maxRecDepth 100000 in
theorem kX11_steal (l : Launch) (D : va_G) (q : Nat → Nat) (cA : Nat → ClassId)  (h : Int32) (t : Int32) (d : Int32)  : zMi l D vwCl (zMtys cA) 25 q (zMd q cA) yX11_steal cX11_steal 4 (some .int) ({ frames := 2, cells := 0, slots := 0, locals := 47 } : Room) [.ref (q 0), .int (h), .int (t), .int (d)] (zMI0, zMR0, zMJ0) (fun r _ => r = (-2)) := by
  intro sz
  refine z_body (by decide +kernel) (Nat.le_of_ble_eq_true rfl) (fun p e s m below meth c ls hx hb hml hr ht hown hlocks hsz hK hP hD hS hl => ?_)
  have hA : ∀ a, s.heap.size ≤ a → zA 25 q sz a := fun a h => Or.inr (hsz ▸ h)
  have hl : lv_has ls 4 [(0, .ref (q 0)), (1, .int (h)), (2, .int (t)), (3, .int (d))] := hl
  refine lv_aload_n hx hb dX11_steal_0 rfl (lv_at hl 0 rfl) ?_
  refine lv_iload_n hx hb dX11_steal_1 rfl (lv_at hl 1 rfl) ?_
  refine lv_i2l (v := (h).toInt64) hx hb dX11_steal_2 rfl ?_
  refine z_callVi (k := 0) (As := [.long ((h).toInt64)]) (rest := []) hx hb hml hown ht (kX11_isHouse l D q cA ((h).toInt64)) hw_6_176 hmX11_isHouse ⟨rfl, rfl⟩ (na := 1) rfl (by decide +kernel) (by decide) (by decide) rfl rfl hK hP hD hS hA hl.1 rfl (Nat.le_of_ble_eq_true rfl) ⟨Nat.zero_le _, Nat.zero_le _⟩ dX11_steal_3 (fun r_1 I_1 R_1 J_1 H locs hp_1 hP hD hS _ _ => ?_)
  obtain ⟨rfl, hu_1⟩ := hp_1
  cases hu_1
  refine lv_if_eq (tgt := 30) hx hb dX11_steal_6 (by decide) (fun _ => ?_) (fun c_0 => absurd (by decide +kernel) c_0)
  refine lv_bipush (v := (-2)) hx hb dX11_steal_30 (by decide +kernel) ?_
  exact z_iret (v := (-2)) hx hb hr hlocks hP hD hS dX11_steal_32 rfl
set_option maxHeartbeats 4000000 in
set_option maxRecDepth 100000 in
theorem kX11_lock (l : Launch) (D : va_G) (q : Nat → Nat) (cA : Nat → ClassId)  (h : Int32) (w : Int32)  : zMi l D vwCl (zMtys cA) 25 q (zMd q cA) yX11_lock cX11_lock 3 (some .int) ({ frames := 2, cells := 0, slots := 0, locals := 47 } : Room) [.ref (q 0), .int (h), .int (w)] (zMI0, zMR0, zMJ0) (fun r _ => r = (-2)) := by
  intro sz
  refine z_body (by decide +kernel) (Nat.le_of_ble_eq_true rfl) (fun p e s m below meth c ls hx hb hml hr ht hown hlocks hsz hK hP hD hS hl => ?_)
  have hA : ∀ a, s.heap.size ≤ a → zA 25 q sz a := fun a h => Or.inr (hsz ▸ h)
  have hl : lv_has ls 3 [(0, .ref (q 0)), (1, .int (h)), (2, .int (w))] := hl
  refine lv_aload_n hx hb dX11_lock_0 rfl (lv_at hl 0 rfl) ?_
  refine lv_iload_n hx hb dX11_lock_1 rfl (lv_at hl 1 rfl) ?_
  refine lv_i2l (v := (h).toInt64) hx hb dX11_lock_2 rfl ?_
  refine z_callVi (k := 0) (As := [.long ((h).toInt64)]) (rest := []) hx hb hml hown ht (kX11_isHouse l D q cA ((h).toInt64)) hw_6_176 hmX11_isHouse ⟨rfl, rfl⟩ (na := 1) rfl (by decide +kernel) (by decide) (by decide) rfl rfl hK hP hD hS hA hl.1 rfl (Nat.le_of_ble_eq_true rfl) ⟨Nat.zero_le _, Nat.zero_le _⟩ dX11_lock_3 (fun r_1 I_1 R_1 J_1 H locs hp_1 hP hD hS _ _ => ?_)
  obtain ⟨rfl, hu_1⟩ := hp_1
  cases hu_1
  refine lv_if_eq (tgt := 19) hx hb dX11_lock_6 (by decide) (fun _ => ?_) (fun c_0 => absurd (by decide +kernel) c_0)
  refine lv_bipush (v := (-2)) hx hb dX11_lock_19 (by decide +kernel) ?_
  exact z_iret (v := (-2)) hx hb hr hlocks hP hD hS dX11_lock_21 rfl
set_option maxHeartbeats 4000000 in
set_option maxRecDepth 100000 in
theorem kX11_night (l : Launch) (D : va_G) (q : Nat → Nat) (cA : Nat → ClassId)    : zMi l D vwCl (zMtys cA) 25 q (zMd q cA) yX11_night cX11_night 1 (some .int) ({ frames := 1, cells := 0, slots := 0, locals := 20 } : Room) [.ref (q 0)] (zMI0, zMR0, zMJ0) (fun r _ => r = (-2)) := by
  intro sz
  refine z_body (by decide +kernel) (Nat.le_of_ble_eq_true rfl) (fun p e s m below meth c ls hx hb hml hr ht hown hlocks hsz hK hP hD hS hl => ?_)
  have hA : ∀ a, s.heap.size ≤ a → zA 25 q sz a := fun a h => Or.inr (hsz ▸ h)
  have hl : lv_has ls 1 [(0, .ref (q 0))] := hl
  refine lv_aload_n hx hb dX11_night_0 rfl (lv_at hl 0 rfl) ?_
  refine z_callVi (k := 0) (As := []) (rest := []) hx hb hml hown ht (kX11_isCity l D q cA ) hw_7_75 hmX11_isCity ⟨rfl, rfl⟩ (na := 0) rfl (by decide +kernel) (by decide) (by decide) rfl rfl hK hP hD hS hA hl.1 rfl (Nat.le_of_ble_eq_true rfl) ⟨Nat.zero_le _, Nat.zero_le _⟩ dX11_night_1 (fun r_1 I_1 R_1 J_1 H locs hp_1 hP hD hS _ _ => ?_)
  obtain ⟨rfl, hu_1⟩ := hp_1
  cases hu_1
  refine lv_if_ne (tgt := 10) hx hb dX11_night_4 (by decide) (fun c_0 => absurd (by decide +kernel) c_0) (fun _ => ?_)
  refine lv_bipush (v := (-2)) hx hb dX11_night_7 (by decide +kernel) ?_
  exact z_iret (v := (-2)) hx hb hr hlocks hP hD hS dX11_night_9 rfl
set_option maxHeartbeats 4000000 in
set_option maxRecDepth 100000 in
theorem kX11_undo (l : Launch) (D : va_G) (q : Nat → Nat) (cA : Nat → ClassId)    : zMi l D vwCl (zMtys cA) 25 q (zMd q cA) yX11_undo cX11_undo 1 (some .int) ({ frames := 1, cells := 0, slots := 0, locals := 20 } : Room) [.ref (q 0)] (zMI0, zMR0, zMJ0) (fun r _ => r = (-2)) := by
  intro sz
  refine z_body (by decide +kernel) (Nat.le_of_ble_eq_true rfl) (fun p e s m below meth c ls hx hb hml hr ht hown hlocks hsz hK hP hD hS hl => ?_)
  have hA : ∀ a, s.heap.size ≤ a → zA 25 q sz a := fun a h => Or.inr (hsz ▸ h)
  have hl : lv_has ls 1 [(0, .ref (q 0))] := hl
  refine lv_aload_n hx hb dX11_undo_0 rfl (lv_at hl 0 rfl) ?_
  refine z_callVi (k := 0) (As := []) (rest := []) hx hb hml hown ht (kX11_isCity l D q cA ) hw_7_75 hmX11_isCity ⟨rfl, rfl⟩ (na := 0) rfl (by decide +kernel) (by decide) (by decide) rfl rfl hK hP hD hS hA hl.1 rfl (Nat.le_of_ble_eq_true rfl) ⟨Nat.zero_le _, Nat.zero_le _⟩ dX11_undo_1 (fun r_1 I_1 R_1 J_1 H locs hp_1 hP hD hS _ _ => ?_)
  obtain ⟨rfl, hu_1⟩ := hp_1
  cases hu_1
  refine lv_if_ne (tgt := 10) hx hb dX11_undo_4 (by decide) (fun c_0 => absurd (by decide +kernel) c_0) (fun _ => ?_)
  refine lv_bipush (v := (-2)) hx hb dX11_undo_7 (by decide +kernel) ?_
  exact z_iret (v := (-2)) hx hb hr hlocks hP hD hS dX11_undo_9 rfl
set_option maxHeartbeats 4000000 in
set_option maxRecDepth 100000 in
theorem kX11_anew (l : Launch) (D : va_G) (q : Nat → Nat) (cA : Nat → ClassId)    : zMi l D vwCl (zMtys cA) 25 q (zMd q cA) yX11_anew cX11_anew 2 (some .int) ({ frames := 1, cells := 0, slots := 0, locals := 20 } : Room) [.ref (q 0)] (zMI0, zMR0, zMJ0) (fun r _ => r = (-2)) := by
  intro sz
  refine z_body (by decide +kernel) (Nat.le_of_ble_eq_true rfl) (fun p e s m below meth c ls hx hb hml hr ht hown hlocks hsz hK hP hD hS hl => ?_)
  have hA : ∀ a, s.heap.size ≤ a → zA 25 q sz a := fun a h => Or.inr (hsz ▸ h)
  have hl : lv_has ls 2 [(0, .ref (q 0))] := hl
  refine lv_aload_n hx hb dX11_anew_0 rfl (lv_at hl 0 rfl) ?_
  refine z_callVi (k := 0) (As := []) (rest := []) hx hb hml hown ht (kX11_isCity l D q cA ) hw_7_75 hmX11_isCity ⟨rfl, rfl⟩ (na := 0) rfl (by decide +kernel) (by decide) (by decide) rfl rfl hK hP hD hS hA hl.1 rfl (Nat.le_of_ble_eq_true rfl) ⟨Nat.zero_le _, Nat.zero_le _⟩ dX11_anew_1 (fun r_1 I_1 R_1 J_1 H locs hp_1 hP hD hS _ _ => ?_)
  obtain ⟨rfl, hu_1⟩ := hp_1
  cases hu_1
  refine lv_if_ne (tgt := 10) hx hb dX11_anew_4 (by decide) (fun c_0 => absurd (by decide +kernel) c_0) (fun _ => ?_)
  refine lv_bipush (v := (-2)) hx hb dX11_anew_7 (by decide +kernel) ?_
  exact z_iret (v := (-2)) hx hb hr hlocks hP hD hS dX11_anew_9 rfl
set_option maxHeartbeats 4000000 in
set_option maxRecDepth 100000 in
theorem kX11_now (l : Launch) (D : va_G) (q : Nat → Nat) (cA : Nat → ClassId)  (w : Int32)  : zMi l D vwCl (zMtys cA) 25 q (zMd q cA) yX11_now cX11_now 4 (some .int) ({ frames := 1, cells := 0, slots := 0, locals := 20 } : Room) [.ref (q 0), .int (w)] (zMI0, zMR0, zMJ0) (fun r _ => r = (-2)) := by
  intro sz
  refine z_body (by decide +kernel) (Nat.le_of_ble_eq_true rfl) (fun p e s m below meth c ls hx hb hml hr ht hown hlocks hsz hK hP hD hS hl => ?_)
  have hA : ∀ a, s.heap.size ≤ a → zA 25 q sz a := fun a h => Or.inr (hsz ▸ h)
  have hl : lv_has ls 4 [(0, .ref (q 0)), (1, .int (w))] := hl
  refine lv_aload_n hx hb dX11_now_0 rfl (lv_at hl 0 rfl) ?_
  refine z_callVi (k := 0) (As := []) (rest := []) hx hb hml hown ht (kX11_isCity l D q cA ) hw_7_75 hmX11_isCity ⟨rfl, rfl⟩ (na := 0) rfl (by decide +kernel) (by decide) (by decide) rfl rfl hK hP hD hS hA hl.1 rfl (Nat.le_of_ble_eq_true rfl) ⟨Nat.zero_le _, Nat.zero_le _⟩ dX11_now_1 (fun r_1 I_1 R_1 J_1 H locs hp_1 hP hD hS _ _ => ?_)
  obtain ⟨rfl, hu_1⟩ := hp_1
  cases hu_1
  refine lv_if_eq (tgt := 19) hx hb dX11_now_4 (by decide) (fun _ => ?_) (fun c_0 => absurd (by decide +kernel) c_0)
  refine lv_bipush (v := (-2)) hx hb dX11_now_19 (by decide +kernel) ?_
  exact z_iret (v := (-2)) hx hb hr hlocks hP hD hS dX11_now_21 rfl
set_option maxHeartbeats 4000000 in
set_option maxRecDepth 100000 in
theorem kX11_owner (l : Launch) (D : va_G) (q : Nat → Nat) (cA : Nat → ClassId)  (t : Int32)  : zMi l D vwCl (zMtys cA) 25 q (zMd q cA) yX11_owner cX11_owner 2 (some .int) ({ frames := 2, cells := 0, slots := 0, locals := 47 } : Room) [.ref (q 0), .int (t)] (zMI0, zMR0, zMJ0) (fun r _ => r = (-2)) := by
  intro sz
  refine z_body (by decide +kernel) (Nat.le_of_ble_eq_true rfl) (fun p e s m below meth c ls hx hb hml hr ht hown hlocks hsz hK hP hD hS hl => ?_)
  have hA : ∀ a, s.heap.size ≤ a → zA 25 q sz a := fun a h => Or.inr (hsz ▸ h)
  have hl : lv_has ls 2 [(0, .ref (q 0)), (1, .int (t))] := hl
  refine lv_aload_n hx hb dX11_owner_0 rfl (lv_at hl 0 rfl) ?_
  refine lv_iload_n hx hb dX11_owner_1 rfl (lv_at hl 1 rfl) ?_
  refine lv_i2l (v := (t).toInt64) hx hb dX11_owner_2 rfl ?_
  refine z_callVi (k := 0) (As := [.long ((t).toInt64)]) (rest := []) hx hb hml hown ht (kX11_isThing l D q cA ((t).toInt64)) hw_6_238 hmX11_isThing ⟨rfl, rfl⟩ (na := 1) rfl (by decide +kernel) (by decide) (by decide) rfl rfl hK hP hD hS hA hl.1 rfl (Nat.le_of_ble_eq_true rfl) ⟨Nat.zero_le _, Nat.zero_le _⟩ dX11_owner_3 (fun r_1 I_1 R_1 J_1 H locs hp_1 hP hD hS _ _ => ?_)
  obtain ⟨rfl, hu_1⟩ := hp_1
  cases hu_1
  refine lv_if_ne (tgt := 12) hx hb dX11_owner_6 (by decide) (fun c_0 => absurd (by decide +kernel) c_0) (fun _ => ?_)
  refine lv_bipush (v := (-2)) hx hb dX11_owner_9 (by decide +kernel) ?_
  exact z_iret (v := (-2)) hx hb hr hlocks hP hD hS dX11_owner_11 rfl
set_option maxHeartbeats 4000000 in
set_option maxRecDepth 100000 in
theorem kX11_chain (l : Launch) (D : va_G) (q : Nat → Nat) (cA : Nat → ClassId)  (t : Int32) (i : Int32)  : zMi l D vwCl (zMtys cA) 25 q (zMd q cA) yX11_chain cX11_chain 3 (some .int) ({ frames := 2, cells := 0, slots := 0, locals := 47 } : Room) [.ref (q 0), .int (t), .int (i)] (zMI0, zMR0, zMJ0) (fun r _ => r = (-2)) := by
  intro sz
  refine z_body (by decide +kernel) (Nat.le_of_ble_eq_true rfl) (fun p e s m below meth c ls hx hb hml hr ht hown hlocks hsz hK hP hD hS hl => ?_)
  have hA : ∀ a, s.heap.size ≤ a → zA 25 q sz a := fun a h => Or.inr (hsz ▸ h)
  have hl : lv_has ls 3 [(0, .ref (q 0)), (1, .int (t)), (2, .int (i))] := hl
  refine lv_aload_n hx hb dX11_chain_0 rfl (lv_at hl 0 rfl) ?_
  refine lv_iload_n hx hb dX11_chain_1 rfl (lv_at hl 1 rfl) ?_
  refine lv_i2l (v := (t).toInt64) hx hb dX11_chain_2 rfl ?_
  refine z_callVi (k := 0) (As := [.long ((t).toInt64)]) (rest := []) hx hb hml hown ht (kX11_isThing l D q cA ((t).toInt64)) hw_6_238 hmX11_isThing ⟨rfl, rfl⟩ (na := 1) rfl (by decide +kernel) (by decide) (by decide) rfl rfl hK hP hD hS hA hl.1 rfl (Nat.le_of_ble_eq_true rfl) ⟨Nat.zero_le _, Nat.zero_le _⟩ dX11_chain_3 (fun r_1 I_1 R_1 J_1 H locs hp_1 hP hD hS _ _ => ?_)
  obtain ⟨rfl, hu_1⟩ := hp_1
  cases hu_1
  refine lv_if_ne (tgt := 12) hx hb dX11_chain_6 (by decide) (fun c_0 => absurd (by decide +kernel) c_0) (fun _ => ?_)
  refine lv_bipush (v := (-2)) hx hb dX11_chain_9 (by decide +kernel) ?_
  exact z_iret (v := (-2)) hx hb hr hlocks hP hD hS dX11_chain_11 rfl
set_option maxHeartbeats 4000000 in
set_option maxRecDepth 100000 in
theorem kX11_rings (l : Launch) (D : va_G) (q : Nat → Nat) (cA : Nat → ClassId)    : zMi l D vwCl (zMtys cA) 25 q (zMd q cA) yX11_rings cX11_rings 3 (some .int) ({ frames := 1, cells := 0, slots := 0, locals := 20 } : Room) [.ref (q 0)] (zMI0, zMR0, zMJ0) (fun r _ => r = (-2)) := by
  intro sz
  refine z_body (by decide +kernel) (Nat.le_of_ble_eq_true rfl) (fun p e s m below meth c ls hx hb hml hr ht hown hlocks hsz hK hP hD hS hl => ?_)
  have hA : ∀ a, s.heap.size ≤ a → zA 25 q sz a := fun a h => Or.inr (hsz ▸ h)
  have hl : lv_has ls 3 [(0, .ref (q 0))] := hl
  refine lv_aload_n hx hb dX11_rings_0 rfl (lv_at hl 0 rfl) ?_
  refine z_callVi (k := 0) (As := []) (rest := []) hx hb hml hown ht (kX11_isCity l D q cA ) hw_7_75 hmX11_isCity ⟨rfl, rfl⟩ (na := 0) rfl (by decide +kernel) (by decide) (by decide) rfl rfl hK hP hD hS hA hl.1 rfl (Nat.le_of_ble_eq_true rfl) ⟨Nat.zero_le _, Nat.zero_le _⟩ dX11_rings_1 (fun r_1 I_1 R_1 J_1 H locs hp_1 hP hD hS _ _ => ?_)
  obtain ⟨rfl, hu_1⟩ := hp_1
  cases hu_1
  refine lv_if_ne (tgt := 10) hx hb dX11_rings_4 (by decide) (fun c_0 => absurd (by decide +kernel) c_0) (fun _ => ?_)
  refine lv_bipush (v := (-2)) hx hb dX11_rings_7 (by decide +kernel) ?_
  exact z_iret (v := (-2)) hx hb hr hlocks hP hD hS dX11_rings_9 rfl
set_option maxHeartbeats 4000000 in
set_option maxRecDepth 100000 in
theorem kX11_owns (l : Launch) (D : va_G) (q : Nat → Nat) (cA : Nat → ClassId)  (h : Int32)  : zMi l D vwCl (zMtys cA) 25 q (zMd q cA) yX11_owns cX11_owns 4 (some .int) ({ frames := 2, cells := 0, slots := 0, locals := 47 } : Room) [.ref (q 0), .int (h)] (zMI0, zMR0, zMJ0) (fun r _ => r = (-2)) := by
  intro sz
  refine z_body (by decide +kernel) (Nat.le_of_ble_eq_true rfl) (fun p e s m below meth c ls hx hb hml hr ht hown hlocks hsz hK hP hD hS hl => ?_)
  have hA : ∀ a, s.heap.size ≤ a → zA 25 q sz a := fun a h => Or.inr (hsz ▸ h)
  have hl : lv_has ls 4 [(0, .ref (q 0)), (1, .int (h))] := hl
  refine lv_aload_n hx hb dX11_owns_0 rfl (lv_at hl 0 rfl) ?_
  refine lv_iload_n hx hb dX11_owns_1 rfl (lv_at hl 1 rfl) ?_
  refine lv_i2l (v := (h).toInt64) hx hb dX11_owns_2 rfl ?_
  refine z_callVi (k := 0) (As := [.long ((h).toInt64)]) (rest := []) hx hb hml hown ht (kX11_isHouse l D q cA ((h).toInt64)) hw_6_176 hmX11_isHouse ⟨rfl, rfl⟩ (na := 1) rfl (by decide +kernel) (by decide) (by decide) rfl rfl hK hP hD hS hA hl.1 rfl (Nat.le_of_ble_eq_true rfl) ⟨Nat.zero_le _, Nat.zero_le _⟩ dX11_owns_3 (fun r_1 I_1 R_1 J_1 H locs hp_1 hP hD hS _ _ => ?_)
  obtain ⟨rfl, hu_1⟩ := hp_1
  cases hu_1
  refine lv_if_ne (tgt := 12) hx hb dX11_owns_6 (by decide) (fun c_0 => absurd (by decide +kernel) c_0) (fun _ => ?_)
  refine lv_bipush (v := (-2)) hx hb dX11_owns_9 (by decide +kernel) ?_
  exact z_iret (v := (-2)) hx hb hr hlocks hP hD hS dX11_owns_11 rfl
set_option maxHeartbeats 4000000 in
set_option maxRecDepth 100000 in
theorem kX11_twice (l : Launch) (D : va_G) (q : Nat → Nat) (cA : Nat → ClassId)    : zMi l D vwCl (zMtys cA) 25 q (zMd q cA) yX11_twice cX11_twice 4 (some .int) ({ frames := 1, cells := 0, slots := 0, locals := 20 } : Room) [.ref (q 0)] (zMI0, zMR0, zMJ0) (fun r _ => r = (-2)) := by
  intro sz
  refine z_body (by decide +kernel) (Nat.le_of_ble_eq_true rfl) (fun p e s m below meth c ls hx hb hml hr ht hown hlocks hsz hK hP hD hS hl => ?_)
  have hA : ∀ a, s.heap.size ≤ a → zA 25 q sz a := fun a h => Or.inr (hsz ▸ h)
  have hl : lv_has ls 4 [(0, .ref (q 0))] := hl
  refine lv_aload_n hx hb dX11_twice_0 rfl (lv_at hl 0 rfl) ?_
  refine z_callVi (k := 0) (As := []) (rest := []) hx hb hml hown ht (kX11_isCity l D q cA ) hw_7_75 hmX11_isCity ⟨rfl, rfl⟩ (na := 0) rfl (by decide +kernel) (by decide) (by decide) rfl rfl hK hP hD hS hA hl.1 rfl (Nat.le_of_ble_eq_true rfl) ⟨Nat.zero_le _, Nat.zero_le _⟩ dX11_twice_1 (fun r_1 I_1 R_1 J_1 H locs hp_1 hP hD hS _ _ => ?_)
  obtain ⟨rfl, hu_1⟩ := hp_1
  cases hu_1
  refine lv_if_ne (tgt := 10) hx hb dX11_twice_4 (by decide) (fun c_0 => absurd (by decide +kernel) c_0) (fun _ => ?_)
  refine lv_bipush (v := (-2)) hx hb dX11_twice_7 (by decide +kernel) ?_
  exact z_iret (v := (-2)) hx hb hr hlocks hP hD hS dX11_twice_9 rfl
set_option maxHeartbeats 4000000 in
set_option maxRecDepth 100000 in
theorem kX11_strikes (l : Launch) (D : va_G) (q : Nat → Nat) (cA : Nat → ClassId)    : zMi l D vwCl (zMtys cA) 25 q (zMd q cA) yX11_strikes cX11_strikes 1 (some .int) ({ frames := 1, cells := 0, slots := 0, locals := 20 } : Room) [.ref (q 0)] (zMI0, zMR0, zMJ0) (fun r _ => r = (-2)) := by
  intro sz
  refine z_body (by decide +kernel) (Nat.le_of_ble_eq_true rfl) (fun p e s m below meth c ls hx hb hml hr ht hown hlocks hsz hK hP hD hS hl => ?_)
  have hA : ∀ a, s.heap.size ≤ a → zA 25 q sz a := fun a h => Or.inr (hsz ▸ h)
  have hl : lv_has ls 1 [(0, .ref (q 0))] := hl
  refine lv_aload_n hx hb dX11_strikes_0 rfl (lv_at hl 0 rfl) ?_
  refine z_callVi (k := 0) (As := []) (rest := []) hx hb hml hown ht (kX11_isCity l D q cA ) hw_7_75 hmX11_isCity ⟨rfl, rfl⟩ (na := 0) rfl (by decide +kernel) (by decide) (by decide) rfl rfl hK hP hD hS hA hl.1 rfl (Nat.le_of_ble_eq_true rfl) ⟨Nat.zero_le _, Nat.zero_le _⟩ dX11_strikes_1 (fun r_1 I_1 R_1 J_1 H locs hp_1 hP hD hS _ _ => ?_)
  obtain ⟨rfl, hu_1⟩ := hp_1
  cases hu_1
  refine lv_if_eq (tgt := 17) hx hb dX11_strikes_4 (by decide) (fun _ => ?_) (fun c_0 => absurd (by decide +kernel) c_0)
  refine lv_bipush (v := (-2)) hx hb dX11_strikes_17 (by decide +kernel) ?_
  exact z_iret (v := (-2)) hx hb hr hlocks hP hD hS dX11_strikes_19 rfl
set_option maxHeartbeats 4000000 in
set_option maxRecDepth 100000 in
theorem kX11_struck (l : Launch) (D : va_G) (q : Nat → Nat) (cA : Nat → ClassId)    : zMi l D vwCl (zMtys cA) 25 q (zMd q cA) yX11_struck cX11_struck 1 (some .int) ({ frames := 1, cells := 0, slots := 0, locals := 20 } : Room) [.ref (q 0)] (zMI0, zMR0, zMJ0) (fun r _ => r = (-2)) := by
  intro sz
  refine z_body (by decide +kernel) (Nat.le_of_ble_eq_true rfl) (fun p e s m below meth c ls hx hb hml hr ht hown hlocks hsz hK hP hD hS hl => ?_)
  have hA : ∀ a, s.heap.size ≤ a → zA 25 q sz a := fun a h => Or.inr (hsz ▸ h)
  have hl : lv_has ls 1 [(0, .ref (q 0))] := hl
  refine lv_aload_n hx hb dX11_struck_0 rfl (lv_at hl 0 rfl) ?_
  refine z_callVi (k := 0) (As := []) (rest := []) hx hb hml hown ht (kX11_isCity l D q cA ) hw_7_75 hmX11_isCity ⟨rfl, rfl⟩ (na := 0) rfl (by decide +kernel) (by decide) (by decide) rfl rfl hK hP hD hS hA hl.1 rfl (Nat.le_of_ble_eq_true rfl) ⟨Nat.zero_le _, Nat.zero_le _⟩ dX11_struck_1 (fun r_1 I_1 R_1 J_1 H locs hp_1 hP hD hS _ _ => ?_)
  obtain ⟨rfl, hu_1⟩ := hp_1
  cases hu_1
  refine lv_if_eq (tgt := 14) hx hb dX11_struck_4 (by decide) (fun _ => ?_) (fun c_0 => absurd (by decide +kernel) c_0)
  refine lv_bipush (v := (-2)) hx hb dX11_struck_14 (by decide +kernel) ?_
  exact z_iret (v := (-2)) hx hb hr hlocks hP hD hS dX11_struck_16 rfl
set_option maxHeartbeats 4000000 in
set_option maxRecDepth 100000 in
theorem kX11_trail (l : Launch) (D : va_G) (q : Nat → Nat) (cA : Nat → ClassId)  (t : Int32) (i : Int32)  : zMi l D vwCl (zMtys cA) 25 q (zMd q cA) yX11_trail cX11_trail 3 (some .int) ({ frames := 2, cells := 0, slots := 0, locals := 47 } : Room) [.ref (q 0), .int (t), .int (i)] (zMI0, zMR0, zMJ0) (fun r _ => r = (-2)) := by
  intro sz
  refine z_body (by decide +kernel) (Nat.le_of_ble_eq_true rfl) (fun p e s m below meth c ls hx hb hml hr ht hown hlocks hsz hK hP hD hS hl => ?_)
  have hA : ∀ a, s.heap.size ≤ a → zA 25 q sz a := fun a h => Or.inr (hsz ▸ h)
  have hl : lv_has ls 3 [(0, .ref (q 0)), (1, .int (t)), (2, .int (i))] := hl
  refine lv_aload_n hx hb dX11_trail_0 rfl (lv_at hl 0 rfl) ?_
  refine lv_iload_n hx hb dX11_trail_1 rfl (lv_at hl 1 rfl) ?_
  refine lv_i2l (v := (t).toInt64) hx hb dX11_trail_2 rfl ?_
  refine z_callVi (k := 0) (As := [.long ((t).toInt64)]) (rest := []) hx hb hml hown ht (kX11_isThing l D q cA ((t).toInt64)) hw_6_238 hmX11_isThing ⟨rfl, rfl⟩ (na := 1) rfl (by decide +kernel) (by decide) (by decide) rfl rfl hK hP hD hS hA hl.1 rfl (Nat.le_of_ble_eq_true rfl) ⟨Nat.zero_le _, Nat.zero_le _⟩ dX11_trail_3 (fun r_1 I_1 R_1 J_1 H locs hp_1 hP hD hS _ _ => ?_)
  obtain ⟨rfl, hu_1⟩ := hp_1
  cases hu_1
  refine lv_if_ne (tgt := 12) hx hb dX11_trail_6 (by decide) (fun c_0 => absurd (by decide +kernel) c_0) (fun _ => ?_)
  refine lv_bipush (v := (-2)) hx hb dX11_trail_9 (by decide +kernel) ?_
  exact z_iret (v := (-2)) hx hb hr hlocks hP hD hS dX11_trail_11 rfl
set_option maxHeartbeats 4000000 in
set_option maxRecDepth 100000 in
theorem kX11_went (l : Launch) (D : va_G) (q : Nat → Nat) (cA : Nat → ClassId)  (t : Int32)  : zMi l D vwCl (zMtys cA) 25 q (zMd q cA) yX11_went cX11_went 2 (some .int) ({ frames := 2, cells := 0, slots := 0, locals := 47 } : Room) [.ref (q 0), .int (t)] (zMI0, zMR0, zMJ0) (fun r _ => r = (-2)) := by
  intro sz
  refine z_body (by decide +kernel) (Nat.le_of_ble_eq_true rfl) (fun p e s m below meth c ls hx hb hml hr ht hown hlocks hsz hK hP hD hS hl => ?_)
  have hA : ∀ a, s.heap.size ≤ a → zA 25 q sz a := fun a h => Or.inr (hsz ▸ h)
  have hl : lv_has ls 2 [(0, .ref (q 0)), (1, .int (t))] := hl
  refine lv_aload_n hx hb dX11_went_0 rfl (lv_at hl 0 rfl) ?_
  refine lv_iload_n hx hb dX11_went_1 rfl (lv_at hl 1 rfl) ?_
  refine lv_i2l (v := (t).toInt64) hx hb dX11_went_2 rfl ?_
  refine z_callVi (k := 0) (As := [.long ((t).toInt64)]) (rest := []) hx hb hml hown ht (kX11_isThing l D q cA ((t).toInt64)) hw_6_238 hmX11_isThing ⟨rfl, rfl⟩ (na := 1) rfl (by decide +kernel) (by decide) (by decide) rfl rfl hK hP hD hS hA hl.1 rfl (Nat.le_of_ble_eq_true rfl) ⟨Nat.zero_le _, Nat.zero_le _⟩ dX11_went_3 (fun r_1 I_1 R_1 J_1 H locs hp_1 hP hD hS _ _ => ?_)
  obtain ⟨rfl, hu_1⟩ := hp_1
  cases hu_1
  refine lv_if_ne (tgt := 12) hx hb dX11_went_6 (by decide) (fun c_0 => absurd (by decide +kernel) c_0) (fun _ => ?_)
  refine lv_bipush (v := (-2)) hx hb dX11_went_9 (by decide +kernel) ?_
  exact z_iret (v := (-2)) hx hb hr hlocks hP hD hS dX11_went_11 rfl
set_option maxHeartbeats 4000000 in
set_option maxRecDepth 100000 in
theorem kX11_lies (l : Launch) (D : va_G) (q : Nat → Nat) (cA : Nat → ClassId)  (h : Int32)  : zMi l D vwCl (zMtys cA) 25 q (zMd q cA) yX11_lies cX11_lies 2 (some .int) ({ frames := 2, cells := 0, slots := 0, locals := 47 } : Room) [.ref (q 0), .int (h)] (zMI0, zMR0, zMJ0) (fun r _ => r = (-2)) := by
  intro sz
  refine z_body (by decide +kernel) (Nat.le_of_ble_eq_true rfl) (fun p e s m below meth c ls hx hb hml hr ht hown hlocks hsz hK hP hD hS hl => ?_)
  have hA : ∀ a, s.heap.size ≤ a → zA 25 q sz a := fun a h => Or.inr (hsz ▸ h)
  have hl : lv_has ls 2 [(0, .ref (q 0)), (1, .int (h))] := hl
  refine lv_aload_n hx hb dX11_lies_0 rfl (lv_at hl 0 rfl) ?_
  refine lv_iload_n hx hb dX11_lies_1 rfl (lv_at hl 1 rfl) ?_
  refine lv_i2l (v := (h).toInt64) hx hb dX11_lies_2 rfl ?_
  refine z_callVi (k := 0) (As := [.long ((h).toInt64)]) (rest := []) hx hb hml hown ht (kX11_isHouse l D q cA ((h).toInt64)) hw_6_176 hmX11_isHouse ⟨rfl, rfl⟩ (na := 1) rfl (by decide +kernel) (by decide) (by decide) rfl rfl hK hP hD hS hA hl.1 rfl (Nat.le_of_ble_eq_true rfl) ⟨Nat.zero_le _, Nat.zero_le _⟩ dX11_lies_3 (fun r_1 I_1 R_1 J_1 H locs hp_1 hP hD hS _ _ => ?_)
  obtain ⟨rfl, hu_1⟩ := hp_1
  cases hu_1
  refine lv_if_ne (tgt := 12) hx hb dX11_lies_6 (by decide) (fun c_0 => absurd (by decide +kernel) c_0) (fun _ => ?_)
  refine lv_bipush (v := (-2)) hx hb dX11_lies_9 (by decide +kernel) ?_
  exact z_iret (v := (-2)) hx hb hr hlocks hP hD hS dX11_lies_11 rfl
set_option maxHeartbeats 4000000 in
set_option maxRecDepth 100000 in
theorem kX11_poorest (l : Launch) (D : va_G) (q : Nat → Nat) (cA : Nat → ClassId)    : zMi l D vwCl (zMtys cA) 25 q (zMd q cA) yX11_poorest cX11_poorest 3 (some .int) ({ frames := 1, cells := 0, slots := 0, locals := 20 } : Room) [.ref (q 0)] (zMI0, zMR0, zMJ0) (fun r _ => r = (-2)) := by
  intro sz
  refine z_body (by decide +kernel) (Nat.le_of_ble_eq_true rfl) (fun p e s m below meth c ls hx hb hml hr ht hown hlocks hsz hK hP hD hS hl => ?_)
  have hA : ∀ a, s.heap.size ≤ a → zA 25 q sz a := fun a h => Or.inr (hsz ▸ h)
  have hl : lv_has ls 3 [(0, .ref (q 0))] := hl
  refine lv_aload_n hx hb dX11_poorest_0 rfl (lv_at hl 0 rfl) ?_
  refine z_callVi (k := 0) (As := []) (rest := []) hx hb hml hown ht (kX11_isCity l D q cA ) hw_7_75 hmX11_isCity ⟨rfl, rfl⟩ (na := 0) rfl (by decide +kernel) (by decide) (by decide) rfl rfl hK hP hD hS hA hl.1 rfl (Nat.le_of_ble_eq_true rfl) ⟨Nat.zero_le _, Nat.zero_le _⟩ dX11_poorest_1 (fun r_1 I_1 R_1 J_1 H locs hp_1 hP hD hS _ _ => ?_)
  obtain ⟨rfl, hu_1⟩ := hp_1
  cases hu_1
  refine lv_if_ne (tgt := 10) hx hb dX11_poorest_4 (by decide) (fun c_0 => absurd (by decide +kernel) c_0) (fun _ => ?_)
  refine lv_bipush (v := (-2)) hx hb dX11_poorest_7 (by decide +kernel) ?_
  exact z_iret (v := (-2)) hx hb hr hlocks hP hD hS dX11_poorest_9 rfl
set_option maxHeartbeats 4000000 in
set_option maxRecDepth 100000 in
theorem kX11_due (l : Launch) (D : va_G) (q : Nat → Nat) (cA : Nat → ClassId)  (d : Int32)  : zMi l D vwCl (zMtys cA) 25 q (zMd q cA) yX11_due cX11_due 2 (some .int) ({ frames := 1, cells := 0, slots := 0, locals := 20 } : Room) [.ref (q 0), .int (d)] (zMI0, zMR0, zMJ0) (fun r _ => r = (-2)) := by
  intro sz
  refine z_body (by decide +kernel) (Nat.le_of_ble_eq_true rfl) (fun p e s m below meth c ls hx hb hml hr ht hown hlocks hsz hK hP hD hS hl => ?_)
  have hA : ∀ a, s.heap.size ≤ a → zA 25 q sz a := fun a h => Or.inr (hsz ▸ h)
  have hl : lv_has ls 2 [(0, .ref (q 0)), (1, .int (d))] := hl
  refine lv_aload_n hx hb dX11_due_0 rfl (lv_at hl 0 rfl) ?_
  refine z_callVi (k := 0) (As := []) (rest := []) hx hb hml hown ht (kX11_isCity l D q cA ) hw_7_75 hmX11_isCity ⟨rfl, rfl⟩ (na := 0) rfl (by decide +kernel) (by decide) (by decide) rfl rfl hK hP hD hS hA hl.1 rfl (Nat.le_of_ble_eq_true rfl) ⟨Nat.zero_le _, Nat.zero_le _⟩ dX11_due_1 (fun r_1 I_1 R_1 J_1 H locs hp_1 hP hD hS _ _ => ?_)
  obtain ⟨rfl, hu_1⟩ := hp_1
  cases hu_1
  refine lv_if_eq (tgt := 19) hx hb dX11_due_4 (by decide) (fun _ => ?_) (fun c_0 => absurd (by decide +kernel) c_0)
  refine lv_bipush (v := (-2)) hx hb dX11_due_19 (by decide +kernel) ?_
  exact z_iret (v := (-2)) hx hb hr hlocks hP hD hS dX11_due_21 rfl
set_option maxHeartbeats 4000000 in
set_option maxRecDepth 100000 in
theorem kX11_monday (l : Launch) (D : va_G) (q : Nat → Nat) (cA : Nat → ClassId)    : zMi l D vwCl (zMtys cA) 25 q (zMd q cA) yX11_monday cX11_monday 4 (some .int) ({ frames := 1, cells := 0, slots := 0, locals := 20 } : Room) [.ref (q 0)] (zMI0, zMR0, zMJ0) (fun r _ => r = (-2)) := by
  intro sz
  refine z_body (by decide +kernel) (Nat.le_of_ble_eq_true rfl) (fun p e s m below meth c ls hx hb hml hr ht hown hlocks hsz hK hP hD hS hl => ?_)
  have hA : ∀ a, s.heap.size ≤ a → zA 25 q sz a := fun a h => Or.inr (hsz ▸ h)
  have hl : lv_has ls 4 [(0, .ref (q 0))] := hl
  refine lv_aload_n hx hb dX11_monday_0 rfl (lv_at hl 0 rfl) ?_
  refine z_callVi (k := 0) (As := []) (rest := []) hx hb hml hown ht (kX11_isCity l D q cA ) hw_7_75 hmX11_isCity ⟨rfl, rfl⟩ (na := 0) rfl (by decide +kernel) (by decide) (by decide) rfl rfl hK hP hD hS hA hl.1 rfl (Nat.le_of_ble_eq_true rfl) ⟨Nat.zero_le _, Nat.zero_le _⟩ dX11_monday_1 (fun r_1 I_1 R_1 J_1 H locs hp_1 hP hD hS _ _ => ?_)
  obtain ⟨rfl, hu_1⟩ := hp_1
  cases hu_1
  refine lv_if_ne (tgt := 10) hx hb dX11_monday_4 (by decide) (fun c_0 => absurd (by decide +kernel) c_0) (fun _ => ?_)
  refine lv_bipush (v := (-2)) hx hb dX11_monday_7 (by decide +kernel) ?_
  exact z_iret (v := (-2)) hx hb hr hlocks hP hD hS dX11_monday_9 rfl
set_option maxHeartbeats 4000000 in
set_option maxRecDepth 100000 in
theorem kX11_lacks (l : Launch) (D : va_G) (q : Nat → Nat) (cA : Nat → ClassId)  (h : Int32)  : zMi l D vwCl (zMtys cA) 25 q (zMd q cA) yX11_lacks cX11_lacks 4 (some .int) ({ frames := 2, cells := 0, slots := 0, locals := 47 } : Room) [.ref (q 0), .int (h)] (zMI0, zMR0, zMJ0) (fun r _ => r = (-2)) := by
  intro sz
  refine z_body (by decide +kernel) (Nat.le_of_ble_eq_true rfl) (fun p e s m below meth c ls hx hb hml hr ht hown hlocks hsz hK hP hD hS hl => ?_)
  have hA : ∀ a, s.heap.size ≤ a → zA 25 q sz a := fun a h => Or.inr (hsz ▸ h)
  have hl : lv_has ls 4 [(0, .ref (q 0)), (1, .int (h))] := hl
  refine lv_aload_n hx hb dX11_lacks_0 rfl (lv_at hl 0 rfl) ?_
  refine lv_iload_n hx hb dX11_lacks_1 rfl (lv_at hl 1 rfl) ?_
  refine lv_i2l (v := (h).toInt64) hx hb dX11_lacks_2 rfl ?_
  refine z_callVi (k := 0) (As := [.long ((h).toInt64)]) (rest := []) hx hb hml hown ht (kX11_isHouse l D q cA ((h).toInt64)) hw_6_176 hmX11_isHouse ⟨rfl, rfl⟩ (na := 1) rfl (by decide +kernel) (by decide) (by decide) rfl rfl hK hP hD hS hA hl.1 rfl (Nat.le_of_ble_eq_true rfl) ⟨Nat.zero_le _, Nat.zero_le _⟩ dX11_lacks_3 (fun r_1 I_1 R_1 J_1 H locs hp_1 hP hD hS _ _ => ?_)
  obtain ⟨rfl, hu_1⟩ := hp_1
  cases hu_1
  refine lv_if_ne (tgt := 12) hx hb dX11_lacks_6 (by decide) (fun c_0 => absurd (by decide +kernel) c_0) (fun _ => ?_)
  refine lv_bipush (v := (-2)) hx hb dX11_lacks_9 (by decide +kernel) ?_
  exact z_iret (v := (-2)) hx hb hr hlocks hP hD hS dX11_lacks_11 rfl
set_option maxHeartbeats 4000000 in
set_option maxRecDepth 100000 in
theorem kX11_needs_ (l : Launch) (D : va_G) (q : Nat → Nat) (cA : Nat → ClassId)  (h : Int32)  : zMi l D vwCl (zMtys cA) 25 q (zMd q cA) yX11_needs_ cX11_needs_ 3 (some .int) ({ frames := 2, cells := 0, slots := 0, locals := 47 } : Room) [.ref (q 0), .int (h)] (zMI0, zMR0, zMJ0) (fun r _ => r = (-2)) := by
  intro sz
  refine z_body (by decide +kernel) (Nat.le_of_ble_eq_true rfl) (fun p e s m below meth c ls hx hb hml hr ht hown hlocks hsz hK hP hD hS hl => ?_)
  have hA : ∀ a, s.heap.size ≤ a → zA 25 q sz a := fun a h => Or.inr (hsz ▸ h)
  have hl : lv_has ls 3 [(0, .ref (q 0)), (1, .int (h))] := hl
  refine lv_aload_n hx hb dX11_needs__0 rfl (lv_at hl 0 rfl) ?_
  refine lv_iload_n hx hb dX11_needs__1 rfl (lv_at hl 1 rfl) ?_
  refine lv_i2l (v := (h).toInt64) hx hb dX11_needs__2 rfl ?_
  refine z_callVi (k := 0) (As := [.long ((h).toInt64)]) (rest := []) hx hb hml hown ht (kX11_isHouse l D q cA ((h).toInt64)) hw_6_176 hmX11_isHouse ⟨rfl, rfl⟩ (na := 1) rfl (by decide +kernel) (by decide) (by decide) rfl rfl hK hP hD hS hA hl.1 rfl (Nat.le_of_ble_eq_true rfl) ⟨Nat.zero_le _, Nat.zero_le _⟩ dX11_needs__3 (fun r_1 I_1 R_1 J_1 H locs hp_1 hP hD hS _ _ => ?_)
  obtain ⟨rfl, hu_1⟩ := hp_1
  cases hu_1
  refine lv_if_ne (tgt := 12) hx hb dX11_needs__6 (by decide) (fun c_0 => absurd (by decide +kernel) c_0) (fun _ => ?_)
  refine lv_bipush (v := (-2)) hx hb dX11_needs__9 (by decide +kernel) ?_
  exact z_iret (v := (-2)) hx hb hr hlocks hP hD hS dX11_needs__11 rfl
set_option maxHeartbeats 4000000 in
set_option maxRecDepth 100000 in
theorem kX11_fails (l : Launch) (D : va_G) (q : Nat → Nat) (cA : Nat → ClassId)  (n : Int32)  : zMi l D vwCl (zMtys cA) 25 q (zMd q cA) yX11_fails cX11_fails 2 (some .int) ({ frames := 1, cells := 0, slots := 0, locals := 20 } : Room) [.ref (q 0), .int (n)] (zMI0, zMR0, zMJ0) (fun r _ => r = (-2)) := by
  intro sz
  refine z_body (by decide +kernel) (Nat.le_of_ble_eq_true rfl) (fun p e s m below meth c ls hx hb hml hr ht hown hlocks hsz hK hP hD hS hl => ?_)
  have hA : ∀ a, s.heap.size ≤ a → zA 25 q sz a := fun a h => Or.inr (hsz ▸ h)
  have hl : lv_has ls 2 [(0, .ref (q 0)), (1, .int (n))] := hl
  refine lv_aload_n hx hb dX11_fails_0 rfl (lv_at hl 0 rfl) ?_
  refine z_callVi (k := 0) (As := []) (rest := []) hx hb hml hown ht (kX11_isCity l D q cA ) hw_7_75 hmX11_isCity ⟨rfl, rfl⟩ (na := 0) rfl (by decide +kernel) (by decide) (by decide) rfl rfl hK hP hD hS hA hl.1 rfl (Nat.le_of_ble_eq_true rfl) ⟨Nat.zero_le _, Nat.zero_le _⟩ dX11_fails_1 (fun r_1 I_1 R_1 J_1 H locs hp_1 hP hD hS _ _ => ?_)
  obtain ⟨rfl, hu_1⟩ := hp_1
  cases hu_1
  refine lv_if_eq (tgt := 22) hx hb dX11_fails_4 (by decide) (fun _ => ?_) (fun c_0 => absurd (by decide +kernel) c_0)
  refine lv_bipush (v := (-2)) hx hb dX11_fails_22 (by decide +kernel) ?_
  exact z_iret (v := (-2)) hx hb hr hlocks hP hD hS dX11_fails_24 rfl
set_option maxHeartbeats 4000000 in
set_option maxRecDepth 100000 in
theorem kX11_later (l : Launch) (D : va_G) (q : Nat → Nat) (cA : Nat → ClassId)  (t : Int32) (n : Int32)  : zMi l D vwCl (zMtys cA) 25 q (zMd q cA) yX11_later cX11_later 3 (some .int) ({ frames := 2, cells := 0, slots := 0, locals := 47 } : Room) [.ref (q 0), .int (t), .int (n)] (zMI0, zMR0, zMJ0) (fun r _ => r = (-2)) := by
  intro sz
  refine z_body (by decide +kernel) (Nat.le_of_ble_eq_true rfl) (fun p e s m below meth c ls hx hb hml hr ht hown hlocks hsz hK hP hD hS hl => ?_)
  have hA : ∀ a, s.heap.size ≤ a → zA 25 q sz a := fun a h => Or.inr (hsz ▸ h)
  have hl : lv_has ls 3 [(0, .ref (q 0)), (1, .int (t)), (2, .int (n))] := hl
  refine lv_aload_n hx hb dX11_later_0 rfl (lv_at hl 0 rfl) ?_
  refine lv_iload_n hx hb dX11_later_1 rfl (lv_at hl 1 rfl) ?_
  refine lv_i2l (v := (t).toInt64) hx hb dX11_later_2 rfl ?_
  refine z_callVi (k := 0) (As := [.long ((t).toInt64)]) (rest := []) hx hb hml hown ht (kX11_isThing l D q cA ((t).toInt64)) hw_6_238 hmX11_isThing ⟨rfl, rfl⟩ (na := 1) rfl (by decide +kernel) (by decide) (by decide) rfl rfl hK hP hD hS hA hl.1 rfl (Nat.le_of_ble_eq_true rfl) ⟨Nat.zero_le _, Nat.zero_le _⟩ dX11_later_3 (fun r_1 I_1 R_1 J_1 H locs hp_1 hP hD hS _ _ => ?_)
  obtain ⟨rfl, hu_1⟩ := hp_1
  cases hu_1
  refine lv_if_eq (tgt := 16) hx hb dX11_later_6 (by decide) (fun _ => ?_) (fun c_0 => absurd (by decide +kernel) c_0)
  refine lv_bipush (v := (-2)) hx hb dX11_later_16 (by decide +kernel) ?_
  exact z_iret (v := (-2)) hx hb hr hlocks hP hD hS dX11_later_18 rfl
set_option maxHeartbeats 4000000 in
set_option maxRecDepth 100000 in
theorem kX11_purse (l : Launch) (D : va_G) (q : Nat → Nat) (cA : Nat → ClassId)  (h : Int32) (n : Int32)  : zMi l D vwCl (zMtys cA) 25 q (zMd q cA) yX11_purse cX11_purse 3 (some .int) ({ frames := 2, cells := 0, slots := 0, locals := 47 } : Room) [.ref (q 0), .int (h), .int (n)] (zMI0, zMR0, zMJ0) (fun r _ => r = (-2)) := by
  intro sz
  refine z_body (by decide +kernel) (Nat.le_of_ble_eq_true rfl) (fun p e s m below meth c ls hx hb hml hr ht hown hlocks hsz hK hP hD hS hl => ?_)
  have hA : ∀ a, s.heap.size ≤ a → zA 25 q sz a := fun a h => Or.inr (hsz ▸ h)
  have hl : lv_has ls 3 [(0, .ref (q 0)), (1, .int (h)), (2, .int (n))] := hl
  refine lv_aload_n hx hb dX11_purse_0 rfl (lv_at hl 0 rfl) ?_
  refine lv_iload_n hx hb dX11_purse_1 rfl (lv_at hl 1 rfl) ?_
  refine lv_i2l (v := (h).toInt64) hx hb dX11_purse_2 rfl ?_
  refine z_callVi (k := 0) (As := [.long ((h).toInt64)]) (rest := []) hx hb hml hown ht (kX11_isHouse l D q cA ((h).toInt64)) hw_6_176 hmX11_isHouse ⟨rfl, rfl⟩ (na := 1) rfl (by decide +kernel) (by decide) (by decide) rfl rfl hK hP hD hS hA hl.1 rfl (Nat.le_of_ble_eq_true rfl) ⟨Nat.zero_le _, Nat.zero_le _⟩ dX11_purse_3 (fun r_1 I_1 R_1 J_1 H locs hp_1 hP hD hS _ _ => ?_)
  obtain ⟨rfl, hu_1⟩ := hp_1
  cases hu_1
  refine lv_if_eq (tgt := 16) hx hb dX11_purse_6 (by decide) (fun _ => ?_) (fun c_0 => absurd (by decide +kernel) c_0)
  refine lv_bipush (v := (-2)) hx hb dX11_purse_16 (by decide +kernel) ?_
  exact z_iret (v := (-2)) hx hb hr hlocks hP hD hS dX11_purse_18 rfl
set_option maxHeartbeats 4000000 in
set_option maxRecDepth 100000 in
theorem kX11_run (l : Launch) (D : va_G) (q : Nat → Nat) (cA : Nat → ClassId)    : zMi l D vwCl (zMtys cA) 25 q (zMd q cA) yX11_run cX11_run 4 (some .int) ({ frames := 1, cells := 0, slots := 0, locals := 20 } : Room) [.ref (q 0)] (zMI0, zMR0, zMJ0) (fun r _ => r = (-2)) := by
  intro sz
  refine z_body (by decide +kernel) (Nat.le_of_ble_eq_true rfl) (fun p e s m below meth c ls hx hb hml hr ht hown hlocks hsz hK hP hD hS hl => ?_)
  have hA : ∀ a, s.heap.size ≤ a → zA 25 q sz a := fun a h => Or.inr (hsz ▸ h)
  have hl : lv_has ls 4 [(0, .ref (q 0))] := hl
  refine lv_aload_n hx hb dX11_run_0 rfl (lv_at hl 0 rfl) ?_
  refine z_callVi (k := 0) (As := []) (rest := []) hx hb hml hown ht (kX11_isCity l D q cA ) hw_7_75 hmX11_isCity ⟨rfl, rfl⟩ (na := 0) rfl (by decide +kernel) (by decide) (by decide) rfl rfl hK hP hD hS hA hl.1 rfl (Nat.le_of_ble_eq_true rfl) ⟨Nat.zero_le _, Nat.zero_le _⟩ dX11_run_1 (fun r_1 I_1 R_1 J_1 H locs hp_1 hP hD hS _ _ => ?_)
  obtain ⟨rfl, hu_1⟩ := hp_1
  cases hu_1
  refine lv_if_ne (tgt := 10) hx hb dX11_run_4 (by decide) (fun c_0 => absurd (by decide +kernel) c_0) (fun _ => ?_)
  refine lv_bipush (v := (-2)) hx hb dX11_run_7 (by decide +kernel) ?_
  exact z_iret (v := (-2)) hx hb hr hlocks hP hD hS dX11_run_9 rfl
set_option maxHeartbeats 4000000 in
set_option maxRecDepth 100000 in
theorem kX11_hit (l : Launch) (D : va_G) (q : Nat → Nat) (cA : Nat → ClassId)  (h : Int32)  : zMi l D vwCl (zMtys cA) 25 q (zMd q cA) yX11_hit cX11_hit 2 (some .int) ({ frames := 2, cells := 0, slots := 0, locals := 47 } : Room) [.ref (q 0), .int (h)] (zMI0, zMR0, zMJ0) (fun r _ => r = (-2)) := by
  intro sz
  refine z_body (by decide +kernel) (Nat.le_of_ble_eq_true rfl) (fun p e s m below meth c ls hx hb hml hr ht hown hlocks hsz hK hP hD hS hl => ?_)
  have hA : ∀ a, s.heap.size ≤ a → zA 25 q sz a := fun a h => Or.inr (hsz ▸ h)
  have hl : lv_has ls 2 [(0, .ref (q 0)), (1, .int (h))] := hl
  refine lv_aload_n hx hb dX11_hit_0 rfl (lv_at hl 0 rfl) ?_
  refine lv_iload_n hx hb dX11_hit_1 rfl (lv_at hl 1 rfl) ?_
  refine lv_i2l (v := (h).toInt64) hx hb dX11_hit_2 rfl ?_
  refine z_callVi (k := 0) (As := [.long ((h).toInt64)]) (rest := []) hx hb hml hown ht (kX11_isHouse l D q cA ((h).toInt64)) hw_6_176 hmX11_isHouse ⟨rfl, rfl⟩ (na := 1) rfl (by decide +kernel) (by decide) (by decide) rfl rfl hK hP hD hS hA hl.1 rfl (Nat.le_of_ble_eq_true rfl) ⟨Nat.zero_le _, Nat.zero_le _⟩ dX11_hit_3 (fun r_1 I_1 R_1 J_1 H locs hp_1 hP hD hS _ _ => ?_)
  obtain ⟨rfl, hu_1⟩ := hp_1
  cases hu_1
  refine lv_if_eq (tgt := 17) hx hb dX11_hit_6 (by decide) (fun _ => ?_) (fun c_0 => absurd (by decide +kernel) c_0)
  refine lv_bipush (v := (-2)) hx hb dX11_hit_17 (by decide +kernel) ?_
  exact z_iret (v := (-2)) hx hb hr hlocks hP hD hS dX11_hit_19 rfl
set_option maxHeartbeats 4000000 in
set_option maxRecDepth 100000 in
theorem kX11_hits (l : Launch) (D : va_G) (q : Nat → Nat) (cA : Nat → ClassId)  (h : Int32)  : zMi l D vwCl (zMtys cA) 25 q (zMd q cA) yX11_hits cX11_hits 2 (some .int) ({ frames := 2, cells := 0, slots := 0, locals := 47 } : Room) [.ref (q 0), .int (h)] (zMI0, zMR0, zMJ0) (fun r _ => r = (-2)) := by
  intro sz
  refine z_body (by decide +kernel) (Nat.le_of_ble_eq_true rfl) (fun p e s m below meth c ls hx hb hml hr ht hown hlocks hsz hK hP hD hS hl => ?_)
  have hA : ∀ a, s.heap.size ≤ a → zA 25 q sz a := fun a h => Or.inr (hsz ▸ h)
  have hl : lv_has ls 2 [(0, .ref (q 0)), (1, .int (h))] := hl
  refine lv_aload_n hx hb dX11_hits_0 rfl (lv_at hl 0 rfl) ?_
  refine lv_iload_n hx hb dX11_hits_1 rfl (lv_at hl 1 rfl) ?_
  refine lv_i2l (v := (h).toInt64) hx hb dX11_hits_2 rfl ?_
  refine z_callVi (k := 0) (As := [.long ((h).toInt64)]) (rest := []) hx hb hml hown ht (kX11_isHouse l D q cA ((h).toInt64)) hw_6_176 hmX11_isHouse ⟨rfl, rfl⟩ (na := 1) rfl (by decide +kernel) (by decide) (by decide) rfl rfl hK hP hD hS hA hl.1 rfl (Nat.le_of_ble_eq_true rfl) ⟨Nat.zero_le _, Nat.zero_le _⟩ dX11_hits_3 (fun r_1 I_1 R_1 J_1 H locs hp_1 hP hD hS _ _ => ?_)
  obtain ⟨rfl, hu_1⟩ := hp_1
  cases hu_1
  refine lv_if_ne (tgt := 12) hx hb dX11_hits_6 (by decide) (fun c_0 => absurd (by decide +kernel) c_0) (fun _ => ?_)
  refine lv_bipush (v := (-2)) hx hb dX11_hits_9 (by decide +kernel) ?_
  exact z_iret (v := (-2)) hx hb hr hlocks hP hD hS dX11_hits_11 rfl
set_option maxHeartbeats 4000000 in
set_option maxRecDepth 100000 in
theorem kX11_plan (l : Launch) (D : va_G) (q : Nat → Nat) (cA : Nat → ClassId)  (h : Int32) (n : Int32)  : zMi l D vwCl (zMtys cA) 25 q (zMd q cA) yX11_plan cX11_plan 6 (some .int) ({ frames := 2, cells := 0, slots := 0, locals := 47 } : Room) [.ref (q 0), .int (h), .int (n)] (zMI0, zMR0, zMJ0) (fun r _ => r = (-2)) := by
  intro sz
  refine z_body (by decide +kernel) (Nat.le_of_ble_eq_true rfl) (fun p e s m below meth c ls hx hb hml hr ht hown hlocks hsz hK hP hD hS hl => ?_)
  have hA : ∀ a, s.heap.size ≤ a → zA 25 q sz a := fun a h => Or.inr (hsz ▸ h)
  have hl : lv_has ls 6 [(0, .ref (q 0)), (1, .int (h)), (2, .int (n))] := hl
  refine lv_aload_n hx hb dX11_plan_0 rfl (lv_at hl 0 rfl) ?_
  refine lv_iload_n hx hb dX11_plan_1 rfl (lv_at hl 1 rfl) ?_
  refine lv_i2l (v := (h).toInt64) hx hb dX11_plan_2 rfl ?_
  refine z_callVi (k := 0) (As := [.long ((h).toInt64)]) (rest := []) hx hb hml hown ht (kX11_isHouse l D q cA ((h).toInt64)) hw_6_176 hmX11_isHouse ⟨rfl, rfl⟩ (na := 1) rfl (by decide +kernel) (by decide) (by decide) rfl rfl hK hP hD hS hA hl.1 rfl (Nat.le_of_ble_eq_true rfl) ⟨Nat.zero_le _, Nat.zero_le _⟩ dX11_plan_3 (fun r_1 I_1 R_1 J_1 H locs hp_1 hP hD hS _ _ => ?_)
  obtain ⟨rfl, hu_1⟩ := hp_1
  cases hu_1
  refine lv_if_eq (tgt := 16) hx hb dX11_plan_6 (by decide) (fun _ => ?_) (fun c_0 => absurd (by decide +kernel) c_0)
  refine lv_bipush (v := (-2)) hx hb dX11_plan_16 (by decide +kernel) ?_
  exact z_iret (v := (-2)) hx hb hr hlocks hP hD hS dX11_plan_18 rfl
set_option maxHeartbeats 4000000 in
set_option maxRecDepth 100000 in
theorem kX11_plans (l : Launch) (D : va_G) (q : Nat → Nat) (cA : Nat → ClassId)  (h : Int32) (n : Int32) (i : Int32)  : zMi l D vwCl (zMtys cA) 25 q (zMd q cA) yX11_plans cX11_plans 6 (some .int) ({ frames := 2, cells := 0, slots := 0, locals := 47 } : Room) [.ref (q 0), .int (h), .int (n), .int (i)] (zMI0, zMR0, zMJ0) (fun r _ => r = (-2)) := by
  intro sz
  refine z_body (by decide +kernel) (Nat.le_of_ble_eq_true rfl) (fun p e s m below meth c ls hx hb hml hr ht hown hlocks hsz hK hP hD hS hl => ?_)
  have hA : ∀ a, s.heap.size ≤ a → zA 25 q sz a := fun a h => Or.inr (hsz ▸ h)
  have hl : lv_has ls 6 [(0, .ref (q 0)), (1, .int (h)), (2, .int (n)), (3, .int (i))] := hl
  refine lv_aload_n hx hb dX11_plans_0 rfl (lv_at hl 0 rfl) ?_
  refine lv_iload_n hx hb dX11_plans_1 rfl (lv_at hl 1 rfl) ?_
  refine lv_i2l (v := (h).toInt64) hx hb dX11_plans_2 rfl ?_
  refine z_callVi (k := 0) (As := [.long ((h).toInt64)]) (rest := []) hx hb hml hown ht (kX11_isHouse l D q cA ((h).toInt64)) hw_6_176 hmX11_isHouse ⟨rfl, rfl⟩ (na := 1) rfl (by decide +kernel) (by decide) (by decide) rfl rfl hK hP hD hS hA hl.1 rfl (Nat.le_of_ble_eq_true rfl) ⟨Nat.zero_le _, Nat.zero_le _⟩ dX11_plans_3 (fun r_1 I_1 R_1 J_1 H locs hp_1 hP hD hS _ _ => ?_)
  obtain ⟨rfl, hu_1⟩ := hp_1
  cases hu_1
  refine lv_if_eq (tgt := 16) hx hb dX11_plans_6 (by decide) (fun _ => ?_) (fun c_0 => absurd (by decide +kernel) c_0)
  refine lv_bipush (v := (-2)) hx hb dX11_plans_16 (by decide +kernel) ?_
  exact z_iret (v := (-2)) hx hb hr hlocks hP hD hS dX11_plans_18 rfl
set_option maxHeartbeats 4000000 in
set_option maxRecDepth 100000 in
theorem kX11_change (l : Launch) (D : va_G) (q : Nat → Nat) (cA : Nat → ClassId)  (h : Int32) (o : Int32)  : zMi l D vwCl (zMtys cA) 25 q (zMd q cA) yX11_change cX11_change 5 (some .int) ({ frames := 2, cells := 0, slots := 0, locals := 47 } : Room) [.ref (q 0), .int (h), .int (o)] (zMI0, zMR0, zMJ0) (fun r _ => r = (-2)) := by
  intro sz
  refine z_body (by decide +kernel) (Nat.le_of_ble_eq_true rfl) (fun p e s m below meth c ls hx hb hml hr ht hown hlocks hsz hK hP hD hS hl => ?_)
  have hA : ∀ a, s.heap.size ≤ a → zA 25 q sz a := fun a h => Or.inr (hsz ▸ h)
  have hl : lv_has ls 5 [(0, .ref (q 0)), (1, .int (h)), (2, .int (o))] := hl
  refine lv_aload_n hx hb dX11_change_0 rfl (lv_at hl 0 rfl) ?_
  refine lv_iload_n hx hb dX11_change_1 rfl (lv_at hl 1 rfl) ?_
  refine lv_i2l (v := (h).toInt64) hx hb dX11_change_2 rfl ?_
  refine z_callVi (k := 0) (As := [.long ((h).toInt64)]) (rest := []) hx hb hml hown ht (kX11_isHouse l D q cA ((h).toInt64)) hw_6_176 hmX11_isHouse ⟨rfl, rfl⟩ (na := 1) rfl (by decide +kernel) (by decide) (by decide) rfl rfl hK hP hD hS hA hl.1 rfl (Nat.le_of_ble_eq_true rfl) ⟨Nat.zero_le _, Nat.zero_le _⟩ dX11_change_3 (fun r_1 I_1 R_1 J_1 H locs hp_1 hP hD hS _ _ => ?_)
  obtain ⟨rfl, hu_1⟩ := hp_1
  cases hu_1
  refine lv_if_eq (tgt := 23) hx hb dX11_change_6 (by decide) (fun _ => ?_) (fun c_0 => absurd (by decide +kernel) c_0)
  refine lv_bipush (v := (-2)) hx hb dX11_change_23 (by decide +kernel) ?_
  exact z_iret (v := (-2)) hx hb hr hlocks hP hD hS dX11_change_25 rfl
set_option maxHeartbeats 4000000 in
set_option maxRecDepth 100000 in
theorem kX11_deal (l : Launch) (D : va_G) (q : Nat → Nat) (cA : Nat → ClassId)    : zMi l D vwCl (zMtys cA) 25 q (zMd q cA) yX11_deal cX11_deal 1 (some .int) ({ frames := 1, cells := 0, slots := 0, locals := 20 } : Room) [.ref (q 0)] (zMI0, zMR0, zMJ0) (fun r _ => r = (-2)) := by
  intro sz
  refine z_body (by decide +kernel) (Nat.le_of_ble_eq_true rfl) (fun p e s m below meth c ls hx hb hml hr ht hown hlocks hsz hK hP hD hS hl => ?_)
  have hA : ∀ a, s.heap.size ≤ a → zA 25 q sz a := fun a h => Or.inr (hsz ▸ h)
  have hl : lv_has ls 1 [(0, .ref (q 0))] := hl
  refine lv_aload_n hx hb dX11_deal_0 rfl (lv_at hl 0 rfl) ?_
  refine z_callVi (k := 0) (As := []) (rest := []) hx hb hml hown ht (kX11_isCity l D q cA ) hw_7_75 hmX11_isCity ⟨rfl, rfl⟩ (na := 0) rfl (by decide +kernel) (by decide) (by decide) rfl rfl hK hP hD hS hA hl.1 rfl (Nat.le_of_ble_eq_true rfl) ⟨Nat.zero_le _, Nat.zero_le _⟩ dX11_deal_1 (fun r_1 I_1 R_1 J_1 H locs hp_1 hP hD hS _ _ => ?_)
  obtain ⟨rfl, hu_1⟩ := hp_1
  cases hu_1
  refine lv_if_eq (tgt := 14) hx hb dX11_deal_4 (by decide) (fun _ => ?_) (fun c_0 => absurd (by decide +kernel) c_0)
  refine lv_bipush (v := (-2)) hx hb dX11_deal_14 (by decide +kernel) ?_
  exact z_iret (v := (-2)) hx hb hr hlocks hP hD hS dX11_deal_16 rfl
set_option maxHeartbeats 4000000 in
set_option maxRecDepth 100000 in
theorem kX11_deals (l : Launch) (D : va_G) (q : Nat → Nat) (cA : Nat → ClassId)  (t : Int32)  : zMi l D vwCl (zMtys cA) 25 q (zMd q cA) yX11_deals cX11_deals 6 (some .int) ({ frames := 2, cells := 0, slots := 0, locals := 47 } : Room) [.ref (q 0), .int (t)] (zMI0, zMR0, zMJ0) (fun r _ => r = (-2)) := by
  intro sz
  refine z_body (by decide +kernel) (Nat.le_of_ble_eq_true rfl) (fun p e s m below meth c ls hx hb hml hr ht hown hlocks hsz hK hP hD hS hl => ?_)
  have hA : ∀ a, s.heap.size ≤ a → zA 25 q sz a := fun a h => Or.inr (hsz ▸ h)
  have hl : lv_has ls 6 [(0, .ref (q 0)), (1, .int (t))] := hl
  refine lv_aload_n hx hb dX11_deals_0 rfl (lv_at hl 0 rfl) ?_
  refine lv_iload_n hx hb dX11_deals_1 rfl (lv_at hl 1 rfl) ?_
  refine lv_i2l (v := (t).toInt64) hx hb dX11_deals_2 rfl ?_
  refine z_callVi (k := 0) (As := [.long ((t).toInt64)]) (rest := []) hx hb hml hown ht (kX11_isThing l D q cA ((t).toInt64)) hw_6_238 hmX11_isThing ⟨rfl, rfl⟩ (na := 1) rfl (by decide +kernel) (by decide) (by decide) rfl rfl hK hP hD hS hA hl.1 rfl (Nat.le_of_ble_eq_true rfl) ⟨Nat.zero_le _, Nat.zero_le _⟩ dX11_deals_3 (fun r_1 I_1 R_1 J_1 H locs hp_1 hP hD hS _ _ => ?_)
  obtain ⟨rfl, hu_1⟩ := hp_1
  cases hu_1
  refine lv_if_ne (tgt := 12) hx hb dX11_deals_6 (by decide) (fun c_0 => absurd (by decide +kernel) c_0) (fun _ => ?_)
  refine lv_bipush (v := (-2)) hx hb dX11_deals_9 (by decide +kernel) ?_
  exact z_iret (v := (-2)) hx hb hr hlocks hP hD hS dX11_deals_11 rfl
set_option maxHeartbeats 4000000 in
set_option maxRecDepth 100000 in
theorem kX11_dear (l : Launch) (D : va_G) (q : Nat → Nat) (cA : Nat → ClassId)    : zMi l D vwCl (zMtys cA) 25 q (zMd q cA) yX11_dear cX11_dear 2 (some .int) ({ frames := 1, cells := 0, slots := 0, locals := 20 } : Room) [.ref (q 0)] (zMI0, zMR0, zMJ0) (fun r _ => r = (-2)) := by
  intro sz
  refine z_body (by decide +kernel) (Nat.le_of_ble_eq_true rfl) (fun p e s m below meth c ls hx hb hml hr ht hown hlocks hsz hK hP hD hS hl => ?_)
  have hA : ∀ a, s.heap.size ≤ a → zA 25 q sz a := fun a h => Or.inr (hsz ▸ h)
  have hl : lv_has ls 2 [(0, .ref (q 0))] := hl
  refine lv_aload_n hx hb dX11_dear_0 rfl (lv_at hl 0 rfl) ?_
  refine z_callVi (k := 0) (As := []) (rest := []) hx hb hml hown ht (kX11_isCity l D q cA ) hw_7_75 hmX11_isCity ⟨rfl, rfl⟩ (na := 0) rfl (by decide +kernel) (by decide) (by decide) rfl rfl hK hP hD hS hA hl.1 rfl (Nat.le_of_ble_eq_true rfl) ⟨Nat.zero_le _, Nat.zero_le _⟩ dX11_dear_1 (fun r_1 I_1 R_1 J_1 H locs hp_1 hP hD hS _ _ => ?_)
  obtain ⟨rfl, hu_1⟩ := hp_1
  cases hu_1
  refine lv_if_ne (tgt := 10) hx hb dX11_dear_4 (by decide) (fun c_0 => absurd (by decide +kernel) c_0) (fun _ => ?_)
  refine lv_bipush (v := (-2)) hx hb dX11_dear_7 (by decide +kernel) ?_
  exact z_iret (v := (-2)) hx hb hr hlocks hP hD hS dX11_dear_9 rfl
set_option maxHeartbeats 4000000 in
set_option maxRecDepth 100000 in
theorem kX11_rate (l : Launch) (D : va_G) (q : Nat → Nat) (cA : Nat → ClassId)  (t : Int32) (n : Int32)  : zMi l D vwCl (zMtys cA) 25 q (zMd q cA) yX11_rate cX11_rate 3 (some .int) ({ frames := 2, cells := 0, slots := 0, locals := 47 } : Room) [.ref (q 0), .int (t), .int (n)] (zMI0, zMR0, zMJ0) (fun r _ => r = (-2)) := by
  intro sz
  refine z_body (by decide +kernel) (Nat.le_of_ble_eq_true rfl) (fun p e s m below meth c ls hx hb hml hr ht hown hlocks hsz hK hP hD hS hl => ?_)
  have hA : ∀ a, s.heap.size ≤ a → zA 25 q sz a := fun a h => Or.inr (hsz ▸ h)
  have hl : lv_has ls 3 [(0, .ref (q 0)), (1, .int (t)), (2, .int (n))] := hl
  refine lv_aload_n hx hb dX11_rate_0 rfl (lv_at hl 0 rfl) ?_
  refine lv_iload_n hx hb dX11_rate_1 rfl (lv_at hl 1 rfl) ?_
  refine lv_i2l (v := (t).toInt64) hx hb dX11_rate_2 rfl ?_
  refine z_callVi (k := 0) (As := [.long ((t).toInt64)]) (rest := []) hx hb hml hown ht (kX11_isThing l D q cA ((t).toInt64)) hw_6_238 hmX11_isThing ⟨rfl, rfl⟩ (na := 1) rfl (by decide +kernel) (by decide) (by decide) rfl rfl hK hP hD hS hA hl.1 rfl (Nat.le_of_ble_eq_true rfl) ⟨Nat.zero_le _, Nat.zero_le _⟩ dX11_rate_3 (fun r_1 I_1 R_1 J_1 H locs hp_1 hP hD hS _ _ => ?_)
  obtain ⟨rfl, hu_1⟩ := hp_1
  cases hu_1
  refine lv_if_eq (tgt := 37) hx hb dX11_rate_6 (by decide) (fun _ => ?_) (fun c_0 => absurd (by decide +kernel) c_0)
  refine lv_bipush (v := (-2)) hx hb dX11_rate_37 (by decide +kernel) ?_
  exact z_iret (v := (-2)) hx hb hr hlocks hP hD hS dX11_rate_39 rfl
set_option maxHeartbeats 4000000 in
set_option maxRecDepth 100000 in
theorem kX11_want (l : Launch) (D : va_G) (q : Nat → Nat) (cA : Nat → ClassId)  (h : Int32) (t : Int32) (n : Int32)  : zMi l D vwCl (zMtys cA) 25 q (zMd q cA) yX11_want cX11_want 4 (some .int) ({ frames := 2, cells := 0, slots := 0, locals := 47 } : Room) [.ref (q 0), .int (h), .int (t), .int (n)] (zMI0, zMR0, zMJ0) (fun r _ => r = (-2)) := by
  intro sz
  refine z_body (by decide +kernel) (Nat.le_of_ble_eq_true rfl) (fun p e s m below meth c ls hx hb hml hr ht hown hlocks hsz hK hP hD hS hl => ?_)
  have hA : ∀ a, s.heap.size ≤ a → zA 25 q sz a := fun a h => Or.inr (hsz ▸ h)
  have hl : lv_has ls 4 [(0, .ref (q 0)), (1, .int (h)), (2, .int (t)), (3, .int (n))] := hl
  refine lv_aload_n hx hb dX11_want_0 rfl (lv_at hl 0 rfl) ?_
  refine lv_iload_n hx hb dX11_want_1 rfl (lv_at hl 1 rfl) ?_
  refine lv_i2l (v := (h).toInt64) hx hb dX11_want_2 rfl ?_
  refine z_callVi (k := 0) (As := [.long ((h).toInt64)]) (rest := []) hx hb hml hown ht (kX11_isHouse l D q cA ((h).toInt64)) hw_6_176 hmX11_isHouse ⟨rfl, rfl⟩ (na := 1) rfl (by decide +kernel) (by decide) (by decide) rfl rfl hK hP hD hS hA hl.1 rfl (Nat.le_of_ble_eq_true rfl) ⟨Nat.zero_le _, Nat.zero_le _⟩ dX11_want_3 (fun r_1 I_1 R_1 J_1 H locs hp_1 hP hD hS _ _ => ?_)
  obtain ⟨rfl, hu_1⟩ := hp_1
  cases hu_1
  refine lv_if_eq (tgt := 47) hx hb dX11_want_6 (by decide) (fun _ => ?_) (fun c_0 => absurd (by decide +kernel) c_0)
  refine lv_bipush (v := (-2)) hx hb dX11_want_47 (by decide +kernel) ?_
  exact z_iret (v := (-2)) hx hb hr hlocks hP hD hS dX11_want_49 rfl
set_option maxHeartbeats 4000000 in
set_option maxRecDepth 100000 in
theorem kX11_isCity_g (l : Launch) (D : va_G) (q : Nat → Nat) (cA : Nat → ClassId) (I R : Nat → Nat → Int32) (J : Nat → Nat → Int64)  (hR : R 1 = zMR0 1) : zMi l D vwCl (zMtys cA) 25 q (zMd q cA) yX11_isCity cX11_isCity 1 (some .boolean) ({ frames := 0, cells := 0, slots := 0, locals := 0 } : Room) [.ref (q 0)] (I, R, J) (fun r u => r = nI 0 ∧ u = (I, R, J)) := by
  intro sz
  refine z_body (by decide +kernel) (Nat.le_of_ble_eq_true rfl) (fun p e s m below meth c ls hx hb hml hr ht hown hlocks hsz hK hP hD hS hl => ?_)
  have hA : ∀ a, s.heap.size ≤ a → zA 25 q sz a := fun a h => Or.inr (hsz ▸ h)
  have hl : lv_has ls 1 [(0, .ref (q 0))] := hl
  refine lv_aload_n hx hb dX11_isCity_0 rfl (lv_at hl 0 rfl) ?_
  refine z_get hx hb ht hown hK hP ziX11 rfl 0 (by decide) 1 (by decide) hw_5_188 rfl (v := .ref (q 1)) rfl dX11_isCity_1 ?_
  refine lv_iconst (v := nI 5) hx hb dX11_isCity_4 (by decide +kernel) ?_
  refine z_iald hx hb hK hP 1 (by decide) 0 rfl rfl (vp_in_nI (by omega) (by decide)) dX11_isCity_5 ?_
  refine z_eqi (y := nI 0) (by rw [hR]; rfl) ?_
  refine lv_if_le (tgt := 13) hx hb dX11_isCity_6 (by decide) (fun _ => ?_) (fun c_0 => absurd (by decide +kernel) c_0)
  refine lv_iconst (v := nI 0) hx hb dX11_isCity_13 (by decide +kernel) ?_
  exact z_zret (v := nI 0) hx hb hr hlocks hP hD hS (by decide +kernel) dX11_isCity_14 ⟨rfl, rfl⟩
set_option maxHeartbeats 4000000 in
set_option maxRecDepth 100000 in
theorem kX11_asItIs (l : Launch) (D : va_G) (q : Nat → Nat) (cA : Nat → ClassId)    : zMv l D vwCl (zMtys cA) 25 q (zMd q cA) yX11_asItIs cX11_asItIs 2 none ({ frames := 0, cells := 0, slots := 0, locals := 0 } : Room) [.ref (q 0)] (zMI0, zMR0, zMJ0) (fun u => u.1 0 26 = nI 0 ∧ u.2.1 1 = zMR0 1) := by
  intro sz
  refine z_body (by decide +kernel) (Nat.le_of_ble_eq_true rfl) (fun p e s m below meth c ls hx hb hml hr ht hown hlocks hsz hK hP hD hS hl => ?_)
  have hA : ∀ a, s.heap.size ≤ a → zA 25 q sz a := fun a h => Or.inr (hsz ▸ h)
  have hl : lv_has ls 2 [(0, .ref (q 0))] := hl
  refine lv_aload_n hx hb dX11_asItIs_0 rfl (lv_at hl 0 rfl) ?_
  refine lv_iconst (v := nI 0) hx hb dX11_asItIs_1 (by decide +kernel) ?_
  refine z_putI hx hb ht hown hK hP hD hS ziX11 tyX11 tyX11_ok nmX11 rfl 0 (by decide) 26 (by decide) hw_5_213 rfl (v := nI 0) rfl rfl rfl (Nat.le_of_ble_eq_true rfl) rfl dX11_asItIs_2 (fun H locs hP hD hS => ?_)
  refine lv_aload_n hx hb dX11_asItIs_5 rfl (lv_at hl 0 rfl) ?_
  refine lv_iconst (v := nI 0) hx hb dX11_asItIs_6 (by decide +kernel) ?_
  refine z_putI hx hb ht hown hK hP hD hS ziX11 tyX11 tyX11_ok nmX11 rfl 0 (by decide) 27 (by decide) hw_5_214 rfl (v := nI 0) rfl rfl rfl (Nat.le_of_ble_eq_true rfl) rfl dX11_asItIs_7 (fun H locs hP hD hS => ?_)
  refine lv_aload_n hx hb dX11_asItIs_10 rfl (lv_at hl 0 rfl) ?_
  refine lv_iconst (v := (-1)) hx hb dX11_asItIs_11 (by decide +kernel) ?_
  refine z_putI hx hb ht hown hK hP hD hS ziX11 tyX11 tyX11_ok nmX11 rfl 0 (by decide) 29 (by decide) hw_5_216 rfl (v := (-1)) rfl rfl rfl (Nat.le_of_ble_eq_true rfl) rfl dX11_asItIs_12 (fun H locs hP hD hS => ?_)
  refine lv_iconst (v := nI 0) hx hb dX11_asItIs_15 (by decide +kernel) ?_
  refine lv_istore_n (lv' := [(1, .int (nI 0)), (0, .ref (q 0))]) hx hb dX11_asItIs_16 rfl hl (by decide) rfl (fun ls hl => ?_)
  refine lv_iload_n hx hb dX11_asItIs_17 rfl (lv_at hl 0 rfl) ?_
  refine lv_iconst (v := nI 5) hx hb dX11_asItIs_18 (by decide +kernel) ?_
  refine lv_icmp_ge (tgt := 64) hx hb dX11_asItIs_19 (by decide) (fun c_0 => absurd c_0 (by decide +kernel)) (fun _ => ?_)
  refine lv_aload_n hx hb dX11_asItIs_22 rfl (lv_at hl 1 rfl) ?_
  refine z_get hx hb ht hown hK hP ziX11 rfl 0 (by decide) 15 (by decide) hw_5_202 rfl (v := .ref (q 7)) rfl dX11_asItIs_23 ?_
  refine lv_iload_n hx hb dX11_asItIs_26 rfl (lv_at hl 0 rfl) ?_
  refine lv_aload_n hx hb dX11_asItIs_27 rfl (lv_at hl 1 rfl) ?_
  refine z_get hx hb ht hown hK hP ziX11 rfl 0 (by decide) 1 (by decide) hw_5_188 rfl (v := .ref (q 1)) rfl dX11_asItIs_28 ?_
  refine lv_bipush (v := nI 7) hx hb dX11_asItIs_31 (by decide +kernel) ?_
  refine lv_iconst (v := nI 2) hx hb dX11_asItIs_33 (by decide +kernel) ?_
  refine lv_iload_n hx hb dX11_asItIs_34 rfl (lv_at hl 0 rfl) ?_
  refine lv_imul hx hb dX11_asItIs_35 ?_
  refine z_eqi (y := nI 0) (by decide +kernel) ?_
  refine lv_iadd hx hb dX11_asItIs_36 ?_
  refine z_eqi (y := nI 7) (by decide +kernel) ?_
  refine z_iald hx hb hK hP 1 (by decide) 0 rfl rfl (vp_in_nI (by omega) (by decide)) dX11_asItIs_37 ?_
  refine z_eqi (y := nI 0) rfl ?_
  refine z_iast hx hb hK hP hD hS 7 (by decide) 6 (fun _ => rfl) rfl (vp_in_nI (by omega) (by decide)) dX11_asItIs_38 (fun H locs hP hD hS => ?_)
  refine lv_aload_n hx hb dX11_asItIs_39 rfl (lv_at hl 1 rfl) ?_
  refine z_get hx hb ht hown hK hP ziX11 rfl 0 (by decide) 16 (by decide) hw_5_203 rfl (v := .ref (q 8)) rfl dX11_asItIs_40 ?_
  refine lv_iload_n hx hb dX11_asItIs_43 rfl (lv_at hl 0 rfl) ?_
  refine lv_aload_n hx hb dX11_asItIs_44 rfl (lv_at hl 1 rfl) ?_
  refine z_get hx hb ht hown hK hP ziX11 rfl 0 (by decide) 1 (by decide) hw_5_188 rfl (v := .ref (q 1)) rfl dX11_asItIs_45 ?_
  refine lv_bipush (v := nI 7) hx hb dX11_asItIs_48 (by decide +kernel) ?_
  refine lv_iconst (v := nI 2) hx hb dX11_asItIs_50 (by decide +kernel) ?_
  refine lv_iload_n hx hb dX11_asItIs_51 rfl (lv_at hl 0 rfl) ?_
  refine lv_imul hx hb dX11_asItIs_52 ?_
  refine z_eqi (y := nI 0) (by decide +kernel) ?_
  refine lv_iadd hx hb dX11_asItIs_53 ?_
  refine z_eqi (y := nI 7) (by decide +kernel) ?_
  refine lv_iconst (v := nI 1) hx hb dX11_asItIs_54 (by decide +kernel) ?_
  refine lv_iadd hx hb dX11_asItIs_55 ?_
  refine z_eqi (y := nI 8) (by decide +kernel) ?_
  refine z_iald hx hb hK hP 1 (by decide) 0 rfl rfl (vp_in_nI (by omega) (by decide)) dX11_asItIs_56 ?_
  refine z_eqi (y := nI 0) rfl ?_
  refine z_iast hx hb hK hP hD hS 8 (by decide) 7 (fun _ => rfl) rfl (vp_in_nI (by omega) (by decide)) dX11_asItIs_57 (fun H locs hP hD hS => ?_)
  refine lv_iinc (v := nI 1) (lv' := [(1, .int (nI 1)), (0, .ref (q 0))]) hx hb dX11_asItIs_58 hl (k := 0) rfl (by decide +kernel) (by decide) rfl (fun ls hl => ?_)
  refine lv_goto (tgt := 17) hx hb dX11_asItIs_61 (by decide) ?_
  refine lv_iload_n hx hb dX11_asItIs_17 rfl (lv_at hl 0 rfl) ?_
  refine lv_iconst (v := nI 5) hx hb dX11_asItIs_18 (by decide +kernel) ?_
  refine lv_icmp_ge (tgt := 64) hx hb dX11_asItIs_19 (by decide) (fun c_0 => absurd c_0 (by decide +kernel)) (fun _ => ?_)
  refine lv_aload_n hx hb dX11_asItIs_22 rfl (lv_at hl 1 rfl) ?_
  refine z_get hx hb ht hown hK hP ziX11 rfl 0 (by decide) 15 (by decide) hw_5_202 rfl (v := .ref (q 7)) rfl dX11_asItIs_23 ?_
  refine lv_iload_n hx hb dX11_asItIs_26 rfl (lv_at hl 0 rfl) ?_
  refine lv_aload_n hx hb dX11_asItIs_27 rfl (lv_at hl 1 rfl) ?_
  refine z_get hx hb ht hown hK hP ziX11 rfl 0 (by decide) 1 (by decide) hw_5_188 rfl (v := .ref (q 1)) rfl dX11_asItIs_28 ?_
  refine lv_bipush (v := nI 7) hx hb dX11_asItIs_31 (by decide +kernel) ?_
  refine lv_iconst (v := nI 2) hx hb dX11_asItIs_33 (by decide +kernel) ?_
  refine lv_iload_n hx hb dX11_asItIs_34 rfl (lv_at hl 0 rfl) ?_
  refine lv_imul hx hb dX11_asItIs_35 ?_
  refine z_eqi (y := nI 2) (by decide +kernel) ?_
  refine lv_iadd hx hb dX11_asItIs_36 ?_
  refine z_eqi (y := nI 9) (by decide +kernel) ?_
  refine z_iald hx hb hK hP 1 (by decide) 0 rfl rfl (vp_in_nI (by omega) (by decide)) dX11_asItIs_37 ?_
  refine z_eqi (y := nI 0) rfl ?_
  refine z_iast hx hb hK hP hD hS 7 (by decide) 6 (fun _ => rfl) rfl (vp_in_nI (by omega) (by decide)) dX11_asItIs_38 (fun H locs hP hD hS => ?_)
  refine lv_aload_n hx hb dX11_asItIs_39 rfl (lv_at hl 1 rfl) ?_
  refine z_get hx hb ht hown hK hP ziX11 rfl 0 (by decide) 16 (by decide) hw_5_203 rfl (v := .ref (q 8)) rfl dX11_asItIs_40 ?_
  refine lv_iload_n hx hb dX11_asItIs_43 rfl (lv_at hl 0 rfl) ?_
  refine lv_aload_n hx hb dX11_asItIs_44 rfl (lv_at hl 1 rfl) ?_
  refine z_get hx hb ht hown hK hP ziX11 rfl 0 (by decide) 1 (by decide) hw_5_188 rfl (v := .ref (q 1)) rfl dX11_asItIs_45 ?_
  refine lv_bipush (v := nI 7) hx hb dX11_asItIs_48 (by decide +kernel) ?_
  refine lv_iconst (v := nI 2) hx hb dX11_asItIs_50 (by decide +kernel) ?_
  refine lv_iload_n hx hb dX11_asItIs_51 rfl (lv_at hl 0 rfl) ?_
  refine lv_imul hx hb dX11_asItIs_52 ?_
  refine z_eqi (y := nI 2) (by decide +kernel) ?_
  refine lv_iadd hx hb dX11_asItIs_53 ?_
  refine z_eqi (y := nI 9) (by decide +kernel) ?_
  refine lv_iconst (v := nI 1) hx hb dX11_asItIs_54 (by decide +kernel) ?_
  refine lv_iadd hx hb dX11_asItIs_55 ?_
  refine z_eqi (y := nI 10) (by decide +kernel) ?_
  refine z_iald hx hb hK hP 1 (by decide) 0 rfl rfl (vp_in_nI (by omega) (by decide)) dX11_asItIs_56 ?_
  refine z_eqi (y := nI 0) rfl ?_
  refine z_iast hx hb hK hP hD hS 8 (by decide) 7 (fun _ => rfl) rfl (vp_in_nI (by omega) (by decide)) dX11_asItIs_57 (fun H locs hP hD hS => ?_)
  refine lv_iinc (v := nI 2) (lv' := [(1, .int (nI 2)), (0, .ref (q 0))]) hx hb dX11_asItIs_58 hl (k := 0) rfl (by decide +kernel) (by decide) rfl (fun ls hl => ?_)
  refine lv_goto (tgt := 17) hx hb dX11_asItIs_61 (by decide) ?_
  refine lv_iload_n hx hb dX11_asItIs_17 rfl (lv_at hl 0 rfl) ?_
  refine lv_iconst (v := nI 5) hx hb dX11_asItIs_18 (by decide +kernel) ?_
  refine lv_icmp_ge (tgt := 64) hx hb dX11_asItIs_19 (by decide) (fun c_0 => absurd c_0 (by decide +kernel)) (fun _ => ?_)
  refine lv_aload_n hx hb dX11_asItIs_22 rfl (lv_at hl 1 rfl) ?_
  refine z_get hx hb ht hown hK hP ziX11 rfl 0 (by decide) 15 (by decide) hw_5_202 rfl (v := .ref (q 7)) rfl dX11_asItIs_23 ?_
  refine lv_iload_n hx hb dX11_asItIs_26 rfl (lv_at hl 0 rfl) ?_
  refine lv_aload_n hx hb dX11_asItIs_27 rfl (lv_at hl 1 rfl) ?_
  refine z_get hx hb ht hown hK hP ziX11 rfl 0 (by decide) 1 (by decide) hw_5_188 rfl (v := .ref (q 1)) rfl dX11_asItIs_28 ?_
  refine lv_bipush (v := nI 7) hx hb dX11_asItIs_31 (by decide +kernel) ?_
  refine lv_iconst (v := nI 2) hx hb dX11_asItIs_33 (by decide +kernel) ?_
  refine lv_iload_n hx hb dX11_asItIs_34 rfl (lv_at hl 0 rfl) ?_
  refine lv_imul hx hb dX11_asItIs_35 ?_
  refine z_eqi (y := nI 4) (by decide +kernel) ?_
  refine lv_iadd hx hb dX11_asItIs_36 ?_
  refine z_eqi (y := nI 11) (by decide +kernel) ?_
  refine z_iald hx hb hK hP 1 (by decide) 0 rfl rfl (vp_in_nI (by omega) (by decide)) dX11_asItIs_37 ?_
  refine z_eqi (y := nI 0) rfl ?_
  refine z_iast hx hb hK hP hD hS 7 (by decide) 6 (fun _ => rfl) rfl (vp_in_nI (by omega) (by decide)) dX11_asItIs_38 (fun H locs hP hD hS => ?_)
  refine lv_aload_n hx hb dX11_asItIs_39 rfl (lv_at hl 1 rfl) ?_
  refine z_get hx hb ht hown hK hP ziX11 rfl 0 (by decide) 16 (by decide) hw_5_203 rfl (v := .ref (q 8)) rfl dX11_asItIs_40 ?_
  refine lv_iload_n hx hb dX11_asItIs_43 rfl (lv_at hl 0 rfl) ?_
  refine lv_aload_n hx hb dX11_asItIs_44 rfl (lv_at hl 1 rfl) ?_
  refine z_get hx hb ht hown hK hP ziX11 rfl 0 (by decide) 1 (by decide) hw_5_188 rfl (v := .ref (q 1)) rfl dX11_asItIs_45 ?_
  refine lv_bipush (v := nI 7) hx hb dX11_asItIs_48 (by decide +kernel) ?_
  refine lv_iconst (v := nI 2) hx hb dX11_asItIs_50 (by decide +kernel) ?_
  refine lv_iload_n hx hb dX11_asItIs_51 rfl (lv_at hl 0 rfl) ?_
  refine lv_imul hx hb dX11_asItIs_52 ?_
  refine z_eqi (y := nI 4) (by decide +kernel) ?_
  refine lv_iadd hx hb dX11_asItIs_53 ?_
  refine z_eqi (y := nI 11) (by decide +kernel) ?_
  refine lv_iconst (v := nI 1) hx hb dX11_asItIs_54 (by decide +kernel) ?_
  refine lv_iadd hx hb dX11_asItIs_55 ?_
  refine z_eqi (y := nI 12) (by decide +kernel) ?_
  refine z_iald hx hb hK hP 1 (by decide) 0 rfl rfl (vp_in_nI (by omega) (by decide)) dX11_asItIs_56 ?_
  refine z_eqi (y := nI 0) rfl ?_
  refine z_iast hx hb hK hP hD hS 8 (by decide) 7 (fun _ => rfl) rfl (vp_in_nI (by omega) (by decide)) dX11_asItIs_57 (fun H locs hP hD hS => ?_)
  refine lv_iinc (v := nI 3) (lv' := [(1, .int (nI 3)), (0, .ref (q 0))]) hx hb dX11_asItIs_58 hl (k := 0) rfl (by decide +kernel) (by decide) rfl (fun ls hl => ?_)
  refine lv_goto (tgt := 17) hx hb dX11_asItIs_61 (by decide) ?_
  refine lv_iload_n hx hb dX11_asItIs_17 rfl (lv_at hl 0 rfl) ?_
  refine lv_iconst (v := nI 5) hx hb dX11_asItIs_18 (by decide +kernel) ?_
  refine lv_icmp_ge (tgt := 64) hx hb dX11_asItIs_19 (by decide) (fun c_0 => absurd c_0 (by decide +kernel)) (fun _ => ?_)
  refine lv_aload_n hx hb dX11_asItIs_22 rfl (lv_at hl 1 rfl) ?_
  refine z_get hx hb ht hown hK hP ziX11 rfl 0 (by decide) 15 (by decide) hw_5_202 rfl (v := .ref (q 7)) rfl dX11_asItIs_23 ?_
  refine lv_iload_n hx hb dX11_asItIs_26 rfl (lv_at hl 0 rfl) ?_
  refine lv_aload_n hx hb dX11_asItIs_27 rfl (lv_at hl 1 rfl) ?_
  refine z_get hx hb ht hown hK hP ziX11 rfl 0 (by decide) 1 (by decide) hw_5_188 rfl (v := .ref (q 1)) rfl dX11_asItIs_28 ?_
  refine lv_bipush (v := nI 7) hx hb dX11_asItIs_31 (by decide +kernel) ?_
  refine lv_iconst (v := nI 2) hx hb dX11_asItIs_33 (by decide +kernel) ?_
  refine lv_iload_n hx hb dX11_asItIs_34 rfl (lv_at hl 0 rfl) ?_
  refine lv_imul hx hb dX11_asItIs_35 ?_
  refine z_eqi (y := nI 6) (by decide +kernel) ?_
  refine lv_iadd hx hb dX11_asItIs_36 ?_
  refine z_eqi (y := nI 13) (by decide +kernel) ?_
  refine z_iald hx hb hK hP 1 (by decide) 0 rfl rfl (vp_in_nI (by omega) (by decide)) dX11_asItIs_37 ?_
  refine z_eqi (y := nI 0) rfl ?_
  refine z_iast hx hb hK hP hD hS 7 (by decide) 6 (fun _ => rfl) rfl (vp_in_nI (by omega) (by decide)) dX11_asItIs_38 (fun H locs hP hD hS => ?_)
  refine lv_aload_n hx hb dX11_asItIs_39 rfl (lv_at hl 1 rfl) ?_
  refine z_get hx hb ht hown hK hP ziX11 rfl 0 (by decide) 16 (by decide) hw_5_203 rfl (v := .ref (q 8)) rfl dX11_asItIs_40 ?_
  refine lv_iload_n hx hb dX11_asItIs_43 rfl (lv_at hl 0 rfl) ?_
  refine lv_aload_n hx hb dX11_asItIs_44 rfl (lv_at hl 1 rfl) ?_
  refine z_get hx hb ht hown hK hP ziX11 rfl 0 (by decide) 1 (by decide) hw_5_188 rfl (v := .ref (q 1)) rfl dX11_asItIs_45 ?_
  refine lv_bipush (v := nI 7) hx hb dX11_asItIs_48 (by decide +kernel) ?_
  refine lv_iconst (v := nI 2) hx hb dX11_asItIs_50 (by decide +kernel) ?_
  refine lv_iload_n hx hb dX11_asItIs_51 rfl (lv_at hl 0 rfl) ?_
  refine lv_imul hx hb dX11_asItIs_52 ?_
  refine z_eqi (y := nI 6) (by decide +kernel) ?_
  refine lv_iadd hx hb dX11_asItIs_53 ?_
  refine z_eqi (y := nI 13) (by decide +kernel) ?_
  refine lv_iconst (v := nI 1) hx hb dX11_asItIs_54 (by decide +kernel) ?_
  refine lv_iadd hx hb dX11_asItIs_55 ?_
  refine z_eqi (y := nI 14) (by decide +kernel) ?_
  refine z_iald hx hb hK hP 1 (by decide) 0 rfl rfl (vp_in_nI (by omega) (by decide)) dX11_asItIs_56 ?_
  refine z_eqi (y := nI 0) rfl ?_
  refine z_iast hx hb hK hP hD hS 8 (by decide) 7 (fun _ => rfl) rfl (vp_in_nI (by omega) (by decide)) dX11_asItIs_57 (fun H locs hP hD hS => ?_)
  refine lv_iinc (v := nI 4) (lv' := [(1, .int (nI 4)), (0, .ref (q 0))]) hx hb dX11_asItIs_58 hl (k := 0) rfl (by decide +kernel) (by decide) rfl (fun ls hl => ?_)
  refine lv_goto (tgt := 17) hx hb dX11_asItIs_61 (by decide) ?_
  refine lv_iload_n hx hb dX11_asItIs_17 rfl (lv_at hl 0 rfl) ?_
  refine lv_iconst (v := nI 5) hx hb dX11_asItIs_18 (by decide +kernel) ?_
  refine lv_icmp_ge (tgt := 64) hx hb dX11_asItIs_19 (by decide) (fun c_0 => absurd c_0 (by decide +kernel)) (fun _ => ?_)
  refine lv_aload_n hx hb dX11_asItIs_22 rfl (lv_at hl 1 rfl) ?_
  refine z_get hx hb ht hown hK hP ziX11 rfl 0 (by decide) 15 (by decide) hw_5_202 rfl (v := .ref (q 7)) rfl dX11_asItIs_23 ?_
  refine lv_iload_n hx hb dX11_asItIs_26 rfl (lv_at hl 0 rfl) ?_
  refine lv_aload_n hx hb dX11_asItIs_27 rfl (lv_at hl 1 rfl) ?_
  refine z_get hx hb ht hown hK hP ziX11 rfl 0 (by decide) 1 (by decide) hw_5_188 rfl (v := .ref (q 1)) rfl dX11_asItIs_28 ?_
  refine lv_bipush (v := nI 7) hx hb dX11_asItIs_31 (by decide +kernel) ?_
  refine lv_iconst (v := nI 2) hx hb dX11_asItIs_33 (by decide +kernel) ?_
  refine lv_iload_n hx hb dX11_asItIs_34 rfl (lv_at hl 0 rfl) ?_
  refine lv_imul hx hb dX11_asItIs_35 ?_
  refine z_eqi (y := nI 8) (by decide +kernel) ?_
  refine lv_iadd hx hb dX11_asItIs_36 ?_
  refine z_eqi (y := nI 15) (by decide +kernel) ?_
  refine z_iald hx hb hK hP 1 (by decide) 0 rfl rfl (vp_in_nI (by omega) (by decide)) dX11_asItIs_37 ?_
  refine z_eqi (y := nI 0) rfl ?_
  refine z_iast hx hb hK hP hD hS 7 (by decide) 6 (fun _ => rfl) rfl (vp_in_nI (by omega) (by decide)) dX11_asItIs_38 (fun H locs hP hD hS => ?_)
  refine lv_aload_n hx hb dX11_asItIs_39 rfl (lv_at hl 1 rfl) ?_
  refine z_get hx hb ht hown hK hP ziX11 rfl 0 (by decide) 16 (by decide) hw_5_203 rfl (v := .ref (q 8)) rfl dX11_asItIs_40 ?_
  refine lv_iload_n hx hb dX11_asItIs_43 rfl (lv_at hl 0 rfl) ?_
  refine lv_aload_n hx hb dX11_asItIs_44 rfl (lv_at hl 1 rfl) ?_
  refine z_get hx hb ht hown hK hP ziX11 rfl 0 (by decide) 1 (by decide) hw_5_188 rfl (v := .ref (q 1)) rfl dX11_asItIs_45 ?_
  refine lv_bipush (v := nI 7) hx hb dX11_asItIs_48 (by decide +kernel) ?_
  refine lv_iconst (v := nI 2) hx hb dX11_asItIs_50 (by decide +kernel) ?_
  refine lv_iload_n hx hb dX11_asItIs_51 rfl (lv_at hl 0 rfl) ?_
  refine lv_imul hx hb dX11_asItIs_52 ?_
  refine z_eqi (y := nI 8) (by decide +kernel) ?_
  refine lv_iadd hx hb dX11_asItIs_53 ?_
  refine z_eqi (y := nI 15) (by decide +kernel) ?_
  refine lv_iconst (v := nI 1) hx hb dX11_asItIs_54 (by decide +kernel) ?_
  refine lv_iadd hx hb dX11_asItIs_55 ?_
  refine z_eqi (y := nI 16) (by decide +kernel) ?_
  refine z_iald hx hb hK hP 1 (by decide) 0 rfl rfl (vp_in_nI (by omega) (by decide)) dX11_asItIs_56 ?_
  refine z_eqi (y := nI 0) rfl ?_
  refine z_iast hx hb hK hP hD hS 8 (by decide) 7 (fun _ => rfl) rfl (vp_in_nI (by omega) (by decide)) dX11_asItIs_57 (fun H locs hP hD hS => ?_)
  refine lv_iinc (v := nI 5) (lv' := [(1, .int (nI 5)), (0, .ref (q 0))]) hx hb dX11_asItIs_58 hl (k := 0) rfl (by decide +kernel) (by decide) rfl (fun ls hl => ?_)
  refine lv_goto (tgt := 17) hx hb dX11_asItIs_61 (by decide) ?_
  refine lv_iload_n hx hb dX11_asItIs_17 rfl (lv_at hl 0 rfl) ?_
  refine lv_iconst (v := nI 5) hx hb dX11_asItIs_18 (by decide +kernel) ?_
  refine lv_icmp_ge (tgt := 64) hx hb dX11_asItIs_19 (by decide) (fun _ => ?_) (fun c_0 => absurd (by decide +kernel) c_0)
  refine lv_iconst (v := nI 0) hx hb dX11_asItIs_64 (by decide +kernel) ?_
  refine lv_istore_n (lv' := [(1, .int (nI 0)), (0, .ref (q 0))]) hx hb dX11_asItIs_65 rfl hl (by decide) rfl (fun ls hl => ?_)
  refine lv_iload_n hx hb dX11_asItIs_66 rfl (lv_at hl 0 rfl) ?_
  refine lv_bipush (v := nI 6) hx hb dX11_asItIs_67 (by decide +kernel) ?_
  refine lv_icmp_ge (tgt := 118) hx hb dX11_asItIs_69 (by decide) (fun c_0 => absurd c_0 (by decide +kernel)) (fun _ => ?_)
  refine lv_aload_n hx hb dX11_asItIs_72 rfl (lv_at hl 1 rfl) ?_
  refine z_get hx hb ht hown hK hP ziX11 rfl 0 (by decide) 17 (by decide) hw_5_204 rfl (v := .ref (q 9)) rfl dX11_asItIs_73 ?_
  refine lv_iload_n hx hb dX11_asItIs_76 rfl (lv_at hl 0 rfl) ?_
  refine lv_aload_n hx hb dX11_asItIs_77 rfl (lv_at hl 1 rfl) ?_
  refine z_get hx hb ht hown hK hP ziX11 rfl 0 (by decide) 1 (by decide) hw_5_188 rfl (v := .ref (q 1)) rfl dX11_asItIs_78 ?_
  refine lv_bipush (v := nI 17) hx hb dX11_asItIs_81 (by decide +kernel) ?_
  refine lv_iconst (v := nI 2) hx hb dX11_asItIs_83 (by decide +kernel) ?_
  refine lv_iload_n hx hb dX11_asItIs_84 rfl (lv_at hl 0 rfl) ?_
  refine lv_imul hx hb dX11_asItIs_85 ?_
  refine z_eqi (y := nI 0) (by decide +kernel) ?_
  refine lv_iadd hx hb dX11_asItIs_86 ?_
  refine z_eqi (y := nI 17) (by decide +kernel) ?_
  refine z_iald hx hb hK hP 1 (by decide) 0 rfl rfl (vp_in_nI (by omega) (by decide)) dX11_asItIs_87 ?_
  refine z_eqi (y := nI 0) rfl ?_
  refine z_iast hx hb hK hP hD hS 9 (by decide) 8 (fun _ => rfl) rfl (vp_in_nI (by omega) (by decide)) dX11_asItIs_88 (fun H locs hP hD hS => ?_)
  refine lv_aload_n hx hb dX11_asItIs_89 rfl (lv_at hl 1 rfl) ?_
  refine z_get hx hb ht hown hK hP ziX11 rfl 0 (by decide) 25 (by decide) hw_5_212 rfl (v := .ref (q 17)) rfl dX11_asItIs_90 ?_
  refine lv_iload_n hx hb dX11_asItIs_93 rfl (lv_at hl 0 rfl) ?_
  refine lv_iconst (v := nI 1) hx hb dX11_asItIs_94 (by decide +kernel) ?_
  refine z_iast hx hb hK hP hD hS 17 (by decide) 16 (fun _ => rfl) rfl (vp_in_nI (by omega) (by decide)) dX11_asItIs_95 (fun H locs hP hD hS => ?_)
  refine lv_aload_n hx hb dX11_asItIs_96 rfl (lv_at hl 1 rfl) ?_
  refine z_get hx hb ht hown hK hP ziX11 rfl 0 (by decide) 24 (by decide) hw_5_211 rfl (v := .ref (q 16)) rfl dX11_asItIs_97 ?_
  refine lv_sipush (v := nI 146) hx hb dX11_asItIs_100 (by decide +kernel) ?_
  refine lv_iload_n hx hb dX11_asItIs_103 rfl (lv_at hl 0 rfl) ?_
  refine lv_imul hx hb dX11_asItIs_104 ?_
  refine z_eqi (y := nI 0) (by decide +kernel) ?_
  refine lv_aload_n hx hb dX11_asItIs_105 rfl (lv_at hl 1 rfl) ?_
  refine z_get hx hb ht hown hK hP ziX11 rfl 0 (by decide) 17 (by decide) hw_5_204 rfl (v := .ref (q 9)) rfl dX11_asItIs_106 ?_
  refine lv_iload_n hx hb dX11_asItIs_109 rfl (lv_at hl 0 rfl) ?_
  refine z_iald hx hb hK hP 9 (by decide) 8 rfl rfl (vp_in_nI (by omega) (by decide)) dX11_asItIs_110 ?_
  refine lv_topi (fun x_1 ex_1 => ?_)
  refine z_iast hx hb hK hP hD hS 16 (by decide) 15 (fun _ => rfl) rfl (vp_in_nI (by omega) (by decide)) dX11_asItIs_111 (fun H locs hP hD hS => ?_)
  refine lv_iinc (v := nI 1) (lv' := [(1, .int (nI 1)), (0, .ref (q 0))]) hx hb dX11_asItIs_112 hl (k := 0) rfl (by decide +kernel) (by decide) rfl (fun ls hl => ?_)
  refine lv_goto (tgt := 66) hx hb dX11_asItIs_115 (by decide) ?_
  refine lv_iload_n hx hb dX11_asItIs_66 rfl (lv_at hl 0 rfl) ?_
  refine lv_bipush (v := nI 6) hx hb dX11_asItIs_67 (by decide +kernel) ?_
  refine lv_icmp_ge (tgt := 118) hx hb dX11_asItIs_69 (by decide) (fun c_0 => absurd c_0 (by decide +kernel)) (fun _ => ?_)
  refine lv_aload_n hx hb dX11_asItIs_72 rfl (lv_at hl 1 rfl) ?_
  refine z_get hx hb ht hown hK hP ziX11 rfl 0 (by decide) 17 (by decide) hw_5_204 rfl (v := .ref (q 9)) rfl dX11_asItIs_73 ?_
  refine lv_iload_n hx hb dX11_asItIs_76 rfl (lv_at hl 0 rfl) ?_
  refine lv_aload_n hx hb dX11_asItIs_77 rfl (lv_at hl 1 rfl) ?_
  refine z_get hx hb ht hown hK hP ziX11 rfl 0 (by decide) 1 (by decide) hw_5_188 rfl (v := .ref (q 1)) rfl dX11_asItIs_78 ?_
  refine lv_bipush (v := nI 17) hx hb dX11_asItIs_81 (by decide +kernel) ?_
  refine lv_iconst (v := nI 2) hx hb dX11_asItIs_83 (by decide +kernel) ?_
  refine lv_iload_n hx hb dX11_asItIs_84 rfl (lv_at hl 0 rfl) ?_
  refine lv_imul hx hb dX11_asItIs_85 ?_
  refine z_eqi (y := nI 2) (by decide +kernel) ?_
  refine lv_iadd hx hb dX11_asItIs_86 ?_
  refine z_eqi (y := nI 19) (by decide +kernel) ?_
  refine z_iald hx hb hK hP 1 (by decide) 0 rfl rfl (vp_in_nI (by omega) (by decide)) dX11_asItIs_87 ?_
  refine z_eqi (y := nI 0) rfl ?_
  refine z_iast hx hb hK hP hD hS 9 (by decide) 8 (fun _ => rfl) rfl (vp_in_nI (by omega) (by decide)) dX11_asItIs_88 (fun H locs hP hD hS => ?_)
  refine lv_aload_n hx hb dX11_asItIs_89 rfl (lv_at hl 1 rfl) ?_
  refine z_get hx hb ht hown hK hP ziX11 rfl 0 (by decide) 25 (by decide) hw_5_212 rfl (v := .ref (q 17)) rfl dX11_asItIs_90 ?_
  refine lv_iload_n hx hb dX11_asItIs_93 rfl (lv_at hl 0 rfl) ?_
  refine lv_iconst (v := nI 1) hx hb dX11_asItIs_94 (by decide +kernel) ?_
  refine z_iast hx hb hK hP hD hS 17 (by decide) 16 (fun _ => rfl) rfl (vp_in_nI (by omega) (by decide)) dX11_asItIs_95 (fun H locs hP hD hS => ?_)
  refine lv_aload_n hx hb dX11_asItIs_96 rfl (lv_at hl 1 rfl) ?_
  refine z_get hx hb ht hown hK hP ziX11 rfl 0 (by decide) 24 (by decide) hw_5_211 rfl (v := .ref (q 16)) rfl dX11_asItIs_97 ?_
  refine lv_sipush (v := nI 146) hx hb dX11_asItIs_100 (by decide +kernel) ?_
  refine lv_iload_n hx hb dX11_asItIs_103 rfl (lv_at hl 0 rfl) ?_
  refine lv_imul hx hb dX11_asItIs_104 ?_
  refine z_eqi (y := nI 146) (by decide +kernel) ?_
  refine lv_aload_n hx hb dX11_asItIs_105 rfl (lv_at hl 1 rfl) ?_
  refine z_get hx hb ht hown hK hP ziX11 rfl 0 (by decide) 17 (by decide) hw_5_204 rfl (v := .ref (q 9)) rfl dX11_asItIs_106 ?_
  refine lv_iload_n hx hb dX11_asItIs_109 rfl (lv_at hl 0 rfl) ?_
  refine z_iald hx hb hK hP 9 (by decide) 8 rfl rfl (vp_in_nI (by omega) (by decide)) dX11_asItIs_110 ?_
  refine lv_topi (fun x_2 ex_2 => ?_)
  refine z_iast hx hb hK hP hD hS 16 (by decide) 15 (fun _ => rfl) rfl (vp_in_nI (by omega) (by decide)) dX11_asItIs_111 (fun H locs hP hD hS => ?_)
  refine lv_iinc (v := nI 2) (lv' := [(1, .int (nI 2)), (0, .ref (q 0))]) hx hb dX11_asItIs_112 hl (k := 0) rfl (by decide +kernel) (by decide) rfl (fun ls hl => ?_)
  refine lv_goto (tgt := 66) hx hb dX11_asItIs_115 (by decide) ?_
  refine lv_iload_n hx hb dX11_asItIs_66 rfl (lv_at hl 0 rfl) ?_
  refine lv_bipush (v := nI 6) hx hb dX11_asItIs_67 (by decide +kernel) ?_
  refine lv_icmp_ge (tgt := 118) hx hb dX11_asItIs_69 (by decide) (fun c_0 => absurd c_0 (by decide +kernel)) (fun _ => ?_)
  refine lv_aload_n hx hb dX11_asItIs_72 rfl (lv_at hl 1 rfl) ?_
  refine z_get hx hb ht hown hK hP ziX11 rfl 0 (by decide) 17 (by decide) hw_5_204 rfl (v := .ref (q 9)) rfl dX11_asItIs_73 ?_
  refine lv_iload_n hx hb dX11_asItIs_76 rfl (lv_at hl 0 rfl) ?_
  refine lv_aload_n hx hb dX11_asItIs_77 rfl (lv_at hl 1 rfl) ?_
  refine z_get hx hb ht hown hK hP ziX11 rfl 0 (by decide) 1 (by decide) hw_5_188 rfl (v := .ref (q 1)) rfl dX11_asItIs_78 ?_
  refine lv_bipush (v := nI 17) hx hb dX11_asItIs_81 (by decide +kernel) ?_
  refine lv_iconst (v := nI 2) hx hb dX11_asItIs_83 (by decide +kernel) ?_
  refine lv_iload_n hx hb dX11_asItIs_84 rfl (lv_at hl 0 rfl) ?_
  refine lv_imul hx hb dX11_asItIs_85 ?_
  refine z_eqi (y := nI 4) (by decide +kernel) ?_
  refine lv_iadd hx hb dX11_asItIs_86 ?_
  refine z_eqi (y := nI 21) (by decide +kernel) ?_
  refine z_iald hx hb hK hP 1 (by decide) 0 rfl rfl (vp_in_nI (by omega) (by decide)) dX11_asItIs_87 ?_
  refine z_eqi (y := nI 0) rfl ?_
  refine z_iast hx hb hK hP hD hS 9 (by decide) 8 (fun _ => rfl) rfl (vp_in_nI (by omega) (by decide)) dX11_asItIs_88 (fun H locs hP hD hS => ?_)
  refine lv_aload_n hx hb dX11_asItIs_89 rfl (lv_at hl 1 rfl) ?_
  refine z_get hx hb ht hown hK hP ziX11 rfl 0 (by decide) 25 (by decide) hw_5_212 rfl (v := .ref (q 17)) rfl dX11_asItIs_90 ?_
  refine lv_iload_n hx hb dX11_asItIs_93 rfl (lv_at hl 0 rfl) ?_
  refine lv_iconst (v := nI 1) hx hb dX11_asItIs_94 (by decide +kernel) ?_
  refine z_iast hx hb hK hP hD hS 17 (by decide) 16 (fun _ => rfl) rfl (vp_in_nI (by omega) (by decide)) dX11_asItIs_95 (fun H locs hP hD hS => ?_)
  refine lv_aload_n hx hb dX11_asItIs_96 rfl (lv_at hl 1 rfl) ?_
  refine z_get hx hb ht hown hK hP ziX11 rfl 0 (by decide) 24 (by decide) hw_5_211 rfl (v := .ref (q 16)) rfl dX11_asItIs_97 ?_
  refine lv_sipush (v := nI 146) hx hb dX11_asItIs_100 (by decide +kernel) ?_
  refine lv_iload_n hx hb dX11_asItIs_103 rfl (lv_at hl 0 rfl) ?_
  refine lv_imul hx hb dX11_asItIs_104 ?_
  refine z_eqi (y := nI 292) (by decide +kernel) ?_
  refine lv_aload_n hx hb dX11_asItIs_105 rfl (lv_at hl 1 rfl) ?_
  refine z_get hx hb ht hown hK hP ziX11 rfl 0 (by decide) 17 (by decide) hw_5_204 rfl (v := .ref (q 9)) rfl dX11_asItIs_106 ?_
  refine lv_iload_n hx hb dX11_asItIs_109 rfl (lv_at hl 0 rfl) ?_
  refine z_iald hx hb hK hP 9 (by decide) 8 rfl rfl (vp_in_nI (by omega) (by decide)) dX11_asItIs_110 ?_
  refine lv_topi (fun x_3 ex_3 => ?_)
  refine z_iast hx hb hK hP hD hS 16 (by decide) 15 (fun _ => rfl) rfl (vp_in_nI (by omega) (by decide)) dX11_asItIs_111 (fun H locs hP hD hS => ?_)
  refine lv_iinc (v := nI 3) (lv' := [(1, .int (nI 3)), (0, .ref (q 0))]) hx hb dX11_asItIs_112 hl (k := 0) rfl (by decide +kernel) (by decide) rfl (fun ls hl => ?_)
  refine lv_goto (tgt := 66) hx hb dX11_asItIs_115 (by decide) ?_
  refine lv_iload_n hx hb dX11_asItIs_66 rfl (lv_at hl 0 rfl) ?_
  refine lv_bipush (v := nI 6) hx hb dX11_asItIs_67 (by decide +kernel) ?_
  refine lv_icmp_ge (tgt := 118) hx hb dX11_asItIs_69 (by decide) (fun c_0 => absurd c_0 (by decide +kernel)) (fun _ => ?_)
  refine lv_aload_n hx hb dX11_asItIs_72 rfl (lv_at hl 1 rfl) ?_
  refine z_get hx hb ht hown hK hP ziX11 rfl 0 (by decide) 17 (by decide) hw_5_204 rfl (v := .ref (q 9)) rfl dX11_asItIs_73 ?_
  refine lv_iload_n hx hb dX11_asItIs_76 rfl (lv_at hl 0 rfl) ?_
  refine lv_aload_n hx hb dX11_asItIs_77 rfl (lv_at hl 1 rfl) ?_
  refine z_get hx hb ht hown hK hP ziX11 rfl 0 (by decide) 1 (by decide) hw_5_188 rfl (v := .ref (q 1)) rfl dX11_asItIs_78 ?_
  refine lv_bipush (v := nI 17) hx hb dX11_asItIs_81 (by decide +kernel) ?_
  refine lv_iconst (v := nI 2) hx hb dX11_asItIs_83 (by decide +kernel) ?_
  refine lv_iload_n hx hb dX11_asItIs_84 rfl (lv_at hl 0 rfl) ?_
  refine lv_imul hx hb dX11_asItIs_85 ?_
  refine z_eqi (y := nI 6) (by decide +kernel) ?_
  refine lv_iadd hx hb dX11_asItIs_86 ?_
  refine z_eqi (y := nI 23) (by decide +kernel) ?_
  refine z_iald hx hb hK hP 1 (by decide) 0 rfl rfl (vp_in_nI (by omega) (by decide)) dX11_asItIs_87 ?_
  refine z_eqi (y := nI 0) rfl ?_
  refine z_iast hx hb hK hP hD hS 9 (by decide) 8 (fun _ => rfl) rfl (vp_in_nI (by omega) (by decide)) dX11_asItIs_88 (fun H locs hP hD hS => ?_)
  refine lv_aload_n hx hb dX11_asItIs_89 rfl (lv_at hl 1 rfl) ?_
  refine z_get hx hb ht hown hK hP ziX11 rfl 0 (by decide) 25 (by decide) hw_5_212 rfl (v := .ref (q 17)) rfl dX11_asItIs_90 ?_
  refine lv_iload_n hx hb dX11_asItIs_93 rfl (lv_at hl 0 rfl) ?_
  refine lv_iconst (v := nI 1) hx hb dX11_asItIs_94 (by decide +kernel) ?_
  refine z_iast hx hb hK hP hD hS 17 (by decide) 16 (fun _ => rfl) rfl (vp_in_nI (by omega) (by decide)) dX11_asItIs_95 (fun H locs hP hD hS => ?_)
  refine lv_aload_n hx hb dX11_asItIs_96 rfl (lv_at hl 1 rfl) ?_
  refine z_get hx hb ht hown hK hP ziX11 rfl 0 (by decide) 24 (by decide) hw_5_211 rfl (v := .ref (q 16)) rfl dX11_asItIs_97 ?_
  refine lv_sipush (v := nI 146) hx hb dX11_asItIs_100 (by decide +kernel) ?_
  refine lv_iload_n hx hb dX11_asItIs_103 rfl (lv_at hl 0 rfl) ?_
  refine lv_imul hx hb dX11_asItIs_104 ?_
  refine z_eqi (y := nI 438) (by decide +kernel) ?_
  refine lv_aload_n hx hb dX11_asItIs_105 rfl (lv_at hl 1 rfl) ?_
  refine z_get hx hb ht hown hK hP ziX11 rfl 0 (by decide) 17 (by decide) hw_5_204 rfl (v := .ref (q 9)) rfl dX11_asItIs_106 ?_
  refine lv_iload_n hx hb dX11_asItIs_109 rfl (lv_at hl 0 rfl) ?_
  refine z_iald hx hb hK hP 9 (by decide) 8 rfl rfl (vp_in_nI (by omega) (by decide)) dX11_asItIs_110 ?_
  refine lv_topi (fun x_4 ex_4 => ?_)
  refine z_iast hx hb hK hP hD hS 16 (by decide) 15 (fun _ => rfl) rfl (vp_in_nI (by omega) (by decide)) dX11_asItIs_111 (fun H locs hP hD hS => ?_)
  refine lv_iinc (v := nI 4) (lv' := [(1, .int (nI 4)), (0, .ref (q 0))]) hx hb dX11_asItIs_112 hl (k := 0) rfl (by decide +kernel) (by decide) rfl (fun ls hl => ?_)
  refine lv_goto (tgt := 66) hx hb dX11_asItIs_115 (by decide) ?_
  refine lv_iload_n hx hb dX11_asItIs_66 rfl (lv_at hl 0 rfl) ?_
  refine lv_bipush (v := nI 6) hx hb dX11_asItIs_67 (by decide +kernel) ?_
  refine lv_icmp_ge (tgt := 118) hx hb dX11_asItIs_69 (by decide) (fun c_0 => absurd c_0 (by decide +kernel)) (fun _ => ?_)
  refine lv_aload_n hx hb dX11_asItIs_72 rfl (lv_at hl 1 rfl) ?_
  refine z_get hx hb ht hown hK hP ziX11 rfl 0 (by decide) 17 (by decide) hw_5_204 rfl (v := .ref (q 9)) rfl dX11_asItIs_73 ?_
  refine lv_iload_n hx hb dX11_asItIs_76 rfl (lv_at hl 0 rfl) ?_
  refine lv_aload_n hx hb dX11_asItIs_77 rfl (lv_at hl 1 rfl) ?_
  refine z_get hx hb ht hown hK hP ziX11 rfl 0 (by decide) 1 (by decide) hw_5_188 rfl (v := .ref (q 1)) rfl dX11_asItIs_78 ?_
  refine lv_bipush (v := nI 17) hx hb dX11_asItIs_81 (by decide +kernel) ?_
  refine lv_iconst (v := nI 2) hx hb dX11_asItIs_83 (by decide +kernel) ?_
  refine lv_iload_n hx hb dX11_asItIs_84 rfl (lv_at hl 0 rfl) ?_
  refine lv_imul hx hb dX11_asItIs_85 ?_
  refine z_eqi (y := nI 8) (by decide +kernel) ?_
  refine lv_iadd hx hb dX11_asItIs_86 ?_
  refine z_eqi (y := nI 25) (by decide +kernel) ?_
  refine z_iald hx hb hK hP 1 (by decide) 0 rfl rfl (vp_in_nI (by omega) (by decide)) dX11_asItIs_87 ?_
  refine z_eqi (y := nI 0) rfl ?_
  refine z_iast hx hb hK hP hD hS 9 (by decide) 8 (fun _ => rfl) rfl (vp_in_nI (by omega) (by decide)) dX11_asItIs_88 (fun H locs hP hD hS => ?_)
  refine lv_aload_n hx hb dX11_asItIs_89 rfl (lv_at hl 1 rfl) ?_
  refine z_get hx hb ht hown hK hP ziX11 rfl 0 (by decide) 25 (by decide) hw_5_212 rfl (v := .ref (q 17)) rfl dX11_asItIs_90 ?_
  refine lv_iload_n hx hb dX11_asItIs_93 rfl (lv_at hl 0 rfl) ?_
  refine lv_iconst (v := nI 1) hx hb dX11_asItIs_94 (by decide +kernel) ?_
  refine z_iast hx hb hK hP hD hS 17 (by decide) 16 (fun _ => rfl) rfl (vp_in_nI (by omega) (by decide)) dX11_asItIs_95 (fun H locs hP hD hS => ?_)
  refine lv_aload_n hx hb dX11_asItIs_96 rfl (lv_at hl 1 rfl) ?_
  refine z_get hx hb ht hown hK hP ziX11 rfl 0 (by decide) 24 (by decide) hw_5_211 rfl (v := .ref (q 16)) rfl dX11_asItIs_97 ?_
  refine lv_sipush (v := nI 146) hx hb dX11_asItIs_100 (by decide +kernel) ?_
  refine lv_iload_n hx hb dX11_asItIs_103 rfl (lv_at hl 0 rfl) ?_
  refine lv_imul hx hb dX11_asItIs_104 ?_
  refine z_eqi (y := nI 584) (by decide +kernel) ?_
  refine lv_aload_n hx hb dX11_asItIs_105 rfl (lv_at hl 1 rfl) ?_
  refine z_get hx hb ht hown hK hP ziX11 rfl 0 (by decide) 17 (by decide) hw_5_204 rfl (v := .ref (q 9)) rfl dX11_asItIs_106 ?_
  refine lv_iload_n hx hb dX11_asItIs_109 rfl (lv_at hl 0 rfl) ?_
  refine z_iald hx hb hK hP 9 (by decide) 8 rfl rfl (vp_in_nI (by omega) (by decide)) dX11_asItIs_110 ?_
  refine lv_topi (fun x_5 ex_5 => ?_)
  refine z_iast hx hb hK hP hD hS 16 (by decide) 15 (fun _ => rfl) rfl (vp_in_nI (by omega) (by decide)) dX11_asItIs_111 (fun H locs hP hD hS => ?_)
  refine lv_iinc (v := nI 5) (lv' := [(1, .int (nI 5)), (0, .ref (q 0))]) hx hb dX11_asItIs_112 hl (k := 0) rfl (by decide +kernel) (by decide) rfl (fun ls hl => ?_)
  refine lv_goto (tgt := 66) hx hb dX11_asItIs_115 (by decide) ?_
  refine lv_iload_n hx hb dX11_asItIs_66 rfl (lv_at hl 0 rfl) ?_
  refine lv_bipush (v := nI 6) hx hb dX11_asItIs_67 (by decide +kernel) ?_
  refine lv_icmp_ge (tgt := 118) hx hb dX11_asItIs_69 (by decide) (fun c_0 => absurd c_0 (by decide +kernel)) (fun _ => ?_)
  refine lv_aload_n hx hb dX11_asItIs_72 rfl (lv_at hl 1 rfl) ?_
  refine z_get hx hb ht hown hK hP ziX11 rfl 0 (by decide) 17 (by decide) hw_5_204 rfl (v := .ref (q 9)) rfl dX11_asItIs_73 ?_
  refine lv_iload_n hx hb dX11_asItIs_76 rfl (lv_at hl 0 rfl) ?_
  refine lv_aload_n hx hb dX11_asItIs_77 rfl (lv_at hl 1 rfl) ?_
  refine z_get hx hb ht hown hK hP ziX11 rfl 0 (by decide) 1 (by decide) hw_5_188 rfl (v := .ref (q 1)) rfl dX11_asItIs_78 ?_
  refine lv_bipush (v := nI 17) hx hb dX11_asItIs_81 (by decide +kernel) ?_
  refine lv_iconst (v := nI 2) hx hb dX11_asItIs_83 (by decide +kernel) ?_
  refine lv_iload_n hx hb dX11_asItIs_84 rfl (lv_at hl 0 rfl) ?_
  refine lv_imul hx hb dX11_asItIs_85 ?_
  refine z_eqi (y := nI 10) (by decide +kernel) ?_
  refine lv_iadd hx hb dX11_asItIs_86 ?_
  refine z_eqi (y := nI 27) (by decide +kernel) ?_
  refine z_iald hx hb hK hP 1 (by decide) 0 rfl rfl (vp_in_nI (by omega) (by decide)) dX11_asItIs_87 ?_
  refine z_eqi (y := nI 0) rfl ?_
  refine z_iast hx hb hK hP hD hS 9 (by decide) 8 (fun _ => rfl) rfl (vp_in_nI (by omega) (by decide)) dX11_asItIs_88 (fun H locs hP hD hS => ?_)
  refine lv_aload_n hx hb dX11_asItIs_89 rfl (lv_at hl 1 rfl) ?_
  refine z_get hx hb ht hown hK hP ziX11 rfl 0 (by decide) 25 (by decide) hw_5_212 rfl (v := .ref (q 17)) rfl dX11_asItIs_90 ?_
  refine lv_iload_n hx hb dX11_asItIs_93 rfl (lv_at hl 0 rfl) ?_
  refine lv_iconst (v := nI 1) hx hb dX11_asItIs_94 (by decide +kernel) ?_
  refine z_iast hx hb hK hP hD hS 17 (by decide) 16 (fun _ => rfl) rfl (vp_in_nI (by omega) (by decide)) dX11_asItIs_95 (fun H locs hP hD hS => ?_)
  refine lv_aload_n hx hb dX11_asItIs_96 rfl (lv_at hl 1 rfl) ?_
  refine z_get hx hb ht hown hK hP ziX11 rfl 0 (by decide) 24 (by decide) hw_5_211 rfl (v := .ref (q 16)) rfl dX11_asItIs_97 ?_
  refine lv_sipush (v := nI 146) hx hb dX11_asItIs_100 (by decide +kernel) ?_
  refine lv_iload_n hx hb dX11_asItIs_103 rfl (lv_at hl 0 rfl) ?_
  refine lv_imul hx hb dX11_asItIs_104 ?_
  refine z_eqi (y := nI 730) (by decide +kernel) ?_
  refine lv_aload_n hx hb dX11_asItIs_105 rfl (lv_at hl 1 rfl) ?_
  refine z_get hx hb ht hown hK hP ziX11 rfl 0 (by decide) 17 (by decide) hw_5_204 rfl (v := .ref (q 9)) rfl dX11_asItIs_106 ?_
  refine lv_iload_n hx hb dX11_asItIs_109 rfl (lv_at hl 0 rfl) ?_
  refine z_iald hx hb hK hP 9 (by decide) 8 rfl rfl (vp_in_nI (by omega) (by decide)) dX11_asItIs_110 ?_
  refine lv_topi (fun x_6 ex_6 => ?_)
  refine z_iast hx hb hK hP hD hS 16 (by decide) 15 (fun _ => rfl) rfl (vp_in_nI (by omega) (by decide)) dX11_asItIs_111 (fun H locs hP hD hS => ?_)
  refine lv_iinc (v := nI 6) (lv' := [(1, .int (nI 6)), (0, .ref (q 0))]) hx hb dX11_asItIs_112 hl (k := 0) rfl (by decide +kernel) (by decide) rfl (fun ls hl => ?_)
  refine lv_goto (tgt := 66) hx hb dX11_asItIs_115 (by decide) ?_
  refine lv_iload_n hx hb dX11_asItIs_66 rfl (lv_at hl 0 rfl) ?_
  refine lv_bipush (v := nI 6) hx hb dX11_asItIs_67 (by decide +kernel) ?_
  refine lv_icmp_ge (tgt := 118) hx hb dX11_asItIs_69 (by decide) (fun _ => ?_) (fun c_0 => absurd (by decide +kernel) c_0)
  refine lv_iconst (v := nI 0) hx hb dX11_asItIs_118 (by decide +kernel) ?_
  refine lv_istore_n (lv' := [(1, .int (nI 0)), (0, .ref (q 0))]) hx hb dX11_asItIs_119 rfl hl (by decide) rfl (fun ls hl => ?_)
  refine lv_iload_n hx hb dX11_asItIs_120 rfl (lv_at hl 0 rfl) ?_
  refine lv_aload_n hx hb dX11_asItIs_121 rfl (lv_at hl 1 rfl) ?_
  refine z_get hx hb ht hown hK hP ziX11 rfl 0 (by decide) 1 (by decide) hw_5_188 rfl (v := .ref (q 1)) rfl dX11_asItIs_122 ?_
  refine lv_bipush (v := nI 6) hx hb dX11_asItIs_125 (by decide +kernel) ?_
  refine z_iald hx hb hK hP 1 (by decide) 0 rfl rfl (vp_in_nI (by omega) (by decide)) dX11_asItIs_127 ?_
  refine z_eqi (y := nI 0) rfl ?_
  refine lv_icmp_ge (tgt := 150) hx hb dX11_asItIs_128 (by decide) (fun _ => ?_) (fun c_0 => absurd (by decide +kernel) c_0)
  exact z_vret hx hb hr hlocks hP hD hS dX11_asItIs_150 ⟨rfl, rfl⟩
set_option maxHeartbeats 4000000 in
set_option maxRecDepth 100000 in
theorem kX11_isPaper (l : Launch) (D : va_G) (q : Nat → Nat) (cA : Nat → ClassId)  (x : Int32)  : zMi l D vwCl (zMtys cA) 25 q (zMd q cA) yX11_isPaper cX11_isPaper 2 (some .boolean) ({ frames := 1, cells := 0, slots := 0, locals := 25 } : Room) [.ref (q 0), .int (x)] (zMI0, zMR0, zMJ0) (fun r _ => r = nI 0) := by
  intro sz
  refine z_body (by decide +kernel) (Nat.le_of_ble_eq_true rfl) (fun p e s m below meth c ls hx hb hml hr ht hown hlocks hsz hK hP hD hS hl => ?_)
  have hA : ∀ a, s.heap.size ≤ a → zA 25 q sz a := fun a h => Or.inr (hsz ▸ h)
  have hl : lv_has ls 2 [(0, .ref (q 0)), (1, .int (x))] := hl
  refine lv_aload_n hx hb dX11_isPaper_0 rfl (lv_at hl 0 rfl) ?_
  refine z_callVv (k := 0) (As := []) (rest := []) hx hb hml hown ht (kX11_asItIs l D q cA) hw_6_181 hmX11_asItIs ⟨rfl, rfl⟩ (na := 0) rfl (by decide +kernel) (by decide) (by decide) rfl rfl hK hP hD hS hA hl.1 rfl (Nat.le_of_ble_eq_true rfl) ⟨Nat.zero_le _, Nat.zero_le _⟩ dX11_isPaper_1 (fun I_1 R_1 J_1 H locs hp_1 hP hD hS _ _ => ?_)
  obtain ⟨ha_1, hb_1⟩ := hp_1
  refine lv_iload_n hx hb dX11_isPaper_4 rfl (lv_at hl 1 rfl) ?_
  refine lv_i2l (v := (x).toInt64) hx hb dX11_isPaper_5 rfl ?_
  refine lv_lconst (v := (0 : Int64)) hx hb dX11_isPaper_6 (by decide +kernel) ?_
  refine lv_aload_n hx hb dX11_isPaper_7 rfl (lv_at hl 0 rfl) ?_
  refine z_get hx hb ht hown hK hP ziX11 rfl 0 (by decide) 26 (by decide) hw_5_213 rfl (v := .int (I_1 0 26)) rfl dX11_isPaper_8 ?_
  refine z_eqi (y := nI 0) ha_1 ?_
  refine lv_iconst (v := nI 1) hx hb dX11_isPaper_11 (by decide +kernel) ?_
  refine lv_isub hx hb dX11_isPaper_12 ?_
  refine z_eqi (y := (-1)) (by decide +kernel) ?_
  refine lv_i2l (v := (-1 : Int64)) hx hb dX11_isPaper_13 (by decide +kernel) ?_
  refine z_callSi (As := [.long ((x).toInt64), .long ((0 : Int64)), .long ((-1 : Int64))]) (rest := []) hx hb hml hown ht (kX11_in l D q cA _ _ _ (x).toInt 0 (-1) ((x).toInt64) ((0 : Int64)) ((-1 : Int64)) (z_i2l _) (by decide +kernel) (by decide +kernel)) hw_6_86 hmX11_in ⟨rfl, rfl⟩ (na := 3) rfl (by decide +kernel) (by decide) hK hP hD hS hA hl.1 rfl (Nat.le_of_ble_eq_true rfl) ⟨Nat.zero_le _, Nat.zero_le _⟩ dX11_isPaper_14 (fun r_2 I_2 R_2 J_2 H locs hp_2 hP hD hS _ _ => ?_)
  rcases hp_2 with ⟨rfl, hu_2, h1_2, h2_2⟩ | ⟨rfl, hu_2, h1_2⟩
  · exfalso; omega
  · cases hu_2
    exact z_zret (v := nI 0) hx hb hr hlocks hP hD hS (by decide +kernel) dX11_isPaper_17 rfl
set_option maxHeartbeats 4000000 in
set_option maxRecDepth 100000 in
theorem kX11_isCost (l : Launch) (D : va_G) (q : Nat → Nat) (cA : Nat → ClassId)  (x : Int32)  : zMi l D vwCl (zMtys cA) 25 q (zMd q cA) yX11_isCost cX11_isCost 2 (some .boolean) ({ frames := 1, cells := 0, slots := 0, locals := 21 } : Room) [.ref (q 0), .int (x)] (zMI0, zMR0, zMJ0) (fun r _ => r = nI 0) := by
  intro sz
  refine z_body (by decide +kernel) (Nat.le_of_ble_eq_true rfl) (fun p e s m below meth c ls hx hb hml hr ht hown hlocks hsz hK hP hD hS hl => ?_)
  have hA : ∀ a, s.heap.size ≤ a → zA 25 q sz a := fun a h => Or.inr (hsz ▸ h)
  have hl : lv_has ls 2 [(0, .ref (q 0)), (1, .int (x))] := hl
  refine lv_aload_n hx hb dX11_isCost_0 rfl (lv_at hl 0 rfl) ?_
  refine z_callVv (k := 0) (As := []) (rest := []) hx hb hml hown ht (kX11_asItIs l D q cA) hw_6_181 hmX11_asItIs ⟨rfl, rfl⟩ (na := 0) rfl (by decide +kernel) (by decide) (by decide) rfl rfl hK hP hD hS hA hl.1 rfl (Nat.le_of_ble_eq_true rfl) ⟨Nat.zero_le _, Nat.zero_le _⟩ dX11_isCost_1 (fun I_1 R_1 J_1 H locs hp_1 hP hD hS _ _ => ?_)
  obtain ⟨ha_1, hb_1⟩ := hp_1
  refine lv_aload_n hx hb dX11_isCost_4 rfl (lv_at hl 0 rfl) ?_
  refine z_callVi (k := 0) (As := []) (rest := []) hx hb hml hown ht (kX11_isCity_g l D q cA _ _ _ hb_1) hw_7_75 hmX11_isCity ⟨rfl, rfl⟩ (na := 0) rfl (by decide +kernel) (by decide) (by decide) rfl rfl hK hP hD hS hA hl.1 rfl (Nat.le_of_ble_eq_true rfl) ⟨Nat.zero_le _, Nat.zero_le _⟩ dX11_isCost_5 (fun r_2 I_2 R_2 J_2 H locs hp_2 hP hD hS _ _ => ?_)
  obtain ⟨rfl, hu_2⟩ := hp_2
  cases hu_2
  refine lv_if_eq (tgt := 27) hx hb dX11_isCost_8 (by decide) (fun _ => ?_) (fun c_0 => absurd (by decide +kernel) c_0)
  refine lv_iconst (v := nI 0) hx hb dX11_isCost_27 (by decide +kernel) ?_
  exact z_zret (v := nI 0) hx hb hr hlocks hP hD hS (by decide +kernel) dX11_isCost_28 rfl
set_option maxHeartbeats 4000000 in
set_option maxRecDepth 100000 in
theorem kX11_areDrawn (l : Launch) (D : va_G) (q : Nat → Nat) (cA : Nat → ClassId)  (x : Int32) (n : Int32)  : zMi l D vwCl (zMtys cA) 25 q (zMd q cA) yX11_areDrawn cX11_areDrawn 3 (some .boolean) ({ frames := 1, cells := 0, slots := 0, locals := 20 } : Room) [.ref (q 0), .int (x), .int (n)] (zMI0, zMR0, zMJ0) (fun r u => r = nI 0 ∧ u = (zMI0, zMR0, zMJ0)) := by
  intro sz
  refine z_body (by decide +kernel) (Nat.le_of_ble_eq_true rfl) (fun p e s m below meth c ls hx hb hml hr ht hown hlocks hsz hK hP hD hS hl => ?_)
  have hA : ∀ a, s.heap.size ≤ a → zA 25 q sz a := fun a h => Or.inr (hsz ▸ h)
  have hl : lv_has ls 3 [(0, .ref (q 0)), (1, .int (x)), (2, .int (n))] := hl
  refine lv_aload_n hx hb dX11_areDrawn_0 rfl (lv_at hl 0 rfl) ?_
  refine z_callVi (k := 0) (As := []) (rest := []) hx hb hml hown ht (kX11_isCity l D q cA ) hw_7_75 hmX11_isCity ⟨rfl, rfl⟩ (na := 0) rfl (by decide +kernel) (by decide) (by decide) rfl rfl hK hP hD hS hA hl.1 rfl (Nat.le_of_ble_eq_true rfl) ⟨Nat.zero_le _, Nat.zero_le _⟩ dX11_areDrawn_1 (fun r_1 I_1 R_1 J_1 H locs hp_1 hP hD hS _ _ => ?_)
  obtain ⟨rfl, hu_1⟩ := hp_1
  cases hu_1
  refine lv_if_eq (tgt := 35) hx hb dX11_areDrawn_4 (by decide) (fun _ => ?_) (fun c_0 => absurd (by decide +kernel) c_0)
  refine lv_iconst (v := nI 0) hx hb dX11_areDrawn_35 (by decide +kernel) ?_
  exact z_zret (v := nI 0) hx hb hr hlocks hP hD hS (by decide +kernel) dX11_areDrawn_36 ⟨rfl, rfl⟩
set_option maxHeartbeats 4000000 in
set_option maxRecDepth 100000 in
theorem kX11_isSlot (l : Launch) (D : va_G) (q : Nat → Nat) (cA : Nat → ClassId) (I R : Nat → Nat → Int32) (J : Nat → Nat → Int64) (x : Int32)  : zMi l D vwCl (zMtys cA) 25 q (zMd q cA) yX11_isSlot cX11_isSlot 1 (some .boolean) ({ frames := 1, cells := 0, slots := 0, locals := 25 } : Room) [.int (x)] (I, R, J) (fun r u => (r = nI 1 ∧ u = (I, R, J) ∧ 0 ≤ x.toInt ∧ x.toInt ≤ 3) ∨ (r = nI 0 ∧ u = (I, R, J) ∧ (x.toInt < 0 ∨ 3 < x.toInt))) := by
  intro sz
  refine z_body (by decide +kernel) (Nat.le_of_ble_eq_true rfl) (fun p e s m below meth c ls hx hb hml hr ht hown hlocks hsz hK hP hD hS hl => ?_)
  have hA : ∀ a, s.heap.size ≤ a → zA 25 q sz a := fun a h => Or.inr (hsz ▸ h)
  have hl : lv_has ls 1 [(0, .int (x))] := hl
  refine lv_iload_n hx hb dX11_isSlot_0 rfl (lv_at hl 0 rfl) ?_
  refine lv_i2l (v := (x).toInt64) hx hb dX11_isSlot_1 rfl ?_
  refine lv_lconst (v := (0 : Int64)) hx hb dX11_isSlot_2 (by decide +kernel) ?_
  refine lv_ldc2 (v := (3 : Int64)) hx hb hown (ht _ hw_7_91) dX11_isSlot_3 ?_
  refine z_callSi (As := [.long ((x).toInt64), .long ((0 : Int64)), .long ((3 : Int64))]) (rest := []) hx hb hml hown ht (kX11_in l D q cA _ _ _ (x).toInt 0 3 ((x).toInt64) ((0 : Int64)) ((3 : Int64)) (z_i2l _) (by decide +kernel) (by decide +kernel)) hw_6_86 hmX11_in ⟨rfl, rfl⟩ (na := 3) rfl (by decide +kernel) (by decide) hK hP hD hS hA hl.1 rfl (Nat.le_of_ble_eq_true rfl) ⟨Nat.zero_le _, Nat.zero_le _⟩ dX11_isSlot_6 (fun r_1 I_1 R_1 J_1 H locs hp_1 hP hD hS _ _ => ?_)
  rcases hp_1 with ⟨rfl, hu_1, h1_1, h2_1⟩ | ⟨rfl, hu_1, h1_1⟩
  · cases hu_1
    exact z_zret (v := nI 1) hx hb hr hlocks hP hD hS (by decide +kernel) dX11_isSlot_9 (Or.inl ⟨rfl, rfl, by omega, by omega⟩)
  · cases hu_1
    exact z_zret (v := nI 0) hx hb hr hlocks hP hD hS (by decide +kernel) dX11_isSlot_9 (Or.inr ⟨rfl, rfl, by omega⟩)
set_option maxHeartbeats 4000000 in
set_option maxRecDepth 100000 in
theorem kX11_asksPapers (l : Launch) (D : va_G) (q : Nat → Nat) (cA : Nat → ClassId)  (x : Int32)  : zMi l D vwCl (zMtys cA) 25 q (zMd q cA) yX11_asksPapers cX11_asksPapers 3 (some .int) ({ frames := 2, cells := 0, slots := 0, locals := 45 } : Room) [.ref (q 0), .int (x)] (zMI0, zMR0, zMJ0) (fun r u => r = (-2) ∧ u = (zMI0, zMR0, zMJ0)) := by
  intro sz
  refine z_body (by decide +kernel) (Nat.le_of_ble_eq_true rfl) (fun p e s m below meth c ls hx hb hml hr ht hown hlocks hsz hK hP hD hS hl => ?_)
  have hA : ∀ a, s.heap.size ≤ a → zA 25 q sz a := fun a h => Or.inr (hsz ▸ h)
  have hl : lv_has ls 3 [(0, .ref (q 0)), (1, .int (x))] := hl
  refine lv_iload_n hx hb dX11_asksPapers_0 rfl (lv_at hl 1 rfl) ?_
  refine z_callSi (As := [.int (x)]) (rest := []) hx hb hml hown ht (kX11_isSlot l D q cA _ _ _ (x)) hw_8_76 hmX11_isSlot ⟨rfl, rfl⟩ (na := 1) rfl (by decide +kernel) (by decide) hK hP hD hS hA hl.1 rfl (Nat.le_of_ble_eq_true rfl) ⟨Nat.zero_le _, Nat.zero_le _⟩ dX11_asksPapers_1 (fun r_1 I_1 R_1 J_1 H locs hp_1 hP hD hS _ _ => ?_)
  rcases hp_1 with ⟨rfl, hu_1, h1_1, h2_1⟩ | ⟨rfl, hu_1, h1_1⟩
  · cases hu_1
    refine lv_if_eq (tgt := 14) hx hb dX11_asksPapers_4 (by decide) (fun c_0 => absurd c_0 (by decide +kernel)) (fun _ => ?_)
    refine lv_aload_n hx hb dX11_asksPapers_7 rfl (lv_at hl 0 rfl) ?_
    refine z_callVi (k := 0) (As := []) (rest := []) hx hb hml hown ht (kX11_isCity l D q cA ) hw_7_75 hmX11_isCity ⟨rfl, rfl⟩ (na := 0) rfl (by decide +kernel) (by decide) (by decide) rfl rfl hK hP hD hS hA hl.1 rfl (Nat.le_of_ble_eq_true rfl) ⟨Nat.zero_le _, Nat.zero_le _⟩ dX11_asksPapers_8 (fun r_2 I_2 R_2 J_2 H locs hp_2 hP hD hS _ _ => ?_)
    obtain ⟨rfl, hu_2⟩ := hp_2
    cases hu_2
    refine lv_if_ne (tgt := 17) hx hb dX11_asksPapers_11 (by decide) (fun c_0 => absurd (by decide +kernel) c_0) (fun _ => ?_)
    refine lv_bipush (v := (-2)) hx hb dX11_asksPapers_14 (by decide +kernel) ?_
    exact z_iret (v := (-2)) hx hb hr hlocks hP hD hS dX11_asksPapers_16 ⟨rfl, rfl⟩
  · cases hu_1
    refine lv_if_eq (tgt := 14) hx hb dX11_asksPapers_4 (by decide) (fun _ => ?_) (fun c_0 => absurd (by decide +kernel) c_0)
    refine lv_bipush (v := (-2)) hx hb dX11_asksPapers_14 (by decide +kernel) ?_
    exact z_iret (v := (-2)) hx hb hr hlocks hP hD hS dX11_asksPapers_16 ⟨rfl, rfl⟩
set_option maxHeartbeats 4000000 in
set_option maxRecDepth 100000 in
theorem kX11_paper (l : Launch) (D : va_G) (q : Nat → Nat) (cA : Nat → ClassId)  (x : Int32) (w : Int32)  : zMi l D vwCl (zMtys cA) 25 q (zMd q cA) yX11_paper cX11_paper 3 (some .int) ({ frames := 2, cells := 0, slots := 0, locals := 46 } : Room) [.ref (q 0), .int (x), .int (w)] (zMI0, zMR0, zMJ0) (fun r _ => r = (-2)) := by
  intro sz
  refine z_body (by decide +kernel) (Nat.le_of_ble_eq_true rfl) (fun p e s m below meth c ls hx hb hml hr ht hown hlocks hsz hK hP hD hS hl => ?_)
  have hA : ∀ a, s.heap.size ≤ a → zA 25 q sz a := fun a h => Or.inr (hsz ▸ h)
  have hl : lv_has ls 3 [(0, .ref (q 0)), (1, .int (x)), (2, .int (w))] := hl
  refine lv_aload_n hx hb dX11_paper_0 rfl (lv_at hl 0 rfl) ?_
  refine lv_iload_n hx hb dX11_paper_1 rfl (lv_at hl 1 rfl) ?_
  refine z_callVi (k := 0) (As := [.int (x)]) (rest := []) hx hb hml hown ht (kX11_isPaper l D q cA (x)) hw_7_18 hmX11_isPaper ⟨rfl, rfl⟩ (na := 1) rfl (by decide +kernel) (by decide) (by decide) rfl rfl hK hP hD hS hA hl.1 rfl (Nat.le_of_ble_eq_true rfl) ⟨Nat.zero_le _, Nat.zero_le _⟩ dX11_paper_2 (fun r_1 I_1 R_1 J_1 H locs hp_1 hP hD hS _ _ => ?_)
  obtain rfl := hp_1
  refine lv_if_eq (tgt := 20) hx hb dX11_paper_5 (by decide) (fun _ => ?_) (fun c_0 => absurd (by decide +kernel) c_0)
  refine lv_bipush (v := (-2)) hx hb dX11_paper_20 (by decide +kernel) ?_
  exact z_iret (v := (-2)) hx hb hr hlocks hP hD hS dX11_paper_22 rfl
set_option maxHeartbeats 4000000 in
set_option maxRecDepth 100000 in
theorem kX11_price (l : Launch) (D : va_G) (q : Nat → Nat) (cA : Nat → ClassId)  (x : Int32)  : zMi l D vwCl (zMtys cA) 25 q (zMd q cA) yX11_price cX11_price 2 (some .int) ({ frames := 2, cells := 0, slots := 0, locals := 46 } : Room) [.ref (q 0), .int (x)] (zMI0, zMR0, zMJ0) (fun r _ => r = (-2)) := by
  intro sz
  refine z_body (by decide +kernel) (Nat.le_of_ble_eq_true rfl) (fun p e s m below meth c ls hx hb hml hr ht hown hlocks hsz hK hP hD hS hl => ?_)
  have hA : ∀ a, s.heap.size ≤ a → zA 25 q sz a := fun a h => Or.inr (hsz ▸ h)
  have hl : lv_has ls 2 [(0, .ref (q 0)), (1, .int (x))] := hl
  refine lv_aload_n hx hb dX11_price_0 rfl (lv_at hl 0 rfl) ?_
  refine lv_iload_n hx hb dX11_price_1 rfl (lv_at hl 1 rfl) ?_
  refine z_callVi (k := 0) (As := [.int (x)]) (rest := []) hx hb hml hown ht (kX11_isPaper l D q cA (x)) hw_7_18 hmX11_isPaper ⟨rfl, rfl⟩ (na := 1) rfl (by decide +kernel) (by decide) (by decide) rfl rfl hK hP hD hS hA hl.1 rfl (Nat.le_of_ble_eq_true rfl) ⟨Nat.zero_le _, Nat.zero_le _⟩ dX11_price_2 (fun r_1 I_1 R_1 J_1 H locs hp_1 hP hD hS _ _ => ?_)
  obtain rfl := hp_1
  refine lv_if_ne (tgt := 11) hx hb dX11_price_5 (by decide) (fun c_0 => absurd (by decide +kernel) c_0) (fun _ => ?_)
  refine lv_bipush (v := (-2)) hx hb dX11_price_8 (by decide +kernel) ?_
  exact z_iret (v := (-2)) hx hb hr hlocks hP hD hS dX11_price_10 rfl
set_option maxHeartbeats 4000000 in
set_option maxRecDepth 100000 in
theorem kX11_sell (l : Launch) (D : va_G) (q : Nat → Nat) (cA : Nat → ClassId)  (x : Int32) (h : Int32)  : zMi l D vwCl (zMtys cA) 25 q (zMd q cA) yX11_sell cX11_sell 3 (some .int) ({ frames := 2, cells := 0, slots := 0, locals := 46 } : Room) [.ref (q 0), .int (x), .int (h)] (zMI0, zMR0, zMJ0) (fun r _ => r = (-2)) := by
  intro sz
  refine z_body (by decide +kernel) (Nat.le_of_ble_eq_true rfl) (fun p e s m below meth c ls hx hb hml hr ht hown hlocks hsz hK hP hD hS hl => ?_)
  have hA : ∀ a, s.heap.size ≤ a → zA 25 q sz a := fun a h => Or.inr (hsz ▸ h)
  have hl : lv_has ls 3 [(0, .ref (q 0)), (1, .int (x)), (2, .int (h))] := hl
  refine lv_aload_n hx hb dX11_sell_0 rfl (lv_at hl 0 rfl) ?_
  refine lv_iload_n hx hb dX11_sell_1 rfl (lv_at hl 1 rfl) ?_
  refine z_callVi (k := 0) (As := [.int (x)]) (rest := []) hx hb hml hown ht (kX11_isPaper l D q cA (x)) hw_7_18 hmX11_isPaper ⟨rfl, rfl⟩ (na := 1) rfl (by decide +kernel) (by decide) (by decide) rfl rfl hK hP hD hS hA hl.1 rfl (Nat.le_of_ble_eq_true rfl) ⟨Nat.zero_le _, Nat.zero_le _⟩ dX11_sell_2 (fun r_1 I_1 R_1 J_1 H locs hp_1 hP hD hS _ _ => ?_)
  obtain rfl := hp_1
  refine lv_if_eq (tgt := 17) hx hb dX11_sell_5 (by decide) (fun _ => ?_) (fun c_0 => absurd (by decide +kernel) c_0)
  refine lv_bipush (v := (-2)) hx hb dX11_sell_17 (by decide +kernel) ?_
  exact z_iret (v := (-2)) hx hb hr hlocks hP hD hS dX11_sell_19 rfl
set_option maxHeartbeats 4000000 in
set_option maxRecDepth 100000 in
theorem kX11_brings (l : Launch) (D : va_G) (q : Nat → Nat) (cA : Nat → ClassId)  (x : Int32)  : zMi l D vwCl (zMtys cA) 25 q (zMd q cA) yX11_brings cX11_brings 2 (some .int) ({ frames := 2, cells := 0, slots := 0, locals := 46 } : Room) [.ref (q 0), .int (x)] (zMI0, zMR0, zMJ0) (fun r _ => r = (-2)) := by
  intro sz
  refine z_body (by decide +kernel) (Nat.le_of_ble_eq_true rfl) (fun p e s m below meth c ls hx hb hml hr ht hown hlocks hsz hK hP hD hS hl => ?_)
  have hA : ∀ a, s.heap.size ≤ a → zA 25 q sz a := fun a h => Or.inr (hsz ▸ h)
  have hl : lv_has ls 2 [(0, .ref (q 0)), (1, .int (x))] := hl
  refine lv_aload_n hx hb dX11_brings_0 rfl (lv_at hl 0 rfl) ?_
  refine lv_iload_n hx hb dX11_brings_1 rfl (lv_at hl 1 rfl) ?_
  refine z_callVi (k := 0) (As := [.int (x)]) (rest := []) hx hb hml hown ht (kX11_isPaper l D q cA (x)) hw_7_18 hmX11_isPaper ⟨rfl, rfl⟩ (na := 1) rfl (by decide +kernel) (by decide) (by decide) rfl rfl hK hP hD hS hA hl.1 rfl (Nat.le_of_ble_eq_true rfl) ⟨Nat.zero_le _, Nat.zero_le _⟩ dX11_brings_2 (fun r_1 I_1 R_1 J_1 H locs hp_1 hP hD hS _ _ => ?_)
  obtain rfl := hp_1
  refine lv_if_ne (tgt := 11) hx hb dX11_brings_5 (by decide) (fun c_0 => absurd (by decide +kernel) c_0) (fun _ => ?_)
  refine lv_bipush (v := (-2)) hx hb dX11_brings_8 (by decide +kernel) ?_
  exact z_iret (v := (-2)) hx hb hr hlocks hP hD hS dX11_brings_10 rfl
set_option maxHeartbeats 4000000 in
set_option maxRecDepth 100000 in
theorem kX11_strike (l : Launch) (D : va_G) (q : Nat → Nat) (cA : Nat → ClassId)  (x : Int32)  : zMi l D vwCl (zMtys cA) 25 q (zMd q cA) yX11_strike cX11_strike 2 (some .int) ({ frames := 2, cells := 0, slots := 0, locals := 46 } : Room) [.ref (q 0), .int (x)] (zMI0, zMR0, zMJ0) (fun r _ => r = (-2)) := by
  intro sz
  refine z_body (by decide +kernel) (Nat.le_of_ble_eq_true rfl) (fun p e s m below meth c ls hx hb hml hr ht hown hlocks hsz hK hP hD hS hl => ?_)
  have hA : ∀ a, s.heap.size ≤ a → zA 25 q sz a := fun a h => Or.inr (hsz ▸ h)
  have hl : lv_has ls 2 [(0, .ref (q 0)), (1, .int (x))] := hl
  refine lv_aload_n hx hb dX11_strike_0 rfl (lv_at hl 0 rfl) ?_
  refine lv_iload_n hx hb dX11_strike_1 rfl (lv_at hl 1 rfl) ?_
  refine z_callVi (k := 0) (As := [.int (x)]) (rest := []) hx hb hml hown ht (kX11_isPaper l D q cA (x)) hw_7_18 hmX11_isPaper ⟨rfl, rfl⟩ (na := 1) rfl (by decide +kernel) (by decide) (by decide) rfl rfl hK hP hD hS hA hl.1 rfl (Nat.le_of_ble_eq_true rfl) ⟨Nat.zero_le _, Nat.zero_le _⟩ dX11_strike_2 (fun r_1 I_1 R_1 J_1 H locs hp_1 hP hD hS _ _ => ?_)
  obtain rfl := hp_1
  refine lv_if_ne (tgt := 11) hx hb dX11_strike_5 (by decide) (fun c_0 => absurd (by decide +kernel) c_0) (fun _ => ?_)
  refine lv_bipush (v := (-2)) hx hb dX11_strike_8 (by decide +kernel) ?_
  exact z_iret (v := (-2)) hx hb hr hlocks hP hD hS dX11_strike_10 rfl
set_option maxHeartbeats 4000000 in
set_option maxRecDepth 100000 in
theorem kX11_rests (l : Launch) (D : va_G) (q : Nat → Nat) (cA : Nat → ClassId)  (x : Int32)  : zMi l D vwCl (zMtys cA) 25 q (zMd q cA) yX11_rests cX11_rests 4 (some .int) ({ frames := 2, cells := 0, slots := 0, locals := 42 } : Room) [.ref (q 0), .int (x)] (zMI0, zMR0, zMJ0) (fun r _ => r = (-2)) := by
  intro sz
  refine z_body (by decide +kernel) (Nat.le_of_ble_eq_true rfl) (fun p e s m below meth c ls hx hb hml hr ht hown hlocks hsz hK hP hD hS hl => ?_)
  have hA : ∀ a, s.heap.size ≤ a → zA 25 q sz a := fun a h => Or.inr (hsz ▸ h)
  have hl : lv_has ls 4 [(0, .ref (q 0)), (1, .int (x))] := hl
  refine lv_aload_n hx hb dX11_rests_0 rfl (lv_at hl 0 rfl) ?_
  refine lv_iload_n hx hb dX11_rests_1 rfl (lv_at hl 1 rfl) ?_
  refine z_callVi (k := 0) (As := [.int (x)]) (rest := []) hx hb hml hown ht (kX11_isCost l D q cA (x)) hw_8_39 hmX11_isCost ⟨rfl, rfl⟩ (na := 1) rfl (by decide +kernel) (by decide) (by decide) rfl rfl hK hP hD hS hA hl.1 rfl (Nat.le_of_ble_eq_true rfl) ⟨Nat.zero_le _, Nat.zero_le _⟩ dX11_rests_2 (fun r_1 I_1 R_1 J_1 H locs hp_1 hP hD hS _ _ => ?_)
  obtain rfl := hp_1
  refine lv_if_ne (tgt := 11) hx hb dX11_rests_5 (by decide) (fun c_0 => absurd (by decide +kernel) c_0) (fun _ => ?_)
  refine lv_bipush (v := (-2)) hx hb dX11_rests_8 (by decide +kernel) ?_
  exact z_iret (v := (-2)) hx hb hr hlocks hP hD hS dX11_rests_10 rfl
set_option maxHeartbeats 4000000 in
set_option maxRecDepth 100000 in
theorem kX11_rest (l : Launch) (D : va_G) (q : Nat → Nat) (cA : Nat → ClassId)  (x : Int32)  : zMi l D vwCl (zMtys cA) 25 q (zMd q cA) yX11_rest cX11_rest 3 (some .int) ({ frames := 2, cells := 0, slots := 0, locals := 42 } : Room) [.ref (q 0), .int (x)] (zMI0, zMR0, zMJ0) (fun r _ => r = (-2)) := by
  intro sz
  refine z_body (by decide +kernel) (Nat.le_of_ble_eq_true rfl) (fun p e s m below meth c ls hx hb hml hr ht hown hlocks hsz hK hP hD hS hl => ?_)
  have hA : ∀ a, s.heap.size ≤ a → zA 25 q sz a := fun a h => Or.inr (hsz ▸ h)
  have hl : lv_has ls 3 [(0, .ref (q 0)), (1, .int (x))] := hl
  refine lv_aload_n hx hb dX11_rest_0 rfl (lv_at hl 0 rfl) ?_
  refine lv_iload_n hx hb dX11_rest_1 rfl (lv_at hl 1 rfl) ?_
  refine z_callVi (k := 0) (As := [.int (x)]) (rest := []) hx hb hml hown ht (kX11_isCost l D q cA (x)) hw_8_39 hmX11_isCost ⟨rfl, rfl⟩ (na := 1) rfl (by decide +kernel) (by decide) (by decide) rfl rfl hK hP hD hS hA hl.1 rfl (Nat.le_of_ble_eq_true rfl) ⟨Nat.zero_le _, Nat.zero_le _⟩ dX11_rest_2 (fun r_1 I_1 R_1 J_1 H locs hp_1 hP hD hS _ _ => ?_)
  obtain rfl := hp_1
  refine lv_if_ne (tgt := 11) hx hb dX11_rest_5 (by decide) (fun c_0 => absurd (by decide +kernel) c_0) (fun _ => ?_)
  refine lv_bipush (v := (-2)) hx hb dX11_rest_8 (by decide +kernel) ?_
  exact z_iret (v := (-2)) hx hb hr hlocks hP hD hS dX11_rest_10 rfl
set_option maxHeartbeats 4000000 in
set_option maxRecDepth 100000 in
theorem kX11_wrong (l : Launch) (D : va_G) (q : Nat → Nat) (cA : Nat → ClassId)  (x : Int32)  : zMi l D vwCl (zMtys cA) 25 q (zMd q cA) yX11_wrong cX11_wrong 3 (some .int) ({ frames := 3, cells := 0, slots := 0, locals := 67 } : Room) [.ref (q 0), .int (x)] (zMI0, zMR0, zMJ0) (fun r _ => r = (-2)) := by
  intro sz
  refine z_body (by decide +kernel) (Nat.le_of_ble_eq_true rfl) (fun p e s m below meth c ls hx hb hml hr ht hown hlocks hsz hK hP hD hS hl => ?_)
  have hA : ∀ a, s.heap.size ≤ a → zA 25 q sz a := fun a h => Or.inr (hsz ▸ h)
  have hl : lv_has ls 3 [(0, .ref (q 0)), (1, .int (x))] := hl
  refine lv_aload_n hx hb dX11_wrong_0 rfl (lv_at hl 0 rfl) ?_
  refine lv_iload_n hx hb dX11_wrong_1 rfl (lv_at hl 1 rfl) ?_
  refine z_callVi (k := 0) (As := [.int (x)]) (rest := []) hx hb hml hown ht (kX11_asksPapers l D q cA (x)) hw_8_72 hmX11_asksPapers ⟨rfl, rfl⟩ (na := 1) rfl (by decide +kernel) (by decide) (by decide) rfl rfl hK hP hD hS hA hl.1 rfl (Nat.le_of_ble_eq_true rfl) ⟨Nat.zero_le _, Nat.zero_le _⟩ dX11_wrong_2 (fun r_1 I_1 R_1 J_1 H locs hp_1 hP hD hS _ _ => ?_)
  obtain ⟨rfl, hu_1⟩ := hp_1
  cases hu_1
  refine lv_istore_n (lv' := [(2, .int ((-2))), (0, .ref (q 0)), (1, .int (x))]) hx hb dX11_wrong_5 rfl hl (by decide) rfl (fun ls hl => ?_)
  refine lv_iload_n hx hb dX11_wrong_6 rfl (lv_at hl 0 rfl) ?_
  refine lv_if_ge (tgt := 12) hx hb dX11_wrong_7 (by decide) (fun c_0 => absurd c_0 (by decide +kernel)) (fun _ => ?_)
  refine lv_iload_n hx hb dX11_wrong_10 rfl (lv_at hl 0 rfl) ?_
  exact z_iret (v := (-2)) hx hb hr hlocks hP hD hS dX11_wrong_11 rfl
set_option maxHeartbeats 4000000 in
set_option maxRecDepth 100000 in
theorem kX11_forged (l : Launch) (D : va_G) (q : Nat → Nat) (cA : Nat → ClassId)  (x : Int32)  : zMi l D vwCl (zMtys cA) 25 q (zMd q cA) yX11_forged cX11_forged 3 (some .int) ({ frames := 3, cells := 0, slots := 0, locals := 67 } : Room) [.ref (q 0), .int (x)] (zMI0, zMR0, zMJ0) (fun r _ => r = (-2)) := by
  intro sz
  refine z_body (by decide +kernel) (Nat.le_of_ble_eq_true rfl) (fun p e s m below meth c ls hx hb hml hr ht hown hlocks hsz hK hP hD hS hl => ?_)
  have hA : ∀ a, s.heap.size ≤ a → zA 25 q sz a := fun a h => Or.inr (hsz ▸ h)
  have hl : lv_has ls 3 [(0, .ref (q 0)), (1, .int (x))] := hl
  refine lv_aload_n hx hb dX11_forged_0 rfl (lv_at hl 0 rfl) ?_
  refine lv_iload_n hx hb dX11_forged_1 rfl (lv_at hl 1 rfl) ?_
  refine z_callVi (k := 0) (As := [.int (x)]) (rest := []) hx hb hml hown ht (kX11_asksPapers l D q cA (x)) hw_8_72 hmX11_asksPapers ⟨rfl, rfl⟩ (na := 1) rfl (by decide +kernel) (by decide) (by decide) rfl rfl hK hP hD hS hA hl.1 rfl (Nat.le_of_ble_eq_true rfl) ⟨Nat.zero_le _, Nat.zero_le _⟩ dX11_forged_2 (fun r_1 I_1 R_1 J_1 H locs hp_1 hP hD hS _ _ => ?_)
  obtain ⟨rfl, hu_1⟩ := hp_1
  cases hu_1
  refine lv_istore_n (lv' := [(2, .int ((-2))), (0, .ref (q 0)), (1, .int (x))]) hx hb dX11_forged_5 rfl hl (by decide) rfl (fun ls hl => ?_)
  refine lv_iload_n hx hb dX11_forged_6 rfl (lv_at hl 0 rfl) ?_
  refine lv_if_ge (tgt := 12) hx hb dX11_forged_7 (by decide) (fun c_0 => absurd c_0 (by decide +kernel)) (fun _ => ?_)
  refine lv_iload_n hx hb dX11_forged_10 rfl (lv_at hl 0 rfl) ?_
  exact z_iret (v := (-2)) hx hb hr hlocks hP hD hS dX11_forged_11 rfl
set_option maxHeartbeats 4000000 in
set_option maxRecDepth 100000 in
theorem kX11_argued (l : Launch) (D : va_G) (q : Nat → Nat) (cA : Nat → ClassId)  (x : Int32)  : zMi l D vwCl (zMtys cA) 25 q (zMd q cA) yX11_argued cX11_argued 3 (some .int) ({ frames := 3, cells := 0, slots := 0, locals := 67 } : Room) [.ref (q 0), .int (x)] (zMI0, zMR0, zMJ0) (fun r _ => r = (-2)) := by
  intro sz
  refine z_body (by decide +kernel) (Nat.le_of_ble_eq_true rfl) (fun p e s m below meth c ls hx hb hml hr ht hown hlocks hsz hK hP hD hS hl => ?_)
  have hA : ∀ a, s.heap.size ≤ a → zA 25 q sz a := fun a h => Or.inr (hsz ▸ h)
  have hl : lv_has ls 3 [(0, .ref (q 0)), (1, .int (x))] := hl
  refine lv_aload_n hx hb dX11_argued_0 rfl (lv_at hl 0 rfl) ?_
  refine lv_iload_n hx hb dX11_argued_1 rfl (lv_at hl 1 rfl) ?_
  refine z_callVi (k := 0) (As := [.int (x)]) (rest := []) hx hb hml hown ht (kX11_asksPapers l D q cA (x)) hw_8_72 hmX11_asksPapers ⟨rfl, rfl⟩ (na := 1) rfl (by decide +kernel) (by decide) (by decide) rfl rfl hK hP hD hS hA hl.1 rfl (Nat.le_of_ble_eq_true rfl) ⟨Nat.zero_le _, Nat.zero_le _⟩ dX11_argued_2 (fun r_1 I_1 R_1 J_1 H locs hp_1 hP hD hS _ _ => ?_)
  obtain ⟨rfl, hu_1⟩ := hp_1
  cases hu_1
  refine lv_istore_n (lv' := [(2, .int ((-2))), (0, .ref (q 0)), (1, .int (x))]) hx hb dX11_argued_5 rfl hl (by decide) rfl (fun ls hl => ?_)
  refine lv_iload_n hx hb dX11_argued_6 rfl (lv_at hl 0 rfl) ?_
  refine lv_if_ge (tgt := 12) hx hb dX11_argued_7 (by decide) (fun c_0 => absurd c_0 (by decide +kernel)) (fun _ => ?_)
  refine lv_iload_n hx hb dX11_argued_10 rfl (lv_at hl 0 rfl) ?_
  exact z_iret (v := (-2)) hx hb hr hlocks hP hD hS dX11_argued_11 rfl
set_option maxHeartbeats 4000000 in
set_option maxRecDepth 100000 in
theorem kX11_drawn (l : Launch) (D : va_G) (q : Nat → Nat) (cA : Nat → ClassId)  (x : Int32) (n : Int32) (w : Int32)  : zMi l D vwCl (zMtys cA) 25 q (zMd q cA) yX11_drawn cX11_drawn 5 (some .int) ({ frames := 2, cells := 0, slots := 0, locals := 42 } : Room) [.ref (q 0), .int (x), .int (n), .int (w)] (zMI0, zMR0, zMJ0) (fun r _ => r = (-2)) := by
  intro sz
  refine z_body (by decide +kernel) (Nat.le_of_ble_eq_true rfl) (fun p e s m below meth c ls hx hb hml hr ht hown hlocks hsz hK hP hD hS hl => ?_)
  have hA : ∀ a, s.heap.size ≤ a → zA 25 q sz a := fun a h => Or.inr (hsz ▸ h)
  have hl : lv_has ls 5 [(0, .ref (q 0)), (1, .int (x)), (2, .int (n)), (3, .int (w))] := hl
  refine lv_aload_n hx hb dX11_drawn_0 rfl (lv_at hl 0 rfl) ?_
  refine lv_iload_n hx hb dX11_drawn_1 rfl (lv_at hl 1 rfl) ?_
  refine lv_iload_n hx hb dX11_drawn_2 rfl (lv_at hl 2 rfl) ?_
  refine z_callVi (k := 0) (As := [.int (x), .int (n)]) (rest := []) hx hb hml hown ht (kX11_areDrawn l D q cA (x) (n)) hw_8_108 hmX11_areDrawn ⟨rfl, rfl⟩ (na := 2) rfl (by decide +kernel) (by decide) (by decide) rfl rfl hK hP hD hS hA hl.1 rfl (Nat.le_of_ble_eq_true rfl) ⟨Nat.zero_le _, Nat.zero_le _⟩ dX11_drawn_3 (fun r_1 I_1 R_1 J_1 H locs hp_1 hP hD hS _ _ => ?_)
  obtain ⟨rfl, hu_1⟩ := hp_1
  cases hu_1
  refine lv_if_eq (tgt := 21) hx hb dX11_drawn_6 (by decide) (fun _ => ?_) (fun c_0 => absurd (by decide +kernel) c_0)
  refine lv_bipush (v := (-2)) hx hb dX11_drawn_21 (by decide +kernel) ?_
  exact z_iret (v := (-2)) hx hb hr hlocks hP hD hS dX11_drawn_23 rfl
set_option maxHeartbeats 4000000 in
set_option maxRecDepth 100000 in
theorem kX11_luck (l : Launch) (D : va_G) (q : Nat → Nat) (cA : Nat → ClassId)  (x : Int32) (k : Int32) (n : Int32) (t : Int32) (h : Int32)  : zMi l D vwCl (zMtys cA) 25 q (zMd q cA) yX11_luck cX11_luck 8 (some .int) ({ frames := 2, cells := 0, slots := 0, locals := 42 } : Room) [.ref (q 0), .int (x), .int (k), .int (n), .int (t), .int (h)] (zMI0, zMR0, zMJ0) (fun r _ => r = (-2)) := by
  intro sz
  refine z_body (by decide +kernel) (Nat.le_of_ble_eq_true rfl) (fun p e s m below meth c ls hx hb hml hr ht hown hlocks hsz hK hP hD hS hl => ?_)
  have hA : ∀ a, s.heap.size ≤ a → zA 25 q sz a := fun a h => Or.inr (hsz ▸ h)
  have hl : lv_has ls 8 [(0, .ref (q 0)), (1, .int (x)), (2, .int (k)), (3, .int (n)), (4, .int (t)), (5, .int (h))] := hl
  refine lv_aload_n hx hb dX11_luck_0 rfl (lv_at hl 0 rfl) ?_
  refine lv_iload_n hx hb dX11_luck_1 rfl (lv_at hl 1 rfl) ?_
  refine lv_iload_n hx hb dX11_luck_2 rfl (lv_at hl 3 rfl) ?_
  refine z_callVi (k := 0) (As := [.int (x), .int (n)]) (rest := []) hx hb hml hown ht (kX11_areDrawn l D q cA (x) (n)) hw_8_108 hmX11_areDrawn ⟨rfl, rfl⟩ (na := 2) rfl (by decide +kernel) (by decide) (by decide) rfl rfl hK hP hD hS hA hl.1 rfl (Nat.le_of_ble_eq_true rfl) ⟨Nat.zero_le _, Nat.zero_le _⟩ dX11_luck_3 (fun r_1 I_1 R_1 J_1 H locs hp_1 hP hD hS _ _ => ?_)
  obtain ⟨rfl, hu_1⟩ := hp_1
  cases hu_1
  refine lv_if_eq (tgt := 41) hx hb dX11_luck_6 (by decide) (fun _ => ?_) (fun c_0 => absurd (by decide +kernel) c_0)
  refine lv_bipush (v := (-2)) hx hb dX11_luck_41 (by decide +kernel) ?_
  exact z_iret (v := (-2)) hx hb hr hlocks hP hD hS dX11_luck_43 rfl
set_option maxHeartbeats 4000000 in
set_option maxRecDepth 100000 in
theorem kX11_end (l : Launch) (D : va_G) (q : Nat → Nat) (cA : Nat → ClassId)  (x : Int32)  : zMi l D vwCl (zMtys cA) 25 q (zMd q cA) yX11_end cX11_end 2 (some .int) ({ frames := 1, cells := 0, slots := 0, locals := 25 } : Room) [.ref (q 0), .int (x)] (zMI0, zMR0, zMJ0) (fun r _ => (x.toInt = 0 ∧ r = nI 0) ∨ (x.toInt ≠ 0 ∧ r = (-1))) := by
  intro sz
  refine z_body (by decide +kernel) (Nat.le_of_ble_eq_true rfl) (fun p e s m below meth c ls hx hb hml hr ht hown hlocks hsz hK hP hD hS hl => ?_)
  have hA : ∀ a, s.heap.size ≤ a → zA 25 q sz a := fun a h => Or.inr (hsz ▸ h)
  have hl : lv_has ls 2 [(0, .ref (q 0)), (1, .int (x))] := hl
  refine lv_iload_n hx hb dX11_end_0 rfl (lv_at hl 1 rfl) ?_
  refine lv_i2l (v := (x).toInt64) hx hb dX11_end_1 rfl ?_
  refine lv_lconst (v := (0 : Int64)) hx hb dX11_end_2 (by decide +kernel) ?_
  refine lv_aload_n hx hb dX11_end_3 rfl (lv_at hl 0 rfl) ?_
  refine z_get hx hb ht hown hK hP ziX11 rfl 0 (by decide) 5 (by decide) hw_5_192 rfl (v := .int (nI 0)) rfl dX11_end_4 ?_
  refine lv_i2l (v := (0 : Int64)) hx hb dX11_end_7 (by decide +kernel) ?_
  refine z_callSi (As := [.long ((x).toInt64), .long ((0 : Int64)), .long ((0 : Int64))]) (rest := []) hx hb hml hown ht (kX11_in l D q cA _ _ _ (x).toInt 0 0 ((x).toInt64) ((0 : Int64)) ((0 : Int64)) (z_i2l _) (by decide +kernel) (by decide +kernel)) hw_6_86 hmX11_in ⟨rfl, rfl⟩ (na := 3) rfl (by decide +kernel) (by decide) hK hP hD hS hA hl.1 rfl (Nat.le_of_ble_eq_true rfl) ⟨Nat.zero_le _, Nat.zero_le _⟩ dX11_end_8 (fun r_1 I_1 R_1 J_1 H locs hp_1 hP hD hS _ _ => ?_)
  rcases hp_1 with ⟨rfl, hu_1, h1_1, h2_1⟩ | ⟨rfl, hu_1, h1_1⟩
  · cases hu_1
    refine lv_if_ne (tgt := 16) hx hb dX11_end_11 (by decide) (fun _ => ?_) (fun c_0 => absurd c_0 (by decide +kernel))
    refine lv_aload_n hx hb dX11_end_16 rfl (lv_at hl 0 rfl) ?_
    refine lv_iload_n hx hb dX11_end_17 rfl (lv_at hl 1 rfl) ?_
    refine z_putI hx hb ht hown hK hP hD hS ziX11 tyX11 tyX11_ok nmX11 rfl 0 (by decide) 5 (by decide) hw_5_192 rfl (v := x) rfl rfl rfl (Nat.le_of_ble_eq_true rfl) rfl dX11_end_18 (fun H locs hP hD hS => ?_)
    refine lv_iload_n hx hb dX11_end_21 rfl (lv_at hl 1 rfl) ?_
    exact z_iret (v := x) hx hb hr hlocks hP hD hS dX11_end_22 (Or.inl ⟨by omega, z_of (by omega) (by omega)⟩)
  · cases hu_1
    refine lv_if_ne (tgt := 16) hx hb dX11_end_11 (by decide) (fun c_0 => absurd (by decide +kernel) c_0) (fun _ => ?_)
    refine lv_iconst (v := (-1)) hx hb dX11_end_14 (by decide +kernel) ?_
    exact z_iret (v := (-1)) hx hb hr hlocks hP hD hS dX11_end_15 (Or.inr ⟨by omega, rfl⟩)
set_option maxHeartbeats 4000000 in
set_option maxRecDepth 100000 in
theorem kX11_fault (l : Launch) (D : va_G) (q : Nat → Nat) (cA : Nat → ClassId)  (x : Int32)  : zMi l D vwCl (zMtys cA) 25 q (zMd q cA) yX11_fault cX11_fault 2 (some .int) ({ frames := 0, cells := 0, slots := 0, locals := 0 } : Room) [.ref (q 0), .int (x)] (zMI0, zMR0, zMJ0) (fun r _ => (x.toInt = 0 ∧ r = nI 0) ∨ (x.toInt ≠ 0 ∧ r = (-1))) := by
  intro sz
  refine z_body (by decide +kernel) (Nat.le_of_ble_eq_true rfl) (fun p e s m below meth c ls hx hb hml hr ht hown hlocks hsz hK hP hD hS hl => ?_)
  have hA : ∀ a, s.heap.size ≤ a → zA 25 q sz a := fun a h => Or.inr (hsz ▸ h)
  have hl : lv_has ls 2 [(0, .ref (q 0)), (1, .int (x))] := hl
  refine lv_iload_n hx hb dX11_fault_0 rfl (lv_at hl 1 rfl) ?_
  refine lv_if_ne (tgt := 11) hx hb dX11_fault_1 (by decide) (fun c_1 => ?_) (fun c_1 => ?_)
  · have kc_1_1 : (nI 0 : Int32).toInt = 0 := by decide +kernel
    have kc_1_2 : (0 : Int32).toInt = 0 := by decide +kernel
    have t_c_1 := z_eqF c_1
    refine lv_iload_n hx hb dX11_fault_11 rfl (lv_at hl 1 rfl) ?_
    refine lv_iconst (v := nI 1) hx hb dX11_fault_12 (by decide +kernel) ?_
    refine lv_icmp_ne (tgt := 23) hx hb dX11_fault_13 (by decide) (fun c_2 => ?_) (fun c_2 => ?_)
    · have kc_2_1 : (nI 1 : Int32).toInt = 1 := by decide +kernel
      have t_c_2 := z_eqF c_2
      refine lv_iconst (v := (-1)) hx hb dX11_fault_23 (by decide +kernel) ?_
      exact z_iret (v := (-1)) hx hb hr hlocks hP hD hS dX11_fault_24 (Or.inr ⟨by omega, rfl⟩)
    · have kc_2_1 : (nI 1 : Int32).toInt = 1 := by decide +kernel
      have t_c_2 := z_eqT c_2
      refine lv_aload_n hx hb dX11_fault_16 rfl (lv_at hl 0 rfl) ?_
      refine z_get hx hb ht hown hK hP ziX11 rfl 0 (by decide) 13 (by decide) hw_5_200 rfl (v := .int ((-1))) rfl dX11_fault_17 ?_
      refine lv_goto (tgt := 24) hx hb dX11_fault_20 (by decide) ?_
      exact z_iret (v := (-1)) hx hb hr hlocks hP hD hS dX11_fault_24 (Or.inr ⟨by omega, rfl⟩)
  · have kc_1_1 : (nI 0 : Int32).toInt = 0 := by decide +kernel
    have kc_1_2 : (0 : Int32).toInt = 0 := by decide +kernel
    have t_c_1 := z_eqT c_1
    refine lv_aload_n hx hb dX11_fault_4 rfl (lv_at hl 0 rfl) ?_
    refine z_get hx hb ht hown hK hP ziX11 rfl 0 (by decide) 12 (by decide) hw_5_199 rfl (v := .int (nI 0)) rfl dX11_fault_5 ?_
    refine lv_goto (tgt := 24) hx hb dX11_fault_8 (by decide) ?_
    exact z_iret (v := nI 0) hx hb hr hlocks hP hD hS dX11_fault_24 (Or.inl ⟨by omega, rfl⟩)
set_option maxHeartbeats 4000000 in
set_option maxRecDepth 100000 in
theorem kX11_count (l : Launch) (D : va_G) (q : Nat → Nat) (cA : Nat → ClassId)  (x : Int32)  : zMi l D vwCl (zMtys cA) 25 q (zMd q cA) yX11_count cX11_count 4 (some .int) ({ frames := 1, cells := 0, slots := 0, locals := 21 } : Room) [.ref (q 0), .int (x)] (zMI0, zMR0, zMJ0) (fun r _ => (0 ≤ x.toInt ∧ x.toInt ≤ 9 ∧ r = nI 0) ∨ ((x.toInt < 0 ∨ 9 < x.toInt) ∧ r = (-1))) := by
  intro sz
  refine z_body (by decide +kernel) (Nat.le_of_ble_eq_true rfl) (fun p e s m below meth c ls hx hb hml hr ht hown hlocks hsz hK hP hD hS hl => ?_)
  have hA : ∀ a, s.heap.size ≤ a → zA 25 q sz a := fun a h => Or.inr (hsz ▸ h)
  have hl : lv_has ls 4 [(0, .ref (q 0)), (1, .int (x))] := hl
  refine lv_iconst (v := nI 0) hx hb dX11_count_0 (by decide +kernel) ?_
  refine lv_istore_n (lv' := [(2, .int (nI 0)), (0, .ref (q 0)), (1, .int (x))]) hx hb dX11_count_1 rfl hl (by decide) rfl (fun ls hl => ?_)
  refine lv_iload_n hx hb dX11_count_2 rfl (lv_at hl 2 rfl) ?_
  by_cases c_1 : (x).toInt < 0 ∨ 9 < (x).toInt
  · refine lv_tableOut (tgt := 153) hx hb dX11_count_3 c_1 (by decide) ?_
    refine lv_iconst (v := (-1)) hx hb dX11_count_153 (by decide +kernel) ?_
    exact z_iret (v := (-1)) hx hb hr hlocks hP hD hS dX11_count_154 (Or.inr ⟨by omega, rfl⟩)
  · have hc_1 : (x).toInt = 0 ∨ (x).toInt = 1 ∨ (x).toInt = 2 ∨ (x).toInt = 3 ∨ (x).toInt = 4 ∨ (x).toInt = 5 ∨ (x).toInt = 6 ∨ (x).toInt = 7 ∨ (x).toInt = 8 ∨ (x).toInt = 9 := by omega
    rcases hc_1 with kc_1 | kc_1 | kc_1 | kc_1 | kc_1 | kc_1 | kc_1 | kc_1 | kc_1 | kc_1
    · refine lv_tableIn (off := 53) (tgt := 56) hx hb dX11_count_3 (by omega) (by omega) (by rw [kc_1]; decide +kernel) (by decide) ?_
      refine lv_aload_n hx hb dX11_count_56 rfl (lv_at hl 1 rfl) ?_
      refine z_get hx hb ht hown hK hP ziX11 rfl 0 (by decide) 1 (by decide) hw_5_188 rfl (v := .ref (q 1)) rfl dX11_count_57 ?_
      refine lv_iconst (v := nI 0) hx hb dX11_count_60 (by decide +kernel) ?_
      refine z_iald hx hb hK hP 1 (by decide) 0 rfl rfl (vp_in_nI (by omega) (by decide)) dX11_count_61 ?_
      refine z_eqi (y := nI 0) rfl ?_
      exact z_iret (v := nI 0) hx hb hr hlocks hP hD hS dX11_count_62 (Or.inl ⟨by omega, by omega, rfl⟩)
    · refine lv_tableIn (off := 60) (tgt := 63) hx hb dX11_count_3 (by omega) (by omega) (by rw [kc_1]; decide +kernel) (by decide) ?_
      refine lv_aload_n hx hb dX11_count_63 rfl (lv_at hl 1 rfl) ?_
      refine z_get hx hb ht hown hK hP ziX11 rfl 0 (by decide) 1 (by decide) hw_5_188 rfl (v := .ref (q 1)) rfl dX11_count_64 ?_
      refine lv_iconst (v := nI 1) hx hb dX11_count_67 (by decide +kernel) ?_
      refine z_iald hx hb hK hP 1 (by decide) 0 rfl rfl (vp_in_nI (by omega) (by decide)) dX11_count_68 ?_
      refine z_eqi (y := nI 0) rfl ?_
      exact z_iret (v := nI 0) hx hb hr hlocks hP hD hS dX11_count_69 (Or.inl ⟨by omega, by omega, rfl⟩)
    · refine lv_tableIn (off := 67) (tgt := 70) hx hb dX11_count_3 (by omega) (by omega) (by rw [kc_1]; decide +kernel) (by decide) ?_
      refine lv_aload_n hx hb dX11_count_70 rfl (lv_at hl 1 rfl) ?_
      refine z_get hx hb ht hown hK hP ziX11 rfl 0 (by decide) 1 (by decide) hw_5_188 rfl (v := .ref (q 1)) rfl dX11_count_71 ?_
      refine lv_iconst (v := nI 2) hx hb dX11_count_74 (by decide +kernel) ?_
      refine z_iald hx hb hK hP 1 (by decide) 0 rfl rfl (vp_in_nI (by omega) (by decide)) dX11_count_75 ?_
      refine z_eqi (y := nI 0) rfl ?_
      exact z_iret (v := nI 0) hx hb hr hlocks hP hD hS dX11_count_76 (Or.inl ⟨by omega, by omega, rfl⟩)
    · refine lv_tableIn (off := 74) (tgt := 77) hx hb dX11_count_3 (by omega) (by omega) (by rw [kc_1]; decide +kernel) (by decide) ?_
      refine lv_aload_n hx hb dX11_count_77 rfl (lv_at hl 1 rfl) ?_
      refine z_get hx hb ht hown hK hP ziX11 rfl 0 (by decide) 1 (by decide) hw_5_188 rfl (v := .ref (q 1)) rfl dX11_count_78 ?_
      refine lv_iconst (v := nI 3) hx hb dX11_count_81 (by decide +kernel) ?_
      refine z_iald hx hb hK hP 1 (by decide) 0 rfl rfl (vp_in_nI (by omega) (by decide)) dX11_count_82 ?_
      refine z_eqi (y := nI 0) rfl ?_
      exact z_iret (v := nI 0) hx hb hr hlocks hP hD hS dX11_count_83 (Or.inl ⟨by omega, by omega, rfl⟩)
    · refine lv_tableIn (off := 81) (tgt := 84) hx hb dX11_count_3 (by omega) (by omega) (by rw [kc_1]; decide +kernel) (by decide) ?_
      refine lv_aload_n hx hb dX11_count_84 rfl (lv_at hl 1 rfl) ?_
      refine z_get hx hb ht hown hK hP ziX11 rfl 0 (by decide) 1 (by decide) hw_5_188 rfl (v := .ref (q 1)) rfl dX11_count_85 ?_
      refine lv_iconst (v := nI 4) hx hb dX11_count_88 (by decide +kernel) ?_
      refine z_iald hx hb hK hP 1 (by decide) 0 rfl rfl (vp_in_nI (by omega) (by decide)) dX11_count_89 ?_
      refine z_eqi (y := nI 0) rfl ?_
      exact z_iret (v := nI 0) hx hb hr hlocks hP hD hS dX11_count_90 (Or.inl ⟨by omega, by omega, rfl⟩)
    · refine lv_tableIn (off := 88) (tgt := 91) hx hb dX11_count_3 (by omega) (by omega) (by rw [kc_1]; decide +kernel) (by decide) ?_
      refine lv_aload_n hx hb dX11_count_91 rfl (lv_at hl 1 rfl) ?_
      refine z_callVv (k := 0) (As := []) (rest := []) hx hb hml hown ht (kX11_asItIs l D q cA) hw_6_181 hmX11_asItIs ⟨rfl, rfl⟩ (na := 0) rfl (by decide +kernel) (by decide) (by decide) rfl rfl hK hP hD hS hA hl.1 rfl (Nat.le_of_ble_eq_true rfl) ⟨Nat.zero_le _, Nat.zero_le _⟩ dX11_count_92 (fun I_2 R_2 J_2 H locs hp_2 hP hD hS _ _ => ?_)
      obtain ⟨ha_2, hb_2⟩ := hp_2
      refine lv_aload_n hx hb dX11_count_95 rfl (lv_at hl 1 rfl) ?_
      refine z_get hx hb ht hown hK hP ziX11 rfl 0 (by decide) 26 (by decide) hw_5_213 rfl (v := .int (I_2 0 26)) rfl dX11_count_96 ?_
      refine z_eqi (y := nI 0) ha_2 ?_
      exact z_iret (v := nI 0) hx hb hr hlocks hP hD hS dX11_count_99 (Or.inl ⟨by omega, by omega, rfl⟩)
    · refine lv_tableIn (off := 97) (tgt := 100) hx hb dX11_count_3 (by omega) (by omega) (by rw [kc_1]; decide +kernel) (by decide) ?_
      refine lv_aload_n hx hb dX11_count_100 rfl (lv_at hl 1 rfl) ?_
      refine z_get hx hb ht hown hK hP ziX11 rfl 0 (by decide) 1 (by decide) hw_5_188 rfl (v := .ref (q 1)) rfl dX11_count_101 ?_
      refine lv_bipush (v := nI 6) hx hb dX11_count_104 (by decide +kernel) ?_
      refine z_iald hx hb hK hP 1 (by decide) 0 rfl rfl (vp_in_nI (by omega) (by decide)) dX11_count_106 ?_
      refine z_eqi (y := nI 0) rfl ?_
      exact z_iret (v := nI 0) hx hb hr hlocks hP hD hS dX11_count_107 (Or.inl ⟨by omega, by omega, rfl⟩)
    · refine lv_tableIn (off := 105) (tgt := 108) hx hb dX11_count_3 (by omega) (by omega) (by rw [kc_1]; decide +kernel) (by decide) ?_
      refine lv_aload_n hx hb dX11_count_108 rfl (lv_at hl 1 rfl) ?_
      refine z_get hx hb ht hown hK hP ziX11 rfl 0 (by decide) 1 (by decide) hw_5_188 rfl (v := .ref (q 1)) rfl dX11_count_109 ?_
      refine lv_iconst (v := nI 5) hx hb dX11_count_112 (by decide +kernel) ?_
      refine z_iald hx hb hK hP 1 (by decide) 0 rfl rfl (vp_in_nI (by omega) (by decide)) dX11_count_113 ?_
      refine z_eqi (y := nI 0) rfl ?_
      exact z_iret (v := nI 0) hx hb hr hlocks hP hD hS dX11_count_114 (Or.inl ⟨by omega, by omega, rfl⟩)
    · refine lv_tableIn (off := 112) (tgt := 115) hx hb dX11_count_3 (by omega) (by omega) (by rw [kc_1]; decide +kernel) (by decide) ?_
      refine lv_aload_n hx hb dX11_count_115 rfl (lv_at hl 1 rfl) ?_
      refine z_get hx hb ht hown hK hP ziX11 rfl 0 (by decide) 5 (by decide) hw_5_192 rfl (v := .int (nI 0)) rfl dX11_count_116 ?_
      exact z_iret (v := nI 0) hx hb hr hlocks hP hD hS dX11_count_119 (Or.inl ⟨by omega, by omega, rfl⟩)
    · refine lv_tableIn (off := 117) (tgt := 120) hx hb dX11_count_3 (by omega) (by omega) (by rw [kc_1]; decide +kernel) (by decide) ?_
      refine lv_iconst (v := nI 0) hx hb dX11_count_120 (by decide +kernel) ?_
      refine lv_istore_n (lv' := [(3, .int (nI 0)), (2, .int (nI 0)), (0, .ref (q 0)), (1, .int (x))]) hx hb dX11_count_121 rfl hl (by decide) rfl (fun ls hl => ?_)
      refine lv_iload_n hx hb dX11_count_122 rfl (lv_at hl 0 rfl) ?_
      refine lv_iconst (v := nI 4) hx hb dX11_count_123 (by decide +kernel) ?_
      refine lv_icmp_ge (tgt := 151) hx hb dX11_count_124 (by decide) (fun c_0 => absurd c_0 (by decide +kernel)) (fun _ => ?_)
      refine lv_iload_n hx hb dX11_count_127 rfl (lv_at hl 1 rfl) ?_
      refine lv_aload_n hx hb dX11_count_128 rfl (lv_at hl 2 rfl) ?_
      refine z_get hx hb ht hown hK hP ziX11 rfl 0 (by decide) 40 (by decide) hw_5_227 rfl (v := .ref (q 21)) rfl dX11_count_129 ?_
      refine lv_iload_n hx hb dX11_count_132 rfl (lv_at hl 0 rfl) ?_
      refine z_iald hx hb hK hP 21 (by decide) 20 rfl rfl (vp_in_nI (by omega) (by decide)) dX11_count_133 ?_
      refine z_eqi (y := (-1)) rfl ?_
      refine lv_iconst (v := (-1)) hx hb dX11_count_134 (by decide +kernel) ?_
      refine lv_icmp_ne (tgt := 142) hx hb dX11_count_135 (by decide) (fun c_0 => absurd (by decide +kernel) c_0) (fun _ => ?_)
      refine lv_iconst (v := nI 0) hx hb dX11_count_138 (by decide +kernel) ?_
      refine lv_goto (tgt := 143) hx hb dX11_count_139 (by decide) ?_
      refine lv_iadd hx hb dX11_count_143 ?_
      refine z_eqi (y := nI 0) (by decide +kernel) ?_
      refine lv_istore_n (lv' := [(2, .int (nI 0)), (3, .int (nI 0)), (0, .ref (q 0)), (1, .int (x))]) hx hb dX11_count_144 rfl hl (by decide) rfl (fun ls hl => ?_)
      refine lv_iinc (v := nI 1) (lv' := [(3, .int (nI 1)), (2, .int (nI 0)), (0, .ref (q 0)), (1, .int (x))]) hx hb dX11_count_145 hl (k := 1) rfl (by decide +kernel) (by decide) rfl (fun ls hl => ?_)
      refine lv_goto (tgt := 122) hx hb dX11_count_148 (by decide) ?_
      refine lv_iload_n hx hb dX11_count_122 rfl (lv_at hl 0 rfl) ?_
      refine lv_iconst (v := nI 4) hx hb dX11_count_123 (by decide +kernel) ?_
      refine lv_icmp_ge (tgt := 151) hx hb dX11_count_124 (by decide) (fun c_0 => absurd c_0 (by decide +kernel)) (fun _ => ?_)
      refine lv_iload_n hx hb dX11_count_127 rfl (lv_at hl 1 rfl) ?_
      refine lv_aload_n hx hb dX11_count_128 rfl (lv_at hl 2 rfl) ?_
      refine z_get hx hb ht hown hK hP ziX11 rfl 0 (by decide) 40 (by decide) hw_5_227 rfl (v := .ref (q 21)) rfl dX11_count_129 ?_
      refine lv_iload_n hx hb dX11_count_132 rfl (lv_at hl 0 rfl) ?_
      refine z_iald hx hb hK hP 21 (by decide) 20 rfl rfl (vp_in_nI (by omega) (by decide)) dX11_count_133 ?_
      refine z_eqi (y := (-1)) rfl ?_
      refine lv_iconst (v := (-1)) hx hb dX11_count_134 (by decide +kernel) ?_
      refine lv_icmp_ne (tgt := 142) hx hb dX11_count_135 (by decide) (fun c_0 => absurd (by decide +kernel) c_0) (fun _ => ?_)
      refine lv_iconst (v := nI 0) hx hb dX11_count_138 (by decide +kernel) ?_
      refine lv_goto (tgt := 143) hx hb dX11_count_139 (by decide) ?_
      refine lv_iadd hx hb dX11_count_143 ?_
      refine z_eqi (y := nI 0) (by decide +kernel) ?_
      refine lv_istore_n (lv' := [(2, .int (nI 0)), (3, .int (nI 1)), (0, .ref (q 0)), (1, .int (x))]) hx hb dX11_count_144 rfl hl (by decide) rfl (fun ls hl => ?_)
      refine lv_iinc (v := nI 2) (lv' := [(3, .int (nI 2)), (2, .int (nI 0)), (0, .ref (q 0)), (1, .int (x))]) hx hb dX11_count_145 hl (k := 1) rfl (by decide +kernel) (by decide) rfl (fun ls hl => ?_)
      refine lv_goto (tgt := 122) hx hb dX11_count_148 (by decide) ?_
      refine lv_iload_n hx hb dX11_count_122 rfl (lv_at hl 0 rfl) ?_
      refine lv_iconst (v := nI 4) hx hb dX11_count_123 (by decide +kernel) ?_
      refine lv_icmp_ge (tgt := 151) hx hb dX11_count_124 (by decide) (fun c_0 => absurd c_0 (by decide +kernel)) (fun _ => ?_)
      refine lv_iload_n hx hb dX11_count_127 rfl (lv_at hl 1 rfl) ?_
      refine lv_aload_n hx hb dX11_count_128 rfl (lv_at hl 2 rfl) ?_
      refine z_get hx hb ht hown hK hP ziX11 rfl 0 (by decide) 40 (by decide) hw_5_227 rfl (v := .ref (q 21)) rfl dX11_count_129 ?_
      refine lv_iload_n hx hb dX11_count_132 rfl (lv_at hl 0 rfl) ?_
      refine z_iald hx hb hK hP 21 (by decide) 20 rfl rfl (vp_in_nI (by omega) (by decide)) dX11_count_133 ?_
      refine z_eqi (y := (-1)) rfl ?_
      refine lv_iconst (v := (-1)) hx hb dX11_count_134 (by decide +kernel) ?_
      refine lv_icmp_ne (tgt := 142) hx hb dX11_count_135 (by decide) (fun c_0 => absurd (by decide +kernel) c_0) (fun _ => ?_)
      refine lv_iconst (v := nI 0) hx hb dX11_count_138 (by decide +kernel) ?_
      refine lv_goto (tgt := 143) hx hb dX11_count_139 (by decide) ?_
      refine lv_iadd hx hb dX11_count_143 ?_
      refine z_eqi (y := nI 0) (by decide +kernel) ?_
      refine lv_istore_n (lv' := [(2, .int (nI 0)), (3, .int (nI 2)), (0, .ref (q 0)), (1, .int (x))]) hx hb dX11_count_144 rfl hl (by decide) rfl (fun ls hl => ?_)
      refine lv_iinc (v := nI 3) (lv' := [(3, .int (nI 3)), (2, .int (nI 0)), (0, .ref (q 0)), (1, .int (x))]) hx hb dX11_count_145 hl (k := 1) rfl (by decide +kernel) (by decide) rfl (fun ls hl => ?_)
      refine lv_goto (tgt := 122) hx hb dX11_count_148 (by decide) ?_
      refine lv_iload_n hx hb dX11_count_122 rfl (lv_at hl 0 rfl) ?_
      refine lv_iconst (v := nI 4) hx hb dX11_count_123 (by decide +kernel) ?_
      refine lv_icmp_ge (tgt := 151) hx hb dX11_count_124 (by decide) (fun c_0 => absurd c_0 (by decide +kernel)) (fun _ => ?_)
      refine lv_iload_n hx hb dX11_count_127 rfl (lv_at hl 1 rfl) ?_
      refine lv_aload_n hx hb dX11_count_128 rfl (lv_at hl 2 rfl) ?_
      refine z_get hx hb ht hown hK hP ziX11 rfl 0 (by decide) 40 (by decide) hw_5_227 rfl (v := .ref (q 21)) rfl dX11_count_129 ?_
      refine lv_iload_n hx hb dX11_count_132 rfl (lv_at hl 0 rfl) ?_
      refine z_iald hx hb hK hP 21 (by decide) 20 rfl rfl (vp_in_nI (by omega) (by decide)) dX11_count_133 ?_
      refine z_eqi (y := (-1)) rfl ?_
      refine lv_iconst (v := (-1)) hx hb dX11_count_134 (by decide +kernel) ?_
      refine lv_icmp_ne (tgt := 142) hx hb dX11_count_135 (by decide) (fun c_0 => absurd (by decide +kernel) c_0) (fun _ => ?_)
      refine lv_iconst (v := nI 0) hx hb dX11_count_138 (by decide +kernel) ?_
      refine lv_goto (tgt := 143) hx hb dX11_count_139 (by decide) ?_
      refine lv_iadd hx hb dX11_count_143 ?_
      refine z_eqi (y := nI 0) (by decide +kernel) ?_
      refine lv_istore_n (lv' := [(2, .int (nI 0)), (3, .int (nI 3)), (0, .ref (q 0)), (1, .int (x))]) hx hb dX11_count_144 rfl hl (by decide) rfl (fun ls hl => ?_)
      refine lv_iinc (v := nI 4) (lv' := [(3, .int (nI 4)), (2, .int (nI 0)), (0, .ref (q 0)), (1, .int (x))]) hx hb dX11_count_145 hl (k := 1) rfl (by decide +kernel) (by decide) rfl (fun ls hl => ?_)
      refine lv_goto (tgt := 122) hx hb dX11_count_148 (by decide) ?_
      refine lv_iload_n hx hb dX11_count_122 rfl (lv_at hl 0 rfl) ?_
      refine lv_iconst (v := nI 4) hx hb dX11_count_123 (by decide +kernel) ?_
      refine lv_icmp_ge (tgt := 151) hx hb dX11_count_124 (by decide) (fun _ => ?_) (fun c_0 => absurd (by decide +kernel) c_0)
      refine lv_iload_n hx hb dX11_count_151 rfl (lv_at hl 1 rfl) ?_
      exact z_iret (v := nI 0) hx hb hr hlocks hP hD hS dX11_count_152 (Or.inl ⟨by omega, by omega, rfl⟩)
set_option maxHeartbeats 4000000 in
set_option maxRecDepth 100000 in
theorem kX11_back (l : Launch) (D : va_G) (q : Nat → Nat) (cA : Nat → ClassId)  (x : Int32)  : zMi l D vwCl (zMtys cA) 25 q (zMd q cA) yX11_back cX11_back 3 (some .int) ({ frames := 1, cells := 0, slots := 0, locals := 25 } : Room) [.ref (q 0), .int (x)] (zMI0, zMR0, zMJ0) (fun r _ => (0 ≤ x.toInt ∧ x.toInt ≤ 2 ∧ r = (-6)) ∨ ((x.toInt < 0 ∨ 2 < x.toInt) ∧ r = (-2))) := by
  intro sz
  refine z_body (by decide +kernel) (Nat.le_of_ble_eq_true rfl) (fun p e s m below meth c ls hx hb hml hr ht hown hlocks hsz hK hP hD hS hl => ?_)
  have hA : ∀ a, s.heap.size ≤ a → zA 25 q sz a := fun a h => Or.inr (hsz ▸ h)
  have hl : lv_has ls 3 [(0, .ref (q 0)), (1, .int (x))] := hl
  refine lv_iload_n hx hb dX11_back_0 rfl (lv_at hl 1 rfl) ?_
  refine lv_i2l (v := (x).toInt64) hx hb dX11_back_1 rfl ?_
  refine lv_lconst (v := (0 : Int64)) hx hb dX11_back_2 (by decide +kernel) ?_
  refine lv_ldc2 (v := (2 : Int64)) hx hb hown (ht _ hw_6_85) dX11_back_3 ?_
  refine z_callSi (As := [.long ((x).toInt64), .long ((0 : Int64)), .long ((2 : Int64))]) (rest := []) hx hb hml hown ht (kX11_in l D q cA _ _ _ (x).toInt 0 2 ((x).toInt64) ((0 : Int64)) ((2 : Int64)) (z_i2l _) (by decide +kernel) (by decide +kernel)) hw_6_86 hmX11_in ⟨rfl, rfl⟩ (na := 3) rfl (by decide +kernel) (by decide) hK hP hD hS hA hl.1 rfl (Nat.le_of_ble_eq_true rfl) ⟨Nat.zero_le _, Nat.zero_le _⟩ dX11_back_6 (fun r_1 I_1 R_1 J_1 H locs hp_1 hP hD hS _ _ => ?_)
  rcases hp_1 with ⟨rfl, hu_1, h1_1, h2_1⟩ | ⟨rfl, hu_1, h1_1⟩
  · cases hu_1
    refine lv_if_ne (tgt := 15) hx hb dX11_back_9 (by decide) (fun _ => ?_) (fun c_0 => absurd c_0 (by decide +kernel))
    refine lv_aload_n hx hb dX11_back_15 rfl (lv_at hl 0 rfl) ?_
    refine z_get hx hb ht hown hK hP ziX11 rfl 0 (by decide) 3 (by decide) hw_5_190 rfl (v := .ref (q 3)) rfl dX11_back_16 ?_
    refine lv_iload_n hx hb dX11_back_19 rfl (lv_at hl 1 rfl) ?_
    refine z_zald hx hb hK hP 3 (by decide) 2 rfl rfl (z_vin (by omega) (by omega)) dX11_back_20 ?_
    refine z_eqi (y := nI 0) rfl ?_
    refine lv_if_ne (tgt := 27) hx hb dX11_back_21 (by decide) (fun c_0 => absurd (by decide +kernel) c_0) (fun _ => ?_)
    refine lv_bipush (v := (-6)) hx hb dX11_back_24 (by decide +kernel) ?_
    exact z_iret (v := (-6)) hx hb hr hlocks hP hD hS dX11_back_26 (Or.inl ⟨by omega, by omega, rfl⟩)
  · cases hu_1
    refine lv_if_ne (tgt := 15) hx hb dX11_back_9 (by decide) (fun c_0 => absurd (by decide +kernel) c_0) (fun _ => ?_)
    refine lv_bipush (v := (-2)) hx hb dX11_back_12 (by decide +kernel) ?_
    exact z_iret (v := (-2)) hx hb hr hlocks hP hD hS dX11_back_14 (Or.inr ⟨by omega, rfl⟩)
set_option maxHeartbeats 4000000 in
set_option maxRecDepth 100000 in
theorem kX11_write (l : Launch) (D : va_G) (q : Nat → Nat) (cA : Nat → ClassId)  (x : Int32) (i : Int32) (v : Int64)  : zMi l D vwCl (zMtys cA) 25 q (zMd q cA) yX11_write cX11_write 5 (some .int) ({ frames := 2, cells := 0, slots := 0, locals := 45 } : Room) [.ref (q 0), .int (x), .int (i), .long (v)] (zMI0, zMR0, zMJ0) (fun r _ => (0 ≤ x.toInt ∧ x.toInt ≤ 3 ∧ r = (-6)) ∨ ((x.toInt < 0 ∨ 3 < x.toInt) ∧ r = (-2))) := by
  intro sz
  refine z_body (by decide +kernel) (Nat.le_of_ble_eq_true rfl) (fun p e s m below meth c ls hx hb hml hr ht hown hlocks hsz hK hP hD hS hl => ?_)
  have hA : ∀ a, s.heap.size ≤ a → zA 25 q sz a := fun a h => Or.inr (hsz ▸ h)
  have hl : lv_has ls 5 [(0, .ref (q 0)), (1, .int (x)), (2, .int (i)), (3, .long (v))] := hl
  refine lv_iload_n hx hb dX11_write_0 rfl (lv_at hl 1 rfl) ?_
  refine z_callSi (As := [.int (x)]) (rest := []) hx hb hml hown ht (kX11_isSlot l D q cA _ _ _ (x)) hw_8_76 hmX11_isSlot ⟨rfl, rfl⟩ (na := 1) rfl (by decide +kernel) (by decide) hK hP hD hS hA hl.1 rfl (Nat.le_of_ble_eq_true rfl) ⟨Nat.zero_le _, Nat.zero_le _⟩ dX11_write_1 (fun r_1 I_1 R_1 J_1 H locs hp_1 hP hD hS _ _ => ?_)
  rcases hp_1 with ⟨rfl, hu_1, h1_1, h2_1⟩ | ⟨rfl, hu_1, h1_1⟩
  · cases hu_1
    refine lv_if_ne (tgt := 10) hx hb dX11_write_4 (by decide) (fun _ => ?_) (fun c_0 => absurd c_0 (by decide +kernel))
    refine lv_aload_n hx hb dX11_write_10 rfl (lv_at hl 0 rfl) ?_
    refine z_get hx hb ht hown hK hP ziX11 rfl 0 (by decide) 40 (by decide) hw_5_227 rfl (v := .ref (q 21)) rfl dX11_write_11 ?_
    refine lv_iload_n hx hb dX11_write_14 rfl (lv_at hl 1 rfl) ?_
    refine z_iald hx hb hK hP 21 (by decide) 20 rfl rfl (z_vin (by omega) (by omega)) dX11_write_15 ?_
    refine z_eqi (y := (-1)) (z_many (by omega) (by omega)) ?_
    refine lv_iconst (v := (-1)) hx hb dX11_write_16 (by decide +kernel) ?_
    refine lv_icmp_ne (tgt := 23) hx hb dX11_write_17 (by decide) (fun c_0 => absurd (by decide +kernel) c_0) (fun _ => ?_)
    refine lv_bipush (v := (-6)) hx hb dX11_write_20 (by decide +kernel) ?_
    exact z_iret (v := (-6)) hx hb hr hlocks hP hD hS dX11_write_22 (Or.inl ⟨by omega, by omega, rfl⟩)
  · cases hu_1
    refine lv_if_ne (tgt := 10) hx hb dX11_write_4 (by decide) (fun c_0 => absurd (by decide +kernel) c_0) (fun _ => ?_)
    refine lv_bipush (v := (-2)) hx hb dX11_write_7 (by decide +kernel) ?_
    exact z_iret (v := (-2)) hx hb hr hlocks hP hD hS dX11_write_9 (Or.inr ⟨by omega, rfl⟩)
set_option maxHeartbeats 4000000 in
set_option maxRecDepth 100000 in
theorem kX11_paste (l : Launch) (D : va_G) (q : Nat → Nat) (cA : Nat → ClassId)  (x : Int32) (i : Int32) (t : Int32) (k : Int32) (n : Int32)  : zMi l D vwCl (zMtys cA) 25 q (zMd q cA) yX11_paste cX11_paste 7 (some .int) ({ frames := 2, cells := 0, slots := 0, locals := 45 } : Room) [.ref (q 0), .int (x), .int (i), .int (t), .int (k), .int (n)] (zMI0, zMR0, zMJ0) (fun r _ => (0 ≤ x.toInt ∧ x.toInt ≤ 3 ∧ 0 ≤ t.toInt ∧ t.toInt ≤ 3 ∧ r = (-6)) ∨ ((x.toInt < 0 ∨ 3 < x.toInt ∨ t.toInt < 0 ∨ 3 < t.toInt) ∧ r = (-2))) := by
  intro sz
  refine z_body (by decide +kernel) (Nat.le_of_ble_eq_true rfl) (fun p e s m below meth c ls hx hb hml hr ht hown hlocks hsz hK hP hD hS hl => ?_)
  have hA : ∀ a, s.heap.size ≤ a → zA 25 q sz a := fun a h => Or.inr (hsz ▸ h)
  have hl : lv_has ls 7 [(0, .ref (q 0)), (1, .int (x)), (2, .int (i)), (3, .int (t)), (4, .int (k)), (5, .int (n))] := hl
  refine lv_iload_n hx hb dX11_paste_0 rfl (lv_at hl 1 rfl) ?_
  refine z_callSi (As := [.int (x)]) (rest := []) hx hb hml hown ht (kX11_isSlot l D q cA _ _ _ (x)) hw_8_76 hmX11_isSlot ⟨rfl, rfl⟩ (na := 1) rfl (by decide +kernel) (by decide) hK hP hD hS hA hl.1 rfl (Nat.le_of_ble_eq_true rfl) ⟨Nat.zero_le _, Nat.zero_le _⟩ dX11_paste_1 (fun r_1 I_1 R_1 J_1 H locs hp_1 hP hD hS _ _ => ?_)
  rcases hp_1 with ⟨rfl, hu_1, h1_1, h2_1⟩ | ⟨rfl, hu_1, h1_1⟩
  · cases hu_1
    refine lv_if_eq (tgt := 14) hx hb dX11_paste_4 (by decide) (fun c_0 => absurd c_0 (by decide +kernel)) (fun _ => ?_)
    refine lv_iload_n hx hb dX11_paste_7 rfl (lv_at hl 3 rfl) ?_
    refine z_callSi (As := [.int (t)]) (rest := []) hx hb hml hown ht (kX11_isSlot l D q cA _ _ _ (t)) hw_8_76 hmX11_isSlot ⟨rfl, rfl⟩ (na := 1) rfl (by decide +kernel) (by decide) hK hP hD hS hA hl.1 rfl (Nat.le_of_ble_eq_true rfl) ⟨Nat.zero_le _, Nat.zero_le _⟩ dX11_paste_8 (fun r_2 I_2 R_2 J_2 H locs hp_2 hP hD hS _ _ => ?_)
    rcases hp_2 with ⟨rfl, hu_2, h1_2, h2_2⟩ | ⟨rfl, hu_2, h1_2⟩
    · cases hu_2
      refine lv_if_ne (tgt := 17) hx hb dX11_paste_11 (by decide) (fun _ => ?_) (fun c_0 => absurd c_0 (by decide +kernel))
      refine lv_aload_n hx hb dX11_paste_17 rfl (lv_at hl 0 rfl) ?_
      refine z_get hx hb ht hown hK hP ziX11 rfl 0 (by decide) 40 (by decide) hw_5_227 rfl (v := .ref (q 21)) rfl dX11_paste_18 ?_
      refine lv_iload_n hx hb dX11_paste_21 rfl (lv_at hl 1 rfl) ?_
      refine z_iald hx hb hK hP 21 (by decide) 20 rfl rfl (z_vin (by omega) (by omega)) dX11_paste_22 ?_
      refine z_eqi (y := (-1)) (z_many (by omega) (by omega)) ?_
      refine lv_iconst (v := (-1)) hx hb dX11_paste_23 (by decide +kernel) ?_
      refine lv_icmp_eq (tgt := 37) hx hb dX11_paste_24 (by decide) (fun _ => ?_) (fun c_0 => absurd (by decide +kernel) c_0)
      refine lv_bipush (v := (-6)) hx hb dX11_paste_37 (by decide +kernel) ?_
      exact z_iret (v := (-6)) hx hb hr hlocks hP hD hS dX11_paste_39 (Or.inl ⟨by omega, by omega, by omega, by omega, rfl⟩)
    · cases hu_2
      refine lv_if_ne (tgt := 17) hx hb dX11_paste_11 (by decide) (fun c_0 => absurd (by decide +kernel) c_0) (fun _ => ?_)
      refine lv_bipush (v := (-2)) hx hb dX11_paste_14 (by decide +kernel) ?_
      exact z_iret (v := (-2)) hx hb hr hlocks hP hD hS dX11_paste_16 (Or.inr ⟨by omega, rfl⟩)
  · cases hu_1
    refine lv_if_eq (tgt := 14) hx hb dX11_paste_4 (by decide) (fun _ => ?_) (fun c_0 => absurd (by decide +kernel) c_0)
    refine lv_bipush (v := (-2)) hx hb dX11_paste_14 (by decide +kernel) ?_
    exact z_iret (v := (-2)) hx hb hr hlocks hP hD hS dX11_paste_16 (Or.inr ⟨by omega, rfl⟩)
set_option maxHeartbeats 4000000 in
set_option maxRecDepth 100000 in
theorem kX11_image (l : Launch) (D : va_G) (q : Nat → Nat) (cA : Nat → ClassId)  (x : Int32)  : zMi l D vwCl (zMtys cA) 25 q (zMd q cA) yX11_image cX11_image 3 (some .int) ({ frames := 1, cells := 0, slots := 0, locals := 25 } : Room) [.ref (q 0), .int (x)] (zMI0, zMR0, zMJ0) (fun r _ => (0 ≤ x.toInt ∧ x.toInt ≤ 2 ∧ r = nI 0) ∨ ((x.toInt < 0 ∨ 2 < x.toInt) ∧ r = (-2))) := by
  intro sz
  refine z_body (by decide +kernel) (Nat.le_of_ble_eq_true rfl) (fun p e s m below meth c ls hx hb hml hr ht hown hlocks hsz hK hP hD hS hl => ?_)
  have hA : ∀ a, s.heap.size ≤ a → zA 25 q sz a := fun a h => Or.inr (hsz ▸ h)
  have hl : lv_has ls 3 [(0, .ref (q 0)), (1, .int (x))] := hl
  refine lv_iload_n hx hb dX11_image_0 rfl (lv_at hl 1 rfl) ?_
  refine lv_i2l (v := (x).toInt64) hx hb dX11_image_1 rfl ?_
  refine lv_lconst (v := (0 : Int64)) hx hb dX11_image_2 (by decide +kernel) ?_
  refine lv_ldc2 (v := (2 : Int64)) hx hb hown (ht _ hw_6_85) dX11_image_3 ?_
  refine z_callSi (As := [.long ((x).toInt64), .long ((0 : Int64)), .long ((2 : Int64))]) (rest := []) hx hb hml hown ht (kX11_in l D q cA _ _ _ (x).toInt 0 2 ((x).toInt64) ((0 : Int64)) ((2 : Int64)) (z_i2l _) (by decide +kernel) (by decide +kernel)) hw_6_86 hmX11_in ⟨rfl, rfl⟩ (na := 3) rfl (by decide +kernel) (by decide) hK hP hD hS hA hl.1 rfl (Nat.le_of_ble_eq_true rfl) ⟨Nat.zero_le _, Nat.zero_le _⟩ dX11_image_6 (fun r_1 I_1 R_1 J_1 H locs hp_1 hP hD hS _ _ => ?_)
  rcases hp_1 with ⟨rfl, hu_1, h1_1, h2_1⟩ | ⟨rfl, hu_1, h1_1⟩
  · cases hu_1
    refine lv_if_ne (tgt := 15) hx hb dX11_image_9 (by decide) (fun _ => ?_) (fun c_0 => absurd c_0 (by decide +kernel))
    obtain ⟨n_2, hn_2, rfl⟩ := z_ex (x := x) (N := 3) (by omega) (by omega)
    refine lv_iconst (v := nI 0) hx hb dX11_image_15 (by decide +kernel) ?_
    refine lv_istore_n (lv' := [(2, .int (nI 0)), (0, .ref (q 0)), (1, .int (nI n_2))]) hx hb dX11_image_16 rfl hl (by decide) rfl (fun ls hl => ?_)
    have loop_k_3 : ∀ (N k_3 : Nat) (gk_3_2 : Nat → Int32), k_3 ≤ 119 → 119 < k_3 + N → ∀ (H : Heap) (locs : List Loc), va_P D vwCl (zw 25 q (zMd q cA) zMI0 (zr zMR0 2 gk_3_2) zMJ0) H → va_D (zA 25 q sz) (zw 25 q (zMd q cA) zMI0 (zr zMR0 2 gk_3_2) zMJ0) → va_S (zA 25 q sz) s.heap H locs → ∀ ls : Array Slot, lv_has ls 3 [(0, .ref (q 0)), (1, .int (nI n_2)), (2, .int (nI k_3))] → W p l e ({ frames := 1, cells := 0, slots := 0, locals := 25 } : Room) s m ([.ref (q 0), .int ((nI n_2))] : List Value).toArray below meth c H locs 0 0 (MQ below (va_Qi (fun r _ => (0 ≤ (nI n_2).toInt ∧ (nI n_2).toInt ≤ 2 ∧ r = nI 0) ∨ (((nI n_2).toInt < 0 ∨ 2 < (nI n_2).toInt) ∧ r = (-2))) (zB D vwCl 25 q (zMd q cA) sz) (zA 25 q sz)) ([.ref (q 0), .int ((nI n_2))] : List Value).toArray s 0 0 (zA 25 q sz)) (F0 m 17 ls []) := by
      intro N
      induction N with
      | zero => intro k_3 gk_3_2 h1 h2; exact absurd h2 (by omega)
      | succ N ih =>
        intro k_3 gk_3_2 h1k_3 h2k_3  H locs hP hD hS ls hl
        rcases Nat.lt_or_ge k_3 119 with hkk_3 | hkk_3
        · refine lv_iload_n hx hb dX11_image_17 rfl (lv_at hl 2 rfl) ?_
          refine lv_bipush (v := nI 119) hx hb dX11_image_18 (by decide +kernel) ?_
          refine lv_icmp_ge (tgt := 46) hx hb dX11_image_20 (by decide) (fun c_0 => absurd c_0 (nI_ge (by omega) (by omega))) (fun _ => ?_)
          refine lv_aload_n hx hb dX11_image_23 rfl (lv_at hl 0 rfl) ?_
          refine z_get hx hb ht hown hK hP ziX11 rfl 0 (by decide) 2 (by decide) hw_5_189 rfl (v := .ref (q 2)) rfl dX11_image_24 ?_
          refine lv_bipush (v := nI 119) hx hb dX11_image_27 (by decide +kernel) ?_
          refine lv_iload_n hx hb dX11_image_29 rfl (lv_at hl 1 rfl) ?_
          refine lv_imul hx hb dX11_image_30 ?_
          refine z_eqi (y := nI (119 * n_2)) (pk_mul 119 n_2) ?_
          refine lv_iload_n hx hb dX11_image_31 rfl (lv_at hl 2 rfl) ?_
          refine lv_iadd hx hb dX11_image_32 ?_
          refine z_eqi (y := nI ((119 * n_2) + k_3)) (nI_add (119 * n_2) k_3) ?_
          refine lv_aload_n hx hb dX11_image_33 rfl (lv_at hl 0 rfl) ?_
          refine z_get hx hb ht hown hK hP ziX11 rfl 0 (by decide) 1 (by decide) hw_5_188 rfl (v := .ref (q 1)) rfl dX11_image_34 ?_
          refine lv_iload_n hx hb dX11_image_37 rfl (lv_at hl 2 rfl) ?_
          refine z_iald hx hb hK hP 1 (by decide) 0 rfl rfl (vp_in_nI (by omega) (by decide)) dX11_image_38 ?_
          refine z_eqi (y := nI 0) rfl ?_
          refine z_iast hx hb hK hP hD hS 2 (by decide) 1 (fun _ => rfl) rfl (vp_in_nI (by omega) (by decide)) dX11_image_39 (fun H locs hP hD hS => ?_)
          refine lv_iinc (v := nI (k_3 + 1)) (lv' := [(2, .int (nI (k_3 + 1))), (0, .ref (q 0)), (1, .int (nI n_2))]) hx hb dX11_image_40 hl (k := 2) rfl (nI_add k_3 1) (by decide) rfl (fun ls hl => ?_)
          refine lv_goto (tgt := 17) hx hb dX11_image_43 (by decide) ?_
          rw [zp_zr] at hP hD
          exact ih ((k_3 + 1)) _ (by omega) (by omega)  _ _ hP hD hS _ (lv_sub hl [1, 2, 0] rfl)
        · refine lv_iload_n hx hb dX11_image_17 rfl (lv_at hl 2 rfl) ?_
          refine lv_bipush (v := nI 119) hx hb dX11_image_18 (by decide +kernel) ?_
          refine lv_icmp_ge (tgt := 46) hx hb dX11_image_20 (by decide) (fun _ => ?_) (fun c_0 => absurd (nI_le (by omega) (by omega)) c_0)
          refine lv_aload_n hx hb dX11_image_46 rfl (lv_at hl 0 rfl) ?_
          refine z_get hx hb ht hown hK hP ziX11 rfl 0 (by decide) 3 (by decide) hw_5_190 rfl (v := .ref (q 3)) rfl dX11_image_47 ?_
          refine lv_iload_n hx hb dX11_image_50 rfl (lv_at hl 1 rfl) ?_
          refine lv_iconst (v := nI 1) hx hb dX11_image_51 (by decide +kernel) ?_
          refine z_zast hx hb hK hP hD hS 3 (by decide) 2 (fun _ => rfl) rfl (vp_in_nI (by omega) (by decide)) dX11_image_52 (fun H locs hP hD hS => ?_)
          refine lv_iconst (v := nI 0) hx hb dX11_image_53 (by decide +kernel) ?_
          exact z_iret (v := nI 0) hx hb hr hlocks hP hD hS dX11_image_54 (Or.inl ⟨by omega, by omega, rfl⟩)
    exact loop_k_3 120 0 (zMR0 2) (by omega) (by omega)  _ _ (by simp only [zr_self]; exact hP) (by simp only [zr_self]; exact hD) hS _ (lv_sub hl [1, 2, 0] rfl)
  · cases hu_1
    refine lv_if_ne (tgt := 15) hx hb dX11_image_9 (by decide) (fun c_0 => absurd (by decide +kernel) c_0) (fun _ => ?_)
    refine lv_bipush (v := (-2)) hx hb dX11_image_12 (by decide +kernel) ?_
    exact z_iret (v := (-2)) hx hb hr hlocks hP hD hS dX11_image_14 (Or.inr ⟨by omega, rfl⟩)
set_option maxHeartbeats 4000000 in
set_option maxRecDepth 100000 in
theorem kX11_row (l : Launch) (D : va_G) (q : Nat → Nat) (cA : Nat → ClassId)  (x : Int32) (w : Int32) (n : Int32)  : zMi l D vwCl (zMtys cA) 25 q (zMd q cA) yX11_row cX11_row 5 (some .int) ({ frames := 2, cells := 0, slots := 0, locals := 45 } : Room) [.ref (q 0), .int (x), .int (w), .int (n)] (zMI0, zMR0, zMJ0) (fun r _ => ((x.toInt < 0 ∨ 3 < x.toInt ∨ w.toInt < 0 ∨ 3 < w.toInt ∨ 60 < n.toInt) ∧ r = (-2)) ∨ (¬ (x.toInt < 0 ∨ 3 < x.toInt ∨ w.toInt < 0 ∨ 3 < w.toInt ∨ 60 < n.toInt) ∧ n.toInt < 0 ∧ r = (-3)) ∨ (¬ (x.toInt < 0 ∨ 3 < x.toInt ∨ w.toInt < 0 ∨ 3 < w.toInt ∨ 60 < n.toInt) ∧ 0 ≤ n.toInt ∧ r = nI 0)) := by
  intro sz
  refine z_body (by decide +kernel) (Nat.le_of_ble_eq_true rfl) (fun p e s m below meth c ls hx hb hml hr ht hown hlocks hsz hK hP hD hS hl => ?_)
  have hA : ∀ a, s.heap.size ≤ a → zA 25 q sz a := fun a h => Or.inr (hsz ▸ h)
  have hl : lv_has ls 5 [(0, .ref (q 0)), (1, .int (x)), (2, .int (w)), (3, .int (n))] := hl
  refine lv_iload_n hx hb dX11_row_0 rfl (lv_at hl 1 rfl) ?_
  refine z_callSi (As := [.int (x)]) (rest := []) hx hb hml hown ht (kX11_isSlot l D q cA _ _ _ (x)) hw_8_76 hmX11_isSlot ⟨rfl, rfl⟩ (na := 1) rfl (by decide +kernel) (by decide) hK hP hD hS hA hl.1 rfl (Nat.le_of_ble_eq_true rfl) ⟨Nat.zero_le _, Nat.zero_le _⟩ dX11_row_1 (fun r_1 I_1 R_1 J_1 H locs hp_1 hP hD hS _ _ => ?_)
  rcases hp_1 with ⟨rfl, hu_1, h1_1, h2_1⟩ | ⟨rfl, hu_1, h1_1⟩
  · cases hu_1
    refine lv_if_eq (tgt := 25) hx hb dX11_row_4 (by decide) (fun c_0 => absurd c_0 (by decide +kernel)) (fun _ => ?_)
    refine lv_iload_n hx hb dX11_row_7 rfl (lv_at hl 2 rfl) ?_
    refine lv_i2l (v := (w).toInt64) hx hb dX11_row_8 rfl ?_
    refine lv_lconst (v := (0 : Int64)) hx hb dX11_row_9 (by decide +kernel) ?_
    refine lv_ldc2 (v := (3 : Int64)) hx hb hown (ht _ hw_7_91) dX11_row_10 ?_
    refine z_callSi (As := [.long ((w).toInt64), .long ((0 : Int64)), .long ((3 : Int64))]) (rest := []) hx hb hml hown ht (kX11_in l D q cA _ _ _ (w).toInt 0 3 ((w).toInt64) ((0 : Int64)) ((3 : Int64)) (z_i2l _) (by decide +kernel) (by decide +kernel)) hw_6_86 hmX11_in ⟨rfl, rfl⟩ (na := 3) rfl (by decide +kernel) (by decide) hK hP hD hS hA hl.1 rfl (Nat.le_of_ble_eq_true rfl) ⟨Nat.zero_le _, Nat.zero_le _⟩ dX11_row_13 (fun r_2 I_2 R_2 J_2 H locs hp_2 hP hD hS _ _ => ?_)
    rcases hp_2 with ⟨rfl, hu_2, h1_2, h2_2⟩ | ⟨rfl, hu_2, h1_2⟩
    · cases hu_2
      refine lv_if_eq (tgt := 25) hx hb dX11_row_16 (by decide) (fun c_0 => absurd c_0 (by decide +kernel)) (fun _ => ?_)
      refine lv_iload_n hx hb dX11_row_19 rfl (lv_at hl 3 rfl) ?_
      refine lv_bipush (v := nI 60) hx hb dX11_row_20 (by decide +kernel) ?_
      refine lv_icmp_le (tgt := 28) hx hb dX11_row_22 (by decide) (fun c_3 => ?_) (fun c_3 => ?_)
      · have kc_3_1 : (nI 60 : Int32).toInt = 60 := by decide +kernel
        have t_c_3 := z_leT c_3
        refine lv_iload_n hx hb dX11_row_28 rfl (lv_at hl 3 rfl) ?_
        refine lv_if_ge (tgt := 35) hx hb dX11_row_29 (by decide) (fun c_4 => ?_) (fun c_4 => ?_)
        · have kc_4_1 : (nI 0 : Int32).toInt = 0 := by decide +kernel
          have kc_4_2 : (0 : Int32).toInt = 0 := by decide +kernel
          have t_c_4 := z_leT c_4
          obtain ⟨n_5, hn_5, rfl⟩ := z_ex (x := x) (N := 4) (by omega) (by omega)
          refine lv_aload_n hx hb dX11_row_35 rfl (lv_at hl 0 rfl) ?_
          refine z_get hx hb ht hown hK hP ziX11 rfl 0 (by decide) 40 (by decide) hw_5_227 rfl (v := .ref (q 21)) rfl dX11_row_36 ?_
          refine lv_iload_n hx hb dX11_row_39 rfl (lv_at hl 1 rfl) ?_
          refine lv_iload_n hx hb dX11_row_40 rfl (lv_at hl 3 rfl) ?_
          refine z_iast hx hb hK hP hD hS 21 (by decide) 20 (fun _ => rfl) rfl (vp_in_nI (by omega) (by decide)) dX11_row_41 (fun H locs hP hD hS => ?_)
          refine lv_aload_n hx hb dX11_row_42 rfl (lv_at hl 0 rfl) ?_
          refine z_get hx hb ht hown hK hP ziX11 rfl 0 (by decide) 41 (by decide) hw_5_228 rfl (v := .ref (q 22)) rfl dX11_row_43 ?_
          refine lv_iload_n hx hb dX11_row_46 rfl (lv_at hl 1 rfl) ?_
          refine lv_iload_n hx hb dX11_row_47 rfl (lv_at hl 2 rfl) ?_
          refine z_iast hx hb hK hP hD hS 22 (by decide) 21 (fun _ => rfl) rfl (vp_in_nI (by omega) (by decide)) dX11_row_48 (fun H locs hP hD hS => ?_)
          refine lv_iconst (v := nI 0) hx hb dX11_row_49 (by decide +kernel) ?_
          refine lv_istore (lv' := [(4, .int (nI 0)), (0, .ref (q 0)), (1, .int (nI n_5)), (2, .int (w)), (3, .int (n))]) hx hb dX11_row_50 hl (by decide) rfl (fun ls hl => ?_)
          have loop_k_6 : ∀ (N k_6 : Nat) (jk_6_23 : Nat → Int64), k_6 ≤ 60 → 60 < k_6 + N → ∀ (H : Heap) (locs : List Loc), va_P D vwCl (zw 25 q (zMd q cA) zMI0 (zp (zp zMR0 21 (nI n_5).toNatClampNeg (n)) 22 (nI n_5).toNatClampNeg (w)) (zr zMJ0 23 jk_6_23)) H → va_D (zA 25 q sz) (zw 25 q (zMd q cA) zMI0 (zp (zp zMR0 21 (nI n_5).toNatClampNeg (n)) 22 (nI n_5).toNatClampNeg (w)) (zr zMJ0 23 jk_6_23)) → va_S (zA 25 q sz) s.heap H locs → ∀ ls : Array Slot, lv_has ls 5 [(0, .ref (q 0)), (1, .int (nI n_5)), (2, .int (w)), (3, .int (n)), (4, .int (nI k_6))] → W p l e ({ frames := 2, cells := 0, slots := 0, locals := 45 } : Room) s m ([.ref (q 0), .int ((nI n_5)), .int (w), .int (n)] : List Value).toArray below meth c H locs 0 0 (MQ below (va_Qi (fun r _ => (((nI n_5).toInt < 0 ∨ 3 < (nI n_5).toInt ∨ w.toInt < 0 ∨ 3 < w.toInt ∨ 60 < n.toInt) ∧ r = (-2)) ∨ (¬ ((nI n_5).toInt < 0 ∨ 3 < (nI n_5).toInt ∨ w.toInt < 0 ∨ 3 < w.toInt ∨ 60 < n.toInt) ∧ n.toInt < 0 ∧ r = (-3)) ∨ (¬ ((nI n_5).toInt < 0 ∨ 3 < (nI n_5).toInt ∨ w.toInt < 0 ∨ 3 < w.toInt ∨ 60 < n.toInt) ∧ 0 ≤ n.toInt ∧ r = nI 0)) (zB D vwCl 25 q (zMd q cA) sz) (zA 25 q sz)) ([.ref (q 0), .int ((nI n_5)), .int (w), .int (n)] : List Value).toArray s 0 0 (zA 25 q sz)) (F0 m 52 ls []) := by
            intro N
            induction N with
            | zero => intro k_6 jk_6_23 h1 h2; exact absurd h2 (by omega)
            | succ N ih =>
              intro k_6 jk_6_23 h1k_6 h2k_6  H locs hP hD hS ls hl
              rcases Nat.lt_or_ge k_6 60 with hkk_6 | hkk_6
              · refine lv_iload hx hb dX11_row_52 (lv_at hl 4 rfl) ?_
                refine lv_bipush (v := nI 60) hx hb dX11_row_54 (by decide +kernel) ?_
                refine lv_icmp_ge (tgt := 78) hx hb dX11_row_56 (by decide) (fun c_0 => absurd c_0 (nI_ge (by omega) (by omega))) (fun _ => ?_)
                refine lv_aload_n hx hb dX11_row_59 rfl (lv_at hl 0 rfl) ?_
                refine z_get hx hb ht hown hK hP ziX11 rfl 0 (by decide) 42 (by decide) hw_5_229 rfl (v := .ref (q 23)) rfl dX11_row_60 ?_
                refine lv_bipush (v := nI 60) hx hb dX11_row_63 (by decide +kernel) ?_
                refine lv_iload_n hx hb dX11_row_65 rfl (lv_at hl 1 rfl) ?_
                refine lv_imul hx hb dX11_row_66 ?_
                refine z_eqi (y := nI (60 * n_5)) (pk_mul 60 n_5) ?_
                refine lv_iload hx hb dX11_row_67 (lv_at hl 4 rfl) ?_
                refine lv_iadd hx hb dX11_row_69 ?_
                refine z_eqi (y := nI ((60 * n_5) + k_6)) (nI_add (60 * n_5) k_6) ?_
                refine lv_lconst (v := (0 : Int64)) hx hb dX11_row_70 (by decide +kernel) ?_
                refine z_last hx hb hK hP hD hS 23 (by decide) 22 (fun _ => rfl) rfl (vp_in_nI (by omega) (by decide)) dX11_row_71 (fun H locs hP hD hS => ?_)
                refine lv_iinc (v := nI (k_6 + 1)) (lv' := [(4, .int (nI (k_6 + 1))), (0, .ref (q 0)), (1, .int (nI n_5)), (2, .int (w)), (3, .int (n))]) hx hb dX11_row_72 hl (k := 4) rfl (nI_add k_6 1) (by decide) rfl (fun ls hl => ?_)
                refine lv_goto (tgt := 52) hx hb dX11_row_75 (by decide) ?_
                rw [zp_zr] at hP hD
                exact ih ((k_6 + 1)) _ (by omega) (by omega)  _ _ hP hD hS _ (lv_sub hl [1, 2, 3, 4, 0] rfl)
              · refine lv_iload hx hb dX11_row_52 (lv_at hl 4 rfl) ?_
                refine lv_bipush (v := nI 60) hx hb dX11_row_54 (by decide +kernel) ?_
                refine lv_icmp_ge (tgt := 78) hx hb dX11_row_56 (by decide) (fun _ => ?_) (fun c_0 => absurd (nI_le (by omega) (by omega)) c_0)
                refine lv_iconst (v := nI 0) hx hb dX11_row_78 (by decide +kernel) ?_
                exact z_iret (v := nI 0) hx hb hr hlocks hP hD hS dX11_row_79 (Or.inr (Or.inr ⟨by omega, by omega, rfl⟩))
          exact loop_k_6 61 0 (zMJ0 23) (by omega) (by omega)  _ _ (by simp only [zr_self]; exact hP) (by simp only [zr_self]; exact hD) hS _ (lv_sub hl [1, 2, 3, 4, 0] rfl)
        · have kc_4_1 : (nI 0 : Int32).toInt = 0 := by decide +kernel
          have kc_4_2 : (0 : Int32).toInt = 0 := by decide +kernel
          have t_c_4 := z_leF c_4
          refine lv_bipush (v := (-3)) hx hb dX11_row_32 (by decide +kernel) ?_
          exact z_iret (v := (-3)) hx hb hr hlocks hP hD hS dX11_row_34 (Or.inr (Or.inl ⟨by omega, by omega, rfl⟩))
      · have kc_3_1 : (nI 60 : Int32).toInt = 60 := by decide +kernel
        have t_c_3 := z_leF c_3
        refine lv_bipush (v := (-2)) hx hb dX11_row_25 (by decide +kernel) ?_
        exact z_iret (v := (-2)) hx hb hr hlocks hP hD hS dX11_row_27 (Or.inl ⟨by omega, rfl⟩)
    · cases hu_2
      refine lv_if_eq (tgt := 25) hx hb dX11_row_16 (by decide) (fun _ => ?_) (fun c_0 => absurd (by decide +kernel) c_0)
      refine lv_bipush (v := (-2)) hx hb dX11_row_25 (by decide +kernel) ?_
      exact z_iret (v := (-2)) hx hb hr hlocks hP hD hS dX11_row_27 (Or.inl ⟨by omega, rfl⟩)
  · cases hu_1
    refine lv_if_eq (tgt := 25) hx hb dX11_row_4 (by decide) (fun _ => ?_) (fun c_0 => absurd (by decide +kernel) c_0)
    refine lv_bipush (v := (-2)) hx hb dX11_row_25 (by decide +kernel) ?_
    exact z_iret (v := (-2)) hx hb hr hlocks hP hD hS dX11_row_27 (Or.inl ⟨by omega, rfl⟩)
set_option maxHeartbeats 4000000 in
set_option maxRecDepth 100000 in
theorem kX11_feed (l : Launch) (D : va_G) (q : Nat → Nat) (cA : Nat → ClassId)  (a : Int32) (b : Int32) (c_ : Int32) (d_ : Int32) (e_ : Int32)  : zMi l D vwCl (zMtys cA) 25 q (zMd q cA) yX11_feed cX11_feed 7 (some .int) ({ frames := 0, cells := 0, slots := 0, locals := 0 } : Room) [.ref (q 0), .int (a), .int (b), .int (c_), .int (d_), .int (e_)] (zMI0, zMR0, zMJ0) (fun r _ => r = nI 20) := by
  intro sz
  refine z_body (by decide +kernel) (Nat.le_of_ble_eq_true rfl) (fun p e s m below meth c ls hx hb hml hr ht hown hlocks hsz hK hP hD hS hl => ?_)
  have hA : ∀ a, s.heap.size ≤ a → zA 25 q sz a := fun a h => Or.inr (hsz ▸ h)
  have hl : lv_has ls 7 [(0, .ref (q 0)), (1, .int (a)), (2, .int (b)), (3, .int (c_)), (4, .int (d_)), (5, .int (e_))] := hl
  refine lv_aload_n hx hb dX11_feed_0 rfl (lv_at hl 0 rfl) ?_
  refine z_get hx hb ht hown hK hP ziX11 rfl 0 (by decide) 5 (by decide) hw_5_192 rfl (v := .int (nI 0)) rfl dX11_feed_1 ?_
  refine lv_bipush (v := nI 20) hx hb dX11_feed_4 (by decide +kernel) ?_
  refine lv_iadd hx hb dX11_feed_6 ?_
  refine z_eqi (y := nI 20) (by decide +kernel) ?_
  refine lv_sipush (v := nI 800) hx hb dX11_feed_7 (by decide +kernel) ?_
  refine lv_icmp_le (tgt := 15) hx hb dX11_feed_10 (by decide) (fun _ => ?_) (fun c_0 => absurd (by decide +kernel) c_0)
  refine lv_aload_n hx hb dX11_feed_15 rfl (lv_at hl 0 rfl) ?_
  refine z_get hx hb ht hown hK hP ziX11 rfl 0 (by decide) 6 (by decide) hw_5_193 rfl (v := .ref (q 5)) rfl dX11_feed_16 ?_
  refine lv_iconst (v := nI 0) hx hb dX11_feed_19 (by decide +kernel) ?_
  refine lv_iload_n hx hb dX11_feed_20 rfl (lv_at hl 1 rfl) ?_
  refine z_iast hx hb hK hP hD hS 5 (by decide) 4 (fun _ => rfl) rfl (vp_in_nI (by omega) (by decide)) dX11_feed_21 (fun H locs hP hD hS => ?_)
  refine lv_aload_n hx hb dX11_feed_22 rfl (lv_at hl 0 rfl) ?_
  refine z_get hx hb ht hown hK hP ziX11 rfl 0 (by decide) 6 (by decide) hw_5_193 rfl (v := .ref (q 5)) rfl dX11_feed_23 ?_
  refine lv_iconst (v := nI 1) hx hb dX11_feed_26 (by decide +kernel) ?_
  refine lv_iload_n hx hb dX11_feed_27 rfl (lv_at hl 2 rfl) ?_
  refine z_iast hx hb hK hP hD hS 5 (by decide) 4 (fun _ => rfl) rfl (vp_in_nI (by omega) (by decide)) dX11_feed_28 (fun H locs hP hD hS => ?_)
  refine lv_aload_n hx hb dX11_feed_29 rfl (lv_at hl 0 rfl) ?_
  refine z_get hx hb ht hown hK hP ziX11 rfl 0 (by decide) 6 (by decide) hw_5_193 rfl (v := .ref (q 5)) rfl dX11_feed_30 ?_
  refine lv_iconst (v := nI 2) hx hb dX11_feed_33 (by decide +kernel) ?_
  refine lv_iload_n hx hb dX11_feed_34 rfl (lv_at hl 3 rfl) ?_
  refine z_iast hx hb hK hP hD hS 5 (by decide) 4 (fun _ => rfl) rfl (vp_in_nI (by omega) (by decide)) dX11_feed_35 (fun H locs hP hD hS => ?_)
  refine lv_aload_n hx hb dX11_feed_36 rfl (lv_at hl 0 rfl) ?_
  refine z_get hx hb ht hown hK hP ziX11 rfl 0 (by decide) 6 (by decide) hw_5_193 rfl (v := .ref (q 5)) rfl dX11_feed_37 ?_
  refine lv_iconst (v := nI 3) hx hb dX11_feed_40 (by decide +kernel) ?_
  refine lv_iload hx hb dX11_feed_41 (lv_at hl 4 rfl) ?_
  refine z_iast hx hb hK hP hD hS 5 (by decide) 4 (fun _ => rfl) rfl (vp_in_nI (by omega) (by decide)) dX11_feed_43 (fun H locs hP hD hS => ?_)
  refine lv_aload_n hx hb dX11_feed_44 rfl (lv_at hl 0 rfl) ?_
  refine z_get hx hb ht hown hK hP ziX11 rfl 0 (by decide) 6 (by decide) hw_5_193 rfl (v := .ref (q 5)) rfl dX11_feed_45 ?_
  refine lv_iconst (v := nI 4) hx hb dX11_feed_48 (by decide +kernel) ?_
  refine lv_iload hx hb dX11_feed_49 (lv_at hl 5 rfl) ?_
  refine z_iast hx hb hK hP hD hS 5 (by decide) 4 (fun _ => rfl) rfl (vp_in_nI (by omega) (by decide)) dX11_feed_51 (fun H locs hP hD hS => ?_)
  refine lv_iconst (v := nI 0) hx hb dX11_feed_52 (by decide +kernel) ?_
  refine lv_istore (lv' := [(6, .int (nI 0)), (0, .ref (q 0)), (1, .int (a)), (2, .int (b)), (3, .int (c_)), (4, .int (d_)), (5, .int (e_))]) hx hb dX11_feed_53 hl (by decide) rfl (fun ls hl => ?_)
  have loop_k_1 : ∀ (N k_1 : Nat) (gk_1_4 : Nat → Int32), k_1 ≤ 20 → 20 < k_1 + N → ∀ (H : Heap) (locs : List Loc), va_P D vwCl (zw 25 q (zMd q cA) zMI0 (zr (zp (zp (zp (zp (zp zMR0 5 (nI 0).toNatClampNeg (a)) 5 (nI 1).toNatClampNeg (b)) 5 (nI 2).toNatClampNeg (c_)) 5 (nI 3).toNatClampNeg (d_)) 5 (nI 4).toNatClampNeg (e_)) 4 gk_1_4) zMJ0) H → va_D (zA 25 q sz) (zw 25 q (zMd q cA) zMI0 (zr (zp (zp (zp (zp (zp zMR0 5 (nI 0).toNatClampNeg (a)) 5 (nI 1).toNatClampNeg (b)) 5 (nI 2).toNatClampNeg (c_)) 5 (nI 3).toNatClampNeg (d_)) 5 (nI 4).toNatClampNeg (e_)) 4 gk_1_4) zMJ0) → va_S (zA 25 q sz) s.heap H locs → ∀ ls : Array Slot, lv_has ls 7 [(0, .ref (q 0)), (1, .int (a)), (2, .int (b)), (3, .int (c_)), (4, .int (d_)), (5, .int (e_)), (6, .int (nI k_1))] → W p l e ({ frames := 0, cells := 0, slots := 0, locals := 0 } : Room) s m ([.ref (q 0), .int (a), .int (b), .int (c_), .int (d_), .int (e_)] : List Value).toArray below meth c H locs 0 0 (MQ below (va_Qi (fun r _ => r = nI 20) (zB D vwCl 25 q (zMd q cA) sz) (zA 25 q sz)) ([.ref (q 0), .int (a), .int (b), .int (c_), .int (d_), .int (e_)] : List Value).toArray s 0 0 (zA 25 q sz)) (F0 m 55 ls []) := by
    intro N
    induction N with
    | zero => intro k_1 gk_1_4 h1 h2; exact absurd h2 (by omega)
    | succ N ih =>
      intro k_1 gk_1_4 h1k_1 h2k_1  H locs hP hD hS ls hl
      rcases Nat.lt_or_ge k_1 20 with hkk_1 | hkk_1
      · refine lv_iload hx hb dX11_feed_55 (lv_at hl 6 rfl) ?_
        refine lv_bipush (v := nI 20) hx hb dX11_feed_57 (by decide +kernel) ?_
        refine lv_icmp_ge (tgt := 101) hx hb dX11_feed_59 (by decide) (fun c_0 => absurd c_0 (nI_ge (by omega) (by omega))) (fun _ => ?_)
        refine lv_aload_n hx hb dX11_feed_62 rfl (lv_at hl 0 rfl) ?_
        refine z_get hx hb ht hown hK hP ziX11 rfl 0 (by decide) 4 (by decide) hw_5_191 rfl (v := .ref (q 4)) rfl dX11_feed_63 ?_
        refine lv_aload_n hx hb dX11_feed_66 rfl (lv_at hl 0 rfl) ?_
        refine z_get hx hb ht hown hK hP ziX11 rfl 0 (by decide) 5 (by decide) hw_5_192 rfl (v := .int (nI 0)) rfl dX11_feed_67 ?_
        refine lv_iload hx hb dX11_feed_70 (lv_at hl 6 rfl) ?_
        refine lv_iadd hx hb dX11_feed_72 ?_
        refine z_eqi (y := nI (0 + k_1)) (nI_add 0 k_1) ?_
        refine lv_aload_n hx hb dX11_feed_73 rfl (lv_at hl 0 rfl) ?_
        refine z_get hx hb ht hown hK hP ziX11 rfl 0 (by decide) 6 (by decide) hw_5_193 rfl (v := .ref (q 5)) rfl dX11_feed_74 ?_
        refine lv_iload hx hb dX11_feed_77 (lv_at hl 6 rfl) ?_
        refine lv_iconst (v := nI 4) hx hb dX11_feed_79 (by decide +kernel) ?_
        refine lv_idiv hx hb dX11_feed_80 (by decide +kernel) ?_
        refine z_eqi (y := nI (k_1 / 4)) (pk_div (by omega) (by decide) (by decide)) ?_
        refine z_iald hx hb hK hP 5 (by decide) 4 rfl rfl (vp_in_nI (by omega) (by decide)) dX11_feed_81 ?_
        refine lv_topi (fun x_2 ex_2 => ?_)
        refine lv_bipush (v := nI 24) hx hb dX11_feed_82 (by decide +kernel) ?_
        refine lv_bipush (v := nI 8) hx hb dX11_feed_84 (by decide +kernel) ?_
        refine lv_iload hx hb dX11_feed_86 (lv_at hl 6 rfl) ?_
        refine lv_iconst (v := nI 4) hx hb dX11_feed_88 (by decide +kernel) ?_
        refine lv_irem hx hb dX11_feed_89 (by decide +kernel) ?_
        refine z_eqi (y := nI (k_1 % 4)) (pk_rem (by omega) (by decide) (by decide)) ?_
        refine lv_imul hx hb dX11_feed_90 ?_
        refine z_eqi (y := nI (8 * (k_1 % 4))) (pk_mul 8 (k_1 % 4)) ?_
        refine lv_isub hx hb dX11_feed_91 ?_
        refine lv_ishr hx hb dX11_feed_92 ?_
        refine lv_i2b (v := ((x_2) >>> (((nI 24) - (nI (8 * (k_1 % 4)))) &&& 31)).toInt8.toInt32) hx hb dX11_feed_93 rfl ?_
        refine z_bast hx hb hK hP hD hS 4 (by decide) 3 (fun _ => rfl) rfl (vp_in_nI (by omega) (by decide)) dX11_feed_94 (fun H locs hP hD hS => ?_)
        refine lv_iinc (v := nI (k_1 + 1)) (lv' := [(6, .int (nI (k_1 + 1))), (0, .ref (q 0)), (1, .int (a)), (2, .int (b)), (3, .int (c_)), (4, .int (d_)), (5, .int (e_))]) hx hb dX11_feed_95 hl (k := 6) rfl (nI_add k_1 1) (by decide) rfl (fun ls hl => ?_)
        refine lv_goto (tgt := 55) hx hb dX11_feed_98 (by decide) ?_
        rw [zp_zr] at hP hD
        exact ih ((k_1 + 1)) _ (by omega) (by omega)  _ _ hP hD hS _ (lv_sub hl [1, 2, 3, 4, 5, 6, 0] rfl)
      · refine lv_iload hx hb dX11_feed_55 (lv_at hl 6 rfl) ?_
        refine lv_bipush (v := nI 20) hx hb dX11_feed_57 (by decide +kernel) ?_
        refine lv_icmp_ge (tgt := 101) hx hb dX11_feed_59 (by decide) (fun _ => ?_) (fun c_0 => absurd (nI_le (by omega) (by omega)) c_0)
        refine lv_aload_n hx hb dX11_feed_101 rfl (lv_at hl 0 rfl) ?_
        refine lv_dup hx hb dX11_feed_102 rfl ?_
        refine z_get hx hb ht hown hK hP ziX11 rfl 0 (by decide) 5 (by decide) hw_5_192 rfl (v := .int (nI 0)) rfl dX11_feed_103 ?_
        refine lv_bipush (v := nI 20) hx hb dX11_feed_106 (by decide +kernel) ?_
        refine lv_iadd hx hb dX11_feed_108 ?_
        refine z_eqi (y := nI 20) (by decide +kernel) ?_
        refine z_putI hx hb ht hown hK hP hD hS ziX11 tyX11 tyX11_ok nmX11 rfl 0 (by decide) 5 (by decide) hw_5_192 rfl (v := nI 20) rfl rfl rfl (Nat.le_of_ble_eq_true rfl) rfl dX11_feed_109 (fun H locs hP hD hS => ?_)
        refine lv_aload_n hx hb dX11_feed_112 rfl (lv_at hl 0 rfl) ?_
        refine z_get hx hb ht hown hK hP ziX11 rfl 0 (by decide) 5 (by decide) hw_5_192 rfl (v := .int (nI 20)) rfl dX11_feed_113 ?_
        exact z_iret (v := nI 20) hx hb hr hlocks hP hD hS dX11_feed_116 rfl
  exact loop_k_1 21 0 ((zp (zp (zp (zp (zp zMR0 5 (nI 0).toNatClampNeg (a)) 5 (nI 1).toNatClampNeg (b)) 5 (nI 2).toNatClampNeg (c_)) 5 (nI 3).toNatClampNeg (d_)) 5 (nI 4).toNatClampNeg (e_)) 4) (by omega) (by omega)  _ _ (by simp only [zr_self]; exact hP) (by simp only [zr_self]; exact hD) hS _ (lv_sub hl [1, 2, 3, 4, 5, 6, 0] rfl)
set_option maxHeartbeats 4000000 in
set_option maxRecDepth 100000 in
theorem kX11_good (l : Launch) (D : va_G) (q : Nat → Nat) (cA : Nat → ClassId) (I R : Nat → Nat → Int32) (J : Nat → Nat → Int64)  (hf : I 0 12 = nI 0) : zMi l D vwCl (zMtys cA) 25 q (zMd q cA) yX11_good cX11_good 1 (some .boolean) ({ frames := 0, cells := 0, slots := 0, locals := 0 } : Room) [.ref (q 0)] (I, R, J) (fun r u => r = nI 1 ∧ u = (I, R, J)) := by
  intro sz
  refine z_body (by decide +kernel) (Nat.le_of_ble_eq_true rfl) (fun p e s m below meth c ls hx hb hml hr ht hown hlocks hsz hK hP hD hS hl => ?_)
  have hA : ∀ a, s.heap.size ≤ a → zA 25 q sz a := fun a h => Or.inr (hsz ▸ h)
  have hl : lv_has ls 1 [(0, .ref (q 0))] := hl
  refine lv_aload_n hx hb dX11_good_0 rfl (lv_at hl 0 rfl) ?_
  refine z_get hx hb ht hown hK hP ziX11 rfl 0 (by decide) 12 (by decide) hw_5_199 rfl (v := .int (I 0 12)) rfl dX11_good_1 ?_
  refine z_eqi (y := nI 0) hf ?_
  refine lv_if_ne (tgt := 11) hx hb dX11_good_4 (by decide) (fun c_0 => absurd (by decide +kernel) c_0) (fun _ => ?_)
  refine lv_iconst (v := nI 1) hx hb dX11_good_7 (by decide +kernel) ?_
  refine lv_goto (tgt := 12) hx hb dX11_good_8 (by decide) ?_
  exact z_zret (v := nI 1) hx hb hr hlocks hP hD hS (by decide +kernel) dX11_good_12 ⟨rfl, rfl⟩
set_option maxHeartbeats 4000000 in
set_option maxRecDepth 100000 in
theorem kX11_see (l : Launch) (D : va_G) (q : Nat → Nat) (cA : Nat → ClassId) (I R : Nat → Nat → Int32) (J : Nat → Nat → Int64)  (hs : I 0 7 = nI 0) : zMi l D vwCl (zMtys cA) 25 q (zMd q cA) yX11_see cX11_see 2 (some .int) ({ frames := 0, cells := 0, slots := 0, locals := 0 } : Room) [.ref (q 0), .int (nI 0)] (I, R, J) (fun r u => r = (-1) ∧ u = (I, R, J)) := by
  intro sz
  refine z_body (by decide +kernel) (Nat.le_of_ble_eq_true rfl) (fun p e s m below meth c ls hx hb hml hr ht hown hlocks hsz hK hP hD hS hl => ?_)
  have hA : ∀ a, s.heap.size ≤ a → zA 25 q sz a := fun a h => Or.inr (hsz ▸ h)
  have hl : lv_has ls 2 [(0, .ref (q 0)), (1, .int (nI 0))] := hl
  refine lv_iload_n hx hb dX11_see_0 rfl (lv_at hl 1 rfl) ?_
  refine lv_aload_n hx hb dX11_see_1 rfl (lv_at hl 0 rfl) ?_
  refine z_get hx hb ht hown hK hP ziX11 rfl 0 (by decide) 7 (by decide) hw_5_194 rfl (v := .int (I 0 7)) rfl dX11_see_2 ?_
  refine z_eqi (y := nI 0) hs ?_
  refine lv_icmp_ge (tgt := 21) hx hb dX11_see_5 (by decide) (fun _ => ?_) (fun c_0 => absurd (by decide +kernel) c_0)
  refine lv_iconst (v := (-1)) hx hb dX11_see_21 (by decide +kernel) ?_
  exact z_iret (v := (-1)) hx hb hr hlocks hP hD hS dX11_see_22 ⟨rfl, rfl⟩
set_option maxHeartbeats 4000000 in
set_option maxRecDepth 100000 in
theorem kX11_advance (l : Launch) (D : va_G) (q : Nat → Nat) (cA : Nat → ClassId) (I R : Nat → Nat → Int32) (J : Nat → Nat → Int64)  (hs : I 0 7 = nI 0) (ha : I 0 8 = nI 0) : zMv l D vwCl (zMtys cA) 25 q (zMd q cA) yX11_advance cX11_advance 2 none ({ frames := 1, cells := 0, slots := 0, locals := 21 } : Room) [.ref (q 0)] (I, R, J) (fun u => u.1 0 10 = nI 0 ∧ u.1 0 12 = I 0 12 ∧ u.2 = (R, J)) := by
  intro sz
  refine z_body (by decide +kernel) (Nat.le_of_ble_eq_true rfl) (fun p e s m below meth c ls hx hb hml hr ht hown hlocks hsz hK hP hD hS hl => ?_)
  have hA : ∀ a, s.heap.size ≤ a → zA 25 q sz a := fun a h => Or.inr (hsz ▸ h)
  have hl : lv_has ls 2 [(0, .ref (q 0))] := hl
  refine lv_aload_n hx hb dX11_advance_0 rfl (lv_at hl 0 rfl) ?_
  refine lv_aload_n hx hb dX11_advance_1 rfl (lv_at hl 0 rfl) ?_
  refine z_get hx hb ht hown hK hP ziX11 rfl 0 (by decide) 8 (by decide) hw_5_195 rfl (v := .int (I 0 8)) rfl dX11_advance_2 ?_
  refine z_eqi (y := nI 0) ha ?_
  refine z_callVi (k := 0) (As := [.int (nI 0)]) (rest := []) hx hb hml hown ht (kX11_see l D q cA I _ _ hs) hw_6_113 hmX11_see ⟨rfl, rfl⟩ (na := 1) rfl (by decide +kernel) (by decide) (by decide) rfl rfl hK hP hD hS hA hl.1 rfl (Nat.le_of_ble_eq_true rfl) ⟨Nat.zero_le _, Nat.zero_le _⟩ dX11_advance_5 (fun r_1 I_1 R_1 J_1 H locs hp_1 hP hD hS _ _ => ?_)
  obtain ⟨rfl, hu_1⟩ := hp_1
  cases hu_1
  refine lv_bipush (v := nI 32) hx hb dX11_advance_8 (by decide +kernel) ?_
  refine lv_icmp_eq (tgt := 26) hx hb dX11_advance_10 (by decide) (fun c_0 => absurd c_0 (by decide +kernel)) (fun _ => ?_)
  refine lv_aload_n hx hb dX11_advance_13 rfl (lv_at hl 0 rfl) ?_
  refine lv_aload_n hx hb dX11_advance_14 rfl (lv_at hl 0 rfl) ?_
  refine z_get hx hb ht hown hK hP ziX11 rfl 0 (by decide) 8 (by decide) hw_5_195 rfl (v := .int (I 0 8)) rfl dX11_advance_15 ?_
  refine z_eqi (y := nI 0) ha ?_
  refine z_callVi (k := 0) (As := [.int (nI 0)]) (rest := []) hx hb hml hown ht (kX11_see l D q cA I _ _ hs) hw_6_113 hmX11_see ⟨rfl, rfl⟩ (na := 1) rfl (by decide +kernel) (by decide) (by decide) rfl rfl hK hP hD hS hA hl.1 rfl (Nat.le_of_ble_eq_true rfl) ⟨Nat.zero_le _, Nat.zero_le _⟩ dX11_advance_18 (fun r_2 I_2 R_2 J_2 H locs hp_2 hP hD hS _ _ => ?_)
  obtain ⟨rfl, hu_2⟩ := hp_2
  cases hu_2
  refine lv_bipush (v := nI 10) hx hb dX11_advance_21 (by decide +kernel) ?_
  refine lv_icmp_ne (tgt := 39) hx hb dX11_advance_23 (by decide) (fun _ => ?_) (fun c_0 => absurd c_0 (by decide +kernel))
  refine lv_aload_n hx hb dX11_advance_39 rfl (lv_at hl 0 rfl) ?_
  refine lv_aload_n hx hb dX11_advance_40 rfl (lv_at hl 0 rfl) ?_
  refine z_get hx hb ht hown hK hP ziX11 rfl 0 (by decide) 8 (by decide) hw_5_195 rfl (v := .int (I 0 8)) rfl dX11_advance_41 ?_
  refine z_eqi (y := nI 0) ha ?_
  refine z_putI hx hb ht hown hK hP hD hS ziX11 tyX11 tyX11_ok nmX11 rfl 0 (by decide) 9 (by decide) hw_5_196 rfl (v := nI 0) rfl rfl rfl (Nat.le_of_ble_eq_true rfl) rfl dX11_advance_44 (fun H locs hP hD hS => ?_)
  refine lv_aload_n hx hb dX11_advance_47 rfl (lv_at hl 0 rfl) ?_
  refine lv_aload_n hx hb dX11_advance_48 rfl (lv_at hl 0 rfl) ?_
  refine z_get hx hb ht hown hK hP ziX11 rfl 0 (by decide) 8 (by decide) hw_5_195 rfl (v := .int (I 0 8)) rfl dX11_advance_49 ?_
  refine z_eqi (y := nI 0) ha ?_
  refine z_callVi (k := 0) (As := [.int (nI 0)]) (rest := []) hx hb hml hown ht (kX11_see l D q cA (zp I 0 9 (nI 0)) _ _ hs) hw_6_113 hmX11_see ⟨rfl, rfl⟩ (na := 1) rfl (by decide +kernel) (by decide) (by decide) rfl rfl hK hP hD hS hA hl.1 rfl (Nat.le_of_ble_eq_true rfl) ⟨Nat.zero_le _, Nat.zero_le _⟩ dX11_advance_52 (fun r_3 I_3 R_3 J_3 H locs hp_3 hP hD hS _ _ => ?_)
  obtain ⟨rfl, hu_3⟩ := hp_3
  cases hu_3
  refine lv_istore_n (lv' := [(1, .int ((-1))), (0, .ref (q 0))]) hx hb dX11_advance_55 rfl hl (by decide) rfl (fun ls hl => ?_)
  refine lv_iload_n hx hb dX11_advance_56 rfl (lv_at hl 0 rfl) ?_
  refine lv_iconst (v := (-1)) hx hb dX11_advance_57 (by decide +kernel) ?_
  refine lv_icmp_ne (tgt := 69) hx hb dX11_advance_58 (by decide) (fun c_0 => absurd (by decide +kernel) c_0) (fun _ => ?_)
  refine lv_aload_n hx hb dX11_advance_61 rfl (lv_at hl 1 rfl) ?_
  refine lv_iconst (v := nI 0) hx hb dX11_advance_62 (by decide +kernel) ?_
  refine z_putI hx hb ht hown hK hP hD hS ziX11 tyX11 tyX11_ok nmX11 rfl 0 (by decide) 10 (by decide) hw_5_197 rfl (v := nI 0) rfl rfl rfl (Nat.le_of_ble_eq_true rfl) rfl dX11_advance_63 (fun H locs hP hD hS => ?_)
  refine lv_goto (tgt := 239) hx hb dX11_advance_66 (by decide) ?_
  exact z_vret hx hb hr hlocks hP hD hS dX11_advance_239 ⟨rfl, rfl, rfl⟩
set_option maxHeartbeats 4000000 in
set_option maxRecDepth 100000 in
theorem kX11_city (l : Launch) (D : va_G) (q : Nat → Nat) (cA : Nat → ClassId)    : zMi l D vwCl (zMtys cA) 25 q (zMd q cA) yX11_city cX11_city 2 (some .int) ({ frames := 2, cells := 0, slots := 0, locals := 42 } : Room) [.ref (q 0)] (zMI0, zMR0, zMJ0) (fun r _ => r = nI 0) := by
  intro sz
  refine z_body (by decide +kernel) (Nat.le_of_ble_eq_true rfl) (fun p e s m below meth c ls hx hb hml hr ht hown hlocks hsz hK hP hD hS hl => ?_)
  have hA : ∀ a, s.heap.size ≤ a → zA 25 q sz a := fun a h => Or.inr (hsz ▸ h)
  have hl : lv_has ls 2 [(0, .ref (q 0))] := hl
  refine lv_aload_n hx hb dX11_city_0 rfl (lv_at hl 0 rfl) ?_
  refine lv_aload_n hx hb dX11_city_1 rfl (lv_at hl 0 rfl) ?_
  refine z_get hx hb ht hown hK hP ziX11 rfl 0 (by decide) 5 (by decide) hw_5_192 rfl (v := .int (nI 0)) rfl dX11_city_2 ?_
  refine z_putI hx hb ht hown hK hP hD hS ziX11 tyX11 tyX11_ok nmX11 rfl 0 (by decide) 7 (by decide) hw_5_194 rfl (v := nI 0) rfl rfl rfl (Nat.le_of_ble_eq_true rfl) rfl dX11_city_5 (fun H locs hP hD hS => ?_)
  refine lv_aload_n hx hb dX11_city_8 rfl (lv_at hl 0 rfl) ?_
  refine lv_iconst (v := nI 0) hx hb dX11_city_9 (by decide +kernel) ?_
  refine z_putI hx hb ht hown hK hP hD hS ziX11 tyX11 tyX11_ok nmX11 rfl 0 (by decide) 5 (by decide) hw_5_192 rfl (v := nI 0) rfl rfl rfl (Nat.le_of_ble_eq_true rfl) rfl dX11_city_10 (fun H locs hP hD hS => ?_)
  refine lv_aload_n hx hb dX11_city_13 rfl (lv_at hl 0 rfl) ?_
  refine lv_iconst (v := nI 0) hx hb dX11_city_14 (by decide +kernel) ?_
  refine z_putI hx hb ht hown hK hP hD hS ziX11 tyX11 tyX11_ok nmX11 rfl 0 (by decide) 8 (by decide) hw_5_195 rfl (v := nI 0) rfl rfl rfl (Nat.le_of_ble_eq_true rfl) rfl dX11_city_15 (fun H locs hP hD hS => ?_)
  refine lv_aload_n hx hb dX11_city_18 rfl (lv_at hl 0 rfl) ?_
  refine lv_iconst (v := nI 0) hx hb dX11_city_19 (by decide +kernel) ?_
  refine z_putI hx hb ht hown hK hP hD hS ziX11 tyX11 tyX11_ok nmX11 rfl 0 (by decide) 12 (by decide) hw_5_199 rfl (v := nI 0) rfl rfl rfl (Nat.le_of_ble_eq_true rfl) rfl dX11_city_20 (fun H locs hP hD hS => ?_)
  refine lv_aload_n hx hb dX11_city_23 rfl (lv_at hl 0 rfl) ?_
  refine lv_iconst (v := (-1)) hx hb dX11_city_24 (by decide +kernel) ?_
  refine z_putI hx hb ht hown hK hP hD hS ziX11 tyX11 tyX11_ok nmX11 rfl 0 (by decide) 13 (by decide) hw_5_200 rfl (v := (-1)) rfl rfl rfl (Nat.le_of_ble_eq_true rfl) rfl dX11_city_25 (fun H locs hP hD hS => ?_)
  refine lv_iconst (v := nI 0) hx hb dX11_city_28 (by decide +kernel) ?_
  refine lv_istore_n (lv' := [(1, .int (nI 0)), (0, .ref (q 0))]) hx hb dX11_city_29 rfl hl (by decide) rfl (fun ls hl => ?_)
  have loop_k_1 : ∀ (N k_1 : Nat) (gk_1_6 : Nat → Int32), k_1 ≤ 119 → 119 < k_1 + N → (∀ j, gk_1_6 j = nI 0) → ∀ (H : Heap) (locs : List Loc), va_P D vwCl (zw 25 q (zMd q cA) (zp (zp (zp (zp (zp zMI0 0 7 (nI 0)) 0 5 (nI 0)) 0 8 (nI 0)) 0 12 (nI 0)) 0 13 ((-1))) (zr zMR0 6 gk_1_6) zMJ0) H → va_D (zA 25 q sz) (zw 25 q (zMd q cA) (zp (zp (zp (zp (zp zMI0 0 7 (nI 0)) 0 5 (nI 0)) 0 8 (nI 0)) 0 12 (nI 0)) 0 13 ((-1))) (zr zMR0 6 gk_1_6) zMJ0) → va_S (zA 25 q sz) s.heap H locs → ∀ ls : Array Slot, lv_has ls 2 [(0, .ref (q 0)), (1, .int (nI k_1))] → W p l e ({ frames := 2, cells := 0, slots := 0, locals := 42 } : Room) s m ([.ref (q 0)] : List Value).toArray below meth c H locs 0 0 (MQ below (va_Qi (fun r _ => r = nI 0) (zB D vwCl 25 q (zMd q cA) sz) (zA 25 q sz)) ([.ref (q 0)] : List Value).toArray s 0 0 (zA 25 q sz)) (F0 m 30 ls []) := by
    intro N
    induction N with
    | zero => intro k_1 gk_1_6 h1 h2; exact absurd h2 (by omega)
    | succ N ih =>
      intro k_1 gk_1_6 h1k_1 h2k_1 hgk_1_6 H locs hP hD hS ls hl
      rcases Nat.lt_or_ge k_1 119 with hkk_1 | hkk_1
      · refine lv_iload_n hx hb dX11_city_30 rfl (lv_at hl 1 rfl) ?_
        refine lv_bipush (v := nI 119) hx hb dX11_city_31 (by decide +kernel) ?_
        refine lv_icmp_ge (tgt := 49) hx hb dX11_city_33 (by decide) (fun c_0 => absurd c_0 (nI_ge (by omega) (by omega))) (fun _ => ?_)
        refine lv_aload_n hx hb dX11_city_36 rfl (lv_at hl 0 rfl) ?_
        refine z_get hx hb ht hown hK hP ziX11 rfl 0 (by decide) 14 (by decide) hw_5_201 rfl (v := .ref (q 6)) rfl dX11_city_37 ?_
        refine lv_iload_n hx hb dX11_city_40 rfl (lv_at hl 1 rfl) ?_
        refine lv_iconst (v := nI 0) hx hb dX11_city_41 (by decide +kernel) ?_
        refine z_iast hx hb hK hP hD hS 6 (by decide) 5 (fun _ => rfl) rfl (vp_in_nI (by omega) (by decide)) dX11_city_42 (fun H locs hP hD hS => ?_)
        refine lv_iinc (v := nI (k_1 + 1)) (lv' := [(1, .int (nI (k_1 + 1))), (0, .ref (q 0))]) hx hb dX11_city_43 hl (k := 1) rfl (nI_add k_1 1) (by decide) rfl (fun ls hl => ?_)
        refine lv_goto (tgt := 30) hx hb dX11_city_46 (by decide) ?_
        rw [zp_zr] at hP hD
        exact ih ((k_1 + 1)) _ (by omega) (by omega) (z_all hgk_1_6 rfl) _ _ hP hD hS _ (lv_sub hl [1, 0] rfl)
      · refine lv_iload_n hx hb dX11_city_30 rfl (lv_at hl 1 rfl) ?_
        refine lv_bipush (v := nI 119) hx hb dX11_city_31 (by decide +kernel) ?_
        refine lv_icmp_ge (tgt := 49) hx hb dX11_city_33 (by decide) (fun _ => ?_) (fun c_0 => absurd (nI_le (by omega) (by omega)) c_0)
        refine lv_aload_n hx hb dX11_city_49 rfl (lv_at hl 0 rfl) ?_
        refine z_callVv (k := 0) (As := []) (rest := []) hx hb hml hown ht (kX11_advance l D q cA (zp (zp (zp (zp (zp zMI0 0 7 (nI 0)) 0 5 (nI 0)) 0 8 (nI 0)) 0 12 (nI 0)) 0 13 ((-1))) _ _ rfl rfl) hw_6_109 hmX11_advance ⟨rfl, rfl⟩ (na := 0) rfl (by decide +kernel) (by decide) (by decide) rfl rfl hK hP hD hS hA hl.1 rfl (Nat.le_of_ble_eq_true rfl) ⟨Nat.zero_le _, Nat.zero_le _⟩ dX11_city_50 (fun I_2 R_2 J_2 H locs hp_2 hP hD hS _ _ => ?_)
        obtain ⟨ha_2, hb_2, hu_2⟩ := hp_2
        dsimp only at ha_2 hb_2 hu_2
        cases hu_2
        refine lv_aload_n hx hb dX11_city_53 rfl (lv_at hl 0 rfl) ?_
        refine z_callVi (k := 0) (As := []) (rest := []) hx hb hml hown ht (kX11_good l D q cA I_2 _ _ hb_2) hw_6_123 hmX11_good ⟨rfl, rfl⟩ (na := 0) rfl (by decide +kernel) (by decide) (by decide) rfl rfl hK hP hD hS hA hl.1 rfl (Nat.le_of_ble_eq_true rfl) ⟨Nat.zero_le _, Nat.zero_le _⟩ dX11_city_54 (fun r_3 I_3 R_3 J_3 H locs hp_3 hP hD hS _ _ => ?_)
        obtain ⟨rfl, hu_3⟩ := hp_3
        cases hu_3
        refine lv_if_eq (tgt := 74) hx hb dX11_city_57 (by decide) (fun c_0 => absurd c_0 (by decide +kernel)) (fun _ => ?_)
        refine lv_aload_n hx hb dX11_city_60 rfl (lv_at hl 0 rfl) ?_
        refine z_get hx hb ht hown hK hP ziX11 rfl 0 (by decide) 10 (by decide) hw_5_197 rfl (v := .int (I_2 0 10)) rfl dX11_city_61 ?_
        refine z_eqi (y := nI 0) ha_2 ?_
        refine lv_if_eq (tgt := 74) hx hb dX11_city_64 (by decide) (fun _ => ?_) (fun c_0 => absurd (by decide +kernel) c_0)
        refine lv_aload_n hx hb dX11_city_74 rfl (lv_at hl 0 rfl) ?_
        refine z_callVi (k := 0) (As := []) (rest := []) hx hb hml hown ht (kX11_good l D q cA I_2 _ _ hb_2) hw_6_123 hmX11_good ⟨rfl, rfl⟩ (na := 0) rfl (by decide +kernel) (by decide) (by decide) rfl rfl hK hP hD hS hA hl.1 rfl (Nat.le_of_ble_eq_true rfl) ⟨Nat.zero_le _, Nat.zero_le _⟩ dX11_city_75 (fun r_4 I_4 R_4 J_4 H locs hp_4 hP hD hS _ _ => ?_)
        obtain ⟨rfl, hu_4⟩ := hp_4
        cases hu_4
        refine lv_if_ne (tgt := 84) hx hb dX11_city_78 (by decide) (fun _ => ?_) (fun c_0 => absurd c_0 (by decide +kernel))
        refine lv_iconst (v := nI 0) hx hb dX11_city_84 (by decide +kernel) ?_
        refine lv_istore_n (lv' := [(1, .int (nI 0)), (0, .ref (q 0))]) hx hb dX11_city_85 rfl hl (by decide) rfl (fun ls hl => ?_)
        have loop_k_5 : ∀ (N k_5 : Nat) (gk_5_1 : Nat → Int32), k_5 ≤ 119 → 119 < k_5 + N → (∀ j, gk_5_1 j = nI 0) → ∀ (H : Heap) (locs : List Loc), va_P D vwCl (zw 25 q (zMd q cA) I_2 (zr (zr zMR0 6 gk_1_6) 1 gk_5_1) zMJ0) H → va_D (zA 25 q sz) (zw 25 q (zMd q cA) I_2 (zr (zr zMR0 6 gk_1_6) 1 gk_5_1) zMJ0) → va_S (zA 25 q sz) s.heap H locs → ∀ ls : Array Slot, lv_has ls 2 [(0, .ref (q 0)), (1, .int (nI k_5))] → W p l e ({ frames := 2, cells := 0, slots := 0, locals := 42 } : Room) s m ([.ref (q 0)] : List Value).toArray below meth c H locs 0 0 (MQ below (va_Qi (fun r _ => r = nI 0) (zB D vwCl 25 q (zMd q cA) sz) (zA 25 q sz)) ([.ref (q 0)] : List Value).toArray s 0 0 (zA 25 q sz)) (F0 m 86 ls []) := by
          intro N
          induction N with
          | zero => intro k_5 gk_5_1 h1 h2; exact absurd h2 (by omega)
          | succ N ih =>
            intro k_5 gk_5_1 h1k_5 h2k_5 hgk_5_1 H locs hP hD hS ls hl
            rcases Nat.lt_or_ge k_5 119 with hkk_5 | hkk_5
            · refine lv_iload_n hx hb dX11_city_86 rfl (lv_at hl 1 rfl) ?_
              refine lv_bipush (v := nI 119) hx hb dX11_city_87 (by decide +kernel) ?_
              refine lv_icmp_ge (tgt := 110) hx hb dX11_city_89 (by decide) (fun c_0 => absurd c_0 (nI_ge (by omega) (by omega))) (fun _ => ?_)
              refine lv_aload_n hx hb dX11_city_92 rfl (lv_at hl 0 rfl) ?_
              refine z_get hx hb ht hown hK hP ziX11 rfl 0 (by decide) 1 (by decide) hw_5_188 rfl (v := .ref (q 1)) rfl dX11_city_93 ?_
              refine lv_iload_n hx hb dX11_city_96 rfl (lv_at hl 1 rfl) ?_
              refine lv_aload_n hx hb dX11_city_97 rfl (lv_at hl 0 rfl) ?_
              refine z_get hx hb ht hown hK hP ziX11 rfl 0 (by decide) 14 (by decide) hw_5_201 rfl (v := .ref (q 6)) rfl dX11_city_98 ?_
              refine lv_iload_n hx hb dX11_city_101 rfl (lv_at hl 1 rfl) ?_
              refine z_iald hx hb hK hP 6 (by decide) 5 rfl rfl (vp_in_nI (by omega) (by decide)) dX11_city_102 ?_
              refine z_eqi (y := nI 0) (hgk_1_6 _) ?_
              refine z_iast hx hb hK hP hD hS 1 (by decide) 0 (fun _ => rfl) rfl (vp_in_nI (by omega) (by decide)) dX11_city_103 (fun H locs hP hD hS => ?_)
              refine lv_iinc (v := nI (k_5 + 1)) (lv' := [(1, .int (nI (k_5 + 1))), (0, .ref (q 0))]) hx hb dX11_city_104 hl (k := 1) rfl (nI_add k_5 1) (by decide) rfl (fun ls hl => ?_)
              refine lv_goto (tgt := 86) hx hb dX11_city_107 (by decide) ?_
              rw [zp_zr] at hP hD
              exact ih ((k_5 + 1)) _ (by omega) (by omega) (z_all hgk_5_1 rfl) _ _ hP hD hS _ (lv_sub hl [1, 0] rfl)
            · refine lv_iload_n hx hb dX11_city_86 rfl (lv_at hl 1 rfl) ?_
              refine lv_bipush (v := nI 119) hx hb dX11_city_87 (by decide +kernel) ?_
              refine lv_icmp_ge (tgt := 110) hx hb dX11_city_89 (by decide) (fun _ => ?_) (fun c_0 => absurd (nI_le (by omega) (by omega)) c_0)
              refine lv_aload_n hx hb dX11_city_110 rfl (lv_at hl 0 rfl) ?_
              refine z_get hx hb ht hown hK hP ziX11 rfl 0 (by decide) 1 (by decide) hw_5_188 rfl (v := .ref (q 1)) rfl dX11_city_111 ?_
              refine lv_iconst (v := nI 5) hx hb dX11_city_114 (by decide +kernel) ?_
              refine z_iald hx hb hK hP 1 (by decide) 0 rfl rfl (vp_in_nI (by omega) (by decide)) dX11_city_115 ?_
              refine z_eqi (y := nI 0) (hgk_5_1 _) ?_
              exact z_iret (v := nI 0) hx hb hr hlocks hP hD hS dX11_city_116 rfl
        exact loop_k_5 120 0 ((zr zMR0 6 gk_1_6) 1) (by omega) (by omega) (fun _ => rfl) _ _ (by simp only [zr_self]; exact hP) (by simp only [zr_self]; exact hD) hS _ (lv_sub hl [1, 0] rfl)
  exact loop_k_1 120 0 (zMR0 6) (by omega) (by omega) (fun _ => rfl) _ _ (by simp only [zr_self]; exact hP) (by simp only [zr_self]; exact hD) hS _ (lv_sub hl [1, 0] rfl)
set_option maxHeartbeats 4000000 in
set_option maxRecDepth 100000 in
theorem kX10_hasCity (l : Launch) (D : va_G) (q : Nat → Nat) (cA : Nat → ClassId)    : zMi l D vwCl (zXtys cA) 81 q (zXd q cA) yX10_hasCity cX10_hasCity 1 (some .boolean) ({ frames := 0, cells := 0, slots := 0, locals := 0 } : Room) [.ref (q 0)] (zXI0, zXR0, zXJ0) (fun r u => r = nI 0 ∧ u = (zXI0, zXR0, zXJ0)) := by
  intro sz
  refine z_body (by decide +kernel) (Nat.le_of_ble_eq_true rfl) (fun p e s m below meth c ls hx hb hml hr ht hown hlocks hsz hK hP hD hS hl => ?_)
  have hA : ∀ a, s.heap.size ≤ a → zA 81 q sz a := fun a h => Or.inr (hsz ▸ h)
  have hl : lv_has ls 1 [(0, .ref (q 0))] := hl
  refine lv_aload_n hx hb dX10_hasCity_0 rfl (lv_at hl 0 rfl) ?_
  refine z_get hx hb ht hown hK hP ziX10 rfl 0 (by decide) 1 (by decide) hw_2_94 rfl (v := .ref (q 3)) rfl dX10_hasCity_1 ?_
  refine z_get hx hb ht hown hK hP ziX2 rfl 3 (by decide) 0 (by decide) hw_1_68 rfl (v := .int (nI 0)) rfl dX10_hasCity_4 ?_
  refine lv_if_le (tgt := 14) hx hb dX10_hasCity_7 (by decide) (fun _ => ?_) (fun c_0 => absurd (by decide +kernel) c_0)
  refine lv_iconst (v := nI 0) hx hb dX10_hasCity_14 (by decide +kernel) ?_
  exact z_zret (v := nI 0) hx hb hr hlocks hP hD hS (by decide +kernel) dX10_hasCity_15 ⟨rfl, rfl⟩
set_option maxHeartbeats 4000000 in
set_option maxRecDepth 100000 in
theorem kX10_isHouse (l : Launch) (D : va_G) (q : Nat → Nat) (cA : Nat → ClassId)  (h : Int32)  : zMi l D vwCl (zXtys cA) 81 q (zXd q cA) yX10_isHouse cX10_isHouse 2 (some .boolean) ({ frames := 0, cells := 0, slots := 0, locals := 0 } : Room) [.ref (q 0), .int (h)] (zXI0, zXR0, zXJ0) (fun r u => r = nI 0 ∧ u = (zXI0, zXR0, zXJ0)) := by
  intro sz
  refine z_body (by decide +kernel) (Nat.le_of_ble_eq_true rfl) (fun p e s m below meth c ls hx hb hml hr ht hown hlocks hsz hK hP hD hS hl => ?_)
  have hA : ∀ a, s.heap.size ≤ a → zA 81 q sz a := fun a h => Or.inr (hsz ▸ h)
  have hl : lv_has ls 2 [(0, .ref (q 0)), (1, .int (h))] := hl
  refine lv_iload_n hx hb dX10_isHouse_0 rfl (lv_at hl 1 rfl) ?_
  refine lv_if_lt (tgt := 19) hx hb dX10_isHouse_1 (by decide) (fun c_1 => ?_) (fun c_1 => ?_)
  · have kc_1_1 : (nI 0 : Int32).toInt = 0 := by decide +kernel
    have kc_1_2 : (0 : Int32).toInt = 0 := by decide +kernel
    have t_c_1 := z_ltT c_1
    refine lv_iconst (v := nI 0) hx hb dX10_isHouse_19 (by decide +kernel) ?_
    exact z_zret (v := nI 0) hx hb hr hlocks hP hD hS (by decide +kernel) dX10_isHouse_20 ⟨rfl, rfl⟩
  · have kc_1_1 : (nI 0 : Int32).toInt = 0 := by decide +kernel
    have kc_1_2 : (0 : Int32).toInt = 0 := by decide +kernel
    have t_c_1 := z_ltF c_1
    refine lv_iload_n hx hb dX10_isHouse_4 rfl (lv_at hl 1 rfl) ?_
    refine lv_aload_n hx hb dX10_isHouse_5 rfl (lv_at hl 0 rfl) ?_
    refine z_get hx hb ht hown hK hP ziX10 rfl 0 (by decide) 1 (by decide) hw_2_94 rfl (v := .ref (q 3)) rfl dX10_isHouse_6 ?_
    refine z_get hx hb ht hown hK hP ziX2 rfl 3 (by decide) 4 (by decide) hw_1_85 rfl (v := .int (nI 0)) rfl dX10_isHouse_9 ?_
    refine lv_icmp_ge (tgt := 19) hx hb dX10_isHouse_12 (by decide) (fun c_2 => ?_) (fun c_2 => ?_)
    · have kc_2_1 : (nI 0 : Int32).toInt = 0 := by decide +kernel
      have kc_2_2 : (0 : Int32).toInt = 0 := by decide +kernel
      have t_c_2 := z_leT c_2
      refine lv_iconst (v := nI 0) hx hb dX10_isHouse_19 (by decide +kernel) ?_
      exact z_zret (v := nI 0) hx hb hr hlocks hP hD hS (by decide +kernel) dX10_isHouse_20 ⟨rfl, rfl⟩
    · have kc_2_1 : (nI 0 : Int32).toInt = 0 := by decide +kernel
      have kc_2_2 : (0 : Int32).toInt = 0 := by decide +kernel
      have t_c_2 := z_leF c_2
      refine lv_iconst (v := nI 1) hx hb dX10_isHouse_15 (by decide +kernel) ?_
      refine lv_goto (tgt := 20) hx hb dX10_isHouse_16 (by decide) ?_
      exact z_zret (v := nI 1) hx hb hr hlocks hP hD hS (by decide +kernel) dX10_isHouse_20 (by exfalso; omega)
set_option maxHeartbeats 4000000 in
set_option maxRecDepth 100000 in
theorem kX10_isThing (l : Launch) (D : va_G) (q : Nat → Nat) (cA : Nat → ClassId)  (h : Int32)  : zMi l D vwCl (zXtys cA) 81 q (zXd q cA) yX10_isThing cX10_isThing 2 (some .boolean) ({ frames := 0, cells := 0, slots := 0, locals := 0 } : Room) [.ref (q 0), .int (h)] (zXI0, zXR0, zXJ0) (fun r u => r = nI 0 ∧ u = (zXI0, zXR0, zXJ0)) := by
  intro sz
  refine z_body (by decide +kernel) (Nat.le_of_ble_eq_true rfl) (fun p e s m below meth c ls hx hb hml hr ht hown hlocks hsz hK hP hD hS hl => ?_)
  have hA : ∀ a, s.heap.size ≤ a → zA 81 q sz a := fun a h => Or.inr (hsz ▸ h)
  have hl : lv_has ls 2 [(0, .ref (q 0)), (1, .int (h))] := hl
  refine lv_iload_n hx hb dX10_isThing_0 rfl (lv_at hl 1 rfl) ?_
  refine lv_if_lt (tgt := 19) hx hb dX10_isThing_1 (by decide) (fun c_1 => ?_) (fun c_1 => ?_)
  · have kc_1_1 : (nI 0 : Int32).toInt = 0 := by decide +kernel
    have kc_1_2 : (0 : Int32).toInt = 0 := by decide +kernel
    have t_c_1 := z_ltT c_1
    refine lv_iconst (v := nI 0) hx hb dX10_isThing_19 (by decide +kernel) ?_
    exact z_zret (v := nI 0) hx hb hr hlocks hP hD hS (by decide +kernel) dX10_isThing_20 ⟨rfl, rfl⟩
  · have kc_1_1 : (nI 0 : Int32).toInt = 0 := by decide +kernel
    have kc_1_2 : (0 : Int32).toInt = 0 := by decide +kernel
    have t_c_1 := z_ltF c_1
    refine lv_iload_n hx hb dX10_isThing_4 rfl (lv_at hl 1 rfl) ?_
    refine lv_aload_n hx hb dX10_isThing_5 rfl (lv_at hl 0 rfl) ?_
    refine z_get hx hb ht hown hK hP ziX10 rfl 0 (by decide) 1 (by decide) hw_2_94 rfl (v := .ref (q 3)) rfl dX10_isThing_6 ?_
    refine z_get hx hb ht hown hK hP ziX2 rfl 3 (by decide) 5 (by decide) hw_1_93 rfl (v := .int (nI 0)) rfl dX10_isThing_9 ?_
    refine lv_icmp_ge (tgt := 19) hx hb dX10_isThing_12 (by decide) (fun c_2 => ?_) (fun c_2 => ?_)
    · have kc_2_1 : (nI 0 : Int32).toInt = 0 := by decide +kernel
      have kc_2_2 : (0 : Int32).toInt = 0 := by decide +kernel
      have t_c_2 := z_leT c_2
      refine lv_iconst (v := nI 0) hx hb dX10_isThing_19 (by decide +kernel) ?_
      exact z_zret (v := nI 0) hx hb hr hlocks hP hD hS (by decide +kernel) dX10_isThing_20 ⟨rfl, rfl⟩
    · have kc_2_1 : (nI 0 : Int32).toInt = 0 := by decide +kernel
      have kc_2_2 : (0 : Int32).toInt = 0 := by decide +kernel
      have t_c_2 := z_leF c_2
      refine lv_iconst (v := nI 1) hx hb dX10_isThing_15 (by decide +kernel) ?_
      refine lv_goto (tgt := 20) hx hb dX10_isThing_16 (by decide) ?_
      exact z_zret (v := nI 1) hx hb hr hlocks hP hD hS (by decide +kernel) dX10_isThing_20 (by exfalso; omega)
set_option maxHeartbeats 4000000 in
set_option maxRecDepth 100000 in
theorem kX10_isPaper (l : Launch) (D : va_G) (q : Nat → Nat) (cA : Nat → ClassId)  (h : Int32)  : zMi l D vwCl (zXtys cA) 81 q (zXd q cA) yX10_isPaper cX10_isPaper 2 (some .boolean) ({ frames := 0, cells := 0, slots := 0, locals := 0 } : Room) [.ref (q 0), .int (h)] (zXI0, zXR0, zXJ0) (fun r u => r = nI 0 ∧ u = (zXI0, zXR0, zXJ0)) := by
  intro sz
  refine z_body (by decide +kernel) (Nat.le_of_ble_eq_true rfl) (fun p e s m below meth c ls hx hb hml hr ht hown hlocks hsz hK hP hD hS hl => ?_)
  have hA : ∀ a, s.heap.size ≤ a → zA 81 q sz a := fun a h => Or.inr (hsz ▸ h)
  have hl : lv_has ls 2 [(0, .ref (q 0)), (1, .int (h))] := hl
  refine lv_iload_n hx hb dX10_isPaper_0 rfl (lv_at hl 1 rfl) ?_
  refine lv_if_lt (tgt := 19) hx hb dX10_isPaper_1 (by decide) (fun c_1 => ?_) (fun c_1 => ?_)
  · have kc_1_1 : (nI 0 : Int32).toInt = 0 := by decide +kernel
    have kc_1_2 : (0 : Int32).toInt = 0 := by decide +kernel
    have t_c_1 := z_ltT c_1
    refine lv_iconst (v := nI 0) hx hb dX10_isPaper_19 (by decide +kernel) ?_
    exact z_zret (v := nI 0) hx hb hr hlocks hP hD hS (by decide +kernel) dX10_isPaper_20 ⟨rfl, rfl⟩
  · have kc_1_1 : (nI 0 : Int32).toInt = 0 := by decide +kernel
    have kc_1_2 : (0 : Int32).toInt = 0 := by decide +kernel
    have t_c_1 := z_ltF c_1
    refine lv_iload_n hx hb dX10_isPaper_4 rfl (lv_at hl 1 rfl) ?_
    refine lv_aload_n hx hb dX10_isPaper_5 rfl (lv_at hl 0 rfl) ?_
    refine z_get hx hb ht hown hK hP ziX10 rfl 0 (by decide) 4 (by decide) hw_2_97 rfl (v := .ref (q 15)) rfl dX10_isPaper_6 ?_
    refine z_get hx hb ht hown hK hP ziX9 rfl 15 (by decide) 2 (by decide) hw_1_162 rfl (v := .int (nI 0)) rfl dX10_isPaper_9 ?_
    refine lv_icmp_ge (tgt := 19) hx hb dX10_isPaper_12 (by decide) (fun c_2 => ?_) (fun c_2 => ?_)
    · have kc_2_1 : (nI 0 : Int32).toInt = 0 := by decide +kernel
      have kc_2_2 : (0 : Int32).toInt = 0 := by decide +kernel
      have t_c_2 := z_leT c_2
      refine lv_iconst (v := nI 0) hx hb dX10_isPaper_19 (by decide +kernel) ?_
      exact z_zret (v := nI 0) hx hb hr hlocks hP hD hS (by decide +kernel) dX10_isPaper_20 ⟨rfl, rfl⟩
    · have kc_2_1 : (nI 0 : Int32).toInt = 0 := by decide +kernel
      have kc_2_2 : (0 : Int32).toInt = 0 := by decide +kernel
      have t_c_2 := z_leF c_2
      refine lv_iconst (v := nI 1) hx hb dX10_isPaper_15 (by decide +kernel) ?_
      refine lv_goto (tgt := 20) hx hb dX10_isPaper_16 (by decide) ?_
      exact z_zret (v := nI 1) hx hb hr hlocks hP hD hS (by decide +kernel) dX10_isPaper_20 (by exfalso; omega)
set_option maxHeartbeats 4000000 in
set_option maxRecDepth 100000 in
theorem kX10_isSlot (l : Launch) (D : va_G) (q : Nat → Nat) (cA : Nat → ClassId) (I R : Nat → Nat → Int32) (J : Nat → Nat → Int64) (x : Int32)  : zMi l D vwCl (zXtys cA) 81 q (zXd q cA) yX10_isSlot cX10_isSlot 1 (some .boolean) ({ frames := 0, cells := 0, slots := 0, locals := 0 } : Room) [.int (x)] (I, R, J) (fun r u => (r = nI 1 ∧ u = (I, R, J) ∧ 0 ≤ x.toInt ∧ x.toInt ≤ 3) ∨ (r = nI 0 ∧ u = (I, R, J) ∧ (x.toInt < 0 ∨ 3 < x.toInt))) := by
  intro sz
  refine z_body (by decide +kernel) (Nat.le_of_ble_eq_true rfl) (fun p e s m below meth c ls hx hb hml hr ht hown hlocks hsz hK hP hD hS hl => ?_)
  have hA : ∀ a, s.heap.size ≤ a → zA 81 q sz a := fun a h => Or.inr (hsz ▸ h)
  have hl : lv_has ls 1 [(0, .int (x))] := hl
  refine lv_iload_n hx hb dX10_isSlot_0 rfl (lv_at hl 0 rfl) ?_
  refine lv_if_lt (tgt := 13) hx hb dX10_isSlot_1 (by decide) (fun c_1 => ?_) (fun c_1 => ?_)
  · have kc_1_1 : (nI 0 : Int32).toInt = 0 := by decide +kernel
    have kc_1_2 : (0 : Int32).toInt = 0 := by decide +kernel
    have t_c_1 := z_ltT c_1
    refine lv_iconst (v := nI 0) hx hb dX10_isSlot_13 (by decide +kernel) ?_
    exact z_zret (v := nI 0) hx hb hr hlocks hP hD hS (by decide +kernel) dX10_isSlot_14 (Or.inr ⟨rfl, rfl, by omega⟩)
  · have kc_1_1 : (nI 0 : Int32).toInt = 0 := by decide +kernel
    have kc_1_2 : (0 : Int32).toInt = 0 := by decide +kernel
    have t_c_1 := z_ltF c_1
    refine lv_iload_n hx hb dX10_isSlot_4 rfl (lv_at hl 0 rfl) ?_
    refine lv_iconst (v := nI 4) hx hb dX10_isSlot_5 (by decide +kernel) ?_
    refine lv_icmp_ge (tgt := 13) hx hb dX10_isSlot_6 (by decide) (fun c_2 => ?_) (fun c_2 => ?_)
    · have kc_2_1 : (nI 4 : Int32).toInt = 4 := by decide +kernel
      have t_c_2 := z_leT c_2
      refine lv_iconst (v := nI 0) hx hb dX10_isSlot_13 (by decide +kernel) ?_
      exact z_zret (v := nI 0) hx hb hr hlocks hP hD hS (by decide +kernel) dX10_isSlot_14 (Or.inr ⟨rfl, rfl, by omega⟩)
    · have kc_2_1 : (nI 4 : Int32).toInt = 4 := by decide +kernel
      have t_c_2 := z_leF c_2
      refine lv_iconst (v := nI 1) hx hb dX10_isSlot_9 (by decide +kernel) ?_
      refine lv_goto (tgt := 14) hx hb dX10_isSlot_10 (by decide) ?_
      exact z_zret (v := nI 1) hx hb hr hlocks hP hD hS (by decide +kernel) dX10_isSlot_14 (Or.inl ⟨rfl, rfl, by omega, by omega⟩)
set_option maxHeartbeats 4000000 in
set_option maxRecDepth 100000 in
theorem kX10_look (l : Launch) (D : va_G) (q : Nat → Nat) (cA : Nat → ClassId)  (x : Int32)  : zMi l D vwCl (zXtys cA) 81 q (zXd q cA) yX10_look cX10_look 3 (some .int) ({ frames := 1, cells := 0, slots := 0, locals := 20 } : Room) [.ref (q 0), .int (x)] (zXI0, zXR0, zXJ0) (fun r u => r = (-2) ∧ u = (zXI0, zXR0, zXJ0)) := by
  intro sz
  refine z_body (by decide +kernel) (Nat.le_of_ble_eq_true rfl) (fun p e s m below meth c ls hx hb hml hr ht hown hlocks hsz hK hP hD hS hl => ?_)
  have hA : ∀ a, s.heap.size ≤ a → zA 81 q sz a := fun a h => Or.inr (hsz ▸ h)
  have hl : lv_has ls 3 [(0, .ref (q 0)), (1, .int (x))] := hl
  refine lv_iload_n hx hb dX10_look_0 rfl (lv_at hl 1 rfl) ?_
  refine z_callSi (As := [.int (x)]) (rest := []) hx hb hml hown ht (kX10_isSlot l D q cA _ _ _ (x)) hw_5_60 hmX10_isSlot ⟨rfl, rfl⟩ (na := 1) rfl (by decide +kernel) (by decide) hK hP hD hS hA hl.1 rfl (Nat.le_of_ble_eq_true rfl) ⟨Nat.zero_le _, Nat.zero_le _⟩ dX10_look_1 (fun r_1 I_1 R_1 J_1 H locs hp_1 hP hD hS _ _ => ?_)
  rcases hp_1 with ⟨rfl, hu_1, h1_1, h2_1⟩ | ⟨rfl, hu_1, h1_1⟩
  · cases hu_1
    refine lv_if_eq (tgt := 14) hx hb dX10_look_4 (by decide) (fun c_0 => absurd c_0 (by decide +kernel)) (fun _ => ?_)
    refine lv_aload_n hx hb dX10_look_7 rfl (lv_at hl 0 rfl) ?_
    refine z_callVi (k := 0) (As := []) (rest := []) hx hb hml hown ht (kX10_hasCity l D q cA ) hw_4_0 hmX10_hasCity ⟨rfl, rfl⟩ (na := 0) rfl (by decide +kernel) (by decide) (by decide) rfl rfl hK hP hD hS hA hl.1 rfl (Nat.le_of_ble_eq_true rfl) ⟨Nat.zero_le _, Nat.zero_le _⟩ dX10_look_8 (fun r_2 I_2 R_2 J_2 H locs hp_2 hP hD hS _ _ => ?_)
    obtain ⟨rfl, hu_2⟩ := hp_2
    cases hu_2
    refine lv_if_ne (tgt := 17) hx hb dX10_look_11 (by decide) (fun c_0 => absurd (by decide +kernel) c_0) (fun _ => ?_)
    refine lv_bipush (v := (-2)) hx hb dX10_look_14 (by decide +kernel) ?_
    exact z_iret (v := (-2)) hx hb hr hlocks hP hD hS dX10_look_16 ⟨rfl, rfl⟩
  · cases hu_1
    refine lv_if_eq (tgt := 14) hx hb dX10_look_4 (by decide) (fun _ => ?_) (fun c_0 => absurd (by decide +kernel) c_0)
    refine lv_bipush (v := (-2)) hx hb dX10_look_14 (by decide +kernel) ?_
    exact z_iret (v := (-2)) hx hb hr hlocks hP hD hS dX10_look_16 ⟨rfl, rfl⟩
set_option maxHeartbeats 4000000 in
set_option maxRecDepth 100000 in
theorem kX10_house (l : Launch) (D : va_G) (q : Nat → Nat) (cA : Nat → ClassId)  (h : Int32) (w : Int32)  : zMi l D vwCl (zXtys cA) 81 q (zXd q cA) yX10_house cX10_house 3 (some .int) ({ frames := 1, cells := 0, slots := 0, locals := 21 } : Room) [.ref (q 0), .int (h), .int (w)] (zXI0, zXR0, zXJ0) (fun r _ => r = (-2)) := by
  intro sz
  refine z_body (by decide +kernel) (Nat.le_of_ble_eq_true rfl) (fun p e s m below meth c ls hx hb hml hr ht hown hlocks hsz hK hP hD hS hl => ?_)
  have hA : ∀ a, s.heap.size ≤ a → zA 81 q sz a := fun a h => Or.inr (hsz ▸ h)
  have hl : lv_has ls 3 [(0, .ref (q 0)), (1, .int (h)), (2, .int (w))] := hl
  refine lv_aload_n hx hb dX10_house_0 rfl (lv_at hl 0 rfl) ?_
  refine lv_iload_n hx hb dX10_house_1 rfl (lv_at hl 1 rfl) ?_
  refine z_callVi (k := 0) (As := [.int (h)]) (rest := []) hx hb hml hown ht (kX10_isHouse l D q cA (h)) hw_3_59 hmX10_isHouse ⟨rfl, rfl⟩ (na := 1) rfl (by decide +kernel) (by decide) (by decide) rfl rfl hK hP hD hS hA hl.1 rfl (Nat.le_of_ble_eq_true rfl) ⟨Nat.zero_le _, Nat.zero_le _⟩ dX10_house_2 (fun r_1 I_1 R_1 J_1 H locs hp_1 hP hD hS _ _ => ?_)
  obtain ⟨rfl, hu_1⟩ := hp_1
  cases hu_1
  refine lv_if_ne (tgt := 11) hx hb dX10_house_5 (by decide) (fun c_0 => absurd (by decide +kernel) c_0) (fun _ => ?_)
  refine lv_bipush (v := (-2)) hx hb dX10_house_8 (by decide +kernel) ?_
  exact z_iret (v := (-2)) hx hb hr hlocks hP hD hS dX10_house_10 rfl
set_option maxHeartbeats 4000000 in
set_option maxRecDepth 100000 in
theorem kX10_thing (l : Launch) (D : va_G) (q : Nat → Nat) (cA : Nat → ClassId)  (h : Int32) (w : Int32)  : zMi l D vwCl (zXtys cA) 81 q (zXd q cA) yX10_thing cX10_thing 3 (some .int) ({ frames := 1, cells := 0, slots := 0, locals := 21 } : Room) [.ref (q 0), .int (h), .int (w)] (zXI0, zXR0, zXJ0) (fun r _ => r = (-2)) := by
  intro sz
  refine z_body (by decide +kernel) (Nat.le_of_ble_eq_true rfl) (fun p e s m below meth c ls hx hb hml hr ht hown hlocks hsz hK hP hD hS hl => ?_)
  have hA : ∀ a, s.heap.size ≤ a → zA 81 q sz a := fun a h => Or.inr (hsz ▸ h)
  have hl : lv_has ls 3 [(0, .ref (q 0)), (1, .int (h)), (2, .int (w))] := hl
  refine lv_aload_n hx hb dX10_thing_0 rfl (lv_at hl 0 rfl) ?_
  refine lv_iload_n hx hb dX10_thing_1 rfl (lv_at hl 1 rfl) ?_
  refine z_callVi (k := 0) (As := [.int (h)]) (rest := []) hx hb hml hown ht (kX10_isThing l D q cA (h)) hw_3_87 hmX10_isThing ⟨rfl, rfl⟩ (na := 1) rfl (by decide +kernel) (by decide) (by decide) rfl rfl hK hP hD hS hA hl.1 rfl (Nat.le_of_ble_eq_true rfl) ⟨Nat.zero_le _, Nat.zero_le _⟩ dX10_thing_2 (fun r_1 I_1 R_1 J_1 H locs hp_1 hP hD hS _ _ => ?_)
  obtain ⟨rfl, hu_1⟩ := hp_1
  cases hu_1
  refine lv_if_ne (tgt := 11) hx hb dX10_thing_5 (by decide) (fun c_0 => absurd (by decide +kernel) c_0) (fun _ => ?_)
  refine lv_bipush (v := (-2)) hx hb dX10_thing_8 (by decide +kernel) ?_
  exact z_iret (v := (-2)) hx hb hr hlocks hP hD hS dX10_thing_10 rfl
set_option maxHeartbeats 4000000 in
set_option maxRecDepth 100000 in
theorem kX10_value (l : Launch) (D : va_G) (q : Nat → Nat) (cA : Nat → ClassId)  (h : Int32) (w : Int32)  : zMi l D vwCl (zXtys cA) 81 q (zXd q cA) yX10_value cX10_value 3 (some .int) ({ frames := 1, cells := 0, slots := 0, locals := 21 } : Room) [.ref (q 0), .int (h), .int (w)] (zXI0, zXR0, zXJ0) (fun r _ => r = (-2)) := by
  intro sz
  refine z_body (by decide +kernel) (Nat.le_of_ble_eq_true rfl) (fun p e s m below meth c ls hx hb hml hr ht hown hlocks hsz hK hP hD hS hl => ?_)
  have hA : ∀ a, s.heap.size ≤ a → zA 81 q sz a := fun a h => Or.inr (hsz ▸ h)
  have hl : lv_has ls 3 [(0, .ref (q 0)), (1, .int (h)), (2, .int (w))] := hl
  refine lv_aload_n hx hb dX10_value_0 rfl (lv_at hl 0 rfl) ?_
  refine lv_iload_n hx hb dX10_value_1 rfl (lv_at hl 1 rfl) ?_
  refine z_callVi (k := 0) (As := [.int (h)]) (rest := []) hx hb hml hown ht (kX10_isHouse l D q cA (h)) hw_3_59 hmX10_isHouse ⟨rfl, rfl⟩ (na := 1) rfl (by decide +kernel) (by decide) (by decide) rfl rfl hK hP hD hS hA hl.1 rfl (Nat.le_of_ble_eq_true rfl) ⟨Nat.zero_le _, Nat.zero_le _⟩ dX10_value_2 (fun r_1 I_1 R_1 J_1 H locs hp_1 hP hD hS _ _ => ?_)
  obtain ⟨rfl, hu_1⟩ := hp_1
  cases hu_1
  refine lv_if_eq (tgt := 28) hx hb dX10_value_5 (by decide) (fun _ => ?_) (fun c_0 => absurd (by decide +kernel) c_0)
  refine lv_bipush (v := (-2)) hx hb dX10_value_28 (by decide +kernel) ?_
  exact z_iret (v := (-2)) hx hb hr hlocks hP hD hS dX10_value_30 rfl
set_option maxHeartbeats 4000000 in
set_option maxRecDepth 100000 in
theorem kX10_paper (l : Launch) (D : va_G) (q : Nat → Nat) (cA : Nat → ClassId)  (x : Int32) (w : Int32)  : zMi l D vwCl (zXtys cA) 81 q (zXd q cA) yX10_paper cX10_paper 3 (some .int) ({ frames := 1, cells := 0, slots := 0, locals := 21 } : Room) [.ref (q 0), .int (x), .int (w)] (zXI0, zXR0, zXJ0) (fun r _ => r = (-2)) := by
  intro sz
  refine z_body (by decide +kernel) (Nat.le_of_ble_eq_true rfl) (fun p e s m below meth c ls hx hb hml hr ht hown hlocks hsz hK hP hD hS hl => ?_)
  have hA : ∀ a, s.heap.size ≤ a → zA 81 q sz a := fun a h => Or.inr (hsz ▸ h)
  have hl : lv_has ls 3 [(0, .ref (q 0)), (1, .int (x)), (2, .int (w))] := hl
  refine lv_aload_n hx hb dX10_paper_0 rfl (lv_at hl 0 rfl) ?_
  refine lv_iload_n hx hb dX10_paper_1 rfl (lv_at hl 1 rfl) ?_
  refine z_callVi (k := 0) (As := [.int (x)]) (rest := []) hx hb hml hown ht (kX10_isPaper l D q cA (x)) hw_3_107 hmX10_isPaper ⟨rfl, rfl⟩ (na := 1) rfl (by decide +kernel) (by decide) (by decide) rfl rfl hK hP hD hS hA hl.1 rfl (Nat.le_of_ble_eq_true rfl) ⟨Nat.zero_le _, Nat.zero_le _⟩ dX10_paper_2 (fun r_1 I_1 R_1 J_1 H locs hp_1 hP hD hS _ _ => ?_)
  obtain ⟨rfl, hu_1⟩ := hp_1
  cases hu_1
  refine lv_if_ne (tgt := 11) hx hb dX10_paper_5 (by decide) (fun c_0 => absurd (by decide +kernel) c_0) (fun _ => ?_)
  refine lv_bipush (v := (-2)) hx hb dX10_paper_8 (by decide +kernel) ?_
  exact z_iret (v := (-2)) hx hb hr hlocks hP hD hS dX10_paper_10 rfl
set_option maxHeartbeats 4000000 in
set_option maxRecDepth 100000 in
theorem kX10_price (l : Launch) (D : va_G) (q : Nat → Nat) (cA : Nat → ClassId)  (x : Int32)  : zMi l D vwCl (zXtys cA) 81 q (zXd q cA) yX10_price cX10_price 2 (some .int) ({ frames := 1, cells := 0, slots := 0, locals := 21 } : Room) [.ref (q 0), .int (x)] (zXI0, zXR0, zXJ0) (fun r _ => r = (-2)) := by
  intro sz
  refine z_body (by decide +kernel) (Nat.le_of_ble_eq_true rfl) (fun p e s m below meth c ls hx hb hml hr ht hown hlocks hsz hK hP hD hS hl => ?_)
  have hA : ∀ a, s.heap.size ≤ a → zA 81 q sz a := fun a h => Or.inr (hsz ▸ h)
  have hl : lv_has ls 2 [(0, .ref (q 0)), (1, .int (x))] := hl
  refine lv_aload_n hx hb dX10_price_0 rfl (lv_at hl 0 rfl) ?_
  refine lv_iload_n hx hb dX10_price_1 rfl (lv_at hl 1 rfl) ?_
  refine z_callVi (k := 0) (As := [.int (x)]) (rest := []) hx hb hml hown ht (kX10_isPaper l D q cA (x)) hw_3_107 hmX10_isPaper ⟨rfl, rfl⟩ (na := 1) rfl (by decide +kernel) (by decide) (by decide) rfl rfl hK hP hD hS hA hl.1 rfl (Nat.le_of_ble_eq_true rfl) ⟨Nat.zero_le _, Nat.zero_le _⟩ dX10_price_2 (fun r_1 I_1 R_1 J_1 H locs hp_1 hP hD hS _ _ => ?_)
  obtain ⟨rfl, hu_1⟩ := hp_1
  cases hu_1
  refine lv_if_ne (tgt := 11) hx hb dX10_price_5 (by decide) (fun c_0 => absurd (by decide +kernel) c_0) (fun _ => ?_)
  refine lv_bipush (v := (-2)) hx hb dX10_price_8 (by decide +kernel) ?_
  exact z_iret (v := (-2)) hx hb hr hlocks hP hD hS dX10_price_10 rfl
set_option maxHeartbeats 4000000 in
set_option maxRecDepth 100000 in
theorem kX10_net (l : Launch) (D : va_G) (q : Nat → Nat) (cA : Nat → ClassId)  (h : Int32)  : zMi l D vwCl (zXtys cA) 81 q (zXd q cA) yX10_net cX10_net 2 (some .int) ({ frames := 1, cells := 0, slots := 0, locals := 21 } : Room) [.ref (q 0), .int (h)] (zXI0, zXR0, zXJ0) (fun r _ => r = (-100000)) := by
  intro sz
  refine z_body (by decide +kernel) (Nat.le_of_ble_eq_true rfl) (fun p e s m below meth c ls hx hb hml hr ht hown hlocks hsz hK hP hD hS hl => ?_)
  have hA : ∀ a, s.heap.size ≤ a → zA 81 q sz a := fun a h => Or.inr (hsz ▸ h)
  have hl : lv_has ls 2 [(0, .ref (q 0)), (1, .int (h))] := hl
  refine lv_aload_n hx hb dX10_net_0 rfl (lv_at hl 0 rfl) ?_
  refine lv_iload_n hx hb dX10_net_1 rfl (lv_at hl 1 rfl) ?_
  refine z_callVi (k := 0) (As := [.int (h)]) (rest := []) hx hb hml hown ht (kX10_isHouse l D q cA (h)) hw_3_59 hmX10_isHouse ⟨rfl, rfl⟩ (na := 1) rfl (by decide +kernel) (by decide) (by decide) rfl rfl hK hP hD hS hA hl.1 rfl (Nat.le_of_ble_eq_true rfl) ⟨Nat.zero_le _, Nat.zero_le _⟩ dX10_net_2 (fun r_1 I_1 R_1 J_1 H locs hp_1 hP hD hS _ _ => ?_)
  obtain ⟨rfl, hu_1⟩ := hp_1
  cases hu_1
  refine lv_if_eq (tgt := 19) hx hb dX10_net_5 (by decide) (fun _ => ?_) (fun c_0 => absurd (by decide +kernel) c_0)
  refine lv_ldc (v := (-100000)) hx hb hown (ht _ hw_3_139) dX10_net_19 ?_
  exact z_iret (v := (-100000)) hx hb hr hlocks hP hD hS dX10_net_21 rfl
set_option maxHeartbeats 4000000 in
set_option maxRecDepth 100000 in
theorem kX10_steal (l : Launch) (D : va_G) (q : Nat → Nat) (cA : Nat → ClassId)  (h : Int32) (t : Int32) (d : Int32)  : zMi l D vwCl (zXtys cA) 81 q (zXd q cA) yX10_steal cX10_steal 4 (some .int) ({ frames := 1, cells := 0, slots := 0, locals := 21 } : Room) [.ref (q 0), .int (h), .int (t), .int (d)] (zXI0, zXR0, zXJ0) (fun r _ => r = (-2)) := by
  intro sz
  refine z_body (by decide +kernel) (Nat.le_of_ble_eq_true rfl) (fun p e s m below meth c ls hx hb hml hr ht hown hlocks hsz hK hP hD hS hl => ?_)
  have hA : ∀ a, s.heap.size ≤ a → zA 81 q sz a := fun a h => Or.inr (hsz ▸ h)
  have hl : lv_has ls 4 [(0, .ref (q 0)), (1, .int (h)), (2, .int (t)), (3, .int (d))] := hl
  refine lv_aload_n hx hb dX10_steal_0 rfl (lv_at hl 0 rfl) ?_
  refine lv_iload_n hx hb dX10_steal_1 rfl (lv_at hl 1 rfl) ?_
  refine z_callVi (k := 0) (As := [.int (h)]) (rest := []) hx hb hml hown ht (kX10_isHouse l D q cA (h)) hw_3_59 hmX10_isHouse ⟨rfl, rfl⟩ (na := 1) rfl (by decide +kernel) (by decide) (by decide) rfl rfl hK hP hD hS hA hl.1 rfl (Nat.le_of_ble_eq_true rfl) ⟨Nat.zero_le _, Nat.zero_le _⟩ dX10_steal_2 (fun r_1 I_1 R_1 J_1 H locs hp_1 hP hD hS _ _ => ?_)
  obtain ⟨rfl, hu_1⟩ := hp_1
  cases hu_1
  refine lv_if_eq (tgt := 27) hx hb dX10_steal_5 (by decide) (fun _ => ?_) (fun c_0 => absurd (by decide +kernel) c_0)
  refine lv_bipush (v := (-2)) hx hb dX10_steal_27 (by decide +kernel) ?_
  exact z_iret (v := (-2)) hx hb hr hlocks hP hD hS dX10_steal_29 rfl
set_option maxHeartbeats 4000000 in
set_option maxRecDepth 100000 in
theorem kX10_sell (l : Launch) (D : va_G) (q : Nat → Nat) (cA : Nat → ClassId)  (x : Int32) (h : Int32)  : zMi l D vwCl (zXtys cA) 81 q (zXd q cA) yX10_sell cX10_sell 3 (some .int) ({ frames := 1, cells := 0, slots := 0, locals := 21 } : Room) [.ref (q 0), .int (x), .int (h)] (zXI0, zXR0, zXJ0) (fun r _ => r = (-2)) := by
  intro sz
  refine z_body (by decide +kernel) (Nat.le_of_ble_eq_true rfl) (fun p e s m below meth c ls hx hb hml hr ht hown hlocks hsz hK hP hD hS hl => ?_)
  have hA : ∀ a, s.heap.size ≤ a → zA 81 q sz a := fun a h => Or.inr (hsz ▸ h)
  have hl : lv_has ls 3 [(0, .ref (q 0)), (1, .int (x)), (2, .int (h))] := hl
  refine lv_aload_n hx hb dX10_sell_0 rfl (lv_at hl 0 rfl) ?_
  refine lv_iload_n hx hb dX10_sell_1 rfl (lv_at hl 1 rfl) ?_
  refine z_callVi (k := 0) (As := [.int (x)]) (rest := []) hx hb hml hown ht (kX10_isPaper l D q cA (x)) hw_3_107 hmX10_isPaper ⟨rfl, rfl⟩ (na := 1) rfl (by decide +kernel) (by decide) (by decide) rfl rfl hK hP hD hS hA hl.1 rfl (Nat.le_of_ble_eq_true rfl) ⟨Nat.zero_le _, Nat.zero_le _⟩ dX10_sell_2 (fun r_1 I_1 R_1 J_1 H locs hp_1 hP hD hS _ _ => ?_)
  obtain ⟨rfl, hu_1⟩ := hp_1
  cases hu_1
  refine lv_if_eq (tgt := 16) hx hb dX10_sell_5 (by decide) (fun _ => ?_) (fun c_0 => absurd (by decide +kernel) c_0)
  refine lv_bipush (v := (-2)) hx hb dX10_sell_16 (by decide +kernel) ?_
  exact z_iret (v := (-2)) hx hb hr hlocks hP hD hS dX10_sell_18 rfl
set_option maxHeartbeats 4000000 in
set_option maxRecDepth 100000 in
theorem kX10_brings (l : Launch) (D : va_G) (q : Nat → Nat) (cA : Nat → ClassId)  (x : Int32)  : zMi l D vwCl (zXtys cA) 81 q (zXd q cA) yX10_brings cX10_brings 2 (some .int) ({ frames := 1, cells := 0, slots := 0, locals := 21 } : Room) [.ref (q 0), .int (x)] (zXI0, zXR0, zXJ0) (fun r _ => r = (-2)) := by
  intro sz
  refine z_body (by decide +kernel) (Nat.le_of_ble_eq_true rfl) (fun p e s m below meth c ls hx hb hml hr ht hown hlocks hsz hK hP hD hS hl => ?_)
  have hA : ∀ a, s.heap.size ≤ a → zA 81 q sz a := fun a h => Or.inr (hsz ▸ h)
  have hl : lv_has ls 2 [(0, .ref (q 0)), (1, .int (x))] := hl
  refine lv_aload_n hx hb dX10_brings_0 rfl (lv_at hl 0 rfl) ?_
  refine lv_iload_n hx hb dX10_brings_1 rfl (lv_at hl 1 rfl) ?_
  refine z_callVi (k := 0) (As := [.int (x)]) (rest := []) hx hb hml hown ht (kX10_isPaper l D q cA (x)) hw_3_107 hmX10_isPaper ⟨rfl, rfl⟩ (na := 1) rfl (by decide +kernel) (by decide) (by decide) rfl rfl hK hP hD hS hA hl.1 rfl (Nat.le_of_ble_eq_true rfl) ⟨Nat.zero_le _, Nat.zero_le _⟩ dX10_brings_2 (fun r_1 I_1 R_1 J_1 H locs hp_1 hP hD hS _ _ => ?_)
  obtain ⟨rfl, hu_1⟩ := hp_1
  cases hu_1
  refine lv_if_ne (tgt := 11) hx hb dX10_brings_5 (by decide) (fun c_0 => absurd (by decide +kernel) c_0) (fun _ => ?_)
  refine lv_bipush (v := (-2)) hx hb dX10_brings_8 (by decide +kernel) ?_
  exact z_iret (v := (-2)) hx hb hr hlocks hP hD hS dX10_brings_10 rfl
set_option maxHeartbeats 4000000 in
set_option maxRecDepth 100000 in
theorem kX10_strike (l : Launch) (D : va_G) (q : Nat → Nat) (cA : Nat → ClassId)  (x : Int32)  : zMi l D vwCl (zXtys cA) 81 q (zXd q cA) yX10_strike cX10_strike 2 (some .int) ({ frames := 1, cells := 0, slots := 0, locals := 21 } : Room) [.ref (q 0), .int (x)] (zXI0, zXR0, zXJ0) (fun r _ => r = (-2)) := by
  intro sz
  refine z_body (by decide +kernel) (Nat.le_of_ble_eq_true rfl) (fun p e s m below meth c ls hx hb hml hr ht hown hlocks hsz hK hP hD hS hl => ?_)
  have hA : ∀ a, s.heap.size ≤ a → zA 81 q sz a := fun a h => Or.inr (hsz ▸ h)
  have hl : lv_has ls 2 [(0, .ref (q 0)), (1, .int (x))] := hl
  refine lv_aload_n hx hb dX10_strike_0 rfl (lv_at hl 0 rfl) ?_
  refine lv_iload_n hx hb dX10_strike_1 rfl (lv_at hl 1 rfl) ?_
  refine z_callVi (k := 0) (As := [.int (x)]) (rest := []) hx hb hml hown ht (kX10_isPaper l D q cA (x)) hw_3_107 hmX10_isPaper ⟨rfl, rfl⟩ (na := 1) rfl (by decide +kernel) (by decide) (by decide) rfl rfl hK hP hD hS hA hl.1 rfl (Nat.le_of_ble_eq_true rfl) ⟨Nat.zero_le _, Nat.zero_le _⟩ dX10_strike_2 (fun r_1 I_1 R_1 J_1 H locs hp_1 hP hD hS _ _ => ?_)
  obtain ⟨rfl, hu_1⟩ := hp_1
  cases hu_1
  refine lv_if_ne (tgt := 11) hx hb dX10_strike_5 (by decide) (fun c_0 => absurd (by decide +kernel) c_0) (fun _ => ?_)
  refine lv_bipush (v := (-2)) hx hb dX10_strike_8 (by decide +kernel) ?_
  exact z_iret (v := (-2)) hx hb hr hlocks hP hD hS dX10_strike_10 rfl
set_option maxHeartbeats 4000000 in
set_option maxRecDepth 100000 in
theorem kX10_lock (l : Launch) (D : va_G) (q : Nat → Nat) (cA : Nat → ClassId)  (h : Int32) (w : Int32)  : zMi l D vwCl (zXtys cA) 81 q (zXd q cA) yX10_lock cX10_lock 3 (some .int) ({ frames := 1, cells := 0, slots := 0, locals := 21 } : Room) [.ref (q 0), .int (h), .int (w)] (zXI0, zXR0, zXJ0) (fun r _ => r = (-2)) := by
  intro sz
  refine z_body (by decide +kernel) (Nat.le_of_ble_eq_true rfl) (fun p e s m below meth c ls hx hb hml hr ht hown hlocks hsz hK hP hD hS hl => ?_)
  have hA : ∀ a, s.heap.size ≤ a → zA 81 q sz a := fun a h => Or.inr (hsz ▸ h)
  have hl : lv_has ls 3 [(0, .ref (q 0)), (1, .int (h)), (2, .int (w))] := hl
  refine lv_aload_n hx hb dX10_lock_0 rfl (lv_at hl 0 rfl) ?_
  refine lv_iload_n hx hb dX10_lock_1 rfl (lv_at hl 1 rfl) ?_
  refine z_callVi (k := 0) (As := [.int (h)]) (rest := []) hx hb hml hown ht (kX10_isHouse l D q cA (h)) hw_3_59 hmX10_isHouse ⟨rfl, rfl⟩ (na := 1) rfl (by decide +kernel) (by decide) (by decide) rfl rfl hK hP hD hS hA hl.1 rfl (Nat.le_of_ble_eq_true rfl) ⟨Nat.zero_le _, Nat.zero_le _⟩ dX10_lock_2 (fun r_1 I_1 R_1 J_1 H locs hp_1 hP hD hS _ _ => ?_)
  obtain ⟨rfl, hu_1⟩ := hp_1
  cases hu_1
  refine lv_if_eq (tgt := 17) hx hb dX10_lock_5 (by decide) (fun _ => ?_) (fun c_0 => absurd (by decide +kernel) c_0)
  refine lv_bipush (v := (-2)) hx hb dX10_lock_17 (by decide +kernel) ?_
  exact z_iret (v := (-2)) hx hb hr hlocks hP hD hS dX10_lock_19 rfl
set_option maxHeartbeats 4000000 in
set_option maxRecDepth 100000 in
theorem kX10_night (l : Launch) (D : va_G) (q : Nat → Nat) (cA : Nat → ClassId)    : zMi l D vwCl (zXtys cA) 81 q (zXd q cA) yX10_night cX10_night 1 (some .int) ({ frames := 1, cells := 0, slots := 0, locals := 20 } : Room) [.ref (q 0)] (zXI0, zXR0, zXJ0) (fun r _ => r = (-2)) := by
  intro sz
  refine z_body (by decide +kernel) (Nat.le_of_ble_eq_true rfl) (fun p e s m below meth c ls hx hb hml hr ht hown hlocks hsz hK hP hD hS hl => ?_)
  have hA : ∀ a, s.heap.size ≤ a → zA 81 q sz a := fun a h => Or.inr (hsz ▸ h)
  have hl : lv_has ls 1 [(0, .ref (q 0))] := hl
  refine lv_aload_n hx hb dX10_night_0 rfl (lv_at hl 0 rfl) ?_
  refine z_callVi (k := 0) (As := []) (rest := []) hx hb hml hown ht (kX10_hasCity l D q cA ) hw_4_0 hmX10_hasCity ⟨rfl, rfl⟩ (na := 0) rfl (by decide +kernel) (by decide) (by decide) rfl rfl hK hP hD hS hA hl.1 rfl (Nat.le_of_ble_eq_true rfl) ⟨Nat.zero_le _, Nat.zero_le _⟩ dX10_night_1 (fun r_1 I_1 R_1 J_1 H locs hp_1 hP hD hS _ _ => ?_)
  obtain ⟨rfl, hu_1⟩ := hp_1
  cases hu_1
  refine lv_if_ne (tgt := 10) hx hb dX10_night_4 (by decide) (fun c_0 => absurd (by decide +kernel) c_0) (fun _ => ?_)
  refine lv_bipush (v := (-2)) hx hb dX10_night_7 (by decide +kernel) ?_
  exact z_iret (v := (-2)) hx hb hr hlocks hP hD hS dX10_night_9 rfl
set_option maxHeartbeats 4000000 in
set_option maxRecDepth 100000 in
theorem kX10_undo (l : Launch) (D : va_G) (q : Nat → Nat) (cA : Nat → ClassId)    : zMi l D vwCl (zXtys cA) 81 q (zXd q cA) yX10_undo cX10_undo 1 (some .int) ({ frames := 1, cells := 0, slots := 0, locals := 20 } : Room) [.ref (q 0)] (zXI0, zXR0, zXJ0) (fun r _ => r = (-2)) := by
  intro sz
  refine z_body (by decide +kernel) (Nat.le_of_ble_eq_true rfl) (fun p e s m below meth c ls hx hb hml hr ht hown hlocks hsz hK hP hD hS hl => ?_)
  have hA : ∀ a, s.heap.size ≤ a → zA 81 q sz a := fun a h => Or.inr (hsz ▸ h)
  have hl : lv_has ls 1 [(0, .ref (q 0))] := hl
  refine lv_aload_n hx hb dX10_undo_0 rfl (lv_at hl 0 rfl) ?_
  refine z_callVi (k := 0) (As := []) (rest := []) hx hb hml hown ht (kX10_hasCity l D q cA ) hw_4_0 hmX10_hasCity ⟨rfl, rfl⟩ (na := 0) rfl (by decide +kernel) (by decide) (by decide) rfl rfl hK hP hD hS hA hl.1 rfl (Nat.le_of_ble_eq_true rfl) ⟨Nat.zero_le _, Nat.zero_le _⟩ dX10_undo_1 (fun r_1 I_1 R_1 J_1 H locs hp_1 hP hD hS _ _ => ?_)
  obtain ⟨rfl, hu_1⟩ := hp_1
  cases hu_1
  refine lv_if_ne (tgt := 10) hx hb dX10_undo_4 (by decide) (fun c_0 => absurd (by decide +kernel) c_0) (fun _ => ?_)
  refine lv_bipush (v := (-2)) hx hb dX10_undo_7 (by decide +kernel) ?_
  exact z_iret (v := (-2)) hx hb hr hlocks hP hD hS dX10_undo_9 rfl
set_option maxHeartbeats 4000000 in
set_option maxRecDepth 100000 in
theorem kX10_anew (l : Launch) (D : va_G) (q : Nat → Nat) (cA : Nat → ClassId)    : zMi l D vwCl (zXtys cA) 81 q (zXd q cA) yX10_anew cX10_anew 2 (some .int) ({ frames := 1, cells := 0, slots := 0, locals := 20 } : Room) [.ref (q 0)] (zXI0, zXR0, zXJ0) (fun r _ => r = (-2)) := by
  intro sz
  refine z_body (by decide +kernel) (Nat.le_of_ble_eq_true rfl) (fun p e s m below meth c ls hx hb hml hr ht hown hlocks hsz hK hP hD hS hl => ?_)
  have hA : ∀ a, s.heap.size ≤ a → zA 81 q sz a := fun a h => Or.inr (hsz ▸ h)
  have hl : lv_has ls 2 [(0, .ref (q 0))] := hl
  refine lv_aload_n hx hb dX10_anew_0 rfl (lv_at hl 0 rfl) ?_
  refine z_callVi (k := 0) (As := []) (rest := []) hx hb hml hown ht (kX10_hasCity l D q cA ) hw_4_0 hmX10_hasCity ⟨rfl, rfl⟩ (na := 0) rfl (by decide +kernel) (by decide) (by decide) rfl rfl hK hP hD hS hA hl.1 rfl (Nat.le_of_ble_eq_true rfl) ⟨Nat.zero_le _, Nat.zero_le _⟩ dX10_anew_1 (fun r_1 I_1 R_1 J_1 H locs hp_1 hP hD hS _ _ => ?_)
  obtain ⟨rfl, hu_1⟩ := hp_1
  cases hu_1
  refine lv_if_ne (tgt := 10) hx hb dX10_anew_4 (by decide) (fun c_0 => absurd (by decide +kernel) c_0) (fun _ => ?_)
  refine lv_bipush (v := (-2)) hx hb dX10_anew_7 (by decide +kernel) ?_
  exact z_iret (v := (-2)) hx hb hr hlocks hP hD hS dX10_anew_9 rfl
set_option maxHeartbeats 4000000 in
set_option maxRecDepth 100000 in
theorem kX10_now (l : Launch) (D : va_G) (q : Nat → Nat) (cA : Nat → ClassId)  (w : Int32)  : zMi l D vwCl (zXtys cA) 81 q (zXd q cA) yX10_now cX10_now 2 (some .int) ({ frames := 1, cells := 0, slots := 0, locals := 20 } : Room) [.ref (q 0), .int (w)] (zXI0, zXR0, zXJ0) (fun r _ => r = (-2)) := by
  intro sz
  refine z_body (by decide +kernel) (Nat.le_of_ble_eq_true rfl) (fun p e s m below meth c ls hx hb hml hr ht hown hlocks hsz hK hP hD hS hl => ?_)
  have hA : ∀ a, s.heap.size ≤ a → zA 81 q sz a := fun a h => Or.inr (hsz ▸ h)
  have hl : lv_has ls 2 [(0, .ref (q 0)), (1, .int (w))] := hl
  refine lv_aload_n hx hb dX10_now_0 rfl (lv_at hl 0 rfl) ?_
  refine z_callVi (k := 0) (As := []) (rest := []) hx hb hml hown ht (kX10_hasCity l D q cA ) hw_4_0 hmX10_hasCity ⟨rfl, rfl⟩ (na := 0) rfl (by decide +kernel) (by decide) (by decide) rfl rfl hK hP hD hS hA hl.1 rfl (Nat.le_of_ble_eq_true rfl) ⟨Nat.zero_le _, Nat.zero_le _⟩ dX10_now_1 (fun r_1 I_1 R_1 J_1 H locs hp_1 hP hD hS _ _ => ?_)
  obtain ⟨rfl, hu_1⟩ := hp_1
  cases hu_1
  refine lv_if_ne (tgt := 10) hx hb dX10_now_4 (by decide) (fun c_0 => absurd (by decide +kernel) c_0) (fun _ => ?_)
  refine lv_bipush (v := (-2)) hx hb dX10_now_7 (by decide +kernel) ?_
  exact z_iret (v := (-2)) hx hb hr hlocks hP hD hS dX10_now_9 rfl
set_option maxHeartbeats 4000000 in
set_option maxRecDepth 100000 in
theorem kX10_owner (l : Launch) (D : va_G) (q : Nat → Nat) (cA : Nat → ClassId)  (t : Int32)  : zMi l D vwCl (zXtys cA) 81 q (zXd q cA) yX10_owner cX10_owner 2 (some .int) ({ frames := 1, cells := 0, slots := 0, locals := 21 } : Room) [.ref (q 0), .int (t)] (zXI0, zXR0, zXJ0) (fun r _ => r = (-2)) := by
  intro sz
  refine z_body (by decide +kernel) (Nat.le_of_ble_eq_true rfl) (fun p e s m below meth c ls hx hb hml hr ht hown hlocks hsz hK hP hD hS hl => ?_)
  have hA : ∀ a, s.heap.size ≤ a → zA 81 q sz a := fun a h => Or.inr (hsz ▸ h)
  have hl : lv_has ls 2 [(0, .ref (q 0)), (1, .int (t))] := hl
  refine lv_aload_n hx hb dX10_owner_0 rfl (lv_at hl 0 rfl) ?_
  refine lv_iload_n hx hb dX10_owner_1 rfl (lv_at hl 1 rfl) ?_
  refine z_callVi (k := 0) (As := [.int (t)]) (rest := []) hx hb hml hown ht (kX10_isThing l D q cA (t)) hw_3_87 hmX10_isThing ⟨rfl, rfl⟩ (na := 1) rfl (by decide +kernel) (by decide) (by decide) rfl rfl hK hP hD hS hA hl.1 rfl (Nat.le_of_ble_eq_true rfl) ⟨Nat.zero_le _, Nat.zero_le _⟩ dX10_owner_2 (fun r_1 I_1 R_1 J_1 H locs hp_1 hP hD hS _ _ => ?_)
  obtain ⟨rfl, hu_1⟩ := hp_1
  cases hu_1
  refine lv_if_ne (tgt := 11) hx hb dX10_owner_5 (by decide) (fun c_0 => absurd (by decide +kernel) c_0) (fun _ => ?_)
  refine lv_bipush (v := (-2)) hx hb dX10_owner_8 (by decide +kernel) ?_
  exact z_iret (v := (-2)) hx hb hr hlocks hP hD hS dX10_owner_10 rfl
set_option maxHeartbeats 4000000 in
set_option maxRecDepth 100000 in
theorem kX10_chain (l : Launch) (D : va_G) (q : Nat → Nat) (cA : Nat → ClassId)  (t : Int32) (i : Int32)  : zMi l D vwCl (zXtys cA) 81 q (zXd q cA) yX10_chain cX10_chain 3 (some .int) ({ frames := 1, cells := 0, slots := 0, locals := 21 } : Room) [.ref (q 0), .int (t), .int (i)] (zXI0, zXR0, zXJ0) (fun r _ => r = (-2)) := by
  intro sz
  refine z_body (by decide +kernel) (Nat.le_of_ble_eq_true rfl) (fun p e s m below meth c ls hx hb hml hr ht hown hlocks hsz hK hP hD hS hl => ?_)
  have hA : ∀ a, s.heap.size ≤ a → zA 81 q sz a := fun a h => Or.inr (hsz ▸ h)
  have hl : lv_has ls 3 [(0, .ref (q 0)), (1, .int (t)), (2, .int (i))] := hl
  refine lv_aload_n hx hb dX10_chain_0 rfl (lv_at hl 0 rfl) ?_
  refine lv_iload_n hx hb dX10_chain_1 rfl (lv_at hl 1 rfl) ?_
  refine z_callVi (k := 0) (As := [.int (t)]) (rest := []) hx hb hml hown ht (kX10_isThing l D q cA (t)) hw_3_87 hmX10_isThing ⟨rfl, rfl⟩ (na := 1) rfl (by decide +kernel) (by decide) (by decide) rfl rfl hK hP hD hS hA hl.1 rfl (Nat.le_of_ble_eq_true rfl) ⟨Nat.zero_le _, Nat.zero_le _⟩ dX10_chain_2 (fun r_1 I_1 R_1 J_1 H locs hp_1 hP hD hS _ _ => ?_)
  obtain ⟨rfl, hu_1⟩ := hp_1
  cases hu_1
  refine lv_if_ne (tgt := 11) hx hb dX10_chain_5 (by decide) (fun c_0 => absurd (by decide +kernel) c_0) (fun _ => ?_)
  refine lv_bipush (v := (-2)) hx hb dX10_chain_8 (by decide +kernel) ?_
  exact z_iret (v := (-2)) hx hb hr hlocks hP hD hS dX10_chain_10 rfl
set_option maxHeartbeats 4000000 in
set_option maxRecDepth 100000 in
theorem kX10_rings (l : Launch) (D : va_G) (q : Nat → Nat) (cA : Nat → ClassId)    : zMi l D vwCl (zXtys cA) 81 q (zXd q cA) yX10_rings cX10_rings 1 (some .int) ({ frames := 1, cells := 0, slots := 0, locals := 20 } : Room) [.ref (q 0)] (zXI0, zXR0, zXJ0) (fun r _ => r = (-2)) := by
  intro sz
  refine z_body (by decide +kernel) (Nat.le_of_ble_eq_true rfl) (fun p e s m below meth c ls hx hb hml hr ht hown hlocks hsz hK hP hD hS hl => ?_)
  have hA : ∀ a, s.heap.size ≤ a → zA 81 q sz a := fun a h => Or.inr (hsz ▸ h)
  have hl : lv_has ls 1 [(0, .ref (q 0))] := hl
  refine lv_aload_n hx hb dX10_rings_0 rfl (lv_at hl 0 rfl) ?_
  refine z_callVi (k := 0) (As := []) (rest := []) hx hb hml hown ht (kX10_hasCity l D q cA ) hw_4_0 hmX10_hasCity ⟨rfl, rfl⟩ (na := 0) rfl (by decide +kernel) (by decide) (by decide) rfl rfl hK hP hD hS hA hl.1 rfl (Nat.le_of_ble_eq_true rfl) ⟨Nat.zero_le _, Nat.zero_le _⟩ dX10_rings_1 (fun r_1 I_1 R_1 J_1 H locs hp_1 hP hD hS _ _ => ?_)
  obtain ⟨rfl, hu_1⟩ := hp_1
  cases hu_1
  refine lv_if_eq (tgt := 15) hx hb dX10_rings_4 (by decide) (fun _ => ?_) (fun c_0 => absurd (by decide +kernel) c_0)
  refine lv_bipush (v := (-2)) hx hb dX10_rings_15 (by decide +kernel) ?_
  exact z_iret (v := (-2)) hx hb hr hlocks hP hD hS dX10_rings_17 rfl
set_option maxHeartbeats 4000000 in
set_option maxRecDepth 100000 in
theorem kX10_owns (l : Launch) (D : va_G) (q : Nat → Nat) (cA : Nat → ClassId)  (h : Int32)  : zMi l D vwCl (zXtys cA) 81 q (zXd q cA) yX10_owns cX10_owns 2 (some .int) ({ frames := 1, cells := 0, slots := 0, locals := 21 } : Room) [.ref (q 0), .int (h)] (zXI0, zXR0, zXJ0) (fun r _ => r = (-2)) := by
  intro sz
  refine z_body (by decide +kernel) (Nat.le_of_ble_eq_true rfl) (fun p e s m below meth c ls hx hb hml hr ht hown hlocks hsz hK hP hD hS hl => ?_)
  have hA : ∀ a, s.heap.size ≤ a → zA 81 q sz a := fun a h => Or.inr (hsz ▸ h)
  have hl : lv_has ls 2 [(0, .ref (q 0)), (1, .int (h))] := hl
  refine lv_aload_n hx hb dX10_owns_0 rfl (lv_at hl 0 rfl) ?_
  refine lv_iload_n hx hb dX10_owns_1 rfl (lv_at hl 1 rfl) ?_
  refine z_callVi (k := 0) (As := [.int (h)]) (rest := []) hx hb hml hown ht (kX10_isHouse l D q cA (h)) hw_3_59 hmX10_isHouse ⟨rfl, rfl⟩ (na := 1) rfl (by decide +kernel) (by decide) (by decide) rfl rfl hK hP hD hS hA hl.1 rfl (Nat.le_of_ble_eq_true rfl) ⟨Nat.zero_le _, Nat.zero_le _⟩ dX10_owns_2 (fun r_1 I_1 R_1 J_1 H locs hp_1 hP hD hS _ _ => ?_)
  obtain ⟨rfl, hu_1⟩ := hp_1
  cases hu_1
  refine lv_if_eq (tgt := 16) hx hb dX10_owns_5 (by decide) (fun _ => ?_) (fun c_0 => absurd (by decide +kernel) c_0)
  refine lv_bipush (v := (-2)) hx hb dX10_owns_16 (by decide +kernel) ?_
  exact z_iret (v := (-2)) hx hb hr hlocks hP hD hS dX10_owns_18 rfl
set_option maxHeartbeats 4000000 in
set_option maxRecDepth 100000 in
theorem kX10_twice (l : Launch) (D : va_G) (q : Nat → Nat) (cA : Nat → ClassId)    : zMi l D vwCl (zXtys cA) 81 q (zXd q cA) yX10_twice cX10_twice 1 (some .int) ({ frames := 1, cells := 0, slots := 0, locals := 20 } : Room) [.ref (q 0)] (zXI0, zXR0, zXJ0) (fun r _ => r = (-2)) := by
  intro sz
  refine z_body (by decide +kernel) (Nat.le_of_ble_eq_true rfl) (fun p e s m below meth c ls hx hb hml hr ht hown hlocks hsz hK hP hD hS hl => ?_)
  have hA : ∀ a, s.heap.size ≤ a → zA 81 q sz a := fun a h => Or.inr (hsz ▸ h)
  have hl : lv_has ls 1 [(0, .ref (q 0))] := hl
  refine lv_aload_n hx hb dX10_twice_0 rfl (lv_at hl 0 rfl) ?_
  refine z_callVi (k := 0) (As := []) (rest := []) hx hb hml hown ht (kX10_hasCity l D q cA ) hw_4_0 hmX10_hasCity ⟨rfl, rfl⟩ (na := 0) rfl (by decide +kernel) (by decide) (by decide) rfl rfl hK hP hD hS hA hl.1 rfl (Nat.le_of_ble_eq_true rfl) ⟨Nat.zero_le _, Nat.zero_le _⟩ dX10_twice_1 (fun r_1 I_1 R_1 J_1 H locs hp_1 hP hD hS _ _ => ?_)
  obtain ⟨rfl, hu_1⟩ := hp_1
  cases hu_1
  refine lv_if_eq (tgt := 21) hx hb dX10_twice_4 (by decide) (fun _ => ?_) (fun c_0 => absurd (by decide +kernel) c_0)
  refine lv_bipush (v := (-2)) hx hb dX10_twice_21 (by decide +kernel) ?_
  exact z_iret (v := (-2)) hx hb hr hlocks hP hD hS dX10_twice_23 rfl
set_option maxHeartbeats 4000000 in
set_option maxRecDepth 100000 in
theorem kX10_strikes (l : Launch) (D : va_G) (q : Nat → Nat) (cA : Nat → ClassId)    : zMi l D vwCl (zXtys cA) 81 q (zXd q cA) yX10_strikes cX10_strikes 1 (some .int) ({ frames := 1, cells := 0, slots := 0, locals := 20 } : Room) [.ref (q 0)] (zXI0, zXR0, zXJ0) (fun r _ => r = (-2)) := by
  intro sz
  refine z_body (by decide +kernel) (Nat.le_of_ble_eq_true rfl) (fun p e s m below meth c ls hx hb hml hr ht hown hlocks hsz hK hP hD hS hl => ?_)
  have hA : ∀ a, s.heap.size ≤ a → zA 81 q sz a := fun a h => Or.inr (hsz ▸ h)
  have hl : lv_has ls 1 [(0, .ref (q 0))] := hl
  refine lv_aload_n hx hb dX10_strikes_0 rfl (lv_at hl 0 rfl) ?_
  refine z_callVi (k := 0) (As := []) (rest := []) hx hb hml hown ht (kX10_hasCity l D q cA ) hw_4_0 hmX10_hasCity ⟨rfl, rfl⟩ (na := 0) rfl (by decide +kernel) (by decide) (by decide) rfl rfl hK hP hD hS hA hl.1 rfl (Nat.le_of_ble_eq_true rfl) ⟨Nat.zero_le _, Nat.zero_le _⟩ dX10_strikes_1 (fun r_1 I_1 R_1 J_1 H locs hp_1 hP hD hS _ _ => ?_)
  obtain ⟨rfl, hu_1⟩ := hp_1
  cases hu_1
  refine lv_if_eq (tgt := 24) hx hb dX10_strikes_4 (by decide) (fun _ => ?_) (fun c_0 => absurd (by decide +kernel) c_0)
  refine lv_bipush (v := (-2)) hx hb dX10_strikes_24 (by decide +kernel) ?_
  exact z_iret (v := (-2)) hx hb hr hlocks hP hD hS dX10_strikes_26 rfl
set_option maxHeartbeats 4000000 in
set_option maxRecDepth 100000 in
theorem kX10_struck (l : Launch) (D : va_G) (q : Nat → Nat) (cA : Nat → ClassId)    : zMi l D vwCl (zXtys cA) 81 q (zXd q cA) yX10_struck cX10_struck 1 (some .int) ({ frames := 1, cells := 0, slots := 0, locals := 20 } : Room) [.ref (q 0)] (zXI0, zXR0, zXJ0) (fun r _ => r = (-2)) := by
  intro sz
  refine z_body (by decide +kernel) (Nat.le_of_ble_eq_true rfl) (fun p e s m below meth c ls hx hb hml hr ht hown hlocks hsz hK hP hD hS hl => ?_)
  have hA : ∀ a, s.heap.size ≤ a → zA 81 q sz a := fun a h => Or.inr (hsz ▸ h)
  have hl : lv_has ls 1 [(0, .ref (q 0))] := hl
  refine lv_aload_n hx hb dX10_struck_0 rfl (lv_at hl 0 rfl) ?_
  refine z_callVi (k := 0) (As := []) (rest := []) hx hb hml hown ht (kX10_hasCity l D q cA ) hw_4_0 hmX10_hasCity ⟨rfl, rfl⟩ (na := 0) rfl (by decide +kernel) (by decide) (by decide) rfl rfl hK hP hD hS hA hl.1 rfl (Nat.le_of_ble_eq_true rfl) ⟨Nat.zero_le _, Nat.zero_le _⟩ dX10_struck_1 (fun r_1 I_1 R_1 J_1 H locs hp_1 hP hD hS _ _ => ?_)
  obtain ⟨rfl, hu_1⟩ := hp_1
  cases hu_1
  refine lv_if_eq (tgt := 21) hx hb dX10_struck_4 (by decide) (fun _ => ?_) (fun c_0 => absurd (by decide +kernel) c_0)
  refine lv_bipush (v := (-2)) hx hb dX10_struck_21 (by decide +kernel) ?_
  exact z_iret (v := (-2)) hx hb hr hlocks hP hD hS dX10_struck_23 rfl
set_option maxHeartbeats 4000000 in
set_option maxRecDepth 100000 in
theorem kX10_trail (l : Launch) (D : va_G) (q : Nat → Nat) (cA : Nat → ClassId)  (t : Int32) (i : Int32)  : zMi l D vwCl (zXtys cA) 81 q (zXd q cA) yX10_trail cX10_trail 3 (some .int) ({ frames := 1, cells := 0, slots := 0, locals := 21 } : Room) [.ref (q 0), .int (t), .int (i)] (zXI0, zXR0, zXJ0) (fun r _ => r = (-2)) := by
  intro sz
  refine z_body (by decide +kernel) (Nat.le_of_ble_eq_true rfl) (fun p e s m below meth c ls hx hb hml hr ht hown hlocks hsz hK hP hD hS hl => ?_)
  have hA : ∀ a, s.heap.size ≤ a → zA 81 q sz a := fun a h => Or.inr (hsz ▸ h)
  have hl : lv_has ls 3 [(0, .ref (q 0)), (1, .int (t)), (2, .int (i))] := hl
  refine lv_aload_n hx hb dX10_trail_0 rfl (lv_at hl 0 rfl) ?_
  refine lv_iload_n hx hb dX10_trail_1 rfl (lv_at hl 1 rfl) ?_
  refine z_callVi (k := 0) (As := [.int (t)]) (rest := []) hx hb hml hown ht (kX10_isThing l D q cA (t)) hw_3_87 hmX10_isThing ⟨rfl, rfl⟩ (na := 1) rfl (by decide +kernel) (by decide) (by decide) rfl rfl hK hP hD hS hA hl.1 rfl (Nat.le_of_ble_eq_true rfl) ⟨Nat.zero_le _, Nat.zero_le _⟩ dX10_trail_2 (fun r_1 I_1 R_1 J_1 H locs hp_1 hP hD hS _ _ => ?_)
  obtain ⟨rfl, hu_1⟩ := hp_1
  cases hu_1
  refine lv_if_ne (tgt := 11) hx hb dX10_trail_5 (by decide) (fun c_0 => absurd (by decide +kernel) c_0) (fun _ => ?_)
  refine lv_bipush (v := (-2)) hx hb dX10_trail_8 (by decide +kernel) ?_
  exact z_iret (v := (-2)) hx hb hr hlocks hP hD hS dX10_trail_10 rfl
set_option maxHeartbeats 4000000 in
set_option maxRecDepth 100000 in
theorem kX10_went (l : Launch) (D : va_G) (q : Nat → Nat) (cA : Nat → ClassId)  (t : Int32)  : zMi l D vwCl (zXtys cA) 81 q (zXd q cA) yX10_went cX10_went 2 (some .int) ({ frames := 1, cells := 0, slots := 0, locals := 21 } : Room) [.ref (q 0), .int (t)] (zXI0, zXR0, zXJ0) (fun r _ => r = (-2)) := by
  intro sz
  refine z_body (by decide +kernel) (Nat.le_of_ble_eq_true rfl) (fun p e s m below meth c ls hx hb hml hr ht hown hlocks hsz hK hP hD hS hl => ?_)
  have hA : ∀ a, s.heap.size ≤ a → zA 81 q sz a := fun a h => Or.inr (hsz ▸ h)
  have hl : lv_has ls 2 [(0, .ref (q 0)), (1, .int (t))] := hl
  refine lv_aload_n hx hb dX10_went_0 rfl (lv_at hl 0 rfl) ?_
  refine lv_iload_n hx hb dX10_went_1 rfl (lv_at hl 1 rfl) ?_
  refine z_callVi (k := 0) (As := [.int (t)]) (rest := []) hx hb hml hown ht (kX10_isThing l D q cA (t)) hw_3_87 hmX10_isThing ⟨rfl, rfl⟩ (na := 1) rfl (by decide +kernel) (by decide) (by decide) rfl rfl hK hP hD hS hA hl.1 rfl (Nat.le_of_ble_eq_true rfl) ⟨Nat.zero_le _, Nat.zero_le _⟩ dX10_went_2 (fun r_1 I_1 R_1 J_1 H locs hp_1 hP hD hS _ _ => ?_)
  obtain ⟨rfl, hu_1⟩ := hp_1
  cases hu_1
  refine lv_if_eq (tgt := 20) hx hb dX10_went_5 (by decide) (fun _ => ?_) (fun c_0 => absurd (by decide +kernel) c_0)
  refine lv_bipush (v := (-2)) hx hb dX10_went_20 (by decide +kernel) ?_
  exact z_iret (v := (-2)) hx hb hr hlocks hP hD hS dX10_went_22 rfl
set_option maxHeartbeats 4000000 in
set_option maxRecDepth 100000 in
theorem kX10_lies (l : Launch) (D : va_G) (q : Nat → Nat) (cA : Nat → ClassId)  (h : Int32)  : zMi l D vwCl (zXtys cA) 81 q (zXd q cA) yX10_lies cX10_lies 2 (some .int) ({ frames := 1, cells := 0, slots := 0, locals := 21 } : Room) [.ref (q 0), .int (h)] (zXI0, zXR0, zXJ0) (fun r _ => r = (-2)) := by
  intro sz
  refine z_body (by decide +kernel) (Nat.le_of_ble_eq_true rfl) (fun p e s m below meth c ls hx hb hml hr ht hown hlocks hsz hK hP hD hS hl => ?_)
  have hA : ∀ a, s.heap.size ≤ a → zA 81 q sz a := fun a h => Or.inr (hsz ▸ h)
  have hl : lv_has ls 2 [(0, .ref (q 0)), (1, .int (h))] := hl
  refine lv_aload_n hx hb dX10_lies_0 rfl (lv_at hl 0 rfl) ?_
  refine lv_iload_n hx hb dX10_lies_1 rfl (lv_at hl 1 rfl) ?_
  refine z_callVi (k := 0) (As := [.int (h)]) (rest := []) hx hb hml hown ht (kX10_isHouse l D q cA (h)) hw_3_59 hmX10_isHouse ⟨rfl, rfl⟩ (na := 1) rfl (by decide +kernel) (by decide) (by decide) rfl rfl hK hP hD hS hA hl.1 rfl (Nat.le_of_ble_eq_true rfl) ⟨Nat.zero_le _, Nat.zero_le _⟩ dX10_lies_2 (fun r_1 I_1 R_1 J_1 H locs hp_1 hP hD hS _ _ => ?_)
  obtain ⟨rfl, hu_1⟩ := hp_1
  cases hu_1
  refine lv_if_eq (tgt := 19) hx hb dX10_lies_5 (by decide) (fun _ => ?_) (fun c_0 => absurd (by decide +kernel) c_0)
  refine lv_bipush (v := (-2)) hx hb dX10_lies_19 (by decide +kernel) ?_
  exact z_iret (v := (-2)) hx hb hr hlocks hP hD hS dX10_lies_21 rfl
set_option maxHeartbeats 4000000 in
set_option maxRecDepth 100000 in
theorem kX10_poorest (l : Launch) (D : va_G) (q : Nat → Nat) (cA : Nat → ClassId)    : zMi l D vwCl (zXtys cA) 81 q (zXd q cA) yX10_poorest cX10_poorest 5 (some .int) ({ frames := 1, cells := 0, slots := 0, locals := 20 } : Room) [.ref (q 0)] (zXI0, zXR0, zXJ0) (fun r _ => r = (-2)) := by
  intro sz
  refine z_body (by decide +kernel) (Nat.le_of_ble_eq_true rfl) (fun p e s m below meth c ls hx hb hml hr ht hown hlocks hsz hK hP hD hS hl => ?_)
  have hA : ∀ a, s.heap.size ≤ a → zA 81 q sz a := fun a h => Or.inr (hsz ▸ h)
  have hl : lv_has ls 5 [(0, .ref (q 0))] := hl
  refine lv_aload_n hx hb dX10_poorest_0 rfl (lv_at hl 0 rfl) ?_
  refine z_callVi (k := 0) (As := []) (rest := []) hx hb hml hown ht (kX10_hasCity l D q cA ) hw_4_0 hmX10_hasCity ⟨rfl, rfl⟩ (na := 0) rfl (by decide +kernel) (by decide) (by decide) rfl rfl hK hP hD hS hA hl.1 rfl (Nat.le_of_ble_eq_true rfl) ⟨Nat.zero_le _, Nat.zero_le _⟩ dX10_poorest_1 (fun r_1 I_1 R_1 J_1 H locs hp_1 hP hD hS _ _ => ?_)
  obtain ⟨rfl, hu_1⟩ := hp_1
  cases hu_1
  refine lv_if_ne (tgt := 10) hx hb dX10_poorest_4 (by decide) (fun c_0 => absurd (by decide +kernel) c_0) (fun _ => ?_)
  refine lv_bipush (v := (-2)) hx hb dX10_poorest_7 (by decide +kernel) ?_
  exact z_iret (v := (-2)) hx hb hr hlocks hP hD hS dX10_poorest_9 rfl
set_option maxHeartbeats 4000000 in
set_option maxRecDepth 100000 in
theorem kX10_due (l : Launch) (D : va_G) (q : Nat → Nat) (cA : Nat → ClassId)  (d : Int32)  : zMi l D vwCl (zXtys cA) 81 q (zXd q cA) yX10_due cX10_due 2 (some .int) ({ frames := 1, cells := 0, slots := 0, locals := 20 } : Room) [.ref (q 0), .int (d)] (zXI0, zXR0, zXJ0) (fun r _ => r = (-2)) := by
  intro sz
  refine z_body (by decide +kernel) (Nat.le_of_ble_eq_true rfl) (fun p e s m below meth c ls hx hb hml hr ht hown hlocks hsz hK hP hD hS hl => ?_)
  have hA : ∀ a, s.heap.size ≤ a → zA 81 q sz a := fun a h => Or.inr (hsz ▸ h)
  have hl : lv_has ls 2 [(0, .ref (q 0)), (1, .int (d))] := hl
  refine lv_aload_n hx hb dX10_due_0 rfl (lv_at hl 0 rfl) ?_
  refine z_callVi (k := 0) (As := []) (rest := []) hx hb hml hown ht (kX10_hasCity l D q cA ) hw_4_0 hmX10_hasCity ⟨rfl, rfl⟩ (na := 0) rfl (by decide +kernel) (by decide) (by decide) rfl rfl hK hP hD hS hA hl.1 rfl (Nat.le_of_ble_eq_true rfl) ⟨Nat.zero_le _, Nat.zero_le _⟩ dX10_due_1 (fun r_1 I_1 R_1 J_1 H locs hp_1 hP hD hS _ _ => ?_)
  obtain ⟨rfl, hu_1⟩ := hp_1
  cases hu_1
  refine lv_if_eq (tgt := 17) hx hb dX10_due_4 (by decide) (fun _ => ?_) (fun c_0 => absurd (by decide +kernel) c_0)
  refine lv_bipush (v := (-2)) hx hb dX10_due_17 (by decide +kernel) ?_
  exact z_iret (v := (-2)) hx hb hr hlocks hP hD hS dX10_due_19 rfl
set_option maxHeartbeats 4000000 in
set_option maxRecDepth 100000 in
theorem kX10_monday (l : Launch) (D : va_G) (q : Nat → Nat) (cA : Nat → ClassId)    : zMi l D vwCl (zXtys cA) 81 q (zXd q cA) yX10_monday cX10_monday 5 (some .int) ({ frames := 1, cells := 0, slots := 0, locals := 20 } : Room) [.ref (q 0)] (zXI0, zXR0, zXJ0) (fun r _ => r = (-2)) := by
  intro sz
  refine z_body (by decide +kernel) (Nat.le_of_ble_eq_true rfl) (fun p e s m below meth c ls hx hb hml hr ht hown hlocks hsz hK hP hD hS hl => ?_)
  have hA : ∀ a, s.heap.size ≤ a → zA 81 q sz a := fun a h => Or.inr (hsz ▸ h)
  have hl : lv_has ls 5 [(0, .ref (q 0))] := hl
  refine lv_aload_n hx hb dX10_monday_0 rfl (lv_at hl 0 rfl) ?_
  refine z_callVi (k := 0) (As := []) (rest := []) hx hb hml hown ht (kX10_hasCity l D q cA ) hw_4_0 hmX10_hasCity ⟨rfl, rfl⟩ (na := 0) rfl (by decide +kernel) (by decide) (by decide) rfl rfl hK hP hD hS hA hl.1 rfl (Nat.le_of_ble_eq_true rfl) ⟨Nat.zero_le _, Nat.zero_le _⟩ dX10_monday_1 (fun r_1 I_1 R_1 J_1 H locs hp_1 hP hD hS _ _ => ?_)
  obtain ⟨rfl, hu_1⟩ := hp_1
  cases hu_1
  refine lv_if_ne (tgt := 10) hx hb dX10_monday_4 (by decide) (fun c_0 => absurd (by decide +kernel) c_0) (fun _ => ?_)
  refine lv_bipush (v := (-2)) hx hb dX10_monday_7 (by decide +kernel) ?_
  exact z_iret (v := (-2)) hx hb hr hlocks hP hD hS dX10_monday_9 rfl
set_option maxHeartbeats 4000000 in
set_option maxRecDepth 100000 in
theorem kX10_lacks (l : Launch) (D : va_G) (q : Nat → Nat) (cA : Nat → ClassId)  (h : Int32)  : zMi l D vwCl (zXtys cA) 81 q (zXd q cA) yX10_lacks cX10_lacks 2 (some .int) ({ frames := 1, cells := 0, slots := 0, locals := 21 } : Room) [.ref (q 0), .int (h)] (zXI0, zXR0, zXJ0) (fun r _ => r = (-2)) := by
  intro sz
  refine z_body (by decide +kernel) (Nat.le_of_ble_eq_true rfl) (fun p e s m below meth c ls hx hb hml hr ht hown hlocks hsz hK hP hD hS hl => ?_)
  have hA : ∀ a, s.heap.size ≤ a → zA 81 q sz a := fun a h => Or.inr (hsz ▸ h)
  have hl : lv_has ls 2 [(0, .ref (q 0)), (1, .int (h))] := hl
  refine lv_aload_n hx hb dX10_lacks_0 rfl (lv_at hl 0 rfl) ?_
  refine lv_iload_n hx hb dX10_lacks_1 rfl (lv_at hl 1 rfl) ?_
  refine z_callVi (k := 0) (As := [.int (h)]) (rest := []) hx hb hml hown ht (kX10_isHouse l D q cA (h)) hw_3_59 hmX10_isHouse ⟨rfl, rfl⟩ (na := 1) rfl (by decide +kernel) (by decide) (by decide) rfl rfl hK hP hD hS hA hl.1 rfl (Nat.le_of_ble_eq_true rfl) ⟨Nat.zero_le _, Nat.zero_le _⟩ dX10_lacks_2 (fun r_1 I_1 R_1 J_1 H locs hp_1 hP hD hS _ _ => ?_)
  obtain ⟨rfl, hu_1⟩ := hp_1
  cases hu_1
  refine lv_if_eq (tgt := 19) hx hb dX10_lacks_5 (by decide) (fun _ => ?_) (fun c_0 => absurd (by decide +kernel) c_0)
  refine lv_bipush (v := (-2)) hx hb dX10_lacks_19 (by decide +kernel) ?_
  exact z_iret (v := (-2)) hx hb hr hlocks hP hD hS dX10_lacks_21 rfl
set_option maxHeartbeats 4000000 in
set_option maxRecDepth 100000 in
theorem kX10_needs (l : Launch) (D : va_G) (q : Nat → Nat) (cA : Nat → ClassId)  (h : Int32)  : zMi l D vwCl (zXtys cA) 81 q (zXd q cA) yX10_needs cX10_needs 2 (some .int) ({ frames := 1, cells := 0, slots := 0, locals := 21 } : Room) [.ref (q 0), .int (h)] (zXI0, zXR0, zXJ0) (fun r _ => r = (-2)) := by
  intro sz
  refine z_body (by decide +kernel) (Nat.le_of_ble_eq_true rfl) (fun p e s m below meth c ls hx hb hml hr ht hown hlocks hsz hK hP hD hS hl => ?_)
  have hA : ∀ a, s.heap.size ≤ a → zA 81 q sz a := fun a h => Or.inr (hsz ▸ h)
  have hl : lv_has ls 2 [(0, .ref (q 0)), (1, .int (h))] := hl
  refine lv_aload_n hx hb dX10_needs_0 rfl (lv_at hl 0 rfl) ?_
  refine lv_iload_n hx hb dX10_needs_1 rfl (lv_at hl 1 rfl) ?_
  refine z_callVi (k := 0) (As := [.int (h)]) (rest := []) hx hb hml hown ht (kX10_isHouse l D q cA (h)) hw_3_59 hmX10_isHouse ⟨rfl, rfl⟩ (na := 1) rfl (by decide +kernel) (by decide) (by decide) rfl rfl hK hP hD hS hA hl.1 rfl (Nat.le_of_ble_eq_true rfl) ⟨Nat.zero_le _, Nat.zero_le _⟩ dX10_needs_2 (fun r_1 I_1 R_1 J_1 H locs hp_1 hP hD hS _ _ => ?_)
  obtain ⟨rfl, hu_1⟩ := hp_1
  cases hu_1
  refine lv_if_ne (tgt := 11) hx hb dX10_needs_5 (by decide) (fun c_0 => absurd (by decide +kernel) c_0) (fun _ => ?_)
  refine lv_bipush (v := (-2)) hx hb dX10_needs_8 (by decide +kernel) ?_
  exact z_iret (v := (-2)) hx hb hr hlocks hP hD hS dX10_needs_10 rfl
set_option maxHeartbeats 4000000 in
set_option maxRecDepth 100000 in
theorem kX10_fails (l : Launch) (D : va_G) (q : Nat → Nat) (cA : Nat → ClassId)  (n : Int32)  : zMi l D vwCl (zXtys cA) 81 q (zXd q cA) yX10_fails cX10_fails 2 (some .int) ({ frames := 1, cells := 0, slots := 0, locals := 20 } : Room) [.ref (q 0), .int (n)] (zXI0, zXR0, zXJ0) (fun r _ => r = (-2)) := by
  intro sz
  refine z_body (by decide +kernel) (Nat.le_of_ble_eq_true rfl) (fun p e s m below meth c ls hx hb hml hr ht hown hlocks hsz hK hP hD hS hl => ?_)
  have hA : ∀ a, s.heap.size ≤ a → zA 81 q sz a := fun a h => Or.inr (hsz ▸ h)
  have hl : lv_has ls 2 [(0, .ref (q 0)), (1, .int (n))] := hl
  refine lv_aload_n hx hb dX10_fails_0 rfl (lv_at hl 0 rfl) ?_
  refine z_callVi (k := 0) (As := []) (rest := []) hx hb hml hown ht (kX10_hasCity l D q cA ) hw_4_0 hmX10_hasCity ⟨rfl, rfl⟩ (na := 0) rfl (by decide +kernel) (by decide) (by decide) rfl rfl hK hP hD hS hA hl.1 rfl (Nat.le_of_ble_eq_true rfl) ⟨Nat.zero_le _, Nat.zero_le _⟩ dX10_fails_1 (fun r_1 I_1 R_1 J_1 H locs hp_1 hP hD hS _ _ => ?_)
  obtain ⟨rfl, hu_1⟩ := hp_1
  cases hu_1
  refine lv_if_eq (tgt := 22) hx hb dX10_fails_4 (by decide) (fun _ => ?_) (fun c_0 => absurd (by decide +kernel) c_0)
  refine lv_bipush (v := (-2)) hx hb dX10_fails_22 (by decide +kernel) ?_
  exact z_iret (v := (-2)) hx hb hr hlocks hP hD hS dX10_fails_24 rfl
set_option maxHeartbeats 4000000 in
set_option maxRecDepth 100000 in
theorem kX10_later (l : Launch) (D : va_G) (q : Nat → Nat) (cA : Nat → ClassId)  (t : Int32) (n : Int32)  : zMi l D vwCl (zXtys cA) 81 q (zXd q cA) yX10_later cX10_later 3 (some .int) ({ frames := 1, cells := 0, slots := 0, locals := 21 } : Room) [.ref (q 0), .int (t), .int (n)] (zXI0, zXR0, zXJ0) (fun r _ => r = (-2)) := by
  intro sz
  refine z_body (by decide +kernel) (Nat.le_of_ble_eq_true rfl) (fun p e s m below meth c ls hx hb hml hr ht hown hlocks hsz hK hP hD hS hl => ?_)
  have hA : ∀ a, s.heap.size ≤ a → zA 81 q sz a := fun a h => Or.inr (hsz ▸ h)
  have hl : lv_has ls 3 [(0, .ref (q 0)), (1, .int (t)), (2, .int (n))] := hl
  refine lv_aload_n hx hb dX10_later_0 rfl (lv_at hl 0 rfl) ?_
  refine lv_iload_n hx hb dX10_later_1 rfl (lv_at hl 1 rfl) ?_
  refine z_callVi (k := 0) (As := [.int (t)]) (rest := []) hx hb hml hown ht (kX10_isThing l D q cA (t)) hw_3_87 hmX10_isThing ⟨rfl, rfl⟩ (na := 1) rfl (by decide +kernel) (by decide) (by decide) rfl rfl hK hP hD hS hA hl.1 rfl (Nat.le_of_ble_eq_true rfl) ⟨Nat.zero_le _, Nat.zero_le _⟩ dX10_later_2 (fun r_1 I_1 R_1 J_1 H locs hp_1 hP hD hS _ _ => ?_)
  obtain ⟨rfl, hu_1⟩ := hp_1
  cases hu_1
  refine lv_if_eq (tgt := 15) hx hb dX10_later_5 (by decide) (fun _ => ?_) (fun c_0 => absurd (by decide +kernel) c_0)
  refine lv_bipush (v := (-2)) hx hb dX10_later_15 (by decide +kernel) ?_
  exact z_iret (v := (-2)) hx hb hr hlocks hP hD hS dX10_later_17 rfl
set_option maxHeartbeats 4000000 in
set_option maxRecDepth 100000 in
theorem kX10_purse (l : Launch) (D : va_G) (q : Nat → Nat) (cA : Nat → ClassId)  (h : Int32) (n : Int32)  : zMi l D vwCl (zXtys cA) 81 q (zXd q cA) yX10_purse cX10_purse 3 (some .int) ({ frames := 1, cells := 0, slots := 0, locals := 21 } : Room) [.ref (q 0), .int (h), .int (n)] (zXI0, zXR0, zXJ0) (fun r _ => r = (-2)) := by
  intro sz
  refine z_body (by decide +kernel) (Nat.le_of_ble_eq_true rfl) (fun p e s m below meth c ls hx hb hml hr ht hown hlocks hsz hK hP hD hS hl => ?_)
  have hA : ∀ a, s.heap.size ≤ a → zA 81 q sz a := fun a h => Or.inr (hsz ▸ h)
  have hl : lv_has ls 3 [(0, .ref (q 0)), (1, .int (h)), (2, .int (n))] := hl
  refine lv_aload_n hx hb dX10_purse_0 rfl (lv_at hl 0 rfl) ?_
  refine lv_iload_n hx hb dX10_purse_1 rfl (lv_at hl 1 rfl) ?_
  refine z_callVi (k := 0) (As := [.int (h)]) (rest := []) hx hb hml hown ht (kX10_isHouse l D q cA (h)) hw_3_59 hmX10_isHouse ⟨rfl, rfl⟩ (na := 1) rfl (by decide +kernel) (by decide) (by decide) rfl rfl hK hP hD hS hA hl.1 rfl (Nat.le_of_ble_eq_true rfl) ⟨Nat.zero_le _, Nat.zero_le _⟩ dX10_purse_2 (fun r_1 I_1 R_1 J_1 H locs hp_1 hP hD hS _ _ => ?_)
  obtain ⟨rfl, hu_1⟩ := hp_1
  cases hu_1
  refine lv_if_eq (tgt := 15) hx hb dX10_purse_5 (by decide) (fun _ => ?_) (fun c_0 => absurd (by decide +kernel) c_0)
  refine lv_bipush (v := (-2)) hx hb dX10_purse_15 (by decide +kernel) ?_
  exact z_iret (v := (-2)) hx hb hr hlocks hP hD hS dX10_purse_17 rfl
set_option maxHeartbeats 4000000 in
set_option maxRecDepth 100000 in
theorem kX10_run (l : Launch) (D : va_G) (q : Nat → Nat) (cA : Nat → ClassId)    : zMi l D vwCl (zXtys cA) 81 q (zXd q cA) yX10_run cX10_run 1 (some .int) ({ frames := 1, cells := 0, slots := 0, locals := 20 } : Room) [.ref (q 0)] (zXI0, zXR0, zXJ0) (fun r _ => r = (-2)) := by
  intro sz
  refine z_body (by decide +kernel) (Nat.le_of_ble_eq_true rfl) (fun p e s m below meth c ls hx hb hml hr ht hown hlocks hsz hK hP hD hS hl => ?_)
  have hA : ∀ a, s.heap.size ≤ a → zA 81 q sz a := fun a h => Or.inr (hsz ▸ h)
  have hl : lv_has ls 1 [(0, .ref (q 0))] := hl
  refine lv_aload_n hx hb dX10_run_0 rfl (lv_at hl 0 rfl) ?_
  refine z_callVi (k := 0) (As := []) (rest := []) hx hb hml hown ht (kX10_hasCity l D q cA ) hw_4_0 hmX10_hasCity ⟨rfl, rfl⟩ (na := 0) rfl (by decide +kernel) (by decide) (by decide) rfl rfl hK hP hD hS hA hl.1 rfl (Nat.le_of_ble_eq_true rfl) ⟨Nat.zero_le _, Nat.zero_le _⟩ dX10_run_1 (fun r_1 I_1 R_1 J_1 H locs hp_1 hP hD hS _ _ => ?_)
  obtain ⟨rfl, hu_1⟩ := hp_1
  cases hu_1
  refine lv_if_ne (tgt := 10) hx hb dX10_run_4 (by decide) (fun c_0 => absurd (by decide +kernel) c_0) (fun _ => ?_)
  refine lv_bipush (v := (-2)) hx hb dX10_run_7 (by decide +kernel) ?_
  exact z_iret (v := (-2)) hx hb hr hlocks hP hD hS dX10_run_9 rfl
set_option maxHeartbeats 4000000 in
set_option maxRecDepth 100000 in
theorem kX10_hit (l : Launch) (D : va_G) (q : Nat → Nat) (cA : Nat → ClassId)  (h : Int32)  : zMi l D vwCl (zXtys cA) 81 q (zXd q cA) yX10_hit cX10_hit 3 (some .int) ({ frames := 1, cells := 0, slots := 0, locals := 21 } : Room) [.ref (q 0), .int (h)] (zXI0, zXR0, zXJ0) (fun r _ => r = (-2)) := by
  intro sz
  refine z_body (by decide +kernel) (Nat.le_of_ble_eq_true rfl) (fun p e s m below meth c ls hx hb hml hr ht hown hlocks hsz hK hP hD hS hl => ?_)
  have hA : ∀ a, s.heap.size ≤ a → zA 81 q sz a := fun a h => Or.inr (hsz ▸ h)
  have hl : lv_has ls 3 [(0, .ref (q 0)), (1, .int (h))] := hl
  refine lv_aload_n hx hb dX10_hit_0 rfl (lv_at hl 0 rfl) ?_
  refine lv_iload_n hx hb dX10_hit_1 rfl (lv_at hl 1 rfl) ?_
  refine z_callVi (k := 0) (As := [.int (h)]) (rest := []) hx hb hml hown ht (kX10_isHouse l D q cA (h)) hw_3_59 hmX10_isHouse ⟨rfl, rfl⟩ (na := 1) rfl (by decide +kernel) (by decide) (by decide) rfl rfl hK hP hD hS hA hl.1 rfl (Nat.le_of_ble_eq_true rfl) ⟨Nat.zero_le _, Nat.zero_le _⟩ dX10_hit_2 (fun r_1 I_1 R_1 J_1 H locs hp_1 hP hD hS _ _ => ?_)
  obtain ⟨rfl, hu_1⟩ := hp_1
  cases hu_1
  refine lv_if_ne (tgt := 11) hx hb dX10_hit_5 (by decide) (fun c_0 => absurd (by decide +kernel) c_0) (fun _ => ?_)
  refine lv_bipush (v := (-2)) hx hb dX10_hit_8 (by decide +kernel) ?_
  exact z_iret (v := (-2)) hx hb hr hlocks hP hD hS dX10_hit_10 rfl
set_option maxHeartbeats 4000000 in
set_option maxRecDepth 100000 in
theorem kX10_hits (l : Launch) (D : va_G) (q : Nat → Nat) (cA : Nat → ClassId)  (h : Int32)  : zMi l D vwCl (zXtys cA) 81 q (zXd q cA) yX10_hits cX10_hits 2 (some .int) ({ frames := 1, cells := 0, slots := 0, locals := 21 } : Room) [.ref (q 0), .int (h)] (zXI0, zXR0, zXJ0) (fun r _ => r = (-2)) := by
  intro sz
  refine z_body (by decide +kernel) (Nat.le_of_ble_eq_true rfl) (fun p e s m below meth c ls hx hb hml hr ht hown hlocks hsz hK hP hD hS hl => ?_)
  have hA : ∀ a, s.heap.size ≤ a → zA 81 q sz a := fun a h => Or.inr (hsz ▸ h)
  have hl : lv_has ls 2 [(0, .ref (q 0)), (1, .int (h))] := hl
  refine lv_aload_n hx hb dX10_hits_0 rfl (lv_at hl 0 rfl) ?_
  refine lv_iload_n hx hb dX10_hits_1 rfl (lv_at hl 1 rfl) ?_
  refine z_callVi (k := 0) (As := [.int (h)]) (rest := []) hx hb hml hown ht (kX10_isHouse l D q cA (h)) hw_3_59 hmX10_isHouse ⟨rfl, rfl⟩ (na := 1) rfl (by decide +kernel) (by decide) (by decide) rfl rfl hK hP hD hS hA hl.1 rfl (Nat.le_of_ble_eq_true rfl) ⟨Nat.zero_le _, Nat.zero_le _⟩ dX10_hits_2 (fun r_1 I_1 R_1 J_1 H locs hp_1 hP hD hS _ _ => ?_)
  obtain ⟨rfl, hu_1⟩ := hp_1
  cases hu_1
  refine lv_if_eq (tgt := 16) hx hb dX10_hits_5 (by decide) (fun _ => ?_) (fun c_0 => absurd (by decide +kernel) c_0)
  refine lv_bipush (v := (-2)) hx hb dX10_hits_16 (by decide +kernel) ?_
  exact z_iret (v := (-2)) hx hb hr hlocks hP hD hS dX10_hits_18 rfl
set_option maxHeartbeats 4000000 in
set_option maxRecDepth 100000 in
theorem kX10_plan (l : Launch) (D : va_G) (q : Nat → Nat) (cA : Nat → ClassId)  (h : Int32) (n : Int32)  : zMi l D vwCl (zXtys cA) 81 q (zXd q cA) yX10_plan cX10_plan 6 (some .int) ({ frames := 1, cells := 0, slots := 0, locals := 21 } : Room) [.ref (q 0), .int (h), .int (n)] (zXI0, zXR0, zXJ0) (fun r _ => r = (-2)) := by
  intro sz
  refine z_body (by decide +kernel) (Nat.le_of_ble_eq_true rfl) (fun p e s m below meth c ls hx hb hml hr ht hown hlocks hsz hK hP hD hS hl => ?_)
  have hA : ∀ a, s.heap.size ≤ a → zA 81 q sz a := fun a h => Or.inr (hsz ▸ h)
  have hl : lv_has ls 6 [(0, .ref (q 0)), (1, .int (h)), (2, .int (n))] := hl
  refine lv_aload_n hx hb dX10_plan_0 rfl (lv_at hl 0 rfl) ?_
  refine lv_iload_n hx hb dX10_plan_1 rfl (lv_at hl 1 rfl) ?_
  refine z_callVi (k := 0) (As := [.int (h)]) (rest := []) hx hb hml hown ht (kX10_isHouse l D q cA (h)) hw_3_59 hmX10_isHouse ⟨rfl, rfl⟩ (na := 1) rfl (by decide +kernel) (by decide) (by decide) rfl rfl hK hP hD hS hA hl.1 rfl (Nat.le_of_ble_eq_true rfl) ⟨Nat.zero_le _, Nat.zero_le _⟩ dX10_plan_2 (fun r_1 I_1 R_1 J_1 H locs hp_1 hP hD hS _ _ => ?_)
  obtain ⟨rfl, hu_1⟩ := hp_1
  cases hu_1
  refine lv_if_eq (tgt := 18) hx hb dX10_plan_5 (by decide) (fun _ => ?_) (fun c_0 => absurd (by decide +kernel) c_0)
  refine lv_bipush (v := (-2)) hx hb dX10_plan_18 (by decide +kernel) ?_
  exact z_iret (v := (-2)) hx hb hr hlocks hP hD hS dX10_plan_20 rfl
set_option maxHeartbeats 4000000 in
set_option maxRecDepth 100000 in
theorem kX10_plans (l : Launch) (D : va_G) (q : Nat → Nat) (cA : Nat → ClassId)  (h : Int32) (n : Int32) (i : Int32)  : zMi l D vwCl (zXtys cA) 81 q (zXd q cA) yX10_plans cX10_plans 4 (some .int) ({ frames := 1, cells := 0, slots := 0, locals := 21 } : Room) [.ref (q 0), .int (h), .int (n), .int (i)] (zXI0, zXR0, zXJ0) (fun r _ => r = (-2)) := by
  intro sz
  refine z_body (by decide +kernel) (Nat.le_of_ble_eq_true rfl) (fun p e s m below meth c ls hx hb hml hr ht hown hlocks hsz hK hP hD hS hl => ?_)
  have hA : ∀ a, s.heap.size ≤ a → zA 81 q sz a := fun a h => Or.inr (hsz ▸ h)
  have hl : lv_has ls 4 [(0, .ref (q 0)), (1, .int (h)), (2, .int (n)), (3, .int (i))] := hl
  refine lv_aload_n hx hb dX10_plans_0 rfl (lv_at hl 0 rfl) ?_
  refine lv_iload_n hx hb dX10_plans_1 rfl (lv_at hl 1 rfl) ?_
  refine z_callVi (k := 0) (As := [.int (h)]) (rest := []) hx hb hml hown ht (kX10_isHouse l D q cA (h)) hw_3_59 hmX10_isHouse ⟨rfl, rfl⟩ (na := 1) rfl (by decide +kernel) (by decide) (by decide) rfl rfl hK hP hD hS hA hl.1 rfl (Nat.le_of_ble_eq_true rfl) ⟨Nat.zero_le _, Nat.zero_le _⟩ dX10_plans_2 (fun r_1 I_1 R_1 J_1 H locs hp_1 hP hD hS _ _ => ?_)
  obtain ⟨rfl, hu_1⟩ := hp_1
  cases hu_1
  refine lv_if_eq (tgt := 18) hx hb dX10_plans_5 (by decide) (fun _ => ?_) (fun c_0 => absurd (by decide +kernel) c_0)
  refine lv_bipush (v := (-2)) hx hb dX10_plans_18 (by decide +kernel) ?_
  exact z_iret (v := (-2)) hx hb hr hlocks hP hD hS dX10_plans_20 rfl
set_option maxHeartbeats 4000000 in
set_option maxRecDepth 100000 in
theorem kX10_change (l : Launch) (D : va_G) (q : Nat → Nat) (cA : Nat → ClassId)  (h : Int32) (o : Int32)  : zMi l D vwCl (zXtys cA) 81 q (zXd q cA) yX10_change cX10_change 5 (some .int) ({ frames := 1, cells := 0, slots := 0, locals := 21 } : Room) [.ref (q 0), .int (h), .int (o)] (zXI0, zXR0, zXJ0) (fun r _ => r = (-2)) := by
  intro sz
  refine z_body (by decide +kernel) (Nat.le_of_ble_eq_true rfl) (fun p e s m below meth c ls hx hb hml hr ht hown hlocks hsz hK hP hD hS hl => ?_)
  have hA : ∀ a, s.heap.size ≤ a → zA 81 q sz a := fun a h => Or.inr (hsz ▸ h)
  have hl : lv_has ls 5 [(0, .ref (q 0)), (1, .int (h)), (2, .int (o))] := hl
  refine lv_aload_n hx hb dX10_change_0 rfl (lv_at hl 0 rfl) ?_
  refine lv_iload_n hx hb dX10_change_1 rfl (lv_at hl 1 rfl) ?_
  refine z_callVi (k := 0) (As := [.int (h)]) (rest := []) hx hb hml hown ht (kX10_isHouse l D q cA (h)) hw_3_59 hmX10_isHouse ⟨rfl, rfl⟩ (na := 1) rfl (by decide +kernel) (by decide) (by decide) rfl rfl hK hP hD hS hA hl.1 rfl (Nat.le_of_ble_eq_true rfl) ⟨Nat.zero_le _, Nat.zero_le _⟩ dX10_change_2 (fun r_1 I_1 R_1 J_1 H locs hp_1 hP hD hS _ _ => ?_)
  obtain ⟨rfl, hu_1⟩ := hp_1
  cases hu_1
  refine lv_if_eq (tgt := 21) hx hb dX10_change_5 (by decide) (fun _ => ?_) (fun c_0 => absurd (by decide +kernel) c_0)
  refine lv_bipush (v := (-2)) hx hb dX10_change_21 (by decide +kernel) ?_
  exact z_iret (v := (-2)) hx hb hr hlocks hP hD hS dX10_change_23 rfl
set_option maxHeartbeats 4000000 in
set_option maxRecDepth 100000 in
theorem kX10_deal (l : Launch) (D : va_G) (q : Nat → Nat) (cA : Nat → ClassId)    : zMi l D vwCl (zXtys cA) 81 q (zXd q cA) yX10_deal cX10_deal 1 (some .int) ({ frames := 1, cells := 0, slots := 0, locals := 20 } : Room) [.ref (q 0)] (zXI0, zXR0, zXJ0) (fun r _ => r = (-2)) := by
  intro sz
  refine z_body (by decide +kernel) (Nat.le_of_ble_eq_true rfl) (fun p e s m below meth c ls hx hb hml hr ht hown hlocks hsz hK hP hD hS hl => ?_)
  have hA : ∀ a, s.heap.size ≤ a → zA 81 q sz a := fun a h => Or.inr (hsz ▸ h)
  have hl : lv_has ls 1 [(0, .ref (q 0))] := hl
  refine lv_aload_n hx hb dX10_deal_0 rfl (lv_at hl 0 rfl) ?_
  refine z_callVi (k := 0) (As := []) (rest := []) hx hb hml hown ht (kX10_hasCity l D q cA ) hw_4_0 hmX10_hasCity ⟨rfl, rfl⟩ (na := 0) rfl (by decide +kernel) (by decide) (by decide) rfl rfl hK hP hD hS hA hl.1 rfl (Nat.le_of_ble_eq_true rfl) ⟨Nat.zero_le _, Nat.zero_le _⟩ dX10_deal_1 (fun r_1 I_1 R_1 J_1 H locs hp_1 hP hD hS _ _ => ?_)
  obtain ⟨rfl, hu_1⟩ := hp_1
  cases hu_1
  refine lv_if_eq (tgt := 21) hx hb dX10_deal_4 (by decide) (fun _ => ?_) (fun c_0 => absurd (by decide +kernel) c_0)
  refine lv_bipush (v := (-2)) hx hb dX10_deal_21 (by decide +kernel) ?_
  exact z_iret (v := (-2)) hx hb hr hlocks hP hD hS dX10_deal_23 rfl
set_option maxHeartbeats 4000000 in
set_option maxRecDepth 100000 in
theorem kX10_deals (l : Launch) (D : va_G) (q : Nat → Nat) (cA : Nat → ClassId)  (t : Int32)  : zMi l D vwCl (zXtys cA) 81 q (zXd q cA) yX10_deals cX10_deals 2 (some .int) ({ frames := 1, cells := 0, slots := 0, locals := 21 } : Room) [.ref (q 0), .int (t)] (zXI0, zXR0, zXJ0) (fun r _ => r = (-2)) := by
  intro sz
  refine z_body (by decide +kernel) (Nat.le_of_ble_eq_true rfl) (fun p e s m below meth c ls hx hb hml hr ht hown hlocks hsz hK hP hD hS hl => ?_)
  have hA : ∀ a, s.heap.size ≤ a → zA 81 q sz a := fun a h => Or.inr (hsz ▸ h)
  have hl : lv_has ls 2 [(0, .ref (q 0)), (1, .int (t))] := hl
  refine lv_aload_n hx hb dX10_deals_0 rfl (lv_at hl 0 rfl) ?_
  refine lv_iload_n hx hb dX10_deals_1 rfl (lv_at hl 1 rfl) ?_
  refine z_callVi (k := 0) (As := [.int (t)]) (rest := []) hx hb hml hown ht (kX10_isThing l D q cA (t)) hw_3_87 hmX10_isThing ⟨rfl, rfl⟩ (na := 1) rfl (by decide +kernel) (by decide) (by decide) rfl rfl hK hP hD hS hA hl.1 rfl (Nat.le_of_ble_eq_true rfl) ⟨Nat.zero_le _, Nat.zero_le _⟩ dX10_deals_2 (fun r_1 I_1 R_1 J_1 H locs hp_1 hP hD hS _ _ => ?_)
  obtain ⟨rfl, hu_1⟩ := hp_1
  cases hu_1
  refine lv_if_eq (tgt := 23) hx hb dX10_deals_5 (by decide) (fun _ => ?_) (fun c_0 => absurd (by decide +kernel) c_0)
  refine lv_bipush (v := (-2)) hx hb dX10_deals_23 (by decide +kernel) ?_
  exact z_iret (v := (-2)) hx hb hr hlocks hP hD hS dX10_deals_25 rfl
set_option maxHeartbeats 4000000 in
set_option maxRecDepth 100000 in
theorem kX10_rests (l : Launch) (D : va_G) (q : Nat → Nat) (cA : Nat → ClassId)  (x : Int32)  : zMi l D vwCl (zXtys cA) 81 q (zXd q cA) yX10_rests cX10_rests 4 (some .int) ({ frames := 1, cells := 0, slots := 0, locals := 20 } : Room) [.ref (q 0), .int (x)] (zXI0, zXR0, zXJ0) (fun r _ => r = (-2)) := by
  intro sz
  refine z_body (by decide +kernel) (Nat.le_of_ble_eq_true rfl) (fun p e s m below meth c ls hx hb hml hr ht hown hlocks hsz hK hP hD hS hl => ?_)
  have hA : ∀ a, s.heap.size ≤ a → zA 81 q sz a := fun a h => Or.inr (hsz ▸ h)
  have hl : lv_has ls 4 [(0, .ref (q 0)), (1, .int (x))] := hl
  refine lv_aload_n hx hb dX10_rests_0 rfl (lv_at hl 0 rfl) ?_
  refine z_callVi (k := 0) (As := []) (rest := []) hx hb hml hown ht (kX10_hasCity l D q cA ) hw_4_0 hmX10_hasCity ⟨rfl, rfl⟩ (na := 0) rfl (by decide +kernel) (by decide) (by decide) rfl rfl hK hP hD hS hA hl.1 rfl (Nat.le_of_ble_eq_true rfl) ⟨Nat.zero_le _, Nat.zero_le _⟩ dX10_rests_1 (fun r_1 I_1 R_1 J_1 H locs hp_1 hP hD hS _ _ => ?_)
  obtain ⟨rfl, hu_1⟩ := hp_1
  cases hu_1
  refine lv_if_eq (tgt := 14) hx hb dX10_rests_4 (by decide) (fun _ => ?_) (fun c_0 => absurd (by decide +kernel) c_0)
  refine lv_bipush (v := (-2)) hx hb dX10_rests_14 (by decide +kernel) ?_
  exact z_iret (v := (-2)) hx hb hr hlocks hP hD hS dX10_rests_16 rfl
set_option maxHeartbeats 4000000 in
set_option maxRecDepth 100000 in
theorem kX10_rest (l : Launch) (D : va_G) (q : Nat → Nat) (cA : Nat → ClassId)  (x : Int32)  : zMi l D vwCl (zXtys cA) 81 q (zXd q cA) yX10_rest cX10_rest 3 (some .int) ({ frames := 1, cells := 0, slots := 0, locals := 20 } : Room) [.ref (q 0), .int (x)] (zXI0, zXR0, zXJ0) (fun r _ => r = (-2)) := by
  intro sz
  refine z_body (by decide +kernel) (Nat.le_of_ble_eq_true rfl) (fun p e s m below meth c ls hx hb hml hr ht hown hlocks hsz hK hP hD hS hl => ?_)
  have hA : ∀ a, s.heap.size ≤ a → zA 81 q sz a := fun a h => Or.inr (hsz ▸ h)
  have hl : lv_has ls 3 [(0, .ref (q 0)), (1, .int (x))] := hl
  refine lv_aload_n hx hb dX10_rest_0 rfl (lv_at hl 0 rfl) ?_
  refine z_callVi (k := 0) (As := []) (rest := []) hx hb hml hown ht (kX10_hasCity l D q cA ) hw_4_0 hmX10_hasCity ⟨rfl, rfl⟩ (na := 0) rfl (by decide +kernel) (by decide) (by decide) rfl rfl hK hP hD hS hA hl.1 rfl (Nat.le_of_ble_eq_true rfl) ⟨Nat.zero_le _, Nat.zero_le _⟩ dX10_rest_1 (fun r_1 I_1 R_1 J_1 H locs hp_1 hP hD hS _ _ => ?_)
  obtain ⟨rfl, hu_1⟩ := hp_1
  cases hu_1
  refine lv_if_eq (tgt := 14) hx hb dX10_rest_4 (by decide) (fun _ => ?_) (fun c_0 => absurd (by decide +kernel) c_0)
  refine lv_bipush (v := (-2)) hx hb dX10_rest_14 (by decide +kernel) ?_
  exact z_iret (v := (-2)) hx hb hr hlocks hP hD hS dX10_rest_16 rfl
set_option maxHeartbeats 4000000 in
set_option maxRecDepth 100000 in
theorem kX10_dear (l : Launch) (D : va_G) (q : Nat → Nat) (cA : Nat → ClassId)    : zMi l D vwCl (zXtys cA) 81 q (zXd q cA) yX10_dear cX10_dear 3 (some .int) ({ frames := 1, cells := 0, slots := 0, locals := 20 } : Room) [.ref (q 0)] (zXI0, zXR0, zXJ0) (fun r _ => r = (-2)) := by
  intro sz
  refine z_body (by decide +kernel) (Nat.le_of_ble_eq_true rfl) (fun p e s m below meth c ls hx hb hml hr ht hown hlocks hsz hK hP hD hS hl => ?_)
  have hA : ∀ a, s.heap.size ≤ a → zA 81 q sz a := fun a h => Or.inr (hsz ▸ h)
  have hl : lv_has ls 3 [(0, .ref (q 0))] := hl
  refine lv_aload_n hx hb dX10_dear_0 rfl (lv_at hl 0 rfl) ?_
  refine z_callVi (k := 0) (As := []) (rest := []) hx hb hml hown ht (kX10_hasCity l D q cA ) hw_4_0 hmX10_hasCity ⟨rfl, rfl⟩ (na := 0) rfl (by decide +kernel) (by decide) (by decide) rfl rfl hK hP hD hS hA hl.1 rfl (Nat.le_of_ble_eq_true rfl) ⟨Nat.zero_le _, Nat.zero_le _⟩ dX10_dear_1 (fun r_1 I_1 R_1 J_1 H locs hp_1 hP hD hS _ _ => ?_)
  obtain ⟨rfl, hu_1⟩ := hp_1
  cases hu_1
  refine lv_if_ne (tgt := 10) hx hb dX10_dear_4 (by decide) (fun c_0 => absurd (by decide +kernel) c_0) (fun _ => ?_)
  refine lv_bipush (v := (-2)) hx hb dX10_dear_7 (by decide +kernel) ?_
  exact z_iret (v := (-2)) hx hb hr hlocks hP hD hS dX10_dear_9 rfl
set_option maxHeartbeats 4000000 in
set_option maxRecDepth 100000 in
theorem kX10_wrong (l : Launch) (D : va_G) (q : Nat → Nat) (cA : Nat → ClassId)  (x : Int32)  : zMi l D vwCl (zXtys cA) 81 q (zXd q cA) yX10_wrong cX10_wrong 3 (some .int) ({ frames := 2, cells := 0, slots := 0, locals := 42 } : Room) [.ref (q 0), .int (x)] (zXI0, zXR0, zXJ0) (fun r _ => r = (-2)) := by
  intro sz
  refine z_body (by decide +kernel) (Nat.le_of_ble_eq_true rfl) (fun p e s m below meth c ls hx hb hml hr ht hown hlocks hsz hK hP hD hS hl => ?_)
  have hA : ∀ a, s.heap.size ≤ a → zA 81 q sz a := fun a h => Or.inr (hsz ▸ h)
  have hl : lv_has ls 3 [(0, .ref (q 0)), (1, .int (x))] := hl
  refine lv_aload_n hx hb dX10_wrong_0 rfl (lv_at hl 0 rfl) ?_
  refine lv_iload_n hx hb dX10_wrong_1 rfl (lv_at hl 1 rfl) ?_
  refine z_callVi (k := 0) (As := [.int (x)]) (rest := []) hx hb hml hown ht (kX10_look l D q cA (x)) hw_5_56 hmX10_look ⟨rfl, rfl⟩ (na := 1) rfl (by decide +kernel) (by decide) (by decide) rfl rfl hK hP hD hS hA hl.1 rfl (Nat.le_of_ble_eq_true rfl) ⟨Nat.zero_le _, Nat.zero_le _⟩ dX10_wrong_2 (fun r_1 I_1 R_1 J_1 H locs hp_1 hP hD hS _ _ => ?_)
  obtain ⟨rfl, hu_1⟩ := hp_1
  cases hu_1
  refine lv_istore_n (lv' := [(2, .int ((-2))), (0, .ref (q 0)), (1, .int (x))]) hx hb dX10_wrong_5 rfl hl (by decide) rfl (fun ls hl => ?_)
  refine lv_iload_n hx hb dX10_wrong_6 rfl (lv_at hl 0 rfl) ?_
  refine lv_if_ne (tgt := 20) hx hb dX10_wrong_7 (by decide) (fun _ => ?_) (fun c_0 => absurd c_0 (by decide +kernel))
  refine lv_iload_n hx hb dX10_wrong_20 rfl (lv_at hl 0 rfl) ?_
  exact z_iret (v := (-2)) hx hb hr hlocks hP hD hS dX10_wrong_21 rfl
set_option maxHeartbeats 4000000 in
set_option maxRecDepth 100000 in
theorem kX10_forged (l : Launch) (D : va_G) (q : Nat → Nat) (cA : Nat → ClassId)  (x : Int32)  : zMi l D vwCl (zXtys cA) 81 q (zXd q cA) yX10_forged cX10_forged 3 (some .int) ({ frames := 2, cells := 0, slots := 0, locals := 42 } : Room) [.ref (q 0), .int (x)] (zXI0, zXR0, zXJ0) (fun r _ => r = (-2)) := by
  intro sz
  refine z_body (by decide +kernel) (Nat.le_of_ble_eq_true rfl) (fun p e s m below meth c ls hx hb hml hr ht hown hlocks hsz hK hP hD hS hl => ?_)
  have hA : ∀ a, s.heap.size ≤ a → zA 81 q sz a := fun a h => Or.inr (hsz ▸ h)
  have hl : lv_has ls 3 [(0, .ref (q 0)), (1, .int (x))] := hl
  refine lv_aload_n hx hb dX10_forged_0 rfl (lv_at hl 0 rfl) ?_
  refine lv_iload_n hx hb dX10_forged_1 rfl (lv_at hl 1 rfl) ?_
  refine z_callVi (k := 0) (As := [.int (x)]) (rest := []) hx hb hml hown ht (kX10_look l D q cA (x)) hw_5_56 hmX10_look ⟨rfl, rfl⟩ (na := 1) rfl (by decide +kernel) (by decide) (by decide) rfl rfl hK hP hD hS hA hl.1 rfl (Nat.le_of_ble_eq_true rfl) ⟨Nat.zero_le _, Nat.zero_le _⟩ dX10_forged_2 (fun r_1 I_1 R_1 J_1 H locs hp_1 hP hD hS _ _ => ?_)
  obtain ⟨rfl, hu_1⟩ := hp_1
  cases hu_1
  refine lv_istore_n (lv' := [(2, .int ((-2))), (0, .ref (q 0)), (1, .int (x))]) hx hb dX10_forged_5 rfl hl (by decide) rfl (fun ls hl => ?_)
  refine lv_iload_n hx hb dX10_forged_6 rfl (lv_at hl 0 rfl) ?_
  refine lv_if_ne (tgt := 20) hx hb dX10_forged_7 (by decide) (fun _ => ?_) (fun c_0 => absurd c_0 (by decide +kernel))
  refine lv_iload_n hx hb dX10_forged_20 rfl (lv_at hl 0 rfl) ?_
  exact z_iret (v := (-2)) hx hb hr hlocks hP hD hS dX10_forged_21 rfl
set_option maxHeartbeats 4000000 in
set_option maxRecDepth 100000 in
theorem kX10_argued (l : Launch) (D : va_G) (q : Nat → Nat) (cA : Nat → ClassId)  (x : Int32)  : zMi l D vwCl (zXtys cA) 81 q (zXd q cA) yX10_argued cX10_argued 3 (some .int) ({ frames := 2, cells := 0, slots := 0, locals := 42 } : Room) [.ref (q 0), .int (x)] (zXI0, zXR0, zXJ0) (fun r _ => r = (-2)) := by
  intro sz
  refine z_body (by decide +kernel) (Nat.le_of_ble_eq_true rfl) (fun p e s m below meth c ls hx hb hml hr ht hown hlocks hsz hK hP hD hS hl => ?_)
  have hA : ∀ a, s.heap.size ≤ a → zA 81 q sz a := fun a h => Or.inr (hsz ▸ h)
  have hl : lv_has ls 3 [(0, .ref (q 0)), (1, .int (x))] := hl
  refine lv_aload_n hx hb dX10_argued_0 rfl (lv_at hl 0 rfl) ?_
  refine lv_iload_n hx hb dX10_argued_1 rfl (lv_at hl 1 rfl) ?_
  refine z_callVi (k := 0) (As := [.int (x)]) (rest := []) hx hb hml hown ht (kX10_look l D q cA (x)) hw_5_56 hmX10_look ⟨rfl, rfl⟩ (na := 1) rfl (by decide +kernel) (by decide) (by decide) rfl rfl hK hP hD hS hA hl.1 rfl (Nat.le_of_ble_eq_true rfl) ⟨Nat.zero_le _, Nat.zero_le _⟩ dX10_argued_2 (fun r_1 I_1 R_1 J_1 H locs hp_1 hP hD hS _ _ => ?_)
  obtain ⟨rfl, hu_1⟩ := hp_1
  cases hu_1
  refine lv_istore_n (lv' := [(2, .int ((-2))), (0, .ref (q 0)), (1, .int (x))]) hx hb dX10_argued_5 rfl hl (by decide) rfl (fun ls hl => ?_)
  refine lv_iload_n hx hb dX10_argued_6 rfl (lv_at hl 0 rfl) ?_
  refine lv_if_ne (tgt := 20) hx hb dX10_argued_7 (by decide) (fun _ => ?_) (fun c_0 => absurd c_0 (by decide +kernel))
  refine lv_iload_n hx hb dX10_argued_20 rfl (lv_at hl 0 rfl) ?_
  exact z_iret (v := (-2)) hx hb hr hlocks hP hD hS dX10_argued_21 rfl
set_option maxHeartbeats 4000000 in
set_option maxRecDepth 100000 in
theorem kX10_drawn (l : Launch) (D : va_G) (q : Nat → Nat) (cA : Nat → ClassId)  (x : Int32) (n : Int32) (w : Int32)  : zMi l D vwCl (zXtys cA) 81 q (zXd q cA) yX10_drawn cX10_drawn 5 (some .int) ({ frames := 1, cells := 0, slots := 0, locals := 20 } : Room) [.ref (q 0), .int (x), .int (n), .int (w)] (zXI0, zXR0, zXJ0) (fun r _ => r = (-2)) := by
  intro sz
  refine z_body (by decide +kernel) (Nat.le_of_ble_eq_true rfl) (fun p e s m below meth c ls hx hb hml hr ht hown hlocks hsz hK hP hD hS hl => ?_)
  have hA : ∀ a, s.heap.size ≤ a → zA 81 q sz a := fun a h => Or.inr (hsz ▸ h)
  have hl : lv_has ls 5 [(0, .ref (q 0)), (1, .int (x)), (2, .int (n)), (3, .int (w))] := hl
  refine lv_aload_n hx hb dX10_drawn_0 rfl (lv_at hl 0 rfl) ?_
  refine z_callVi (k := 0) (As := []) (rest := []) hx hb hml hown ht (kX10_hasCity l D q cA ) hw_4_0 hmX10_hasCity ⟨rfl, rfl⟩ (na := 0) rfl (by decide +kernel) (by decide) (by decide) rfl rfl hK hP hD hS hA hl.1 rfl (Nat.le_of_ble_eq_true rfl) ⟨Nat.zero_le _, Nat.zero_le _⟩ dX10_drawn_1 (fun r_1 I_1 R_1 J_1 H locs hp_1 hP hD hS _ _ => ?_)
  obtain ⟨rfl, hu_1⟩ := hp_1
  cases hu_1
  refine lv_if_eq (tgt := 24) hx hb dX10_drawn_4 (by decide) (fun _ => ?_) (fun c_0 => absurd (by decide +kernel) c_0)
  refine lv_bipush (v := (-2)) hx hb dX10_drawn_24 (by decide +kernel) ?_
  exact z_iret (v := (-2)) hx hb hr hlocks hP hD hS dX10_drawn_26 rfl
set_option maxHeartbeats 4000000 in
set_option maxRecDepth 100000 in
theorem kX10_luck (l : Launch) (D : va_G) (q : Nat → Nat) (cA : Nat → ClassId)  (x : Int32) (k : Int32) (n : Int32) (t : Int32) (h : Int32)  : zMi l D vwCl (zXtys cA) 81 q (zXd q cA) yX10_luck cX10_luck 8 (some .int) ({ frames := 1, cells := 0, slots := 0, locals := 21 } : Room) [.ref (q 0), .int (x), .int (k), .int (n), .int (t), .int (h)] (zXI0, zXR0, zXJ0) (fun r _ => r = (-2)) := by
  intro sz
  refine z_body (by decide +kernel) (Nat.le_of_ble_eq_true rfl) (fun p e s m below meth c ls hx hb hml hr ht hown hlocks hsz hK hP hD hS hl => ?_)
  have hA : ∀ a, s.heap.size ≤ a → zA 81 q sz a := fun a h => Or.inr (hsz ▸ h)
  have hl : lv_has ls 8 [(0, .ref (q 0)), (1, .int (x)), (2, .int (k)), (3, .int (n)), (4, .int (t)), (5, .int (h))] := hl
  refine lv_aload_n hx hb dX10_luck_0 rfl (lv_at hl 0 rfl) ?_
  refine lv_iload hx hb dX10_luck_1 (lv_at hl 4 rfl) ?_
  refine z_callVi (k := 0) (As := [.int (t)]) (rest := []) hx hb hml hown ht (kX10_isThing l D q cA (t)) hw_3_87 hmX10_isThing ⟨rfl, rfl⟩ (na := 1) rfl (by decide +kernel) (by decide) (by decide) rfl rfl hK hP hD hS hA hl.1 rfl (Nat.le_of_ble_eq_true rfl) ⟨Nat.zero_le _, Nat.zero_le _⟩ dX10_luck_3 (fun r_1 I_1 R_1 J_1 H locs hp_1 hP hD hS _ _ => ?_)
  obtain ⟨rfl, hu_1⟩ := hp_1
  cases hu_1
  refine lv_if_eq (tgt := 37) hx hb dX10_luck_6 (by decide) (fun _ => ?_) (fun c_0 => absurd (by decide +kernel) c_0)
  refine lv_bipush (v := (-2)) hx hb dX10_luck_37 (by decide +kernel) ?_
  exact z_iret (v := (-2)) hx hb hr hlocks hP hD hS dX10_luck_39 rfl
set_option maxHeartbeats 4000000 in
set_option maxRecDepth 100000 in
theorem kX10_rate (l : Launch) (D : va_G) (q : Nat → Nat) (cA : Nat → ClassId)  (t : Int32) (n : Int32)  : zMi l D vwCl (zXtys cA) 81 q (zXd q cA) yX10_rate cX10_rate 4 (some .int) ({ frames := 1, cells := 0, slots := 0, locals := 21 } : Room) [.ref (q 0), .int (t), .int (n)] (zXI0, zXR0, zXJ0) (fun r _ => r = (-2)) := by
  intro sz
  refine z_body (by decide +kernel) (Nat.le_of_ble_eq_true rfl) (fun p e s m below meth c ls hx hb hml hr ht hown hlocks hsz hK hP hD hS hl => ?_)
  have hA : ∀ a, s.heap.size ≤ a → zA 81 q sz a := fun a h => Or.inr (hsz ▸ h)
  have hl : lv_has ls 4 [(0, .ref (q 0)), (1, .int (t)), (2, .int (n))] := hl
  refine lv_aload_n hx hb dX10_rate_0 rfl (lv_at hl 0 rfl) ?_
  refine lv_iload_n hx hb dX10_rate_1 rfl (lv_at hl 1 rfl) ?_
  refine z_callVi (k := 0) (As := [.int (t)]) (rest := []) hx hb hml hown ht (kX10_isThing l D q cA (t)) hw_3_87 hmX10_isThing ⟨rfl, rfl⟩ (na := 1) rfl (by decide +kernel) (by decide) (by decide) rfl rfl hK hP hD hS hA hl.1 rfl (Nat.le_of_ble_eq_true rfl) ⟨Nat.zero_le _, Nat.zero_le _⟩ dX10_rate_2 (fun r_1 I_1 R_1 J_1 H locs hp_1 hP hD hS _ _ => ?_)
  obtain ⟨rfl, hu_1⟩ := hp_1
  cases hu_1
  refine lv_if_eq (tgt := 20) hx hb dX10_rate_5 (by decide) (fun _ => ?_) (fun c_0 => absurd (by decide +kernel) c_0)
  refine lv_bipush (v := (-2)) hx hb dX10_rate_20 (by decide +kernel) ?_
  exact z_iret (v := (-2)) hx hb hr hlocks hP hD hS dX10_rate_22 rfl
set_option maxHeartbeats 4000000 in
set_option maxRecDepth 100000 in
theorem kX10_want (l : Launch) (D : va_G) (q : Nat → Nat) (cA : Nat → ClassId)  (h : Int32) (t : Int32) (n : Int32)  : zMi l D vwCl (zXtys cA) 81 q (zXd q cA) yX10_want cX10_want 5 (some .int) ({ frames := 1, cells := 0, slots := 0, locals := 21 } : Room) [.ref (q 0), .int (h), .int (t), .int (n)] (zXI0, zXR0, zXJ0) (fun r _ => r = (-2)) := by
  intro sz
  refine z_body (by decide +kernel) (Nat.le_of_ble_eq_true rfl) (fun p e s m below meth c ls hx hb hml hr ht hown hlocks hsz hK hP hD hS hl => ?_)
  have hA : ∀ a, s.heap.size ≤ a → zA 81 q sz a := fun a h => Or.inr (hsz ▸ h)
  have hl : lv_has ls 5 [(0, .ref (q 0)), (1, .int (h)), (2, .int (t)), (3, .int (n))] := hl
  refine lv_aload_n hx hb dX10_want_0 rfl (lv_at hl 0 rfl) ?_
  refine lv_iload_n hx hb dX10_want_1 rfl (lv_at hl 1 rfl) ?_
  refine z_callVi (k := 0) (As := [.int (h)]) (rest := []) hx hb hml hown ht (kX10_isHouse l D q cA (h)) hw_3_59 hmX10_isHouse ⟨rfl, rfl⟩ (na := 1) rfl (by decide +kernel) (by decide) (by decide) rfl rfl hK hP hD hS hA hl.1 rfl (Nat.le_of_ble_eq_true rfl) ⟨Nat.zero_le _, Nat.zero_le _⟩ dX10_want_2 (fun r_1 I_1 R_1 J_1 H locs hp_1 hP hD hS _ _ => ?_)
  obtain ⟨rfl, hu_1⟩ := hp_1
  cases hu_1
  refine lv_if_eq (tgt := 27) hx hb dX10_want_5 (by decide) (fun _ => ?_) (fun c_0 => absurd (by decide +kernel) c_0)
  refine lv_bipush (v := (-2)) hx hb dX10_want_27 (by decide +kernel) ?_
  exact z_iret (v := (-2)) hx hb hr hlocks hP hD hS dX10_want_29 rfl
set_option maxHeartbeats 4000000 in
set_option maxRecDepth 100000 in
theorem kX10_end (l : Launch) (D : va_G) (q : Nat → Nat) (cA : Nat → ClassId)  (x : Int32)  : zMi l D vwCl (zXtys cA) 81 q (zXd q cA) yX10_end cX10_end 2 (some .int) ({ frames := 0, cells := 0, slots := 0, locals := 0 } : Room) [.ref (q 0), .int (x)] (zXI0, zXR0, zXJ0) (fun r _ => (x.toInt = 0 ∧ r = nI 0) ∨ (x.toInt ≠ 0 ∧ r = (-1))) := by
  intro sz
  refine z_body (by decide +kernel) (Nat.le_of_ble_eq_true rfl) (fun p e s m below meth c ls hx hb hml hr ht hown hlocks hsz hK hP hD hS hl => ?_)
  have hA : ∀ a, s.heap.size ≤ a → zA 81 q sz a := fun a h => Or.inr (hsz ▸ h)
  have hl : lv_has ls 2 [(0, .ref (q 0)), (1, .int (x))] := hl
  refine lv_iload_n hx hb dX10_end_0 rfl (lv_at hl 1 rfl) ?_
  refine lv_if_lt (tgt := 15) hx hb dX10_end_1 (by decide) (fun c_1 => ?_) (fun c_1 => ?_)
  · have kc_1_1 : (nI 0 : Int32).toInt = 0 := by decide +kernel
    have kc_1_2 : (0 : Int32).toInt = 0 := by decide +kernel
    have t_c_1 := z_ltT c_1
    refine lv_iconst (v := (-1)) hx hb dX10_end_15 (by decide +kernel) ?_
    exact z_iret (v := (-1)) hx hb hr hlocks hP hD hS dX10_end_16 (Or.inr ⟨by omega, rfl⟩)
  · have kc_1_1 : (nI 0 : Int32).toInt = 0 := by decide +kernel
    have kc_1_2 : (0 : Int32).toInt = 0 := by decide +kernel
    have t_c_1 := z_ltF c_1
    refine lv_iload_n hx hb dX10_end_4 rfl (lv_at hl 1 rfl) ?_
    refine lv_aload_n hx hb dX10_end_5 rfl (lv_at hl 0 rfl) ?_
    refine z_get hx hb ht hown hK hP ziX10 rfl 0 (by decide) 0 (by decide) hw_2_93 rfl (v := .ref (q 1)) rfl dX10_end_6 ?_
    refine z_get hx hb ht hown hK hP ziX7 rfl 1 (by decide) 1 (by decide) hw_1_37 rfl (v := .int (nI 0)) rfl dX10_end_9 ?_
    refine lv_icmp_le (tgt := 17) hx hb dX10_end_12 (by decide) (fun c_2 => ?_) (fun c_2 => ?_)
    · have kc_2_1 : (nI 0 : Int32).toInt = 0 := by decide +kernel
      have kc_2_2 : (0 : Int32).toInt = 0 := by decide +kernel
      have t_c_2 := z_leT c_2
      refine lv_aload_n hx hb dX10_end_17 rfl (lv_at hl 0 rfl) ?_
      refine z_get hx hb ht hown hK hP ziX10 rfl 0 (by decide) 0 (by decide) hw_2_93 rfl (v := .ref (q 1)) rfl dX10_end_18 ?_
      refine lv_iload_n hx hb dX10_end_21 rfl (lv_at hl 1 rfl) ?_
      refine z_putI hx hb ht hown hK hP hD hS ziX7 tyX7 tyX7_ok nmX7 rfl 1 (by decide) 1 (by decide) hw_1_37 rfl (v := x) rfl rfl rfl (Nat.le_of_ble_eq_true rfl) rfl dX10_end_22 (fun H locs hP hD hS => ?_)
      refine lv_iload_n hx hb dX10_end_25 rfl (lv_at hl 1 rfl) ?_
      exact z_iret (v := x) hx hb hr hlocks hP hD hS dX10_end_26 (Or.inl ⟨by omega, z_of (by omega) (by omega)⟩)
    · have kc_2_1 : (nI 0 : Int32).toInt = 0 := by decide +kernel
      have kc_2_2 : (0 : Int32).toInt = 0 := by decide +kernel
      have t_c_2 := z_leF c_2
      refine lv_iconst (v := (-1)) hx hb dX10_end_15 (by decide +kernel) ?_
      exact z_iret (v := (-1)) hx hb hr hlocks hP hD hS dX10_end_16 (Or.inr ⟨by omega, rfl⟩)
set_option maxHeartbeats 4000000 in
set_option maxRecDepth 100000 in
theorem kX10_fault (l : Launch) (D : va_G) (q : Nat → Nat) (cA : Nat → ClassId)  (x : Int32)  : zMi l D vwCl (zXtys cA) 81 q (zXd q cA) yX10_fault cX10_fault 2 (some .int) ({ frames := 0, cells := 0, slots := 0, locals := 0 } : Room) [.ref (q 0), .int (x)] (zXI0, zXR0, zXJ0) (fun r _ => (x.toInt = 0 ∧ r = nI 0) ∨ (x.toInt ≠ 0 ∧ r = (-1))) := by
  intro sz
  refine z_body (by decide +kernel) (Nat.le_of_ble_eq_true rfl) (fun p e s m below meth c ls hx hb hml hr ht hown hlocks hsz hK hP hD hS hl => ?_)
  have hA : ∀ a, s.heap.size ≤ a → zA 81 q sz a := fun a h => Or.inr (hsz ▸ h)
  have hl : lv_has ls 2 [(0, .ref (q 0)), (1, .int (x))] := hl
  refine lv_iload_n hx hb dX10_fault_0 rfl (lv_at hl 1 rfl) ?_
  refine lv_if_ne (tgt := 12) hx hb dX10_fault_1 (by decide) (fun c_1 => ?_) (fun c_1 => ?_)
  · have kc_1_1 : (nI 0 : Int32).toInt = 0 := by decide +kernel
    have kc_1_2 : (0 : Int32).toInt = 0 := by decide +kernel
    have t_c_1 := z_eqF c_1
    refine lv_iload_n hx hb dX10_fault_12 rfl (lv_at hl 1 rfl) ?_
    refine lv_iconst (v := nI 1) hx hb dX10_fault_13 (by decide +kernel) ?_
    refine lv_icmp_ne (tgt := 27) hx hb dX10_fault_14 (by decide) (fun c_2 => ?_) (fun c_2 => ?_)
    · have kc_2_1 : (nI 1 : Int32).toInt = 1 := by decide +kernel
      have t_c_2 := z_eqF c_2
      refine lv_iconst (v := (-1)) hx hb dX10_fault_27 (by decide +kernel) ?_
      exact z_iret (v := (-1)) hx hb hr hlocks hP hD hS dX10_fault_28 (Or.inr ⟨by omega, rfl⟩)
    · have kc_2_1 : (nI 1 : Int32).toInt = 1 := by decide +kernel
      have t_c_2 := z_eqT c_2
      refine lv_aload_n hx hb dX10_fault_17 rfl (lv_at hl 0 rfl) ?_
      refine z_get hx hb ht hown hK hP ziX10 rfl 0 (by decide) 0 (by decide) hw_2_93 rfl (v := .ref (q 1)) rfl dX10_fault_18 ?_
      refine z_get hx hb ht hown hK hP ziX7 rfl 1 (by decide) 3 (by decide) hw_1_41 rfl (v := .int ((-1))) rfl dX10_fault_21 ?_
      refine lv_goto (tgt := 28) hx hb dX10_fault_24 (by decide) ?_
      exact z_iret (v := (-1)) hx hb hr hlocks hP hD hS dX10_fault_28 (Or.inr ⟨by omega, rfl⟩)
  · have kc_1_1 : (nI 0 : Int32).toInt = 0 := by decide +kernel
    have kc_1_2 : (0 : Int32).toInt = 0 := by decide +kernel
    have t_c_1 := z_eqT c_1
    refine lv_aload_n hx hb dX10_fault_4 rfl (lv_at hl 0 rfl) ?_
    refine z_get hx hb ht hown hK hP ziX10 rfl 0 (by decide) 0 (by decide) hw_2_93 rfl (v := .ref (q 1)) rfl dX10_fault_5 ?_
    refine z_get hx hb ht hown hK hP ziX7 rfl 1 (by decide) 2 (by decide) hw_1_39 rfl (v := .int (nI 0)) rfl dX10_fault_8 ?_
    exact z_iret (v := nI 0) hx hb hr hlocks hP hD hS dX10_fault_11 (Or.inl ⟨by omega, rfl⟩)
set_option maxHeartbeats 4000000 in
set_option maxRecDepth 100000 in
theorem kX6_isThere_73 (l : Launch) (D : va_G) (q : Nat → Nat) (cA : Nat → ClassId)    : zMi l D vwCl (zXtys cA) 81 q (zXd q cA) yX6_isThere cX6_isThere 1 (some .boolean) ({ frames := 0, cells := 0, slots := 0, locals := 0 } : Room) [.ref (q 73)] (zXI0, zXR0, zXJ0) (fun r u => r = nI 0 ∧ u = (zXI0, zXR0, zXJ0)) := by
  intro sz
  refine z_body (by decide +kernel) (Nat.le_of_ble_eq_true rfl) (fun p e s m below meth c ls hx hb hml hr ht hown hlocks hsz hK hP hD hS hl => ?_)
  have hA : ∀ a, s.heap.size ≤ a → zA 81 q sz a := fun a h => Or.inr (hsz ▸ h)
  have hl : lv_has ls 1 [(0, .ref (q 73))] := hl
  refine lv_aload_n hx hb dX6_isThere_0 rfl (lv_at hl 0 rfl) ?_
  refine z_get hx hb ht hown hK hP ziX6 rfl 73 (by decide) 1 (by decide) hw_2_79 rfl (v := .int ((-1))) rfl dX6_isThere_1 ?_
  refine lv_iconst (v := (-1)) hx hb dX6_isThere_4 (by decide +kernel) ?_
  refine lv_icmp_eq (tgt := 12) hx hb dX6_isThere_5 (by decide) (fun _ => ?_) (fun c_0 => absurd (by decide +kernel) c_0)
  refine lv_iconst (v := nI 0) hx hb dX6_isThere_12 (by decide +kernel) ?_
  exact z_zret (v := nI 0) hx hb hr hlocks hP hD hS (by decide +kernel) dX6_isThere_13 ⟨rfl, rfl⟩
set_option maxHeartbeats 4000000 in
set_option maxRecDepth 100000 in
theorem kX6_isThere_75 (l : Launch) (D : va_G) (q : Nat → Nat) (cA : Nat → ClassId)    : zMi l D vwCl (zXtys cA) 81 q (zXd q cA) yX6_isThere cX6_isThere 1 (some .boolean) ({ frames := 0, cells := 0, slots := 0, locals := 0 } : Room) [.ref (q 75)] (zXI0, zXR0, zXJ0) (fun r u => r = nI 0 ∧ u = (zXI0, zXR0, zXJ0)) := by
  intro sz
  refine z_body (by decide +kernel) (Nat.le_of_ble_eq_true rfl) (fun p e s m below meth c ls hx hb hml hr ht hown hlocks hsz hK hP hD hS hl => ?_)
  have hA : ∀ a, s.heap.size ≤ a → zA 81 q sz a := fun a h => Or.inr (hsz ▸ h)
  have hl : lv_has ls 1 [(0, .ref (q 75))] := hl
  refine lv_aload_n hx hb dX6_isThere_0 rfl (lv_at hl 0 rfl) ?_
  refine z_get hx hb ht hown hK hP ziX6 rfl 75 (by decide) 1 (by decide) hw_2_79 rfl (v := .int ((-1))) rfl dX6_isThere_1 ?_
  refine lv_iconst (v := (-1)) hx hb dX6_isThere_4 (by decide +kernel) ?_
  refine lv_icmp_eq (tgt := 12) hx hb dX6_isThere_5 (by decide) (fun _ => ?_) (fun c_0 => absurd (by decide +kernel) c_0)
  refine lv_iconst (v := nI 0) hx hb dX6_isThere_12 (by decide +kernel) ?_
  exact z_zret (v := nI 0) hx hb hr hlocks hP hD hS (by decide +kernel) dX6_isThere_13 ⟨rfl, rfl⟩
set_option maxHeartbeats 4000000 in
set_option maxRecDepth 100000 in
theorem kX6_isThere_77 (l : Launch) (D : va_G) (q : Nat → Nat) (cA : Nat → ClassId)    : zMi l D vwCl (zXtys cA) 81 q (zXd q cA) yX6_isThere cX6_isThere 1 (some .boolean) ({ frames := 0, cells := 0, slots := 0, locals := 0 } : Room) [.ref (q 77)] (zXI0, zXR0, zXJ0) (fun r u => r = nI 0 ∧ u = (zXI0, zXR0, zXJ0)) := by
  intro sz
  refine z_body (by decide +kernel) (Nat.le_of_ble_eq_true rfl) (fun p e s m below meth c ls hx hb hml hr ht hown hlocks hsz hK hP hD hS hl => ?_)
  have hA : ∀ a, s.heap.size ≤ a → zA 81 q sz a := fun a h => Or.inr (hsz ▸ h)
  have hl : lv_has ls 1 [(0, .ref (q 77))] := hl
  refine lv_aload_n hx hb dX6_isThere_0 rfl (lv_at hl 0 rfl) ?_
  refine z_get hx hb ht hown hK hP ziX6 rfl 77 (by decide) 1 (by decide) hw_2_79 rfl (v := .int ((-1))) rfl dX6_isThere_1 ?_
  refine lv_iconst (v := (-1)) hx hb dX6_isThere_4 (by decide +kernel) ?_
  refine lv_icmp_eq (tgt := 12) hx hb dX6_isThere_5 (by decide) (fun _ => ?_) (fun c_0 => absurd (by decide +kernel) c_0)
  refine lv_iconst (v := nI 0) hx hb dX6_isThere_12 (by decide +kernel) ?_
  exact z_zret (v := nI 0) hx hb hr hlocks hP hD hS (by decide +kernel) dX6_isThere_13 ⟨rfl, rfl⟩
set_option maxHeartbeats 4000000 in
set_option maxRecDepth 100000 in
theorem kX6_isThere_79 (l : Launch) (D : va_G) (q : Nat → Nat) (cA : Nat → ClassId)    : zMi l D vwCl (zXtys cA) 81 q (zXd q cA) yX6_isThere cX6_isThere 1 (some .boolean) ({ frames := 0, cells := 0, slots := 0, locals := 0 } : Room) [.ref (q 79)] (zXI0, zXR0, zXJ0) (fun r u => r = nI 0 ∧ u = (zXI0, zXR0, zXJ0)) := by
  intro sz
  refine z_body (by decide +kernel) (Nat.le_of_ble_eq_true rfl) (fun p e s m below meth c ls hx hb hml hr ht hown hlocks hsz hK hP hD hS hl => ?_)
  have hA : ∀ a, s.heap.size ≤ a → zA 81 q sz a := fun a h => Or.inr (hsz ▸ h)
  have hl : lv_has ls 1 [(0, .ref (q 79))] := hl
  refine lv_aload_n hx hb dX6_isThere_0 rfl (lv_at hl 0 rfl) ?_
  refine z_get hx hb ht hown hK hP ziX6 rfl 79 (by decide) 1 (by decide) hw_2_79 rfl (v := .int ((-1))) rfl dX6_isThere_1 ?_
  refine lv_iconst (v := (-1)) hx hb dX6_isThere_4 (by decide +kernel) ?_
  refine lv_icmp_eq (tgt := 12) hx hb dX6_isThere_5 (by decide) (fun _ => ?_) (fun c_0 => absurd (by decide +kernel) c_0)
  refine lv_iconst (v := nI 0) hx hb dX6_isThere_12 (by decide +kernel) ?_
  exact z_zret (v := nI 0) hx hb hr hlocks hP hD hS (by decide +kernel) dX6_isThere_13 ⟨rfl, rfl⟩
set_option maxHeartbeats 4000000 in
set_option maxRecDepth 100000 in
theorem kX10_filledSlots (l : Launch) (D : va_G) (q : Nat → Nat) (cA : Nat → ClassId)    : zMi l D vwCl (zXtys cA) 81 q (zXd q cA) yX10_filledSlots cX10_filledSlots 3 (some .int) ({ frames := 1, cells := 0, slots := 0, locals := 20 } : Room) [.ref (q 0)] (zXI0, zXR0, zXJ0) (fun r u => r = nI 0 ∧ u = (zXI0, zXR0, zXJ0)) := by
  intro sz
  refine z_body (by decide +kernel) (Nat.le_of_ble_eq_true rfl) (fun p e s m below meth c ls hx hb hml hr ht hown hlocks hsz hK hP hD hS hl => ?_)
  have hA : ∀ a, s.heap.size ≤ a → zA 81 q sz a := fun a h => Or.inr (hsz ▸ h)
  have hl : lv_has ls 3 [(0, .ref (q 0))] := hl
  refine lv_iconst (v := nI 0) hx hb dX10_filledSlots_0 (by decide +kernel) ?_
  refine lv_istore_n (lv' := [(1, .int (nI 0)), (0, .ref (q 0))]) hx hb dX10_filledSlots_1 rfl hl (by decide) rfl (fun ls hl => ?_)
  refine lv_iconst (v := nI 0) hx hb dX10_filledSlots_2 (by decide +kernel) ?_
  refine lv_istore_n (lv' := [(2, .int (nI 0)), (1, .int (nI 0)), (0, .ref (q 0))]) hx hb dX10_filledSlots_3 rfl hl (by decide) rfl (fun ls hl => ?_)
  refine lv_iload_n hx hb dX10_filledSlots_4 rfl (lv_at hl 0 rfl) ?_
  refine lv_iconst (v := nI 4) hx hb dX10_filledSlots_5 (by decide +kernel) ?_
  refine lv_icmp_ge (tgt := 35) hx hb dX10_filledSlots_6 (by decide) (fun c_0 => absurd c_0 (by decide +kernel)) (fun _ => ?_)
  refine lv_iload_n hx hb dX10_filledSlots_9 rfl (lv_at hl 1 rfl) ?_
  refine lv_aload_n hx hb dX10_filledSlots_10 rfl (lv_at hl 2 rfl) ?_
  refine z_get hx hb ht hown hK hP ziX10 rfl 0 (by decide) 11 (by decide) hw_2_104 rfl (v := .ref (q 72)) rfl dX10_filledSlots_11 ?_
  refine lv_iload_n hx hb dX10_filledSlots_14 rfl (lv_at hl 0 rfl) ?_
  refine va_aldq hx hb hK hP 72 52 (zw_at (by decide) rfl) rfl (vp_in_nI (by decide) (by decide)) dX10_filledSlots_15 ?_
  refine W.eq (g2 := F0 m 16 ls (.ref (q 73) :: [.int (nI 0)])) rfl ?_
  refine z_callVi (k := 73) (As := []) (rest := [.int (nI 0)]) hx hb hml hown ht (kX6_isThere_73 l D q cA ) hw_5_63 hmX6_isThere ⟨rfl, rfl⟩ (na := 0) rfl (by decide +kernel) (by decide) (by decide) rfl rfl hK hP hD hS hA hl.1 rfl (Nat.le_of_ble_eq_true rfl) ⟨Nat.zero_le _, Nat.zero_le _⟩ dX10_filledSlots_16 (fun r_1 I_1 R_1 J_1 H locs hp_1 hP hD hS _ _ => ?_)
  obtain ⟨rfl, hu_1⟩ := hp_1
  cases hu_1
  refine lv_if_eq (tgt := 26) hx hb dX10_filledSlots_19 (by decide) (fun _ => ?_) (fun c_0 => absurd (by decide +kernel) c_0)
  refine lv_iconst (v := nI 0) hx hb dX10_filledSlots_26 (by decide +kernel) ?_
  refine lv_iadd hx hb dX10_filledSlots_27 ?_
  refine z_eqi (y := nI 0) (by decide +kernel) ?_
  refine lv_istore_n (lv' := [(1, .int (nI 0)), (2, .int (nI 0)), (0, .ref (q 0))]) hx hb dX10_filledSlots_28 rfl hl (by decide) rfl (fun ls hl => ?_)
  refine lv_iinc (v := nI 1) (lv' := [(2, .int (nI 1)), (1, .int (nI 0)), (0, .ref (q 0))]) hx hb dX10_filledSlots_29 hl (k := 1) rfl (by decide +kernel) (by decide) rfl (fun ls hl => ?_)
  refine lv_goto (tgt := 4) hx hb dX10_filledSlots_32 (by decide) ?_
  refine lv_iload_n hx hb dX10_filledSlots_4 rfl (lv_at hl 0 rfl) ?_
  refine lv_iconst (v := nI 4) hx hb dX10_filledSlots_5 (by decide +kernel) ?_
  refine lv_icmp_ge (tgt := 35) hx hb dX10_filledSlots_6 (by decide) (fun c_0 => absurd c_0 (by decide +kernel)) (fun _ => ?_)
  refine lv_iload_n hx hb dX10_filledSlots_9 rfl (lv_at hl 1 rfl) ?_
  refine lv_aload_n hx hb dX10_filledSlots_10 rfl (lv_at hl 2 rfl) ?_
  refine z_get hx hb ht hown hK hP ziX10 rfl 0 (by decide) 11 (by decide) hw_2_104 rfl (v := .ref (q 72)) rfl dX10_filledSlots_11 ?_
  refine lv_iload_n hx hb dX10_filledSlots_14 rfl (lv_at hl 0 rfl) ?_
  refine va_aldq hx hb hK hP 72 52 (zw_at (by decide) rfl) rfl (vp_in_nI (by decide) (by decide)) dX10_filledSlots_15 ?_
  refine W.eq (g2 := F0 m 16 ls (.ref (q 75) :: [.int (nI 0)])) rfl ?_
  refine z_callVi (k := 75) (As := []) (rest := [.int (nI 0)]) hx hb hml hown ht (kX6_isThere_75 l D q cA ) hw_5_63 hmX6_isThere ⟨rfl, rfl⟩ (na := 0) rfl (by decide +kernel) (by decide) (by decide) rfl rfl hK hP hD hS hA hl.1 rfl (Nat.le_of_ble_eq_true rfl) ⟨Nat.zero_le _, Nat.zero_le _⟩ dX10_filledSlots_16 (fun r_2 I_2 R_2 J_2 H locs hp_2 hP hD hS _ _ => ?_)
  obtain ⟨rfl, hu_2⟩ := hp_2
  cases hu_2
  refine lv_if_eq (tgt := 26) hx hb dX10_filledSlots_19 (by decide) (fun _ => ?_) (fun c_0 => absurd (by decide +kernel) c_0)
  refine lv_iconst (v := nI 0) hx hb dX10_filledSlots_26 (by decide +kernel) ?_
  refine lv_iadd hx hb dX10_filledSlots_27 ?_
  refine z_eqi (y := nI 0) (by decide +kernel) ?_
  refine lv_istore_n (lv' := [(1, .int (nI 0)), (2, .int (nI 1)), (0, .ref (q 0))]) hx hb dX10_filledSlots_28 rfl hl (by decide) rfl (fun ls hl => ?_)
  refine lv_iinc (v := nI 2) (lv' := [(2, .int (nI 2)), (1, .int (nI 0)), (0, .ref (q 0))]) hx hb dX10_filledSlots_29 hl (k := 1) rfl (by decide +kernel) (by decide) rfl (fun ls hl => ?_)
  refine lv_goto (tgt := 4) hx hb dX10_filledSlots_32 (by decide) ?_
  refine lv_iload_n hx hb dX10_filledSlots_4 rfl (lv_at hl 0 rfl) ?_
  refine lv_iconst (v := nI 4) hx hb dX10_filledSlots_5 (by decide +kernel) ?_
  refine lv_icmp_ge (tgt := 35) hx hb dX10_filledSlots_6 (by decide) (fun c_0 => absurd c_0 (by decide +kernel)) (fun _ => ?_)
  refine lv_iload_n hx hb dX10_filledSlots_9 rfl (lv_at hl 1 rfl) ?_
  refine lv_aload_n hx hb dX10_filledSlots_10 rfl (lv_at hl 2 rfl) ?_
  refine z_get hx hb ht hown hK hP ziX10 rfl 0 (by decide) 11 (by decide) hw_2_104 rfl (v := .ref (q 72)) rfl dX10_filledSlots_11 ?_
  refine lv_iload_n hx hb dX10_filledSlots_14 rfl (lv_at hl 0 rfl) ?_
  refine va_aldq hx hb hK hP 72 52 (zw_at (by decide) rfl) rfl (vp_in_nI (by decide) (by decide)) dX10_filledSlots_15 ?_
  refine W.eq (g2 := F0 m 16 ls (.ref (q 77) :: [.int (nI 0)])) rfl ?_
  refine z_callVi (k := 77) (As := []) (rest := [.int (nI 0)]) hx hb hml hown ht (kX6_isThere_77 l D q cA ) hw_5_63 hmX6_isThere ⟨rfl, rfl⟩ (na := 0) rfl (by decide +kernel) (by decide) (by decide) rfl rfl hK hP hD hS hA hl.1 rfl (Nat.le_of_ble_eq_true rfl) ⟨Nat.zero_le _, Nat.zero_le _⟩ dX10_filledSlots_16 (fun r_3 I_3 R_3 J_3 H locs hp_3 hP hD hS _ _ => ?_)
  obtain ⟨rfl, hu_3⟩ := hp_3
  cases hu_3
  refine lv_if_eq (tgt := 26) hx hb dX10_filledSlots_19 (by decide) (fun _ => ?_) (fun c_0 => absurd (by decide +kernel) c_0)
  refine lv_iconst (v := nI 0) hx hb dX10_filledSlots_26 (by decide +kernel) ?_
  refine lv_iadd hx hb dX10_filledSlots_27 ?_
  refine z_eqi (y := nI 0) (by decide +kernel) ?_
  refine lv_istore_n (lv' := [(1, .int (nI 0)), (2, .int (nI 2)), (0, .ref (q 0))]) hx hb dX10_filledSlots_28 rfl hl (by decide) rfl (fun ls hl => ?_)
  refine lv_iinc (v := nI 3) (lv' := [(2, .int (nI 3)), (1, .int (nI 0)), (0, .ref (q 0))]) hx hb dX10_filledSlots_29 hl (k := 1) rfl (by decide +kernel) (by decide) rfl (fun ls hl => ?_)
  refine lv_goto (tgt := 4) hx hb dX10_filledSlots_32 (by decide) ?_
  refine lv_iload_n hx hb dX10_filledSlots_4 rfl (lv_at hl 0 rfl) ?_
  refine lv_iconst (v := nI 4) hx hb dX10_filledSlots_5 (by decide +kernel) ?_
  refine lv_icmp_ge (tgt := 35) hx hb dX10_filledSlots_6 (by decide) (fun c_0 => absurd c_0 (by decide +kernel)) (fun _ => ?_)
  refine lv_iload_n hx hb dX10_filledSlots_9 rfl (lv_at hl 1 rfl) ?_
  refine lv_aload_n hx hb dX10_filledSlots_10 rfl (lv_at hl 2 rfl) ?_
  refine z_get hx hb ht hown hK hP ziX10 rfl 0 (by decide) 11 (by decide) hw_2_104 rfl (v := .ref (q 72)) rfl dX10_filledSlots_11 ?_
  refine lv_iload_n hx hb dX10_filledSlots_14 rfl (lv_at hl 0 rfl) ?_
  refine va_aldq hx hb hK hP 72 52 (zw_at (by decide) rfl) rfl (vp_in_nI (by decide) (by decide)) dX10_filledSlots_15 ?_
  refine W.eq (g2 := F0 m 16 ls (.ref (q 79) :: [.int (nI 0)])) rfl ?_
  refine z_callVi (k := 79) (As := []) (rest := [.int (nI 0)]) hx hb hml hown ht (kX6_isThere_79 l D q cA ) hw_5_63 hmX6_isThere ⟨rfl, rfl⟩ (na := 0) rfl (by decide +kernel) (by decide) (by decide) rfl rfl hK hP hD hS hA hl.1 rfl (Nat.le_of_ble_eq_true rfl) ⟨Nat.zero_le _, Nat.zero_le _⟩ dX10_filledSlots_16 (fun r_4 I_4 R_4 J_4 H locs hp_4 hP hD hS _ _ => ?_)
  obtain ⟨rfl, hu_4⟩ := hp_4
  cases hu_4
  refine lv_if_eq (tgt := 26) hx hb dX10_filledSlots_19 (by decide) (fun _ => ?_) (fun c_0 => absurd (by decide +kernel) c_0)
  refine lv_iconst (v := nI 0) hx hb dX10_filledSlots_26 (by decide +kernel) ?_
  refine lv_iadd hx hb dX10_filledSlots_27 ?_
  refine z_eqi (y := nI 0) (by decide +kernel) ?_
  refine lv_istore_n (lv' := [(1, .int (nI 0)), (2, .int (nI 3)), (0, .ref (q 0))]) hx hb dX10_filledSlots_28 rfl hl (by decide) rfl (fun ls hl => ?_)
  refine lv_iinc (v := nI 4) (lv' := [(2, .int (nI 4)), (1, .int (nI 0)), (0, .ref (q 0))]) hx hb dX10_filledSlots_29 hl (k := 1) rfl (by decide +kernel) (by decide) rfl (fun ls hl => ?_)
  refine lv_goto (tgt := 4) hx hb dX10_filledSlots_32 (by decide) ?_
  refine lv_iload_n hx hb dX10_filledSlots_4 rfl (lv_at hl 0 rfl) ?_
  refine lv_iconst (v := nI 4) hx hb dX10_filledSlots_5 (by decide +kernel) ?_
  refine lv_icmp_ge (tgt := 35) hx hb dX10_filledSlots_6 (by decide) (fun _ => ?_) (fun c_0 => absurd (by decide +kernel) c_0)
  refine lv_iload_n hx hb dX10_filledSlots_35 rfl (lv_at hl 1 rfl) ?_
  exact z_iret (v := nI 0) hx hb hr hlocks hP hD hS dX10_filledSlots_36 ⟨rfl, rfl⟩
set_option maxHeartbeats 4000000 in
set_option maxRecDepth 100000 in
theorem kX10_count (l : Launch) (D : va_G) (q : Nat → Nat) (cA : Nat → ClassId)  (x : Int32)  : zMi l D vwCl (zXtys cA) 81 q (zXd q cA) yX10_count cX10_count 2 (some .int) ({ frames := 2, cells := 0, slots := 0, locals := 42 } : Room) [.ref (q 0), .int (x)] (zXI0, zXR0, zXJ0) (fun r _ => (0 ≤ x.toInt ∧ x.toInt ≤ 9 ∧ r = nI 0) ∨ ((x.toInt < 0 ∨ 9 < x.toInt) ∧ r = (-1))) := by
  intro sz
  refine z_body (by decide +kernel) (Nat.le_of_ble_eq_true rfl) (fun p e s m below meth c ls hx hb hml hr ht hown hlocks hsz hK hP hD hS hl => ?_)
  have hA : ∀ a, s.heap.size ≤ a → zA 81 q sz a := fun a h => Or.inr (hsz ▸ h)
  have hl : lv_has ls 2 [(0, .ref (q 0)), (1, .int (x))] := hl
  refine lv_iload_n hx hb dX10_count_0 rfl (lv_at hl 1 rfl) ?_
  by_cases c_1 : (x).toInt < 0 ∨ 9 < (x).toInt
  · refine lv_tableOut (tgt := 133) hx hb dX10_count_1 c_1 (by decide) ?_
    refine lv_iconst (v := (-1)) hx hb dX10_count_133 (by decide +kernel) ?_
    exact z_iret (v := (-1)) hx hb hr hlocks hP hD hS dX10_count_134 (Or.inr ⟨by omega, rfl⟩)
  · have hc_1 : (x).toInt = 0 ∨ (x).toInt = 1 ∨ (x).toInt = 2 ∨ (x).toInt = 3 ∨ (x).toInt = 4 ∨ (x).toInt = 5 ∨ (x).toInt = 6 ∨ (x).toInt = 7 ∨ (x).toInt = 8 ∨ (x).toInt = 9 := by omega
    rcases hc_1 with kc_1 | kc_1 | kc_1 | kc_1 | kc_1 | kc_1 | kc_1 | kc_1 | kc_1 | kc_1
    · refine lv_tableIn (off := 55) (tgt := 56) hx hb dX10_count_1 (by omega) (by omega) (by rw [kc_1]; decide +kernel) (by decide) ?_
      refine lv_aload_n hx hb dX10_count_56 rfl (lv_at hl 0 rfl) ?_
      refine z_get hx hb ht hown hK hP ziX10 rfl 0 (by decide) 1 (by decide) hw_2_94 rfl (v := .ref (q 3)) rfl dX10_count_57 ?_
      refine z_get hx hb ht hown hK hP ziX2 rfl 3 (by decide) 1 (by decide) hw_1_73 rfl (v := .int (nI 0)) rfl dX10_count_60 ?_
      exact z_iret (v := nI 0) hx hb hr hlocks hP hD hS dX10_count_63 (Or.inl ⟨by omega, by omega, rfl⟩)
    · refine lv_tableIn (off := 63) (tgt := 64) hx hb dX10_count_1 (by omega) (by omega) (by rw [kc_1]; decide +kernel) (by decide) ?_
      refine lv_aload_n hx hb dX10_count_64 rfl (lv_at hl 0 rfl) ?_
      refine z_get hx hb ht hown hK hP ziX10 rfl 0 (by decide) 1 (by decide) hw_2_94 rfl (v := .ref (q 3)) rfl dX10_count_65 ?_
      refine z_get hx hb ht hown hK hP ziX2 rfl 3 (by decide) 2 (by decide) hw_1_77 rfl (v := .int (nI 0)) rfl dX10_count_68 ?_
      exact z_iret (v := nI 0) hx hb hr hlocks hP hD hS dX10_count_71 (Or.inl ⟨by omega, by omega, rfl⟩)
    · refine lv_tableIn (off := 71) (tgt := 72) hx hb dX10_count_1 (by omega) (by omega) (by rw [kc_1]; decide +kernel) (by decide) ?_
      refine lv_aload_n hx hb dX10_count_72 rfl (lv_at hl 0 rfl) ?_
      refine z_get hx hb ht hown hK hP ziX10 rfl 0 (by decide) 1 (by decide) hw_2_94 rfl (v := .ref (q 3)) rfl dX10_count_73 ?_
      refine z_get hx hb ht hown hK hP ziX2 rfl 3 (by decide) 3 (by decide) hw_1_80 rfl (v := .int (nI 0)) rfl dX10_count_76 ?_
      exact z_iret (v := nI 0) hx hb hr hlocks hP hD hS dX10_count_79 (Or.inl ⟨by omega, by omega, rfl⟩)
    · refine lv_tableIn (off := 79) (tgt := 80) hx hb dX10_count_1 (by omega) (by omega) (by rw [kc_1]; decide +kernel) (by decide) ?_
      refine lv_aload_n hx hb dX10_count_80 rfl (lv_at hl 0 rfl) ?_
      refine z_get hx hb ht hown hK hP ziX10 rfl 0 (by decide) 1 (by decide) hw_2_94 rfl (v := .ref (q 3)) rfl dX10_count_81 ?_
      refine z_get hx hb ht hown hK hP ziX2 rfl 3 (by decide) 4 (by decide) hw_1_85 rfl (v := .int (nI 0)) rfl dX10_count_84 ?_
      exact z_iret (v := nI 0) hx hb hr hlocks hP hD hS dX10_count_87 (Or.inl ⟨by omega, by omega, rfl⟩)
    · refine lv_tableIn (off := 87) (tgt := 88) hx hb dX10_count_1 (by omega) (by omega) (by rw [kc_1]; decide +kernel) (by decide) ?_
      refine lv_aload_n hx hb dX10_count_88 rfl (lv_at hl 0 rfl) ?_
      refine z_get hx hb ht hown hK hP ziX10 rfl 0 (by decide) 1 (by decide) hw_2_94 rfl (v := .ref (q 3)) rfl dX10_count_89 ?_
      refine z_get hx hb ht hown hK hP ziX2 rfl 3 (by decide) 5 (by decide) hw_1_93 rfl (v := .int (nI 0)) rfl dX10_count_92 ?_
      exact z_iret (v := nI 0) hx hb hr hlocks hP hD hS dX10_count_95 (Or.inl ⟨by omega, by omega, rfl⟩)
    · refine lv_tableIn (off := 95) (tgt := 96) hx hb dX10_count_1 (by omega) (by omega) (by rw [kc_1]; decide +kernel) (by decide) ?_
      refine lv_aload_n hx hb dX10_count_96 rfl (lv_at hl 0 rfl) ?_
      refine z_get hx hb ht hown hK hP ziX10 rfl 0 (by decide) 4 (by decide) hw_2_97 rfl (v := .ref (q 15)) rfl dX10_count_97 ?_
      refine z_get hx hb ht hown hK hP ziX9 rfl 15 (by decide) 2 (by decide) hw_1_162 rfl (v := .int (nI 0)) rfl dX10_count_100 ?_
      exact z_iret (v := nI 0) hx hb hr hlocks hP hD hS dX10_count_103 (Or.inl ⟨by omega, by omega, rfl⟩)
    · refine lv_tableIn (off := 103) (tgt := 104) hx hb dX10_count_1 (by omega) (by omega) (by rw [kc_1]; decide +kernel) (by decide) ?_
      refine lv_aload_n hx hb dX10_count_104 rfl (lv_at hl 0 rfl) ?_
      refine z_get hx hb ht hown hK hP ziX10 rfl 0 (by decide) 3 (by decide) hw_2_96 rfl (v := .ref (q 13)) rfl dX10_count_105 ?_
      refine z_get hx hb ht hown hK hP ziX0 rfl 13 (by decide) 0 (by decide) hw_1_141 rfl (v := .int (nI 0)) rfl dX10_count_108 ?_
      exact z_iret (v := nI 0) hx hb hr hlocks hP hD hS dX10_count_111 (Or.inl ⟨by omega, by omega, rfl⟩)
    · refine lv_tableIn (off := 111) (tgt := 112) hx hb dX10_count_1 (by omega) (by omega) (by rw [kc_1]; decide +kernel) (by decide) ?_
      refine lv_aload_n hx hb dX10_count_112 rfl (lv_at hl 0 rfl) ?_
      refine z_get hx hb ht hown hK hP ziX10 rfl 0 (by decide) 1 (by decide) hw_2_94 rfl (v := .ref (q 3)) rfl dX10_count_113 ?_
      refine z_get hx hb ht hown hK hP ziX2 rfl 3 (by decide) 0 (by decide) hw_1_68 rfl (v := .int (nI 0)) rfl dX10_count_116 ?_
      exact z_iret (v := nI 0) hx hb hr hlocks hP hD hS dX10_count_119 (Or.inl ⟨by omega, by omega, rfl⟩)
    · refine lv_tableIn (off := 119) (tgt := 120) hx hb dX10_count_1 (by omega) (by omega) (by rw [kc_1]; decide +kernel) (by decide) ?_
      refine lv_aload_n hx hb dX10_count_120 rfl (lv_at hl 0 rfl) ?_
      refine z_get hx hb ht hown hK hP ziX10 rfl 0 (by decide) 0 (by decide) hw_2_93 rfl (v := .ref (q 1)) rfl dX10_count_121 ?_
      refine z_get hx hb ht hown hK hP ziX7 rfl 1 (by decide) 1 (by decide) hw_1_37 rfl (v := .int (nI 0)) rfl dX10_count_124 ?_
      exact z_iret (v := nI 0) hx hb hr hlocks hP hD hS dX10_count_127 (Or.inl ⟨by omega, by omega, rfl⟩)
    · refine lv_tableIn (off := 127) (tgt := 128) hx hb dX10_count_1 (by omega) (by omega) (by rw [kc_1]; decide +kernel) (by decide) ?_
      refine lv_aload_n hx hb dX10_count_128 rfl (lv_at hl 0 rfl) ?_
      refine z_callVi (k := 0) (As := []) (rest := []) hx hb hml hown ht (kX10_filledSlots l D q cA ) hw_5_137 hmX10_filledSlots ⟨rfl, rfl⟩ (na := 0) rfl (by decide +kernel) (by decide) (by decide) rfl rfl hK hP hD hS hA hl.1 rfl (Nat.le_of_ble_eq_true rfl) ⟨Nat.zero_le _, Nat.zero_le _⟩ dX10_count_129 (fun r_2 I_2 R_2 J_2 H locs hp_2 hP hD hS _ _ => ?_)
      obtain ⟨rfl, hu_2⟩ := hp_2
      cases hu_2
      exact z_iret (v := nI 0) hx hb hr hlocks hP hD hS dX10_count_132 (Or.inl ⟨by omega, by omega, rfl⟩)
set_option maxHeartbeats 4000000 in
set_option maxRecDepth 100000 in
theorem kX10_back (l : Launch) (D : va_G) (q : Nat → Nat) (cA : Nat → ClassId)  (x : Int32)  : zMi l D vwCl (zXtys cA) 81 q (zXd q cA) yX10_back cX10_back 3 (some .int) ({ frames := 0, cells := 0, slots := 0, locals := 0 } : Room) [.ref (q 0), .int (x)] (zXI0, zXR0, zXJ0) (fun r _ => (0 ≤ x.toInt ∧ x.toInt ≤ 2 ∧ r = (-6)) ∨ ((x.toInt < 0 ∨ 2 < x.toInt) ∧ r = (-2))) := by
  intro sz
  refine z_body (by decide +kernel) (Nat.le_of_ble_eq_true rfl) (fun p e s m below meth c ls hx hb hml hr ht hown hlocks hsz hK hP hD hS hl => ?_)
  have hA : ∀ a, s.heap.size ≤ a → zA 81 q sz a := fun a h => Or.inr (hsz ▸ h)
  have hl : lv_has ls 3 [(0, .ref (q 0)), (1, .int (x))] := hl
  refine lv_iload_n hx hb dX10_back_0 rfl (lv_at hl 1 rfl) ?_
  refine lv_if_lt (tgt := 9) hx hb dX10_back_1 (by decide) (fun c_1 => ?_) (fun c_1 => ?_)
  · have kc_1_1 : (nI 0 : Int32).toInt = 0 := by decide +kernel
    have kc_1_2 : (0 : Int32).toInt = 0 := by decide +kernel
    have t_c_1 := z_ltT c_1
    refine lv_bipush (v := (-2)) hx hb dX10_back_9 (by decide +kernel) ?_
    exact z_iret (v := (-2)) hx hb hr hlocks hP hD hS dX10_back_11 (Or.inr ⟨by omega, rfl⟩)
  · have kc_1_1 : (nI 0 : Int32).toInt = 0 := by decide +kernel
    have kc_1_2 : (0 : Int32).toInt = 0 := by decide +kernel
    have t_c_1 := z_ltF c_1
    refine lv_iload_n hx hb dX10_back_4 rfl (lv_at hl 1 rfl) ?_
    refine lv_iconst (v := nI 3) hx hb dX10_back_5 (by decide +kernel) ?_
    refine lv_icmp_lt (tgt := 12) hx hb dX10_back_6 (by decide) (fun c_2 => ?_) (fun c_2 => ?_)
    · have kc_2_1 : (nI 3 : Int32).toInt = 3 := by decide +kernel
      have t_c_2 := z_ltT c_2
      refine lv_aload_n hx hb dX10_back_12 rfl (lv_at hl 0 rfl) ?_
      refine z_get hx hb ht hown hK hP ziX10 rfl 0 (by decide) 10 (by decide) hw_2_103 rfl (v := .ref (q 47)) rfl dX10_back_13 ?_
      refine lv_iload_n hx hb dX10_back_16 rfl (lv_at hl 1 rfl) ?_
      obtain ⟨n_3, hn_3, rfl⟩ := z_ex (x := x) (N := 3) (by omega) (by omega)
      rcases (show n_3 = 0 ∨ n_3 = 1 ∨ n_3 = 2 by omega) with rfl | rfl | rfl
      · refine va_aldq hx hb hK hP 47 36 (zw_at (by decide) rfl) rfl (vp_in_nI (by decide) (by decide)) dX10_back_17 ?_
        refine W.eq (g2 := F0 m 18 ls (.ref (q 48) :: [])) rfl ?_
        refine lv_astore_n (lv' := [(2, .ref (q 48)), (0, .ref (q 0)), (1, .int (nI 0))]) hx hb dX10_back_18 rfl hl (by decide) rfl (fun ls hl => ?_)
        refine lv_aload_n hx hb dX10_back_19 rfl (lv_at hl 0 rfl) ?_
        refine z_get hx hb ht hown hK hP ziX5 rfl 48 (by decide) 0 (by decide) hw_2_60 rfl (v := .int (nI 0)) rfl dX10_back_20 ?_
        refine lv_if_ne (tgt := 29) hx hb dX10_back_23 (by decide) (fun c_0 => absurd (by decide +kernel) c_0) (fun _ => ?_)
        refine lv_bipush (v := (-6)) hx hb dX10_back_26 (by decide +kernel) ?_
        exact z_iret (v := (-6)) hx hb hr hlocks hP hD hS dX10_back_28 (Or.inl ⟨by omega, by omega, rfl⟩)
      · refine va_aldq hx hb hK hP 47 36 (zw_at (by decide) rfl) rfl (vp_in_nI (by decide) (by decide)) dX10_back_17 ?_
        refine W.eq (g2 := F0 m 18 ls (.ref (q 56) :: [])) rfl ?_
        refine lv_astore_n (lv' := [(2, .ref (q 56)), (0, .ref (q 0)), (1, .int (nI 1))]) hx hb dX10_back_18 rfl hl (by decide) rfl (fun ls hl => ?_)
        refine lv_aload_n hx hb dX10_back_19 rfl (lv_at hl 0 rfl) ?_
        refine z_get hx hb ht hown hK hP ziX5 rfl 56 (by decide) 0 (by decide) hw_2_60 rfl (v := .int (nI 0)) rfl dX10_back_20 ?_
        refine lv_if_ne (tgt := 29) hx hb dX10_back_23 (by decide) (fun c_0 => absurd (by decide +kernel) c_0) (fun _ => ?_)
        refine lv_bipush (v := (-6)) hx hb dX10_back_26 (by decide +kernel) ?_
        exact z_iret (v := (-6)) hx hb hr hlocks hP hD hS dX10_back_28 (Or.inl ⟨by omega, by omega, rfl⟩)
      · refine va_aldq hx hb hK hP 47 36 (zw_at (by decide) rfl) rfl (vp_in_nI (by decide) (by decide)) dX10_back_17 ?_
        refine W.eq (g2 := F0 m 18 ls (.ref (q 64) :: [])) rfl ?_
        refine lv_astore_n (lv' := [(2, .ref (q 64)), (0, .ref (q 0)), (1, .int (nI 2))]) hx hb dX10_back_18 rfl hl (by decide) rfl (fun ls hl => ?_)
        refine lv_aload_n hx hb dX10_back_19 rfl (lv_at hl 0 rfl) ?_
        refine z_get hx hb ht hown hK hP ziX5 rfl 64 (by decide) 0 (by decide) hw_2_60 rfl (v := .int (nI 0)) rfl dX10_back_20 ?_
        refine lv_if_ne (tgt := 29) hx hb dX10_back_23 (by decide) (fun c_0 => absurd (by decide +kernel) c_0) (fun _ => ?_)
        refine lv_bipush (v := (-6)) hx hb dX10_back_26 (by decide +kernel) ?_
        exact z_iret (v := (-6)) hx hb hr hlocks hP hD hS dX10_back_28 (Or.inl ⟨by omega, by omega, rfl⟩)
    · have kc_2_1 : (nI 3 : Int32).toInt = 3 := by decide +kernel
      have t_c_2 := z_ltF c_2
      refine lv_bipush (v := (-2)) hx hb dX10_back_9 (by decide +kernel) ?_
      exact z_iret (v := (-2)) hx hb hr hlocks hP hD hS dX10_back_11 (Or.inr ⟨by omega, rfl⟩)
set_option maxHeartbeats 4000000 in
set_option maxRecDepth 100000 in
theorem kX10_write (l : Launch) (D : va_G) (q : Nat → Nat) (cA : Nat → ClassId)  (x : Int32) (i : Int32) (v : Int64)  : zMi l D vwCl (zXtys cA) 81 q (zXd q cA) yX10_write cX10_write 6 (some .int) ({ frames := 1, cells := 0, slots := 0, locals := 20 } : Room) [.ref (q 0), .int (x), .int (i), .long (v)] (zXI0, zXR0, zXJ0) (fun r _ => (0 ≤ x.toInt ∧ x.toInt ≤ 3 ∧ r = (-6)) ∨ ((x.toInt < 0 ∨ 3 < x.toInt) ∧ r = (-2))) := by
  intro sz
  refine z_body (by decide +kernel) (Nat.le_of_ble_eq_true rfl) (fun p e s m below meth c ls hx hb hml hr ht hown hlocks hsz hK hP hD hS hl => ?_)
  have hA : ∀ a, s.heap.size ≤ a → zA 81 q sz a := fun a h => Or.inr (hsz ▸ h)
  have hl : lv_has ls 6 [(0, .ref (q 0)), (1, .int (x)), (2, .int (i)), (3, .long (v))] := hl
  refine lv_iload_n hx hb dX10_write_0 rfl (lv_at hl 1 rfl) ?_
  refine z_callSi (As := [.int (x)]) (rest := []) hx hb hml hown ht (kX10_isSlot l D q cA _ _ _ (x)) hw_5_60 hmX10_isSlot ⟨rfl, rfl⟩ (na := 1) rfl (by decide +kernel) (by decide) hK hP hD hS hA hl.1 rfl (Nat.le_of_ble_eq_true rfl) ⟨Nat.zero_le _, Nat.zero_le _⟩ dX10_write_1 (fun r_1 I_1 R_1 J_1 H locs hp_1 hP hD hS _ _ => ?_)
  rcases hp_1 with ⟨rfl, hu_1, h1_1, h2_1⟩ | ⟨rfl, hu_1, h1_1⟩
  · cases hu_1
    refine lv_if_ne (tgt := 10) hx hb dX10_write_4 (by decide) (fun _ => ?_) (fun c_0 => absurd c_0 (by decide +kernel))
    refine lv_aload_n hx hb dX10_write_10 rfl (lv_at hl 0 rfl) ?_
    refine z_get hx hb ht hown hK hP ziX10 rfl 0 (by decide) 11 (by decide) hw_2_104 rfl (v := .ref (q 72)) rfl dX10_write_11 ?_
    refine lv_iload_n hx hb dX10_write_14 rfl (lv_at hl 1 rfl) ?_
    obtain ⟨n_2, hn_2, rfl⟩ := z_ex (x := x) (N := 4) (by omega) (by omega)
    rcases (show n_2 = 0 ∨ n_2 = 1 ∨ n_2 = 2 ∨ n_2 = 3 by omega) with rfl | rfl | rfl | rfl
    · refine va_aldq hx hb hK hP 72 52 (zw_at (by decide) rfl) rfl (vp_in_nI (by decide) (by decide)) dX10_write_15 ?_
      refine W.eq (g2 := F0 m 16 ls (.ref (q 73) :: [])) rfl ?_
      refine lv_astore (lv' := [(5, .ref (q 73)), (0, .ref (q 0)), (1, .int (nI 0)), (2, .int (i)), (3, .long (v))]) hx hb dX10_write_16 hl (by decide) rfl (fun ls hl => ?_)
      refine lv_aload hx hb dX10_write_18 (lv_at hl 0 rfl) ?_
      refine z_callVi (k := 73) (As := []) (rest := []) hx hb hml hown ht (kX6_isThere_73 l D q cA ) hw_5_63 hmX6_isThere ⟨rfl, rfl⟩ (na := 0) rfl (by decide +kernel) (by decide) (by decide) rfl rfl hK hP hD hS hA hl.1 rfl (Nat.le_of_ble_eq_true rfl) ⟨Nat.zero_le _, Nat.zero_le _⟩ dX10_write_20 (fun r_3 I_3 R_3 J_3 H locs hp_3 hP hD hS _ _ => ?_)
      obtain ⟨rfl, hu_3⟩ := hp_3
      cases hu_3
      refine lv_if_ne (tgt := 29) hx hb dX10_write_23 (by decide) (fun c_0 => absurd (by decide +kernel) c_0) (fun _ => ?_)
      refine lv_bipush (v := (-6)) hx hb dX10_write_26 (by decide +kernel) ?_
      exact z_iret (v := (-6)) hx hb hr hlocks hP hD hS dX10_write_28 (Or.inl ⟨by omega, by omega, rfl⟩)
    · refine va_aldq hx hb hK hP 72 52 (zw_at (by decide) rfl) rfl (vp_in_nI (by decide) (by decide)) dX10_write_15 ?_
      refine W.eq (g2 := F0 m 16 ls (.ref (q 75) :: [])) rfl ?_
      refine lv_astore (lv' := [(5, .ref (q 75)), (0, .ref (q 0)), (1, .int (nI 1)), (2, .int (i)), (3, .long (v))]) hx hb dX10_write_16 hl (by decide) rfl (fun ls hl => ?_)
      refine lv_aload hx hb dX10_write_18 (lv_at hl 0 rfl) ?_
      refine z_callVi (k := 75) (As := []) (rest := []) hx hb hml hown ht (kX6_isThere_75 l D q cA ) hw_5_63 hmX6_isThere ⟨rfl, rfl⟩ (na := 0) rfl (by decide +kernel) (by decide) (by decide) rfl rfl hK hP hD hS hA hl.1 rfl (Nat.le_of_ble_eq_true rfl) ⟨Nat.zero_le _, Nat.zero_le _⟩ dX10_write_20 (fun r_4 I_4 R_4 J_4 H locs hp_4 hP hD hS _ _ => ?_)
      obtain ⟨rfl, hu_4⟩ := hp_4
      cases hu_4
      refine lv_if_ne (tgt := 29) hx hb dX10_write_23 (by decide) (fun c_0 => absurd (by decide +kernel) c_0) (fun _ => ?_)
      refine lv_bipush (v := (-6)) hx hb dX10_write_26 (by decide +kernel) ?_
      exact z_iret (v := (-6)) hx hb hr hlocks hP hD hS dX10_write_28 (Or.inl ⟨by omega, by omega, rfl⟩)
    · refine va_aldq hx hb hK hP 72 52 (zw_at (by decide) rfl) rfl (vp_in_nI (by decide) (by decide)) dX10_write_15 ?_
      refine W.eq (g2 := F0 m 16 ls (.ref (q 77) :: [])) rfl ?_
      refine lv_astore (lv' := [(5, .ref (q 77)), (0, .ref (q 0)), (1, .int (nI 2)), (2, .int (i)), (3, .long (v))]) hx hb dX10_write_16 hl (by decide) rfl (fun ls hl => ?_)
      refine lv_aload hx hb dX10_write_18 (lv_at hl 0 rfl) ?_
      refine z_callVi (k := 77) (As := []) (rest := []) hx hb hml hown ht (kX6_isThere_77 l D q cA ) hw_5_63 hmX6_isThere ⟨rfl, rfl⟩ (na := 0) rfl (by decide +kernel) (by decide) (by decide) rfl rfl hK hP hD hS hA hl.1 rfl (Nat.le_of_ble_eq_true rfl) ⟨Nat.zero_le _, Nat.zero_le _⟩ dX10_write_20 (fun r_5 I_5 R_5 J_5 H locs hp_5 hP hD hS _ _ => ?_)
      obtain ⟨rfl, hu_5⟩ := hp_5
      cases hu_5
      refine lv_if_ne (tgt := 29) hx hb dX10_write_23 (by decide) (fun c_0 => absurd (by decide +kernel) c_0) (fun _ => ?_)
      refine lv_bipush (v := (-6)) hx hb dX10_write_26 (by decide +kernel) ?_
      exact z_iret (v := (-6)) hx hb hr hlocks hP hD hS dX10_write_28 (Or.inl ⟨by omega, by omega, rfl⟩)
    · refine va_aldq hx hb hK hP 72 52 (zw_at (by decide) rfl) rfl (vp_in_nI (by decide) (by decide)) dX10_write_15 ?_
      refine W.eq (g2 := F0 m 16 ls (.ref (q 79) :: [])) rfl ?_
      refine lv_astore (lv' := [(5, .ref (q 79)), (0, .ref (q 0)), (1, .int (nI 3)), (2, .int (i)), (3, .long (v))]) hx hb dX10_write_16 hl (by decide) rfl (fun ls hl => ?_)
      refine lv_aload hx hb dX10_write_18 (lv_at hl 0 rfl) ?_
      refine z_callVi (k := 79) (As := []) (rest := []) hx hb hml hown ht (kX6_isThere_79 l D q cA ) hw_5_63 hmX6_isThere ⟨rfl, rfl⟩ (na := 0) rfl (by decide +kernel) (by decide) (by decide) rfl rfl hK hP hD hS hA hl.1 rfl (Nat.le_of_ble_eq_true rfl) ⟨Nat.zero_le _, Nat.zero_le _⟩ dX10_write_20 (fun r_6 I_6 R_6 J_6 H locs hp_6 hP hD hS _ _ => ?_)
      obtain ⟨rfl, hu_6⟩ := hp_6
      cases hu_6
      refine lv_if_ne (tgt := 29) hx hb dX10_write_23 (by decide) (fun c_0 => absurd (by decide +kernel) c_0) (fun _ => ?_)
      refine lv_bipush (v := (-6)) hx hb dX10_write_26 (by decide +kernel) ?_
      exact z_iret (v := (-6)) hx hb hr hlocks hP hD hS dX10_write_28 (Or.inl ⟨by omega, by omega, rfl⟩)
  · cases hu_1
    refine lv_if_ne (tgt := 10) hx hb dX10_write_4 (by decide) (fun c_0 => absurd (by decide +kernel) c_0) (fun _ => ?_)
    refine lv_bipush (v := (-2)) hx hb dX10_write_7 (by decide +kernel) ?_
    exact z_iret (v := (-2)) hx hb hr hlocks hP hD hS dX10_write_9 (Or.inr ⟨by omega, rfl⟩)
set_option maxHeartbeats 4000000 in
set_option maxRecDepth 100000 in
theorem kX10_paste (l : Launch) (D : va_G) (q : Nat → Nat) (cA : Nat → ClassId)  (x : Int32) (i : Int32) (t : Int32) (k : Int32) (n : Int32)  : zMi l D vwCl (zXtys cA) 81 q (zXd q cA) yX10_paste cX10_paste 8 (some .int) ({ frames := 1, cells := 0, slots := 0, locals := 20 } : Room) [.ref (q 0), .int (x), .int (i), .int (t), .int (k), .int (n)] (zXI0, zXR0, zXJ0) (fun r _ => (0 ≤ x.toInt ∧ x.toInt ≤ 3 ∧ 0 ≤ t.toInt ∧ t.toInt ≤ 3 ∧ r = (-6)) ∨ ((x.toInt < 0 ∨ 3 < x.toInt ∨ t.toInt < 0 ∨ 3 < t.toInt) ∧ r = (-2))) := by
  intro sz
  refine z_body (by decide +kernel) (Nat.le_of_ble_eq_true rfl) (fun p e s m below meth c ls hx hb hml hr ht hown hlocks hsz hK hP hD hS hl => ?_)
  have hA : ∀ a, s.heap.size ≤ a → zA 81 q sz a := fun a h => Or.inr (hsz ▸ h)
  have hl : lv_has ls 8 [(0, .ref (q 0)), (1, .int (x)), (2, .int (i)), (3, .int (t)), (4, .int (k)), (5, .int (n))] := hl
  refine lv_iload_n hx hb dX10_paste_0 rfl (lv_at hl 1 rfl) ?_
  refine z_callSi (As := [.int (x)]) (rest := []) hx hb hml hown ht (kX10_isSlot l D q cA _ _ _ (x)) hw_5_60 hmX10_isSlot ⟨rfl, rfl⟩ (na := 1) rfl (by decide +kernel) (by decide) hK hP hD hS hA hl.1 rfl (Nat.le_of_ble_eq_true rfl) ⟨Nat.zero_le _, Nat.zero_le _⟩ dX10_paste_1 (fun r_1 I_1 R_1 J_1 H locs hp_1 hP hD hS _ _ => ?_)
  rcases hp_1 with ⟨rfl, hu_1, h1_1, h2_1⟩ | ⟨rfl, hu_1, h1_1⟩
  · cases hu_1
    refine lv_if_eq (tgt := 14) hx hb dX10_paste_4 (by decide) (fun c_0 => absurd c_0 (by decide +kernel)) (fun _ => ?_)
    refine lv_iload_n hx hb dX10_paste_7 rfl (lv_at hl 3 rfl) ?_
    refine z_callSi (As := [.int (t)]) (rest := []) hx hb hml hown ht (kX10_isSlot l D q cA _ _ _ (t)) hw_5_60 hmX10_isSlot ⟨rfl, rfl⟩ (na := 1) rfl (by decide +kernel) (by decide) hK hP hD hS hA hl.1 rfl (Nat.le_of_ble_eq_true rfl) ⟨Nat.zero_le _, Nat.zero_le _⟩ dX10_paste_8 (fun r_2 I_2 R_2 J_2 H locs hp_2 hP hD hS _ _ => ?_)
    rcases hp_2 with ⟨rfl, hu_2, h1_2, h2_2⟩ | ⟨rfl, hu_2, h1_2⟩
    · cases hu_2
      refine lv_if_ne (tgt := 17) hx hb dX10_paste_11 (by decide) (fun _ => ?_) (fun c_0 => absurd c_0 (by decide +kernel))
      refine lv_aload_n hx hb dX10_paste_17 rfl (lv_at hl 0 rfl) ?_
      refine z_get hx hb ht hown hK hP ziX10 rfl 0 (by decide) 11 (by decide) hw_2_104 rfl (v := .ref (q 72)) rfl dX10_paste_18 ?_
      refine lv_iload_n hx hb dX10_paste_21 rfl (lv_at hl 1 rfl) ?_
      obtain ⟨n_3, hn_3, rfl⟩ := z_ex (x := x) (N := 4) (by omega) (by omega)
      rcases (show n_3 = 0 ∨ n_3 = 1 ∨ n_3 = 2 ∨ n_3 = 3 by omega) with rfl | rfl | rfl | rfl
      · refine va_aldq hx hb hK hP 72 52 (zw_at (by decide) rfl) rfl (vp_in_nI (by decide) (by decide)) dX10_paste_22 ?_
        refine W.eq (g2 := F0 m 23 ls (.ref (q 73) :: [])) rfl ?_
        refine lv_astore (lv' := [(6, .ref (q 73)), (0, .ref (q 0)), (1, .int (nI 0)), (2, .int (i)), (3, .int (t)), (4, .int (k)), (5, .int (n))]) hx hb dX10_paste_23 hl (by decide) rfl (fun ls hl => ?_)
        refine lv_aload_n hx hb dX10_paste_25 rfl (lv_at hl 1 rfl) ?_
        refine z_get hx hb ht hown hK hP ziX10 rfl 0 (by decide) 11 (by decide) hw_2_104 rfl (v := .ref (q 72)) rfl dX10_paste_26 ?_
        refine lv_iload_n hx hb dX10_paste_29 rfl (lv_at hl 4 rfl) ?_
        obtain ⟨n_4, hn_4, rfl⟩ := z_ex (x := t) (N := 4) (by omega) (by omega)
        rcases (show n_4 = 0 ∨ n_4 = 1 ∨ n_4 = 2 ∨ n_4 = 3 by omega) with rfl | rfl | rfl | rfl
        · refine va_aldq hx hb hK hP 72 52 (zw_at (by decide) rfl) rfl (vp_in_nI (by decide) (by decide)) dX10_paste_30 ?_
          refine W.eq (g2 := F0 m 31 ls (.ref (q 73) :: [])) rfl ?_
          refine lv_astore (lv' := [(7, .ref (q 73)), (6, .ref (q 73)), (0, .ref (q 0)), (1, .int (nI 0)), (2, .int (i)), (3, .int (nI 0)), (4, .int (k)), (5, .int (n))]) hx hb dX10_paste_31 hl (by decide) rfl (fun ls hl => ?_)
          refine lv_aload hx hb dX10_paste_33 (lv_at hl 1 rfl) ?_
          refine z_callVi (k := 73) (As := []) (rest := []) hx hb hml hown ht (kX6_isThere_73 l D q cA ) hw_5_63 hmX6_isThere ⟨rfl, rfl⟩ (na := 0) rfl (by decide +kernel) (by decide) (by decide) rfl rfl hK hP hD hS hA hl.1 rfl (Nat.le_of_ble_eq_true rfl) ⟨Nat.zero_le _, Nat.zero_le _⟩ dX10_paste_35 (fun r_5 I_5 R_5 J_5 H locs hp_5 hP hD hS _ _ => ?_)
          obtain ⟨rfl, hu_5⟩ := hp_5
          cases hu_5
          refine lv_if_eq (tgt := 49) hx hb dX10_paste_38 (by decide) (fun _ => ?_) (fun c_0 => absurd (by decide +kernel) c_0)
          refine lv_bipush (v := (-6)) hx hb dX10_paste_49 (by decide +kernel) ?_
          exact z_iret (v := (-6)) hx hb hr hlocks hP hD hS dX10_paste_51 (Or.inl ⟨by omega, by omega, by omega, by omega, rfl⟩)
        · refine va_aldq hx hb hK hP 72 52 (zw_at (by decide) rfl) rfl (vp_in_nI (by decide) (by decide)) dX10_paste_30 ?_
          refine W.eq (g2 := F0 m 31 ls (.ref (q 75) :: [])) rfl ?_
          refine lv_astore (lv' := [(7, .ref (q 75)), (6, .ref (q 73)), (0, .ref (q 0)), (1, .int (nI 0)), (2, .int (i)), (3, .int (nI 1)), (4, .int (k)), (5, .int (n))]) hx hb dX10_paste_31 hl (by decide) rfl (fun ls hl => ?_)
          refine lv_aload hx hb dX10_paste_33 (lv_at hl 1 rfl) ?_
          refine z_callVi (k := 73) (As := []) (rest := []) hx hb hml hown ht (kX6_isThere_73 l D q cA ) hw_5_63 hmX6_isThere ⟨rfl, rfl⟩ (na := 0) rfl (by decide +kernel) (by decide) (by decide) rfl rfl hK hP hD hS hA hl.1 rfl (Nat.le_of_ble_eq_true rfl) ⟨Nat.zero_le _, Nat.zero_le _⟩ dX10_paste_35 (fun r_6 I_6 R_6 J_6 H locs hp_6 hP hD hS _ _ => ?_)
          obtain ⟨rfl, hu_6⟩ := hp_6
          cases hu_6
          refine lv_if_eq (tgt := 49) hx hb dX10_paste_38 (by decide) (fun _ => ?_) (fun c_0 => absurd (by decide +kernel) c_0)
          refine lv_bipush (v := (-6)) hx hb dX10_paste_49 (by decide +kernel) ?_
          exact z_iret (v := (-6)) hx hb hr hlocks hP hD hS dX10_paste_51 (Or.inl ⟨by omega, by omega, by omega, by omega, rfl⟩)
        · refine va_aldq hx hb hK hP 72 52 (zw_at (by decide) rfl) rfl (vp_in_nI (by decide) (by decide)) dX10_paste_30 ?_
          refine W.eq (g2 := F0 m 31 ls (.ref (q 77) :: [])) rfl ?_
          refine lv_astore (lv' := [(7, .ref (q 77)), (6, .ref (q 73)), (0, .ref (q 0)), (1, .int (nI 0)), (2, .int (i)), (3, .int (nI 2)), (4, .int (k)), (5, .int (n))]) hx hb dX10_paste_31 hl (by decide) rfl (fun ls hl => ?_)
          refine lv_aload hx hb dX10_paste_33 (lv_at hl 1 rfl) ?_
          refine z_callVi (k := 73) (As := []) (rest := []) hx hb hml hown ht (kX6_isThere_73 l D q cA ) hw_5_63 hmX6_isThere ⟨rfl, rfl⟩ (na := 0) rfl (by decide +kernel) (by decide) (by decide) rfl rfl hK hP hD hS hA hl.1 rfl (Nat.le_of_ble_eq_true rfl) ⟨Nat.zero_le _, Nat.zero_le _⟩ dX10_paste_35 (fun r_7 I_7 R_7 J_7 H locs hp_7 hP hD hS _ _ => ?_)
          obtain ⟨rfl, hu_7⟩ := hp_7
          cases hu_7
          refine lv_if_eq (tgt := 49) hx hb dX10_paste_38 (by decide) (fun _ => ?_) (fun c_0 => absurd (by decide +kernel) c_0)
          refine lv_bipush (v := (-6)) hx hb dX10_paste_49 (by decide +kernel) ?_
          exact z_iret (v := (-6)) hx hb hr hlocks hP hD hS dX10_paste_51 (Or.inl ⟨by omega, by omega, by omega, by omega, rfl⟩)
        · refine va_aldq hx hb hK hP 72 52 (zw_at (by decide) rfl) rfl (vp_in_nI (by decide) (by decide)) dX10_paste_30 ?_
          refine W.eq (g2 := F0 m 31 ls (.ref (q 79) :: [])) rfl ?_
          refine lv_astore (lv' := [(7, .ref (q 79)), (6, .ref (q 73)), (0, .ref (q 0)), (1, .int (nI 0)), (2, .int (i)), (3, .int (nI 3)), (4, .int (k)), (5, .int (n))]) hx hb dX10_paste_31 hl (by decide) rfl (fun ls hl => ?_)
          refine lv_aload hx hb dX10_paste_33 (lv_at hl 1 rfl) ?_
          refine z_callVi (k := 73) (As := []) (rest := []) hx hb hml hown ht (kX6_isThere_73 l D q cA ) hw_5_63 hmX6_isThere ⟨rfl, rfl⟩ (na := 0) rfl (by decide +kernel) (by decide) (by decide) rfl rfl hK hP hD hS hA hl.1 rfl (Nat.le_of_ble_eq_true rfl) ⟨Nat.zero_le _, Nat.zero_le _⟩ dX10_paste_35 (fun r_8 I_8 R_8 J_8 H locs hp_8 hP hD hS _ _ => ?_)
          obtain ⟨rfl, hu_8⟩ := hp_8
          cases hu_8
          refine lv_if_eq (tgt := 49) hx hb dX10_paste_38 (by decide) (fun _ => ?_) (fun c_0 => absurd (by decide +kernel) c_0)
          refine lv_bipush (v := (-6)) hx hb dX10_paste_49 (by decide +kernel) ?_
          exact z_iret (v := (-6)) hx hb hr hlocks hP hD hS dX10_paste_51 (Or.inl ⟨by omega, by omega, by omega, by omega, rfl⟩)
      · refine va_aldq hx hb hK hP 72 52 (zw_at (by decide) rfl) rfl (vp_in_nI (by decide) (by decide)) dX10_paste_22 ?_
        refine W.eq (g2 := F0 m 23 ls (.ref (q 75) :: [])) rfl ?_
        refine lv_astore (lv' := [(6, .ref (q 75)), (0, .ref (q 0)), (1, .int (nI 1)), (2, .int (i)), (3, .int (t)), (4, .int (k)), (5, .int (n))]) hx hb dX10_paste_23 hl (by decide) rfl (fun ls hl => ?_)
        refine lv_aload_n hx hb dX10_paste_25 rfl (lv_at hl 1 rfl) ?_
        refine z_get hx hb ht hown hK hP ziX10 rfl 0 (by decide) 11 (by decide) hw_2_104 rfl (v := .ref (q 72)) rfl dX10_paste_26 ?_
        refine lv_iload_n hx hb dX10_paste_29 rfl (lv_at hl 4 rfl) ?_
        obtain ⟨n_9, hn_9, rfl⟩ := z_ex (x := t) (N := 4) (by omega) (by omega)
        rcases (show n_9 = 0 ∨ n_9 = 1 ∨ n_9 = 2 ∨ n_9 = 3 by omega) with rfl | rfl | rfl | rfl
        · refine va_aldq hx hb hK hP 72 52 (zw_at (by decide) rfl) rfl (vp_in_nI (by decide) (by decide)) dX10_paste_30 ?_
          refine W.eq (g2 := F0 m 31 ls (.ref (q 73) :: [])) rfl ?_
          refine lv_astore (lv' := [(7, .ref (q 73)), (6, .ref (q 75)), (0, .ref (q 0)), (1, .int (nI 1)), (2, .int (i)), (3, .int (nI 0)), (4, .int (k)), (5, .int (n))]) hx hb dX10_paste_31 hl (by decide) rfl (fun ls hl => ?_)
          refine lv_aload hx hb dX10_paste_33 (lv_at hl 1 rfl) ?_
          refine z_callVi (k := 75) (As := []) (rest := []) hx hb hml hown ht (kX6_isThere_75 l D q cA ) hw_5_63 hmX6_isThere ⟨rfl, rfl⟩ (na := 0) rfl (by decide +kernel) (by decide) (by decide) rfl rfl hK hP hD hS hA hl.1 rfl (Nat.le_of_ble_eq_true rfl) ⟨Nat.zero_le _, Nat.zero_le _⟩ dX10_paste_35 (fun r_10 I_10 R_10 J_10 H locs hp_10 hP hD hS _ _ => ?_)
          obtain ⟨rfl, hu_10⟩ := hp_10
          cases hu_10
          refine lv_if_eq (tgt := 49) hx hb dX10_paste_38 (by decide) (fun _ => ?_) (fun c_0 => absurd (by decide +kernel) c_0)
          refine lv_bipush (v := (-6)) hx hb dX10_paste_49 (by decide +kernel) ?_
          exact z_iret (v := (-6)) hx hb hr hlocks hP hD hS dX10_paste_51 (Or.inl ⟨by omega, by omega, by omega, by omega, rfl⟩)
        · refine va_aldq hx hb hK hP 72 52 (zw_at (by decide) rfl) rfl (vp_in_nI (by decide) (by decide)) dX10_paste_30 ?_
          refine W.eq (g2 := F0 m 31 ls (.ref (q 75) :: [])) rfl ?_
          refine lv_astore (lv' := [(7, .ref (q 75)), (6, .ref (q 75)), (0, .ref (q 0)), (1, .int (nI 1)), (2, .int (i)), (3, .int (nI 1)), (4, .int (k)), (5, .int (n))]) hx hb dX10_paste_31 hl (by decide) rfl (fun ls hl => ?_)
          refine lv_aload hx hb dX10_paste_33 (lv_at hl 1 rfl) ?_
          refine z_callVi (k := 75) (As := []) (rest := []) hx hb hml hown ht (kX6_isThere_75 l D q cA ) hw_5_63 hmX6_isThere ⟨rfl, rfl⟩ (na := 0) rfl (by decide +kernel) (by decide) (by decide) rfl rfl hK hP hD hS hA hl.1 rfl (Nat.le_of_ble_eq_true rfl) ⟨Nat.zero_le _, Nat.zero_le _⟩ dX10_paste_35 (fun r_11 I_11 R_11 J_11 H locs hp_11 hP hD hS _ _ => ?_)
          obtain ⟨rfl, hu_11⟩ := hp_11
          cases hu_11
          refine lv_if_eq (tgt := 49) hx hb dX10_paste_38 (by decide) (fun _ => ?_) (fun c_0 => absurd (by decide +kernel) c_0)
          refine lv_bipush (v := (-6)) hx hb dX10_paste_49 (by decide +kernel) ?_
          exact z_iret (v := (-6)) hx hb hr hlocks hP hD hS dX10_paste_51 (Or.inl ⟨by omega, by omega, by omega, by omega, rfl⟩)
        · refine va_aldq hx hb hK hP 72 52 (zw_at (by decide) rfl) rfl (vp_in_nI (by decide) (by decide)) dX10_paste_30 ?_
          refine W.eq (g2 := F0 m 31 ls (.ref (q 77) :: [])) rfl ?_
          refine lv_astore (lv' := [(7, .ref (q 77)), (6, .ref (q 75)), (0, .ref (q 0)), (1, .int (nI 1)), (2, .int (i)), (3, .int (nI 2)), (4, .int (k)), (5, .int (n))]) hx hb dX10_paste_31 hl (by decide) rfl (fun ls hl => ?_)
          refine lv_aload hx hb dX10_paste_33 (lv_at hl 1 rfl) ?_
          refine z_callVi (k := 75) (As := []) (rest := []) hx hb hml hown ht (kX6_isThere_75 l D q cA ) hw_5_63 hmX6_isThere ⟨rfl, rfl⟩ (na := 0) rfl (by decide +kernel) (by decide) (by decide) rfl rfl hK hP hD hS hA hl.1 rfl (Nat.le_of_ble_eq_true rfl) ⟨Nat.zero_le _, Nat.zero_le _⟩ dX10_paste_35 (fun r_12 I_12 R_12 J_12 H locs hp_12 hP hD hS _ _ => ?_)
          obtain ⟨rfl, hu_12⟩ := hp_12
          cases hu_12
          refine lv_if_eq (tgt := 49) hx hb dX10_paste_38 (by decide) (fun _ => ?_) (fun c_0 => absurd (by decide +kernel) c_0)
          refine lv_bipush (v := (-6)) hx hb dX10_paste_49 (by decide +kernel) ?_
          exact z_iret (v := (-6)) hx hb hr hlocks hP hD hS dX10_paste_51 (Or.inl ⟨by omega, by omega, by omega, by omega, rfl⟩)
        · refine va_aldq hx hb hK hP 72 52 (zw_at (by decide) rfl) rfl (vp_in_nI (by decide) (by decide)) dX10_paste_30 ?_
          refine W.eq (g2 := F0 m 31 ls (.ref (q 79) :: [])) rfl ?_
          refine lv_astore (lv' := [(7, .ref (q 79)), (6, .ref (q 75)), (0, .ref (q 0)), (1, .int (nI 1)), (2, .int (i)), (3, .int (nI 3)), (4, .int (k)), (5, .int (n))]) hx hb dX10_paste_31 hl (by decide) rfl (fun ls hl => ?_)
          refine lv_aload hx hb dX10_paste_33 (lv_at hl 1 rfl) ?_
          refine z_callVi (k := 75) (As := []) (rest := []) hx hb hml hown ht (kX6_isThere_75 l D q cA ) hw_5_63 hmX6_isThere ⟨rfl, rfl⟩ (na := 0) rfl (by decide +kernel) (by decide) (by decide) rfl rfl hK hP hD hS hA hl.1 rfl (Nat.le_of_ble_eq_true rfl) ⟨Nat.zero_le _, Nat.zero_le _⟩ dX10_paste_35 (fun r_13 I_13 R_13 J_13 H locs hp_13 hP hD hS _ _ => ?_)
          obtain ⟨rfl, hu_13⟩ := hp_13
          cases hu_13
          refine lv_if_eq (tgt := 49) hx hb dX10_paste_38 (by decide) (fun _ => ?_) (fun c_0 => absurd (by decide +kernel) c_0)
          refine lv_bipush (v := (-6)) hx hb dX10_paste_49 (by decide +kernel) ?_
          exact z_iret (v := (-6)) hx hb hr hlocks hP hD hS dX10_paste_51 (Or.inl ⟨by omega, by omega, by omega, by omega, rfl⟩)
      · refine va_aldq hx hb hK hP 72 52 (zw_at (by decide) rfl) rfl (vp_in_nI (by decide) (by decide)) dX10_paste_22 ?_
        refine W.eq (g2 := F0 m 23 ls (.ref (q 77) :: [])) rfl ?_
        refine lv_astore (lv' := [(6, .ref (q 77)), (0, .ref (q 0)), (1, .int (nI 2)), (2, .int (i)), (3, .int (t)), (4, .int (k)), (5, .int (n))]) hx hb dX10_paste_23 hl (by decide) rfl (fun ls hl => ?_)
        refine lv_aload_n hx hb dX10_paste_25 rfl (lv_at hl 1 rfl) ?_
        refine z_get hx hb ht hown hK hP ziX10 rfl 0 (by decide) 11 (by decide) hw_2_104 rfl (v := .ref (q 72)) rfl dX10_paste_26 ?_
        refine lv_iload_n hx hb dX10_paste_29 rfl (lv_at hl 4 rfl) ?_
        obtain ⟨n_14, hn_14, rfl⟩ := z_ex (x := t) (N := 4) (by omega) (by omega)
        rcases (show n_14 = 0 ∨ n_14 = 1 ∨ n_14 = 2 ∨ n_14 = 3 by omega) with rfl | rfl | rfl | rfl
        · refine va_aldq hx hb hK hP 72 52 (zw_at (by decide) rfl) rfl (vp_in_nI (by decide) (by decide)) dX10_paste_30 ?_
          refine W.eq (g2 := F0 m 31 ls (.ref (q 73) :: [])) rfl ?_
          refine lv_astore (lv' := [(7, .ref (q 73)), (6, .ref (q 77)), (0, .ref (q 0)), (1, .int (nI 2)), (2, .int (i)), (3, .int (nI 0)), (4, .int (k)), (5, .int (n))]) hx hb dX10_paste_31 hl (by decide) rfl (fun ls hl => ?_)
          refine lv_aload hx hb dX10_paste_33 (lv_at hl 1 rfl) ?_
          refine z_callVi (k := 77) (As := []) (rest := []) hx hb hml hown ht (kX6_isThere_77 l D q cA ) hw_5_63 hmX6_isThere ⟨rfl, rfl⟩ (na := 0) rfl (by decide +kernel) (by decide) (by decide) rfl rfl hK hP hD hS hA hl.1 rfl (Nat.le_of_ble_eq_true rfl) ⟨Nat.zero_le _, Nat.zero_le _⟩ dX10_paste_35 (fun r_15 I_15 R_15 J_15 H locs hp_15 hP hD hS _ _ => ?_)
          obtain ⟨rfl, hu_15⟩ := hp_15
          cases hu_15
          refine lv_if_eq (tgt := 49) hx hb dX10_paste_38 (by decide) (fun _ => ?_) (fun c_0 => absurd (by decide +kernel) c_0)
          refine lv_bipush (v := (-6)) hx hb dX10_paste_49 (by decide +kernel) ?_
          exact z_iret (v := (-6)) hx hb hr hlocks hP hD hS dX10_paste_51 (Or.inl ⟨by omega, by omega, by omega, by omega, rfl⟩)
        · refine va_aldq hx hb hK hP 72 52 (zw_at (by decide) rfl) rfl (vp_in_nI (by decide) (by decide)) dX10_paste_30 ?_
          refine W.eq (g2 := F0 m 31 ls (.ref (q 75) :: [])) rfl ?_
          refine lv_astore (lv' := [(7, .ref (q 75)), (6, .ref (q 77)), (0, .ref (q 0)), (1, .int (nI 2)), (2, .int (i)), (3, .int (nI 1)), (4, .int (k)), (5, .int (n))]) hx hb dX10_paste_31 hl (by decide) rfl (fun ls hl => ?_)
          refine lv_aload hx hb dX10_paste_33 (lv_at hl 1 rfl) ?_
          refine z_callVi (k := 77) (As := []) (rest := []) hx hb hml hown ht (kX6_isThere_77 l D q cA ) hw_5_63 hmX6_isThere ⟨rfl, rfl⟩ (na := 0) rfl (by decide +kernel) (by decide) (by decide) rfl rfl hK hP hD hS hA hl.1 rfl (Nat.le_of_ble_eq_true rfl) ⟨Nat.zero_le _, Nat.zero_le _⟩ dX10_paste_35 (fun r_16 I_16 R_16 J_16 H locs hp_16 hP hD hS _ _ => ?_)
          obtain ⟨rfl, hu_16⟩ := hp_16
          cases hu_16
          refine lv_if_eq (tgt := 49) hx hb dX10_paste_38 (by decide) (fun _ => ?_) (fun c_0 => absurd (by decide +kernel) c_0)
          refine lv_bipush (v := (-6)) hx hb dX10_paste_49 (by decide +kernel) ?_
          exact z_iret (v := (-6)) hx hb hr hlocks hP hD hS dX10_paste_51 (Or.inl ⟨by omega, by omega, by omega, by omega, rfl⟩)
        · refine va_aldq hx hb hK hP 72 52 (zw_at (by decide) rfl) rfl (vp_in_nI (by decide) (by decide)) dX10_paste_30 ?_
          refine W.eq (g2 := F0 m 31 ls (.ref (q 77) :: [])) rfl ?_
          refine lv_astore (lv' := [(7, .ref (q 77)), (6, .ref (q 77)), (0, .ref (q 0)), (1, .int (nI 2)), (2, .int (i)), (3, .int (nI 2)), (4, .int (k)), (5, .int (n))]) hx hb dX10_paste_31 hl (by decide) rfl (fun ls hl => ?_)
          refine lv_aload hx hb dX10_paste_33 (lv_at hl 1 rfl) ?_
          refine z_callVi (k := 77) (As := []) (rest := []) hx hb hml hown ht (kX6_isThere_77 l D q cA ) hw_5_63 hmX6_isThere ⟨rfl, rfl⟩ (na := 0) rfl (by decide +kernel) (by decide) (by decide) rfl rfl hK hP hD hS hA hl.1 rfl (Nat.le_of_ble_eq_true rfl) ⟨Nat.zero_le _, Nat.zero_le _⟩ dX10_paste_35 (fun r_17 I_17 R_17 J_17 H locs hp_17 hP hD hS _ _ => ?_)
          obtain ⟨rfl, hu_17⟩ := hp_17
          cases hu_17
          refine lv_if_eq (tgt := 49) hx hb dX10_paste_38 (by decide) (fun _ => ?_) (fun c_0 => absurd (by decide +kernel) c_0)
          refine lv_bipush (v := (-6)) hx hb dX10_paste_49 (by decide +kernel) ?_
          exact z_iret (v := (-6)) hx hb hr hlocks hP hD hS dX10_paste_51 (Or.inl ⟨by omega, by omega, by omega, by omega, rfl⟩)
        · refine va_aldq hx hb hK hP 72 52 (zw_at (by decide) rfl) rfl (vp_in_nI (by decide) (by decide)) dX10_paste_30 ?_
          refine W.eq (g2 := F0 m 31 ls (.ref (q 79) :: [])) rfl ?_
          refine lv_astore (lv' := [(7, .ref (q 79)), (6, .ref (q 77)), (0, .ref (q 0)), (1, .int (nI 2)), (2, .int (i)), (3, .int (nI 3)), (4, .int (k)), (5, .int (n))]) hx hb dX10_paste_31 hl (by decide) rfl (fun ls hl => ?_)
          refine lv_aload hx hb dX10_paste_33 (lv_at hl 1 rfl) ?_
          refine z_callVi (k := 77) (As := []) (rest := []) hx hb hml hown ht (kX6_isThere_77 l D q cA ) hw_5_63 hmX6_isThere ⟨rfl, rfl⟩ (na := 0) rfl (by decide +kernel) (by decide) (by decide) rfl rfl hK hP hD hS hA hl.1 rfl (Nat.le_of_ble_eq_true rfl) ⟨Nat.zero_le _, Nat.zero_le _⟩ dX10_paste_35 (fun r_18 I_18 R_18 J_18 H locs hp_18 hP hD hS _ _ => ?_)
          obtain ⟨rfl, hu_18⟩ := hp_18
          cases hu_18
          refine lv_if_eq (tgt := 49) hx hb dX10_paste_38 (by decide) (fun _ => ?_) (fun c_0 => absurd (by decide +kernel) c_0)
          refine lv_bipush (v := (-6)) hx hb dX10_paste_49 (by decide +kernel) ?_
          exact z_iret (v := (-6)) hx hb hr hlocks hP hD hS dX10_paste_51 (Or.inl ⟨by omega, by omega, by omega, by omega, rfl⟩)
      · refine va_aldq hx hb hK hP 72 52 (zw_at (by decide) rfl) rfl (vp_in_nI (by decide) (by decide)) dX10_paste_22 ?_
        refine W.eq (g2 := F0 m 23 ls (.ref (q 79) :: [])) rfl ?_
        refine lv_astore (lv' := [(6, .ref (q 79)), (0, .ref (q 0)), (1, .int (nI 3)), (2, .int (i)), (3, .int (t)), (4, .int (k)), (5, .int (n))]) hx hb dX10_paste_23 hl (by decide) rfl (fun ls hl => ?_)
        refine lv_aload_n hx hb dX10_paste_25 rfl (lv_at hl 1 rfl) ?_
        refine z_get hx hb ht hown hK hP ziX10 rfl 0 (by decide) 11 (by decide) hw_2_104 rfl (v := .ref (q 72)) rfl dX10_paste_26 ?_
        refine lv_iload_n hx hb dX10_paste_29 rfl (lv_at hl 4 rfl) ?_
        obtain ⟨n_19, hn_19, rfl⟩ := z_ex (x := t) (N := 4) (by omega) (by omega)
        rcases (show n_19 = 0 ∨ n_19 = 1 ∨ n_19 = 2 ∨ n_19 = 3 by omega) with rfl | rfl | rfl | rfl
        · refine va_aldq hx hb hK hP 72 52 (zw_at (by decide) rfl) rfl (vp_in_nI (by decide) (by decide)) dX10_paste_30 ?_
          refine W.eq (g2 := F0 m 31 ls (.ref (q 73) :: [])) rfl ?_
          refine lv_astore (lv' := [(7, .ref (q 73)), (6, .ref (q 79)), (0, .ref (q 0)), (1, .int (nI 3)), (2, .int (i)), (3, .int (nI 0)), (4, .int (k)), (5, .int (n))]) hx hb dX10_paste_31 hl (by decide) rfl (fun ls hl => ?_)
          refine lv_aload hx hb dX10_paste_33 (lv_at hl 1 rfl) ?_
          refine z_callVi (k := 79) (As := []) (rest := []) hx hb hml hown ht (kX6_isThere_79 l D q cA ) hw_5_63 hmX6_isThere ⟨rfl, rfl⟩ (na := 0) rfl (by decide +kernel) (by decide) (by decide) rfl rfl hK hP hD hS hA hl.1 rfl (Nat.le_of_ble_eq_true rfl) ⟨Nat.zero_le _, Nat.zero_le _⟩ dX10_paste_35 (fun r_20 I_20 R_20 J_20 H locs hp_20 hP hD hS _ _ => ?_)
          obtain ⟨rfl, hu_20⟩ := hp_20
          cases hu_20
          refine lv_if_eq (tgt := 49) hx hb dX10_paste_38 (by decide) (fun _ => ?_) (fun c_0 => absurd (by decide +kernel) c_0)
          refine lv_bipush (v := (-6)) hx hb dX10_paste_49 (by decide +kernel) ?_
          exact z_iret (v := (-6)) hx hb hr hlocks hP hD hS dX10_paste_51 (Or.inl ⟨by omega, by omega, by omega, by omega, rfl⟩)
        · refine va_aldq hx hb hK hP 72 52 (zw_at (by decide) rfl) rfl (vp_in_nI (by decide) (by decide)) dX10_paste_30 ?_
          refine W.eq (g2 := F0 m 31 ls (.ref (q 75) :: [])) rfl ?_
          refine lv_astore (lv' := [(7, .ref (q 75)), (6, .ref (q 79)), (0, .ref (q 0)), (1, .int (nI 3)), (2, .int (i)), (3, .int (nI 1)), (4, .int (k)), (5, .int (n))]) hx hb dX10_paste_31 hl (by decide) rfl (fun ls hl => ?_)
          refine lv_aload hx hb dX10_paste_33 (lv_at hl 1 rfl) ?_
          refine z_callVi (k := 79) (As := []) (rest := []) hx hb hml hown ht (kX6_isThere_79 l D q cA ) hw_5_63 hmX6_isThere ⟨rfl, rfl⟩ (na := 0) rfl (by decide +kernel) (by decide) (by decide) rfl rfl hK hP hD hS hA hl.1 rfl (Nat.le_of_ble_eq_true rfl) ⟨Nat.zero_le _, Nat.zero_le _⟩ dX10_paste_35 (fun r_21 I_21 R_21 J_21 H locs hp_21 hP hD hS _ _ => ?_)
          obtain ⟨rfl, hu_21⟩ := hp_21
          cases hu_21
          refine lv_if_eq (tgt := 49) hx hb dX10_paste_38 (by decide) (fun _ => ?_) (fun c_0 => absurd (by decide +kernel) c_0)
          refine lv_bipush (v := (-6)) hx hb dX10_paste_49 (by decide +kernel) ?_
          exact z_iret (v := (-6)) hx hb hr hlocks hP hD hS dX10_paste_51 (Or.inl ⟨by omega, by omega, by omega, by omega, rfl⟩)
        · refine va_aldq hx hb hK hP 72 52 (zw_at (by decide) rfl) rfl (vp_in_nI (by decide) (by decide)) dX10_paste_30 ?_
          refine W.eq (g2 := F0 m 31 ls (.ref (q 77) :: [])) rfl ?_
          refine lv_astore (lv' := [(7, .ref (q 77)), (6, .ref (q 79)), (0, .ref (q 0)), (1, .int (nI 3)), (2, .int (i)), (3, .int (nI 2)), (4, .int (k)), (5, .int (n))]) hx hb dX10_paste_31 hl (by decide) rfl (fun ls hl => ?_)
          refine lv_aload hx hb dX10_paste_33 (lv_at hl 1 rfl) ?_
          refine z_callVi (k := 79) (As := []) (rest := []) hx hb hml hown ht (kX6_isThere_79 l D q cA ) hw_5_63 hmX6_isThere ⟨rfl, rfl⟩ (na := 0) rfl (by decide +kernel) (by decide) (by decide) rfl rfl hK hP hD hS hA hl.1 rfl (Nat.le_of_ble_eq_true rfl) ⟨Nat.zero_le _, Nat.zero_le _⟩ dX10_paste_35 (fun r_22 I_22 R_22 J_22 H locs hp_22 hP hD hS _ _ => ?_)
          obtain ⟨rfl, hu_22⟩ := hp_22
          cases hu_22
          refine lv_if_eq (tgt := 49) hx hb dX10_paste_38 (by decide) (fun _ => ?_) (fun c_0 => absurd (by decide +kernel) c_0)
          refine lv_bipush (v := (-6)) hx hb dX10_paste_49 (by decide +kernel) ?_
          exact z_iret (v := (-6)) hx hb hr hlocks hP hD hS dX10_paste_51 (Or.inl ⟨by omega, by omega, by omega, by omega, rfl⟩)
        · refine va_aldq hx hb hK hP 72 52 (zw_at (by decide) rfl) rfl (vp_in_nI (by decide) (by decide)) dX10_paste_30 ?_
          refine W.eq (g2 := F0 m 31 ls (.ref (q 79) :: [])) rfl ?_
          refine lv_astore (lv' := [(7, .ref (q 79)), (6, .ref (q 79)), (0, .ref (q 0)), (1, .int (nI 3)), (2, .int (i)), (3, .int (nI 3)), (4, .int (k)), (5, .int (n))]) hx hb dX10_paste_31 hl (by decide) rfl (fun ls hl => ?_)
          refine lv_aload hx hb dX10_paste_33 (lv_at hl 1 rfl) ?_
          refine z_callVi (k := 79) (As := []) (rest := []) hx hb hml hown ht (kX6_isThere_79 l D q cA ) hw_5_63 hmX6_isThere ⟨rfl, rfl⟩ (na := 0) rfl (by decide +kernel) (by decide) (by decide) rfl rfl hK hP hD hS hA hl.1 rfl (Nat.le_of_ble_eq_true rfl) ⟨Nat.zero_le _, Nat.zero_le _⟩ dX10_paste_35 (fun r_23 I_23 R_23 J_23 H locs hp_23 hP hD hS _ _ => ?_)
          obtain ⟨rfl, hu_23⟩ := hp_23
          cases hu_23
          refine lv_if_eq (tgt := 49) hx hb dX10_paste_38 (by decide) (fun _ => ?_) (fun c_0 => absurd (by decide +kernel) c_0)
          refine lv_bipush (v := (-6)) hx hb dX10_paste_49 (by decide +kernel) ?_
          exact z_iret (v := (-6)) hx hb hr hlocks hP hD hS dX10_paste_51 (Or.inl ⟨by omega, by omega, by omega, by omega, rfl⟩)
    · cases hu_2
      refine lv_if_ne (tgt := 17) hx hb dX10_paste_11 (by decide) (fun c_0 => absurd (by decide +kernel) c_0) (fun _ => ?_)
      refine lv_bipush (v := (-2)) hx hb dX10_paste_14 (by decide +kernel) ?_
      exact z_iret (v := (-2)) hx hb hr hlocks hP hD hS dX10_paste_16 (Or.inr ⟨by omega, rfl⟩)
  · cases hu_1
    refine lv_if_eq (tgt := 14) hx hb dX10_paste_4 (by decide) (fun _ => ?_) (fun c_0 => absurd (by decide +kernel) c_0)
    refine lv_bipush (v := (-2)) hx hb dX10_paste_14 (by decide +kernel) ?_
    exact z_iret (v := (-2)) hx hb hr hlocks hP hD hS dX10_paste_16 (Or.inr ⟨by omega, rfl⟩)
set_option maxHeartbeats 4000000 in
set_option maxRecDepth 100000 in
theorem kX7_hasRoom (l : Launch) (D : va_G) (q : Nat → Nat) (cA : Nat → ClassId)    : zMi l D vwCl (zXtys cA) 81 q (zXd q cA) yX7_hasRoom cX7_hasRoom 1 (some .boolean) ({ frames := 0, cells := 0, slots := 0, locals := 0 } : Room) [.ref (q 1)] (zXI0, zXR0, zXJ0) (fun r u => r = nI 1 ∧ u = (zXI0, zXR0, zXJ0)) := by
  intro sz
  refine z_body (by decide +kernel) (Nat.le_of_ble_eq_true rfl) (fun p e s m below meth c ls hx hb hml hr ht hown hlocks hsz hK hP hD hS hl => ?_)
  have hA : ∀ a, s.heap.size ≤ a → zA 81 q sz a := fun a h => Or.inr (hsz ▸ h)
  have hl : lv_has ls 1 [(0, .ref (q 1))] := hl
  refine lv_aload_n hx hb dX7_hasRoom_0 rfl (lv_at hl 0 rfl) ?_
  refine z_get hx hb ht hown hK hP ziX7 rfl 1 (by decide) 1 (by decide) hw_1_36 rfl (v := .int (nI 0)) rfl dX7_hasRoom_1 ?_
  refine lv_bipush (v := nI 20) hx hb dX7_hasRoom_4 (by decide +kernel) ?_
  refine lv_iadd hx hb dX7_hasRoom_6 ?_
  refine z_eqi (y := nI 20) (by decide +kernel) ?_
  refine lv_sipush (v := nI 800) hx hb dX7_hasRoom_7 (by decide +kernel) ?_
  refine lv_icmp_gt (tgt := 17) hx hb dX7_hasRoom_10 (by decide) (fun c_0 => absurd c_0 (by decide +kernel)) (fun _ => ?_)
  refine lv_iconst (v := nI 1) hx hb dX7_hasRoom_13 (by decide +kernel) ?_
  refine lv_goto (tgt := 18) hx hb dX7_hasRoom_14 (by decide) ?_
  exact z_zret (v := nI 1) hx hb hr hlocks hP hD hS (by decide +kernel) dX7_hasRoom_18 ⟨rfl, rfl⟩
set_option maxHeartbeats 4000000 in
set_option maxRecDepth 100000 in
theorem kX7_add (l : Launch) (D : va_G) (q : Nat → Nat) (cA : Nat → ClassId) (I R : Nat → Nat → Int32) (J : Nat → Nat → Int64) (n : Nat) (x : Int32) (hI : I 1 1 = nI n) (hn : n + 4 ≤ 800) : zMv l D vwCl (zXtys cA) 81 q (zXd q cA) yX7_add cX7_add 3 none ({ frames := 0, cells := 0, slots := 0, locals := 0 } : Room) [.ref (q 1), .int (x)] (I, R, J) (fun u => u.1 1 1 = nI (n + 4)) := by
  intro sz
  refine z_body (by decide +kernel) (Nat.le_of_ble_eq_true rfl) (fun p e s m below meth c ls hx hb hml hr ht hown hlocks hsz hK hP hD hS hl => ?_)
  have hA : ∀ a, s.heap.size ≤ a → zA 81 q sz a := fun a h => Or.inr (hsz ▸ h)
  have hl : lv_has ls 3 [(0, .ref (q 1)), (1, .int (x))] := hl
  refine lv_bipush (v := nI 24) hx hb dX7_add_0 (by decide +kernel) ?_
  refine lv_istore_n (lv' := [(2, .int (nI 24)), (0, .ref (q 1)), (1, .int (x))]) hx hb dX7_add_2 rfl hl (by decide) rfl (fun ls hl => ?_)
  refine lv_iload_n hx hb dX7_add_3 rfl (lv_at hl 0 rfl) ?_
  refine lv_if_lt (tgt := 46) hx hb dX7_add_4 (by decide) (fun c_0 => absurd c_0 (by decide +kernel)) (fun _ => ?_)
  refine lv_aload_n hx hb dX7_add_7 rfl (lv_at hl 1 rfl) ?_
  refine z_get hx hb ht hown hK hP ziX7 rfl 1 (by decide) 1 (by decide) hw_1_36 rfl (v := .int (I 1 1)) rfl dX7_add_8 ?_
  refine z_eqi (y := nI n) hI ?_
  refine lv_sipush (v := nI 800) hx hb dX7_add_11 (by decide +kernel) ?_
  refine lv_icmp_ge (tgt := 46) hx hb dX7_add_14 (by decide) (fun c_0 => absurd c_0 (nI_ge (by omega) (by omega))) (fun _ => ?_)
  refine lv_aload_n hx hb dX7_add_17 rfl (lv_at hl 1 rfl) ?_
  refine z_get hx hb ht hown hK hP ziX7 rfl 1 (by decide) 0 (by decide) hw_1_35 rfl (v := .ref (q 2)) rfl dX7_add_18 ?_
  refine lv_aload_n hx hb dX7_add_21 rfl (lv_at hl 1 rfl) ?_
  refine z_get hx hb ht hown hK hP ziX7 rfl 1 (by decide) 1 (by decide) hw_1_36 rfl (v := .int (I 1 1)) rfl dX7_add_22 ?_
  refine z_eqi (y := nI n) hI ?_
  refine lv_iload_n hx hb dX7_add_25 rfl (lv_at hl 2 rfl) ?_
  refine lv_iload_n hx hb dX7_add_26 rfl (lv_at hl 0 rfl) ?_
  refine lv_ishr hx hb dX7_add_27 ?_
  refine lv_i2b (v := ((x) >>> ((nI 24) &&& 31)).toInt8.toInt32) hx hb dX7_add_28 rfl ?_
  refine z_bast hx hb hK hP hD hS 2 (by decide) 0 (fun _ => rfl) rfl (vp_in_nI (by omega) (by decide)) dX7_add_29 (fun H locs hP hD hS => ?_)
  refine lv_aload_n hx hb dX7_add_30 rfl (lv_at hl 1 rfl) ?_
  refine lv_dup hx hb dX7_add_31 rfl ?_
  refine z_get hx hb ht hown hK hP ziX7 rfl 1 (by decide) 1 (by decide) hw_1_36 rfl (v := .int (I 1 1)) rfl dX7_add_32 ?_
  refine z_eqi (y := nI n) hI ?_
  refine lv_iconst (v := nI 1) hx hb dX7_add_35 (by decide +kernel) ?_
  refine lv_iadd hx hb dX7_add_36 ?_
  refine z_eqi (y := nI (n + 1)) (nI_add n 1) ?_
  refine z_putI hx hb ht hown hK hP hD hS ziX7 tyX7 tyX7_ok nmX7 rfl 1 (by decide) 1 (by decide) hw_1_36 rfl (v := nI (n + 1)) rfl rfl rfl (Nat.le_of_ble_eq_true rfl) rfl dX7_add_37 (fun H locs hP hD hS => ?_)
  refine lv_iinc (v := nI 16) (lv' := [(2, .int (nI 16)), (0, .ref (q 1)), (1, .int (x))]) hx hb dX7_add_40 hl (k := 0) rfl (by decide +kernel) (by decide) rfl (fun ls hl => ?_)
  refine lv_goto (tgt := 3) hx hb dX7_add_43 (by decide) ?_
  refine lv_iload_n hx hb dX7_add_3 rfl (lv_at hl 0 rfl) ?_
  refine lv_if_lt (tgt := 46) hx hb dX7_add_4 (by decide) (fun c_0 => absurd c_0 (by decide +kernel)) (fun _ => ?_)
  refine lv_aload_n hx hb dX7_add_7 rfl (lv_at hl 1 rfl) ?_
  refine z_get hx hb ht hown hK hP ziX7 rfl 1 (by decide) 1 (by decide) hw_1_36 rfl (v := .int (nI (n + 1))) rfl dX7_add_8 ?_
  refine lv_sipush (v := nI 800) hx hb dX7_add_11 (by decide +kernel) ?_
  refine lv_icmp_ge (tgt := 46) hx hb dX7_add_14 (by decide) (fun c_0 => absurd c_0 (nI_ge (by omega) (by omega))) (fun _ => ?_)
  refine lv_aload_n hx hb dX7_add_17 rfl (lv_at hl 1 rfl) ?_
  refine z_get hx hb ht hown hK hP ziX7 rfl 1 (by decide) 0 (by decide) hw_1_35 rfl (v := .ref (q 2)) rfl dX7_add_18 ?_
  refine lv_aload_n hx hb dX7_add_21 rfl (lv_at hl 1 rfl) ?_
  refine z_get hx hb ht hown hK hP ziX7 rfl 1 (by decide) 1 (by decide) hw_1_36 rfl (v := .int (nI (n + 1))) rfl dX7_add_22 ?_
  refine lv_iload_n hx hb dX7_add_25 rfl (lv_at hl 2 rfl) ?_
  refine lv_iload_n hx hb dX7_add_26 rfl (lv_at hl 0 rfl) ?_
  refine lv_ishr hx hb dX7_add_27 ?_
  refine lv_i2b (v := ((x) >>> ((nI 16) &&& 31)).toInt8.toInt32) hx hb dX7_add_28 rfl ?_
  refine z_bast hx hb hK hP hD hS 2 (by decide) 0 (fun _ => rfl) rfl (vp_in_nI (by omega) (by decide)) dX7_add_29 (fun H locs hP hD hS => ?_)
  refine lv_aload_n hx hb dX7_add_30 rfl (lv_at hl 1 rfl) ?_
  refine lv_dup hx hb dX7_add_31 rfl ?_
  refine z_get hx hb ht hown hK hP ziX7 rfl 1 (by decide) 1 (by decide) hw_1_36 rfl (v := .int (nI (n + 1))) rfl dX7_add_32 ?_
  refine lv_iconst (v := nI 1) hx hb dX7_add_35 (by decide +kernel) ?_
  refine lv_iadd hx hb dX7_add_36 ?_
  refine z_eqi (y := nI ((n + 1) + 1)) (nI_add (n + 1) 1) ?_
  refine z_putI hx hb ht hown hK hP hD hS ziX7 tyX7 tyX7_ok nmX7 rfl 1 (by decide) 1 (by decide) hw_1_36 rfl (v := nI ((n + 1) + 1)) rfl rfl rfl (Nat.le_of_ble_eq_true rfl) rfl dX7_add_37 (fun H locs hP hD hS => ?_)
  refine lv_iinc (v := nI 8) (lv' := [(2, .int (nI 8)), (0, .ref (q 1)), (1, .int (x))]) hx hb dX7_add_40 hl (k := 0) rfl (by decide +kernel) (by decide) rfl (fun ls hl => ?_)
  refine lv_goto (tgt := 3) hx hb dX7_add_43 (by decide) ?_
  refine lv_iload_n hx hb dX7_add_3 rfl (lv_at hl 0 rfl) ?_
  refine lv_if_lt (tgt := 46) hx hb dX7_add_4 (by decide) (fun c_0 => absurd c_0 (by decide +kernel)) (fun _ => ?_)
  refine lv_aload_n hx hb dX7_add_7 rfl (lv_at hl 1 rfl) ?_
  refine z_get hx hb ht hown hK hP ziX7 rfl 1 (by decide) 1 (by decide) hw_1_36 rfl (v := .int (nI ((n + 1) + 1))) rfl dX7_add_8 ?_
  refine lv_sipush (v := nI 800) hx hb dX7_add_11 (by decide +kernel) ?_
  refine lv_icmp_ge (tgt := 46) hx hb dX7_add_14 (by decide) (fun c_0 => absurd c_0 (nI_ge (by omega) (by omega))) (fun _ => ?_)
  refine lv_aload_n hx hb dX7_add_17 rfl (lv_at hl 1 rfl) ?_
  refine z_get hx hb ht hown hK hP ziX7 rfl 1 (by decide) 0 (by decide) hw_1_35 rfl (v := .ref (q 2)) rfl dX7_add_18 ?_
  refine lv_aload_n hx hb dX7_add_21 rfl (lv_at hl 1 rfl) ?_
  refine z_get hx hb ht hown hK hP ziX7 rfl 1 (by decide) 1 (by decide) hw_1_36 rfl (v := .int (nI ((n + 1) + 1))) rfl dX7_add_22 ?_
  refine lv_iload_n hx hb dX7_add_25 rfl (lv_at hl 2 rfl) ?_
  refine lv_iload_n hx hb dX7_add_26 rfl (lv_at hl 0 rfl) ?_
  refine lv_ishr hx hb dX7_add_27 ?_
  refine lv_i2b (v := ((x) >>> ((nI 8) &&& 31)).toInt8.toInt32) hx hb dX7_add_28 rfl ?_
  refine z_bast hx hb hK hP hD hS 2 (by decide) 0 (fun _ => rfl) rfl (vp_in_nI (by omega) (by decide)) dX7_add_29 (fun H locs hP hD hS => ?_)
  refine lv_aload_n hx hb dX7_add_30 rfl (lv_at hl 1 rfl) ?_
  refine lv_dup hx hb dX7_add_31 rfl ?_
  refine z_get hx hb ht hown hK hP ziX7 rfl 1 (by decide) 1 (by decide) hw_1_36 rfl (v := .int (nI ((n + 1) + 1))) rfl dX7_add_32 ?_
  refine lv_iconst (v := nI 1) hx hb dX7_add_35 (by decide +kernel) ?_
  refine lv_iadd hx hb dX7_add_36 ?_
  refine z_eqi (y := nI (((n + 1) + 1) + 1)) (nI_add ((n + 1) + 1) 1) ?_
  refine z_putI hx hb ht hown hK hP hD hS ziX7 tyX7 tyX7_ok nmX7 rfl 1 (by decide) 1 (by decide) hw_1_36 rfl (v := nI (((n + 1) + 1) + 1)) rfl rfl rfl (Nat.le_of_ble_eq_true rfl) rfl dX7_add_37 (fun H locs hP hD hS => ?_)
  refine lv_iinc (v := nI 0) (lv' := [(2, .int (nI 0)), (0, .ref (q 1)), (1, .int (x))]) hx hb dX7_add_40 hl (k := 0) rfl (by decide +kernel) (by decide) rfl (fun ls hl => ?_)
  refine lv_goto (tgt := 3) hx hb dX7_add_43 (by decide) ?_
  refine lv_iload_n hx hb dX7_add_3 rfl (lv_at hl 0 rfl) ?_
  refine lv_if_lt (tgt := 46) hx hb dX7_add_4 (by decide) (fun c_0 => absurd c_0 (by decide +kernel)) (fun _ => ?_)
  refine lv_aload_n hx hb dX7_add_7 rfl (lv_at hl 1 rfl) ?_
  refine z_get hx hb ht hown hK hP ziX7 rfl 1 (by decide) 1 (by decide) hw_1_36 rfl (v := .int (nI (((n + 1) + 1) + 1))) rfl dX7_add_8 ?_
  refine lv_sipush (v := nI 800) hx hb dX7_add_11 (by decide +kernel) ?_
  refine lv_icmp_ge (tgt := 46) hx hb dX7_add_14 (by decide) (fun c_0 => absurd c_0 (nI_ge (by omega) (by omega))) (fun _ => ?_)
  refine lv_aload_n hx hb dX7_add_17 rfl (lv_at hl 1 rfl) ?_
  refine z_get hx hb ht hown hK hP ziX7 rfl 1 (by decide) 0 (by decide) hw_1_35 rfl (v := .ref (q 2)) rfl dX7_add_18 ?_
  refine lv_aload_n hx hb dX7_add_21 rfl (lv_at hl 1 rfl) ?_
  refine z_get hx hb ht hown hK hP ziX7 rfl 1 (by decide) 1 (by decide) hw_1_36 rfl (v := .int (nI (((n + 1) + 1) + 1))) rfl dX7_add_22 ?_
  refine lv_iload_n hx hb dX7_add_25 rfl (lv_at hl 2 rfl) ?_
  refine lv_iload_n hx hb dX7_add_26 rfl (lv_at hl 0 rfl) ?_
  refine lv_ishr hx hb dX7_add_27 ?_
  refine lv_i2b (v := ((x) >>> ((nI 0) &&& 31)).toInt8.toInt32) hx hb dX7_add_28 rfl ?_
  refine z_bast hx hb hK hP hD hS 2 (by decide) 0 (fun _ => rfl) rfl (vp_in_nI (by omega) (by decide)) dX7_add_29 (fun H locs hP hD hS => ?_)
  refine lv_aload_n hx hb dX7_add_30 rfl (lv_at hl 1 rfl) ?_
  refine lv_dup hx hb dX7_add_31 rfl ?_
  refine z_get hx hb ht hown hK hP ziX7 rfl 1 (by decide) 1 (by decide) hw_1_36 rfl (v := .int (nI (((n + 1) + 1) + 1))) rfl dX7_add_32 ?_
  refine lv_iconst (v := nI 1) hx hb dX7_add_35 (by decide +kernel) ?_
  refine lv_iadd hx hb dX7_add_36 ?_
  refine z_eqi (y := nI ((((n + 1) + 1) + 1) + 1)) (nI_add (((n + 1) + 1) + 1) 1) ?_
  refine z_putI hx hb ht hown hK hP hD hS ziX7 tyX7 tyX7_ok nmX7 rfl 1 (by decide) 1 (by decide) hw_1_36 rfl (v := nI ((((n + 1) + 1) + 1) + 1)) rfl rfl rfl (Nat.le_of_ble_eq_true rfl) rfl dX7_add_37 (fun H locs hP hD hS => ?_)
  refine lv_iinc (v := (-8)) (lv' := [(2, .int ((-8))), (0, .ref (q 1)), (1, .int (x))]) hx hb dX7_add_40 hl (k := 0) rfl (by decide +kernel) (by decide) rfl (fun ls hl => ?_)
  refine lv_goto (tgt := 3) hx hb dX7_add_43 (by decide) ?_
  refine lv_iload_n hx hb dX7_add_3 rfl (lv_at hl 0 rfl) ?_
  refine lv_if_lt (tgt := 46) hx hb dX7_add_4 (by decide) (fun _ => ?_) (fun c_0 => absurd (by decide +kernel) c_0)
  exact z_vret hx hb hr hlocks hP hD hS dX7_add_46 (congrArg nI (by omega))
set_option maxHeartbeats 4000000 in
set_option maxRecDepth 100000 in
theorem kX10_feed (l : Launch) (D : va_G) (q : Nat → Nat) (cA : Nat → ClassId)  (a : Int32) (b : Int32) (c_ : Int32) (d_ : Int32) (e_ : Int32)  : zMi l D vwCl (zXtys cA) 81 q (zXd q cA) yX10_feed cX10_feed 6 (some .int) ({ frames := 1, cells := 0, slots := 0, locals := 22 } : Room) [.ref (q 0), .int (a), .int (b), .int (c_), .int (d_), .int (e_)] (zXI0, zXR0, zXJ0) (fun r _ => r = nI 20) := by
  intro sz
  refine z_body (by decide +kernel) (Nat.le_of_ble_eq_true rfl) (fun p e s m below meth c ls hx hb hml hr ht hown hlocks hsz hK hP hD hS hl => ?_)
  have hA : ∀ a, s.heap.size ≤ a → zA 81 q sz a := fun a h => Or.inr (hsz ▸ h)
  have hl : lv_has ls 6 [(0, .ref (q 0)), (1, .int (a)), (2, .int (b)), (3, .int (c_)), (4, .int (d_)), (5, .int (e_))] := hl
  refine lv_aload_n hx hb dX10_feed_0 rfl (lv_at hl 0 rfl) ?_
  refine z_get hx hb ht hown hK hP ziX10 rfl 0 (by decide) 0 (by decide) hw_2_93 rfl (v := .ref (q 1)) rfl dX10_feed_1 ?_
  refine z_callVi (k := 1) (As := []) (rest := []) hx hb hml hown ht (kX7_hasRoom l D q cA ) hw_2_134 hmX7_hasRoom ⟨rfl, rfl⟩ (na := 0) rfl (by decide +kernel) (by decide) (by decide) rfl rfl hK hP hD hS hA hl.1 rfl (Nat.le_of_ble_eq_true rfl) ⟨Nat.zero_le _, Nat.zero_le _⟩ dX10_feed_4 (fun r_1 I_1 R_1 J_1 H locs hp_1 hP hD hS _ _ => ?_)
  obtain ⟨rfl, hu_1⟩ := hp_1
  cases hu_1
  refine lv_if_ne (tgt := 12) hx hb dX10_feed_7 (by decide) (fun _ => ?_) (fun c_0 => absurd c_0 (by decide +kernel))
  refine lv_aload_n hx hb dX10_feed_12 rfl (lv_at hl 0 rfl) ?_
  refine z_get hx hb ht hown hK hP ziX10 rfl 0 (by decide) 0 (by decide) hw_2_93 rfl (v := .ref (q 1)) rfl dX10_feed_13 ?_
  refine lv_iload_n hx hb dX10_feed_16 rfl (lv_at hl 1 rfl) ?_
  refine z_callVv (k := 1) (As := [.int (a)]) (rest := []) hx hb hml hown ht (kX7_add l D q cA zXI0 _ _ 0 (a) rfl (by decide)) hw_2_138 hmX7_add ⟨rfl, rfl⟩ (na := 1) rfl (by decide +kernel) (by decide) (by decide) rfl rfl hK hP hD hS hA hl.1 rfl (Nat.le_of_ble_eq_true rfl) ⟨Nat.zero_le _, Nat.zero_le _⟩ dX10_feed_17 (fun I_2 R_2 J_2 H locs hp_2 hP hD hS _ _ => ?_)
  dsimp only at hp_2
  refine lv_aload_n hx hb dX10_feed_20 rfl (lv_at hl 0 rfl) ?_
  refine z_get hx hb ht hown hK hP ziX10 rfl 0 (by decide) 0 (by decide) hw_2_93 rfl (v := .ref (q 1)) rfl dX10_feed_21 ?_
  refine lv_iload_n hx hb dX10_feed_24 rfl (lv_at hl 2 rfl) ?_
  refine z_callVv (k := 1) (As := [.int (b)]) (rest := []) hx hb hml hown ht (kX7_add l D q cA I_2 _ _ 4 (b) hp_2 (by decide)) hw_2_138 hmX7_add ⟨rfl, rfl⟩ (na := 1) rfl (by decide +kernel) (by decide) (by decide) rfl rfl hK hP hD hS hA hl.1 rfl (Nat.le_of_ble_eq_true rfl) ⟨Nat.zero_le _, Nat.zero_le _⟩ dX10_feed_25 (fun I_3 R_3 J_3 H locs hp_3 hP hD hS _ _ => ?_)
  dsimp only at hp_3
  refine lv_aload_n hx hb dX10_feed_28 rfl (lv_at hl 0 rfl) ?_
  refine z_get hx hb ht hown hK hP ziX10 rfl 0 (by decide) 0 (by decide) hw_2_93 rfl (v := .ref (q 1)) rfl dX10_feed_29 ?_
  refine lv_iload_n hx hb dX10_feed_32 rfl (lv_at hl 3 rfl) ?_
  refine z_callVv (k := 1) (As := [.int (c_)]) (rest := []) hx hb hml hown ht (kX7_add l D q cA I_3 _ _ 8 (c_) hp_3 (by decide)) hw_2_138 hmX7_add ⟨rfl, rfl⟩ (na := 1) rfl (by decide +kernel) (by decide) (by decide) rfl rfl hK hP hD hS hA hl.1 rfl (Nat.le_of_ble_eq_true rfl) ⟨Nat.zero_le _, Nat.zero_le _⟩ dX10_feed_33 (fun I_4 R_4 J_4 H locs hp_4 hP hD hS _ _ => ?_)
  dsimp only at hp_4
  refine lv_aload_n hx hb dX10_feed_36 rfl (lv_at hl 0 rfl) ?_
  refine z_get hx hb ht hown hK hP ziX10 rfl 0 (by decide) 0 (by decide) hw_2_93 rfl (v := .ref (q 1)) rfl dX10_feed_37 ?_
  refine lv_iload hx hb dX10_feed_40 (lv_at hl 4 rfl) ?_
  refine z_callVv (k := 1) (As := [.int (d_)]) (rest := []) hx hb hml hown ht (kX7_add l D q cA I_4 _ _ 12 (d_) hp_4 (by decide)) hw_2_138 hmX7_add ⟨rfl, rfl⟩ (na := 1) rfl (by decide +kernel) (by decide) (by decide) rfl rfl hK hP hD hS hA hl.1 rfl (Nat.le_of_ble_eq_true rfl) ⟨Nat.zero_le _, Nat.zero_le _⟩ dX10_feed_42 (fun I_5 R_5 J_5 H locs hp_5 hP hD hS _ _ => ?_)
  dsimp only at hp_5
  refine lv_aload_n hx hb dX10_feed_45 rfl (lv_at hl 0 rfl) ?_
  refine z_get hx hb ht hown hK hP ziX10 rfl 0 (by decide) 0 (by decide) hw_2_93 rfl (v := .ref (q 1)) rfl dX10_feed_46 ?_
  refine lv_iload hx hb dX10_feed_49 (lv_at hl 5 rfl) ?_
  refine z_callVv (k := 1) (As := [.int (e_)]) (rest := []) hx hb hml hown ht (kX7_add l D q cA I_5 _ _ 16 (e_) hp_5 (by decide)) hw_2_138 hmX7_add ⟨rfl, rfl⟩ (na := 1) rfl (by decide +kernel) (by decide) (by decide) rfl rfl hK hP hD hS hA hl.1 rfl (Nat.le_of_ble_eq_true rfl) ⟨Nat.zero_le _, Nat.zero_le _⟩ dX10_feed_51 (fun I_6 R_6 J_6 H locs hp_6 hP hD hS _ _ => ?_)
  dsimp only at hp_6
  refine lv_aload_n hx hb dX10_feed_54 rfl (lv_at hl 0 rfl) ?_
  refine z_get hx hb ht hown hK hP ziX10 rfl 0 (by decide) 0 (by decide) hw_2_93 rfl (v := .ref (q 1)) rfl dX10_feed_55 ?_
  refine z_get hx hb ht hown hK hP ziX7 rfl 1 (by decide) 1 (by decide) hw_1_37 rfl (v := .int (I_6 1 1)) rfl dX10_feed_58 ?_
  refine z_eqi (y := nI 20) hp_6 ?_
  exact z_iret (v := nI 20) hx hb hr hlocks hP hD hS dX10_feed_61 rfl
set_option maxHeartbeats 4000000 in
set_option maxRecDepth 100000 in
theorem kJ7_fill_53178_12 (l : Launch) (D : va_G) (q : Nat → Nat) (cA : Nat → ClassId) (I R : Nat → Nat → Int32) (J : Nat → Nat → Int64) (x : Int32)  : zMv l D vwCl (zXtys cA) 81 q (zXd q cA) yJ7_fill_53178 cJ7_fill_53178 4 none ({ frames := 0, cells := 0, slots := 0, locals := 0 } : Room) [.ref (q 12), .int (x)] (I, R, J) (fun u => ∃ g : Nat → Int32, u = (I, zr R 12 g, J)) := by
  intro sz
  refine z_body (by decide +kernel) (Nat.le_of_ble_eq_true rfl) (fun p e s m below meth c ls hx hb hml hr ht hown hlocks hsz hK hP hD hS hl => ?_)
  have hA : ∀ a, s.heap.size ≤ a → zA 81 q sz a := fun a h => Or.inr (hsz ▸ h)
  have hl : lv_has ls 4 [(0, .ref (q 12)), (1, .int (x))] := hl
  refine lv_iconst (v := nI 0) hx hb dJ7_fill_53178_0 (by decide +kernel) ?_
  refine lv_istore_n (lv' := [(2, .int (nI 0)), (0, .ref (q 12)), (1, .int (x))]) hx hb dJ7_fill_53178_1 rfl hl (by decide) rfl (fun ls hl => ?_)
  refine lv_aload_n hx hb dJ7_fill_53178_2 rfl (lv_at hl 1 rfl) ?_
  refine z_alen hx hb hK hP 12 (by decide) 8 rfl rfl dJ7_fill_53178_3 ?_
  refine lv_istore_n (lv' := [(3, .int (nI 30)), (2, .int (nI 0)), (0, .ref (q 12)), (1, .int (x))]) hx hb dJ7_fill_53178_4 rfl hl (by decide) rfl (fun ls hl => ?_)
  have loop_k_1 : ∀ (N k_1 : Nat) (gk_1_12 : Nat → Int32), k_1 ≤ 30 → 30 < k_1 + N → ∀ (H : Heap) (locs : List Loc), va_P D vwCl (zw 81 q (zXd q cA) I (zr R 12 gk_1_12) J) H → va_D (zA 81 q sz) (zw 81 q (zXd q cA) I (zr R 12 gk_1_12) J) → va_S (zA 81 q sz) s.heap H locs → ∀ ls : Array Slot, lv_has ls 4 [(0, .ref (q 12)), (1, .int (x)), (2, .int (nI k_1)), (3, .int (nI 30))] → W p l e ({ frames := 0, cells := 0, slots := 0, locals := 0 } : Room) s m ([.ref (q 12), .int (x)] : List Value).toArray below meth c H locs 0 0 (MQ below (va_Qv (fun u => ∃ g : Nat → Int32, u = (I, zr R 12 g, J)) (zB D vwCl 81 q (zXd q cA) sz) (zA 81 q sz)) ([.ref (q 12), .int (x)] : List Value).toArray s 0 0 (zA 81 q sz)) (F0 m 5 ls []) := by
    intro N
    induction N with
    | zero => intro k_1 gk_1_12 h1 h2; exact absurd h2 (by omega)
    | succ N ih =>
      intro k_1 gk_1_12 h1k_1 h2k_1  H locs hP hD hS ls hl
      rcases Nat.lt_or_ge k_1 30 with hkk_1 | hkk_1
      · refine lv_iload_n hx hb dJ7_fill_53178_5 rfl (lv_at hl 2 rfl) ?_
        refine lv_iload_n hx hb dJ7_fill_53178_6 rfl (lv_at hl 3 rfl) ?_
        refine lv_icmp_ge (tgt := 20) hx hb dJ7_fill_53178_7 (by decide) (fun c_0 => absurd c_0 (nI_ge (by omega) (by omega))) (fun _ => ?_)
        refine lv_aload_n hx hb dJ7_fill_53178_10 rfl (lv_at hl 0 rfl) ?_
        refine lv_iload_n hx hb dJ7_fill_53178_11 rfl (lv_at hl 2 rfl) ?_
        refine lv_iload_n hx hb dJ7_fill_53178_12 rfl (lv_at hl 1 rfl) ?_
        refine z_iast hx hb hK hP hD hS 12 (by decide) 8 (fun _ => rfl) rfl (vp_in_nI (by omega) (by decide)) dJ7_fill_53178_13 (fun H locs hP hD hS => ?_)
        refine lv_iinc (v := nI (k_1 + 1)) (lv' := [(2, .int (nI (k_1 + 1))), (0, .ref (q 12)), (1, .int (x)), (3, .int (nI 30))]) hx hb dJ7_fill_53178_14 hl (k := 2) rfl (nI_add k_1 1) (by decide) rfl (fun ls hl => ?_)
        refine lv_goto (tgt := 5) hx hb dJ7_fill_53178_17 (by decide) ?_
        rw [zp_zr] at hP hD
        exact ih ((k_1 + 1)) _ (by omega) (by omega)  _ _ hP hD hS _ (lv_sub hl [1, 2, 0, 3] rfl)
      · refine lv_iload_n hx hb dJ7_fill_53178_5 rfl (lv_at hl 2 rfl) ?_
        refine lv_iload_n hx hb dJ7_fill_53178_6 rfl (lv_at hl 3 rfl) ?_
        refine lv_icmp_ge (tgt := 20) hx hb dJ7_fill_53178_7 (by decide) (fun _ => ?_) (fun c_0 => absurd (nI_le (by omega) (by omega)) c_0)
        exact z_vret hx hb hr hlocks hP hD hS dJ7_fill_53178_20 ⟨_, rfl⟩
  exact loop_k_1 31 0 (R 12) (by omega) (by omega)  _ _ (by simp only [zr_self]; exact hP) (by simp only [zr_self]; exact hD) hS _ (lv_sub hl [2, 3, 1, 0] rfl)
set_option maxHeartbeats 4000000 in
set_option maxRecDepth 100000 in
theorem kJ7_fill_53178_18 (l : Launch) (D : va_G) (q : Nat → Nat) (cA : Nat → ClassId) (I R : Nat → Nat → Int32) (J : Nat → Nat → Int64) (x : Int32)  : zMv l D vwCl (zXtys cA) 81 q (zXd q cA) yJ7_fill_53178 cJ7_fill_53178 4 none ({ frames := 0, cells := 0, slots := 0, locals := 0 } : Room) [.ref (q 18), .int (x)] (I, R, J) (fun u => ∃ g : Nat → Int32, u = (I, zr R 18 g, J)) := by
  intro sz
  refine z_body (by decide +kernel) (Nat.le_of_ble_eq_true rfl) (fun p e s m below meth c ls hx hb hml hr ht hown hlocks hsz hK hP hD hS hl => ?_)
  have hA : ∀ a, s.heap.size ≤ a → zA 81 q sz a := fun a h => Or.inr (hsz ▸ h)
  have hl : lv_has ls 4 [(0, .ref (q 18)), (1, .int (x))] := hl
  refine lv_iconst (v := nI 0) hx hb dJ7_fill_53178_0 (by decide +kernel) ?_
  refine lv_istore_n (lv' := [(2, .int (nI 0)), (0, .ref (q 18)), (1, .int (x))]) hx hb dJ7_fill_53178_1 rfl hl (by decide) rfl (fun ls hl => ?_)
  refine lv_aload_n hx hb dJ7_fill_53178_2 rfl (lv_at hl 1 rfl) ?_
  refine z_alen hx hb hK hP 18 (by decide) 12 rfl rfl dJ7_fill_53178_3 ?_
  refine lv_istore_n (lv' := [(3, .int (nI 6)), (2, .int (nI 0)), (0, .ref (q 18)), (1, .int (x))]) hx hb dJ7_fill_53178_4 rfl hl (by decide) rfl (fun ls hl => ?_)
  have loop_k_1 : ∀ (N k_1 : Nat) (gk_1_18 : Nat → Int32), k_1 ≤ 6 → 6 < k_1 + N → ∀ (H : Heap) (locs : List Loc), va_P D vwCl (zw 81 q (zXd q cA) I (zr R 18 gk_1_18) J) H → va_D (zA 81 q sz) (zw 81 q (zXd q cA) I (zr R 18 gk_1_18) J) → va_S (zA 81 q sz) s.heap H locs → ∀ ls : Array Slot, lv_has ls 4 [(0, .ref (q 18)), (1, .int (x)), (2, .int (nI k_1)), (3, .int (nI 6))] → W p l e ({ frames := 0, cells := 0, slots := 0, locals := 0 } : Room) s m ([.ref (q 18), .int (x)] : List Value).toArray below meth c H locs 0 0 (MQ below (va_Qv (fun u => ∃ g : Nat → Int32, u = (I, zr R 18 g, J)) (zB D vwCl 81 q (zXd q cA) sz) (zA 81 q sz)) ([.ref (q 18), .int (x)] : List Value).toArray s 0 0 (zA 81 q sz)) (F0 m 5 ls []) := by
    intro N
    induction N with
    | zero => intro k_1 gk_1_18 h1 h2; exact absurd h2 (by omega)
    | succ N ih =>
      intro k_1 gk_1_18 h1k_1 h2k_1  H locs hP hD hS ls hl
      rcases Nat.lt_or_ge k_1 6 with hkk_1 | hkk_1
      · refine lv_iload_n hx hb dJ7_fill_53178_5 rfl (lv_at hl 2 rfl) ?_
        refine lv_iload_n hx hb dJ7_fill_53178_6 rfl (lv_at hl 3 rfl) ?_
        refine lv_icmp_ge (tgt := 20) hx hb dJ7_fill_53178_7 (by decide) (fun c_0 => absurd c_0 (nI_ge (by omega) (by omega))) (fun _ => ?_)
        refine lv_aload_n hx hb dJ7_fill_53178_10 rfl (lv_at hl 0 rfl) ?_
        refine lv_iload_n hx hb dJ7_fill_53178_11 rfl (lv_at hl 2 rfl) ?_
        refine lv_iload_n hx hb dJ7_fill_53178_12 rfl (lv_at hl 1 rfl) ?_
        refine z_iast hx hb hK hP hD hS 18 (by decide) 12 (fun _ => rfl) rfl (vp_in_nI (by omega) (by decide)) dJ7_fill_53178_13 (fun H locs hP hD hS => ?_)
        refine lv_iinc (v := nI (k_1 + 1)) (lv' := [(2, .int (nI (k_1 + 1))), (0, .ref (q 18)), (1, .int (x)), (3, .int (nI 6))]) hx hb dJ7_fill_53178_14 hl (k := 2) rfl (nI_add k_1 1) (by decide) rfl (fun ls hl => ?_)
        refine lv_goto (tgt := 5) hx hb dJ7_fill_53178_17 (by decide) ?_
        rw [zp_zr] at hP hD
        exact ih ((k_1 + 1)) _ (by omega) (by omega)  _ _ hP hD hS _ (lv_sub hl [1, 2, 0, 3] rfl)
      · refine lv_iload_n hx hb dJ7_fill_53178_5 rfl (lv_at hl 2 rfl) ?_
        refine lv_iload_n hx hb dJ7_fill_53178_6 rfl (lv_at hl 3 rfl) ?_
        refine lv_icmp_ge (tgt := 20) hx hb dJ7_fill_53178_7 (by decide) (fun _ => ?_) (fun c_0 => absurd (nI_le (by omega) (by omega)) c_0)
        exact z_vret hx hb hr hlocks hP hD hS dJ7_fill_53178_20 ⟨_, rfl⟩
  exact loop_k_1 7 0 (R 18) (by omega) (by omega)  _ _ (by simp only [zr_self]; exact hP) (by simp only [zr_self]; exact hD) hS _ (lv_sub hl [2, 3, 1, 0] rfl)
set_option maxHeartbeats 4000000 in
set_option maxRecDepth 100000 in
theorem kJ7_fill_d0a16_74 (l : Launch) (D : va_G) (q : Nat → Nat) (cA : Nat → ClassId) (I R : Nat → Nat → Int32) (J : Nat → Nat → Int64) (x : Int64)  : zMv l D vwCl (zXtys cA) 81 q (zXd q cA) yJ7_fill_d0a16 cJ7_fill_d0a16 5 none ({ frames := 0, cells := 0, slots := 0, locals := 0 } : Room) [.ref (q 74), .long (x)] (I, R, J) (fun u => ∃ g : Nat → Int64, u = (I, R, zr J 74 g)) := by
  intro sz
  refine z_body (by decide +kernel) (Nat.le_of_ble_eq_true rfl) (fun p e s m below meth c ls hx hb hml hr ht hown hlocks hsz hK hP hD hS hl => ?_)
  have hA : ∀ a, s.heap.size ≤ a → zA 81 q sz a := fun a h => Or.inr (hsz ▸ h)
  have hl : lv_has ls 5 [(0, .ref (q 74)), (1, .long (x))] := hl
  refine lv_iconst (v := nI 0) hx hb dJ7_fill_d0a16_0 (by decide +kernel) ?_
  refine lv_istore_n (lv' := [(3, .int (nI 0)), (0, .ref (q 74)), (1, .long (x))]) hx hb dJ7_fill_d0a16_1 rfl hl (by decide) rfl (fun ls hl => ?_)
  refine lv_aload_n hx hb dJ7_fill_d0a16_2 rfl (lv_at hl 1 rfl) ?_
  refine z_alen hx hb hK hP 74 (by decide) 53 rfl rfl dJ7_fill_d0a16_3 ?_
  refine lv_istore (lv' := [(4, .int (nI 60)), (3, .int (nI 0)), (0, .ref (q 74)), (1, .long (x))]) hx hb dJ7_fill_d0a16_4 hl (by decide) rfl (fun ls hl => ?_)
  have loop_k_1 : ∀ (N k_1 : Nat) (jk_1_74 : Nat → Int64), k_1 ≤ 60 → 60 < k_1 + N → ∀ (H : Heap) (locs : List Loc), va_P D vwCl (zw 81 q (zXd q cA) I R (zr J 74 jk_1_74)) H → va_D (zA 81 q sz) (zw 81 q (zXd q cA) I R (zr J 74 jk_1_74)) → va_S (zA 81 q sz) s.heap H locs → ∀ ls : Array Slot, lv_has ls 5 [(0, .ref (q 74)), (1, .long (x)), (3, .int (nI k_1)), (4, .int (nI 60))] → W p l e ({ frames := 0, cells := 0, slots := 0, locals := 0 } : Room) s m ([.ref (q 74), .long (x)] : List Value).toArray below meth c H locs 0 0 (MQ below (va_Qv (fun u => ∃ g : Nat → Int64, u = (I, R, zr J 74 g)) (zB D vwCl 81 q (zXd q cA) sz) (zA 81 q sz)) ([.ref (q 74), .long (x)] : List Value).toArray s 0 0 (zA 81 q sz)) (F0 m 6 ls []) := by
    intro N
    induction N with
    | zero => intro k_1 jk_1_74 h1 h2; exact absurd h2 (by omega)
    | succ N ih =>
      intro k_1 jk_1_74 h1k_1 h2k_1  H locs hP hD hS ls hl
      rcases Nat.lt_or_ge k_1 60 with hkk_1 | hkk_1
      · refine lv_iload_n hx hb dJ7_fill_d0a16_6 rfl (lv_at hl 2 rfl) ?_
        refine lv_iload hx hb dJ7_fill_d0a16_7 (lv_at hl 3 rfl) ?_
        refine lv_icmp_ge (tgt := 22) hx hb dJ7_fill_d0a16_9 (by decide) (fun c_0 => absurd c_0 (nI_ge (by omega) (by omega))) (fun _ => ?_)
        refine lv_aload_n hx hb dJ7_fill_d0a16_12 rfl (lv_at hl 0 rfl) ?_
        refine lv_iload_n hx hb dJ7_fill_d0a16_13 rfl (lv_at hl 2 rfl) ?_
        refine lv_lload_n hx hb dJ7_fill_d0a16_14 rfl (lv_at hl 1 rfl) ?_
        refine z_last hx hb hK hP hD hS 74 (by decide) 53 (fun _ => rfl) rfl (vp_in_nI (by omega) (by decide)) dJ7_fill_d0a16_15 (fun H locs hP hD hS => ?_)
        refine lv_iinc (v := nI (k_1 + 1)) (lv' := [(3, .int (nI (k_1 + 1))), (0, .ref (q 74)), (1, .long (x)), (4, .int (nI 60))]) hx hb dJ7_fill_d0a16_16 hl (k := 2) rfl (nI_add k_1 1) (by decide) rfl (fun ls hl => ?_)
        refine lv_goto (tgt := 6) hx hb dJ7_fill_d0a16_19 (by decide) ?_
        rw [zp_zr] at hP hD
        exact ih ((k_1 + 1)) _ (by omega) (by omega)  _ _ hP hD hS _ (lv_sub hl [1, 2, 0, 3] rfl)
      · refine lv_iload_n hx hb dJ7_fill_d0a16_6 rfl (lv_at hl 2 rfl) ?_
        refine lv_iload hx hb dJ7_fill_d0a16_7 (lv_at hl 3 rfl) ?_
        refine lv_icmp_ge (tgt := 22) hx hb dJ7_fill_d0a16_9 (by decide) (fun _ => ?_) (fun c_0 => absurd (nI_le (by omega) (by omega)) c_0)
        exact z_vret hx hb hr hlocks hP hD hS dJ7_fill_d0a16_22 ⟨_, rfl⟩
  exact loop_k_1 61 0 (J 74) (by omega) (by omega)  _ _ (by simp only [zr_self]; exact hP) (by simp only [zr_self]; exact hD) hS _ (lv_sub hl [2, 3, 1, 0] rfl)
set_option maxHeartbeats 4000000 in
set_option maxRecDepth 100000 in
theorem kJ7_fill_d0a16_76 (l : Launch) (D : va_G) (q : Nat → Nat) (cA : Nat → ClassId) (I R : Nat → Nat → Int32) (J : Nat → Nat → Int64) (x : Int64)  : zMv l D vwCl (zXtys cA) 81 q (zXd q cA) yJ7_fill_d0a16 cJ7_fill_d0a16 5 none ({ frames := 0, cells := 0, slots := 0, locals := 0 } : Room) [.ref (q 76), .long (x)] (I, R, J) (fun u => ∃ g : Nat → Int64, u = (I, R, zr J 76 g)) := by
  intro sz
  refine z_body (by decide +kernel) (Nat.le_of_ble_eq_true rfl) (fun p e s m below meth c ls hx hb hml hr ht hown hlocks hsz hK hP hD hS hl => ?_)
  have hA : ∀ a, s.heap.size ≤ a → zA 81 q sz a := fun a h => Or.inr (hsz ▸ h)
  have hl : lv_has ls 5 [(0, .ref (q 76)), (1, .long (x))] := hl
  refine lv_iconst (v := nI 0) hx hb dJ7_fill_d0a16_0 (by decide +kernel) ?_
  refine lv_istore_n (lv' := [(3, .int (nI 0)), (0, .ref (q 76)), (1, .long (x))]) hx hb dJ7_fill_d0a16_1 rfl hl (by decide) rfl (fun ls hl => ?_)
  refine lv_aload_n hx hb dJ7_fill_d0a16_2 rfl (lv_at hl 1 rfl) ?_
  refine z_alen hx hb hK hP 76 (by decide) 54 rfl rfl dJ7_fill_d0a16_3 ?_
  refine lv_istore (lv' := [(4, .int (nI 60)), (3, .int (nI 0)), (0, .ref (q 76)), (1, .long (x))]) hx hb dJ7_fill_d0a16_4 hl (by decide) rfl (fun ls hl => ?_)
  have loop_k_1 : ∀ (N k_1 : Nat) (jk_1_76 : Nat → Int64), k_1 ≤ 60 → 60 < k_1 + N → ∀ (H : Heap) (locs : List Loc), va_P D vwCl (zw 81 q (zXd q cA) I R (zr J 76 jk_1_76)) H → va_D (zA 81 q sz) (zw 81 q (zXd q cA) I R (zr J 76 jk_1_76)) → va_S (zA 81 q sz) s.heap H locs → ∀ ls : Array Slot, lv_has ls 5 [(0, .ref (q 76)), (1, .long (x)), (3, .int (nI k_1)), (4, .int (nI 60))] → W p l e ({ frames := 0, cells := 0, slots := 0, locals := 0 } : Room) s m ([.ref (q 76), .long (x)] : List Value).toArray below meth c H locs 0 0 (MQ below (va_Qv (fun u => ∃ g : Nat → Int64, u = (I, R, zr J 76 g)) (zB D vwCl 81 q (zXd q cA) sz) (zA 81 q sz)) ([.ref (q 76), .long (x)] : List Value).toArray s 0 0 (zA 81 q sz)) (F0 m 6 ls []) := by
    intro N
    induction N with
    | zero => intro k_1 jk_1_76 h1 h2; exact absurd h2 (by omega)
    | succ N ih =>
      intro k_1 jk_1_76 h1k_1 h2k_1  H locs hP hD hS ls hl
      rcases Nat.lt_or_ge k_1 60 with hkk_1 | hkk_1
      · refine lv_iload_n hx hb dJ7_fill_d0a16_6 rfl (lv_at hl 2 rfl) ?_
        refine lv_iload hx hb dJ7_fill_d0a16_7 (lv_at hl 3 rfl) ?_
        refine lv_icmp_ge (tgt := 22) hx hb dJ7_fill_d0a16_9 (by decide) (fun c_0 => absurd c_0 (nI_ge (by omega) (by omega))) (fun _ => ?_)
        refine lv_aload_n hx hb dJ7_fill_d0a16_12 rfl (lv_at hl 0 rfl) ?_
        refine lv_iload_n hx hb dJ7_fill_d0a16_13 rfl (lv_at hl 2 rfl) ?_
        refine lv_lload_n hx hb dJ7_fill_d0a16_14 rfl (lv_at hl 1 rfl) ?_
        refine z_last hx hb hK hP hD hS 76 (by decide) 54 (fun _ => rfl) rfl (vp_in_nI (by omega) (by decide)) dJ7_fill_d0a16_15 (fun H locs hP hD hS => ?_)
        refine lv_iinc (v := nI (k_1 + 1)) (lv' := [(3, .int (nI (k_1 + 1))), (0, .ref (q 76)), (1, .long (x)), (4, .int (nI 60))]) hx hb dJ7_fill_d0a16_16 hl (k := 2) rfl (nI_add k_1 1) (by decide) rfl (fun ls hl => ?_)
        refine lv_goto (tgt := 6) hx hb dJ7_fill_d0a16_19 (by decide) ?_
        rw [zp_zr] at hP hD
        exact ih ((k_1 + 1)) _ (by omega) (by omega)  _ _ hP hD hS _ (lv_sub hl [1, 2, 0, 3] rfl)
      · refine lv_iload_n hx hb dJ7_fill_d0a16_6 rfl (lv_at hl 2 rfl) ?_
        refine lv_iload hx hb dJ7_fill_d0a16_7 (lv_at hl 3 rfl) ?_
        refine lv_icmp_ge (tgt := 22) hx hb dJ7_fill_d0a16_9 (by decide) (fun _ => ?_) (fun c_0 => absurd (nI_le (by omega) (by omega)) c_0)
        exact z_vret hx hb hr hlocks hP hD hS dJ7_fill_d0a16_22 ⟨_, rfl⟩
  exact loop_k_1 61 0 (J 76) (by omega) (by omega)  _ _ (by simp only [zr_self]; exact hP) (by simp only [zr_self]; exact hD) hS _ (lv_sub hl [2, 3, 1, 0] rfl)
set_option maxHeartbeats 4000000 in
set_option maxRecDepth 100000 in
theorem kJ7_fill_d0a16_78 (l : Launch) (D : va_G) (q : Nat → Nat) (cA : Nat → ClassId) (I R : Nat → Nat → Int32) (J : Nat → Nat → Int64) (x : Int64)  : zMv l D vwCl (zXtys cA) 81 q (zXd q cA) yJ7_fill_d0a16 cJ7_fill_d0a16 5 none ({ frames := 0, cells := 0, slots := 0, locals := 0 } : Room) [.ref (q 78), .long (x)] (I, R, J) (fun u => ∃ g : Nat → Int64, u = (I, R, zr J 78 g)) := by
  intro sz
  refine z_body (by decide +kernel) (Nat.le_of_ble_eq_true rfl) (fun p e s m below meth c ls hx hb hml hr ht hown hlocks hsz hK hP hD hS hl => ?_)
  have hA : ∀ a, s.heap.size ≤ a → zA 81 q sz a := fun a h => Or.inr (hsz ▸ h)
  have hl : lv_has ls 5 [(0, .ref (q 78)), (1, .long (x))] := hl
  refine lv_iconst (v := nI 0) hx hb dJ7_fill_d0a16_0 (by decide +kernel) ?_
  refine lv_istore_n (lv' := [(3, .int (nI 0)), (0, .ref (q 78)), (1, .long (x))]) hx hb dJ7_fill_d0a16_1 rfl hl (by decide) rfl (fun ls hl => ?_)
  refine lv_aload_n hx hb dJ7_fill_d0a16_2 rfl (lv_at hl 1 rfl) ?_
  refine z_alen hx hb hK hP 78 (by decide) 55 rfl rfl dJ7_fill_d0a16_3 ?_
  refine lv_istore (lv' := [(4, .int (nI 60)), (3, .int (nI 0)), (0, .ref (q 78)), (1, .long (x))]) hx hb dJ7_fill_d0a16_4 hl (by decide) rfl (fun ls hl => ?_)
  have loop_k_1 : ∀ (N k_1 : Nat) (jk_1_78 : Nat → Int64), k_1 ≤ 60 → 60 < k_1 + N → ∀ (H : Heap) (locs : List Loc), va_P D vwCl (zw 81 q (zXd q cA) I R (zr J 78 jk_1_78)) H → va_D (zA 81 q sz) (zw 81 q (zXd q cA) I R (zr J 78 jk_1_78)) → va_S (zA 81 q sz) s.heap H locs → ∀ ls : Array Slot, lv_has ls 5 [(0, .ref (q 78)), (1, .long (x)), (3, .int (nI k_1)), (4, .int (nI 60))] → W p l e ({ frames := 0, cells := 0, slots := 0, locals := 0 } : Room) s m ([.ref (q 78), .long (x)] : List Value).toArray below meth c H locs 0 0 (MQ below (va_Qv (fun u => ∃ g : Nat → Int64, u = (I, R, zr J 78 g)) (zB D vwCl 81 q (zXd q cA) sz) (zA 81 q sz)) ([.ref (q 78), .long (x)] : List Value).toArray s 0 0 (zA 81 q sz)) (F0 m 6 ls []) := by
    intro N
    induction N with
    | zero => intro k_1 jk_1_78 h1 h2; exact absurd h2 (by omega)
    | succ N ih =>
      intro k_1 jk_1_78 h1k_1 h2k_1  H locs hP hD hS ls hl
      rcases Nat.lt_or_ge k_1 60 with hkk_1 | hkk_1
      · refine lv_iload_n hx hb dJ7_fill_d0a16_6 rfl (lv_at hl 2 rfl) ?_
        refine lv_iload hx hb dJ7_fill_d0a16_7 (lv_at hl 3 rfl) ?_
        refine lv_icmp_ge (tgt := 22) hx hb dJ7_fill_d0a16_9 (by decide) (fun c_0 => absurd c_0 (nI_ge (by omega) (by omega))) (fun _ => ?_)
        refine lv_aload_n hx hb dJ7_fill_d0a16_12 rfl (lv_at hl 0 rfl) ?_
        refine lv_iload_n hx hb dJ7_fill_d0a16_13 rfl (lv_at hl 2 rfl) ?_
        refine lv_lload_n hx hb dJ7_fill_d0a16_14 rfl (lv_at hl 1 rfl) ?_
        refine z_last hx hb hK hP hD hS 78 (by decide) 55 (fun _ => rfl) rfl (vp_in_nI (by omega) (by decide)) dJ7_fill_d0a16_15 (fun H locs hP hD hS => ?_)
        refine lv_iinc (v := nI (k_1 + 1)) (lv' := [(3, .int (nI (k_1 + 1))), (0, .ref (q 78)), (1, .long (x)), (4, .int (nI 60))]) hx hb dJ7_fill_d0a16_16 hl (k := 2) rfl (nI_add k_1 1) (by decide) rfl (fun ls hl => ?_)
        refine lv_goto (tgt := 6) hx hb dJ7_fill_d0a16_19 (by decide) ?_
        rw [zp_zr] at hP hD
        exact ih ((k_1 + 1)) _ (by omega) (by omega)  _ _ hP hD hS _ (lv_sub hl [1, 2, 0, 3] rfl)
      · refine lv_iload_n hx hb dJ7_fill_d0a16_6 rfl (lv_at hl 2 rfl) ?_
        refine lv_iload hx hb dJ7_fill_d0a16_7 (lv_at hl 3 rfl) ?_
        refine lv_icmp_ge (tgt := 22) hx hb dJ7_fill_d0a16_9 (by decide) (fun _ => ?_) (fun c_0 => absurd (nI_le (by omega) (by omega)) c_0)
        exact z_vret hx hb hr hlocks hP hD hS dJ7_fill_d0a16_22 ⟨_, rfl⟩
  exact loop_k_1 61 0 (J 78) (by omega) (by omega)  _ _ (by simp only [zr_self]; exact hP) (by simp only [zr_self]; exact hD) hS _ (lv_sub hl [2, 3, 1, 0] rfl)
set_option maxHeartbeats 4000000 in
set_option maxRecDepth 100000 in
theorem kJ7_fill_d0a16_80 (l : Launch) (D : va_G) (q : Nat → Nat) (cA : Nat → ClassId) (I R : Nat → Nat → Int32) (J : Nat → Nat → Int64) (x : Int64)  : zMv l D vwCl (zXtys cA) 81 q (zXd q cA) yJ7_fill_d0a16 cJ7_fill_d0a16 5 none ({ frames := 0, cells := 0, slots := 0, locals := 0 } : Room) [.ref (q 80), .long (x)] (I, R, J) (fun u => ∃ g : Nat → Int64, u = (I, R, zr J 80 g)) := by
  intro sz
  refine z_body (by decide +kernel) (Nat.le_of_ble_eq_true rfl) (fun p e s m below meth c ls hx hb hml hr ht hown hlocks hsz hK hP hD hS hl => ?_)
  have hA : ∀ a, s.heap.size ≤ a → zA 81 q sz a := fun a h => Or.inr (hsz ▸ h)
  have hl : lv_has ls 5 [(0, .ref (q 80)), (1, .long (x))] := hl
  refine lv_iconst (v := nI 0) hx hb dJ7_fill_d0a16_0 (by decide +kernel) ?_
  refine lv_istore_n (lv' := [(3, .int (nI 0)), (0, .ref (q 80)), (1, .long (x))]) hx hb dJ7_fill_d0a16_1 rfl hl (by decide) rfl (fun ls hl => ?_)
  refine lv_aload_n hx hb dJ7_fill_d0a16_2 rfl (lv_at hl 1 rfl) ?_
  refine z_alen hx hb hK hP 80 (by decide) 56 rfl rfl dJ7_fill_d0a16_3 ?_
  refine lv_istore (lv' := [(4, .int (nI 60)), (3, .int (nI 0)), (0, .ref (q 80)), (1, .long (x))]) hx hb dJ7_fill_d0a16_4 hl (by decide) rfl (fun ls hl => ?_)
  have loop_k_1 : ∀ (N k_1 : Nat) (jk_1_80 : Nat → Int64), k_1 ≤ 60 → 60 < k_1 + N → ∀ (H : Heap) (locs : List Loc), va_P D vwCl (zw 81 q (zXd q cA) I R (zr J 80 jk_1_80)) H → va_D (zA 81 q sz) (zw 81 q (zXd q cA) I R (zr J 80 jk_1_80)) → va_S (zA 81 q sz) s.heap H locs → ∀ ls : Array Slot, lv_has ls 5 [(0, .ref (q 80)), (1, .long (x)), (3, .int (nI k_1)), (4, .int (nI 60))] → W p l e ({ frames := 0, cells := 0, slots := 0, locals := 0 } : Room) s m ([.ref (q 80), .long (x)] : List Value).toArray below meth c H locs 0 0 (MQ below (va_Qv (fun u => ∃ g : Nat → Int64, u = (I, R, zr J 80 g)) (zB D vwCl 81 q (zXd q cA) sz) (zA 81 q sz)) ([.ref (q 80), .long (x)] : List Value).toArray s 0 0 (zA 81 q sz)) (F0 m 6 ls []) := by
    intro N
    induction N with
    | zero => intro k_1 jk_1_80 h1 h2; exact absurd h2 (by omega)
    | succ N ih =>
      intro k_1 jk_1_80 h1k_1 h2k_1  H locs hP hD hS ls hl
      rcases Nat.lt_or_ge k_1 60 with hkk_1 | hkk_1
      · refine lv_iload_n hx hb dJ7_fill_d0a16_6 rfl (lv_at hl 2 rfl) ?_
        refine lv_iload hx hb dJ7_fill_d0a16_7 (lv_at hl 3 rfl) ?_
        refine lv_icmp_ge (tgt := 22) hx hb dJ7_fill_d0a16_9 (by decide) (fun c_0 => absurd c_0 (nI_ge (by omega) (by omega))) (fun _ => ?_)
        refine lv_aload_n hx hb dJ7_fill_d0a16_12 rfl (lv_at hl 0 rfl) ?_
        refine lv_iload_n hx hb dJ7_fill_d0a16_13 rfl (lv_at hl 2 rfl) ?_
        refine lv_lload_n hx hb dJ7_fill_d0a16_14 rfl (lv_at hl 1 rfl) ?_
        refine z_last hx hb hK hP hD hS 80 (by decide) 56 (fun _ => rfl) rfl (vp_in_nI (by omega) (by decide)) dJ7_fill_d0a16_15 (fun H locs hP hD hS => ?_)
        refine lv_iinc (v := nI (k_1 + 1)) (lv' := [(3, .int (nI (k_1 + 1))), (0, .ref (q 80)), (1, .long (x)), (4, .int (nI 60))]) hx hb dJ7_fill_d0a16_16 hl (k := 2) rfl (nI_add k_1 1) (by decide) rfl (fun ls hl => ?_)
        refine lv_goto (tgt := 6) hx hb dJ7_fill_d0a16_19 (by decide) ?_
        rw [zp_zr] at hP hD
        exact ih ((k_1 + 1)) _ (by omega) (by omega)  _ _ hP hD hS _ (lv_sub hl [1, 2, 0, 3] rfl)
      · refine lv_iload_n hx hb dJ7_fill_d0a16_6 rfl (lv_at hl 2 rfl) ?_
        refine lv_iload hx hb dJ7_fill_d0a16_7 (lv_at hl 3 rfl) ?_
        refine lv_icmp_ge (tgt := 22) hx hb dJ7_fill_d0a16_9 (by decide) (fun _ => ?_) (fun c_0 => absurd (nI_le (by omega) (by omega)) c_0)
        exact z_vret hx hb hr hlocks hP hD hS dJ7_fill_d0a16_22 ⟨_, rfl⟩
  exact loop_k_1 61 0 (J 80) (by omega) (by omega)  _ _ (by simp only [zr_self]; exact hP) (by simp only [zr_self]; exact hD) hS _ (lv_sub hl [2, 3, 1, 0] rfl)
set_option maxHeartbeats 4000000 in
set_option maxRecDepth 100000 in
theorem kX6_begin_73 (l : Launch) (D : va_G) (q : Nat → Nat) (cA : Nat → ClassId)  (w : Int32) (n : Int32)  : zMv l D vwCl (zXtys cA) 81 q (zXd q cA) yX6_begin cX6_begin 3 none ({ frames := 1, cells := 0, slots := 0, locals := 24 } : Room) [.ref (q 73), .int (w), .int (n)] (zXI0, zXR0, zXJ0) (fun _ => True) := by
  intro sz
  refine z_body (by decide +kernel) (Nat.le_of_ble_eq_true rfl) (fun p e s m below meth c ls hx hb hml hr ht hown hlocks hsz hK hP hD hS hl => ?_)
  have hA : ∀ a, s.heap.size ≤ a → zA 81 q sz a := fun a h => Or.inr (hsz ▸ h)
  have hl : lv_has ls 3 [(0, .ref (q 73)), (1, .int (w)), (2, .int (n))] := hl
  refine lv_aload_n hx hb dX6_begin_0 rfl (lv_at hl 0 rfl) ?_
  refine lv_iload_n hx hb dX6_begin_1 rfl (lv_at hl 1 rfl) ?_
  refine z_putI hx hb ht hown hK hP hD hS ziX6 tyX6 tyX6_ok nmX6 rfl 73 (by decide) 0 (by decide) hw_2_77 rfl (v := w) rfl rfl rfl (Nat.le_of_ble_eq_true rfl) rfl dX6_begin_2 (fun H locs hP hD hS => ?_)
  refine lv_aload_n hx hb dX6_begin_5 rfl (lv_at hl 0 rfl) ?_
  refine lv_iload_n hx hb dX6_begin_6 rfl (lv_at hl 2 rfl) ?_
  refine z_putI hx hb ht hown hK hP hD hS ziX6 tyX6 tyX6_ok nmX6 rfl 73 (by decide) 1 (by decide) hw_2_79 rfl (v := n) rfl rfl rfl (Nat.le_of_ble_eq_true rfl) rfl dX6_begin_7 (fun H locs hP hD hS => ?_)
  refine lv_aload_n hx hb dX6_begin_10 rfl (lv_at hl 0 rfl) ?_
  refine z_get hx hb ht hown hK hP ziX6 rfl 73 (by decide) 2 (by decide) hw_2_82 rfl (v := .ref (q 74)) rfl dX6_begin_11 ?_
  refine lv_lconst (v := (0 : Int64)) hx hb dX6_begin_14 (by decide +kernel) ?_
  refine z_callSv (As := [.ref (q 74), .long ((0 : Int64))]) (rest := []) hx hb hml hown ht (kJ7_fill_d0a16_74 l D q cA _ _ _ ((0 : Int64))) hw_5_162 hmJ7_fill_d0a16 ⟨rfl, rfl⟩ (na := 2) rfl (by decide +kernel) (by decide) hK hP hD hS hA hl.1 rfl (Nat.le_of_ble_eq_true rfl) ⟨Nat.zero_le _, Nat.zero_le _⟩ dX6_begin_15 (fun I_1 R_1 J_1 H locs hp_1 hP hD hS _ _ => ?_)
  obtain ⟨g_1, hu_1⟩ := hp_1
  cases hu_1
  exact z_vret hx hb hr hlocks hP hD hS dX6_begin_18 trivial
set_option maxHeartbeats 4000000 in
set_option maxRecDepth 100000 in
theorem kX6_begin_75 (l : Launch) (D : va_G) (q : Nat → Nat) (cA : Nat → ClassId)  (w : Int32) (n : Int32)  : zMv l D vwCl (zXtys cA) 81 q (zXd q cA) yX6_begin cX6_begin 3 none ({ frames := 1, cells := 0, slots := 0, locals := 24 } : Room) [.ref (q 75), .int (w), .int (n)] (zXI0, zXR0, zXJ0) (fun _ => True) := by
  intro sz
  refine z_body (by decide +kernel) (Nat.le_of_ble_eq_true rfl) (fun p e s m below meth c ls hx hb hml hr ht hown hlocks hsz hK hP hD hS hl => ?_)
  have hA : ∀ a, s.heap.size ≤ a → zA 81 q sz a := fun a h => Or.inr (hsz ▸ h)
  have hl : lv_has ls 3 [(0, .ref (q 75)), (1, .int (w)), (2, .int (n))] := hl
  refine lv_aload_n hx hb dX6_begin_0 rfl (lv_at hl 0 rfl) ?_
  refine lv_iload_n hx hb dX6_begin_1 rfl (lv_at hl 1 rfl) ?_
  refine z_putI hx hb ht hown hK hP hD hS ziX6 tyX6 tyX6_ok nmX6 rfl 75 (by decide) 0 (by decide) hw_2_77 rfl (v := w) rfl rfl rfl (Nat.le_of_ble_eq_true rfl) rfl dX6_begin_2 (fun H locs hP hD hS => ?_)
  refine lv_aload_n hx hb dX6_begin_5 rfl (lv_at hl 0 rfl) ?_
  refine lv_iload_n hx hb dX6_begin_6 rfl (lv_at hl 2 rfl) ?_
  refine z_putI hx hb ht hown hK hP hD hS ziX6 tyX6 tyX6_ok nmX6 rfl 75 (by decide) 1 (by decide) hw_2_79 rfl (v := n) rfl rfl rfl (Nat.le_of_ble_eq_true rfl) rfl dX6_begin_7 (fun H locs hP hD hS => ?_)
  refine lv_aload_n hx hb dX6_begin_10 rfl (lv_at hl 0 rfl) ?_
  refine z_get hx hb ht hown hK hP ziX6 rfl 75 (by decide) 2 (by decide) hw_2_82 rfl (v := .ref (q 76)) rfl dX6_begin_11 ?_
  refine lv_lconst (v := (0 : Int64)) hx hb dX6_begin_14 (by decide +kernel) ?_
  refine z_callSv (As := [.ref (q 76), .long ((0 : Int64))]) (rest := []) hx hb hml hown ht (kJ7_fill_d0a16_76 l D q cA _ _ _ ((0 : Int64))) hw_5_162 hmJ7_fill_d0a16 ⟨rfl, rfl⟩ (na := 2) rfl (by decide +kernel) (by decide) hK hP hD hS hA hl.1 rfl (Nat.le_of_ble_eq_true rfl) ⟨Nat.zero_le _, Nat.zero_le _⟩ dX6_begin_15 (fun I_1 R_1 J_1 H locs hp_1 hP hD hS _ _ => ?_)
  obtain ⟨g_1, hu_1⟩ := hp_1
  cases hu_1
  exact z_vret hx hb hr hlocks hP hD hS dX6_begin_18 trivial
set_option maxHeartbeats 4000000 in
set_option maxRecDepth 100000 in
theorem kX6_begin_77 (l : Launch) (D : va_G) (q : Nat → Nat) (cA : Nat → ClassId)  (w : Int32) (n : Int32)  : zMv l D vwCl (zXtys cA) 81 q (zXd q cA) yX6_begin cX6_begin 3 none ({ frames := 1, cells := 0, slots := 0, locals := 24 } : Room) [.ref (q 77), .int (w), .int (n)] (zXI0, zXR0, zXJ0) (fun _ => True) := by
  intro sz
  refine z_body (by decide +kernel) (Nat.le_of_ble_eq_true rfl) (fun p e s m below meth c ls hx hb hml hr ht hown hlocks hsz hK hP hD hS hl => ?_)
  have hA : ∀ a, s.heap.size ≤ a → zA 81 q sz a := fun a h => Or.inr (hsz ▸ h)
  have hl : lv_has ls 3 [(0, .ref (q 77)), (1, .int (w)), (2, .int (n))] := hl
  refine lv_aload_n hx hb dX6_begin_0 rfl (lv_at hl 0 rfl) ?_
  refine lv_iload_n hx hb dX6_begin_1 rfl (lv_at hl 1 rfl) ?_
  refine z_putI hx hb ht hown hK hP hD hS ziX6 tyX6 tyX6_ok nmX6 rfl 77 (by decide) 0 (by decide) hw_2_77 rfl (v := w) rfl rfl rfl (Nat.le_of_ble_eq_true rfl) rfl dX6_begin_2 (fun H locs hP hD hS => ?_)
  refine lv_aload_n hx hb dX6_begin_5 rfl (lv_at hl 0 rfl) ?_
  refine lv_iload_n hx hb dX6_begin_6 rfl (lv_at hl 2 rfl) ?_
  refine z_putI hx hb ht hown hK hP hD hS ziX6 tyX6 tyX6_ok nmX6 rfl 77 (by decide) 1 (by decide) hw_2_79 rfl (v := n) rfl rfl rfl (Nat.le_of_ble_eq_true rfl) rfl dX6_begin_7 (fun H locs hP hD hS => ?_)
  refine lv_aload_n hx hb dX6_begin_10 rfl (lv_at hl 0 rfl) ?_
  refine z_get hx hb ht hown hK hP ziX6 rfl 77 (by decide) 2 (by decide) hw_2_82 rfl (v := .ref (q 78)) rfl dX6_begin_11 ?_
  refine lv_lconst (v := (0 : Int64)) hx hb dX6_begin_14 (by decide +kernel) ?_
  refine z_callSv (As := [.ref (q 78), .long ((0 : Int64))]) (rest := []) hx hb hml hown ht (kJ7_fill_d0a16_78 l D q cA _ _ _ ((0 : Int64))) hw_5_162 hmJ7_fill_d0a16 ⟨rfl, rfl⟩ (na := 2) rfl (by decide +kernel) (by decide) hK hP hD hS hA hl.1 rfl (Nat.le_of_ble_eq_true rfl) ⟨Nat.zero_le _, Nat.zero_le _⟩ dX6_begin_15 (fun I_1 R_1 J_1 H locs hp_1 hP hD hS _ _ => ?_)
  obtain ⟨g_1, hu_1⟩ := hp_1
  cases hu_1
  exact z_vret hx hb hr hlocks hP hD hS dX6_begin_18 trivial
set_option maxHeartbeats 4000000 in
set_option maxRecDepth 100000 in
theorem kX6_begin_79 (l : Launch) (D : va_G) (q : Nat → Nat) (cA : Nat → ClassId)  (w : Int32) (n : Int32)  : zMv l D vwCl (zXtys cA) 81 q (zXd q cA) yX6_begin cX6_begin 3 none ({ frames := 1, cells := 0, slots := 0, locals := 24 } : Room) [.ref (q 79), .int (w), .int (n)] (zXI0, zXR0, zXJ0) (fun _ => True) := by
  intro sz
  refine z_body (by decide +kernel) (Nat.le_of_ble_eq_true rfl) (fun p e s m below meth c ls hx hb hml hr ht hown hlocks hsz hK hP hD hS hl => ?_)
  have hA : ∀ a, s.heap.size ≤ a → zA 81 q sz a := fun a h => Or.inr (hsz ▸ h)
  have hl : lv_has ls 3 [(0, .ref (q 79)), (1, .int (w)), (2, .int (n))] := hl
  refine lv_aload_n hx hb dX6_begin_0 rfl (lv_at hl 0 rfl) ?_
  refine lv_iload_n hx hb dX6_begin_1 rfl (lv_at hl 1 rfl) ?_
  refine z_putI hx hb ht hown hK hP hD hS ziX6 tyX6 tyX6_ok nmX6 rfl 79 (by decide) 0 (by decide) hw_2_77 rfl (v := w) rfl rfl rfl (Nat.le_of_ble_eq_true rfl) rfl dX6_begin_2 (fun H locs hP hD hS => ?_)
  refine lv_aload_n hx hb dX6_begin_5 rfl (lv_at hl 0 rfl) ?_
  refine lv_iload_n hx hb dX6_begin_6 rfl (lv_at hl 2 rfl) ?_
  refine z_putI hx hb ht hown hK hP hD hS ziX6 tyX6 tyX6_ok nmX6 rfl 79 (by decide) 1 (by decide) hw_2_79 rfl (v := n) rfl rfl rfl (Nat.le_of_ble_eq_true rfl) rfl dX6_begin_7 (fun H locs hP hD hS => ?_)
  refine lv_aload_n hx hb dX6_begin_10 rfl (lv_at hl 0 rfl) ?_
  refine z_get hx hb ht hown hK hP ziX6 rfl 79 (by decide) 2 (by decide) hw_2_82 rfl (v := .ref (q 80)) rfl dX6_begin_11 ?_
  refine lv_lconst (v := (0 : Int64)) hx hb dX6_begin_14 (by decide +kernel) ?_
  refine z_callSv (As := [.ref (q 80), .long ((0 : Int64))]) (rest := []) hx hb hml hown ht (kJ7_fill_d0a16_80 l D q cA _ _ _ ((0 : Int64))) hw_5_162 hmJ7_fill_d0a16 ⟨rfl, rfl⟩ (na := 2) rfl (by decide +kernel) (by decide) hK hP hD hS hA hl.1 rfl (Nat.le_of_ble_eq_true rfl) ⟨Nat.zero_le _, Nat.zero_le _⟩ dX6_begin_15 (fun I_1 R_1 J_1 H locs hp_1 hP hD hS _ _ => ?_)
  obtain ⟨g_1, hu_1⟩ := hp_1
  cases hu_1
  exact z_vret hx hb hr hlocks hP hD hS dX6_begin_18 trivial
set_option maxHeartbeats 4000000 in
set_option maxRecDepth 100000 in
theorem kX10_row (l : Launch) (D : va_G) (q : Nat → Nat) (cA : Nat → ClassId)  (x : Int32) (w : Int32) (n : Int32)  : zMi l D vwCl (zXtys cA) 81 q (zXd q cA) yX10_row cX10_row 4 (some .int) ({ frames := 2, cells := 0, slots := 0, locals := 46 } : Room) [.ref (q 0), .int (x), .int (w), .int (n)] (zXI0, zXR0, zXJ0) (fun r _ => ((x.toInt < 0 ∨ 3 < x.toInt ∨ w.toInt < 0 ∨ 3 < w.toInt ∨ 60 < n.toInt) ∧ r = (-2)) ∨ (¬ (x.toInt < 0 ∨ 3 < x.toInt ∨ w.toInt < 0 ∨ 3 < w.toInt ∨ 60 < n.toInt) ∧ n.toInt < 0 ∧ r = (-3)) ∨ (¬ (x.toInt < 0 ∨ 3 < x.toInt ∨ w.toInt < 0 ∨ 3 < w.toInt ∨ 60 < n.toInt) ∧ 0 ≤ n.toInt ∧ r = nI 0)) := by
  intro sz
  refine z_body (by decide +kernel) (Nat.le_of_ble_eq_true rfl) (fun p e s m below meth c ls hx hb hml hr ht hown hlocks hsz hK hP hD hS hl => ?_)
  have hA : ∀ a, s.heap.size ≤ a → zA 81 q sz a := fun a h => Or.inr (hsz ▸ h)
  have hl : lv_has ls 4 [(0, .ref (q 0)), (1, .int (x)), (2, .int (w)), (3, .int (n))] := hl
  refine lv_iload_n hx hb dX10_row_0 rfl (lv_at hl 1 rfl) ?_
  refine z_callSi (As := [.int (x)]) (rest := []) hx hb hml hown ht (kX10_isSlot l D q cA _ _ _ (x)) hw_5_60 hmX10_isSlot ⟨rfl, rfl⟩ (na := 1) rfl (by decide +kernel) (by decide) hK hP hD hS hA hl.1 rfl (Nat.le_of_ble_eq_true rfl) ⟨Nat.zero_le _, Nat.zero_le _⟩ dX10_row_1 (fun r_1 I_1 R_1 J_1 H locs hp_1 hP hD hS _ _ => ?_)
  rcases hp_1 with ⟨rfl, hu_1, h1_1, h2_1⟩ | ⟨rfl, hu_1, h1_1⟩
  · cases hu_1
    refine lv_if_eq (tgt := 22) hx hb dX10_row_4 (by decide) (fun c_0 => absurd c_0 (by decide +kernel)) (fun _ => ?_)
    refine lv_iload_n hx hb dX10_row_7 rfl (lv_at hl 2 rfl) ?_
    refine lv_if_lt (tgt := 22) hx hb dX10_row_8 (by decide) (fun c_2 => ?_) (fun c_2 => ?_)
    · have kc_2_1 : (nI 0 : Int32).toInt = 0 := by decide +kernel
      have kc_2_2 : (0 : Int32).toInt = 0 := by decide +kernel
      have t_c_2 := z_ltT c_2
      refine lv_bipush (v := (-2)) hx hb dX10_row_22 (by decide +kernel) ?_
      exact z_iret (v := (-2)) hx hb hr hlocks hP hD hS dX10_row_24 (Or.inl ⟨by omega, rfl⟩)
    · have kc_2_1 : (nI 0 : Int32).toInt = 0 := by decide +kernel
      have kc_2_2 : (0 : Int32).toInt = 0 := by decide +kernel
      have t_c_2 := z_ltF c_2
      refine lv_iload_n hx hb dX10_row_11 rfl (lv_at hl 2 rfl) ?_
      refine lv_iconst (v := nI 3) hx hb dX10_row_12 (by decide +kernel) ?_
      refine lv_icmp_gt (tgt := 22) hx hb dX10_row_13 (by decide) (fun c_3 => ?_) (fun c_3 => ?_)
      · have kc_3_1 : (nI 3 : Int32).toInt = 3 := by decide +kernel
        have t_c_3 := z_ltT c_3
        refine lv_bipush (v := (-2)) hx hb dX10_row_22 (by decide +kernel) ?_
        exact z_iret (v := (-2)) hx hb hr hlocks hP hD hS dX10_row_24 (Or.inl ⟨by omega, rfl⟩)
      · have kc_3_1 : (nI 3 : Int32).toInt = 3 := by decide +kernel
        have t_c_3 := z_ltF c_3
        refine lv_iload_n hx hb dX10_row_16 rfl (lv_at hl 3 rfl) ?_
        refine lv_bipush (v := nI 60) hx hb dX10_row_17 (by decide +kernel) ?_
        refine lv_icmp_le (tgt := 25) hx hb dX10_row_19 (by decide) (fun c_4 => ?_) (fun c_4 => ?_)
        · have kc_4_1 : (nI 60 : Int32).toInt = 60 := by decide +kernel
          have t_c_4 := z_leT c_4
          refine lv_iload_n hx hb dX10_row_25 rfl (lv_at hl 3 rfl) ?_
          refine lv_if_ge (tgt := 32) hx hb dX10_row_26 (by decide) (fun c_5 => ?_) (fun c_5 => ?_)
          · have kc_5_1 : (nI 0 : Int32).toInt = 0 := by decide +kernel
            have kc_5_2 : (0 : Int32).toInt = 0 := by decide +kernel
            have t_c_5 := z_leT c_5
            refine lv_aload_n hx hb dX10_row_32 rfl (lv_at hl 0 rfl) ?_
            refine z_get hx hb ht hown hK hP ziX10 rfl 0 (by decide) 11 (by decide) hw_2_104 rfl (v := .ref (q 72)) rfl dX10_row_33 ?_
            refine lv_iload_n hx hb dX10_row_36 rfl (lv_at hl 1 rfl) ?_
            obtain ⟨n_6, hn_6, rfl⟩ := z_ex (x := x) (N := 4) (by omega) (by omega)
            rcases (show n_6 = 0 ∨ n_6 = 1 ∨ n_6 = 2 ∨ n_6 = 3 by omega) with rfl | rfl | rfl | rfl
            · refine va_aldq hx hb hK hP 72 52 (zw_at (by decide) rfl) rfl (vp_in_nI (by decide) (by decide)) dX10_row_37 ?_
              refine W.eq (g2 := F0 m 38 ls (.ref (q 73) :: [])) rfl ?_
              refine lv_iload_n hx hb dX10_row_38 rfl (lv_at hl 2 rfl) ?_
              refine lv_iload_n hx hb dX10_row_39 rfl (lv_at hl 3 rfl) ?_
              refine z_callVv (k := 73) (As := [.int (w), .int (n)]) (rest := []) hx hb hml hown ht (kX6_begin_73 l D q cA (w) (n)) hw_5_158 hmX6_begin ⟨rfl, rfl⟩ (na := 2) rfl (by decide +kernel) (by decide) (by decide) rfl rfl hK hP hD hS hA hl.1 rfl (Nat.le_of_ble_eq_true rfl) ⟨Nat.zero_le _, Nat.zero_le _⟩ dX10_row_40 (fun I_7 R_7 J_7 H locs hp_7 hP hD hS _ _ => ?_)
              refine lv_iconst (v := nI 0) hx hb dX10_row_43 (by decide +kernel) ?_
              exact z_iret (v := nI 0) hx hb hr hlocks hP hD hS dX10_row_44 (Or.inr (Or.inr ⟨by omega, by omega, rfl⟩))
            · refine va_aldq hx hb hK hP 72 52 (zw_at (by decide) rfl) rfl (vp_in_nI (by decide) (by decide)) dX10_row_37 ?_
              refine W.eq (g2 := F0 m 38 ls (.ref (q 75) :: [])) rfl ?_
              refine lv_iload_n hx hb dX10_row_38 rfl (lv_at hl 2 rfl) ?_
              refine lv_iload_n hx hb dX10_row_39 rfl (lv_at hl 3 rfl) ?_
              refine z_callVv (k := 75) (As := [.int (w), .int (n)]) (rest := []) hx hb hml hown ht (kX6_begin_75 l D q cA (w) (n)) hw_5_158 hmX6_begin ⟨rfl, rfl⟩ (na := 2) rfl (by decide +kernel) (by decide) (by decide) rfl rfl hK hP hD hS hA hl.1 rfl (Nat.le_of_ble_eq_true rfl) ⟨Nat.zero_le _, Nat.zero_le _⟩ dX10_row_40 (fun I_8 R_8 J_8 H locs hp_8 hP hD hS _ _ => ?_)
              refine lv_iconst (v := nI 0) hx hb dX10_row_43 (by decide +kernel) ?_
              exact z_iret (v := nI 0) hx hb hr hlocks hP hD hS dX10_row_44 (Or.inr (Or.inr ⟨by omega, by omega, rfl⟩))
            · refine va_aldq hx hb hK hP 72 52 (zw_at (by decide) rfl) rfl (vp_in_nI (by decide) (by decide)) dX10_row_37 ?_
              refine W.eq (g2 := F0 m 38 ls (.ref (q 77) :: [])) rfl ?_
              refine lv_iload_n hx hb dX10_row_38 rfl (lv_at hl 2 rfl) ?_
              refine lv_iload_n hx hb dX10_row_39 rfl (lv_at hl 3 rfl) ?_
              refine z_callVv (k := 77) (As := [.int (w), .int (n)]) (rest := []) hx hb hml hown ht (kX6_begin_77 l D q cA (w) (n)) hw_5_158 hmX6_begin ⟨rfl, rfl⟩ (na := 2) rfl (by decide +kernel) (by decide) (by decide) rfl rfl hK hP hD hS hA hl.1 rfl (Nat.le_of_ble_eq_true rfl) ⟨Nat.zero_le _, Nat.zero_le _⟩ dX10_row_40 (fun I_9 R_9 J_9 H locs hp_9 hP hD hS _ _ => ?_)
              refine lv_iconst (v := nI 0) hx hb dX10_row_43 (by decide +kernel) ?_
              exact z_iret (v := nI 0) hx hb hr hlocks hP hD hS dX10_row_44 (Or.inr (Or.inr ⟨by omega, by omega, rfl⟩))
            · refine va_aldq hx hb hK hP 72 52 (zw_at (by decide) rfl) rfl (vp_in_nI (by decide) (by decide)) dX10_row_37 ?_
              refine W.eq (g2 := F0 m 38 ls (.ref (q 79) :: [])) rfl ?_
              refine lv_iload_n hx hb dX10_row_38 rfl (lv_at hl 2 rfl) ?_
              refine lv_iload_n hx hb dX10_row_39 rfl (lv_at hl 3 rfl) ?_
              refine z_callVv (k := 79) (As := [.int (w), .int (n)]) (rest := []) hx hb hml hown ht (kX6_begin_79 l D q cA (w) (n)) hw_5_158 hmX6_begin ⟨rfl, rfl⟩ (na := 2) rfl (by decide +kernel) (by decide) (by decide) rfl rfl hK hP hD hS hA hl.1 rfl (Nat.le_of_ble_eq_true rfl) ⟨Nat.zero_le _, Nat.zero_le _⟩ dX10_row_40 (fun I_10 R_10 J_10 H locs hp_10 hP hD hS _ _ => ?_)
              refine lv_iconst (v := nI 0) hx hb dX10_row_43 (by decide +kernel) ?_
              exact z_iret (v := nI 0) hx hb hr hlocks hP hD hS dX10_row_44 (Or.inr (Or.inr ⟨by omega, by omega, rfl⟩))
          · have kc_5_1 : (nI 0 : Int32).toInt = 0 := by decide +kernel
            have kc_5_2 : (0 : Int32).toInt = 0 := by decide +kernel
            have t_c_5 := z_leF c_5
            refine lv_bipush (v := (-3)) hx hb dX10_row_29 (by decide +kernel) ?_
            exact z_iret (v := (-3)) hx hb hr hlocks hP hD hS dX10_row_31 (Or.inr (Or.inl ⟨by omega, by omega, rfl⟩))
        · have kc_4_1 : (nI 60 : Int32).toInt = 60 := by decide +kernel
          have t_c_4 := z_leF c_4
          refine lv_bipush (v := (-2)) hx hb dX10_row_22 (by decide +kernel) ?_
          exact z_iret (v := (-2)) hx hb hr hlocks hP hD hS dX10_row_24 (Or.inl ⟨by omega, rfl⟩)
  · cases hu_1
    refine lv_if_eq (tgt := 22) hx hb dX10_row_4 (by decide) (fun _ => ?_) (fun c_0 => absurd (by decide +kernel) c_0)
    refine lv_bipush (v := (-2)) hx hb dX10_row_22 (by decide +kernel) ?_
    exact z_iret (v := (-2)) hx hb hr hlocks hP hD hS dX10_row_24 (Or.inl ⟨by omega, rfl⟩)
set_option maxHeartbeats 4000000 in
set_option maxRecDepth 100000 in
theorem kX2_copyFrom_49_3 (l : Launch) (D : va_G) (q : Nat → Nat) (cA : Nat → ClassId) (I R : Nat → Nat → Int32) (J : Nat → Nat → Int64)   : zMv l D vwCl (zXtys cA) 81 q (zXd q cA) yX2_copyFrom cX2_copyFrom 2 none ({ frames := 1, cells := 0, slots := 0, locals := 64 } : Room) [.ref (q 49), .ref (q 3)] (I, R, J) (fun u => u.1 49 0 = I 3 0) := by
  intro sz
  refine z_body (by decide +kernel) (Nat.le_of_ble_eq_true rfl) (fun p e s m below meth c ls hx hb hml hr ht hown hlocks hsz hK hP hD hS hl => ?_)
  have hA : ∀ a, s.heap.size ≤ a → zA 81 q sz a := fun a h => Or.inr (hsz ▸ h)
  have hl : lv_has ls 2 [(0, .ref (q 49)), (1, .ref (q 3))] := hl
  refine lv_aload_n hx hb dX2_copyFrom_0 rfl (lv_at hl 0 rfl) ?_
  refine lv_aload_n hx hb dX2_copyFrom_1 rfl (lv_at hl 1 rfl) ?_
  refine z_get hx hb ht hown hK hP ziX2 rfl 3 (by decide) 0 (by decide) hw_1_67 rfl (v := .int (I 3 0)) rfl dX2_copyFrom_2 ?_
  refine z_putI hx hb ht hown hK hP hD hS ziX2 tyX2 tyX2_ok nmX2 rfl 49 (by decide) 0 (by decide) hw_1_67 rfl (v := I 3 0) rfl rfl rfl (Nat.le_of_ble_eq_true rfl) rfl dX2_copyFrom_5 (fun H locs hP hD hS => ?_)
  refine lv_aload_n hx hb dX2_copyFrom_8 rfl (lv_at hl 0 rfl) ?_
  refine lv_aload_n hx hb dX2_copyFrom_9 rfl (lv_at hl 1 rfl) ?_
  refine z_get hx hb ht hown hK hP ziX2 rfl 3 (by decide) 1 (by decide) hw_1_70 rfl (v := .int ((zp I 49 0 (I 3 0)) 3 1)) rfl dX2_copyFrom_10 ?_
  refine z_putI hx hb ht hown hK hP hD hS ziX2 tyX2 tyX2_ok nmX2 rfl 49 (by decide) 1 (by decide) hw_1_70 rfl (v := (zp I 49 0 (I 3 0)) 3 1) rfl rfl rfl (Nat.le_of_ble_eq_true rfl) rfl dX2_copyFrom_13 (fun H locs hP hD hS => ?_)
  refine lv_aload_n hx hb dX2_copyFrom_16 rfl (lv_at hl 0 rfl) ?_
  refine lv_aload_n hx hb dX2_copyFrom_17 rfl (lv_at hl 1 rfl) ?_
  refine z_get hx hb ht hown hK hP ziX2 rfl 3 (by decide) 2 (by decide) hw_1_74 rfl (v := .int ((zp (zp I 49 0 (I 3 0)) 49 1 ((zp I 49 0 (I 3 0)) 3 1)) 3 2)) rfl dX2_copyFrom_18 ?_
  refine z_putI hx hb ht hown hK hP hD hS ziX2 tyX2 tyX2_ok nmX2 rfl 49 (by decide) 2 (by decide) hw_1_74 rfl (v := (zp (zp I 49 0 (I 3 0)) 49 1 ((zp I 49 0 (I 3 0)) 3 1)) 3 2) rfl rfl rfl (Nat.le_of_ble_eq_true rfl) rfl dX2_copyFrom_21 (fun H locs hP hD hS => ?_)
  refine lv_aload_n hx hb dX2_copyFrom_24 rfl (lv_at hl 0 rfl) ?_
  refine lv_aload_n hx hb dX2_copyFrom_25 rfl (lv_at hl 1 rfl) ?_
  refine z_get hx hb ht hown hK hP ziX2 rfl 3 (by decide) 3 (by decide) hw_1_78 rfl (v := .int ((zp (zp (zp I 49 0 (I 3 0)) 49 1 ((zp I 49 0 (I 3 0)) 3 1)) 49 2 ((zp (zp I 49 0 (I 3 0)) 49 1 ((zp I 49 0 (I 3 0)) 3 1)) 3 2)) 3 3)) rfl dX2_copyFrom_26 ?_
  refine z_putI hx hb ht hown hK hP hD hS ziX2 tyX2 tyX2_ok nmX2 rfl 49 (by decide) 3 (by decide) hw_1_78 rfl (v := (zp (zp (zp I 49 0 (I 3 0)) 49 1 ((zp I 49 0 (I 3 0)) 3 1)) 49 2 ((zp (zp I 49 0 (I 3 0)) 49 1 ((zp I 49 0 (I 3 0)) 3 1)) 3 2)) 3 3) rfl rfl rfl (Nat.le_of_ble_eq_true rfl) rfl dX2_copyFrom_29 (fun H locs hP hD hS => ?_)
  refine lv_aload_n hx hb dX2_copyFrom_32 rfl (lv_at hl 0 rfl) ?_
  refine lv_aload_n hx hb dX2_copyFrom_33 rfl (lv_at hl 1 rfl) ?_
  refine z_get hx hb ht hown hK hP ziX2 rfl 3 (by decide) 4 (by decide) hw_1_81 rfl (v := .int ((zp (zp (zp (zp I 49 0 (I 3 0)) 49 1 ((zp I 49 0 (I 3 0)) 3 1)) 49 2 ((zp (zp I 49 0 (I 3 0)) 49 1 ((zp I 49 0 (I 3 0)) 3 1)) 3 2)) 49 3 ((zp (zp (zp I 49 0 (I 3 0)) 49 1 ((zp I 49 0 (I 3 0)) 3 1)) 49 2 ((zp (zp I 49 0 (I 3 0)) 49 1 ((zp I 49 0 (I 3 0)) 3 1)) 3 2)) 3 3)) 3 4)) rfl dX2_copyFrom_34 ?_
  refine z_putI hx hb ht hown hK hP hD hS ziX2 tyX2 tyX2_ok nmX2 rfl 49 (by decide) 4 (by decide) hw_1_81 rfl (v := (zp (zp (zp (zp I 49 0 (I 3 0)) 49 1 ((zp I 49 0 (I 3 0)) 3 1)) 49 2 ((zp (zp I 49 0 (I 3 0)) 49 1 ((zp I 49 0 (I 3 0)) 3 1)) 3 2)) 49 3 ((zp (zp (zp I 49 0 (I 3 0)) 49 1 ((zp I 49 0 (I 3 0)) 3 1)) 49 2 ((zp (zp I 49 0 (I 3 0)) 49 1 ((zp I 49 0 (I 3 0)) 3 1)) 3 2)) 3 3)) 3 4) rfl rfl rfl (Nat.le_of_ble_eq_true rfl) rfl dX2_copyFrom_37 (fun H locs hP hD hS => ?_)
  refine lv_aload_n hx hb dX2_copyFrom_40 rfl (lv_at hl 0 rfl) ?_
  refine lv_aload_n hx hb dX2_copyFrom_41 rfl (lv_at hl 1 rfl) ?_
  refine z_get hx hb ht hown hK hP ziX2 rfl 3 (by decide) 5 (by decide) hw_1_87 rfl (v := .int ((zp (zp (zp (zp (zp I 49 0 (I 3 0)) 49 1 ((zp I 49 0 (I 3 0)) 3 1)) 49 2 ((zp (zp I 49 0 (I 3 0)) 49 1 ((zp I 49 0 (I 3 0)) 3 1)) 3 2)) 49 3 ((zp (zp (zp I 49 0 (I 3 0)) 49 1 ((zp I 49 0 (I 3 0)) 3 1)) 49 2 ((zp (zp I 49 0 (I 3 0)) 49 1 ((zp I 49 0 (I 3 0)) 3 1)) 3 2)) 3 3)) 49 4 ((zp (zp (zp (zp I 49 0 (I 3 0)) 49 1 ((zp I 49 0 (I 3 0)) 3 1)) 49 2 ((zp (zp I 49 0 (I 3 0)) 49 1 ((zp I 49 0 (I 3 0)) 3 1)) 3 2)) 49 3 ((zp (zp (zp I 49 0 (I 3 0)) 49 1 ((zp I 49 0 (I 3 0)) 3 1)) 49 2 ((zp (zp I 49 0 (I 3 0)) 49 1 ((zp I 49 0 (I 3 0)) 3 1)) 3 2)) 3 3)) 3 4)) 3 5)) rfl dX2_copyFrom_42 ?_
  refine z_putI hx hb ht hown hK hP hD hS ziX2 tyX2 tyX2_ok nmX2 rfl 49 (by decide) 5 (by decide) hw_1_87 rfl (v := (zp (zp (zp (zp (zp I 49 0 (I 3 0)) 49 1 ((zp I 49 0 (I 3 0)) 3 1)) 49 2 ((zp (zp I 49 0 (I 3 0)) 49 1 ((zp I 49 0 (I 3 0)) 3 1)) 3 2)) 49 3 ((zp (zp (zp I 49 0 (I 3 0)) 49 1 ((zp I 49 0 (I 3 0)) 3 1)) 49 2 ((zp (zp I 49 0 (I 3 0)) 49 1 ((zp I 49 0 (I 3 0)) 3 1)) 3 2)) 3 3)) 49 4 ((zp (zp (zp (zp I 49 0 (I 3 0)) 49 1 ((zp I 49 0 (I 3 0)) 3 1)) 49 2 ((zp (zp I 49 0 (I 3 0)) 49 1 ((zp I 49 0 (I 3 0)) 3 1)) 3 2)) 49 3 ((zp (zp (zp I 49 0 (I 3 0)) 49 1 ((zp I 49 0 (I 3 0)) 3 1)) 49 2 ((zp (zp I 49 0 (I 3 0)) 49 1 ((zp I 49 0 (I 3 0)) 3 1)) 3 2)) 3 3)) 3 4)) 3 5) rfl rfl rfl (Nat.le_of_ble_eq_true rfl) rfl dX2_copyFrom_45 (fun H locs hP hD hS => ?_)
  refine lv_aload_n hx hb dX2_copyFrom_48 rfl (lv_at hl 0 rfl) ?_
  refine lv_aload_n hx hb dX2_copyFrom_49 rfl (lv_at hl 1 rfl) ?_
  refine z_get hx hb ht hown hK hP ziX2 rfl 3 (by decide) 6 (by decide) hw_1_95 rfl (v := .int ((zp (zp (zp (zp (zp (zp I 49 0 (I 3 0)) 49 1 ((zp I 49 0 (I 3 0)) 3 1)) 49 2 ((zp (zp I 49 0 (I 3 0)) 49 1 ((zp I 49 0 (I 3 0)) 3 1)) 3 2)) 49 3 ((zp (zp (zp I 49 0 (I 3 0)) 49 1 ((zp I 49 0 (I 3 0)) 3 1)) 49 2 ((zp (zp I 49 0 (I 3 0)) 49 1 ((zp I 49 0 (I 3 0)) 3 1)) 3 2)) 3 3)) 49 4 ((zp (zp (zp (zp I 49 0 (I 3 0)) 49 1 ((zp I 49 0 (I 3 0)) 3 1)) 49 2 ((zp (zp I 49 0 (I 3 0)) 49 1 ((zp I 49 0 (I 3 0)) 3 1)) 3 2)) 49 3 ((zp (zp (zp I 49 0 (I 3 0)) 49 1 ((zp I 49 0 (I 3 0)) 3 1)) 49 2 ((zp (zp I 49 0 (I 3 0)) 49 1 ((zp I 49 0 (I 3 0)) 3 1)) 3 2)) 3 3)) 3 4)) 49 5 ((zp (zp (zp (zp (zp I 49 0 (I 3 0)) 49 1 ((zp I 49 0 (I 3 0)) 3 1)) 49 2 ((zp (zp I 49 0 (I 3 0)) 49 1 ((zp I 49 0 (I 3 0)) 3 1)) 3 2)) 49 3 ((zp (zp (zp I 49 0 (I 3 0)) 49 1 ((zp I 49 0 (I 3 0)) 3 1)) 49 2 ((zp (zp I 49 0 (I 3 0)) 49 1 ((zp I 49 0 (I 3 0)) 3 1)) 3 2)) 3 3)) 49 4 ((zp (zp (zp (zp I 49 0 (I 3 0)) 49 1 ((zp I 49 0 (I 3 0)) 3 1)) 49 2 ((zp (zp I 49 0 (I 3 0)) 49 1 ((zp I 49 0 (I 3 0)) 3 1)) 3 2)) 49 3 ((zp (zp (zp I 49 0 (I 3 0)) 49 1 ((zp I 49 0 (I 3 0)) 3 1)) 49 2 ((zp (zp I 49 0 (I 3 0)) 49 1 ((zp I 49 0 (I 3 0)) 3 1)) 3 2)) 3 3)) 3 4)) 3 5)) 3 6)) rfl dX2_copyFrom_50 ?_
  refine z_putI hx hb ht hown hK hP hD hS ziX2 tyX2 tyX2_ok nmX2 rfl 49 (by decide) 6 (by decide) hw_1_95 rfl (v := (zp (zp (zp (zp (zp (zp I 49 0 (I 3 0)) 49 1 ((zp I 49 0 (I 3 0)) 3 1)) 49 2 ((zp (zp I 49 0 (I 3 0)) 49 1 ((zp I 49 0 (I 3 0)) 3 1)) 3 2)) 49 3 ((zp (zp (zp I 49 0 (I 3 0)) 49 1 ((zp I 49 0 (I 3 0)) 3 1)) 49 2 ((zp (zp I 49 0 (I 3 0)) 49 1 ((zp I 49 0 (I 3 0)) 3 1)) 3 2)) 3 3)) 49 4 ((zp (zp (zp (zp I 49 0 (I 3 0)) 49 1 ((zp I 49 0 (I 3 0)) 3 1)) 49 2 ((zp (zp I 49 0 (I 3 0)) 49 1 ((zp I 49 0 (I 3 0)) 3 1)) 3 2)) 49 3 ((zp (zp (zp I 49 0 (I 3 0)) 49 1 ((zp I 49 0 (I 3 0)) 3 1)) 49 2 ((zp (zp I 49 0 (I 3 0)) 49 1 ((zp I 49 0 (I 3 0)) 3 1)) 3 2)) 3 3)) 3 4)) 49 5 ((zp (zp (zp (zp (zp I 49 0 (I 3 0)) 49 1 ((zp I 49 0 (I 3 0)) 3 1)) 49 2 ((zp (zp I 49 0 (I 3 0)) 49 1 ((zp I 49 0 (I 3 0)) 3 1)) 3 2)) 49 3 ((zp (zp (zp I 49 0 (I 3 0)) 49 1 ((zp I 49 0 (I 3 0)) 3 1)) 49 2 ((zp (zp I 49 0 (I 3 0)) 49 1 ((zp I 49 0 (I 3 0)) 3 1)) 3 2)) 3 3)) 49 4 ((zp (zp (zp (zp I 49 0 (I 3 0)) 49 1 ((zp I 49 0 (I 3 0)) 3 1)) 49 2 ((zp (zp I 49 0 (I 3 0)) 49 1 ((zp I 49 0 (I 3 0)) 3 1)) 3 2)) 49 3 ((zp (zp (zp I 49 0 (I 3 0)) 49 1 ((zp I 49 0 (I 3 0)) 3 1)) 49 2 ((zp (zp I 49 0 (I 3 0)) 49 1 ((zp I 49 0 (I 3 0)) 3 1)) 3 2)) 3 3)) 3 4)) 3 5)) 3 6) rfl rfl rfl (Nat.le_of_ble_eq_true rfl) rfl dX2_copyFrom_53 (fun H locs hP hD hS => ?_)
  refine lv_aload_n hx hb dX2_copyFrom_56 rfl (lv_at hl 1 rfl) ?_
  refine z_get hx hb ht hown hK hP ziX2 rfl 3 (by decide) 7 (by decide) hw_1_97 rfl (v := .ref (q 4)) rfl dX2_copyFrom_57 ?_
  refine lv_iconst (v := nI 0) hx hb dX2_copyFrom_60 (by decide +kernel) ?_
  refine lv_aload_n hx hb dX2_copyFrom_61 rfl (lv_at hl 0 rfl) ?_
  refine z_get hx hb ht hown hK hP ziX2 rfl 49 (by decide) 7 (by decide) hw_1_97 rfl (v := .ref (q 50)) rfl dX2_copyFrom_62 ?_
  refine lv_iconst (v := nI 0) hx hb dX2_copyFrom_65 (by decide +kernel) ?_
  refine lv_iconst (v := nI 5) hx hb dX2_copyFrom_66 (by decide +kernel) ?_
  refine z_copyi hx hb (hml.trans hl.1.symm) ht hown hw_3_42 ⟨hw_3_44, hw_3_43, hw_1_18⟩ hK hP hD hS 4 50 (by decide) (by decide) 1 37 rfl (fun _ => rfl) rfl rfl (by decide +kernel) (by decide +kernel) (by decide +kernel) (by decide +kernel) (by decide +kernel) (by decide) (by decide +kernel) dX2_copyFrom_67 (fun g_1 H locs eg_1 hP hD hS => ?_)
  refine lv_aload_n hx hb dX2_copyFrom_70 rfl (lv_at hl 1 rfl) ?_
  refine z_get hx hb ht hown hK hP ziX2 rfl 3 (by decide) 8 (by decide) hw_1_100 rfl (v := .ref (q 5)) rfl dX2_copyFrom_71 ?_
  refine lv_iconst (v := nI 0) hx hb dX2_copyFrom_74 (by decide +kernel) ?_
  refine lv_aload_n hx hb dX2_copyFrom_75 rfl (lv_at hl 0 rfl) ?_
  refine z_get hx hb ht hown hK hP ziX2 rfl 49 (by decide) 8 (by decide) hw_1_100 rfl (v := .ref (q 51)) rfl dX2_copyFrom_76 ?_
  refine lv_iconst (v := nI 0) hx hb dX2_copyFrom_79 (by decide +kernel) ?_
  refine lv_bipush (v := nI 6) hx hb dX2_copyFrom_80 (by decide +kernel) ?_
  refine z_copyi hx hb (hml.trans hl.1.symm) ht hown hw_3_42 ⟨hw_3_44, hw_3_43, hw_1_18⟩ hK hP hD hS 5 51 (by decide) (by decide) 2 38 rfl (fun _ => rfl) rfl rfl (by decide +kernel) (by decide +kernel) (by decide +kernel) (by decide +kernel) (by decide +kernel) (by decide) (by decide +kernel) dX2_copyFrom_82 (fun g_2 H locs eg_2 hP hD hS => ?_)
  refine lv_aload_n hx hb dX2_copyFrom_85 rfl (lv_at hl 1 rfl) ?_
  refine z_get hx hb ht hown hK hP ziX2 rfl 3 (by decide) 9 (by decide) hw_1_104 rfl (v := .ref (q 6)) rfl dX2_copyFrom_86 ?_
  refine lv_iconst (v := nI 0) hx hb dX2_copyFrom_89 (by decide +kernel) ?_
  refine lv_aload_n hx hb dX2_copyFrom_90 rfl (lv_at hl 0 rfl) ?_
  refine z_get hx hb ht hown hK hP ziX2 rfl 49 (by decide) 9 (by decide) hw_1_104 rfl (v := .ref (q 52)) rfl dX2_copyFrom_91 ?_
  refine lv_iconst (v := nI 0) hx hb dX2_copyFrom_94 (by decide +kernel) ?_
  refine lv_bipush (v := nI 6) hx hb dX2_copyFrom_95 (by decide +kernel) ?_
  refine z_copyi hx hb (hml.trans hl.1.symm) ht hown hw_3_42 ⟨hw_3_44, hw_3_43, hw_1_18⟩ hK hP hD hS 6 52 (by decide) (by decide) 3 39 rfl (fun _ => rfl) rfl rfl (by decide +kernel) (by decide +kernel) (by decide +kernel) (by decide +kernel) (by decide +kernel) (by decide) (by decide +kernel) dX2_copyFrom_97 (fun g_3 H locs eg_3 hP hD hS => ?_)
  refine lv_aload_n hx hb dX2_copyFrom_100 rfl (lv_at hl 1 rfl) ?_
  refine z_get hx hb ht hown hK hP ziX2 rfl 3 (by decide) 10 (by decide) hw_1_109 rfl (v := .ref (q 7)) rfl dX2_copyFrom_101 ?_
  refine lv_iconst (v := nI 0) hx hb dX2_copyFrom_104 (by decide +kernel) ?_
  refine lv_aload_n hx hb dX2_copyFrom_105 rfl (lv_at hl 0 rfl) ?_
  refine z_get hx hb ht hown hK hP ziX2 rfl 49 (by decide) 10 (by decide) hw_1_109 rfl (v := .ref (q 53)) rfl dX2_copyFrom_106 ?_
  refine lv_iconst (v := nI 0) hx hb dX2_copyFrom_109 (by decide +kernel) ?_
  refine lv_bipush (v := nI 30) hx hb dX2_copyFrom_110 (by decide +kernel) ?_
  refine z_copyi hx hb (hml.trans hl.1.symm) ht hown hw_3_42 ⟨hw_3_44, hw_3_43, hw_1_18⟩ hK hP hD hS 7 53 (by decide) (by decide) 4 40 rfl (fun _ => rfl) rfl rfl (by decide +kernel) (by decide +kernel) (by decide +kernel) (by decide +kernel) (by decide +kernel) (by decide) (by decide +kernel) dX2_copyFrom_112 (fun g_4 H locs eg_4 hP hD hS => ?_)
  exact z_vret hx hb hr hlocks hP hD hS dX2_copyFrom_115 rfl
set_option maxHeartbeats 4000000 in
set_option maxRecDepth 100000 in
theorem kX2_copyFrom_57_3 (l : Launch) (D : va_G) (q : Nat → Nat) (cA : Nat → ClassId) (I R : Nat → Nat → Int32) (J : Nat → Nat → Int64)   : zMv l D vwCl (zXtys cA) 81 q (zXd q cA) yX2_copyFrom cX2_copyFrom 2 none ({ frames := 1, cells := 0, slots := 0, locals := 64 } : Room) [.ref (q 57), .ref (q 3)] (I, R, J) (fun u => u.1 57 0 = I 3 0) := by
  intro sz
  refine z_body (by decide +kernel) (Nat.le_of_ble_eq_true rfl) (fun p e s m below meth c ls hx hb hml hr ht hown hlocks hsz hK hP hD hS hl => ?_)
  have hA : ∀ a, s.heap.size ≤ a → zA 81 q sz a := fun a h => Or.inr (hsz ▸ h)
  have hl : lv_has ls 2 [(0, .ref (q 57)), (1, .ref (q 3))] := hl
  refine lv_aload_n hx hb dX2_copyFrom_0 rfl (lv_at hl 0 rfl) ?_
  refine lv_aload_n hx hb dX2_copyFrom_1 rfl (lv_at hl 1 rfl) ?_
  refine z_get hx hb ht hown hK hP ziX2 rfl 3 (by decide) 0 (by decide) hw_1_67 rfl (v := .int (I 3 0)) rfl dX2_copyFrom_2 ?_
  refine z_putI hx hb ht hown hK hP hD hS ziX2 tyX2 tyX2_ok nmX2 rfl 57 (by decide) 0 (by decide) hw_1_67 rfl (v := I 3 0) rfl rfl rfl (Nat.le_of_ble_eq_true rfl) rfl dX2_copyFrom_5 (fun H locs hP hD hS => ?_)
  refine lv_aload_n hx hb dX2_copyFrom_8 rfl (lv_at hl 0 rfl) ?_
  refine lv_aload_n hx hb dX2_copyFrom_9 rfl (lv_at hl 1 rfl) ?_
  refine z_get hx hb ht hown hK hP ziX2 rfl 3 (by decide) 1 (by decide) hw_1_70 rfl (v := .int ((zp I 57 0 (I 3 0)) 3 1)) rfl dX2_copyFrom_10 ?_
  refine z_putI hx hb ht hown hK hP hD hS ziX2 tyX2 tyX2_ok nmX2 rfl 57 (by decide) 1 (by decide) hw_1_70 rfl (v := (zp I 57 0 (I 3 0)) 3 1) rfl rfl rfl (Nat.le_of_ble_eq_true rfl) rfl dX2_copyFrom_13 (fun H locs hP hD hS => ?_)
  refine lv_aload_n hx hb dX2_copyFrom_16 rfl (lv_at hl 0 rfl) ?_
  refine lv_aload_n hx hb dX2_copyFrom_17 rfl (lv_at hl 1 rfl) ?_
  refine z_get hx hb ht hown hK hP ziX2 rfl 3 (by decide) 2 (by decide) hw_1_74 rfl (v := .int ((zp (zp I 57 0 (I 3 0)) 57 1 ((zp I 57 0 (I 3 0)) 3 1)) 3 2)) rfl dX2_copyFrom_18 ?_
  refine z_putI hx hb ht hown hK hP hD hS ziX2 tyX2 tyX2_ok nmX2 rfl 57 (by decide) 2 (by decide) hw_1_74 rfl (v := (zp (zp I 57 0 (I 3 0)) 57 1 ((zp I 57 0 (I 3 0)) 3 1)) 3 2) rfl rfl rfl (Nat.le_of_ble_eq_true rfl) rfl dX2_copyFrom_21 (fun H locs hP hD hS => ?_)
  refine lv_aload_n hx hb dX2_copyFrom_24 rfl (lv_at hl 0 rfl) ?_
  refine lv_aload_n hx hb dX2_copyFrom_25 rfl (lv_at hl 1 rfl) ?_
  refine z_get hx hb ht hown hK hP ziX2 rfl 3 (by decide) 3 (by decide) hw_1_78 rfl (v := .int ((zp (zp (zp I 57 0 (I 3 0)) 57 1 ((zp I 57 0 (I 3 0)) 3 1)) 57 2 ((zp (zp I 57 0 (I 3 0)) 57 1 ((zp I 57 0 (I 3 0)) 3 1)) 3 2)) 3 3)) rfl dX2_copyFrom_26 ?_
  refine z_putI hx hb ht hown hK hP hD hS ziX2 tyX2 tyX2_ok nmX2 rfl 57 (by decide) 3 (by decide) hw_1_78 rfl (v := (zp (zp (zp I 57 0 (I 3 0)) 57 1 ((zp I 57 0 (I 3 0)) 3 1)) 57 2 ((zp (zp I 57 0 (I 3 0)) 57 1 ((zp I 57 0 (I 3 0)) 3 1)) 3 2)) 3 3) rfl rfl rfl (Nat.le_of_ble_eq_true rfl) rfl dX2_copyFrom_29 (fun H locs hP hD hS => ?_)
  refine lv_aload_n hx hb dX2_copyFrom_32 rfl (lv_at hl 0 rfl) ?_
  refine lv_aload_n hx hb dX2_copyFrom_33 rfl (lv_at hl 1 rfl) ?_
  refine z_get hx hb ht hown hK hP ziX2 rfl 3 (by decide) 4 (by decide) hw_1_81 rfl (v := .int ((zp (zp (zp (zp I 57 0 (I 3 0)) 57 1 ((zp I 57 0 (I 3 0)) 3 1)) 57 2 ((zp (zp I 57 0 (I 3 0)) 57 1 ((zp I 57 0 (I 3 0)) 3 1)) 3 2)) 57 3 ((zp (zp (zp I 57 0 (I 3 0)) 57 1 ((zp I 57 0 (I 3 0)) 3 1)) 57 2 ((zp (zp I 57 0 (I 3 0)) 57 1 ((zp I 57 0 (I 3 0)) 3 1)) 3 2)) 3 3)) 3 4)) rfl dX2_copyFrom_34 ?_
  refine z_putI hx hb ht hown hK hP hD hS ziX2 tyX2 tyX2_ok nmX2 rfl 57 (by decide) 4 (by decide) hw_1_81 rfl (v := (zp (zp (zp (zp I 57 0 (I 3 0)) 57 1 ((zp I 57 0 (I 3 0)) 3 1)) 57 2 ((zp (zp I 57 0 (I 3 0)) 57 1 ((zp I 57 0 (I 3 0)) 3 1)) 3 2)) 57 3 ((zp (zp (zp I 57 0 (I 3 0)) 57 1 ((zp I 57 0 (I 3 0)) 3 1)) 57 2 ((zp (zp I 57 0 (I 3 0)) 57 1 ((zp I 57 0 (I 3 0)) 3 1)) 3 2)) 3 3)) 3 4) rfl rfl rfl (Nat.le_of_ble_eq_true rfl) rfl dX2_copyFrom_37 (fun H locs hP hD hS => ?_)
  refine lv_aload_n hx hb dX2_copyFrom_40 rfl (lv_at hl 0 rfl) ?_
  refine lv_aload_n hx hb dX2_copyFrom_41 rfl (lv_at hl 1 rfl) ?_
  refine z_get hx hb ht hown hK hP ziX2 rfl 3 (by decide) 5 (by decide) hw_1_87 rfl (v := .int ((zp (zp (zp (zp (zp I 57 0 (I 3 0)) 57 1 ((zp I 57 0 (I 3 0)) 3 1)) 57 2 ((zp (zp I 57 0 (I 3 0)) 57 1 ((zp I 57 0 (I 3 0)) 3 1)) 3 2)) 57 3 ((zp (zp (zp I 57 0 (I 3 0)) 57 1 ((zp I 57 0 (I 3 0)) 3 1)) 57 2 ((zp (zp I 57 0 (I 3 0)) 57 1 ((zp I 57 0 (I 3 0)) 3 1)) 3 2)) 3 3)) 57 4 ((zp (zp (zp (zp I 57 0 (I 3 0)) 57 1 ((zp I 57 0 (I 3 0)) 3 1)) 57 2 ((zp (zp I 57 0 (I 3 0)) 57 1 ((zp I 57 0 (I 3 0)) 3 1)) 3 2)) 57 3 ((zp (zp (zp I 57 0 (I 3 0)) 57 1 ((zp I 57 0 (I 3 0)) 3 1)) 57 2 ((zp (zp I 57 0 (I 3 0)) 57 1 ((zp I 57 0 (I 3 0)) 3 1)) 3 2)) 3 3)) 3 4)) 3 5)) rfl dX2_copyFrom_42 ?_
  refine z_putI hx hb ht hown hK hP hD hS ziX2 tyX2 tyX2_ok nmX2 rfl 57 (by decide) 5 (by decide) hw_1_87 rfl (v := (zp (zp (zp (zp (zp I 57 0 (I 3 0)) 57 1 ((zp I 57 0 (I 3 0)) 3 1)) 57 2 ((zp (zp I 57 0 (I 3 0)) 57 1 ((zp I 57 0 (I 3 0)) 3 1)) 3 2)) 57 3 ((zp (zp (zp I 57 0 (I 3 0)) 57 1 ((zp I 57 0 (I 3 0)) 3 1)) 57 2 ((zp (zp I 57 0 (I 3 0)) 57 1 ((zp I 57 0 (I 3 0)) 3 1)) 3 2)) 3 3)) 57 4 ((zp (zp (zp (zp I 57 0 (I 3 0)) 57 1 ((zp I 57 0 (I 3 0)) 3 1)) 57 2 ((zp (zp I 57 0 (I 3 0)) 57 1 ((zp I 57 0 (I 3 0)) 3 1)) 3 2)) 57 3 ((zp (zp (zp I 57 0 (I 3 0)) 57 1 ((zp I 57 0 (I 3 0)) 3 1)) 57 2 ((zp (zp I 57 0 (I 3 0)) 57 1 ((zp I 57 0 (I 3 0)) 3 1)) 3 2)) 3 3)) 3 4)) 3 5) rfl rfl rfl (Nat.le_of_ble_eq_true rfl) rfl dX2_copyFrom_45 (fun H locs hP hD hS => ?_)
  refine lv_aload_n hx hb dX2_copyFrom_48 rfl (lv_at hl 0 rfl) ?_
  refine lv_aload_n hx hb dX2_copyFrom_49 rfl (lv_at hl 1 rfl) ?_
  refine z_get hx hb ht hown hK hP ziX2 rfl 3 (by decide) 6 (by decide) hw_1_95 rfl (v := .int ((zp (zp (zp (zp (zp (zp I 57 0 (I 3 0)) 57 1 ((zp I 57 0 (I 3 0)) 3 1)) 57 2 ((zp (zp I 57 0 (I 3 0)) 57 1 ((zp I 57 0 (I 3 0)) 3 1)) 3 2)) 57 3 ((zp (zp (zp I 57 0 (I 3 0)) 57 1 ((zp I 57 0 (I 3 0)) 3 1)) 57 2 ((zp (zp I 57 0 (I 3 0)) 57 1 ((zp I 57 0 (I 3 0)) 3 1)) 3 2)) 3 3)) 57 4 ((zp (zp (zp (zp I 57 0 (I 3 0)) 57 1 ((zp I 57 0 (I 3 0)) 3 1)) 57 2 ((zp (zp I 57 0 (I 3 0)) 57 1 ((zp I 57 0 (I 3 0)) 3 1)) 3 2)) 57 3 ((zp (zp (zp I 57 0 (I 3 0)) 57 1 ((zp I 57 0 (I 3 0)) 3 1)) 57 2 ((zp (zp I 57 0 (I 3 0)) 57 1 ((zp I 57 0 (I 3 0)) 3 1)) 3 2)) 3 3)) 3 4)) 57 5 ((zp (zp (zp (zp (zp I 57 0 (I 3 0)) 57 1 ((zp I 57 0 (I 3 0)) 3 1)) 57 2 ((zp (zp I 57 0 (I 3 0)) 57 1 ((zp I 57 0 (I 3 0)) 3 1)) 3 2)) 57 3 ((zp (zp (zp I 57 0 (I 3 0)) 57 1 ((zp I 57 0 (I 3 0)) 3 1)) 57 2 ((zp (zp I 57 0 (I 3 0)) 57 1 ((zp I 57 0 (I 3 0)) 3 1)) 3 2)) 3 3)) 57 4 ((zp (zp (zp (zp I 57 0 (I 3 0)) 57 1 ((zp I 57 0 (I 3 0)) 3 1)) 57 2 ((zp (zp I 57 0 (I 3 0)) 57 1 ((zp I 57 0 (I 3 0)) 3 1)) 3 2)) 57 3 ((zp (zp (zp I 57 0 (I 3 0)) 57 1 ((zp I 57 0 (I 3 0)) 3 1)) 57 2 ((zp (zp I 57 0 (I 3 0)) 57 1 ((zp I 57 0 (I 3 0)) 3 1)) 3 2)) 3 3)) 3 4)) 3 5)) 3 6)) rfl dX2_copyFrom_50 ?_
  refine z_putI hx hb ht hown hK hP hD hS ziX2 tyX2 tyX2_ok nmX2 rfl 57 (by decide) 6 (by decide) hw_1_95 rfl (v := (zp (zp (zp (zp (zp (zp I 57 0 (I 3 0)) 57 1 ((zp I 57 0 (I 3 0)) 3 1)) 57 2 ((zp (zp I 57 0 (I 3 0)) 57 1 ((zp I 57 0 (I 3 0)) 3 1)) 3 2)) 57 3 ((zp (zp (zp I 57 0 (I 3 0)) 57 1 ((zp I 57 0 (I 3 0)) 3 1)) 57 2 ((zp (zp I 57 0 (I 3 0)) 57 1 ((zp I 57 0 (I 3 0)) 3 1)) 3 2)) 3 3)) 57 4 ((zp (zp (zp (zp I 57 0 (I 3 0)) 57 1 ((zp I 57 0 (I 3 0)) 3 1)) 57 2 ((zp (zp I 57 0 (I 3 0)) 57 1 ((zp I 57 0 (I 3 0)) 3 1)) 3 2)) 57 3 ((zp (zp (zp I 57 0 (I 3 0)) 57 1 ((zp I 57 0 (I 3 0)) 3 1)) 57 2 ((zp (zp I 57 0 (I 3 0)) 57 1 ((zp I 57 0 (I 3 0)) 3 1)) 3 2)) 3 3)) 3 4)) 57 5 ((zp (zp (zp (zp (zp I 57 0 (I 3 0)) 57 1 ((zp I 57 0 (I 3 0)) 3 1)) 57 2 ((zp (zp I 57 0 (I 3 0)) 57 1 ((zp I 57 0 (I 3 0)) 3 1)) 3 2)) 57 3 ((zp (zp (zp I 57 0 (I 3 0)) 57 1 ((zp I 57 0 (I 3 0)) 3 1)) 57 2 ((zp (zp I 57 0 (I 3 0)) 57 1 ((zp I 57 0 (I 3 0)) 3 1)) 3 2)) 3 3)) 57 4 ((zp (zp (zp (zp I 57 0 (I 3 0)) 57 1 ((zp I 57 0 (I 3 0)) 3 1)) 57 2 ((zp (zp I 57 0 (I 3 0)) 57 1 ((zp I 57 0 (I 3 0)) 3 1)) 3 2)) 57 3 ((zp (zp (zp I 57 0 (I 3 0)) 57 1 ((zp I 57 0 (I 3 0)) 3 1)) 57 2 ((zp (zp I 57 0 (I 3 0)) 57 1 ((zp I 57 0 (I 3 0)) 3 1)) 3 2)) 3 3)) 3 4)) 3 5)) 3 6) rfl rfl rfl (Nat.le_of_ble_eq_true rfl) rfl dX2_copyFrom_53 (fun H locs hP hD hS => ?_)
  refine lv_aload_n hx hb dX2_copyFrom_56 rfl (lv_at hl 1 rfl) ?_
  refine z_get hx hb ht hown hK hP ziX2 rfl 3 (by decide) 7 (by decide) hw_1_97 rfl (v := .ref (q 4)) rfl dX2_copyFrom_57 ?_
  refine lv_iconst (v := nI 0) hx hb dX2_copyFrom_60 (by decide +kernel) ?_
  refine lv_aload_n hx hb dX2_copyFrom_61 rfl (lv_at hl 0 rfl) ?_
  refine z_get hx hb ht hown hK hP ziX2 rfl 57 (by decide) 7 (by decide) hw_1_97 rfl (v := .ref (q 58)) rfl dX2_copyFrom_62 ?_
  refine lv_iconst (v := nI 0) hx hb dX2_copyFrom_65 (by decide +kernel) ?_
  refine lv_iconst (v := nI 5) hx hb dX2_copyFrom_66 (by decide +kernel) ?_
  refine z_copyi hx hb (hml.trans hl.1.symm) ht hown hw_3_42 ⟨hw_3_44, hw_3_43, hw_1_18⟩ hK hP hD hS 4 58 (by decide) (by decide) 1 42 rfl (fun _ => rfl) rfl rfl (by decide +kernel) (by decide +kernel) (by decide +kernel) (by decide +kernel) (by decide +kernel) (by decide) (by decide +kernel) dX2_copyFrom_67 (fun g_1 H locs eg_1 hP hD hS => ?_)
  refine lv_aload_n hx hb dX2_copyFrom_70 rfl (lv_at hl 1 rfl) ?_
  refine z_get hx hb ht hown hK hP ziX2 rfl 3 (by decide) 8 (by decide) hw_1_100 rfl (v := .ref (q 5)) rfl dX2_copyFrom_71 ?_
  refine lv_iconst (v := nI 0) hx hb dX2_copyFrom_74 (by decide +kernel) ?_
  refine lv_aload_n hx hb dX2_copyFrom_75 rfl (lv_at hl 0 rfl) ?_
  refine z_get hx hb ht hown hK hP ziX2 rfl 57 (by decide) 8 (by decide) hw_1_100 rfl (v := .ref (q 59)) rfl dX2_copyFrom_76 ?_
  refine lv_iconst (v := nI 0) hx hb dX2_copyFrom_79 (by decide +kernel) ?_
  refine lv_bipush (v := nI 6) hx hb dX2_copyFrom_80 (by decide +kernel) ?_
  refine z_copyi hx hb (hml.trans hl.1.symm) ht hown hw_3_42 ⟨hw_3_44, hw_3_43, hw_1_18⟩ hK hP hD hS 5 59 (by decide) (by decide) 2 43 rfl (fun _ => rfl) rfl rfl (by decide +kernel) (by decide +kernel) (by decide +kernel) (by decide +kernel) (by decide +kernel) (by decide) (by decide +kernel) dX2_copyFrom_82 (fun g_2 H locs eg_2 hP hD hS => ?_)
  refine lv_aload_n hx hb dX2_copyFrom_85 rfl (lv_at hl 1 rfl) ?_
  refine z_get hx hb ht hown hK hP ziX2 rfl 3 (by decide) 9 (by decide) hw_1_104 rfl (v := .ref (q 6)) rfl dX2_copyFrom_86 ?_
  refine lv_iconst (v := nI 0) hx hb dX2_copyFrom_89 (by decide +kernel) ?_
  refine lv_aload_n hx hb dX2_copyFrom_90 rfl (lv_at hl 0 rfl) ?_
  refine z_get hx hb ht hown hK hP ziX2 rfl 57 (by decide) 9 (by decide) hw_1_104 rfl (v := .ref (q 60)) rfl dX2_copyFrom_91 ?_
  refine lv_iconst (v := nI 0) hx hb dX2_copyFrom_94 (by decide +kernel) ?_
  refine lv_bipush (v := nI 6) hx hb dX2_copyFrom_95 (by decide +kernel) ?_
  refine z_copyi hx hb (hml.trans hl.1.symm) ht hown hw_3_42 ⟨hw_3_44, hw_3_43, hw_1_18⟩ hK hP hD hS 6 60 (by decide) (by decide) 3 44 rfl (fun _ => rfl) rfl rfl (by decide +kernel) (by decide +kernel) (by decide +kernel) (by decide +kernel) (by decide +kernel) (by decide) (by decide +kernel) dX2_copyFrom_97 (fun g_3 H locs eg_3 hP hD hS => ?_)
  refine lv_aload_n hx hb dX2_copyFrom_100 rfl (lv_at hl 1 rfl) ?_
  refine z_get hx hb ht hown hK hP ziX2 rfl 3 (by decide) 10 (by decide) hw_1_109 rfl (v := .ref (q 7)) rfl dX2_copyFrom_101 ?_
  refine lv_iconst (v := nI 0) hx hb dX2_copyFrom_104 (by decide +kernel) ?_
  refine lv_aload_n hx hb dX2_copyFrom_105 rfl (lv_at hl 0 rfl) ?_
  refine z_get hx hb ht hown hK hP ziX2 rfl 57 (by decide) 10 (by decide) hw_1_109 rfl (v := .ref (q 61)) rfl dX2_copyFrom_106 ?_
  refine lv_iconst (v := nI 0) hx hb dX2_copyFrom_109 (by decide +kernel) ?_
  refine lv_bipush (v := nI 30) hx hb dX2_copyFrom_110 (by decide +kernel) ?_
  refine z_copyi hx hb (hml.trans hl.1.symm) ht hown hw_3_42 ⟨hw_3_44, hw_3_43, hw_1_18⟩ hK hP hD hS 7 61 (by decide) (by decide) 4 45 rfl (fun _ => rfl) rfl rfl (by decide +kernel) (by decide +kernel) (by decide +kernel) (by decide +kernel) (by decide +kernel) (by decide) (by decide +kernel) dX2_copyFrom_112 (fun g_4 H locs eg_4 hP hD hS => ?_)
  exact z_vret hx hb hr hlocks hP hD hS dX2_copyFrom_115 rfl
set_option maxHeartbeats 4000000 in
set_option maxRecDepth 100000 in
theorem kX2_copyFrom_65_3 (l : Launch) (D : va_G) (q : Nat → Nat) (cA : Nat → ClassId) (I R : Nat → Nat → Int32) (J : Nat → Nat → Int64)   : zMv l D vwCl (zXtys cA) 81 q (zXd q cA) yX2_copyFrom cX2_copyFrom 2 none ({ frames := 1, cells := 0, slots := 0, locals := 64 } : Room) [.ref (q 65), .ref (q 3)] (I, R, J) (fun u => u.1 65 0 = I 3 0) := by
  intro sz
  refine z_body (by decide +kernel) (Nat.le_of_ble_eq_true rfl) (fun p e s m below meth c ls hx hb hml hr ht hown hlocks hsz hK hP hD hS hl => ?_)
  have hA : ∀ a, s.heap.size ≤ a → zA 81 q sz a := fun a h => Or.inr (hsz ▸ h)
  have hl : lv_has ls 2 [(0, .ref (q 65)), (1, .ref (q 3))] := hl
  refine lv_aload_n hx hb dX2_copyFrom_0 rfl (lv_at hl 0 rfl) ?_
  refine lv_aload_n hx hb dX2_copyFrom_1 rfl (lv_at hl 1 rfl) ?_
  refine z_get hx hb ht hown hK hP ziX2 rfl 3 (by decide) 0 (by decide) hw_1_67 rfl (v := .int (I 3 0)) rfl dX2_copyFrom_2 ?_
  refine z_putI hx hb ht hown hK hP hD hS ziX2 tyX2 tyX2_ok nmX2 rfl 65 (by decide) 0 (by decide) hw_1_67 rfl (v := I 3 0) rfl rfl rfl (Nat.le_of_ble_eq_true rfl) rfl dX2_copyFrom_5 (fun H locs hP hD hS => ?_)
  refine lv_aload_n hx hb dX2_copyFrom_8 rfl (lv_at hl 0 rfl) ?_
  refine lv_aload_n hx hb dX2_copyFrom_9 rfl (lv_at hl 1 rfl) ?_
  refine z_get hx hb ht hown hK hP ziX2 rfl 3 (by decide) 1 (by decide) hw_1_70 rfl (v := .int ((zp I 65 0 (I 3 0)) 3 1)) rfl dX2_copyFrom_10 ?_
  refine z_putI hx hb ht hown hK hP hD hS ziX2 tyX2 tyX2_ok nmX2 rfl 65 (by decide) 1 (by decide) hw_1_70 rfl (v := (zp I 65 0 (I 3 0)) 3 1) rfl rfl rfl (Nat.le_of_ble_eq_true rfl) rfl dX2_copyFrom_13 (fun H locs hP hD hS => ?_)
  refine lv_aload_n hx hb dX2_copyFrom_16 rfl (lv_at hl 0 rfl) ?_
  refine lv_aload_n hx hb dX2_copyFrom_17 rfl (lv_at hl 1 rfl) ?_
  refine z_get hx hb ht hown hK hP ziX2 rfl 3 (by decide) 2 (by decide) hw_1_74 rfl (v := .int ((zp (zp I 65 0 (I 3 0)) 65 1 ((zp I 65 0 (I 3 0)) 3 1)) 3 2)) rfl dX2_copyFrom_18 ?_
  refine z_putI hx hb ht hown hK hP hD hS ziX2 tyX2 tyX2_ok nmX2 rfl 65 (by decide) 2 (by decide) hw_1_74 rfl (v := (zp (zp I 65 0 (I 3 0)) 65 1 ((zp I 65 0 (I 3 0)) 3 1)) 3 2) rfl rfl rfl (Nat.le_of_ble_eq_true rfl) rfl dX2_copyFrom_21 (fun H locs hP hD hS => ?_)
  refine lv_aload_n hx hb dX2_copyFrom_24 rfl (lv_at hl 0 rfl) ?_
  refine lv_aload_n hx hb dX2_copyFrom_25 rfl (lv_at hl 1 rfl) ?_
  refine z_get hx hb ht hown hK hP ziX2 rfl 3 (by decide) 3 (by decide) hw_1_78 rfl (v := .int ((zp (zp (zp I 65 0 (I 3 0)) 65 1 ((zp I 65 0 (I 3 0)) 3 1)) 65 2 ((zp (zp I 65 0 (I 3 0)) 65 1 ((zp I 65 0 (I 3 0)) 3 1)) 3 2)) 3 3)) rfl dX2_copyFrom_26 ?_
  refine z_putI hx hb ht hown hK hP hD hS ziX2 tyX2 tyX2_ok nmX2 rfl 65 (by decide) 3 (by decide) hw_1_78 rfl (v := (zp (zp (zp I 65 0 (I 3 0)) 65 1 ((zp I 65 0 (I 3 0)) 3 1)) 65 2 ((zp (zp I 65 0 (I 3 0)) 65 1 ((zp I 65 0 (I 3 0)) 3 1)) 3 2)) 3 3) rfl rfl rfl (Nat.le_of_ble_eq_true rfl) rfl dX2_copyFrom_29 (fun H locs hP hD hS => ?_)
  refine lv_aload_n hx hb dX2_copyFrom_32 rfl (lv_at hl 0 rfl) ?_
  refine lv_aload_n hx hb dX2_copyFrom_33 rfl (lv_at hl 1 rfl) ?_
  refine z_get hx hb ht hown hK hP ziX2 rfl 3 (by decide) 4 (by decide) hw_1_81 rfl (v := .int ((zp (zp (zp (zp I 65 0 (I 3 0)) 65 1 ((zp I 65 0 (I 3 0)) 3 1)) 65 2 ((zp (zp I 65 0 (I 3 0)) 65 1 ((zp I 65 0 (I 3 0)) 3 1)) 3 2)) 65 3 ((zp (zp (zp I 65 0 (I 3 0)) 65 1 ((zp I 65 0 (I 3 0)) 3 1)) 65 2 ((zp (zp I 65 0 (I 3 0)) 65 1 ((zp I 65 0 (I 3 0)) 3 1)) 3 2)) 3 3)) 3 4)) rfl dX2_copyFrom_34 ?_
  refine z_putI hx hb ht hown hK hP hD hS ziX2 tyX2 tyX2_ok nmX2 rfl 65 (by decide) 4 (by decide) hw_1_81 rfl (v := (zp (zp (zp (zp I 65 0 (I 3 0)) 65 1 ((zp I 65 0 (I 3 0)) 3 1)) 65 2 ((zp (zp I 65 0 (I 3 0)) 65 1 ((zp I 65 0 (I 3 0)) 3 1)) 3 2)) 65 3 ((zp (zp (zp I 65 0 (I 3 0)) 65 1 ((zp I 65 0 (I 3 0)) 3 1)) 65 2 ((zp (zp I 65 0 (I 3 0)) 65 1 ((zp I 65 0 (I 3 0)) 3 1)) 3 2)) 3 3)) 3 4) rfl rfl rfl (Nat.le_of_ble_eq_true rfl) rfl dX2_copyFrom_37 (fun H locs hP hD hS => ?_)
  refine lv_aload_n hx hb dX2_copyFrom_40 rfl (lv_at hl 0 rfl) ?_
  refine lv_aload_n hx hb dX2_copyFrom_41 rfl (lv_at hl 1 rfl) ?_
  refine z_get hx hb ht hown hK hP ziX2 rfl 3 (by decide) 5 (by decide) hw_1_87 rfl (v := .int ((zp (zp (zp (zp (zp I 65 0 (I 3 0)) 65 1 ((zp I 65 0 (I 3 0)) 3 1)) 65 2 ((zp (zp I 65 0 (I 3 0)) 65 1 ((zp I 65 0 (I 3 0)) 3 1)) 3 2)) 65 3 ((zp (zp (zp I 65 0 (I 3 0)) 65 1 ((zp I 65 0 (I 3 0)) 3 1)) 65 2 ((zp (zp I 65 0 (I 3 0)) 65 1 ((zp I 65 0 (I 3 0)) 3 1)) 3 2)) 3 3)) 65 4 ((zp (zp (zp (zp I 65 0 (I 3 0)) 65 1 ((zp I 65 0 (I 3 0)) 3 1)) 65 2 ((zp (zp I 65 0 (I 3 0)) 65 1 ((zp I 65 0 (I 3 0)) 3 1)) 3 2)) 65 3 ((zp (zp (zp I 65 0 (I 3 0)) 65 1 ((zp I 65 0 (I 3 0)) 3 1)) 65 2 ((zp (zp I 65 0 (I 3 0)) 65 1 ((zp I 65 0 (I 3 0)) 3 1)) 3 2)) 3 3)) 3 4)) 3 5)) rfl dX2_copyFrom_42 ?_
  refine z_putI hx hb ht hown hK hP hD hS ziX2 tyX2 tyX2_ok nmX2 rfl 65 (by decide) 5 (by decide) hw_1_87 rfl (v := (zp (zp (zp (zp (zp I 65 0 (I 3 0)) 65 1 ((zp I 65 0 (I 3 0)) 3 1)) 65 2 ((zp (zp I 65 0 (I 3 0)) 65 1 ((zp I 65 0 (I 3 0)) 3 1)) 3 2)) 65 3 ((zp (zp (zp I 65 0 (I 3 0)) 65 1 ((zp I 65 0 (I 3 0)) 3 1)) 65 2 ((zp (zp I 65 0 (I 3 0)) 65 1 ((zp I 65 0 (I 3 0)) 3 1)) 3 2)) 3 3)) 65 4 ((zp (zp (zp (zp I 65 0 (I 3 0)) 65 1 ((zp I 65 0 (I 3 0)) 3 1)) 65 2 ((zp (zp I 65 0 (I 3 0)) 65 1 ((zp I 65 0 (I 3 0)) 3 1)) 3 2)) 65 3 ((zp (zp (zp I 65 0 (I 3 0)) 65 1 ((zp I 65 0 (I 3 0)) 3 1)) 65 2 ((zp (zp I 65 0 (I 3 0)) 65 1 ((zp I 65 0 (I 3 0)) 3 1)) 3 2)) 3 3)) 3 4)) 3 5) rfl rfl rfl (Nat.le_of_ble_eq_true rfl) rfl dX2_copyFrom_45 (fun H locs hP hD hS => ?_)
  refine lv_aload_n hx hb dX2_copyFrom_48 rfl (lv_at hl 0 rfl) ?_
  refine lv_aload_n hx hb dX2_copyFrom_49 rfl (lv_at hl 1 rfl) ?_
  refine z_get hx hb ht hown hK hP ziX2 rfl 3 (by decide) 6 (by decide) hw_1_95 rfl (v := .int ((zp (zp (zp (zp (zp (zp I 65 0 (I 3 0)) 65 1 ((zp I 65 0 (I 3 0)) 3 1)) 65 2 ((zp (zp I 65 0 (I 3 0)) 65 1 ((zp I 65 0 (I 3 0)) 3 1)) 3 2)) 65 3 ((zp (zp (zp I 65 0 (I 3 0)) 65 1 ((zp I 65 0 (I 3 0)) 3 1)) 65 2 ((zp (zp I 65 0 (I 3 0)) 65 1 ((zp I 65 0 (I 3 0)) 3 1)) 3 2)) 3 3)) 65 4 ((zp (zp (zp (zp I 65 0 (I 3 0)) 65 1 ((zp I 65 0 (I 3 0)) 3 1)) 65 2 ((zp (zp I 65 0 (I 3 0)) 65 1 ((zp I 65 0 (I 3 0)) 3 1)) 3 2)) 65 3 ((zp (zp (zp I 65 0 (I 3 0)) 65 1 ((zp I 65 0 (I 3 0)) 3 1)) 65 2 ((zp (zp I 65 0 (I 3 0)) 65 1 ((zp I 65 0 (I 3 0)) 3 1)) 3 2)) 3 3)) 3 4)) 65 5 ((zp (zp (zp (zp (zp I 65 0 (I 3 0)) 65 1 ((zp I 65 0 (I 3 0)) 3 1)) 65 2 ((zp (zp I 65 0 (I 3 0)) 65 1 ((zp I 65 0 (I 3 0)) 3 1)) 3 2)) 65 3 ((zp (zp (zp I 65 0 (I 3 0)) 65 1 ((zp I 65 0 (I 3 0)) 3 1)) 65 2 ((zp (zp I 65 0 (I 3 0)) 65 1 ((zp I 65 0 (I 3 0)) 3 1)) 3 2)) 3 3)) 65 4 ((zp (zp (zp (zp I 65 0 (I 3 0)) 65 1 ((zp I 65 0 (I 3 0)) 3 1)) 65 2 ((zp (zp I 65 0 (I 3 0)) 65 1 ((zp I 65 0 (I 3 0)) 3 1)) 3 2)) 65 3 ((zp (zp (zp I 65 0 (I 3 0)) 65 1 ((zp I 65 0 (I 3 0)) 3 1)) 65 2 ((zp (zp I 65 0 (I 3 0)) 65 1 ((zp I 65 0 (I 3 0)) 3 1)) 3 2)) 3 3)) 3 4)) 3 5)) 3 6)) rfl dX2_copyFrom_50 ?_
  refine z_putI hx hb ht hown hK hP hD hS ziX2 tyX2 tyX2_ok nmX2 rfl 65 (by decide) 6 (by decide) hw_1_95 rfl (v := (zp (zp (zp (zp (zp (zp I 65 0 (I 3 0)) 65 1 ((zp I 65 0 (I 3 0)) 3 1)) 65 2 ((zp (zp I 65 0 (I 3 0)) 65 1 ((zp I 65 0 (I 3 0)) 3 1)) 3 2)) 65 3 ((zp (zp (zp I 65 0 (I 3 0)) 65 1 ((zp I 65 0 (I 3 0)) 3 1)) 65 2 ((zp (zp I 65 0 (I 3 0)) 65 1 ((zp I 65 0 (I 3 0)) 3 1)) 3 2)) 3 3)) 65 4 ((zp (zp (zp (zp I 65 0 (I 3 0)) 65 1 ((zp I 65 0 (I 3 0)) 3 1)) 65 2 ((zp (zp I 65 0 (I 3 0)) 65 1 ((zp I 65 0 (I 3 0)) 3 1)) 3 2)) 65 3 ((zp (zp (zp I 65 0 (I 3 0)) 65 1 ((zp I 65 0 (I 3 0)) 3 1)) 65 2 ((zp (zp I 65 0 (I 3 0)) 65 1 ((zp I 65 0 (I 3 0)) 3 1)) 3 2)) 3 3)) 3 4)) 65 5 ((zp (zp (zp (zp (zp I 65 0 (I 3 0)) 65 1 ((zp I 65 0 (I 3 0)) 3 1)) 65 2 ((zp (zp I 65 0 (I 3 0)) 65 1 ((zp I 65 0 (I 3 0)) 3 1)) 3 2)) 65 3 ((zp (zp (zp I 65 0 (I 3 0)) 65 1 ((zp I 65 0 (I 3 0)) 3 1)) 65 2 ((zp (zp I 65 0 (I 3 0)) 65 1 ((zp I 65 0 (I 3 0)) 3 1)) 3 2)) 3 3)) 65 4 ((zp (zp (zp (zp I 65 0 (I 3 0)) 65 1 ((zp I 65 0 (I 3 0)) 3 1)) 65 2 ((zp (zp I 65 0 (I 3 0)) 65 1 ((zp I 65 0 (I 3 0)) 3 1)) 3 2)) 65 3 ((zp (zp (zp I 65 0 (I 3 0)) 65 1 ((zp I 65 0 (I 3 0)) 3 1)) 65 2 ((zp (zp I 65 0 (I 3 0)) 65 1 ((zp I 65 0 (I 3 0)) 3 1)) 3 2)) 3 3)) 3 4)) 3 5)) 3 6) rfl rfl rfl (Nat.le_of_ble_eq_true rfl) rfl dX2_copyFrom_53 (fun H locs hP hD hS => ?_)
  refine lv_aload_n hx hb dX2_copyFrom_56 rfl (lv_at hl 1 rfl) ?_
  refine z_get hx hb ht hown hK hP ziX2 rfl 3 (by decide) 7 (by decide) hw_1_97 rfl (v := .ref (q 4)) rfl dX2_copyFrom_57 ?_
  refine lv_iconst (v := nI 0) hx hb dX2_copyFrom_60 (by decide +kernel) ?_
  refine lv_aload_n hx hb dX2_copyFrom_61 rfl (lv_at hl 0 rfl) ?_
  refine z_get hx hb ht hown hK hP ziX2 rfl 65 (by decide) 7 (by decide) hw_1_97 rfl (v := .ref (q 66)) rfl dX2_copyFrom_62 ?_
  refine lv_iconst (v := nI 0) hx hb dX2_copyFrom_65 (by decide +kernel) ?_
  refine lv_iconst (v := nI 5) hx hb dX2_copyFrom_66 (by decide +kernel) ?_
  refine z_copyi hx hb (hml.trans hl.1.symm) ht hown hw_3_42 ⟨hw_3_44, hw_3_43, hw_1_18⟩ hK hP hD hS 4 66 (by decide) (by decide) 1 47 rfl (fun _ => rfl) rfl rfl (by decide +kernel) (by decide +kernel) (by decide +kernel) (by decide +kernel) (by decide +kernel) (by decide) (by decide +kernel) dX2_copyFrom_67 (fun g_1 H locs eg_1 hP hD hS => ?_)
  refine lv_aload_n hx hb dX2_copyFrom_70 rfl (lv_at hl 1 rfl) ?_
  refine z_get hx hb ht hown hK hP ziX2 rfl 3 (by decide) 8 (by decide) hw_1_100 rfl (v := .ref (q 5)) rfl dX2_copyFrom_71 ?_
  refine lv_iconst (v := nI 0) hx hb dX2_copyFrom_74 (by decide +kernel) ?_
  refine lv_aload_n hx hb dX2_copyFrom_75 rfl (lv_at hl 0 rfl) ?_
  refine z_get hx hb ht hown hK hP ziX2 rfl 65 (by decide) 8 (by decide) hw_1_100 rfl (v := .ref (q 67)) rfl dX2_copyFrom_76 ?_
  refine lv_iconst (v := nI 0) hx hb dX2_copyFrom_79 (by decide +kernel) ?_
  refine lv_bipush (v := nI 6) hx hb dX2_copyFrom_80 (by decide +kernel) ?_
  refine z_copyi hx hb (hml.trans hl.1.symm) ht hown hw_3_42 ⟨hw_3_44, hw_3_43, hw_1_18⟩ hK hP hD hS 5 67 (by decide) (by decide) 2 48 rfl (fun _ => rfl) rfl rfl (by decide +kernel) (by decide +kernel) (by decide +kernel) (by decide +kernel) (by decide +kernel) (by decide) (by decide +kernel) dX2_copyFrom_82 (fun g_2 H locs eg_2 hP hD hS => ?_)
  refine lv_aload_n hx hb dX2_copyFrom_85 rfl (lv_at hl 1 rfl) ?_
  refine z_get hx hb ht hown hK hP ziX2 rfl 3 (by decide) 9 (by decide) hw_1_104 rfl (v := .ref (q 6)) rfl dX2_copyFrom_86 ?_
  refine lv_iconst (v := nI 0) hx hb dX2_copyFrom_89 (by decide +kernel) ?_
  refine lv_aload_n hx hb dX2_copyFrom_90 rfl (lv_at hl 0 rfl) ?_
  refine z_get hx hb ht hown hK hP ziX2 rfl 65 (by decide) 9 (by decide) hw_1_104 rfl (v := .ref (q 68)) rfl dX2_copyFrom_91 ?_
  refine lv_iconst (v := nI 0) hx hb dX2_copyFrom_94 (by decide +kernel) ?_
  refine lv_bipush (v := nI 6) hx hb dX2_copyFrom_95 (by decide +kernel) ?_
  refine z_copyi hx hb (hml.trans hl.1.symm) ht hown hw_3_42 ⟨hw_3_44, hw_3_43, hw_1_18⟩ hK hP hD hS 6 68 (by decide) (by decide) 3 49 rfl (fun _ => rfl) rfl rfl (by decide +kernel) (by decide +kernel) (by decide +kernel) (by decide +kernel) (by decide +kernel) (by decide) (by decide +kernel) dX2_copyFrom_97 (fun g_3 H locs eg_3 hP hD hS => ?_)
  refine lv_aload_n hx hb dX2_copyFrom_100 rfl (lv_at hl 1 rfl) ?_
  refine z_get hx hb ht hown hK hP ziX2 rfl 3 (by decide) 10 (by decide) hw_1_109 rfl (v := .ref (q 7)) rfl dX2_copyFrom_101 ?_
  refine lv_iconst (v := nI 0) hx hb dX2_copyFrom_104 (by decide +kernel) ?_
  refine lv_aload_n hx hb dX2_copyFrom_105 rfl (lv_at hl 0 rfl) ?_
  refine z_get hx hb ht hown hK hP ziX2 rfl 65 (by decide) 10 (by decide) hw_1_109 rfl (v := .ref (q 69)) rfl dX2_copyFrom_106 ?_
  refine lv_iconst (v := nI 0) hx hb dX2_copyFrom_109 (by decide +kernel) ?_
  refine lv_bipush (v := nI 30) hx hb dX2_copyFrom_110 (by decide +kernel) ?_
  refine z_copyi hx hb (hml.trans hl.1.symm) ht hown hw_3_42 ⟨hw_3_44, hw_3_43, hw_1_18⟩ hK hP hD hS 7 69 (by decide) (by decide) 4 50 rfl (fun _ => rfl) rfl rfl (by decide +kernel) (by decide +kernel) (by decide +kernel) (by decide +kernel) (by decide +kernel) (by decide) (by decide +kernel) dX2_copyFrom_112 (fun g_4 H locs eg_4 hP hD hS => ?_)
  exact z_vret hx hb hr hlocks hP hD hS dX2_copyFrom_115 rfl
set_option maxHeartbeats 4000000 in
set_option maxRecDepth 100000 in
theorem kX2_copyFrom_3_8 (l : Launch) (D : va_G) (q : Nat → Nat) (cA : Nat → ClassId) (I R : Nat → Nat → Int32) (J : Nat → Nat → Int64)   : zMv l D vwCl (zXtys cA) 81 q (zXd q cA) yX2_copyFrom cX2_copyFrom 2 none ({ frames := 1, cells := 0, slots := 0, locals := 64 } : Room) [.ref (q 3), .ref (q 8)] (I, R, J) (fun u => u.1 3 0 = I 8 0) := by
  intro sz
  refine z_body (by decide +kernel) (Nat.le_of_ble_eq_true rfl) (fun p e s m below meth c ls hx hb hml hr ht hown hlocks hsz hK hP hD hS hl => ?_)
  have hA : ∀ a, s.heap.size ≤ a → zA 81 q sz a := fun a h => Or.inr (hsz ▸ h)
  have hl : lv_has ls 2 [(0, .ref (q 3)), (1, .ref (q 8))] := hl
  refine lv_aload_n hx hb dX2_copyFrom_0 rfl (lv_at hl 0 rfl) ?_
  refine lv_aload_n hx hb dX2_copyFrom_1 rfl (lv_at hl 1 rfl) ?_
  refine z_get hx hb ht hown hK hP ziX2 rfl 8 (by decide) 0 (by decide) hw_1_67 rfl (v := .int (I 8 0)) rfl dX2_copyFrom_2 ?_
  refine z_putI hx hb ht hown hK hP hD hS ziX2 tyX2 tyX2_ok nmX2 rfl 3 (by decide) 0 (by decide) hw_1_67 rfl (v := I 8 0) rfl rfl rfl (Nat.le_of_ble_eq_true rfl) rfl dX2_copyFrom_5 (fun H locs hP hD hS => ?_)
  refine lv_aload_n hx hb dX2_copyFrom_8 rfl (lv_at hl 0 rfl) ?_
  refine lv_aload_n hx hb dX2_copyFrom_9 rfl (lv_at hl 1 rfl) ?_
  refine z_get hx hb ht hown hK hP ziX2 rfl 8 (by decide) 1 (by decide) hw_1_70 rfl (v := .int ((zp I 3 0 (I 8 0)) 8 1)) rfl dX2_copyFrom_10 ?_
  refine z_putI hx hb ht hown hK hP hD hS ziX2 tyX2 tyX2_ok nmX2 rfl 3 (by decide) 1 (by decide) hw_1_70 rfl (v := (zp I 3 0 (I 8 0)) 8 1) rfl rfl rfl (Nat.le_of_ble_eq_true rfl) rfl dX2_copyFrom_13 (fun H locs hP hD hS => ?_)
  refine lv_aload_n hx hb dX2_copyFrom_16 rfl (lv_at hl 0 rfl) ?_
  refine lv_aload_n hx hb dX2_copyFrom_17 rfl (lv_at hl 1 rfl) ?_
  refine z_get hx hb ht hown hK hP ziX2 rfl 8 (by decide) 2 (by decide) hw_1_74 rfl (v := .int ((zp (zp I 3 0 (I 8 0)) 3 1 ((zp I 3 0 (I 8 0)) 8 1)) 8 2)) rfl dX2_copyFrom_18 ?_
  refine z_putI hx hb ht hown hK hP hD hS ziX2 tyX2 tyX2_ok nmX2 rfl 3 (by decide) 2 (by decide) hw_1_74 rfl (v := (zp (zp I 3 0 (I 8 0)) 3 1 ((zp I 3 0 (I 8 0)) 8 1)) 8 2) rfl rfl rfl (Nat.le_of_ble_eq_true rfl) rfl dX2_copyFrom_21 (fun H locs hP hD hS => ?_)
  refine lv_aload_n hx hb dX2_copyFrom_24 rfl (lv_at hl 0 rfl) ?_
  refine lv_aload_n hx hb dX2_copyFrom_25 rfl (lv_at hl 1 rfl) ?_
  refine z_get hx hb ht hown hK hP ziX2 rfl 8 (by decide) 3 (by decide) hw_1_78 rfl (v := .int ((zp (zp (zp I 3 0 (I 8 0)) 3 1 ((zp I 3 0 (I 8 0)) 8 1)) 3 2 ((zp (zp I 3 0 (I 8 0)) 3 1 ((zp I 3 0 (I 8 0)) 8 1)) 8 2)) 8 3)) rfl dX2_copyFrom_26 ?_
  refine z_putI hx hb ht hown hK hP hD hS ziX2 tyX2 tyX2_ok nmX2 rfl 3 (by decide) 3 (by decide) hw_1_78 rfl (v := (zp (zp (zp I 3 0 (I 8 0)) 3 1 ((zp I 3 0 (I 8 0)) 8 1)) 3 2 ((zp (zp I 3 0 (I 8 0)) 3 1 ((zp I 3 0 (I 8 0)) 8 1)) 8 2)) 8 3) rfl rfl rfl (Nat.le_of_ble_eq_true rfl) rfl dX2_copyFrom_29 (fun H locs hP hD hS => ?_)
  refine lv_aload_n hx hb dX2_copyFrom_32 rfl (lv_at hl 0 rfl) ?_
  refine lv_aload_n hx hb dX2_copyFrom_33 rfl (lv_at hl 1 rfl) ?_
  refine z_get hx hb ht hown hK hP ziX2 rfl 8 (by decide) 4 (by decide) hw_1_81 rfl (v := .int ((zp (zp (zp (zp I 3 0 (I 8 0)) 3 1 ((zp I 3 0 (I 8 0)) 8 1)) 3 2 ((zp (zp I 3 0 (I 8 0)) 3 1 ((zp I 3 0 (I 8 0)) 8 1)) 8 2)) 3 3 ((zp (zp (zp I 3 0 (I 8 0)) 3 1 ((zp I 3 0 (I 8 0)) 8 1)) 3 2 ((zp (zp I 3 0 (I 8 0)) 3 1 ((zp I 3 0 (I 8 0)) 8 1)) 8 2)) 8 3)) 8 4)) rfl dX2_copyFrom_34 ?_
  refine z_putI hx hb ht hown hK hP hD hS ziX2 tyX2 tyX2_ok nmX2 rfl 3 (by decide) 4 (by decide) hw_1_81 rfl (v := (zp (zp (zp (zp I 3 0 (I 8 0)) 3 1 ((zp I 3 0 (I 8 0)) 8 1)) 3 2 ((zp (zp I 3 0 (I 8 0)) 3 1 ((zp I 3 0 (I 8 0)) 8 1)) 8 2)) 3 3 ((zp (zp (zp I 3 0 (I 8 0)) 3 1 ((zp I 3 0 (I 8 0)) 8 1)) 3 2 ((zp (zp I 3 0 (I 8 0)) 3 1 ((zp I 3 0 (I 8 0)) 8 1)) 8 2)) 8 3)) 8 4) rfl rfl rfl (Nat.le_of_ble_eq_true rfl) rfl dX2_copyFrom_37 (fun H locs hP hD hS => ?_)
  refine lv_aload_n hx hb dX2_copyFrom_40 rfl (lv_at hl 0 rfl) ?_
  refine lv_aload_n hx hb dX2_copyFrom_41 rfl (lv_at hl 1 rfl) ?_
  refine z_get hx hb ht hown hK hP ziX2 rfl 8 (by decide) 5 (by decide) hw_1_87 rfl (v := .int ((zp (zp (zp (zp (zp I 3 0 (I 8 0)) 3 1 ((zp I 3 0 (I 8 0)) 8 1)) 3 2 ((zp (zp I 3 0 (I 8 0)) 3 1 ((zp I 3 0 (I 8 0)) 8 1)) 8 2)) 3 3 ((zp (zp (zp I 3 0 (I 8 0)) 3 1 ((zp I 3 0 (I 8 0)) 8 1)) 3 2 ((zp (zp I 3 0 (I 8 0)) 3 1 ((zp I 3 0 (I 8 0)) 8 1)) 8 2)) 8 3)) 3 4 ((zp (zp (zp (zp I 3 0 (I 8 0)) 3 1 ((zp I 3 0 (I 8 0)) 8 1)) 3 2 ((zp (zp I 3 0 (I 8 0)) 3 1 ((zp I 3 0 (I 8 0)) 8 1)) 8 2)) 3 3 ((zp (zp (zp I 3 0 (I 8 0)) 3 1 ((zp I 3 0 (I 8 0)) 8 1)) 3 2 ((zp (zp I 3 0 (I 8 0)) 3 1 ((zp I 3 0 (I 8 0)) 8 1)) 8 2)) 8 3)) 8 4)) 8 5)) rfl dX2_copyFrom_42 ?_
  refine z_putI hx hb ht hown hK hP hD hS ziX2 tyX2 tyX2_ok nmX2 rfl 3 (by decide) 5 (by decide) hw_1_87 rfl (v := (zp (zp (zp (zp (zp I 3 0 (I 8 0)) 3 1 ((zp I 3 0 (I 8 0)) 8 1)) 3 2 ((zp (zp I 3 0 (I 8 0)) 3 1 ((zp I 3 0 (I 8 0)) 8 1)) 8 2)) 3 3 ((zp (zp (zp I 3 0 (I 8 0)) 3 1 ((zp I 3 0 (I 8 0)) 8 1)) 3 2 ((zp (zp I 3 0 (I 8 0)) 3 1 ((zp I 3 0 (I 8 0)) 8 1)) 8 2)) 8 3)) 3 4 ((zp (zp (zp (zp I 3 0 (I 8 0)) 3 1 ((zp I 3 0 (I 8 0)) 8 1)) 3 2 ((zp (zp I 3 0 (I 8 0)) 3 1 ((zp I 3 0 (I 8 0)) 8 1)) 8 2)) 3 3 ((zp (zp (zp I 3 0 (I 8 0)) 3 1 ((zp I 3 0 (I 8 0)) 8 1)) 3 2 ((zp (zp I 3 0 (I 8 0)) 3 1 ((zp I 3 0 (I 8 0)) 8 1)) 8 2)) 8 3)) 8 4)) 8 5) rfl rfl rfl (Nat.le_of_ble_eq_true rfl) rfl dX2_copyFrom_45 (fun H locs hP hD hS => ?_)
  refine lv_aload_n hx hb dX2_copyFrom_48 rfl (lv_at hl 0 rfl) ?_
  refine lv_aload_n hx hb dX2_copyFrom_49 rfl (lv_at hl 1 rfl) ?_
  refine z_get hx hb ht hown hK hP ziX2 rfl 8 (by decide) 6 (by decide) hw_1_95 rfl (v := .int ((zp (zp (zp (zp (zp (zp I 3 0 (I 8 0)) 3 1 ((zp I 3 0 (I 8 0)) 8 1)) 3 2 ((zp (zp I 3 0 (I 8 0)) 3 1 ((zp I 3 0 (I 8 0)) 8 1)) 8 2)) 3 3 ((zp (zp (zp I 3 0 (I 8 0)) 3 1 ((zp I 3 0 (I 8 0)) 8 1)) 3 2 ((zp (zp I 3 0 (I 8 0)) 3 1 ((zp I 3 0 (I 8 0)) 8 1)) 8 2)) 8 3)) 3 4 ((zp (zp (zp (zp I 3 0 (I 8 0)) 3 1 ((zp I 3 0 (I 8 0)) 8 1)) 3 2 ((zp (zp I 3 0 (I 8 0)) 3 1 ((zp I 3 0 (I 8 0)) 8 1)) 8 2)) 3 3 ((zp (zp (zp I 3 0 (I 8 0)) 3 1 ((zp I 3 0 (I 8 0)) 8 1)) 3 2 ((zp (zp I 3 0 (I 8 0)) 3 1 ((zp I 3 0 (I 8 0)) 8 1)) 8 2)) 8 3)) 8 4)) 3 5 ((zp (zp (zp (zp (zp I 3 0 (I 8 0)) 3 1 ((zp I 3 0 (I 8 0)) 8 1)) 3 2 ((zp (zp I 3 0 (I 8 0)) 3 1 ((zp I 3 0 (I 8 0)) 8 1)) 8 2)) 3 3 ((zp (zp (zp I 3 0 (I 8 0)) 3 1 ((zp I 3 0 (I 8 0)) 8 1)) 3 2 ((zp (zp I 3 0 (I 8 0)) 3 1 ((zp I 3 0 (I 8 0)) 8 1)) 8 2)) 8 3)) 3 4 ((zp (zp (zp (zp I 3 0 (I 8 0)) 3 1 ((zp I 3 0 (I 8 0)) 8 1)) 3 2 ((zp (zp I 3 0 (I 8 0)) 3 1 ((zp I 3 0 (I 8 0)) 8 1)) 8 2)) 3 3 ((zp (zp (zp I 3 0 (I 8 0)) 3 1 ((zp I 3 0 (I 8 0)) 8 1)) 3 2 ((zp (zp I 3 0 (I 8 0)) 3 1 ((zp I 3 0 (I 8 0)) 8 1)) 8 2)) 8 3)) 8 4)) 8 5)) 8 6)) rfl dX2_copyFrom_50 ?_
  refine z_putI hx hb ht hown hK hP hD hS ziX2 tyX2 tyX2_ok nmX2 rfl 3 (by decide) 6 (by decide) hw_1_95 rfl (v := (zp (zp (zp (zp (zp (zp I 3 0 (I 8 0)) 3 1 ((zp I 3 0 (I 8 0)) 8 1)) 3 2 ((zp (zp I 3 0 (I 8 0)) 3 1 ((zp I 3 0 (I 8 0)) 8 1)) 8 2)) 3 3 ((zp (zp (zp I 3 0 (I 8 0)) 3 1 ((zp I 3 0 (I 8 0)) 8 1)) 3 2 ((zp (zp I 3 0 (I 8 0)) 3 1 ((zp I 3 0 (I 8 0)) 8 1)) 8 2)) 8 3)) 3 4 ((zp (zp (zp (zp I 3 0 (I 8 0)) 3 1 ((zp I 3 0 (I 8 0)) 8 1)) 3 2 ((zp (zp I 3 0 (I 8 0)) 3 1 ((zp I 3 0 (I 8 0)) 8 1)) 8 2)) 3 3 ((zp (zp (zp I 3 0 (I 8 0)) 3 1 ((zp I 3 0 (I 8 0)) 8 1)) 3 2 ((zp (zp I 3 0 (I 8 0)) 3 1 ((zp I 3 0 (I 8 0)) 8 1)) 8 2)) 8 3)) 8 4)) 3 5 ((zp (zp (zp (zp (zp I 3 0 (I 8 0)) 3 1 ((zp I 3 0 (I 8 0)) 8 1)) 3 2 ((zp (zp I 3 0 (I 8 0)) 3 1 ((zp I 3 0 (I 8 0)) 8 1)) 8 2)) 3 3 ((zp (zp (zp I 3 0 (I 8 0)) 3 1 ((zp I 3 0 (I 8 0)) 8 1)) 3 2 ((zp (zp I 3 0 (I 8 0)) 3 1 ((zp I 3 0 (I 8 0)) 8 1)) 8 2)) 8 3)) 3 4 ((zp (zp (zp (zp I 3 0 (I 8 0)) 3 1 ((zp I 3 0 (I 8 0)) 8 1)) 3 2 ((zp (zp I 3 0 (I 8 0)) 3 1 ((zp I 3 0 (I 8 0)) 8 1)) 8 2)) 3 3 ((zp (zp (zp I 3 0 (I 8 0)) 3 1 ((zp I 3 0 (I 8 0)) 8 1)) 3 2 ((zp (zp I 3 0 (I 8 0)) 3 1 ((zp I 3 0 (I 8 0)) 8 1)) 8 2)) 8 3)) 8 4)) 8 5)) 8 6) rfl rfl rfl (Nat.le_of_ble_eq_true rfl) rfl dX2_copyFrom_53 (fun H locs hP hD hS => ?_)
  refine lv_aload_n hx hb dX2_copyFrom_56 rfl (lv_at hl 1 rfl) ?_
  refine z_get hx hb ht hown hK hP ziX2 rfl 8 (by decide) 7 (by decide) hw_1_97 rfl (v := .ref (q 9)) rfl dX2_copyFrom_57 ?_
  refine lv_iconst (v := nI 0) hx hb dX2_copyFrom_60 (by decide +kernel) ?_
  refine lv_aload_n hx hb dX2_copyFrom_61 rfl (lv_at hl 0 rfl) ?_
  refine z_get hx hb ht hown hK hP ziX2 rfl 3 (by decide) 7 (by decide) hw_1_97 rfl (v := .ref (q 4)) rfl dX2_copyFrom_62 ?_
  refine lv_iconst (v := nI 0) hx hb dX2_copyFrom_65 (by decide +kernel) ?_
  refine lv_iconst (v := nI 5) hx hb dX2_copyFrom_66 (by decide +kernel) ?_
  refine z_copyi hx hb (hml.trans hl.1.symm) ht hown hw_3_42 ⟨hw_3_44, hw_3_43, hw_1_18⟩ hK hP hD hS 9 4 (by decide) (by decide) 5 1 rfl (fun _ => rfl) rfl rfl (by decide +kernel) (by decide +kernel) (by decide +kernel) (by decide +kernel) (by decide +kernel) (by decide) (by decide +kernel) dX2_copyFrom_67 (fun g_1 H locs eg_1 hP hD hS => ?_)
  refine lv_aload_n hx hb dX2_copyFrom_70 rfl (lv_at hl 1 rfl) ?_
  refine z_get hx hb ht hown hK hP ziX2 rfl 8 (by decide) 8 (by decide) hw_1_100 rfl (v := .ref (q 10)) rfl dX2_copyFrom_71 ?_
  refine lv_iconst (v := nI 0) hx hb dX2_copyFrom_74 (by decide +kernel) ?_
  refine lv_aload_n hx hb dX2_copyFrom_75 rfl (lv_at hl 0 rfl) ?_
  refine z_get hx hb ht hown hK hP ziX2 rfl 3 (by decide) 8 (by decide) hw_1_100 rfl (v := .ref (q 5)) rfl dX2_copyFrom_76 ?_
  refine lv_iconst (v := nI 0) hx hb dX2_copyFrom_79 (by decide +kernel) ?_
  refine lv_bipush (v := nI 6) hx hb dX2_copyFrom_80 (by decide +kernel) ?_
  refine z_copyi hx hb (hml.trans hl.1.symm) ht hown hw_3_42 ⟨hw_3_44, hw_3_43, hw_1_18⟩ hK hP hD hS 10 5 (by decide) (by decide) 6 2 rfl (fun _ => rfl) rfl rfl (by decide +kernel) (by decide +kernel) (by decide +kernel) (by decide +kernel) (by decide +kernel) (by decide) (by decide +kernel) dX2_copyFrom_82 (fun g_2 H locs eg_2 hP hD hS => ?_)
  refine lv_aload_n hx hb dX2_copyFrom_85 rfl (lv_at hl 1 rfl) ?_
  refine z_get hx hb ht hown hK hP ziX2 rfl 8 (by decide) 9 (by decide) hw_1_104 rfl (v := .ref (q 11)) rfl dX2_copyFrom_86 ?_
  refine lv_iconst (v := nI 0) hx hb dX2_copyFrom_89 (by decide +kernel) ?_
  refine lv_aload_n hx hb dX2_copyFrom_90 rfl (lv_at hl 0 rfl) ?_
  refine z_get hx hb ht hown hK hP ziX2 rfl 3 (by decide) 9 (by decide) hw_1_104 rfl (v := .ref (q 6)) rfl dX2_copyFrom_91 ?_
  refine lv_iconst (v := nI 0) hx hb dX2_copyFrom_94 (by decide +kernel) ?_
  refine lv_bipush (v := nI 6) hx hb dX2_copyFrom_95 (by decide +kernel) ?_
  refine z_copyi hx hb (hml.trans hl.1.symm) ht hown hw_3_42 ⟨hw_3_44, hw_3_43, hw_1_18⟩ hK hP hD hS 11 6 (by decide) (by decide) 7 3 rfl (fun _ => rfl) rfl rfl (by decide +kernel) (by decide +kernel) (by decide +kernel) (by decide +kernel) (by decide +kernel) (by decide) (by decide +kernel) dX2_copyFrom_97 (fun g_3 H locs eg_3 hP hD hS => ?_)
  refine lv_aload_n hx hb dX2_copyFrom_100 rfl (lv_at hl 1 rfl) ?_
  refine z_get hx hb ht hown hK hP ziX2 rfl 8 (by decide) 10 (by decide) hw_1_109 rfl (v := .ref (q 12)) rfl dX2_copyFrom_101 ?_
  refine lv_iconst (v := nI 0) hx hb dX2_copyFrom_104 (by decide +kernel) ?_
  refine lv_aload_n hx hb dX2_copyFrom_105 rfl (lv_at hl 0 rfl) ?_
  refine z_get hx hb ht hown hK hP ziX2 rfl 3 (by decide) 10 (by decide) hw_1_109 rfl (v := .ref (q 7)) rfl dX2_copyFrom_106 ?_
  refine lv_iconst (v := nI 0) hx hb dX2_copyFrom_109 (by decide +kernel) ?_
  refine lv_bipush (v := nI 30) hx hb dX2_copyFrom_110 (by decide +kernel) ?_
  refine z_copyi hx hb (hml.trans hl.1.symm) ht hown hw_3_42 ⟨hw_3_44, hw_3_43, hw_1_18⟩ hK hP hD hS 12 7 (by decide) (by decide) 8 4 rfl (fun _ => rfl) rfl rfl (by decide +kernel) (by decide +kernel) (by decide +kernel) (by decide +kernel) (by decide +kernel) (by decide) (by decide +kernel) dX2_copyFrom_112 (fun g_4 H locs eg_4 hP hD hS => ?_)
  exact z_vret hx hb hr hlocks hP hD hS dX2_copyFrom_115 rfl
set_option maxHeartbeats 4000000 in
set_option maxRecDepth 100000 in
theorem kX0_copyFrom_54_13 (l : Launch) (D : va_G) (q : Nat → Nat) (cA : Nat → ClassId) (I R : Nat → Nat → Int32) (J : Nat → Nat → Int64)   : zMv l D vwCl (zXtys cA) 81 q (zXd q cA) yX0_copyFrom cX0_copyFrom 2 none ({ frames := 1, cells := 0, slots := 0, locals := 64 } : Room) [.ref (q 54), .ref (q 13)] (I, R, J) (fun _ => True) := by
  intro sz
  refine z_body (by decide +kernel) (Nat.le_of_ble_eq_true rfl) (fun p e s m below meth c ls hx hb hml hr ht hown hlocks hsz hK hP hD hS hl => ?_)
  have hA : ∀ a, s.heap.size ≤ a → zA 81 q sz a := fun a h => Or.inr (hsz ▸ h)
  have hl : lv_has ls 2 [(0, .ref (q 54)), (1, .ref (q 13))] := hl
  refine lv_aload_n hx hb dX0_copyFrom_0 rfl (lv_at hl 0 rfl) ?_
  refine lv_aload_n hx hb dX0_copyFrom_1 rfl (lv_at hl 1 rfl) ?_
  refine z_get hx hb ht hown hK hP ziX0 rfl 13 (by decide) 0 (by decide) hw_1_140 rfl (v := .int (I 13 0)) rfl dX0_copyFrom_2 ?_
  refine z_putI hx hb ht hown hK hP hD hS ziX0 tyX0 tyX0_ok nmX0 rfl 54 (by decide) 0 (by decide) hw_1_140 rfl (v := I 13 0) rfl rfl rfl (Nat.le_of_ble_eq_true rfl) rfl dX0_copyFrom_5 (fun H locs hP hD hS => ?_)
  refine lv_aload_n hx hb dX0_copyFrom_8 rfl (lv_at hl 1 rfl) ?_
  refine z_get hx hb ht hown hK hP ziX0 rfl 13 (by decide) 1 (by decide) hw_1_142 rfl (v := .ref (q 14)) rfl dX0_copyFrom_9 ?_
  refine lv_iconst (v := nI 0) hx hb dX0_copyFrom_12 (by decide +kernel) ?_
  refine lv_aload_n hx hb dX0_copyFrom_13 rfl (lv_at hl 0 rfl) ?_
  refine z_get hx hb ht hown hK hP ziX0 rfl 54 (by decide) 1 (by decide) hw_1_142 rfl (v := .ref (q 55)) rfl dX0_copyFrom_14 ?_
  refine lv_iconst (v := nI 0) hx hb dX0_copyFrom_17 (by decide +kernel) ?_
  refine lv_sipush (v := nI 240) hx hb dX0_copyFrom_18 (by decide +kernel) ?_
  refine z_copyi hx hb (hml.trans hl.1.symm) ht hown hw_5_149 ⟨hw_3_44, hw_3_43, hw_1_18⟩ hK hP hD hS 14 55 (by decide) (by decide) 9 41 rfl (fun _ => rfl) rfl rfl (by decide +kernel) (by decide +kernel) (by decide +kernel) (by decide +kernel) (by decide +kernel) (by decide) (by decide +kernel) dX0_copyFrom_21 (fun g_1 H locs eg_1 hP hD hS => ?_)
  exact z_vret hx hb hr hlocks hP hD hS dX0_copyFrom_24 trivial
set_option maxHeartbeats 4000000 in
set_option maxRecDepth 100000 in
theorem kX0_copyFrom_62_13 (l : Launch) (D : va_G) (q : Nat → Nat) (cA : Nat → ClassId) (I R : Nat → Nat → Int32) (J : Nat → Nat → Int64)   : zMv l D vwCl (zXtys cA) 81 q (zXd q cA) yX0_copyFrom cX0_copyFrom 2 none ({ frames := 1, cells := 0, slots := 0, locals := 64 } : Room) [.ref (q 62), .ref (q 13)] (I, R, J) (fun _ => True) := by
  intro sz
  refine z_body (by decide +kernel) (Nat.le_of_ble_eq_true rfl) (fun p e s m below meth c ls hx hb hml hr ht hown hlocks hsz hK hP hD hS hl => ?_)
  have hA : ∀ a, s.heap.size ≤ a → zA 81 q sz a := fun a h => Or.inr (hsz ▸ h)
  have hl : lv_has ls 2 [(0, .ref (q 62)), (1, .ref (q 13))] := hl
  refine lv_aload_n hx hb dX0_copyFrom_0 rfl (lv_at hl 0 rfl) ?_
  refine lv_aload_n hx hb dX0_copyFrom_1 rfl (lv_at hl 1 rfl) ?_
  refine z_get hx hb ht hown hK hP ziX0 rfl 13 (by decide) 0 (by decide) hw_1_140 rfl (v := .int (I 13 0)) rfl dX0_copyFrom_2 ?_
  refine z_putI hx hb ht hown hK hP hD hS ziX0 tyX0 tyX0_ok nmX0 rfl 62 (by decide) 0 (by decide) hw_1_140 rfl (v := I 13 0) rfl rfl rfl (Nat.le_of_ble_eq_true rfl) rfl dX0_copyFrom_5 (fun H locs hP hD hS => ?_)
  refine lv_aload_n hx hb dX0_copyFrom_8 rfl (lv_at hl 1 rfl) ?_
  refine z_get hx hb ht hown hK hP ziX0 rfl 13 (by decide) 1 (by decide) hw_1_142 rfl (v := .ref (q 14)) rfl dX0_copyFrom_9 ?_
  refine lv_iconst (v := nI 0) hx hb dX0_copyFrom_12 (by decide +kernel) ?_
  refine lv_aload_n hx hb dX0_copyFrom_13 rfl (lv_at hl 0 rfl) ?_
  refine z_get hx hb ht hown hK hP ziX0 rfl 62 (by decide) 1 (by decide) hw_1_142 rfl (v := .ref (q 63)) rfl dX0_copyFrom_14 ?_
  refine lv_iconst (v := nI 0) hx hb dX0_copyFrom_17 (by decide +kernel) ?_
  refine lv_sipush (v := nI 240) hx hb dX0_copyFrom_18 (by decide +kernel) ?_
  refine z_copyi hx hb (hml.trans hl.1.symm) ht hown hw_5_149 ⟨hw_3_44, hw_3_43, hw_1_18⟩ hK hP hD hS 14 63 (by decide) (by decide) 9 46 rfl (fun _ => rfl) rfl rfl (by decide +kernel) (by decide +kernel) (by decide +kernel) (by decide +kernel) (by decide +kernel) (by decide) (by decide +kernel) dX0_copyFrom_21 (fun g_1 H locs eg_1 hP hD hS => ?_)
  exact z_vret hx hb hr hlocks hP hD hS dX0_copyFrom_24 trivial
set_option maxHeartbeats 4000000 in
set_option maxRecDepth 100000 in
theorem kX0_copyFrom_70_13 (l : Launch) (D : va_G) (q : Nat → Nat) (cA : Nat → ClassId) (I R : Nat → Nat → Int32) (J : Nat → Nat → Int64)   : zMv l D vwCl (zXtys cA) 81 q (zXd q cA) yX0_copyFrom cX0_copyFrom 2 none ({ frames := 1, cells := 0, slots := 0, locals := 64 } : Room) [.ref (q 70), .ref (q 13)] (I, R, J) (fun _ => True) := by
  intro sz
  refine z_body (by decide +kernel) (Nat.le_of_ble_eq_true rfl) (fun p e s m below meth c ls hx hb hml hr ht hown hlocks hsz hK hP hD hS hl => ?_)
  have hA : ∀ a, s.heap.size ≤ a → zA 81 q sz a := fun a h => Or.inr (hsz ▸ h)
  have hl : lv_has ls 2 [(0, .ref (q 70)), (1, .ref (q 13))] := hl
  refine lv_aload_n hx hb dX0_copyFrom_0 rfl (lv_at hl 0 rfl) ?_
  refine lv_aload_n hx hb dX0_copyFrom_1 rfl (lv_at hl 1 rfl) ?_
  refine z_get hx hb ht hown hK hP ziX0 rfl 13 (by decide) 0 (by decide) hw_1_140 rfl (v := .int (I 13 0)) rfl dX0_copyFrom_2 ?_
  refine z_putI hx hb ht hown hK hP hD hS ziX0 tyX0 tyX0_ok nmX0 rfl 70 (by decide) 0 (by decide) hw_1_140 rfl (v := I 13 0) rfl rfl rfl (Nat.le_of_ble_eq_true rfl) rfl dX0_copyFrom_5 (fun H locs hP hD hS => ?_)
  refine lv_aload_n hx hb dX0_copyFrom_8 rfl (lv_at hl 1 rfl) ?_
  refine z_get hx hb ht hown hK hP ziX0 rfl 13 (by decide) 1 (by decide) hw_1_142 rfl (v := .ref (q 14)) rfl dX0_copyFrom_9 ?_
  refine lv_iconst (v := nI 0) hx hb dX0_copyFrom_12 (by decide +kernel) ?_
  refine lv_aload_n hx hb dX0_copyFrom_13 rfl (lv_at hl 0 rfl) ?_
  refine z_get hx hb ht hown hK hP ziX0 rfl 70 (by decide) 1 (by decide) hw_1_142 rfl (v := .ref (q 71)) rfl dX0_copyFrom_14 ?_
  refine lv_iconst (v := nI 0) hx hb dX0_copyFrom_17 (by decide +kernel) ?_
  refine lv_sipush (v := nI 240) hx hb dX0_copyFrom_18 (by decide +kernel) ?_
  refine z_copyi hx hb (hml.trans hl.1.symm) ht hown hw_5_149 ⟨hw_3_44, hw_3_43, hw_1_18⟩ hK hP hD hS 14 71 (by decide) (by decide) 9 51 rfl (fun _ => rfl) rfl rfl (by decide +kernel) (by decide +kernel) (by decide +kernel) (by decide +kernel) (by decide +kernel) (by decide) (by decide +kernel) dX0_copyFrom_21 (fun g_1 H locs eg_1 hP hD hS => ?_)
  exact z_vret hx hb hr hlocks hP hD hS dX0_copyFrom_24 trivial
set_option maxHeartbeats 4000000 in
set_option maxRecDepth 100000 in
theorem kX10_image (l : Launch) (D : va_G) (q : Nat → Nat) (cA : Nat → ClassId)  (x : Int32)  : zMi l D vwCl (zXtys cA) 81 q (zXd q cA) yX10_image cX10_image 3 (some .int) ({ frames := 2, cells := 0, slots := 0, locals := 85 } : Room) [.ref (q 0), .int (x)] (zXI0, zXR0, zXJ0) (fun r _ => (0 ≤ x.toInt ∧ x.toInt ≤ 2 ∧ r = nI 0) ∨ ((x.toInt < 0 ∨ 2 < x.toInt) ∧ r = (-2))) := by
  intro sz
  refine z_body (by decide +kernel) (Nat.le_of_ble_eq_true rfl) (fun p e s m below meth c ls hx hb hml hr ht hown hlocks hsz hK hP hD hS hl => ?_)
  have hA : ∀ a, s.heap.size ≤ a → zA 81 q sz a := fun a h => Or.inr (hsz ▸ h)
  have hl : lv_has ls 3 [(0, .ref (q 0)), (1, .int (x))] := hl
  refine lv_iload_n hx hb dX10_image_0 rfl (lv_at hl 1 rfl) ?_
  refine lv_if_lt (tgt := 9) hx hb dX10_image_1 (by decide) (fun c_1 => ?_) (fun c_1 => ?_)
  · have kc_1_1 : (nI 0 : Int32).toInt = 0 := by decide +kernel
    have kc_1_2 : (0 : Int32).toInt = 0 := by decide +kernel
    have t_c_1 := z_ltT c_1
    refine lv_bipush (v := (-2)) hx hb dX10_image_9 (by decide +kernel) ?_
    exact z_iret (v := (-2)) hx hb hr hlocks hP hD hS dX10_image_11 (Or.inr ⟨by omega, rfl⟩)
  · have kc_1_1 : (nI 0 : Int32).toInt = 0 := by decide +kernel
    have kc_1_2 : (0 : Int32).toInt = 0 := by decide +kernel
    have t_c_1 := z_ltF c_1
    refine lv_iload_n hx hb dX10_image_4 rfl (lv_at hl 1 rfl) ?_
    refine lv_iconst (v := nI 3) hx hb dX10_image_5 (by decide +kernel) ?_
    refine lv_icmp_lt (tgt := 12) hx hb dX10_image_6 (by decide) (fun c_2 => ?_) (fun c_2 => ?_)
    · have kc_2_1 : (nI 3 : Int32).toInt = 3 := by decide +kernel
      have t_c_2 := z_ltT c_2
      refine lv_aload_n hx hb dX10_image_12 rfl (lv_at hl 0 rfl) ?_
      refine z_get hx hb ht hown hK hP ziX10 rfl 0 (by decide) 10 (by decide) hw_2_103 rfl (v := .ref (q 47)) rfl dX10_image_13 ?_
      refine lv_iload_n hx hb dX10_image_16 rfl (lv_at hl 1 rfl) ?_
      obtain ⟨n_3, hn_3, rfl⟩ := z_ex (x := x) (N := 3) (by omega) (by omega)
      rcases (show n_3 = 0 ∨ n_3 = 1 ∨ n_3 = 2 by omega) with rfl | rfl | rfl
      · refine va_aldq hx hb hK hP 47 36 (zw_at (by decide) rfl) rfl (vp_in_nI (by decide) (by decide)) dX10_image_17 ?_
        refine W.eq (g2 := F0 m 18 ls (.ref (q 48) :: [])) rfl ?_
        refine lv_astore_n (lv' := [(2, .ref (q 48)), (0, .ref (q 0)), (1, .int (nI 0))]) hx hb dX10_image_18 rfl hl (by decide) rfl (fun ls hl => ?_)
        refine lv_aload_n hx hb dX10_image_19 rfl (lv_at hl 0 rfl) ?_
        refine lv_iconst (v := nI 1) hx hb dX10_image_20 (by decide +kernel) ?_
        refine z_putI hx hb ht hown hK hP hD hS ziX5 tyX5 tyX5_ok nmX5 rfl 48 (by decide) 0 (by decide) hw_2_60 rfl (v := nI 1) (by decide +kernel) (by decide +kernel) rfl (Nat.le_of_ble_eq_true rfl) rfl dX10_image_21 (fun H locs hP hD hS => ?_)
        refine lv_aload_n hx hb dX10_image_24 rfl (lv_at hl 0 rfl) ?_
        refine z_get hx hb ht hown hK hP ziX5 rfl 48 (by decide) 1 (by decide) hw_2_62 rfl (v := .ref (q 49)) rfl dX10_image_25 ?_
        refine lv_aload_n hx hb dX10_image_28 rfl (lv_at hl 1 rfl) ?_
        refine z_get hx hb ht hown hK hP ziX10 rfl 0 (by decide) 1 (by decide) hw_2_94 rfl (v := .ref (q 3)) rfl dX10_image_29 ?_
        refine z_callVv (k := 49) (As := [.ref (q 3)]) (rest := []) hx hb hml hown ht (kX2_copyFrom_49_3 l D q cA (zp zXI0 48 0 (nI 1)) _ _ ) hw_3_38 hmX2_copyFrom ⟨rfl, rfl⟩ (na := 1) rfl (by decide +kernel) (by decide) (by decide) rfl rfl hK hP hD hS hA hl.1 rfl (Nat.le_of_ble_eq_true rfl) ⟨Nat.zero_le _, Nat.zero_le _⟩ dX10_image_32 (fun I_4 R_4 J_4 H locs hp_4 hP hD hS _ _ => ?_)
        refine lv_aload_n hx hb dX10_image_35 rfl (lv_at hl 0 rfl) ?_
        refine z_get hx hb ht hown hK hP ziX5 rfl 48 (by decide) 2 (by decide) hw_2_64 rfl (v := .ref (q 54)) rfl dX10_image_36 ?_
        refine lv_aload_n hx hb dX10_image_39 rfl (lv_at hl 1 rfl) ?_
        refine z_get hx hb ht hown hK hP ziX10 rfl 0 (by decide) 3 (by decide) hw_2_96 rfl (v := .ref (q 13)) rfl dX10_image_40 ?_
        refine z_callVv (k := 54) (As := [.ref (q 13)]) (rest := []) hx hb hml hown ht (kX0_copyFrom_54_13 l D q cA I_4 _ _ ) hw_5_145 hmX0_copyFrom ⟨rfl, rfl⟩ (na := 1) rfl (by decide +kernel) (by decide) (by decide) rfl rfl hK hP hD hS hA hl.1 rfl (Nat.le_of_ble_eq_true rfl) ⟨Nat.zero_le _, Nat.zero_le _⟩ dX10_image_43 (fun I_5 R_5 J_5 H locs hp_5 hP hD hS _ _ => ?_)
        refine lv_iconst (v := nI 0) hx hb dX10_image_46 (by decide +kernel) ?_
        exact z_iret (v := nI 0) hx hb hr hlocks hP hD hS dX10_image_47 (Or.inl ⟨by omega, by omega, rfl⟩)
      · refine va_aldq hx hb hK hP 47 36 (zw_at (by decide) rfl) rfl (vp_in_nI (by decide) (by decide)) dX10_image_17 ?_
        refine W.eq (g2 := F0 m 18 ls (.ref (q 56) :: [])) rfl ?_
        refine lv_astore_n (lv' := [(2, .ref (q 56)), (0, .ref (q 0)), (1, .int (nI 1))]) hx hb dX10_image_18 rfl hl (by decide) rfl (fun ls hl => ?_)
        refine lv_aload_n hx hb dX10_image_19 rfl (lv_at hl 0 rfl) ?_
        refine lv_iconst (v := nI 1) hx hb dX10_image_20 (by decide +kernel) ?_
        refine z_putI hx hb ht hown hK hP hD hS ziX5 tyX5 tyX5_ok nmX5 rfl 56 (by decide) 0 (by decide) hw_2_60 rfl (v := nI 1) (by decide +kernel) (by decide +kernel) rfl (Nat.le_of_ble_eq_true rfl) rfl dX10_image_21 (fun H locs hP hD hS => ?_)
        refine lv_aload_n hx hb dX10_image_24 rfl (lv_at hl 0 rfl) ?_
        refine z_get hx hb ht hown hK hP ziX5 rfl 56 (by decide) 1 (by decide) hw_2_62 rfl (v := .ref (q 57)) rfl dX10_image_25 ?_
        refine lv_aload_n hx hb dX10_image_28 rfl (lv_at hl 1 rfl) ?_
        refine z_get hx hb ht hown hK hP ziX10 rfl 0 (by decide) 1 (by decide) hw_2_94 rfl (v := .ref (q 3)) rfl dX10_image_29 ?_
        refine z_callVv (k := 57) (As := [.ref (q 3)]) (rest := []) hx hb hml hown ht (kX2_copyFrom_57_3 l D q cA (zp zXI0 56 0 (nI 1)) _ _ ) hw_3_38 hmX2_copyFrom ⟨rfl, rfl⟩ (na := 1) rfl (by decide +kernel) (by decide) (by decide) rfl rfl hK hP hD hS hA hl.1 rfl (Nat.le_of_ble_eq_true rfl) ⟨Nat.zero_le _, Nat.zero_le _⟩ dX10_image_32 (fun I_6 R_6 J_6 H locs hp_6 hP hD hS _ _ => ?_)
        refine lv_aload_n hx hb dX10_image_35 rfl (lv_at hl 0 rfl) ?_
        refine z_get hx hb ht hown hK hP ziX5 rfl 56 (by decide) 2 (by decide) hw_2_64 rfl (v := .ref (q 62)) rfl dX10_image_36 ?_
        refine lv_aload_n hx hb dX10_image_39 rfl (lv_at hl 1 rfl) ?_
        refine z_get hx hb ht hown hK hP ziX10 rfl 0 (by decide) 3 (by decide) hw_2_96 rfl (v := .ref (q 13)) rfl dX10_image_40 ?_
        refine z_callVv (k := 62) (As := [.ref (q 13)]) (rest := []) hx hb hml hown ht (kX0_copyFrom_62_13 l D q cA I_6 _ _ ) hw_5_145 hmX0_copyFrom ⟨rfl, rfl⟩ (na := 1) rfl (by decide +kernel) (by decide) (by decide) rfl rfl hK hP hD hS hA hl.1 rfl (Nat.le_of_ble_eq_true rfl) ⟨Nat.zero_le _, Nat.zero_le _⟩ dX10_image_43 (fun I_7 R_7 J_7 H locs hp_7 hP hD hS _ _ => ?_)
        refine lv_iconst (v := nI 0) hx hb dX10_image_46 (by decide +kernel) ?_
        exact z_iret (v := nI 0) hx hb hr hlocks hP hD hS dX10_image_47 (Or.inl ⟨by omega, by omega, rfl⟩)
      · refine va_aldq hx hb hK hP 47 36 (zw_at (by decide) rfl) rfl (vp_in_nI (by decide) (by decide)) dX10_image_17 ?_
        refine W.eq (g2 := F0 m 18 ls (.ref (q 64) :: [])) rfl ?_
        refine lv_astore_n (lv' := [(2, .ref (q 64)), (0, .ref (q 0)), (1, .int (nI 2))]) hx hb dX10_image_18 rfl hl (by decide) rfl (fun ls hl => ?_)
        refine lv_aload_n hx hb dX10_image_19 rfl (lv_at hl 0 rfl) ?_
        refine lv_iconst (v := nI 1) hx hb dX10_image_20 (by decide +kernel) ?_
        refine z_putI hx hb ht hown hK hP hD hS ziX5 tyX5 tyX5_ok nmX5 rfl 64 (by decide) 0 (by decide) hw_2_60 rfl (v := nI 1) (by decide +kernel) (by decide +kernel) rfl (Nat.le_of_ble_eq_true rfl) rfl dX10_image_21 (fun H locs hP hD hS => ?_)
        refine lv_aload_n hx hb dX10_image_24 rfl (lv_at hl 0 rfl) ?_
        refine z_get hx hb ht hown hK hP ziX5 rfl 64 (by decide) 1 (by decide) hw_2_62 rfl (v := .ref (q 65)) rfl dX10_image_25 ?_
        refine lv_aload_n hx hb dX10_image_28 rfl (lv_at hl 1 rfl) ?_
        refine z_get hx hb ht hown hK hP ziX10 rfl 0 (by decide) 1 (by decide) hw_2_94 rfl (v := .ref (q 3)) rfl dX10_image_29 ?_
        refine z_callVv (k := 65) (As := [.ref (q 3)]) (rest := []) hx hb hml hown ht (kX2_copyFrom_65_3 l D q cA (zp zXI0 64 0 (nI 1)) _ _ ) hw_3_38 hmX2_copyFrom ⟨rfl, rfl⟩ (na := 1) rfl (by decide +kernel) (by decide) (by decide) rfl rfl hK hP hD hS hA hl.1 rfl (Nat.le_of_ble_eq_true rfl) ⟨Nat.zero_le _, Nat.zero_le _⟩ dX10_image_32 (fun I_8 R_8 J_8 H locs hp_8 hP hD hS _ _ => ?_)
        refine lv_aload_n hx hb dX10_image_35 rfl (lv_at hl 0 rfl) ?_
        refine z_get hx hb ht hown hK hP ziX5 rfl 64 (by decide) 2 (by decide) hw_2_64 rfl (v := .ref (q 70)) rfl dX10_image_36 ?_
        refine lv_aload_n hx hb dX10_image_39 rfl (lv_at hl 1 rfl) ?_
        refine z_get hx hb ht hown hK hP ziX10 rfl 0 (by decide) 3 (by decide) hw_2_96 rfl (v := .ref (q 13)) rfl dX10_image_40 ?_
        refine z_callVv (k := 70) (As := [.ref (q 13)]) (rest := []) hx hb hml hown ht (kX0_copyFrom_70_13 l D q cA I_8 _ _ ) hw_5_145 hmX0_copyFrom ⟨rfl, rfl⟩ (na := 1) rfl (by decide +kernel) (by decide) (by decide) rfl rfl hK hP hD hS hA hl.1 rfl (Nat.le_of_ble_eq_true rfl) ⟨Nat.zero_le _, Nat.zero_le _⟩ dX10_image_43 (fun I_9 R_9 J_9 H locs hp_9 hP hD hS _ _ => ?_)
        refine lv_iconst (v := nI 0) hx hb dX10_image_46 (by decide +kernel) ?_
        exact z_iret (v := nI 0) hx hb hr hlocks hP hD hS dX10_image_47 (Or.inl ⟨by omega, by omega, rfl⟩)
    · have kc_2_1 : (nI 3 : Int32).toInt = 3 := by decide +kernel
      have t_c_2 := z_ltF c_2
      refine lv_bipush (v := (-2)) hx hb dX10_image_9 (by decide +kernel) ?_
      exact z_iret (v := (-2)) hx hb hr hlocks hP hD hS dX10_image_11 (Or.inr ⟨by omega, rfl⟩)
set_option maxHeartbeats 4000000 in
set_option maxRecDepth 100000 in
theorem kX2_clear (l : Launch) (D : va_G) (q : Nat → Nat) (cA : Nat → ClassId) (I R : Nat → Nat → Int32) (J : Nat → Nat → Int64)   : zMv l D vwCl (zXtys cA) 81 q (zXd q cA) yX2_clear cX2_clear 1 none ({ frames := 1, cells := 0, slots := 0, locals := 23 } : Room) [.ref (q 8)] (I, R, J) (fun u => u.1 8 0 = nI 0 ∧ u.1 1 = I 1) := by
  intro sz
  refine z_body (by decide +kernel) (Nat.le_of_ble_eq_true rfl) (fun p e s m below meth c ls hx hb hml hr ht hown hlocks hsz hK hP hD hS hl => ?_)
  have hA : ∀ a, s.heap.size ≤ a → zA 81 q sz a := fun a h => Or.inr (hsz ▸ h)
  have hl : lv_has ls 1 [(0, .ref (q 8))] := hl
  refine lv_aload_n hx hb dX2_clear_0 rfl (lv_at hl 0 rfl) ?_
  refine lv_iconst (v := nI 0) hx hb dX2_clear_1 (by decide +kernel) ?_
  refine z_putI hx hb ht hown hK hP hD hS ziX2 tyX2 tyX2_ok nmX2 rfl 8 (by decide) 0 (by decide) hw_1_67 rfl (v := nI 0) rfl rfl rfl (Nat.le_of_ble_eq_true rfl) rfl dX2_clear_2 (fun H locs hP hD hS => ?_)
  refine lv_aload_n hx hb dX2_clear_5 rfl (lv_at hl 0 rfl) ?_
  refine lv_iconst (v := nI 0) hx hb dX2_clear_6 (by decide +kernel) ?_
  refine z_putI hx hb ht hown hK hP hD hS ziX2 tyX2 tyX2_ok nmX2 rfl 8 (by decide) 1 (by decide) hw_1_70 rfl (v := nI 0) rfl rfl rfl (Nat.le_of_ble_eq_true rfl) rfl dX2_clear_7 (fun H locs hP hD hS => ?_)
  refine lv_aload_n hx hb dX2_clear_10 rfl (lv_at hl 0 rfl) ?_
  refine lv_iconst (v := nI 0) hx hb dX2_clear_11 (by decide +kernel) ?_
  refine z_putI hx hb ht hown hK hP hD hS ziX2 tyX2 tyX2_ok nmX2 rfl 8 (by decide) 2 (by decide) hw_1_74 rfl (v := nI 0) rfl rfl rfl (Nat.le_of_ble_eq_true rfl) rfl dX2_clear_12 (fun H locs hP hD hS => ?_)
  refine lv_aload_n hx hb dX2_clear_15 rfl (lv_at hl 0 rfl) ?_
  refine lv_iconst (v := nI 0) hx hb dX2_clear_16 (by decide +kernel) ?_
  refine z_putI hx hb ht hown hK hP hD hS ziX2 tyX2 tyX2_ok nmX2 rfl 8 (by decide) 3 (by decide) hw_1_78 rfl (v := nI 0) rfl rfl rfl (Nat.le_of_ble_eq_true rfl) rfl dX2_clear_17 (fun H locs hP hD hS => ?_)
  refine lv_aload_n hx hb dX2_clear_20 rfl (lv_at hl 0 rfl) ?_
  refine lv_iconst (v := nI 0) hx hb dX2_clear_21 (by decide +kernel) ?_
  refine z_putI hx hb ht hown hK hP hD hS ziX2 tyX2 tyX2_ok nmX2 rfl 8 (by decide) 4 (by decide) hw_1_81 rfl (v := nI 0) rfl rfl rfl (Nat.le_of_ble_eq_true rfl) rfl dX2_clear_22 (fun H locs hP hD hS => ?_)
  refine lv_aload_n hx hb dX2_clear_25 rfl (lv_at hl 0 rfl) ?_
  refine lv_iconst (v := nI 0) hx hb dX2_clear_26 (by decide +kernel) ?_
  refine z_putI hx hb ht hown hK hP hD hS ziX2 tyX2 tyX2_ok nmX2 rfl 8 (by decide) 5 (by decide) hw_1_87 rfl (v := nI 0) rfl rfl rfl (Nat.le_of_ble_eq_true rfl) rfl dX2_clear_27 (fun H locs hP hD hS => ?_)
  refine lv_aload_n hx hb dX2_clear_30 rfl (lv_at hl 0 rfl) ?_
  refine lv_iconst (v := nI 0) hx hb dX2_clear_31 (by decide +kernel) ?_
  refine z_putI hx hb ht hown hK hP hD hS ziX2 tyX2 tyX2_ok nmX2 rfl 8 (by decide) 6 (by decide) hw_1_95 rfl (v := nI 0) rfl rfl rfl (Nat.le_of_ble_eq_true rfl) rfl dX2_clear_32 (fun H locs hP hD hS => ?_)
  refine lv_aload_n hx hb dX2_clear_35 rfl (lv_at hl 0 rfl) ?_
  refine z_get hx hb ht hown hK hP ziX2 rfl 8 (by decide) 10 (by decide) hw_1_109 rfl (v := .ref (q 12)) rfl dX2_clear_36 ?_
  refine lv_iconst (v := nI 0) hx hb dX2_clear_39 (by decide +kernel) ?_
  refine z_callSv (As := [.ref (q 12), .int (nI 0)]) (rest := []) hx hb hml hown ht (kJ7_fill_53178_12 l D q cA _ _ _ (nI 0)) hw_2_158 hmJ7_fill_53178 ⟨rfl, rfl⟩ (na := 2) rfl (by decide +kernel) (by decide) hK hP hD hS hA hl.1 rfl (Nat.le_of_ble_eq_true rfl) ⟨Nat.zero_le _, Nat.zero_le _⟩ dX2_clear_40 (fun I_1 R_1 J_1 H locs hp_1 hP hD hS _ _ => ?_)
  obtain ⟨g_1, hu_1⟩ := hp_1
  cases hu_1
  exact z_vret hx hb hr hlocks hP hD hS dX2_clear_43 ⟨rfl, rfl⟩
set_option maxHeartbeats 4000000 in
set_option maxRecDepth 100000 in
theorem kX7_step (l : Launch) (D : va_G) (q : Nat → Nat) (cA : Nat → ClassId) (I R : Nat → Nat → Int32) (J : Nat → Nat → Int64)  (hl1 : I 1 1 = nI 0) (hb6 : I 1 6 = nI 0) : zMv l D vwCl (zXtys cA) 81 q (zXd q cA) yX7_step cX7_step 1 none ({ frames := 0, cells := 0, slots := 0, locals := 0 } : Room) [.ref (q 1)] (I, R, J) (fun u => u.1 1 4 = nI 0 ∧ u.1 1 2 = I 1 2 ∧ u.1 8 = I 8) := by
  intro sz
  refine z_body (by decide +kernel) (Nat.le_of_ble_eq_true rfl) (fun p e s m below meth c ls hx hb hml hr ht hown hlocks hsz hK hP hD hS hl => ?_)
  have hA : ∀ a, s.heap.size ≤ a → zA 81 q sz a := fun a h => Or.inr (hsz ▸ h)
  have hl : lv_has ls 1 [(0, .ref (q 1))] := hl
  refine lv_aload_n hx hb dX7_step_0 rfl (lv_at hl 0 rfl) ?_
  refine z_get hx hb ht hown hK hP ziX7 rfl 1 (by decide) 6 (by decide) hw_1_44 rfl (v := .int (I 1 6)) rfl dX7_step_1 ?_
  refine z_eqi (y := nI 0) hb6 ?_
  refine lv_aload_n hx hb dX7_step_4 rfl (lv_at hl 0 rfl) ?_
  refine z_get hx hb ht hown hK hP ziX7 rfl 1 (by decide) 1 (by decide) hw_1_36 rfl (v := .int (I 1 1)) rfl dX7_step_5 ?_
  refine z_eqi (y := nI 0) hl1 ?_
  refine lv_icmp_ge (tgt := 39) hx hb dX7_step_8 (by decide) (fun _ => ?_) (fun c_0 => absurd (by decide +kernel) c_0)
  refine lv_aload_n hx hb dX7_step_39 rfl (lv_at hl 0 rfl) ?_
  refine lv_aload_n hx hb dX7_step_40 rfl (lv_at hl 0 rfl) ?_
  refine z_get hx hb ht hown hK hP ziX7 rfl 1 (by decide) 6 (by decide) hw_1_44 rfl (v := .int (I 1 6)) rfl dX7_step_41 ?_
  refine z_eqi (y := nI 0) hb6 ?_
  refine z_putI hx hb ht hown hK hP hD hS ziX7 tyX7 tyX7_ok nmX7 rfl 1 (by decide) 5 (by decide) hw_1_43 rfl (v := nI 0) rfl rfl rfl (Nat.le_of_ble_eq_true rfl) rfl dX7_step_44 (fun H locs hP hD hS => ?_)
  refine lv_aload_n hx hb dX7_step_47 rfl (lv_at hl 0 rfl) ?_
  refine z_get hx hb ht hown hK hP ziX7 rfl 1 (by decide) 6 (by decide) hw_1_44 rfl (v := .int (I 1 6)) rfl dX7_step_48 ?_
  refine z_eqi (y := nI 0) hb6 ?_
  refine lv_aload_n hx hb dX7_step_51 rfl (lv_at hl 0 rfl) ?_
  refine z_get hx hb ht hown hK hP ziX7 rfl 1 (by decide) 1 (by decide) hw_1_36 rfl (v := .int (I 1 1)) rfl dX7_step_52 ?_
  refine z_eqi (y := nI 0) hl1 ?_
  refine lv_icmp_lt (tgt := 66) hx hb dX7_step_55 (by decide) (fun c_0 => absurd c_0 (by decide +kernel)) (fun _ => ?_)
  refine lv_aload_n hx hb dX7_step_58 rfl (lv_at hl 0 rfl) ?_
  refine lv_iconst (v := nI 0) hx hb dX7_step_59 (by decide +kernel) ?_
  refine z_putI hx hb ht hown hK hP hD hS ziX7 tyX7 tyX7_ok nmX7 rfl 1 (by decide) 4 (by decide) hw_1_42 rfl (v := nI 0) rfl rfl rfl (Nat.le_of_ble_eq_true rfl) rfl dX7_step_60 (fun H locs hP hD hS => ?_)
  refine lv_goto (tgt := 217) hx hb dX7_step_63 (by decide) ?_
  exact z_vret hx hb hr hlocks hP hD hS dX7_step_217 ⟨rfl, rfl, rfl⟩
set_option maxHeartbeats 4000000 in
set_option maxRecDepth 100000 in
theorem kX7_read (l : Launch) (D : va_G) (q : Nat → Nat) (cA : Nat → ClassId)    : zMi l D vwCl (zXtys cA) 81 q (zXd q cA) yX7_read cX7_read 3 (some .boolean) ({ frames := 2, cells := 0, slots := 0, locals := 43 } : Room) [.ref (q 1), .ref (q 8)] (zXI0, zXR0, zXJ0) (fun r u => r = nI 1 ∧ u.1 8 0 = nI 0) := by
  intro sz
  refine z_body (by decide +kernel) (Nat.le_of_ble_eq_true rfl) (fun p e s m below meth c ls hx hb hml hr ht hown hlocks hsz hK hP hD hS hl => ?_)
  have hA : ∀ a, s.heap.size ≤ a → zA 81 q sz a := fun a h => Or.inr (hsz ▸ h)
  have hl : lv_has ls 3 [(0, .ref (q 1)), (1, .ref (q 8))] := hl
  refine lv_aload_n hx hb dX7_read_0 rfl (lv_at hl 1 rfl) ?_
  refine z_callVv (k := 8) (As := []) (rest := []) hx hb hml hown ht (kX2_clear l D q cA _ _ _) hw_2_154 hmX2_clear ⟨rfl, rfl⟩ (na := 0) rfl (by decide +kernel) (by decide) (by decide) rfl rfl hK hP hD hS hA hl.1 rfl (Nat.le_of_ble_eq_true rfl) ⟨Nat.zero_le _, Nat.zero_le _⟩ dX7_read_1 (fun I_1 R_1 J_1 H locs hp_1 hP hD hS _ _ => ?_)
  obtain ⟨ha_1, hb_1⟩ := hp_1
  dsimp only at ha_1 hb_1
  refine lv_aload_n hx hb dX7_read_4 rfl (lv_at hl 0 rfl) ?_
  refine lv_iconst (v := nI 0) hx hb dX7_read_5 (by decide +kernel) ?_
  refine z_putI hx hb ht hown hK hP hD hS ziX7 tyX7 tyX7_ok nmX7 rfl 1 (by decide) 2 (by decide) hw_1_38 rfl (v := nI 0) rfl rfl rfl (Nat.le_of_ble_eq_true rfl) rfl dX7_read_6 (fun H locs hP hD hS => ?_)
  refine lv_aload_n hx hb dX7_read_9 rfl (lv_at hl 0 rfl) ?_
  refine lv_iconst (v := (-1)) hx hb dX7_read_10 (by decide +kernel) ?_
  refine z_putI hx hb ht hown hK hP hD hS ziX7 tyX7 tyX7_ok nmX7 rfl 1 (by decide) 3 (by decide) hw_1_40 rfl (v := (-1)) rfl rfl rfl (Nat.le_of_ble_eq_true rfl) rfl dX7_read_11 (fun H locs hP hD hS => ?_)
  refine lv_aload_n hx hb dX7_read_14 rfl (lv_at hl 0 rfl) ?_
  refine lv_iconst (v := nI 0) hx hb dX7_read_15 (by decide +kernel) ?_
  refine z_putI hx hb ht hown hK hP hD hS ziX7 tyX7 tyX7_ok nmX7 rfl 1 (by decide) 6 (by decide) hw_1_44 rfl (v := nI 0) rfl rfl rfl (Nat.le_of_ble_eq_true rfl) rfl dX7_read_16 (fun H locs hP hD hS => ?_)
  refine lv_aload_n hx hb dX7_read_19 rfl (lv_at hl 0 rfl) ?_
  refine z_callVv (k := 1) (As := []) (rest := []) hx hb hml hown ht (kX7_step l D q cA (zp (zp (zp I_1 1 2 (nI 0)) 1 3 ((-1))) 1 6 (nI 0)) _ _ (congrFun hb_1 1) rfl) hw_2_161 hmX7_step ⟨rfl, rfl⟩ (na := 0) rfl (by decide +kernel) (by decide) (by decide) rfl rfl hK hP hD hS hA hl.1 rfl (Nat.le_of_ble_eq_true rfl) ⟨Nat.zero_le _, Nat.zero_le _⟩ dX7_read_20 (fun I_2 R_2 J_2 H locs hp_2 hP hD hS _ _ => ?_)
  obtain ⟨ha_2, hb_2, hc_2⟩ := hp_2
  dsimp only at ha_2 hb_2 hc_2
  refine lv_iconst (v := nI 0) hx hb dX7_read_23 (by decide +kernel) ?_
  refine lv_istore_n (lv' := [(2, .int (nI 0)), (0, .ref (q 1)), (1, .ref (q 8))]) hx hb dX7_read_24 rfl hl (by decide) rfl (fun ls hl => ?_)
  refine lv_iload_n hx hb dX7_read_25 rfl (lv_at hl 0 rfl) ?_
  refine lv_sipush (v := nI 800) hx hb dX7_read_26 (by decide +kernel) ?_
  refine lv_icmp_ge (tgt := 57) hx hb dX7_read_29 (by decide) (fun c_0 => absurd c_0 (by decide +kernel)) (fun _ => ?_)
  refine lv_aload_n hx hb dX7_read_32 rfl (lv_at hl 1 rfl) ?_
  refine z_get hx hb ht hown hK hP ziX7 rfl 1 (by decide) 4 (by decide) hw_1_42 rfl (v := .int (I_2 1 4)) rfl dX7_read_33 ?_
  refine z_eqi (y := nI 0) ha_2 ?_
  refine lv_if_eq (tgt := 57) hx hb dX7_read_36 (by decide) (fun _ => ?_) (fun c_0 => absurd (by decide +kernel) c_0)
  refine lv_aload_n hx hb dX7_read_57 rfl (lv_at hl 1 rfl) ?_
  refine z_get hx hb ht hown hK hP ziX7 rfl 1 (by decide) 2 (by decide) hw_1_38 rfl (v := .int (I_2 1 2)) rfl dX7_read_58 ?_
  refine z_eqi (y := nI 0) hb_2 ?_
  refine lv_if_ne (tgt := 68) hx hb dX7_read_61 (by decide) (fun c_0 => absurd (by decide +kernel) c_0) (fun _ => ?_)
  refine lv_iconst (v := nI 1) hx hb dX7_read_64 (by decide +kernel) ?_
  refine lv_goto (tgt := 69) hx hb dX7_read_65 (by decide) ?_
  exact z_zret (v := nI 1) hx hb hr hlocks hP hD hS (by decide +kernel) dX7_read_69 ⟨rfl, ((congrFun hc_2 0).trans ha_1)⟩
set_option maxHeartbeats 4000000 in
set_option maxRecDepth 100000 in
theorem kX9_begin (l : Launch) (D : va_G) (q : Nat → Nat) (cA : Nat → ClassId) (I R : Nat → Nat → Int32) (J : Nat → Nat → Int64)   : zMv l D vwCl (zXtys cA) 81 q (zXd q cA) yX9_begin cX9_begin 2 none ({ frames := 1, cells := 0, slots := 0, locals := 64 } : Room) [.ref (q 15)] (I, R, J) (fun u => u.1 3 0 = I 3 0) := by
  intro sz
  refine z_body (by decide +kernel) (Nat.le_of_ble_eq_true rfl) (fun p e s m below meth c ls hx hb hml hr ht hown hlocks hsz hK hP hD hS hl => ?_)
  have hA : ∀ a, s.heap.size ≤ a → zA 81 q sz a := fun a h => Or.inr (hsz ▸ h)
  have hl : lv_has ls 2 [(0, .ref (q 15))] := hl
  refine lv_aload_n hx hb dX9_begin_0 rfl (lv_at hl 0 rfl) ?_
  refine lv_iconst (v := nI 0) hx hb dX9_begin_1 (by decide +kernel) ?_
  refine z_putI hx hb ht hown hK hP hD hS ziX9 tyX9 tyX9_ok nmX9 rfl 15 (by decide) 1 (by decide) hw_1_157 rfl (v := nI 0) rfl rfl rfl (Nat.le_of_ble_eq_true rfl) rfl dX9_begin_2 (fun H locs hP hD hS => ?_)
  refine lv_aload_n hx hb dX9_begin_5 rfl (lv_at hl 0 rfl) ?_
  refine lv_iconst (v := nI 0) hx hb dX9_begin_6 (by decide +kernel) ?_
  refine z_putI hx hb ht hown hK hP hD hS ziX9 tyX9 tyX9_ok nmX9 rfl 15 (by decide) 2 (by decide) hw_1_159 rfl (v := nI 0) rfl rfl rfl (Nat.le_of_ble_eq_true rfl) rfl dX9_begin_7 (fun H locs hP hD hS => ?_)
  refine lv_aload_n hx hb dX9_begin_10 rfl (lv_at hl 0 rfl) ?_
  refine lv_aload_n hx hb dX9_begin_11 rfl (lv_at hl 0 rfl) ?_
  refine z_get hx hb ht hown hK hP ziX9 rfl 15 (by decide) 0 (by decide) hw_1_154 rfl (v := .ref (q 3)) rfl dX9_begin_12 ?_
  refine z_get hx hb ht hown hK hP ziX2 rfl 3 (by decide) 6 (by decide) hw_1_94 rfl (v := .int ((zp (zp I 15 1 (nI 0)) 15 2 (nI 0)) 3 6)) rfl dX9_begin_15 ?_
  refine z_putI hx hb ht hown hK hP hD hS ziX9 tyX9 tyX9_ok nmX9 rfl 15 (by decide) 3 (by decide) hw_1_163 rfl (v := (zp (zp I 15 1 (nI 0)) 15 2 (nI 0)) 3 6) rfl rfl rfl (Nat.le_of_ble_eq_true rfl) rfl dX9_begin_18 (fun H locs hP hD hS => ?_)
  refine lv_aload_n hx hb dX9_begin_21 rfl (lv_at hl 0 rfl) ?_
  refine z_get hx hb ht hown hK hP ziX9 rfl 15 (by decide) 0 (by decide) hw_1_154 rfl (v := .ref (q 3)) rfl dX9_begin_22 ?_
  refine z_get hx hb ht hown hK hP ziX2 rfl 3 (by decide) 7 (by decide) hw_1_98 rfl (v := .ref (q 4)) rfl dX9_begin_25 ?_
  refine lv_iconst (v := nI 0) hx hb dX9_begin_28 (by decide +kernel) ?_
  refine lv_aload_n hx hb dX9_begin_29 rfl (lv_at hl 0 rfl) ?_
  refine z_get hx hb ht hown hK hP ziX9 rfl 15 (by decide) 4 (by decide) hw_1_164 rfl (v := .ref (q 16)) rfl dX9_begin_30 ?_
  refine lv_iconst (v := nI 0) hx hb dX9_begin_33 (by decide +kernel) ?_
  refine lv_iconst (v := nI 5) hx hb dX9_begin_34 (by decide +kernel) ?_
  refine z_copyi hx hb (hml.trans hl.1.symm) ht hown hw_3_49 ⟨hw_3_44, hw_3_43, hw_1_18⟩ hK hP hD hS 4 16 (by decide) (by decide) 1 10 rfl (fun _ => rfl) rfl rfl (by decide +kernel) (by decide +kernel) (by decide +kernel) (by decide +kernel) (by decide +kernel) (by decide) (by decide +kernel) dX9_begin_35 (fun g_1 H locs eg_1 hP hD hS => ?_)
  refine lv_aload_n hx hb dX9_begin_38 rfl (lv_at hl 0 rfl) ?_
  refine z_get hx hb ht hown hK hP ziX9 rfl 15 (by decide) 0 (by decide) hw_1_154 rfl (v := .ref (q 3)) rfl dX9_begin_39 ?_
  refine z_get hx hb ht hown hK hP ziX2 rfl 3 (by decide) 8 (by decide) hw_1_101 rfl (v := .ref (q 5)) rfl dX9_begin_42 ?_
  refine lv_iconst (v := nI 0) hx hb dX9_begin_45 (by decide +kernel) ?_
  refine lv_aload_n hx hb dX9_begin_46 rfl (lv_at hl 0 rfl) ?_
  refine z_get hx hb ht hown hK hP ziX9 rfl 15 (by decide) 5 (by decide) hw_1_166 rfl (v := .ref (q 17)) rfl dX9_begin_47 ?_
  refine lv_iconst (v := nI 0) hx hb dX9_begin_50 (by decide +kernel) ?_
  refine lv_bipush (v := nI 6) hx hb dX9_begin_51 (by decide +kernel) ?_
  refine z_copyi hx hb (hml.trans hl.1.symm) ht hown hw_3_49 ⟨hw_3_44, hw_3_43, hw_1_18⟩ hK hP hD hS 5 17 (by decide) (by decide) 2 11 rfl (fun _ => rfl) rfl rfl (by decide +kernel) (by decide +kernel) (by decide +kernel) (by decide +kernel) (by decide +kernel) (by decide) (by decide +kernel) dX9_begin_53 (fun g_2 H locs eg_2 hP hD hS => ?_)
  refine lv_aload_n hx hb dX9_begin_56 rfl (lv_at hl 0 rfl) ?_
  refine z_get hx hb ht hown hK hP ziX9 rfl 15 (by decide) 6 (by decide) hw_1_169 rfl (v := .ref (q 18)) rfl dX9_begin_57 ?_
  refine lv_iconst (v := nI 0) hx hb dX9_begin_60 (by decide +kernel) ?_
  refine z_callSv (As := [.ref (q 18), .int (nI 0)]) (rest := []) hx hb hml hown ht (kJ7_fill_53178_18 l D q cA _ _ _ (nI 0)) hw_3_50 hmJ7_fill_53178 ⟨rfl, rfl⟩ (na := 2) rfl (by decide +kernel) (by decide) hK hP hD hS hA hl.1 rfl (Nat.le_of_ble_eq_true rfl) ⟨Nat.zero_le _, Nat.zero_le _⟩ dX9_begin_61 (fun I_3 R_3 J_3 H locs hp_3 hP hD hS _ _ => ?_)
  obtain ⟨g_3, hu_3⟩ := hp_3
  cases hu_3
  refine lv_iconst (v := nI 0) hx hb dX9_begin_64 (by decide +kernel) ?_
  refine lv_istore_n (lv' := [(1, .int (nI 0)), (0, .ref (q 15))]) hx hb dX9_begin_65 rfl hl (by decide) rfl (fun ls hl => ?_)
  refine lv_iload_n hx hb dX9_begin_66 rfl (lv_at hl 0 rfl) ?_
  refine lv_bipush (v := nI 6) hx hb dX9_begin_67 (by decide +kernel) ?_
  refine lv_icmp_ge (tgt := 96) hx hb dX9_begin_69 (by decide) (fun c_0 => absurd c_0 (by decide +kernel)) (fun _ => ?_)
  refine lv_aload_n hx hb dX9_begin_72 rfl (lv_at hl 1 rfl) ?_
  refine z_get hx hb ht hown hK hP ziX9 rfl 15 (by decide) 12 (by decide) hw_1_187 rfl (v := .ref (q 24)) rfl dX9_begin_73 ?_
  refine lv_iload_n hx hb dX9_begin_76 rfl (lv_at hl 0 rfl) ?_
  refine lv_bipush (v := nI 49) hx hb dX9_begin_77 (by decide +kernel) ?_
  refine lv_imul hx hb dX9_begin_79 ?_
  refine z_eqi (y := nI 0) (by decide +kernel) ?_
  refine lv_aload_n hx hb dX9_begin_80 rfl (lv_at hl 1 rfl) ?_
  refine z_get hx hb ht hown hK hP ziX9 rfl 15 (by decide) 0 (by decide) hw_1_154 rfl (v := .ref (q 3)) rfl dX9_begin_81 ?_
  refine z_get hx hb ht hown hK hP ziX2 rfl 3 (by decide) 8 (by decide) hw_1_101 rfl (v := .ref (q 5)) rfl dX9_begin_84 ?_
  refine lv_iload_n hx hb dX9_begin_87 rfl (lv_at hl 0 rfl) ?_
  refine z_iald hx hb hK hP 5 (by decide) 2 rfl rfl (vp_in_nI (by omega) (by decide)) dX9_begin_88 ?_
  refine lv_topi (fun x_4 ex_4 => ?_)
  refine z_iast hx hb hK hP hD hS 24 (by decide) 18 (fun _ => rfl) rfl (vp_in_nI (by omega) (by decide)) dX9_begin_89 (fun H locs hP hD hS => ?_)
  refine lv_iinc (v := nI 1) (lv' := [(1, .int (nI 1)), (0, .ref (q 15))]) hx hb dX9_begin_90 hl (k := 0) rfl (by decide +kernel) (by decide) rfl (fun ls hl => ?_)
  refine lv_goto (tgt := 66) hx hb dX9_begin_93 (by decide) ?_
  refine lv_iload_n hx hb dX9_begin_66 rfl (lv_at hl 0 rfl) ?_
  refine lv_bipush (v := nI 6) hx hb dX9_begin_67 (by decide +kernel) ?_
  refine lv_icmp_ge (tgt := 96) hx hb dX9_begin_69 (by decide) (fun c_0 => absurd c_0 (by decide +kernel)) (fun _ => ?_)
  refine lv_aload_n hx hb dX9_begin_72 rfl (lv_at hl 1 rfl) ?_
  refine z_get hx hb ht hown hK hP ziX9 rfl 15 (by decide) 12 (by decide) hw_1_187 rfl (v := .ref (q 24)) rfl dX9_begin_73 ?_
  refine lv_iload_n hx hb dX9_begin_76 rfl (lv_at hl 0 rfl) ?_
  refine lv_bipush (v := nI 49) hx hb dX9_begin_77 (by decide +kernel) ?_
  refine lv_imul hx hb dX9_begin_79 ?_
  refine z_eqi (y := nI 49) (by decide +kernel) ?_
  refine lv_aload_n hx hb dX9_begin_80 rfl (lv_at hl 1 rfl) ?_
  refine z_get hx hb ht hown hK hP ziX9 rfl 15 (by decide) 0 (by decide) hw_1_154 rfl (v := .ref (q 3)) rfl dX9_begin_81 ?_
  refine z_get hx hb ht hown hK hP ziX2 rfl 3 (by decide) 8 (by decide) hw_1_101 rfl (v := .ref (q 5)) rfl dX9_begin_84 ?_
  refine lv_iload_n hx hb dX9_begin_87 rfl (lv_at hl 0 rfl) ?_
  refine z_iald hx hb hK hP 5 (by decide) 2 rfl rfl (vp_in_nI (by omega) (by decide)) dX9_begin_88 ?_
  refine lv_topi (fun x_5 ex_5 => ?_)
  refine z_iast hx hb hK hP hD hS 24 (by decide) 18 (fun _ => rfl) rfl (vp_in_nI (by omega) (by decide)) dX9_begin_89 (fun H locs hP hD hS => ?_)
  refine lv_iinc (v := nI 2) (lv' := [(1, .int (nI 2)), (0, .ref (q 15))]) hx hb dX9_begin_90 hl (k := 0) rfl (by decide +kernel) (by decide) rfl (fun ls hl => ?_)
  refine lv_goto (tgt := 66) hx hb dX9_begin_93 (by decide) ?_
  refine lv_iload_n hx hb dX9_begin_66 rfl (lv_at hl 0 rfl) ?_
  refine lv_bipush (v := nI 6) hx hb dX9_begin_67 (by decide +kernel) ?_
  refine lv_icmp_ge (tgt := 96) hx hb dX9_begin_69 (by decide) (fun c_0 => absurd c_0 (by decide +kernel)) (fun _ => ?_)
  refine lv_aload_n hx hb dX9_begin_72 rfl (lv_at hl 1 rfl) ?_
  refine z_get hx hb ht hown hK hP ziX9 rfl 15 (by decide) 12 (by decide) hw_1_187 rfl (v := .ref (q 24)) rfl dX9_begin_73 ?_
  refine lv_iload_n hx hb dX9_begin_76 rfl (lv_at hl 0 rfl) ?_
  refine lv_bipush (v := nI 49) hx hb dX9_begin_77 (by decide +kernel) ?_
  refine lv_imul hx hb dX9_begin_79 ?_
  refine z_eqi (y := nI 98) (by decide +kernel) ?_
  refine lv_aload_n hx hb dX9_begin_80 rfl (lv_at hl 1 rfl) ?_
  refine z_get hx hb ht hown hK hP ziX9 rfl 15 (by decide) 0 (by decide) hw_1_154 rfl (v := .ref (q 3)) rfl dX9_begin_81 ?_
  refine z_get hx hb ht hown hK hP ziX2 rfl 3 (by decide) 8 (by decide) hw_1_101 rfl (v := .ref (q 5)) rfl dX9_begin_84 ?_
  refine lv_iload_n hx hb dX9_begin_87 rfl (lv_at hl 0 rfl) ?_
  refine z_iald hx hb hK hP 5 (by decide) 2 rfl rfl (vp_in_nI (by omega) (by decide)) dX9_begin_88 ?_
  refine lv_topi (fun x_6 ex_6 => ?_)
  refine z_iast hx hb hK hP hD hS 24 (by decide) 18 (fun _ => rfl) rfl (vp_in_nI (by omega) (by decide)) dX9_begin_89 (fun H locs hP hD hS => ?_)
  refine lv_iinc (v := nI 3) (lv' := [(1, .int (nI 3)), (0, .ref (q 15))]) hx hb dX9_begin_90 hl (k := 0) rfl (by decide +kernel) (by decide) rfl (fun ls hl => ?_)
  refine lv_goto (tgt := 66) hx hb dX9_begin_93 (by decide) ?_
  refine lv_iload_n hx hb dX9_begin_66 rfl (lv_at hl 0 rfl) ?_
  refine lv_bipush (v := nI 6) hx hb dX9_begin_67 (by decide +kernel) ?_
  refine lv_icmp_ge (tgt := 96) hx hb dX9_begin_69 (by decide) (fun c_0 => absurd c_0 (by decide +kernel)) (fun _ => ?_)
  refine lv_aload_n hx hb dX9_begin_72 rfl (lv_at hl 1 rfl) ?_
  refine z_get hx hb ht hown hK hP ziX9 rfl 15 (by decide) 12 (by decide) hw_1_187 rfl (v := .ref (q 24)) rfl dX9_begin_73 ?_
  refine lv_iload_n hx hb dX9_begin_76 rfl (lv_at hl 0 rfl) ?_
  refine lv_bipush (v := nI 49) hx hb dX9_begin_77 (by decide +kernel) ?_
  refine lv_imul hx hb dX9_begin_79 ?_
  refine z_eqi (y := nI 147) (by decide +kernel) ?_
  refine lv_aload_n hx hb dX9_begin_80 rfl (lv_at hl 1 rfl) ?_
  refine z_get hx hb ht hown hK hP ziX9 rfl 15 (by decide) 0 (by decide) hw_1_154 rfl (v := .ref (q 3)) rfl dX9_begin_81 ?_
  refine z_get hx hb ht hown hK hP ziX2 rfl 3 (by decide) 8 (by decide) hw_1_101 rfl (v := .ref (q 5)) rfl dX9_begin_84 ?_
  refine lv_iload_n hx hb dX9_begin_87 rfl (lv_at hl 0 rfl) ?_
  refine z_iald hx hb hK hP 5 (by decide) 2 rfl rfl (vp_in_nI (by omega) (by decide)) dX9_begin_88 ?_
  refine lv_topi (fun x_7 ex_7 => ?_)
  refine z_iast hx hb hK hP hD hS 24 (by decide) 18 (fun _ => rfl) rfl (vp_in_nI (by omega) (by decide)) dX9_begin_89 (fun H locs hP hD hS => ?_)
  refine lv_iinc (v := nI 4) (lv' := [(1, .int (nI 4)), (0, .ref (q 15))]) hx hb dX9_begin_90 hl (k := 0) rfl (by decide +kernel) (by decide) rfl (fun ls hl => ?_)
  refine lv_goto (tgt := 66) hx hb dX9_begin_93 (by decide) ?_
  refine lv_iload_n hx hb dX9_begin_66 rfl (lv_at hl 0 rfl) ?_
  refine lv_bipush (v := nI 6) hx hb dX9_begin_67 (by decide +kernel) ?_
  refine lv_icmp_ge (tgt := 96) hx hb dX9_begin_69 (by decide) (fun c_0 => absurd c_0 (by decide +kernel)) (fun _ => ?_)
  refine lv_aload_n hx hb dX9_begin_72 rfl (lv_at hl 1 rfl) ?_
  refine z_get hx hb ht hown hK hP ziX9 rfl 15 (by decide) 12 (by decide) hw_1_187 rfl (v := .ref (q 24)) rfl dX9_begin_73 ?_
  refine lv_iload_n hx hb dX9_begin_76 rfl (lv_at hl 0 rfl) ?_
  refine lv_bipush (v := nI 49) hx hb dX9_begin_77 (by decide +kernel) ?_
  refine lv_imul hx hb dX9_begin_79 ?_
  refine z_eqi (y := nI 196) (by decide +kernel) ?_
  refine lv_aload_n hx hb dX9_begin_80 rfl (lv_at hl 1 rfl) ?_
  refine z_get hx hb ht hown hK hP ziX9 rfl 15 (by decide) 0 (by decide) hw_1_154 rfl (v := .ref (q 3)) rfl dX9_begin_81 ?_
  refine z_get hx hb ht hown hK hP ziX2 rfl 3 (by decide) 8 (by decide) hw_1_101 rfl (v := .ref (q 5)) rfl dX9_begin_84 ?_
  refine lv_iload_n hx hb dX9_begin_87 rfl (lv_at hl 0 rfl) ?_
  refine z_iald hx hb hK hP 5 (by decide) 2 rfl rfl (vp_in_nI (by omega) (by decide)) dX9_begin_88 ?_
  refine lv_topi (fun x_8 ex_8 => ?_)
  refine z_iast hx hb hK hP hD hS 24 (by decide) 18 (fun _ => rfl) rfl (vp_in_nI (by omega) (by decide)) dX9_begin_89 (fun H locs hP hD hS => ?_)
  refine lv_iinc (v := nI 5) (lv' := [(1, .int (nI 5)), (0, .ref (q 15))]) hx hb dX9_begin_90 hl (k := 0) rfl (by decide +kernel) (by decide) rfl (fun ls hl => ?_)
  refine lv_goto (tgt := 66) hx hb dX9_begin_93 (by decide) ?_
  refine lv_iload_n hx hb dX9_begin_66 rfl (lv_at hl 0 rfl) ?_
  refine lv_bipush (v := nI 6) hx hb dX9_begin_67 (by decide +kernel) ?_
  refine lv_icmp_ge (tgt := 96) hx hb dX9_begin_69 (by decide) (fun c_0 => absurd c_0 (by decide +kernel)) (fun _ => ?_)
  refine lv_aload_n hx hb dX9_begin_72 rfl (lv_at hl 1 rfl) ?_
  refine z_get hx hb ht hown hK hP ziX9 rfl 15 (by decide) 12 (by decide) hw_1_187 rfl (v := .ref (q 24)) rfl dX9_begin_73 ?_
  refine lv_iload_n hx hb dX9_begin_76 rfl (lv_at hl 0 rfl) ?_
  refine lv_bipush (v := nI 49) hx hb dX9_begin_77 (by decide +kernel) ?_
  refine lv_imul hx hb dX9_begin_79 ?_
  refine z_eqi (y := nI 245) (by decide +kernel) ?_
  refine lv_aload_n hx hb dX9_begin_80 rfl (lv_at hl 1 rfl) ?_
  refine z_get hx hb ht hown hK hP ziX9 rfl 15 (by decide) 0 (by decide) hw_1_154 rfl (v := .ref (q 3)) rfl dX9_begin_81 ?_
  refine z_get hx hb ht hown hK hP ziX2 rfl 3 (by decide) 8 (by decide) hw_1_101 rfl (v := .ref (q 5)) rfl dX9_begin_84 ?_
  refine lv_iload_n hx hb dX9_begin_87 rfl (lv_at hl 0 rfl) ?_
  refine z_iald hx hb hK hP 5 (by decide) 2 rfl rfl (vp_in_nI (by omega) (by decide)) dX9_begin_88 ?_
  refine lv_topi (fun x_9 ex_9 => ?_)
  refine z_iast hx hb hK hP hD hS 24 (by decide) 18 (fun _ => rfl) rfl (vp_in_nI (by omega) (by decide)) dX9_begin_89 (fun H locs hP hD hS => ?_)
  refine lv_iinc (v := nI 6) (lv' := [(1, .int (nI 6)), (0, .ref (q 15))]) hx hb dX9_begin_90 hl (k := 0) rfl (by decide +kernel) (by decide) rfl (fun ls hl => ?_)
  refine lv_goto (tgt := 66) hx hb dX9_begin_93 (by decide) ?_
  refine lv_iload_n hx hb dX9_begin_66 rfl (lv_at hl 0 rfl) ?_
  refine lv_bipush (v := nI 6) hx hb dX9_begin_67 (by decide +kernel) ?_
  refine lv_icmp_ge (tgt := 96) hx hb dX9_begin_69 (by decide) (fun _ => ?_) (fun c_0 => absurd (by decide +kernel) c_0)
  exact z_vret hx hb hr hlocks hP hD hS dX9_begin_96 rfl
set_option maxHeartbeats 4000000 in
set_option maxRecDepth 100000 in
theorem kX10_city (l : Launch) (D : va_G) (q : Nat → Nat) (cA : Nat → ClassId)    : zMi l D vwCl (zXtys cA) 81 q (zXd q cA) yX10_city cX10_city 1 (some .int) ({ frames := 3, cells := 0, slots := 0, locals := 85 } : Room) [.ref (q 0)] (zXI0, zXR0, zXJ0) (fun r _ => r = nI 0) := by
  intro sz
  refine z_body (by decide +kernel) (Nat.le_of_ble_eq_true rfl) (fun p e s m below meth c ls hx hb hml hr ht hown hlocks hsz hK hP hD hS hl => ?_)
  have hA : ∀ a, s.heap.size ≤ a → zA 81 q sz a := fun a h => Or.inr (hsz ▸ h)
  have hl : lv_has ls 1 [(0, .ref (q 0))] := hl
  refine lv_aload_n hx hb dX10_city_0 rfl (lv_at hl 0 rfl) ?_
  refine z_get hx hb ht hown hK hP ziX10 rfl 0 (by decide) 0 (by decide) hw_2_93 rfl (v := .ref (q 1)) rfl dX10_city_1 ?_
  refine lv_aload_n hx hb dX10_city_4 rfl (lv_at hl 0 rfl) ?_
  refine z_get hx hb ht hown hK hP ziX10 rfl 0 (by decide) 2 (by decide) hw_2_95 rfl (v := .ref (q 8)) rfl dX10_city_5 ?_
  refine z_callVi (k := 1) (As := [.ref (q 8)]) (rest := []) hx hb hml hown ht (kX7_read l D q cA) hw_2_150 hmX7_read ⟨rfl, rfl⟩ (na := 1) rfl (by decide +kernel) (by decide) (by decide) rfl rfl hK hP hD hS hA hl.1 rfl (Nat.le_of_ble_eq_true rfl) ⟨Nat.zero_le _, Nat.zero_le _⟩ dX10_city_8 (fun r_1 I_1 R_1 J_1 H locs hp_1 hP hD hS _ _ => ?_)
  obtain ⟨rfl, ha_1⟩ := hp_1
  dsimp only at ha_1
  refine lv_if_ne (tgt := 17) hx hb dX10_city_11 (by decide) (fun _ => ?_) (fun c_0 => absurd c_0 (by decide +kernel))
  refine lv_aload_n hx hb dX10_city_17 rfl (lv_at hl 0 rfl) ?_
  refine z_get hx hb ht hown hK hP ziX10 rfl 0 (by decide) 0 (by decide) hw_2_93 rfl (v := .ref (q 1)) rfl dX10_city_18 ?_
  refine lv_iconst (v := nI 0) hx hb dX10_city_21 (by decide +kernel) ?_
  refine z_putI hx hb ht hown hK hP hD hS ziX7 tyX7 tyX7_ok nmX7 rfl 1 (by decide) 1 (by decide) hw_1_37 rfl (v := nI 0) rfl rfl rfl (Nat.le_of_ble_eq_true rfl) rfl dX10_city_22 (fun H locs hP hD hS => ?_)
  refine lv_aload_n hx hb dX10_city_25 rfl (lv_at hl 0 rfl) ?_
  refine z_get hx hb ht hown hK hP ziX10 rfl 0 (by decide) 1 (by decide) hw_2_94 rfl (v := .ref (q 3)) rfl dX10_city_26 ?_
  refine lv_aload_n hx hb dX10_city_29 rfl (lv_at hl 0 rfl) ?_
  refine z_get hx hb ht hown hK hP ziX10 rfl 0 (by decide) 2 (by decide) hw_2_95 rfl (v := .ref (q 8)) rfl dX10_city_30 ?_
  refine z_callVv (k := 3) (As := [.ref (q 8)]) (rest := []) hx hb hml hown ht (kX2_copyFrom_3_8 l D q cA (zp I_1 1 1 (nI 0)) _ _ ) hw_3_38 hmX2_copyFrom ⟨rfl, rfl⟩ (na := 1) rfl (by decide +kernel) (by decide) (by decide) rfl rfl hK hP hD hS hA hl.1 rfl (Nat.le_of_ble_eq_true rfl) ⟨Nat.zero_le _, Nat.zero_le _⟩ dX10_city_33 (fun I_2 R_2 J_2 H locs hp_2 hP hD hS _ _ => ?_)
  dsimp only at hp_2
  refine lv_aload_n hx hb dX10_city_36 rfl (lv_at hl 0 rfl) ?_
  refine z_get hx hb ht hown hK hP ziX10 rfl 0 (by decide) 3 (by decide) hw_2_96 rfl (v := .ref (q 13)) rfl dX10_city_37 ?_
  refine lv_iconst (v := nI 0) hx hb dX10_city_40 (by decide +kernel) ?_
  refine z_putI hx hb ht hown hK hP hD hS ziX0 tyX0 tyX0_ok nmX0 rfl 13 (by decide) 0 (by decide) hw_1_141 rfl (v := nI 0) rfl rfl rfl (Nat.le_of_ble_eq_true rfl) rfl dX10_city_41 (fun H locs hP hD hS => ?_)
  refine lv_aload_n hx hb dX10_city_44 rfl (lv_at hl 0 rfl) ?_
  refine z_get hx hb ht hown hK hP ziX10 rfl 0 (by decide) 4 (by decide) hw_2_97 rfl (v := .ref (q 15)) rfl dX10_city_45 ?_
  refine z_callVv (k := 15) (As := []) (rest := []) hx hb hml hown ht (kX9_begin l D q cA (zp I_2 13 0 (nI 0)) _ _ ) hw_3_45 hmX9_begin ⟨rfl, rfl⟩ (na := 0) rfl (by decide +kernel) (by decide) (by decide) rfl rfl hK hP hD hS hA hl.1 rfl (Nat.le_of_ble_eq_true rfl) ⟨Nat.zero_le _, Nat.zero_le _⟩ dX10_city_48 (fun I_3 R_3 J_3 H locs hp_3 hP hD hS _ _ => ?_)
  dsimp only at hp_3
  refine lv_aload_n hx hb dX10_city_51 rfl (lv_at hl 0 rfl) ?_
  refine z_get hx hb ht hown hK hP ziX10 rfl 0 (by decide) 1 (by decide) hw_2_94 rfl (v := .ref (q 3)) rfl dX10_city_52 ?_
  refine z_get hx hb ht hown hK hP ziX2 rfl 3 (by decide) 0 (by decide) hw_1_68 rfl (v := .int (I_3 3 0)) rfl dX10_city_55 ?_
  refine z_eqi (y := nI 0) (hp_3.trans (hp_2.trans ha_1)) ?_
  exact z_iret (v := nI 0) hx hb hr hlocks hP hD hS dX10_city_58 rfl
end
section
/-! ===== z: constructors: the object's own cell comes in, what it makes comes behind it ===== -/
abbrev zQ : Type := (Nat → Nat) × (Nat → ClassId)
def zCt (l : Launch) (D : va_G) (cl : List vw_C) (y : MethodName) (cc : ByteArray) (mL : Nat) (rm : Room) (mc ms h0 : Nat) (e0 : va_E) (av : List Value) (Wd : zQ → va_W) (Ty : zQ → List (ClassId × FieldType)) (Nn : State → Prop) : Prop :=
  ∀ sz : Nat, Met l y (Cond.code y cc mL none :: zT) rm (va_Pc av (fun U => U.heap.size = sz ∧ va_P D cl [(h0, e0)] U.heap ∧ va_K D cl [] U ∧ va_D (fun _ => True) [(h0, e0)] ∧ Nn U)) (va_Qv (fun _ : zQ => True) (fun u t => va_P D cl (Wd u) t.heap ∧ va_K D cl (Ty u) t ∧ va_D (va_A [(h0, e0)] sz) (Wd u)) (va_A [(h0, e0)] sz)) mc ms (va_A [(h0, e0)] sz)
theorem z_app_l {ws wr : va_W} {k : Nat} {x : Nat × va_E} (h : ws[k]? = some x) : (ws ++ wr)[k]? = some x := by
  have hk : k < ws.length := (List.getElem?_eq_some_iff.mp h).1
  rw [List.getElem?_append_left hk]; exact h
theorem z_app_r {ws wr : va_W} {k : Nat} {x : Nat × va_E} (h : wr[k]? = some x) : (ws ++ wr)[ws.length + k]? = some x := by
  rw [List.getElem?_append_right (Nat.le_add_right _ _), Nat.add_sub_cancel_left]; exact h
theorem z_app_or {ws wr : va_W} {k : Nat} {x : Nat × va_E} (h : (ws ++ wr)[k]? = some x) : ws[k]? = some x ∨ ∃ j : Nat, wr[j]? = some x := by
  rcases Nat.lt_or_ge k ws.length with hk | hk
  · rw [List.getElem?_append_left hk] at h; exact Or.inl h
  · rw [List.getElem?_append_right hk] at h; exact Or.inr ⟨_, h⟩
theorem z_P_l {D : va_G} {cl : List vw_C} {a b : va_W} {H : Heap} (h : va_P D cl (a ++ b) H) : va_P D cl a H := fun k x hx => h k x (z_app_l hx)
theorem z_P_r {D : va_G} {cl : List vw_C} {a b : va_W} {H : Heap} (h : va_P D cl (a ++ b) H) : va_P D cl b H := fun k x hx => h (a.length + k) x (z_app_r hx)
theorem z_P_app {D : va_G} {cl : List vw_C} {a b : va_W} {H : Heap} (ha : va_P D cl a H) (hb : va_P D cl b H) : va_P D cl (a ++ b) H := fun k x hx => (z_app_or hx).elim (ha k x) (fun ⟨j, hj⟩ => hb j x hj)
theorem z_D_l {A : Nat → Prop} {a b : va_W} (h : va_D A (a ++ b)) : va_D A a := ⟨fun i j p q hi hj e => h.1 i j p q (z_app_l hi) (z_app_l hj) e, fun k x hx => h.2 k x (z_app_l hx)⟩
theorem z_D_r {A : Nat → Prop} {a b : va_W} (h : va_D A (a ++ b)) : va_D A b := ⟨fun i j p q hi hj e => Nat.add_left_cancel (h.1 _ _ p q (z_app_r hi) (z_app_r hj) e), fun k x hx => h.2 _ x (z_app_r hx)⟩
theorem z_D_ne {A : Nat → Prop} {a b : va_W} (h : va_D A (a ++ b)) {i j : Nat} {p q : Nat × va_E} (hi : a[i]? = some p) (hj : b[j]? = some q) : p.1 ≠ q.1 := fun e => by
  have := h.1 i (a.length + j) p q (z_app_l hi) (z_app_r hj) e
  have hk : i < a.length := (List.getElem?_eq_some_iff.mp hi).1
  omega
/-- the rest of a world beside what a constructor made of one of its cells -/
theorem z_join {A : Nat → Prop} {D : va_G} {cl : List vw_C} {wr w1 : va_W} {h0 : Nat} {e0 : va_E} {H H1 : Heap} (hP : va_P D cl (wr ++ [(h0, e0)]) H) (hD : va_D A (wr ++ [(h0, e0)])) (hk : ∀ q : Nat, q < H.size → ¬ va_A [(h0, e0)] H.size q → H1[q]? = H[q]?) (hF : ∀ q, va_A [(h0, e0)] H.size q → A q) (hP1 : va_P D cl w1 H1) (hD1 : va_D (va_A [(h0, e0)] H.size) w1) : va_P D cl (wr ++ w1) H1 ∧ va_D A (wr ++ w1) := by
  have hin : ∀ q, va_A [(h0, e0)] H.size q → q = h0 ∨ H.size ≤ q := by
    intro q h
    rcases h with ⟨k, e, h⟩ | h
    · match k, h with
      | 0, h => exact Or.inl (by cases h; rfl)
      | k + 1, h => simp at h
    · exact Or.inr h
  have hne : ∀ (k : Nat) (x : Nat × va_E), wr[k]? = some x → x.1 ≠ h0 ∧ x.1 < H.size := by
    intro k x hx
    exact ⟨z_D_ne (b := [(h0, e0)]) hD hx (j := 0) rfl, (z_P_l hP k x hx).lt⟩
  refine ⟨z_P_app (fun k x hx => ?_) hP1, va_D.app (z_D_l hD) (hD1.weaken (fun _ x _ h => hF x.1 h)) (fun i j p q hi hj e => ?_)⟩
  · obtain ⟨h1, h2⟩ := hne k x hx
    refine (z_P_l hP k x hx).kept (hk _ h2 (fun g => ?_))
    rcases hin _ g with g | g
    · exact h1 g
    · exact absurd h2 (Nat.not_lt.mpr g)
  · obtain ⟨h1, h2⟩ := hne i p hi
    rcases hin _ (hD1.2 j q hj) with g | g
    · exact h1 (e.trans g)
    · rw [e] at h2
      exact absurd h2 (Nat.not_lt.mpr g)
section ZN
variable {p : Program} {l : Launch} {e : Env} {Rm : Room} {s : State} {m : MethodId} {args : Array Value} {below : List Frame} {meth : Method} {c : Code} {H H0 : Heap} {locs : List Loc} {cells slots : Nat} {Q : State → Prop} {D : va_G} {cl : List vw_C} {tys : List (ClassId × FieldType)} {A : Nat → Prop} {cc : ByteArray} {pc : Nat} {ls : Array Slot} {rest st0 As : List Value}
  {y : MethodName} {bytes : ByteArray} {mL nL na index mc ms h0 : Nat} {rm : Room} {own host : String} {e0 : va_E} {Wd : zQ → va_W} {Ty : zQ → List (ClassId × FieldType)} {Nn : State → Prop} {wr : va_W}
theorem z_ctrun (hr : va_Run p l e Rm s m args below meth c H locs cells slots mc ms (F0 m pc ls st0) rest (va_Qv (fun _ : zQ => True) (fun u t => va_P D cl (Wd u) t.heap ∧ va_K D cl (Ty u) t ∧ va_D (va_A [(h0, e0)] H.size) (Wd u)) (va_A [(h0, e0)] H.size) (Value.ref h0 :: As).toArray) (va_A [(h0, e0)] H.size)) (hK : va_K D cl tys s) (hP : va_P D cl (wr ++ [(h0, e0)]) H) (hD : va_D A (wr ++ [(h0, e0)])) (hS : va_S A H0 H locs) (hA : ∀ q, H0.size ≤ q → A q)
    (kk : ∀ (u : zQ) (H1 : Heap) (locs1 : List Loc), va_K D cl (tys ++ Ty u) s → va_P D cl (wr ++ Wd u) H1 → va_D A (wr ++ Wd u) → va_S A H0 H1 locs1 → W p l e Rm s m args below meth c H1 locs1 (cells + mc) (slots + ms) Q (F0 m (pc + 3) ls rest)) : W p l e Rm s m args below meth c H locs cells slots Q (F0 m pc ls st0) := by
  have hF : ∀ q, va_A [(h0, e0)] H.size q → A q := by
    intro q h
    rcases h with ⟨k, x, h⟩ | h
    · exact hD.2 _ _ (z_app_r (ws := wr) h)
    · exact hA q (Nat.le_trans hS.1 h)
  refine va_callv hr hS (fun q _ h => hF q h) hF (fun u t H1 locs1 ht hvm _ hB hz1 hk1 hS1 => ?_)
  obtain ⟨hP1, hK1, hD1⟩ := hB
  rw [ht] at hP1
  obtain ⟨hP2, hD2⟩ := z_join hP hD hk1 hF hP1 hD1
  exact kk u H1 locs1 (hK.app (va_K.moved hvm.symm hK1)) hP2 hD2 hS1
theorem z_ctpre (hK : va_K D cl tys s) (hP : va_P D cl (wr ++ [(h0, e0)]) H) (hD : va_D A (wr ++ [(h0, e0)])) (hN : Nn s) (hNw : ∀ U : State, s.WarmedH U.vm → Nn U) (hNc : ∀ (a : Array Value) (U : State) (g : JFrame) (mk : MethodId), Nn U → Nn (U.calling g mk a)) : PreS s H (va_Pc (.ref h0 :: As) (fun U => U.heap.size = H.size ∧ va_P D cl [(h0, e0)] U.heap ∧ va_K D cl [] U ∧ va_D (fun _ => True) [(h0, e0)] ∧ Nn U)) (.ref h0 :: As) :=
  ⟨fun a U g mk h => by
      obtain ⟨q0, q1, qP, qK, qD, qN⟩ := h
      exact ⟨q0, q1, qP, va_K.moved (u := U) (U := U.calling g mk a) (Vm.Alike.refl U.vm) qK, qD, hNc a U g mk qN⟩,
    fun U hU hW => ⟨rfl, by rw [hU], by rw [hU]; exact z_P_r hP, va_K.moved hW.alike (hK.sub (tys' := []) [] rfl), (z_D_r hD).weaken (fun _ _ _ _ => trivial), hNw U hW⟩⟩
theorem z_ctN (hx : p.tables.exec = Jvm.exec) (hb : c.code = cc) (hml : c.maxLocals = nL) (hown : s.vm.findClass own = some m.cls) (ht : ∀ w ∈ zT, w.before args s = true) (hM : zCt l D cl y bytes mL rm mc ms h0 e0 (.ref h0 :: As) Wd Ty Nn) (hl : va_Nw (.methodLinkNest own index y host) s) (hm : Cond.instanceMethod y ∈ zT ∧ Cond.initialized y.cls ∈ zT ∧ Cond.code y bytes mL none ∈ zT) (hy : y.name = "<init>") (hrm : rm.cells = mc ∧ rm.slots = ms) (hna : As.length = na)
    (hd : y.cls ≠ "java/lang/invoke/MethodHandle" ∧ y.cls ≠ "java/lang/invoke/VarHandle" ∧ (parseMethodDescriptor y.desc).map (fun d => d.parameters.length) = some na) (hR : rm.frames + 1 ≤ Rm.frames ∧ 8 + (mL + 11) + rm.locals ≤ Rm.locals) (hK : va_K D cl tys s) (hP : va_P D cl (wr ++ [(h0, e0)]) H) (hD : va_D A (wr ++ [(h0, e0)])) (hS : va_S A H0 H locs) (hA : ∀ q, H0.size ≤ q → A q) (hN : Nn s) (hNw : ∀ U : State, s.WarmedH U.vm → Nn U) (hNc : ∀ (a : Array Value) (U : State) (g : JFrame) (mk : MethodId), Nn U → Nn (U.calling g mk a)) (hsz : ls.size = nL) (hst : st0 = As.reverse ++ .ref h0 :: rest) (hW : (rest.map fun v => v.category).sum ≤ 8) (hf : cells + mc ≤ Rm.cells ∧ slots + ms ≤ Rm.slots) (hdg : decode cc pc = .ok (.invokespecial index, 3))
    (kk : ∀ (u : zQ) (H1 : Heap) (locs1 : List Loc), va_K D cl (tys ++ Ty u) s → va_P D cl (wr ++ Wd u) H1 → va_D A (wr ++ Wd u) → va_S A H0 H1 locs1 → W p l e Rm s m args below meth c H1 locs1 (cells + mc) (slots + ms) Q (F0 m (pc + 3) ls rest)) : W p l e Rm s m args below meth c H locs cells slots Q (F0 m pc ls st0) := by
  subst hst
  exact z_ctrun (va_runIN (As := As) (rest := rest) ⟨hx, hb, hml, hown, ht⟩ (hM H.size) ⟨va_cnB na ht (z_GC hm.2.2) rfl hrm.1 hrm.2 hl (ht _ hm.2.1) hd hR, hy, ht _ hm.1⟩ (z_ctpre hK hP hD hN hNw hNc) rfl hna hsz rfl (lv_room hW) hdg hf) hK hP hD hS hA kk
theorem z_ctI (hx : p.tables.exec = Jvm.exec) (hb : c.code = cc) (hml : c.maxLocals = nL) (hown : s.vm.findClass own = some m.cls) (ht : ∀ w ∈ zT, w.before args s = true) (hM : zCt l D cl y bytes mL rm mc ms h0 e0 (.ref h0 :: As) Wd Ty Nn) (hl : Cond.methodLink own index y ∈ zT) (hm : Cond.instanceMethod y ∈ zT ∧ Cond.initialized y.cls ∈ zT ∧ Cond.code y bytes mL none ∈ zT) (hy : y.name = "<init>") (hrm : rm.cells = mc ∧ rm.slots = ms) (hna : As.length = na)
    (hd : y.cls ≠ "java/lang/invoke/MethodHandle" ∧ y.cls ≠ "java/lang/invoke/VarHandle" ∧ (parseMethodDescriptor y.desc).map (fun d => d.parameters.length) = some na) (hR : rm.frames + 1 ≤ Rm.frames ∧ 8 + (mL + 11) + rm.locals ≤ Rm.locals) (hK : va_K D cl tys s) (hP : va_P D cl (wr ++ [(h0, e0)]) H) (hD : va_D A (wr ++ [(h0, e0)])) (hS : va_S A H0 H locs) (hA : ∀ q, H0.size ≤ q → A q) (hN : Nn s) (hNw : ∀ U : State, s.WarmedH U.vm → Nn U) (hNc : ∀ (a : Array Value) (U : State) (g : JFrame) (mk : MethodId), Nn U → Nn (U.calling g mk a)) (hsz : ls.size = nL) (hst : st0 = As.reverse ++ .ref h0 :: rest) (hW : (rest.map fun v => v.category).sum ≤ 8) (hf : cells + mc ≤ Rm.cells ∧ slots + ms ≤ Rm.slots) (hdg : decode cc pc = .ok (.invokespecial index, 3))
    (kk : ∀ (u : zQ) (H1 : Heap) (locs1 : List Loc), va_K D cl (tys ++ Ty u) s → va_P D cl (wr ++ Wd u) H1 → va_D A (wr ++ Wd u) → va_S A H0 H1 locs1 → W p l e Rm s m args below meth c H1 locs1 (cells + mc) (slots + ms) Q (F0 m (pc + 3) ls rest)) : W p l e Rm s m args below meth c H locs cells slots Q (F0 m pc ls st0) := by
  subst hst
  exact z_ctrun (va_runI (As := As) (rest := rest) ⟨hx, hb, hml, hown, ht⟩ (hM H.size) ⟨callB_of na ht (z_GC hm.2.2) rfl hrm.1 hrm.2 (ht _ hm.2.1) (ht _ hl) hd hR, hy, ht _ hm.1⟩ (z_ctpre hK hP hD hN hNw hNc) rfl hna hsz rfl (lv_room hW) hdg hf) hK hP hD hS hA kk
end ZN
/-- the body of a constructor -/
theorem z_ctbody {l : Launch} {D : va_G} {cl : List vw_C} {y : MethodName} {cc : ByteArray} {mL : Nat} {rm : Room} {mc ms h0 : Nat} {e0 : va_E} {av : List Value} {Nn : State → Prop} {Qc : Array Value → State → Outcome → State → Prop} {sz : Nat} (hy : plainName y.cls = true) (hyn : y.name = "<init>") (hlen : (lg_sl av).length ≤ mL)
    (body : ∀ (p : Program) (e : Env) (s : State) (m : MethodId) (below : List Frame) (meth : Method) (c : Code) (ls : Array Slot) (A : Nat → Prop), A = va_A [(h0, e0)] sz → p.tables.exec = Jvm.exec → c.code = cc → c.maxLocals = mL → meth.sig.returnType = none → (∀ w ∈ zT, w.before av.toArray s = true) → s.vm.findClass y.cls = some m.cls → meth.locks = false → meth.name = "<init>" → s.heap.size = sz → va_K D cl [] s → va_P D cl [(h0, e0)] s.heap → va_D A [(h0, e0)] → va_S A s.heap s.heap [] → (∀ q, s.heap.size ≤ q → A q) → Nn s → lv_has ls mL (lv_args 0 av) →
      W p l e rm s m av.toArray below meth c s.heap [] 0 0 (MQ below Qc av.toArray s mc ms A) (F0 m 0 ls [])) :
    Met l y (Cond.code y cc mL none :: zT) rm (va_Pc av (fun U => U.heap.size = sz ∧ va_P D cl [(h0, e0)] U.heap ∧ va_K D cl [] U ∧ va_D (fun _ => True) [(h0, e0)] ∧ Nn U)) Qc mc ms (va_A [(h0, e0)] sz) := by
  refine Met.ofW (cc := cc) (maxL := mL) (ret := none) hy rfl ?_
  intro p e s m args below meth c s₁ B hml hv
  obtain ⟨rfl, hsz, hP, hK, hD0, hN⟩ := hv
  have hts := atoms_spec (ws := Cond.code y cc mL none :: zT) B.pre
  have hl := lv_entry av (n := mL) hlen
  rw [lg_entry_eq]
  exact body p e s m below meth c _ _ rfl B.exec B.bytes hml B.returns (fun w h => hts w (List.mem_cons_of_mem _ h)) (findClass_of_methodNamed B.named) B.notSynchronized ((name_of_methodNamed B.named B.method).1.trans hyn) hsz hK hP hD0.self va_S.rf (fun q h => Or.inr (hsz ▸ h)) hN hl
/-- the end of a constructor: its world, as it was said -/
theorem z_ctret {p : Program} {l : Launch} {e : Env} {Rm : Room} {s : State} {m : MethodId} {args : Array Value} {below : List Frame} {meth : Method} {c : Code} {H : Heap} {locs : List Loc} {mc ms : Nat} {D : va_G} {cl : List vw_C} {A : Nat → Prop} {cc : ByteArray} {pc : Nat} {ls : Array Slot} {Wd : zQ → va_W} {Ty : zQ → List (ClassId × FieldType)} (hx : p.tables.exec = Jvm.exec) (hb : c.code = cc) (hr : meth.sig.returnType = none) (hlocks : meth.locks = false) (u : zQ) (hK : va_K D cl (Ty u) s) (hP : va_P D cl (Wd u) H) (hD : va_D A (Wd u)) (hS : va_S A s.heap H locs) (hdg : decode cc pc = .ok (.return_, 1)) :
    W p l e Rm s m args below meth c H locs mc ms (MQ below (va_Qv (fun _ : zQ => True) (fun u t => va_P D cl (Wd u) t.heap ∧ va_K D cl (Ty u) t ∧ va_D A (Wd u)) A) args s mc ms A) (F0 m pc ls []) :=
  W.vret hx hb hr (fun t ht hW => ⟨⟨u, rfl, trivial, by rw [ht]; exact hP, va_K.moved hW.alike hK, hD⟩, hS.F ht⟩) hS.2.2 hdg hlocks
end
