section
-- ===== PART A: goes FIRST, ahead of the names: the tables' words, and 'selects' of the private methods out of them =====
/-- a private method of a class that the tables say can be made, by its rows of tables_1 -/
def lw_okq (q : MethodName × Nat) : Prop := (q.1.cls ≠ "java/lang/invoke/MethodHandle" ∧ q.1.cls ≠ "java/lang/invoke/VarHandle") ∧ Cond.instantiable q.1.cls q.2 ∈ tables_1 ∧ Cond.privateMethod q.1 ∈ tables_1 ∧ Cond.instanceMethod q.1 ∈ tables_1
theorem lw_p0 : lw_okq (⟨"MeterBus$Meter", "forget", "()V"⟩, 8) := ⟨⟨by decide +kernel, by decide +kernel⟩, List.mem_of_getElem? (i := 160) (by decide +kernel), List.mem_of_getElem? (i := 158) (by decide +kernel), List.mem_of_getElem? (i := 159) (by decide +kernel)⟩
theorem lw_p1 : lw_okq (⟨"MeterBus$Meter", "pageToTell", "(I)I"⟩, 8) := ⟨⟨by decide +kernel, by decide +kernel⟩, List.mem_of_getElem? (i := 160) (by decide +kernel), List.mem_of_getElem? (i := 171) (by decide +kernel), List.mem_of_getElem? (i := 172) (by decide +kernel)⟩
theorem lw_p2 : lw_okq (⟨"MeterBus$Meter", "writeAnswer", "(LMeterBus$Row;)V"⟩, 8) := ⟨⟨by decide +kernel, by decide +kernel⟩, List.mem_of_getElem? (i := 160) (by decide +kernel), List.mem_of_getElem? (i := 179) (by decide +kernel), List.mem_of_getElem? (i := 180) (by decide +kernel)⟩
theorem lw_p3 : lw_okq (⟨"MeterBus$Bus", "outcome", "(I)I"⟩, 4) := ⟨⟨by decide +kernel, by decide +kernel⟩, List.mem_of_getElem? (i := 39) (by decide +kernel), List.mem_of_getElem? (i := 197) (by decide +kernel), List.mem_of_getElem? (i := 198) (by decide +kernel)⟩
theorem lw_p4 : lw_okq (⟨"MeterBus$Bus", "putSendingFrame", "(LMeterBus$Row;)I"⟩, 4) := ⟨⟨by decide +kernel, by decide +kernel⟩, List.mem_of_getElem? (i := 39) (by decide +kernel), List.mem_of_getElem? (i := 207) (by decide +kernel), List.mem_of_getElem? (i := 208) (by decide +kernel)⟩
theorem lw_p5 : lw_okq (⟨"MeterBus", "probe", "(IJ)V"⟩, 6) := ⟨⟨by decide +kernel, by decide +kernel⟩, List.mem_of_getElem? (i := 17) (by decide +kernel), List.mem_of_getElem? (i := 251) (by decide +kernel), List.mem_of_getElem? (i := 252) (by decide +kernel)⟩
theorem lw_p6 : lw_okq (⟨"MeterBus", "resetSelected", "(J)V"⟩, 6) := ⟨⟨by decide +kernel, by decide +kernel⟩, List.mem_of_getElem? (i := 17) (by decide +kernel), List.mem_of_getElem? (i := 256) (by decide +kernel), List.mem_of_getElem? (i := 257) (by decide +kernel)⟩
theorem lw_p7 : lw_okq (⟨"MeterBus", "addFound", "()V"⟩, 6) := ⟨⟨by decide +kernel, by decide +kernel⟩, List.mem_of_getElem? (i := 17) (by decide +kernel), List.mem_of_getElem? (i := 261) (by decide +kernel), List.mem_of_getElem? (i := 262) (by decide +kernel)⟩
theorem lw_p8 : lw_okq (⟨"MeterBus$Decoder", "frameIsWell", "()Z"⟩, 7) := ⟨⟨by decide +kernel, by decide +kernel⟩, List.mem_of_getElem? (i := 77) (by decide +kernel), List.mem_of_getElem? (i := 287) (by decide +kernel), List.mem_of_getElem? (i := 288) (by decide +kernel)⟩
theorem lw_p9 : lw_okq (⟨"MeterBus$Decoder", "wrong", "(II)Z"⟩, 7) := ⟨⟨by decide +kernel, by decide +kernel⟩, List.mem_of_getElem? (i := 77) (by decide +kernel), List.mem_of_getElem? (i := 292) (by decide +kernel), List.mem_of_getElem? (i := 293) (by decide +kernel)⟩
theorem lw_p10 : lw_okq (⟨"MeterBus$Decoder", "sumIsWell", "()Z"⟩, 7) := ⟨⟨by decide +kernel, by decide +kernel⟩, List.mem_of_getElem? (i := 77) (by decide +kernel), List.mem_of_getElem? (i := 300) (by decide +kernel), List.mem_of_getElem? (i := 301) (by decide +kernel)⟩
theorem lw_p11 : lw_okq (⟨"MeterBus$Decoder", "identIsWell", "()Z"⟩, 7) := ⟨⟨by decide +kernel, by decide +kernel⟩, List.mem_of_getElem? (i := 77) (by decide +kernel), List.mem_of_getElem? (i := 305) (by decide +kernel), List.mem_of_getElem? (i := 306) (by decide +kernel)⟩
theorem lw_p12 : lw_okq (⟨"MeterBus$Decoder", "readItem", "()Z"⟩, 7) := ⟨⟨by decide +kernel, by decide +kernel⟩, List.mem_of_getElem? (i := 77) (by decide +kernel), List.mem_of_getElem? (i := 312) (by decide +kernel), List.mem_of_getElem? (i := 313) (by decide +kernel)⟩
theorem lw_p13 : lw_okq (⟨"MeterBus$Decoder", "take", "()I"⟩, 7) := ⟨⟨by decide +kernel, by decide +kernel⟩, List.mem_of_getElem? (i := 77) (by decide +kernel), List.mem_of_getElem? (i := 316) (by decide +kernel), List.mem_of_getElem? (i := 317) (by decide +kernel)⟩
theorem lw_p14 : lw_okq (⟨"MeterBus$Decoder", "readText", "(LMeterBus$Reading;I)Z"⟩, 7) := ⟨⟨by decide +kernel, by decide +kernel⟩, List.mem_of_getElem? (i := 77) (by decide +kernel), List.mem_of_getElem? (i := 365) (by decide +kernel), List.mem_of_getElem? (i := 366) (by decide +kernel)⟩
theorem lw_p15 : lw_okq (⟨"MeterBus$Decoder", "areThere", "(I)Z"⟩, 7) := ⟨⟨by decide +kernel, by decide +kernel⟩, List.mem_of_getElem? (i := 77) (by decide +kernel), List.mem_of_getElem? (i := 369) (by decide +kernel), List.mem_of_getElem? (i := 370) (by decide +kernel)⟩
def lw_privs_1 : List (MethodName × Nat) := [(⟨"MeterBus$Meter", "forget", "()V"⟩, 8), (⟨"MeterBus$Meter", "pageToTell", "(I)I"⟩, 8), (⟨"MeterBus$Meter", "writeAnswer", "(LMeterBus$Row;)V"⟩, 8), (⟨"MeterBus$Bus", "outcome", "(I)I"⟩, 4), (⟨"MeterBus$Bus", "putSendingFrame", "(LMeterBus$Row;)I"⟩, 4), (⟨"MeterBus", "probe", "(IJ)V"⟩, 6), (⟨"MeterBus", "resetSelected", "(J)V"⟩, 6), (⟨"MeterBus", "addFound", "()V"⟩, 6), (⟨"MeterBus$Decoder", "frameIsWell", "()Z"⟩, 7), (⟨"MeterBus$Decoder", "wrong", "(II)Z"⟩, 7), (⟨"MeterBus$Decoder", "sumIsWell", "()Z"⟩, 7), (⟨"MeterBus$Decoder", "identIsWell", "()Z"⟩, 7), (⟨"MeterBus$Decoder", "readItem", "()Z"⟩, 7), (⟨"MeterBus$Decoder", "take", "()I"⟩, 7), (⟨"MeterBus$Decoder", "readText", "(LMeterBus$Reading;I)Z"⟩, 7), (⟨"MeterBus$Decoder", "areThere", "(I)Z"⟩, 7)]
theorem lw_r1 : ∀ q ∈ lw_privs_1, lw_okq q := List.forall_mem_cons.mpr ⟨lw_p0, List.forall_mem_cons.mpr ⟨lw_p1, List.forall_mem_cons.mpr ⟨lw_p2, List.forall_mem_cons.mpr ⟨lw_p3, List.forall_mem_cons.mpr ⟨lw_p4, List.forall_mem_cons.mpr ⟨lw_p5, List.forall_mem_cons.mpr ⟨lw_p6, List.forall_mem_cons.mpr ⟨lw_p7, List.forall_mem_cons.mpr ⟨lw_p8, List.forall_mem_cons.mpr ⟨lw_p9, List.forall_mem_cons.mpr ⟨lw_p10, List.forall_mem_cons.mpr ⟨lw_p11, List.forall_mem_cons.mpr ⟨lw_p12, List.forall_mem_cons.mpr ⟨lw_p13, List.forall_mem_cons.mpr ⟨lw_p14, List.forall_mem_cons.mpr ⟨lw_p15, fun _ h => absurd h List.not_mem_nil⟩⟩⟩⟩⟩⟩⟩⟩⟩⟩⟩⟩⟩⟩⟩⟩
theorem lw_p16 : lw_okq (⟨"MeterBus$Decoder", "readDifes", "(LMeterBus$Reading;I)Z"⟩, 7) := ⟨⟨by decide +kernel, by decide +kernel⟩, List.mem_of_getElem? (i := 77) (by decide +kernel), List.mem_of_getElem? (i := 382) (by decide +kernel), List.mem_of_getElem? (i := 383) (by decide +kernel)⟩
theorem lw_p17 : lw_okq (⟨"MeterBus$Decoder", "readVifs", "(LMeterBus$Reading;)Z"⟩, 7) := ⟨⟨by decide +kernel, by decide +kernel⟩, List.mem_of_getElem? (i := 77) (by decide +kernel), List.mem_of_getElem? (i := 390) (by decide +kernel), List.mem_of_getElem? (i := 391) (by decide +kernel)⟩
theorem lw_p18 : lw_okq (⟨"MeterBus$Decoder", "readValue", "(LMeterBus$Reading;I)Z"⟩, 7) := ⟨⟨by decide +kernel, by decide +kernel⟩, List.mem_of_getElem? (i := 77) (by decide +kernel), List.mem_of_getElem? (i := 398) (by decide +kernel), List.mem_of_getElem? (i := 399) (by decide +kernel)⟩
theorem lw_p19 : lw_okq (⟨"MeterBus$Decoder", "readNumber", "(LMeterBus$Reading;I)Z"⟩, 7) := ⟨⟨by decide +kernel, by decide +kernel⟩, List.mem_of_getElem? (i := 77) (by decide +kernel), List.mem_of_getElem? (i := 402) (by decide +kernel), List.mem_of_getElem? (i := 403) (by decide +kernel)⟩
theorem lw_p20 : lw_okq (⟨"MeterBus$Decoder", "readSignedBcd", "(LMeterBus$Reading;I)Z"⟩, 7) := ⟨⟨by decide +kernel, by decide +kernel⟩, List.mem_of_getElem? (i := 77) (by decide +kernel), List.mem_of_getElem? (i := 411) (by decide +kernel), List.mem_of_getElem? (i := 412) (by decide +kernel)⟩
theorem lw_p21 : lw_okq (⟨"MeterBus$Decoder", "readBcd", "(LMeterBus$Reading;IIZ)Z"⟩, 7) := ⟨⟨by decide +kernel, by decide +kernel⟩, List.mem_of_getElem? (i := 77) (by decide +kernel), List.mem_of_getElem? (i := 415) (by decide +kernel), List.mem_of_getElem? (i := 416) (by decide +kernel)⟩
theorem lw_p22 : lw_okq (⟨"MeterBus$Decoder", "readSized", "(LMeterBus$Reading;)Z"⟩, 7) := ⟨⟨by decide +kernel, by decide +kernel⟩, List.mem_of_getElem? (i := 77) (by decide +kernel), List.mem_of_getElem? (i := 420) (by decide +kernel), List.mem_of_getElem? (i := 421) (by decide +kernel)⟩
theorem lw_p23 : lw_okq (⟨"java/lang/Throwable", "fillInStackTrace", "(I)Ljava/lang/Throwable;"⟩, 6) := ⟨⟨by decide +kernel, by decide +kernel⟩, List.mem_of_getElem? (i := 497) (by decide +kernel), List.mem_of_getElem? (i := 495) (by decide +kernel), List.mem_of_getElem? (i := 496) (by decide +kernel)⟩
theorem lw_p24 : lw_okq (⟨"MeterBus", "isFoundOne", "(I)Z"⟩, 6) := ⟨⟨by decide +kernel, by decide +kernel⟩, List.mem_of_getElem? (i := 17) (by decide +kernel), List.mem_of_getElem? (i := 687) (by decide +kernel), List.mem_of_getElem? (i := 688) (by decide +kernel)⟩
theorem lw_p25 : lw_okq (⟨"MeterBus", "isSelected", "(J)Z"⟩, 6) := ⟨⟨by decide +kernel, by decide +kernel⟩, List.mem_of_getElem? (i := 17) (by decide +kernel), List.mem_of_getElem? (i := 701) (by decide +kernel), List.mem_of_getElem? (i := 702) (by decide +kernel)⟩
theorem lw_p26 : lw_okq (⟨"MeterBusModel", "fails", "(ZZ)Z"⟩, 42) := ⟨⟨by decide +kernel, by decide +kernel⟩, List.mem_of_getElem? (i := 766) (by decide +kernel), List.mem_of_getElem? (i := 907) (by decide +kernel), List.mem_of_getElem? (i := 908) (by decide +kernel)⟩
theorem lw_p27 : lw_okq (⟨"MeterBusModel", "isMeter", "(I)Z"⟩, 42) := ⟨⟨by decide +kernel, by decide +kernel⟩, List.mem_of_getElem? (i := 766) (by decide +kernel), List.mem_of_getElem? (i := 936) (by decide +kernel), List.mem_of_getElem? (i := 937) (by decide +kernel)⟩
theorem lw_p28 : lw_okq (⟨"MeterBusModel", "pagesOf", "(I)I"⟩, 42) := ⟨⟨by decide +kernel, by decide +kernel⟩, List.mem_of_getElem? (i := 766) (by decide +kernel), List.mem_of_getElem? (i := 940) (by decide +kernel), List.mem_of_getElem? (i := 941) (by decide +kernel)⟩
theorem lw_p29 : lw_okq (⟨"MeterBusModel", "bus", "()V"⟩, 42) := ⟨⟨by decide +kernel, by decide +kernel⟩, List.mem_of_getElem? (i := 766) (by decide +kernel), List.mem_of_getElem? (i := 952) (by decide +kernel), List.mem_of_getElem? (i := 953) (by decide +kernel)⟩
theorem lw_p30 : lw_okq (⟨"MeterBusModel", "isShort", "()Z"⟩, 42) := ⟨⟨by decide +kernel, by decide +kernel⟩, List.mem_of_getElem? (i := 766) (by decide +kernel), List.mem_of_getElem? (i := 956) (by decide +kernel), List.mem_of_getElem? (i := 957) (by decide +kernel)⟩
theorem lw_p31 : lw_okq (⟨"MeterBusModel", "isLong", "()Z"⟩, 42) := ⟨⟨by decide +kernel, by decide +kernel⟩, List.mem_of_getElem? (i := 766) (by decide +kernel), List.mem_of_getElem? (i := 960) (by decide +kernel), List.mem_of_getElem? (i := 961) (by decide +kernel)⟩
def lw_privs_2 : List (MethodName × Nat) := [(⟨"MeterBus$Decoder", "readDifes", "(LMeterBus$Reading;I)Z"⟩, 7), (⟨"MeterBus$Decoder", "readVifs", "(LMeterBus$Reading;)Z"⟩, 7), (⟨"MeterBus$Decoder", "readValue", "(LMeterBus$Reading;I)Z"⟩, 7), (⟨"MeterBus$Decoder", "readNumber", "(LMeterBus$Reading;I)Z"⟩, 7), (⟨"MeterBus$Decoder", "readSignedBcd", "(LMeterBus$Reading;I)Z"⟩, 7), (⟨"MeterBus$Decoder", "readBcd", "(LMeterBus$Reading;IIZ)Z"⟩, 7), (⟨"MeterBus$Decoder", "readSized", "(LMeterBus$Reading;)Z"⟩, 7), (⟨"java/lang/Throwable", "fillInStackTrace", "(I)Ljava/lang/Throwable;"⟩, 6), (⟨"MeterBus", "isFoundOne", "(I)Z"⟩, 6), (⟨"MeterBus", "isSelected", "(J)Z"⟩, 6), (⟨"MeterBusModel", "fails", "(ZZ)Z"⟩, 42), (⟨"MeterBusModel", "isMeter", "(I)Z"⟩, 42), (⟨"MeterBusModel", "pagesOf", "(I)I"⟩, 42), (⟨"MeterBusModel", "bus", "()V"⟩, 42), (⟨"MeterBusModel", "isShort", "()Z"⟩, 42), (⟨"MeterBusModel", "isLong", "()Z"⟩, 42)]
theorem lw_r2 : ∀ q ∈ lw_privs_2, lw_okq q := List.forall_mem_cons.mpr ⟨lw_p16, List.forall_mem_cons.mpr ⟨lw_p17, List.forall_mem_cons.mpr ⟨lw_p18, List.forall_mem_cons.mpr ⟨lw_p19, List.forall_mem_cons.mpr ⟨lw_p20, List.forall_mem_cons.mpr ⟨lw_p21, List.forall_mem_cons.mpr ⟨lw_p22, List.forall_mem_cons.mpr ⟨lw_p23, List.forall_mem_cons.mpr ⟨lw_p24, List.forall_mem_cons.mpr ⟨lw_p25, List.forall_mem_cons.mpr ⟨lw_p26, List.forall_mem_cons.mpr ⟨lw_p27, List.forall_mem_cons.mpr ⟨lw_p28, List.forall_mem_cons.mpr ⟨lw_p29, List.forall_mem_cons.mpr ⟨lw_p30, List.forall_mem_cons.mpr ⟨lw_p31, fun _ h => absurd h List.not_mem_nil⟩⟩⟩⟩⟩⟩⟩⟩⟩⟩⟩⟩⟩⟩⟩⟩
theorem lw_p32 : lw_okq (⟨"MeterBusModel", "select", "(I)V"⟩, 42) := ⟨⟨by decide +kernel, by decide +kernel⟩, List.mem_of_getElem? (i := 766) (by decide +kernel), List.mem_of_getElem? (i := 964) (by decide +kernel), List.mem_of_getElem? (i := 965) (by decide +kernel)⟩
theorem lw_p33 : lw_okq (⟨"MeterBusModel", "acknowledge", "()V"⟩, 42) := ⟨⟨by decide +kernel, by decide +kernel⟩, List.mem_of_getElem? (i := 766) (by decide +kernel), List.mem_of_getElem? (i := 968) (by decide +kernel), List.mem_of_getElem? (i := 969) (by decide +kernel)⟩
theorem lw_p34 : lw_okq (⟨"MeterBusModel", "shortFrame", "(III)V"⟩, 42) := ⟨⟨by decide +kernel, by decide +kernel⟩, List.mem_of_getElem? (i := 766) (by decide +kernel), List.mem_of_getElem? (i := 972) (by decide +kernel), List.mem_of_getElem? (i := 973) (by decide +kernel)⟩
theorem lw_p35 : lw_okq (⟨"MeterBusModel", "forget", "(I)V"⟩, 42) := ⟨⟨by decide +kernel, by decide +kernel⟩, List.mem_of_getElem? (i := 766) (by decide +kernel), List.mem_of_getElem? (i := 976) (by decide +kernel), List.mem_of_getElem? (i := 977) (by decide +kernel)⟩
theorem lw_p36 : lw_okq (⟨"MeterBusModel", "tell", "(II)V"⟩, 42) := ⟨⟨by decide +kernel, by decide +kernel⟩, List.mem_of_getElem? (i := 766) (by decide +kernel), List.mem_of_getElem? (i := 980) (by decide +kernel), List.mem_of_getElem? (i := 981) (by decide +kernel)⟩
theorem lw_p37 : lw_okq (⟨"MeterBusModel", "say", "(I)V"⟩, 42) := ⟨⟨by decide +kernel, by decide +kernel⟩, List.mem_of_getElem? (i := 766) (by decide +kernel), List.mem_of_getElem? (i := 984) (by decide +kernel), List.mem_of_getElem? (i := 985) (by decide +kernel)⟩
theorem lw_p38 : lw_okq (⟨"MeterBusModel", "longFrame", "(I)V"⟩, 42) := ⟨⟨by decide +kernel, by decide +kernel⟩, List.mem_of_getElem? (i := 766) (by decide +kernel), List.mem_of_getElem? (i := 988) (by decide +kernel), List.mem_of_getElem? (i := 989) (by decide +kernel)⟩
theorem lw_p39 : lw_okq (⟨"MeterBusModel", "putMask", "()V"⟩, 42) := ⟨⟨by decide +kernel, by decide +kernel⟩, List.mem_of_getElem? (i := 766) (by decide +kernel), List.mem_of_getElem? (i := 996) (by decide +kernel), List.mem_of_getElem? (i := 997) (by decide +kernel)⟩
theorem lw_p40 : lw_okq (⟨"MeterBusModel", "setPart", "(II)V"⟩, 42) := ⟨⟨by decide +kernel, by decide +kernel⟩, List.mem_of_getElem? (i := 766) (by decide +kernel), List.mem_of_getElem? (i := 1000) (by decide +kernel), List.mem_of_getElem? (i := 1001) (by decide +kernel)⟩
theorem lw_p41 : lw_okq (⟨"MeterBusModel", "find", "()V"⟩, 42) := ⟨⟨by decide +kernel, by decide +kernel⟩, List.mem_of_getElem? (i := 766) (by decide +kernel), List.mem_of_getElem? (i := 1004) (by decide +kernel), List.mem_of_getElem? (i := 1005) (by decide +kernel)⟩
theorem lw_p42 : lw_okq (⟨"MeterBusModel", "putShort", "(I)V"⟩, 42) := ⟨⟨by decide +kernel, by decide +kernel⟩, List.mem_of_getElem? (i := 766) (by decide +kernel), List.mem_of_getElem? (i := 1008) (by decide +kernel), List.mem_of_getElem? (i := 1009) (by decide +kernel)⟩
theorem lw_p43 : lw_okq (⟨"MeterBusModel", "decodeAll", "([II)I"⟩, 42) := ⟨⟨by decide +kernel, by decide +kernel⟩, List.mem_of_getElem? (i := 766) (by decide +kernel), List.mem_of_getElem? (i := 1020) (by decide +kernel), List.mem_of_getElem? (i := 1021) (by decide +kernel)⟩
theorem lw_p44 : lw_okq (⟨"MeterBusModel", "isFrame", "(I)Z"⟩, 42) := ⟨⟨by decide +kernel, by decide +kernel⟩, List.mem_of_getElem? (i := 766) (by decide +kernel), List.mem_of_getElem? (i := 1024) (by decide +kernel), List.mem_of_getElem? (i := 1025) (by decide +kernel)⟩
theorem lw_p45 : lw_okq (⟨"MeterBusModel", "isByte", "(IIII)Z"⟩, 42) := ⟨⟨by decide +kernel, by decide +kernel⟩, List.mem_of_getElem? (i := 766) (by decide +kernel), List.mem_of_getElem? (i := 1028) (by decide +kernel), List.mem_of_getElem? (i := 1029) (by decide +kernel)⟩
theorem lw_p46 : lw_okq (⟨"MeterBusModel", "blame", "(II)I"⟩, 42) := ⟨⟨by decide +kernel, by decide +kernel⟩, List.mem_of_getElem? (i := 766) (by decide +kernel), List.mem_of_getElem? (i := 1032) (by decide +kernel), List.mem_of_getElem? (i := 1033) (by decide +kernel)⟩
theorem lw_p47 : lw_okq (⟨"MeterBusModel", "oneRecord", "()V"⟩, 42) := ⟨⟨by decide +kernel, by decide +kernel⟩, List.mem_of_getElem? (i := 766) (by decide +kernel), List.mem_of_getElem? (i := 1036) (by decide +kernel), List.mem_of_getElem? (i := 1037) (by decide +kernel)⟩
def lw_privs_3 : List (MethodName × Nat) := [(⟨"MeterBusModel", "select", "(I)V"⟩, 42), (⟨"MeterBusModel", "acknowledge", "()V"⟩, 42), (⟨"MeterBusModel", "shortFrame", "(III)V"⟩, 42), (⟨"MeterBusModel", "forget", "(I)V"⟩, 42), (⟨"MeterBusModel", "tell", "(II)V"⟩, 42), (⟨"MeterBusModel", "say", "(I)V"⟩, 42), (⟨"MeterBusModel", "longFrame", "(I)V"⟩, 42), (⟨"MeterBusModel", "putMask", "()V"⟩, 42), (⟨"MeterBusModel", "setPart", "(II)V"⟩, 42), (⟨"MeterBusModel", "find", "()V"⟩, 42), (⟨"MeterBusModel", "putShort", "(I)V"⟩, 42), (⟨"MeterBusModel", "decodeAll", "([II)I"⟩, 42), (⟨"MeterBusModel", "isFrame", "(I)Z"⟩, 42), (⟨"MeterBusModel", "isByte", "(IIII)Z"⟩, 42), (⟨"MeterBusModel", "blame", "(II)I"⟩, 42), (⟨"MeterBusModel", "oneRecord", "()V"⟩, 42)]
theorem lw_r3 : ∀ q ∈ lw_privs_3, lw_okq q := List.forall_mem_cons.mpr ⟨lw_p32, List.forall_mem_cons.mpr ⟨lw_p33, List.forall_mem_cons.mpr ⟨lw_p34, List.forall_mem_cons.mpr ⟨lw_p35, List.forall_mem_cons.mpr ⟨lw_p36, List.forall_mem_cons.mpr ⟨lw_p37, List.forall_mem_cons.mpr ⟨lw_p38, List.forall_mem_cons.mpr ⟨lw_p39, List.forall_mem_cons.mpr ⟨lw_p40, List.forall_mem_cons.mpr ⟨lw_p41, List.forall_mem_cons.mpr ⟨lw_p42, List.forall_mem_cons.mpr ⟨lw_p43, List.forall_mem_cons.mpr ⟨lw_p44, List.forall_mem_cons.mpr ⟨lw_p45, List.forall_mem_cons.mpr ⟨lw_p46, List.forall_mem_cons.mpr ⟨lw_p47, fun _ h => absurd h List.not_mem_nil⟩⟩⟩⟩⟩⟩⟩⟩⟩⟩⟩⟩⟩⟩⟩⟩
theorem lw_p48 : lw_okq (⟨"MeterBusModel", "next", "()I"⟩, 42) := ⟨⟨by decide +kernel, by decide +kernel⟩, List.mem_of_getElem? (i := 766) (by decide +kernel), List.mem_of_getElem? (i := 1040) (by decide +kernel), List.mem_of_getElem? (i := 1041) (by decide +kernel)⟩
theorem lw_p49 : lw_okq (⟨"MeterBusModel", "textTo", "(I)V"⟩, 42) := ⟨⟨by decide +kernel, by decide +kernel⟩, List.mem_of_getElem? (i := 766) (by decide +kernel), List.mem_of_getElem? (i := 1044) (by decide +kernel), List.mem_of_getElem? (i := 1045) (by decide +kernel)⟩
theorem lw_p50 : lw_okq (⟨"MeterBusModel", "value", "(I)V"⟩, 42) := ⟨⟨by decide +kernel, by decide +kernel⟩, List.mem_of_getElem? (i := 766) (by decide +kernel), List.mem_of_getElem? (i := 1049) (by decide +kernel), List.mem_of_getElem? (i := 1050) (by decide +kernel)⟩
theorem lw_p51 : lw_okq (⟨"MeterBusModel", "has", "(I)Z"⟩, 42) := ⟨⟨by decide +kernel, by decide +kernel⟩, List.mem_of_getElem? (i := 766) (by decide +kernel), List.mem_of_getElem? (i := 1053) (by decide +kernel), List.mem_of_getElem? (i := 1054) (by decide +kernel)⟩
theorem lw_p52 : lw_okq (⟨"MeterBusModel", "whole", "(I)J"⟩, 42) := ⟨⟨by decide +kernel, by decide +kernel⟩, List.mem_of_getElem? (i := 766) (by decide +kernel), List.mem_of_getElem? (i := 1057) (by decide +kernel), List.mem_of_getElem? (i := 1058) (by decide +kernel)⟩
theorem lw_p53 : lw_okq (⟨"MeterBusModel", "digits", "(IZ)J"⟩, 42) := ⟨⟨by decide +kernel, by decide +kernel⟩, List.mem_of_getElem? (i := 766) (by decide +kernel), List.mem_of_getElem? (i := 1062) (by decide +kernel), List.mem_of_getElem? (i := 1063) (by decide +kernel)⟩
def lw_privs_4 : List (MethodName × Nat) := [(⟨"MeterBusModel", "next", "()I"⟩, 42), (⟨"MeterBusModel", "textTo", "(I)V"⟩, 42), (⟨"MeterBusModel", "value", "(I)V"⟩, 42), (⟨"MeterBusModel", "has", "(I)Z"⟩, 42), (⟨"MeterBusModel", "whole", "(I)J"⟩, 42), (⟨"MeterBusModel", "digits", "(IZ)J"⟩, 42)]
theorem lw_r4 : ∀ q ∈ lw_privs_4, lw_okq q := List.forall_mem_cons.mpr ⟨lw_p48, List.forall_mem_cons.mpr ⟨lw_p49, List.forall_mem_cons.mpr ⟨lw_p50, List.forall_mem_cons.mpr ⟨lw_p51, List.forall_mem_cons.mpr ⟨lw_p52, List.forall_mem_cons.mpr ⟨lw_p53, fun _ h => absurd h List.not_mem_nil⟩⟩⟩⟩⟩⟩
def lw_privs : List (MethodName × Nat) := lw_privs_1 ++ (lw_privs_2 ++ (lw_privs_3 ++ (lw_privs_4)))
def lw_tbl : List Cond := k2_sels lw_privs ++ tables_1
theorem lw_privs_ok : ∀ q ∈ lw_privs, lw_okq q := by
  show ∀ q ∈ lw_privs_1 ++ (lw_privs_2 ++ (lw_privs_3 ++ (lw_privs_4))), lw_okq q
  exact List.forall_mem_append.mpr ⟨lw_r1, List.forall_mem_append.mpr ⟨lw_r2, List.forall_mem_append.mpr ⟨lw_r3, lw_r4⟩⟩⟩
end
section
/-! A calculus over the machine: pure heaps, one judgement X for a frame, one contract T for a method. My own. -/
abbrev PH : Type := Nat → Option va_E
def hs (h : PH) (a : Nat) (e : va_E) : PH := fun q => if q = a then some e else h q
theorem hs_self (h : PH) (a : Nat) (e : va_E) : hs h a e a = some e := by simp [hs]
theorem hs_ne {h : PH} {a q : Nat} {e : va_E} (n : q ≠ a) : hs h a e q = h q := by simp [hs, n]
/-- the machine's heap holds h, and all of h lies from base on -/
def hp_in (D : va_G) (cl : List vw_C) (base : Nat) (h : PH) (H : Heap) : Prop :=
  ∃ (LP : List Nat) (f : Nat → va_E), (∀ a e, h a = some e → a ∈ LP ∧ f a = e) ∧ va_P D cl (va_pl LP f) H ∧ va_D (fun q : Nat => base ≤ q) (va_pl LP f)
/-- .. some h that is as A says -/
def hpA (D : va_G) (cl : List vw_C) (base : Nat) (A : PH → Prop) (H : Heap) : Prop := ∃ h : PH, A h ∧ hp_in D cl base h H
/-- what a walk never changes: the machine; the frame; the world's numbers; locals, cells, slots; the end -/
abbrev Fx : Type := (Program × Launch × Env × Room × State) × (MethodId × Array Value × List Frame × Method × Code) × (va_G × List vw_C × List (ClassId × FieldType) × Nat) × (Nat × Nat × Nat) × (State → Prop)
abbrev Fx.p (z : Fx) : Program := z.1.1
abbrev Fx.l (z : Fx) : Launch := z.1.2.1
abbrev Fx.e (z : Fx) : Env := z.1.2.2.1
abbrev Fx.R (z : Fx) : Room := z.1.2.2.2.1
abbrev Fx.s (z : Fx) : State := z.1.2.2.2.2
abbrev Fx.m (z : Fx) : MethodId := z.2.1.1
abbrev Fx.args (z : Fx) : Array Value := z.2.1.2.1
abbrev Fx.below (z : Fx) : List Frame := z.2.1.2.2.1
abbrev Fx.meth (z : Fx) : Method := z.2.1.2.2.2.1
abbrev Fx.c (z : Fx) : Code := z.2.1.2.2.2.2
abbrev Fx.D (z : Fx) : va_G := z.2.2.1.1
abbrev Fx.cl (z : Fx) : List vw_C := z.2.2.1.2.1
abbrev Fx.tys (z : Fx) : List (ClassId × FieldType) := z.2.2.1.2.2.1
abbrev Fx.base (z : Fx) : Nat := z.2.2.1.2.2.2
abbrev Fx.nL (z : Fx) : Nat := z.2.2.2.1.1
abbrev Fx.mc (z : Fx) : Nat := z.2.2.2.1.2.1
abbrev Fx.ms (z : Fx) : Nat := z.2.2.2.1.2.2
abbrev Fx.Q (z : Fx) : State → Prop := z.2.2.2.2
/-- locals by their places -/
def lx (z : Fx) (L : List (Option Value)) (ls : Array Slot) : Prop := ls.size = z.nL ∧ lv_wf ls ∧ ∀ (i : Nat) (v : Value), L[i]? = some (some v) → ls[i]? = some (.val v)
abbrev Wz (z : Fx) (H : Heap) (locs : List Loc) (cells slots : Nat) (g : JFrame) : Prop := W z.p z.l z.e z.R z.s z.m z.args z.below z.meth z.c H locs cells slots z.Q g
/-- from this frame, over any heap that is as A says, with kc cells and ks slots to make yet, the method comes to its end -/
def X (z : Fx) (kc ks : Nat) (A : PH → Prop) (pc : Nat) (L : List (Option Value)) (st : List Value) : Prop :=
  ∀ (H : Heap) (locs : List Loc) (ls : Array Slot) (cells slots : Nat), hpA z.D z.cl z.base A H → va_S (fun q : Nat => z.base ≤ q) z.s.heap H locs → lx z L ls → cells + kc ≤ z.mc → slots + ks ≤ z.ms → Wz z H locs cells slots (F0 z.m pc ls st)
/-- what is known of the method that is walked -/
def Cx (z : Fx) (own : String) (cc : ByteArray) (Ts : List Cond) : Prop :=
  z.p.tables.exec = Jvm.exec ∧ z.c.code = cc ∧ z.c.maxLocals = z.nL ∧ z.s.vm.findClass own = some z.m.cls ∧ (∀ w ∈ Ts, w.before z.args z.s = true) ∧ va_K z.D z.cl z.tys z.s ∧ z.base ≤ z.s.heap.size ∧ z.mc ≤ z.R.cells ∧ z.ms ≤ z.R.slots
section Rows
variable {z : Fx} {own : String} {cc : ByteArray} {Ts : List Cond} {kc ks pc : Nat} {A : PH → Prop} {L : List (Option Value)} {st : List Value}
theorem Cx.x (C : Cx z own cc Ts) : z.p.tables.exec = Jvm.exec := C.1
theorem Cx.b (C : Cx z own cc Ts) : z.c.code = cc := C.2.1
theorem Cx.ml (C : Cx z own cc Ts) : z.c.maxLocals = z.nL := C.2.2.1
theorem Cx.ow (C : Cx z own cc Ts) : z.s.vm.findClass own = some z.m.cls := C.2.2.2.1
theorem Cx.ts (C : Cx z own cc Ts) : ∀ w ∈ Ts, w.before z.args z.s = true := C.2.2.2.2.1
theorem Cx.K (C : Cx z own cc Ts) : va_K z.D z.cl z.tys z.s := C.2.2.2.2.2.1
theorem Cx.fr (C : Cx z own cc Ts) : ∀ q : Nat, z.s.heap.size ≤ q → (fun q : Nat => z.base ≤ q) q := fun _ g => Nat.le_trans C.2.2.2.2.2.2.1 g
theorem Cx.rc (C : Cx z own cc Ts) : z.mc ≤ z.R.cells := C.2.2.2.2.2.2.2.1
theorem Cx.rs (C : Cx z own cc Ts) : z.ms ≤ z.R.slots := C.2.2.2.2.2.2.2.2
/-- the heap may be known less, the room more -/
theorem X.weak {kc' ks' : Nat} {A' : PH → Prop} (k : X z kc' ks' A' pc L st) (hh : ∀ h, A h → A' h) (hc : kc' ≤ kc) (hs : ks' ≤ ks) : X z kc ks A pc L st := by
  intro H locs ls cells slots ⟨h, q, r⟩ hS hl c1 c2
  exact k H locs ls cells slots ⟨h, hh h q, r⟩ hS hl (by omega) (by omega)
theorem X.room {kc' ks' : Nat} (k : X z kc' ks' A pc L st) (hc : kc' ≤ kc) (hs : ks' ≤ ks) : X z kc ks A pc L st := k.weak (fun _ g => g) hc hs
theorem X.heap {A' : PH → Prop} (k : X z kc ks A' pc L st) (hh : ∀ h, A h → A' h) : X z kc ks A pc L st := k.weak hh (Nat.le_refl _) (Nat.le_refl _)
/-- the heap may be known less -/
theorem X.less {A' : PH → Prop} (k : X z kc ks A' pc L st) (hh : ∀ h, A h → ∃ h', A' h' ∧ ∀ a e, h' a = some e → h a = some e) : X z kc ks A pc L st := by
  intro H locs ls cells slots ⟨h, q, LP, f, q1, q2, q3⟩ hS hl c1 c2
  obtain ⟨h', r1, r2⟩ := hh h q
  exact k H locs ls cells slots ⟨h', r1, LP, f, fun a e g => q1 a e (r2 a e g), q2, q3⟩ hS hl c1 c2
theorem X.ex {α : Sort _} {B : α → PH → Prop} (k : ∀ x, X z kc ks (B x) pc L st) : X z kc ks (fun h => ∃ x, B x h) pc L st := by
  intro H locs ls cells slots ⟨h, ⟨x, q⟩, r⟩ hS hl c1 c2
  exact k x H locs ls cells slots ⟨h, q, r⟩ hS hl c1 c2
theorem X.pure {p : Prop} (hp : ∀ h, A h → p) (k : p → X z kc ks A pc L st) : X z kc ks A pc L st := by
  intro H locs ls cells slots ⟨h, q, r⟩ hS hl c1 c2
  exact k (hp h q) H locs ls cells slots ⟨h, q, r⟩ hS hl c1 c2
/-- fewer locals -/
def lsub (L' L : List (Option Value)) : Bool := match L', L with
  | [], _ => true
  | none :: a, _ :: b => lsub a b
  | none :: a, [] => lsub a []
  | some _ :: _, [] => false
  | some u :: a, some v :: b => decide (u = v) && lsub a b
  | some _ :: _, none :: _ => false
theorem lx.at {ls : Array Slot} (hl : lx z L ls) {i : Nat} {v : Value} (g : L[i]? = some (some v)) : ls[i]? = some (.val v) := hl.2.2 i v g
theorem X.locals {L' : List (Option Value)} (k : X z kc ks A pc L' st) (hh : ∀ (i : Nat) (v : Value), L'[i]? = some (some v) → L[i]? = some (some v)) : X z kc ks A pc L st := by
  intro H locs ls cells slots hp hS hl c1 c2
  exact k H locs ls cells slots hp hS ⟨hl.1, hl.2.1, fun i v g => hl.2.2 i v (hh i v g)⟩ c1 c2
/-- a store of one place: a long that lay in the place ahead and this one is gone -/
def is2 (v : Option Value) : Bool := match v with
  | some w => w.category == 2
  | none => false
def lst1 (L : List (Option Value)) (i : Nat) (v : Value) : List (Option Value) := match L, i with
  | [], _ => []
  | _ :: b, 0 => some v :: b
  | a :: b, 1 => (if is2 a then none else a) :: lst1 b 0 v
  | a :: b, i + 2 => a :: lst1 b (i + 1) v
def lst2 (L : List (Option Value)) (i : Nat) (v : Value) : List (Option Value) := match L, i with
  | [], _ => []
  | _ :: _ :: b, 0 => some v :: none :: b
  | [_], 0 => [some v]
  | a :: b, 1 => (if is2 a then none else a) :: lst2 b 0 v
  | a :: b, i + 2 => a :: lst2 b (i + 1) v
theorem lst1_get {L : List (Option Value)} {i : Nat} {v : Value} : ∀ {j : Nat} {w : Value}, (lst1 L i v)[j]? = some (some w) → (j = i ∧ w = v) ∨ (j ≠ i ∧ L[j]? = some (some w) ∧ ¬ (j + 1 = i ∧ w.category = 2)) := by
  fun_induction lst1 L i v with
  | case1 => intro j w g; simp at g
  | case2 a b => 
    intro j w g
    cases j with
    | zero => simp at g; exact Or.inl ⟨rfl, g.symm⟩
    | succ j => simp at g; exact Or.inr ⟨by omega, by simpa using g, by omega⟩
  | case3 a b ih =>
    intro j w g
    cases j with
    | zero =>
      simp at g
      refine Or.inr ⟨by omega, by simpa using g.2, fun q => ?_⟩
      have := g.2
      subst this
      simp [is2, q.2] at g
    | succ j =>
      simp at g
      rcases ih g with ⟨q1, q2⟩ | ⟨q1, q2, q3⟩
      · exact Or.inl ⟨by omega, q2⟩
      · exact Or.inr ⟨by omega, by simpa using q2, by omega⟩
  | case4 a b i ih =>
    intro j w g
    cases j with
    | zero => simp at g; exact Or.inr ⟨by omega, by simpa using g, by omega⟩
    | succ j =>
      simp at g
      rcases ih g with ⟨q1, q2⟩ | ⟨q1, q2, q3⟩
      · exact Or.inl ⟨by omega, q2⟩
      · exact Or.inr ⟨by omega, by simpa using q2, fun q => q3 ⟨by omega, q.2⟩⟩
theorem lst2_get {L : List (Option Value)} {i : Nat} {v : Value} : ∀ {j : Nat} {w : Value}, (lst2 L i v)[j]? = some (some w) → (j = i ∧ w = v) ∨ (j ≠ i ∧ j ≠ i + 1 ∧ L[j]? = some (some w) ∧ ¬ (j + 1 = i ∧ w.category = 2)) := by
  fun_induction lst2 L i v with
  | case1 => intro j w g; simp at g
  | case2 a b c =>
    intro j w g
    match j with
    | 0 => simp at g; exact Or.inl ⟨rfl, g.symm⟩
    | 1 => simp at g
    | j + 2 => simp at g; exact Or.inr ⟨by omega, by omega, by simpa using g, by omega⟩
  | case3 a =>
    intro j w g
    match j with
    | 0 => simp at g; exact Or.inl ⟨rfl, g.symm⟩
    | j + 1 => simp at g
  | case4 a b ih =>
    intro j w g
    cases j with
    | zero =>
      simp at g
      refine Or.inr ⟨by omega, by omega, by simpa using g.2, fun q => ?_⟩
      have := g.2
      subst this
      simp [is2, q.2] at g
    | succ j =>
      simp at g
      rcases ih g with ⟨q1, q2⟩ | ⟨q1, q2, q3, q4⟩
      · exact Or.inl ⟨by omega, q2⟩
      · exact Or.inr ⟨by omega, by omega, by simpa using q3, by omega⟩
  | case5 a b i ih =>
    intro j w g
    cases j with
    | zero => simp at g; exact Or.inr ⟨by omega, by omega, by simpa using g, by omega⟩
    | succ j =>
      simp at g
      rcases ih g with ⟨q1, q2⟩ | ⟨q1, q2, q3, q4⟩
      · exact Or.inl ⟨by omega, q2⟩
      · exact Or.inr ⟨by omega, by omega, by simpa using q3, fun q => q4 ⟨by omega, q.2⟩⟩
def lpr (i : Nat) (L : List (Option Value)) : List (Nat × Value) := match L with
  | [] => []
  | none :: b => lpr (i + 1) b
  | some v :: b => (i, v) :: lpr (i + 1) b
theorem lpr_mem {L : List (Option Value)} : ∀ {i : Nat} {q : Nat × Value}, q ∈ lpr i L ↔ ∃ j : Nat, q.1 = i + j ∧ L[j]? = some (some q.2) := by
  induction L with
  | nil => intro i q; simp [lpr]
  | cons a b ih =>
    intro i q
    cases a with
    | none =>
      rw [lpr, ih]
      constructor
      · rintro ⟨j, h1, h2⟩
        exact ⟨j + 1, by omega, by simpa using h2⟩
      · rintro ⟨j, h1, h2⟩
        cases j with
        | zero => simp at h2
        | succ j => exact ⟨j, by omega, by simpa using h2⟩
    | some v =>
      rw [lpr, List.mem_cons, ih]
      constructor
      · rintro (h1 | ⟨j, h1, h2⟩)
        · subst h1
          exact ⟨0, rfl, rfl⟩
        · exact ⟨j + 1, by omega, by simpa using h2⟩
      · rintro ⟨j, h1, h2⟩
        cases j with
        | zero =>
          left
          simp at h2
          obtain ⟨q1, q2⟩ := q
          simp at h1 h2
          rw [h1, h2]
        | succ j => exact Or.inr ⟨j, by omega, by simpa using h2⟩
theorem lx.has {ls : Array Slot} (hl : lx z L ls) : lv_has ls z.nL (lpr 0 L) := ⟨hl.1, hl.2.1, fun q hq => by
  obtain ⟨j, h1, h2⟩ := lpr_mem.mp hq
  rw [h1, Nat.zero_add]
  exact hl.2.2 j q.2 h2⟩
theorem lx.of1 {ls : Array Slot} {i : Nat} {v : Value} (hl : lv_has ls z.nL ((i, v) :: (lpr 0 L).filter (fun q => !(q.1 == i) && !(q.1 + 1 == i && q.2.category == 2)))) : lx z (lst1 L i v) ls := by
  refine ⟨hl.1, hl.2.1, fun j w g => ?_⟩
  rcases lst1_get g with ⟨q1, q2⟩ | ⟨q1, q2, q3⟩
  · subst q1; subst q2
    exact hl.2.2 (j, w) List.mem_cons_self
  · refine hl.2.2 (j, w) (List.mem_cons_of_mem _ (List.mem_filter.mpr ⟨lpr_mem.mpr ⟨j, by simp, q2⟩, ?_⟩))
    simp [q1]
    omega
theorem lx.of2 {ls : Array Slot} {i : Nat} {v : Value} (hl : lv_has ls z.nL ((i, v) :: (lpr 0 L).filter (fun q => !(q.1 == i) && (!(q.1 == i + 1) && !(q.1 + 1 == i && q.2.category == 2))))) : lx z (lst2 L i v) ls := by
  refine ⟨hl.1, hl.2.1, fun j w g => ?_⟩
  rcases lst2_get g with ⟨q1, q2⟩ | ⟨q1, q2, q3, q4⟩
  · subst q1; subst q2
    exact hl.2.2 (j, w) List.mem_cons_self
  · refine hl.2.2 (j, w) (List.mem_cons_of_mem _ (List.mem_filter.mpr ⟨lpr_mem.mpr ⟨j, by simp, q3⟩, ?_⟩))
    simp [q1, q2]
    omega
end Rows
end
section
/-! Rows of X, an instruction each. By program (wip/mkrows.py). -/
section Rows
variable {z : Fx} {own : String} {cc : ByteArray} {Ts : List Cond} {kc ks pc : Nat} {A : PH → Prop} {L : List (Option Value)} {st : List Value}
theorem x_iadd (C : Cx z own cc Ts) {x y : Int32} (d : decode cc pc = .ok (.iadd, 1)) 
    (k : X z kc ks A (pc + 1) L (.int (x + y) :: st)) : X z kc ks A pc L (.int y :: .int x :: st) := by
  intro H locs ls cells slots hp hS hl c1 c2
  exact lv_iadd C.x C.b d (k H locs ls cells slots hp hS hl c1 c2)
theorem x_isub (C : Cx z own cc Ts) {x y : Int32} (d : decode cc pc = .ok (.isub, 1)) 
    (k : X z kc ks A (pc + 1) L (.int (x - y) :: st)) : X z kc ks A pc L (.int y :: .int x :: st) := by
  intro H locs ls cells slots hp hS hl c1 c2
  exact lv_isub C.x C.b d (k H locs ls cells slots hp hS hl c1 c2)
theorem x_imul (C : Cx z own cc Ts) {x y : Int32} (d : decode cc pc = .ok (.imul, 1)) 
    (k : X z kc ks A (pc + 1) L (.int (x * y) :: st)) : X z kc ks A pc L (.int y :: .int x :: st) := by
  intro H locs ls cells slots hp hS hl c1 c2
  exact lv_imul C.x C.b d (k H locs ls cells slots hp hS hl c1 c2)
theorem x_iand (C : Cx z own cc Ts) {x y : Int32} (d : decode cc pc = .ok (.iand, 1)) 
    (k : X z kc ks A (pc + 1) L (.int (x &&& y) :: st)) : X z kc ks A pc L (.int y :: .int x :: st) := by
  intro H locs ls cells slots hp hS hl c1 c2
  exact lv_iand C.x C.b d (k H locs ls cells slots hp hS hl c1 c2)
theorem x_ior (C : Cx z own cc Ts) {x y : Int32} (d : decode cc pc = .ok (.ior, 1)) 
    (k : X z kc ks A (pc + 1) L (.int (x ||| y) :: st)) : X z kc ks A pc L (.int y :: .int x :: st) := by
  intro H locs ls cells slots hp hS hl c1 c2
  exact lv_ior C.x C.b d (k H locs ls cells slots hp hS hl c1 c2)
theorem x_ixor (C : Cx z own cc Ts) {x y : Int32} (d : decode cc pc = .ok (.ixor, 1)) 
    (k : X z kc ks A (pc + 1) L (.int (x ^^^ y) :: st)) : X z kc ks A pc L (.int y :: .int x :: st) := by
  intro H locs ls cells slots hp hS hl c1 c2
  exact lv_ixor C.x C.b d (k H locs ls cells slots hp hS hl c1 c2)
theorem x_ladd (C : Cx z own cc Ts) {x y : Int64} (d : decode cc pc = .ok (.ladd, 1)) 
    (k : X z kc ks A (pc + 1) L (.long (x + y) :: st)) : X z kc ks A pc L (.long y :: .long x :: st) := by
  intro H locs ls cells slots hp hS hl c1 c2
  exact lv_ladd C.x C.b d (k H locs ls cells slots hp hS hl c1 c2)
theorem x_lsub (C : Cx z own cc Ts) {x y : Int64} (d : decode cc pc = .ok (.lsub, 1)) 
    (k : X z kc ks A (pc + 1) L (.long (x - y) :: st)) : X z kc ks A pc L (.long y :: .long x :: st) := by
  intro H locs ls cells slots hp hS hl c1 c2
  exact lv_lsub C.x C.b d (k H locs ls cells slots hp hS hl c1 c2)
theorem x_lmul (C : Cx z own cc Ts) {x y : Int64} (d : decode cc pc = .ok (.lmul, 1)) 
    (k : X z kc ks A (pc + 1) L (.long (x * y) :: st)) : X z kc ks A pc L (.long y :: .long x :: st) := by
  intro H locs ls cells slots hp hS hl c1 c2
  exact lv_lmul C.x C.b d (k H locs ls cells slots hp hS hl c1 c2)
theorem x_land (C : Cx z own cc Ts) {x y : Int64} (d : decode cc pc = .ok (.land, 1)) 
    (k : X z kc ks A (pc + 1) L (.long (x &&& y) :: st)) : X z kc ks A pc L (.long y :: .long x :: st) := by
  intro H locs ls cells slots hp hS hl c1 c2
  exact lv_land C.x C.b d (k H locs ls cells slots hp hS hl c1 c2)
theorem x_lor (C : Cx z own cc Ts) {x y : Int64} (d : decode cc pc = .ok (.lor, 1)) 
    (k : X z kc ks A (pc + 1) L (.long (x ||| y) :: st)) : X z kc ks A pc L (.long y :: .long x :: st) := by
  intro H locs ls cells slots hp hS hl c1 c2
  exact lv_lor C.x C.b d (k H locs ls cells slots hp hS hl c1 c2)
theorem x_lxor (C : Cx z own cc Ts) {x y : Int64} (d : decode cc pc = .ok (.lxor, 1)) 
    (k : X z kc ks A (pc + 1) L (.long (x ^^^ y) :: st)) : X z kc ks A pc L (.long y :: .long x :: st) := by
  intro H locs ls cells slots hp hS hl c1 c2
  exact lv_lxor C.x C.b d (k H locs ls cells slots hp hS hl c1 c2)
theorem x_ishl (C : Cx z own cc Ts) {x y : Int32} (d : decode cc pc = .ok (.ishl, 1)) 
    (k : X z kc ks A (pc + 1) L (.int (x <<< (y &&& 31)) :: st)) : X z kc ks A pc L (.int y :: .int x :: st) := by
  intro H locs ls cells slots hp hS hl c1 c2
  exact lv_ishl C.x C.b d (k H locs ls cells slots hp hS hl c1 c2)
theorem x_ishr (C : Cx z own cc Ts) {x y : Int32} (d : decode cc pc = .ok (.ishr, 1)) 
    (k : X z kc ks A (pc + 1) L (.int (x >>> (y &&& 31)) :: st)) : X z kc ks A pc L (.int y :: .int x :: st) := by
  intro H locs ls cells slots hp hS hl c1 c2
  exact lv_ishr C.x C.b d (k H locs ls cells slots hp hS hl c1 c2)
theorem x_iushr (C : Cx z own cc Ts) {x y : Int32} (d : decode cc pc = .ok (.iushr, 1)) 
    (k : X z kc ks A (pc + 1) L (.int ((x.toUInt32 >>> (y.toUInt32 &&& Int32.toUInt32 31)).toInt32) :: st)) : X z kc ks A pc L (.int y :: .int x :: st) := by
  intro H locs ls cells slots hp hS hl c1 c2
  exact lv_iushr C.x C.b d rfl (k H locs ls cells slots hp hS hl c1 c2)
theorem x_lshl (C : Cx z own cc Ts) {x : Int64} {y : Int32} (d : decode cc pc = .ok (.lshl, 1)) 
    (k : X z kc ks A (pc + 1) L (.long (x <<< (y.toInt64 &&& 63)) :: st)) : X z kc ks A pc L (.int y :: .long x :: st) := by
  intro H locs ls cells slots hp hS hl c1 c2
  exact lv_lshl C.x C.b d rfl (k H locs ls cells slots hp hS hl c1 c2)
theorem x_lshr (C : Cx z own cc Ts) {x : Int64} {y : Int32} (d : decode cc pc = .ok (.lshr, 1)) 
    (k : X z kc ks A (pc + 1) L (.long (x >>> (y.toInt64 &&& 63)) :: st)) : X z kc ks A pc L (.int y :: .long x :: st) := by
  intro H locs ls cells slots hp hS hl c1 c2
  exact lv_lshr C.x C.b d rfl (k H locs ls cells slots hp hS hl c1 c2)
theorem x_lushr (C : Cx z own cc Ts) {x : Int64} {y : Int32} (d : decode cc pc = .ok (.lushr, 1)) 
    (k : X z kc ks A (pc + 1) L (.long ((x.toUInt64 >>> (y.toInt64.toUInt64 &&& Int64.toUInt64 63)).toInt64) :: st)) : X z kc ks A pc L (.int y :: .long x :: st) := by
  intro H locs ls cells slots hp hS hl c1 c2
  exact lv_lushr C.x C.b d rfl (k H locs ls cells slots hp hS hl c1 c2)
theorem x_i2l (C : Cx z own cc Ts) {x : Int32} (d : decode cc pc = .ok (.i2l, 1)) 
    (k : X z kc ks A (pc + 1) L (.long x.toInt64 :: st)) : X z kc ks A pc L (.int x :: st) := by
  intro H locs ls cells slots hp hS hl c1 c2
  exact lv_i2l C.x C.b d rfl (k H locs ls cells slots hp hS hl c1 c2)
theorem x_l2i (C : Cx z own cc Ts) {x : Int64} (d : decode cc pc = .ok (.l2i, 1)) 
    (k : X z kc ks A (pc + 1) L (.int x.toInt32 :: st)) : X z kc ks A pc L (.long x :: st) := by
  intro H locs ls cells slots hp hS hl c1 c2
  exact lv_l2i C.x C.b d rfl (k H locs ls cells slots hp hS hl c1 c2)
theorem x_ineg (C : Cx z own cc Ts) {x : Int32} (d : decode cc pc = .ok (.ineg, 1)) 
    (k : X z kc ks A (pc + 1) L (.int (-x) :: st)) : X z kc ks A pc L (.int x :: st) := by
  intro H locs ls cells slots hp hS hl c1 c2
  exact lv_ineg C.x C.b d (k H locs ls cells slots hp hS hl c1 c2)
theorem x_lneg (C : Cx z own cc Ts) {x : Int64} (d : decode cc pc = .ok (.lneg, 1)) 
    (k : X z kc ks A (pc + 1) L (.long (-x) :: st)) : X z kc ks A pc L (.long x :: st) := by
  intro H locs ls cells slots hp hS hl c1 c2
  exact lv_lneg C.x C.b d (k H locs ls cells slots hp hS hl c1 c2)
theorem x_dup (C : Cx z own cc Ts) {v : Value} (d : decode cc pc = .ok (.dup, 1)) (g : v.category = 1)
    (k : X z kc ks A (pc + 1) L (v :: v :: st)) : X z kc ks A pc L (v :: st) := by
  intro H locs ls cells slots hp hS hl c1 c2
  exact lv_dup C.x C.b d g (k H locs ls cells slots hp hS hl c1 c2)
theorem x_dup_x1 (C : Cx z own cc Ts) {v w : Value} (d : decode cc pc = .ok (.dup_x1, 1)) (g1 : v.category = 1) (g2 : w.category = 1)
    (k : X z kc ks A (pc + 1) L (v :: w :: v :: st)) : X z kc ks A pc L (v :: w :: st) := by
  intro H locs ls cells slots hp hS hl c1 c2
  exact lv_dup_x1 C.x C.b d g1 g2 (k H locs ls cells slots hp hS hl c1 c2)
theorem x_dup2 (C : Cx z own cc Ts) {v w : Value} (d : decode cc pc = .ok (.dup2, 1)) (g1 : v.category = 1) (g2 : w.category = 1)
    (k : X z kc ks A (pc + 1) L (v :: w :: v :: w :: st)) : X z kc ks A pc L (v :: w :: st) := by
  intro H locs ls cells slots hp hS hl c1 c2
  exact lv_dup2_11 C.x C.b d g1 g2 (k H locs ls cells slots hp hS hl c1 c2)
theorem x_pop (C : Cx z own cc Ts) {v : Value} (d : decode cc pc = .ok (.pop, 1)) (g : v.category = 1)
    (k : X z kc ks A (pc + 1) L (st)) : X z kc ks A pc L (v :: st) := by
  intro H locs ls cells slots hp hS hl c1 c2
  exact lv_pop C.x C.b d g (k H locs ls cells slots hp hS hl c1 c2)
theorem x_iconst (C : Cx z own cc Ts) {i : Int} {v : Int32} (d : decode cc pc = .ok (.iconst i, 1)) (g : Int32.ofInt i = v)
    (k : X z kc ks A (pc + 1) L (.int v :: st)) : X z kc ks A pc L (st) := by
  intro H locs ls cells slots hp hS hl c1 c2
  exact lv_iconst C.x C.b d g (k H locs ls cells slots hp hS hl c1 c2)
theorem x_bipush (C : Cx z own cc Ts) {i : Int} {v : Int32} (d : decode cc pc = .ok (.bipush i, 2)) (g : (Int8.ofInt i).toInt32 = v)
    (k : X z kc ks A (pc + 2) L (.int v :: st)) : X z kc ks A pc L (st) := by
  intro H locs ls cells slots hp hS hl c1 c2
  exact lv_bipush C.x C.b d g (k H locs ls cells slots hp hS hl c1 c2)
theorem x_sipush (C : Cx z own cc Ts) {i : Int} {v : Int32} (d : decode cc pc = .ok (.sipush i, 3)) (g : (Int16.ofInt i).toInt32 = v)
    (k : X z kc ks A (pc + 3) L (.int v :: st)) : X z kc ks A pc L (st) := by
  intro H locs ls cells slots hp hS hl c1 c2
  exact lv_sipush C.x C.b d g (k H locs ls cells slots hp hS hl c1 c2)
theorem x_null (C : Cx z own cc Ts)  (d : decode cc pc = .ok (.aconst_null, 1)) 
    (k : X z kc ks A (pc + 1) L (.null :: st)) : X z kc ks A pc L (st) := by
  intro H locs ls cells slots hp hS hl c1 c2
  exact lv_null C.x C.b d (k H locs ls cells slots hp hS hl c1 c2)
theorem x_iload_n (C : Cx z own cc Ts) {i : Fin 4} {x : Int32} (d : decode cc pc = .ok (.iload_n i, 1)) (g : L[(i : Nat)]? = some (some (.int x)))
    (k : X z kc ks A (pc + 1) L (.int x :: st)) : X z kc ks A pc L st := by
  intro H locs ls cells slots hp hS hl c1 c2
  exact lv_iload_n C.x C.b d rfl (hl.at g) (k H locs ls cells slots hp hS hl c1 c2)
theorem x_iload (C : Cx z own cc Ts) {i : Nat} {x : Int32} (d : decode cc pc = .ok (.iload i, 2)) (g : L[i]? = some (some (.int x)))
    (k : X z kc ks A (pc + 2) L (.int x :: st)) : X z kc ks A pc L st := by
  intro H locs ls cells slots hp hS hl c1 c2
  exact lv_iload C.x C.b d (hl.at g) (k H locs ls cells slots hp hS hl c1 c2)
theorem x_istore_n (C : Cx z own cc Ts) {i : Fin 4} {x : Int32} (d : decode cc pc = .ok (.istore_n i, 1)) (g : (i : Nat) < z.nL)
    (k : X z kc ks A (pc + 1) (lst1 L i (.int x)) st) : X z kc ks A pc L (.int x :: st) := by
  intro H locs ls cells slots hp hS hl c1 c2
  exact lv_istore_n C.x C.b d rfl hl.has g rfl (fun ls' hl' => k H locs ls' cells slots hp hS (lx.of1 hl') c1 c2)
theorem x_istore (C : Cx z own cc Ts) {i : Nat} {x : Int32} (d : decode cc pc = .ok (.istore i, 2)) (g : i < z.nL)
    (k : X z kc ks A (pc + 2) (lst1 L i (.int x)) st) : X z kc ks A pc L (.int x :: st) := by
  intro H locs ls cells slots hp hS hl c1 c2
  exact lv_istore C.x C.b d hl.has g rfl (fun ls' hl' => k H locs ls' cells slots hp hS (lx.of1 hl') c1 c2)
theorem x_lload_n (C : Cx z own cc Ts) {i : Fin 4} {x : Int64} (d : decode cc pc = .ok (.lload_n i, 1)) (g : L[(i : Nat)]? = some (some (.long x)))
    (k : X z kc ks A (pc + 1) L (.long x :: st)) : X z kc ks A pc L st := by
  intro H locs ls cells slots hp hS hl c1 c2
  exact lv_lload_n C.x C.b d rfl (hl.at g) (k H locs ls cells slots hp hS hl c1 c2)
theorem x_lload (C : Cx z own cc Ts) {i : Nat} {x : Int64} (d : decode cc pc = .ok (.lload i, 2)) (g : L[i]? = some (some (.long x)))
    (k : X z kc ks A (pc + 2) L (.long x :: st)) : X z kc ks A pc L st := by
  intro H locs ls cells slots hp hS hl c1 c2
  exact lv_lload C.x C.b d (hl.at g) (k H locs ls cells slots hp hS hl c1 c2)
theorem x_lstore_n (C : Cx z own cc Ts) {i : Fin 4} {x : Int64} (d : decode cc pc = .ok (.lstore_n i, 1)) (g : (i : Nat) + 1 < z.nL)
    (k : X z kc ks A (pc + 1) (lst2 L i (.long x)) st) : X z kc ks A pc L (.long x :: st) := by
  intro H locs ls cells slots hp hS hl c1 c2
  exact lv_lstore_n C.x C.b d rfl hl.has g rfl (fun ls' hl' => k H locs ls' cells slots hp hS (lx.of2 hl') c1 c2)
theorem x_lstore (C : Cx z own cc Ts) {i : Nat} {x : Int64} (d : decode cc pc = .ok (.lstore i, 2)) (g : i + 1 < z.nL)
    (k : X z kc ks A (pc + 2) (lst2 L i (.long x)) st) : X z kc ks A pc L (.long x :: st) := by
  intro H locs ls cells slots hp hS hl c1 c2
  exact lv_lstore C.x C.b d hl.has g rfl (fun ls' hl' => k H locs ls' cells slots hp hS (lx.of2 hl') c1 c2)
theorem x_aload_n (C : Cx z own cc Ts) {i : Fin 4} {x : Nat} (d : decode cc pc = .ok (.aload_n i, 1)) (g : L[(i : Nat)]? = some (some (.ref x)))
    (k : X z kc ks A (pc + 1) L (.ref x :: st)) : X z kc ks A pc L st := by
  intro H locs ls cells slots hp hS hl c1 c2
  exact lv_aload_n C.x C.b d rfl (hl.at g) (k H locs ls cells slots hp hS hl c1 c2)
theorem x_aload (C : Cx z own cc Ts) {i : Nat} {x : Nat} (d : decode cc pc = .ok (.aload i, 2)) (g : L[i]? = some (some (.ref x)))
    (k : X z kc ks A (pc + 2) L (.ref x :: st)) : X z kc ks A pc L st := by
  intro H locs ls cells slots hp hS hl c1 c2
  exact lv_aload C.x C.b d (hl.at g) (k H locs ls cells slots hp hS hl c1 c2)
theorem x_astore_n (C : Cx z own cc Ts) {i : Fin 4} {x : Nat} (d : decode cc pc = .ok (.astore_n i, 1)) (g : (i : Nat) < z.nL)
    (k : X z kc ks A (pc + 1) (lst1 L i (.ref x)) st) : X z kc ks A pc L (.ref x :: st) := by
  intro H locs ls cells slots hp hS hl c1 c2
  exact lv_astore_n C.x C.b d rfl hl.has g rfl (fun ls' hl' => k H locs ls' cells slots hp hS (lx.of1 hl') c1 c2)
theorem x_astore (C : Cx z own cc Ts) {i : Nat} {x : Nat} (d : decode cc pc = .ok (.astore i, 2)) (g : i < z.nL)
    (k : X z kc ks A (pc + 2) (lst1 L i (.ref x)) st) : X z kc ks A pc L (.ref x :: st) := by
  intro H locs ls cells slots hp hS hl c1 c2
  exact lv_astore C.x C.b d hl.has g rfl (fun ls' hl' => k H locs ls' cells slots hp hS (lx.of1 hl') c1 c2)
theorem x_aload_nN (C : Cx z own cc Ts) {i : Fin 4} (d : decode cc pc = .ok (.aload_n i, 1)) (g : L[(i : Nat)]? = some (some .null))
    (k : X z kc ks A (pc + 1) L (.null :: st)) : X z kc ks A pc L st := by
  intro H locs ls cells slots hp hS hl c1 c2
  exact lv_aload_nN C.x C.b d rfl (hl.at g) (k H locs ls cells slots hp hS hl c1 c2)
theorem x_aloadN (C : Cx z own cc Ts) {i : Nat} (d : decode cc pc = .ok (.aload i, 2)) (g : L[i]? = some (some .null))
    (k : X z kc ks A (pc + 2) L (.null :: st)) : X z kc ks A pc L st := by
  intro H locs ls cells slots hp hS hl c1 c2
  exact lv_aloadN C.x C.b d (hl.at g) (k H locs ls cells slots hp hS hl c1 c2)
theorem x_astore_nN (C : Cx z own cc Ts) {i : Fin 4} (d : decode cc pc = .ok (.astore_n i, 1)) (g : (i : Nat) < z.nL)
    (k : X z kc ks A (pc + 1) (lst1 L i .null) st) : X z kc ks A pc L (.null :: st) := by
  intro H locs ls cells slots hp hS hl c1 c2
  exact lv_astore_nN C.x C.b d rfl hl.has g rfl (fun ls' hl' => k H locs ls' cells slots hp hS (lx.of1 hl') c1 c2)
theorem x_astoreN (C : Cx z own cc Ts) {i : Nat} (d : decode cc pc = .ok (.astore i, 2)) (g : i < z.nL)
    (k : X z kc ks A (pc + 2) (lst1 L i .null) st) : X z kc ks A pc L (.null :: st) := by
  intro H locs ls cells slots hp hS hl c1 c2
  exact lv_astoreN C.x C.b d hl.has g rfl (fun ls' hl' => k H locs ls' cells slots hp hS (lx.of1 hl') c1 c2)
theorem x_iinc (C : Cx z own cc Ts) {i : Nat} {n : Int} {x v : Int32} (d : decode cc pc = .ok (.iinc i n, 3)) (g : L[i]? = some (some (.int x))) (hv : x + Int32.ofInt n = v) (gn : i < z.nL)
    (k : X z kc ks A (pc + 3) (lst1 L i (.int v)) st) : X z kc ks A pc L st := by
  intro H locs ls cells slots hp hS hl c1 c2
  obtain ⟨j, hj⟩ := List.getElem?_of_mem (lpr_mem (L := L) (i := 0) (q := (i, Value.int x)) |>.mpr ⟨i, by simp, g⟩)
  exact lv_iinc C.x C.b d hl.has hj hv gn rfl (fun ls' hl' => k H locs ls' cells slots hp hS (lx.of1 hl') c1 c2)
theorem x_if_eq (C : Cx z own cc Ts) {x : Int32} {off : Int} {tgt : Nat} (d : decode cc pc = .ok (.ifCond .eq off, 3)) (ht : (pc : Int) + off = (tgt : Int))
    (kt : x = 0 → X z kc ks A tgt L st) (kf : ¬ x = 0 → X z kc ks A (pc + 3) L st) : X z kc ks A pc L (.int x :: st) := by
  intro H locs ls cells slots hp hS hl c1 c2
  exact lv_if_eq C.x C.b d ht (fun g => kt g H locs ls cells slots hp hS hl c1 c2) (fun g => kf g H locs ls cells slots hp hS hl c1 c2)
theorem x_icmp_eq (C : Cx z own cc Ts) {x y : Int32} {off : Int} {tgt : Nat} (d : decode cc pc = .ok (.if_icmp .eq off, 3)) (ht : (pc : Int) + off = (tgt : Int))
    (kt : x = y → X z kc ks A tgt L st) (kf : ¬ x = y → X z kc ks A (pc + 3) L st) : X z kc ks A pc L (.int y :: .int x :: st) := by
  intro H locs ls cells slots hp hS hl c1 c2
  exact lv_icmp_eq C.x C.b d ht (fun g => kt g H locs ls cells slots hp hS hl c1 c2) (fun g => kf g H locs ls cells slots hp hS hl c1 c2)
theorem x_if_ne (C : Cx z own cc Ts) {x : Int32} {off : Int} {tgt : Nat} (d : decode cc pc = .ok (.ifCond .ne off, 3)) (ht : (pc : Int) + off = (tgt : Int))
    (kt : ¬ x = 0 → X z kc ks A tgt L st) (kf : x = 0 → X z kc ks A (pc + 3) L st) : X z kc ks A pc L (.int x :: st) := by
  intro H locs ls cells slots hp hS hl c1 c2
  exact lv_if_ne C.x C.b d ht (fun g => kt g H locs ls cells slots hp hS hl c1 c2) (fun g => kf g H locs ls cells slots hp hS hl c1 c2)
theorem x_icmp_ne (C : Cx z own cc Ts) {x y : Int32} {off : Int} {tgt : Nat} (d : decode cc pc = .ok (.if_icmp .ne off, 3)) (ht : (pc : Int) + off = (tgt : Int))
    (kt : ¬ x = y → X z kc ks A tgt L st) (kf : x = y → X z kc ks A (pc + 3) L st) : X z kc ks A pc L (.int y :: .int x :: st) := by
  intro H locs ls cells slots hp hS hl c1 c2
  exact lv_icmp_ne C.x C.b d ht (fun g => kt g H locs ls cells slots hp hS hl c1 c2) (fun g => kf g H locs ls cells slots hp hS hl c1 c2)
theorem x_if_lt (C : Cx z own cc Ts) {x : Int32} {off : Int} {tgt : Nat} (d : decode cc pc = .ok (.ifCond .lt off, 3)) (ht : (pc : Int) + off = (tgt : Int))
    (kt : x < 0 → X z kc ks A tgt L st) (kf : ¬ x < 0 → X z kc ks A (pc + 3) L st) : X z kc ks A pc L (.int x :: st) := by
  intro H locs ls cells slots hp hS hl c1 c2
  exact lv_if_lt C.x C.b d ht (fun g => kt g H locs ls cells slots hp hS hl c1 c2) (fun g => kf g H locs ls cells slots hp hS hl c1 c2)
theorem x_icmp_lt (C : Cx z own cc Ts) {x y : Int32} {off : Int} {tgt : Nat} (d : decode cc pc = .ok (.if_icmp .lt off, 3)) (ht : (pc : Int) + off = (tgt : Int))
    (kt : x < y → X z kc ks A tgt L st) (kf : ¬ x < y → X z kc ks A (pc + 3) L st) : X z kc ks A pc L (.int y :: .int x :: st) := by
  intro H locs ls cells slots hp hS hl c1 c2
  exact lv_icmp_lt C.x C.b d ht (fun g => kt g H locs ls cells slots hp hS hl c1 c2) (fun g => kf g H locs ls cells slots hp hS hl c1 c2)
theorem x_if_ge (C : Cx z own cc Ts) {x : Int32} {off : Int} {tgt : Nat} (d : decode cc pc = .ok (.ifCond .ge off, 3)) (ht : (pc : Int) + off = (tgt : Int))
    (kt : 0 ≤ x → X z kc ks A tgt L st) (kf : ¬ 0 ≤ x → X z kc ks A (pc + 3) L st) : X z kc ks A pc L (.int x :: st) := by
  intro H locs ls cells slots hp hS hl c1 c2
  exact lv_if_ge C.x C.b d ht (fun g => kt g H locs ls cells slots hp hS hl c1 c2) (fun g => kf g H locs ls cells slots hp hS hl c1 c2)
theorem x_icmp_ge (C : Cx z own cc Ts) {x y : Int32} {off : Int} {tgt : Nat} (d : decode cc pc = .ok (.if_icmp .ge off, 3)) (ht : (pc : Int) + off = (tgt : Int))
    (kt : y ≤ x → X z kc ks A tgt L st) (kf : ¬ y ≤ x → X z kc ks A (pc + 3) L st) : X z kc ks A pc L (.int y :: .int x :: st) := by
  intro H locs ls cells slots hp hS hl c1 c2
  exact lv_icmp_ge C.x C.b d ht (fun g => kt g H locs ls cells slots hp hS hl c1 c2) (fun g => kf g H locs ls cells slots hp hS hl c1 c2)
theorem x_if_gt (C : Cx z own cc Ts) {x : Int32} {off : Int} {tgt : Nat} (d : decode cc pc = .ok (.ifCond .gt off, 3)) (ht : (pc : Int) + off = (tgt : Int))
    (kt : 0 < x → X z kc ks A tgt L st) (kf : ¬ 0 < x → X z kc ks A (pc + 3) L st) : X z kc ks A pc L (.int x :: st) := by
  intro H locs ls cells slots hp hS hl c1 c2
  exact lv_if_gt C.x C.b d ht (fun g => kt g H locs ls cells slots hp hS hl c1 c2) (fun g => kf g H locs ls cells slots hp hS hl c1 c2)
theorem x_icmp_gt (C : Cx z own cc Ts) {x y : Int32} {off : Int} {tgt : Nat} (d : decode cc pc = .ok (.if_icmp .gt off, 3)) (ht : (pc : Int) + off = (tgt : Int))
    (kt : y < x → X z kc ks A tgt L st) (kf : ¬ y < x → X z kc ks A (pc + 3) L st) : X z kc ks A pc L (.int y :: .int x :: st) := by
  intro H locs ls cells slots hp hS hl c1 c2
  exact lv_icmp_gt C.x C.b d ht (fun g => kt g H locs ls cells slots hp hS hl c1 c2) (fun g => kf g H locs ls cells slots hp hS hl c1 c2)
theorem x_if_le (C : Cx z own cc Ts) {x : Int32} {off : Int} {tgt : Nat} (d : decode cc pc = .ok (.ifCond .le off, 3)) (ht : (pc : Int) + off = (tgt : Int))
    (kt : x ≤ 0 → X z kc ks A tgt L st) (kf : ¬ x ≤ 0 → X z kc ks A (pc + 3) L st) : X z kc ks A pc L (.int x :: st) := by
  intro H locs ls cells slots hp hS hl c1 c2
  exact lv_if_le C.x C.b d ht (fun g => kt g H locs ls cells slots hp hS hl c1 c2) (fun g => kf g H locs ls cells slots hp hS hl c1 c2)
theorem x_icmp_le (C : Cx z own cc Ts) {x y : Int32} {off : Int} {tgt : Nat} (d : decode cc pc = .ok (.if_icmp .le off, 3)) (ht : (pc : Int) + off = (tgt : Int))
    (kt : x ≤ y → X z kc ks A tgt L st) (kf : ¬ x ≤ y → X z kc ks A (pc + 3) L st) : X z kc ks A pc L (.int y :: .int x :: st) := by
  intro H locs ls cells slots hp hS hl c1 c2
  exact lv_icmp_le C.x C.b d ht (fun g => kt g H locs ls cells slots hp hS hl c1 c2) (fun g => kf g H locs ls cells slots hp hS hl c1 c2)
theorem x_goto (C : Cx z own cc Ts) {off : Int} {tgt : Nat} (d : decode cc pc = .ok (.goto off, 3)) (ht : (pc : Int) + off = (tgt : Int)) (k : X z kc ks A tgt L st) : X z kc ks A pc L st := by
  intro H locs ls cells slots hp hS hl c1 c2
  exact lv_goto C.x C.b d ht (k H locs ls cells slots hp hS hl c1 c2)
theorem x_ifnull (C : Cx z own cc Ts) {a : Nat} {off : Int} (d : decode cc pc = .ok (.ifnull off, 3)) (k : X z kc ks A (pc + 3) L st) : X z kc ks A pc L (.ref a :: st) := by
  intro H locs ls cells slots hp hS hl c1 c2
  exact lv_ifnull C.x C.b d (k H locs ls cells slots hp hS hl c1 c2)
theorem x_ifnullN (C : Cx z own cc Ts) {off : Int} {tgt : Nat} (d : decode cc pc = .ok (.ifnull off, 3)) (ht : (pc : Int) + off = (tgt : Int)) (k : X z kc ks A tgt L st) : X z kc ks A pc L (.null :: st) := by
  intro H locs ls cells slots hp hS hl c1 c2
  exact lv_ifnullN C.x C.b d ht (k H locs ls cells slots hp hS hl c1 c2)
theorem x_ifnonnull (C : Cx z own cc Ts) {a : Nat} {off : Int} {tgt : Nat} (d : decode cc pc = .ok (.ifnonnull off, 3)) (ht : (pc : Int) + off = (tgt : Int)) (k : X z kc ks A tgt L st) : X z kc ks A pc L (.ref a :: st) := by
  intro H locs ls cells slots hp hS hl c1 c2
  exact lv_ifnonnull C.x C.b d ht (k H locs ls cells slots hp hS hl c1 c2)
theorem x_ifnonnullN (C : Cx z own cc Ts) {off : Int} (d : decode cc pc = .ok (.ifnonnull off, 3)) (k : X z kc ks A (pc + 3) L st) : X z kc ks A pc L (.null :: st) := by
  intro H locs ls cells slots hp hS hl c1 c2
  exact lv_ifnonnullN C.x C.b d (k H locs ls cells slots hp hS hl c1 c2)
theorem x_ldc (C : Cx z own cc Ts) {index : Nat} {v : Int32} (w : Jvm.Cond.constant own index v ∈ Ts) (d : decode cc pc = .ok (.ldc index, 2)) (k : X z kc ks A (pc + 2) L (.int v :: st)) : X z kc ks A pc L st := by
  intro H locs ls cells slots hp hS hl c1 c2
  exact lv_ldc C.x C.b C.ow (C.ts _ w) d (k H locs ls cells slots hp hS hl c1 c2)
theorem x_ldc2 (C : Cx z own cc Ts) {index : Nat} {v : Int64} (w : Jvm.Cond.constantLong own index v ∈ Ts) (d : decode cc pc = .ok (.ldc2_w index, 3)) (k : X z kc ks A (pc + 3) L (.long v :: st)) : X z kc ks A pc L st := by
  intro H locs ls cells slots hp hS hl c1 c2
  exact lv_ldc2 C.x C.b C.ow (C.ts _ w) d (k H locs ls cells slots hp hS hl c1 c2)
theorem x_tblOut (C : Cx z own cc Ts) {dflt lo hi : Int} {offs : Array Int} {len : Nat} {x : Int32} {tgt : Nat} (d : decode cc pc = .ok (.tableswitch dflt lo hi offs, len)) (g : x.toInt < lo ∨ hi < x.toInt) (ht : (pc : Int) + dflt = (tgt : Int)) (k : X z kc ks A tgt L st) : X z kc ks A pc L (.int x :: st) := by
  intro H locs ls cells slots hp hS hl c1 c2
  exact lv_tableOut C.x C.b d g ht (k H locs ls cells slots hp hS hl c1 c2)
theorem x_tblIn (C : Cx z own cc Ts) {dflt lo hi : Int} {offs : Array Int} {len : Nat} {x : Int32} {off : Int} {tgt : Nat} (d : decode cc pc = .ok (.tableswitch dflt lo hi offs, len)) (g1 : ¬ x.toInt < lo) (g2 : ¬ hi < x.toInt) (ho : offs[(x.toInt - lo).toNat]? = some off) (ht : (pc : Int) + off = (tgt : Int)) (k : X z kc ks A tgt L st) : X z kc ks A pc L (.int x :: st) := by
  intro H locs ls cells slots hp hS hl c1 c2
  exact lv_tableIn C.x C.b d g1 g2 ho ht (k H locs ls cells slots hp hS hl c1 c2)
theorem x_lookup (C : Cx z own cc Ts) {dflt : Int} {ps : Array (Int × Int)} {len : Nat} {x : Int32} {off : Int} {tgt : Nat} (d : decode cc pc = .ok (.lookupswitch dflt ps, len)) (hp0 : (ps.toList.zip (ps.toList.drop 1)).all (fun (a, next) => a.1 < next.1) = true) (ho : Op.lookupswitch.offset ps.toList dflt x.toInt = off) (ht : (pc : Int) + off = (tgt : Int)) (k : X z kc ks A tgt L st) : X z kc ks A pc L (.int x :: st) := by
  intro H locs ls cells slots hp hS hl c1 c2
  exact lv_lookup C.x C.b d hp0 ho ht (k H locs ls cells slots hp hS hl c1 c2)
end Rows
end
section
/-! Rows of X for fields, arrays, new things. By program (wip/mkheap.py). -/
section Rows
variable {z : Fx} {own : String} {cc : ByteArray} {Ts : List Cond} {kc ks pc : Nat} {A B : PH → Prop} {L : List (Option Value)} {st : List Value}
theorem hp_get {D : va_G} {cl : List vw_C} {base : Nat} {h : PH} {H : Heap} {LP : List Nat} {f : Nat → va_E} {a : Nat} {e : va_E} (q1 : ∀ a e, h a = some e → a ∈ LP ∧ f a = e) (g : h a = some e) : ∃ k : Nat, (va_pl LP f)[k]? = some (a, e) := by
  obtain ⟨g1, g2⟩ := q1 a e g
  subst g2
  exact va_pl_get (X := []) g1
theorem hp_set {D : va_G} {cl : List vw_C} {base : Nat} {h : PH} {H1 : Heap} {LP : List Nat} {f : Nat → va_E} {a k : Nat} {e e1 : va_E} (q1 : ∀ a e, h a = some e → a ∈ LP ∧ f a = e) (q3 : va_D (fun q : Nat => base ≤ q) (va_pl LP f)) (g : h a = some e) (hk : (va_pl LP f)[k]? = some (a, e)) (hP : va_P D cl ((va_pl LP f).set k (a, e1)) H1) : hp_in D cl base (hs h a e1) H1 := by
  obtain ⟨g1, g2⟩ := q1 a e g
  have hk2 : ([] ++ va_pl LP f)[k]? = some (a, f a) := by rw [g2]; exact hk
  have e2 := va_pl_set (X := []) (e := e1) q3 g1 hk2
  refine ⟨LP, va_up f a e1, fun b eb gb => ?_, by have := hP; rw [show (va_pl LP f).set k (a, e1) = va_pl LP (va_up f a e1) from e2] at this; exact this, ?_⟩
  · by_cases hb : b = a
    · subst hb
      rw [hs_self] at gb
      exact ⟨g1, by rw [va_up_self]; exact Option.some.inj gb⟩
    · rw [hs_ne hb] at gb
      exact ⟨(q1 b eb gb).1, by rw [va_up_ne _ _ hb]; exact (q1 b eb gb).2⟩
  · have := va_D.set (e := e1) q3 hk
    rw [show (va_pl LP f).set k (a, e1) = va_pl LP (va_up f a e1) from e2] at this
    exact this
theorem hp_new {D : va_G} {cl : List vw_C} {base : Nat} {h : PH} {H1 : Heap} {LP : List Nat} {f : Nat → va_E} {q : Nat} {e1 : va_E} (q1 : ∀ a e, h a = some e → a ∈ LP ∧ f a = e) (hP : va_P D cl (va_pl LP f ++ [(q, e1)]) H1) (hD : va_D (fun q : Nat => base ≤ q) (va_pl LP f ++ [(q, e1)])) : h q = none ∧ hp_in D cl base (hs h q e1) H1 := by
  have hq : q ∉ LP := by
    intro hq
    obtain ⟨k, hk⟩ := va_pl_get (X := []) (f := f) hq
    have hk : (va_pl LP f)[k]? = some (q, f q) := hk
    have hl := (List.getElem?_eq_some_iff.mp hk).1
    have := hD.1 k (va_pl LP f).length (q, f q) (q, e1) (by rw [List.getElem?_append_left hl]; exact hk) (by rw [List.getElem?_append_right (Nat.le_refl _), Nat.sub_self]; rfl) rfl
    omega
  refine ⟨?_, LP ++ [q], va_up f q e1, fun b eb gb => ?_, by rw [← va_pl_push hq]; exact hP, by rw [← va_pl_push hq]; exact hD⟩
  · cases hh : h q with
    | none => rfl
    | some e => exact absurd (q1 q e hh).1 hq
  · by_cases hb : b = q
    · subst hb
      rw [hs_self] at gb
      exact ⟨List.mem_append_right _ (List.mem_singleton.mpr rfl), by rw [va_up_self]; exact Option.some.inj gb⟩
    · rw [hs_ne hb] at gb
      exact ⟨List.mem_append_left _ (q1 b eb gb).1, by rw [va_up_ne _ _ hb]; exact (q1 b eb gb).2⟩
/-- what the tables say of a class ci: its place, its words, its types, its names -/
def Kd (cl : List vw_C) (Ts : List Cond) (ci : Nat) (C : String) (T : u_T) (N : Nat) (ty : Nat → FieldType) : Prop := cl[ci]? = some (C, T, N) ∧ (∀ w ∈ u_ws C T N, w ∈ Ts) ∧ (∀ k, k < N → parseFieldDescriptor (T k).2.2.1 = some (ty k)) ∧ (∀ a, a < N → ∀ b, b < N → a ≠ b → (T a).2.1 ≠ (T b).2.1)
theorem x_get (C : Cx z own cc Ts) {Cn : String} {T : u_T} {N ci index : Nat} {ty : Nat → FieldType} (kd : Kd z.cl Ts ci Cn T N ty) (k : Nat) (hk : k < N) (w : Cond.fieldLink own index (T k).1 (T k).2.1 (T k).2.2.1 ∈ Ts) (d : decode cc pc = .ok (.getfield index, 3)) {a : Nat} {fs : List Value} {v : Value} (g : ∀ h, A h → h a = some (.inr (ci, fs))) (gv : fs[k]? = some v)
    (kk : X z kc ks A (pc + 3) L (v :: st)) : X z kc ks A pc L (.ref a :: st) := by
  intro H locs ls cells slots ⟨h, hA, LP, f, q1, q2, q3⟩ hS hl c1 c2
  obtain ⟨q0, hq0⟩ := hp_get (D := z.D) (cl := z.cl) (base := z.base) (H := H) q1 (g h hA)
  exact va_get C.x C.b C.ts kd.2.1 C.ow C.K q2 q0 hq0 kd.1 k hk (C.ts _ w) (fun _ h9 => h9) gv d (kk H locs ls cells slots ⟨h, hA, LP, f, q1, q2, q3⟩ hS hl c1 c2)
theorem x_put (C : Cx z own cc Ts) {Cn : String} {T : u_T} {N ci index : Nat} {ty : Nat → FieldType} (kd : Kd z.cl Ts ci Cn T N ty) (k : Nat) (hk : k < N) (hfin : (T k).2.2.2 = false) (w : Cond.fieldLink own index (T k).1 (T k).2.1 (T k).2.2.1 ∈ Ts) (d : decode cc pc = .ok (.putfield index, 3)) {a : Nat} {fs : List Value} {v : Value} (g : ∀ h, A h → h a = some (.inr (ci, fs))) (gl : k < fs.length) (hn : narrow (ty k) v = v) (hf : fits (ty k) v = true)
    (g' : ∀ h, A h → B (hs h a (.inr (ci, fs.set k v)))) (kk : X z kc ks B (pc + 3) L st) : X z kc ks A pc L (v :: .ref a :: st) := by
  intro H locs ls cells slots ⟨h, hA, LP, f, q1, q2, q3⟩ hS hl c1 c2
  obtain ⟨q0, hq0⟩ := hp_get (D := z.D) (cl := z.cl) (base := z.base) (H := H) q1 (g h hA)
  exact va_put C.x C.b C.ts kd.2.1 ty kd.2.2.1 kd.2.2.2 C.ow C.K q2 q3 hS q0 hq0 kd.1 k hk (C.ts _ w) (fun _ h9 => h9) hfin (kd.2.2.1 k hk) hn hf gl d (fun H1 locs1 hP1 hD1 hS1 => kk H1 locs1 ls cells slots ⟨_, g' h hA, hp_set q1 q3 (g h hA) hq0 hP1⟩ hS1 hl c1 c2)
theorem x_putF (C : Cx z own cc Ts) (hin : z.meth.name = "<init>") {Cn : String} {T : u_T} {N ci index : Nat} {ty : Nat → FieldType} (kd : Kd z.cl Ts ci Cn T N ty) (k : Nat) (hk : k < N) (hfin : (T k).2.2.2 = true) (hown : (T k).1 = own) (w : Cond.fieldLink own index (T k).1 (T k).2.1 (T k).2.2.1 ∈ Ts) (d : decode cc pc = .ok (.putfield index, 3)) {a : Nat} {fs : List Value} {v : Value} (g : ∀ h, A h → h a = some (.inr (ci, fs))) (gl : k < fs.length) (hn : narrow (ty k) v = v) (hf : fits (ty k) v = true)
    (g' : ∀ h, A h → B (hs h a (.inr (ci, fs.set k v)))) (kk : X z kc ks B (pc + 3) L st) : X z kc ks A pc L (v :: .ref a :: st) := by
  intro H locs ls cells slots ⟨h, hA, LP, f, q1, q2, q3⟩ hS hl c1 c2
  obtain ⟨q0, hq0⟩ := hp_get (D := z.D) (cl := z.cl) (base := z.base) (H := H) q1 (g h hA)
  exact va_putF C.x C.b C.ts kd.2.1 ty kd.2.2.1 kd.2.2.2 C.ow C.K q2 q3 hS q0 hq0 kd.1 k hk (C.ts _ w) (fun _ h9 => h9) hfin hin hown (kd.2.2.1 k hk) hn hf gl d (fun H1 locs1 hP1 hD1 hS1 => kk H1 locs1 ls cells slots ⟨_, g' h hA, hp_set q1 q3 (g h hA) hq0 hP1⟩ hS1 hl c1 c2)
theorem x_iald (C : Cx z own cc Ts) {t0 : Nat} {cA : ClassId} (ht : z.tys[t0]? = some (cA, .int)) (d : decode cc pc = .ok (.iaload, 1)) {a n : Nat} {f : Nat → Int32} {i : Int32} (g : ∀ h, A h → h a = some (.inl (cA, n, .inl f))) (gi : vp_in i n)
    (kk : X z kc ks A (pc + 1) L (.int (f i.toNatClampNeg) :: st)) : X z kc ks A pc L (.int i :: .ref a :: st) := by
  intro H locs ls cells slots ⟨h, hA, LP, f0, q1, q2, q3⟩ hS hl c1 c2
  obtain ⟨q0, hq0⟩ := hp_get (D := z.D) (cl := z.cl) (base := z.base) (H := H) q1 (g h hA)
  exact va_iald C.x C.b C.K q2 q0 t0 hq0 ht gi d (kk H locs ls cells slots ⟨h, hA, LP, f0, q1, q2, q3⟩ hS hl c1 c2)
theorem x_zald (C : Cx z own cc Ts) {t0 : Nat} {cA : ClassId} (ht : z.tys[t0]? = some (cA, .boolean)) (d : decode cc pc = .ok (.baload, 1)) {a n : Nat} {f : Nat → Int32} {i : Int32} (g : ∀ h, A h → h a = some (.inl (cA, n, .inl f))) (gi : vp_in i n)
    (kk : X z kc ks A (pc + 1) L (.int (f i.toNatClampNeg) :: st)) : X z kc ks A pc L (.int i :: .ref a :: st) := by
  intro H locs ls cells slots ⟨h, hA, LP, f0, q1, q2, q3⟩ hS hl c1 c2
  obtain ⟨q0, hq0⟩ := hp_get (D := z.D) (cl := z.cl) (base := z.base) (H := H) q1 (g h hA)
  exact va_zald C.x C.b C.K q2 q0 t0 hq0 ht gi d (kk H locs ls cells slots ⟨h, hA, LP, f0, q1, q2, q3⟩ hS hl c1 c2)
theorem x_lald (C : Cx z own cc Ts) {t0 : Nat} {cA : ClassId} (ht : z.tys[t0]? = some (cA, .long)) (d : decode cc pc = .ok (.laload, 1)) {a n : Nat} {f : Nat → Int64} {i : Int32} (g : ∀ h, A h → h a = some (.inl (cA, n, .inr (.inl f)))) (gi : vp_in i n)
    (kk : X z kc ks A (pc + 1) L (.long (f i.toNatClampNeg) :: st)) : X z kc ks A pc L (.int i :: .ref a :: st) := by
  intro H locs ls cells slots ⟨h, hA, LP, f0, q1, q2, q3⟩ hS hl c1 c2
  obtain ⟨q0, hq0⟩ := hp_get (D := z.D) (cl := z.cl) (base := z.base) (H := H) q1 (g h hA)
  exact va_lald C.x C.b C.K q2 q0 t0 hq0 ht gi d (kk H locs ls cells slots ⟨h, hA, LP, f0, q1, q2, q3⟩ hS hl c1 c2)
theorem x_aald (C : Cx z own cc Ts) {t0 : Nat} {cA : ClassId} {Cn : String} (ht : z.tys[t0]? = some (cA, .object Cn)) (d : decode cc pc = .ok (.aaload, 1)) {a n : Nat} {f : Nat → Option Nat} {i : Int32} (g : ∀ h, A h → h a = some (.inl (cA, n, .inr (.inr (.inr (.inr f)))))) (gi : vp_in i n)
    (kk : X z kc ks A (pc + 1) L (va_rf (f i.toNatClampNeg) :: st)) : X z kc ks A pc L (.int i :: .ref a :: st) := by
  intro H locs ls cells slots ⟨h, hA, LP, f0, q1, q2, q3⟩ hS hl c1 c2
  obtain ⟨q0, hq0⟩ := hp_get (D := z.D) (cl := z.cl) (base := z.base) (H := H) q1 (g h hA)
  exact va_aldq C.x C.b C.K q2 q0 t0 hq0 ht gi d (kk H locs ls cells slots ⟨h, hA, LP, f0, q1, q2, q3⟩ hS hl c1 c2)
theorem x_alen (C : Cx z own cc Ts) {t0 : Nat} {cA : ClassId} {ty : FieldType} (ht : z.tys[t0]? = some (cA, ty)) (d : decode cc pc = .ok (.arraylength, 1)) {a : Nat} {x : vp_A} {v : Int32} (g : ∀ h, A h → h a = some (.inl (cA, x))) (hv : Int32.ofNat x.1 = v)
    (kk : X z kc ks A (pc + 1) L (.int v :: st)) : X z kc ks A pc L (.ref a :: st) := by
  intro H locs ls cells slots ⟨h, hA, LP, f0, q1, q2, q3⟩ hS hl c1 c2
  obtain ⟨q0, hq0⟩ := hp_get (D := z.D) (cl := z.cl) (base := z.base) (H := H) q1 (g h hA)
  exact va_alen C.x C.b C.K q2 q0 t0 hq0 ht hv d (kk H locs ls cells slots ⟨h, hA, LP, f0, q1, q2, q3⟩ hS hl c1 c2)
theorem x_iast (C : Cx z own cc Ts) {t0 : Nat} {cA : ClassId} (ht : z.tys[t0]? = some (cA, .int)) (d : decode cc pc = .ok (.iastore, 1)) {a n : Nat} {f : Nat → Int32} {i : Int32} {x : Int32} (g : ∀ h, A h → h a = some (.inl (cA, n, .inl f))) (gi : vp_in i n)
    (g' : ∀ h, A h → B (hs h a (.inl (cA, n, .inl (upd f i.toNatClampNeg x))))) (kk : X z kc ks B (pc + 1) L st) : X z kc ks A pc L (.int x :: .int i :: .ref a :: st) := by
  intro H locs ls cells slots ⟨h, hA, LP, f0, q1, q2, q3⟩ hS hl c1 c2
  obtain ⟨q0, hq0⟩ := hp_get (D := z.D) (cl := z.cl) (base := z.base) (H := H) q1 (g h hA)
  exact va_iast C.x C.b C.K q2 q3 hS q0 t0 hq0 ht gi d (fun H1 locs1 hP1 hD1 hS1 => kk H1 locs1 ls cells slots ⟨_, g' h hA, hp_set q1 q3 (g h hA) hq0 hP1⟩ hS1 hl c1 c2)
theorem x_zast (C : Cx z own cc Ts) {t0 : Nat} {cA : ClassId} (ht : z.tys[t0]? = some (cA, .boolean)) (d : decode cc pc = .ok (.bastore, 1)) {a n : Nat} {f : Nat → Int32} {i : Int32} {x : Int32} (g : ∀ h, A h → h a = some (.inl (cA, n, .inl f))) (gi : vp_in i n)
    (g' : ∀ h, A h → B (hs h a (.inl (cA, n, .inl (upd f i.toNatClampNeg (vp_nar .boolean x)))))) (kk : X z kc ks B (pc + 1) L st) : X z kc ks A pc L (.int x :: .int i :: .ref a :: st) := by
  intro H locs ls cells slots ⟨h, hA, LP, f0, q1, q2, q3⟩ hS hl c1 c2
  obtain ⟨q0, hq0⟩ := hp_get (D := z.D) (cl := z.cl) (base := z.base) (H := H) q1 (g h hA)
  exact va_zast C.x C.b C.K q2 q3 hS q0 t0 hq0 ht gi d (fun H1 locs1 hP1 hD1 hS1 => kk H1 locs1 ls cells slots ⟨_, g' h hA, hp_set q1 q3 (g h hA) hq0 hP1⟩ hS1 hl c1 c2)
theorem x_last (C : Cx z own cc Ts) {t0 : Nat} {cA : ClassId} (ht : z.tys[t0]? = some (cA, .long)) (d : decode cc pc = .ok (.lastore, 1)) {a n : Nat} {f : Nat → Int64} {i : Int32} {x : Int64} (g : ∀ h, A h → h a = some (.inl (cA, n, .inr (.inl f)))) (gi : vp_in i n)
    (g' : ∀ h, A h → B (hs h a (.inl (cA, n, .inr (.inl (vp_updL f i.toNatClampNeg x)))))) (kk : X z kc ks B (pc + 1) L st) : X z kc ks A pc L (.long x :: .int i :: .ref a :: st) := by
  intro H locs ls cells slots ⟨h, hA, LP, f0, q1, q2, q3⟩ hS hl c1 c2
  obtain ⟨q0, hq0⟩ := hp_get (D := z.D) (cl := z.cl) (base := z.base) (H := H) q1 (g h hA)
  exact va_last C.x C.b C.K q2 q3 hS q0 t0 hq0 ht gi d (fun H1 locs1 hP1 hD1 hS1 => kk H1 locs1 ls cells slots ⟨_, g' h hA, hp_set q1 q3 (g h hA) hq0 hP1⟩ hS1 hl c1 c2)
theorem x_aast (C : Cx z own cc Ts) {t0 ci : Nat} {cA : ClassId} {r : vw_C} (ht : z.tys[t0]? = some (cA, .object r.1)) (hc : z.cl[ci]? = some r) (d : decode cc pc = .ok (.aastore, 1)) {a n v : Nat} {vs : List Value} {f : Nat → Option Nat} {i : Int32} (g : ∀ h, A h → h a = some (.inl (cA, n, .inr (.inr (.inr (.inr f)))))) (gi : vp_in i n) (gv : ∀ h, A h → h v = some (.inr (ci, vs)))
    (g' : ∀ h, A h → B (hs h a (.inl (cA, n, .inr (.inr (.inr (.inr (va_up f i.toNatClampNeg (some v))))))))) (kk : X z kc ks B (pc + 1) L st) : X z kc ks A pc L (.ref v :: .int i :: .ref a :: st) := by
  intro H locs ls cells slots ⟨h, hA, LP, f0, q1, q2, q3⟩ hS hl c1 c2
  obtain ⟨q0, hq0⟩ := hp_get (D := z.D) (cl := z.cl) (base := z.base) (H := H) q1 (g h hA)
  obtain ⟨qk, hqk⟩ := hp_get (D := z.D) (cl := z.cl) (base := z.base) (H := H) q1 (gv h hA)
  exact va_astq C.x C.b C.K q2 q3 hS q0 t0 qk ci hq0 ht hqk hc gi d (fun H1 locs1 hP1 hD1 hS1 => kk H1 locs1 ls cells slots ⟨_, g' h hA, hp_set q1 q3 (g h hA) hq0 hP1⟩ hS1 hl c1 c2)
theorem x_aastN (C : Cx z own cc Ts) {t0 : Nat} {cA : ClassId} {Cn : String} (ht : z.tys[t0]? = some (cA, .object Cn)) (d : decode cc pc = .ok (.aastore, 1)) {a n : Nat} {f : Nat → Option Nat} {i : Int32} (g : ∀ h, A h → h a = some (.inl (cA, n, .inr (.inr (.inr (.inr f)))))) (gi : vp_in i n)
    (g' : ∀ h, A h → B (hs h a (.inl (cA, n, .inr (.inr (.inr (.inr (va_up f i.toNatClampNeg none)))))))) (kk : X z kc ks B (pc + 1) L st) : X z kc ks A pc L (.null :: .int i :: .ref a :: st) := by
  intro H locs ls cells slots ⟨h, hA, LP, f0, q1, q2, q3⟩ hS hl c1 c2
  obtain ⟨q0, hq0⟩ := hp_get (D := z.D) (cl := z.cl) (base := z.base) (H := H) q1 (g h hA)
  exact va_astqN C.x C.b C.K q2 q3 hS q0 t0 hq0 ht gi d (fun H1 locs1 hP1 hD1 hS1 => kk H1 locs1 ls cells slots ⟨_, g' h hA, hp_set q1 q3 (g h hA) hq0 hP1⟩ hS1 hl c1 c2)
theorem x_new (C : Cx z own cc Ts) {Cn : String} {T : u_T} {N ci index : Nat} {ty : Nat → FieldType} (kd : Kd z.cl Ts ci Cn T N ty) (w1 : Cond.classLink own index Cn ∈ Ts) (w2 : Cond.instantiable Cn N ∈ Ts) (w3 : Cond.initialized Cn ∈ Ts) (d : decode cc pc = .ok (.new index, 3)) {fs : List Value} (hfs : ∀ j, j < N → defaultValue (ty j) = vp_V fs j)
    {Bq : Nat → PH → Prop} (g' : ∀ h q, A h → h q = none → Bq q (hs h q (.inr (ci, fs)))) (kk : ∀ q : Nat, X z kc ks (Bq q) (pc + 3) L (.ref q :: st)) : X z (kc + 1) (ks + N) A pc L st := by
  intro H locs ls cells slots ⟨h, hA, LP, f, q1, q2, q3⟩ hS hl c1 c2
  have r1 := C.rc
  have r2 := C.rs
  refine va_new C.x C.b C.ts kd.2.1 ty kd.2.2.1 C.ow (C.ts _ w1) (C.ts _ w2) (C.ts _ w3) C.K q2 q3 hS C.fr kd.1 hfs (by omega) (by omega) d (fun q H1 hP1 hD1 hS1 => ?_)
  obtain ⟨g1, g2⟩ := hp_new q1 hP1 hD1
  exact kk q H1 locs ls (cells + 1) (slots + N) ⟨_, g' h q hA g1, g2⟩ hS1 hl (by omega) (by omega)
theorem x_newi (C : Cx z own cc Ts) {t0 : Nat} {cA : ClassId} (ht : z.tys[t0]? = some (cA, .int)) (w : Cond.arrayClass .int ∈ Ts) (d : decode cc pc = .ok (.newarray .int, 2)) {n : Int32} {N : Nat} (hn : ¬ n < 0) (hN : n.toNatClampNeg = N) (hb : N * 8 ≤ 536870912)
    {Bq : Nat → PH → Prop} (g' : ∀ h q, A h → h q = none → Bq q (hs h q (.inl (cA, N, .inl (fun _ => 0))))) (kk : ∀ q : Nat, X z kc ks (Bq q) (pc + 2) L (.ref q :: st)) : X z (kc + 1) (ks + N) A pc L (.int n :: st) := by
  intro H locs ls cells slots ⟨h, hA, LP, f, q1, q2, q3⟩ hS hl c1 c2
  have r1 := C.rc
  have r2 := C.rs
  refine va_newa C.x C.b (atype := .int) (C.ts _ w) rfl C.K q2 q3 hS C.fr (N' := N) (a0 := (N, .inl (fun _ => 0))) (fun _ => rfl) hn hN (Nat.le_trans (Nat.mul_le_mul_left N (show componentBytes .int ≤ 8 by decide)) hb) (by omega) (by omega) d (fun q cB H1 hK1 hP1 hD1 hS1 => ?_)
  have e1 : cB = cA := by
    have a1 := (hK1.2 z.tys.length (cB, .int) (by rw [List.getElem?_append_right (Nat.le_refl _), Nat.sub_self]; rfl)).2
    have a2 := (C.K.2 t0 (cA, .int) ht).2
    exact Option.some.inj (a1.symm.trans a2)
  subst e1
  obtain ⟨g1, g2⟩ := hp_new q1 hP1 hD1
  exact kk q H1 locs ls (cells + 1) (slots + N) ⟨_, g' h q hA g1, g2⟩ hS1 hl (by omega) (by omega)
theorem x_newl (C : Cx z own cc Ts) {t0 : Nat} {cA : ClassId} (ht : z.tys[t0]? = some (cA, .long)) (w : Cond.arrayClass .long ∈ Ts) (d : decode cc pc = .ok (.newarray .long, 2)) {n : Int32} {N : Nat} (hn : ¬ n < 0) (hN : n.toNatClampNeg = N) (hb : N * 8 ≤ 536870912)
    {Bq : Nat → PH → Prop} (g' : ∀ h q, A h → h q = none → Bq q (hs h q (.inl (cA, N, .inr (.inl (fun _ => 0)))))) (kk : ∀ q : Nat, X z kc ks (Bq q) (pc + 2) L (.ref q :: st)) : X z (kc + 1) (ks + N) A pc L (.int n :: st) := by
  intro H locs ls cells slots ⟨h, hA, LP, f, q1, q2, q3⟩ hS hl c1 c2
  have r1 := C.rc
  have r2 := C.rs
  refine va_newa C.x C.b (atype := .long) (C.ts _ w) rfl C.K q2 q3 hS C.fr (N' := N) (a0 := (N, .inr (.inl (fun _ => 0)))) (fun _ => rfl) hn hN (Nat.le_trans (Nat.mul_le_mul_left N (show componentBytes .long ≤ 8 by decide)) hb) (by omega) (by omega) d (fun q cB H1 hK1 hP1 hD1 hS1 => ?_)
  have e1 : cB = cA := by
    have a1 := (hK1.2 z.tys.length (cB, .long) (by rw [List.getElem?_append_right (Nat.le_refl _), Nat.sub_self]; rfl)).2
    have a2 := (C.K.2 t0 (cA, .long) ht).2
    exact Option.some.inj (a1.symm.trans a2)
  subst e1
  obtain ⟨g1, g2⟩ := hp_new q1 hP1 hD1
  exact kk q H1 locs ls (cells + 1) (slots + N) ⟨_, g' h q hA g1, g2⟩ hS1 hl (by omega) (by omega)
theorem x_newz (C : Cx z own cc Ts) {t0 : Nat} {cA : ClassId} (ht : z.tys[t0]? = some (cA, .boolean)) (w : Cond.arrayClass .boolean ∈ Ts) (d : decode cc pc = .ok (.newarray .boolean, 2)) {n : Int32} {N : Nat} (hn : ¬ n < 0) (hN : n.toNatClampNeg = N) (hb : N * 8 ≤ 536870912)
    {Bq : Nat → PH → Prop} (g' : ∀ h q, A h → h q = none → Bq q (hs h q (.inl (cA, N, .inl (fun _ => 0))))) (kk : ∀ q : Nat, X z kc ks (Bq q) (pc + 2) L (.ref q :: st)) : X z (kc + 1) (ks + N) A pc L (.int n :: st) := by
  intro H locs ls cells slots ⟨h, hA, LP, f, q1, q2, q3⟩ hS hl c1 c2
  have r1 := C.rc
  have r2 := C.rs
  refine va_newa C.x C.b (atype := .boolean) (C.ts _ w) rfl C.K q2 q3 hS C.fr (N' := N) (a0 := (N, .inl (fun _ => 0))) (fun _ => rfl) hn hN (Nat.le_trans (Nat.mul_le_mul_left N (show componentBytes .boolean ≤ 8 by decide)) hb) (by omega) (by omega) d (fun q cB H1 hK1 hP1 hD1 hS1 => ?_)
  have e1 : cB = cA := by
    have a1 := (hK1.2 z.tys.length (cB, .boolean) (by rw [List.getElem?_append_right (Nat.le_refl _), Nat.sub_self]; rfl)).2
    have a2 := (C.K.2 t0 (cA, .boolean) ht).2
    exact Option.some.inj (a1.symm.trans a2)
  subst e1
  obtain ⟨g1, g2⟩ := hp_new q1 hP1 hD1
  exact kk q H1 locs ls (cells + 1) (slots + N) ⟨_, g' h q hA g1, g2⟩ hS1 hl (by omega) (by omega)
theorem x_newq (C : Cx z own cc Ts) {t0 index : Nat} {cA : ClassId} {Cn : String} (ht : z.tys[t0]? = some (cA, .object Cn)) (ho : va_AO Cn z.s) (w : Cond.classLink own index Cn ∈ Ts) (d : decode cc pc = .ok (.anewarray index, 3)) {n : Int32} {N : Nat} (hn : ¬ n < 0) (hN : n.toNatClampNeg = N) (hb : N * 4 ≤ 536870912)
    {Bq : Nat → PH → Prop} (g' : ∀ h q, A h → h q = none → Bq q (hs h q (.inl (cA, N, .inr (.inr (.inr (.inr (fun _ => none)))))))) (kk : ∀ q : Nat, X z kc ks (Bq q) (pc + 3) L (.ref q :: st)) : X z (kc + 1) (ks + N) A pc L (.int n :: st) := by
  intro H locs ls cells slots ⟨h, hA, LP, f, q1, q2, q3⟩ hS hl c1 c2
  have r1 := C.rc
  have r2 := C.rs
  refine va_newq C.x C.b C.ow (C.ts _ w) ho C.K q2 q3 hS C.fr hn hN hb (by omega) (by omega) d (fun q cB H1 hK1 hP1 hD1 hS1 => ?_)
  have e1 : cB = cA := by
    obtain ⟨_, _, _, _, _, a1⟩ := (hK1.2 z.tys.length (cB, .object Cn) (by rw [List.getElem?_append_right (Nat.le_refl _), Nat.sub_self]; rfl)).2
    obtain ⟨_, _, _, _, _, a2⟩ := (C.K.2 t0 (cA, .object Cn) ht).2
    exact Option.some.inj (a1.symm.trans a2)
  subst e1
  obtain ⟨g1, g2⟩ := hp_new q1 hP1 hD1
  exact kk q H1 locs ls (cells + 1) (slots + N) ⟨_, g' h q hA g1, g2⟩ hS1 hl (by omega) (by omega)
end Rows
end
section
/-! Contracts over pure heaps, and calls. -/
/-- the world that is the same for all methods: launch, class numbers, classes, array classes, base, what is known of the machine besides -/
abbrev Wd : Type := Launch × va_G × List vw_C × List (ClassId × FieldType) × Nat × (State → Heap → Prop)
abbrev Wd.l (w : Wd) : Launch := w.1
abbrev Wd.D (w : Wd) : va_G := w.2.1
abbrev Wd.cl (w : Wd) : List vw_C := w.2.2.1
abbrev Wd.tys (w : Wd) : List (ClassId × FieldType) := w.2.2.2.1
abbrev Wd.base (w : Wd) : Nat := w.2.2.2.2.1
abbrev Wd.G (w : Wd) : State → Heap → Prop := w.2.2.2.2.2
abbrev Wd.A (w : Wd) : Nat → Prop := fun q : Nat => w.base ≤ q
/-- what is known besides stays known -/
def Wd.ok (w : Wd) : Prop := (∀ (u U : State) (H H1 : Heap), u.WarmedH U.vm → (∀ q : Nat, q < H.size → ¬ w.base ≤ q → H1[q]? = H[q]?) → w.G u H → w.G U H1) ∧ (∀ (u U : State) (H : Heap), u.vm = U.vm → w.G u H → w.G U H)
def Pz (w : Wd) (as : List Value) (A : PH → Prop) : Array Value → State → Prop := fun v U => v = as.toArray ∧ w.base ≤ U.heap.size ∧ va_K w.D w.cl w.tys U ∧ w.G U U.heap ∧ hpA w.D w.cl w.base A U.heap
def Qz (w : Wd) (P : Option Value → PH → Prop) : Array Value → State → Outcome → State → Prop := fun _ st o t => (∃ (r : Option Value) (h' : PH), o = .returned r ∧ P r h' ∧ hp_in w.D w.cl w.base h' t.heap) ∧ va_F w.A st t
/-- a contract: y, from any heap that is as A says, returns r with a heap that is as P r says -/
def T (w : Wd) (gw : List Cond) (y : MethodName) (cc : ByteArray) (n : Nat) (rt : Option FieldType) (fr lo mc ms : Nat) (as : List Value) (A : PH → Prop) (P : Option Value → PH → Prop) : Prop :=
  Met w.l y (Cond.code y cc n rt :: gw) ({ frames := fr, cells := mc, slots := ms, locals := lo }) (Pz w as A) (Qz w P) mc ms w.A
/-- the rest of what is known of the method that is walked -/
def Ct (z : Fx) (w : Wd) (gw : List Cond) (y : MethodName) (rt : Option FieldType) (fr lo : Nat) (P : Option Value → PH → Prop) : Prop :=
  z.l = w.l ∧ z.D = w.D ∧ z.cl = w.cl ∧ z.tys = w.tys ∧ z.base = w.base ∧ z.R.frames = fr ∧ z.R.locals = lo ∧ z.meth.sig.returnType = rt ∧ z.meth.locks = false ∧ z.meth.name = y.name ∧ w.G z.s z.s.heap ∧ z.Q = MQ z.below (Qz w P) z.args z.s z.mc z.ms w.A
def lent (n : Nat) (as : List Value) : List (Option Value) := match as with
  | [] => List.replicate n none
  | a :: b => if a.category = 2 then some a :: none :: lent (n - 2) b else some a :: lent (n - 1) b
theorem Pz.blind {w : Wd} (hw : w.ok) {as : List Value} {A : PH → Prop} : FrameBlind (Pz w as A) := by
  intro a U g mk ⟨q1, q2, q3, q4, q5⟩
  exact ⟨q1, q2, va_K.moved (u := U) (U := U.calling g mk a) (Vm.Alike.refl U.vm) q3, hw.2 U _ _ rfl q4, q5⟩
theorem lent_get : ∀ {as : List Value} {n k i : Nat} {v : Value}, (lent n as)[i]? = some (some v) → (k + i, v) ∈ lv_args k as := by
  intro as
  induction as with
  | nil =>
    intro n k i v g
    simp [lent, List.getElem?_replicate] at g
  | cons a b ih =>
    intro n k i v g
    unfold lent at g
    by_cases hc : a.category = 2
    · rw [if_pos hc] at g
      match i with
      | 0 => 
        simp at g
        subst g
        simp [lv_args]
      | 1 => simp at g
      | i + 2 =>
        simp at g
        have := ih (k := k + 2) g
        simp [lv_args, hc]
        have e : k + (i + 2) = k + 2 + i := by omega
        rw [e]
        exact this
    · rw [if_neg hc] at g
      have hc1 : a.category = 1 := by cases a <;> simp_all [Value.category]
      match i with
      | 0 => 
        simp at g
        subst g
        simp [lv_args]
      | i + 1 =>
        simp at g
        have := ih (k := k + 1) g
        simp [lv_args, hc1]
        have e : k + (i + 1) = k + 1 + i := by omega
        rw [e]
        exact this
/-- a contract out of the walk of the method's body -/
theorem T.intro {w : Wd} {gw : List Cond} {y : MethodName} {cc : ByteArray} {n : Nat} {rt : Option FieldType} {fr lo mc ms : Nat} {as : List Value} {A : PH → Prop} {P : Option Value → PH → Prop} (hy : plainName y.cls = true) (hlen : (lg_sl as).length ≤ n)
    (k : ∀ z : Fx, Cx z y.cls cc gw → Ct z w gw y rt fr lo P → z.nL = n → z.mc = mc → z.ms = ms → X z mc ms A 0 (lent n as) []) : T w gw y cc n rt fr lo mc ms as A P := by
  refine Met.ofW (cc := cc) (maxL := n) (ret := rt) hy rfl ?_
  intro p e s m args below meth c s₁ B hml hv
  obtain ⟨rfl, hv2, hv3, hv4, hv5⟩ := hv
  have hts := atoms_spec (ws := Cond.code y cc n rt :: gw) B.pre
  have hl := lv_entry as (n := n) hlen
  rw [lg_entry_eq]
  generalize (lg_sl as ++ List.replicate (n - (lg_sl as).length) Slot.unset).toArray = ls at hl ⊢
  have K := k ((p, w.l, e, ({ frames := fr, cells := mc, slots := ms, locals := lo } : Room), s), (m, as.toArray, below, meth, c), (w.D, w.cl, w.tys, w.base), (n, mc, ms), MQ below (Qz w P) as.toArray s mc ms w.A)
    ⟨B.exec, B.bytes, hml, findClass_of_methodNamed B.named, fun q hq => hts q (List.mem_cons_of_mem _ hq), hv3, hv2, Nat.le_refl _, Nat.le_refl _⟩
    ⟨rfl, rfl, rfl, rfl, rfl, rfl, rfl, B.returns, B.notSynchronized, (name_of_methodNamed B.named B.method).1, hv4, rfl⟩ rfl rfl rfl
  refine K s.heap [] ls 0 0 hv5 va_S.rf ⟨hl.1, hl.2.1, fun i v g => ?_⟩ (by simp [Fx.mc]) (by simp [Fx.ms])
  have := lent_get (k := 0) g
  rw [Nat.zero_add] at this
  exact hl.2.2 (i, v) this
section Rows
variable {z : Fx} {own : String} {cc : ByteArray} {gw : List Cond} {kc ks pc : Nat} {A : PH → Prop} {L : List (Option Value)} {st : List Value} {w : Wd} {y : MethodName} {rt : Option FieldType} {fr lo : Nat} {P : Option Value → PH → Prop}
theorem Ct.end_ (E : Ct z w gw y rt fr lo P) {r : Option Value} {H : Heap} {locs : List Loc} (hp : hpA z.D z.cl z.base A H) (hS : va_S (fun q : Nat => z.base ≤ q) z.s.heap H locs) (g : ∀ h, A h → P r h) : ∀ t : State, t.heap = H → z.s.WarmedH t.vm → Qz w P z.args z.s (.returned r) t := by
  obtain ⟨e1, e2, e3, e4, e5, -⟩ := E
  intro t ht _
  rw [e2, e3, e5] at hp
  rw [e5] at hS
  obtain ⟨h, hA, hp⟩ := hp
  exact ⟨⟨r, h, rfl, g h hA, by rw [ht]; exact hp⟩, hS.F ht⟩
theorem x_iret (C : Cx z own cc gw) (E : Ct z w gw y (some .int) fr lo P) (d : decode cc pc = .ok (.ireturn, 1)) {v : Int32} (g : ∀ h, A h → P (some (.int v)) h) : X z kc ks A pc L [.int v] := by
  intro H locs ls cells slots hp hS hl c1 c2
  refine W.widen (k := z.mc) (n := z.ms) (by omega) (by omega) ?_
  have hq := E.end_ hp hS g
  obtain ⟨-, -, -, -, e5, -, -, e8, e9, -, -, e12⟩ := E
  rw [e12]
  refine W.iret C.x C.b e8 hq (fun q hq => ?_) d e9
  have := hS.2.2 q hq
  rw [e5] at this
  exact this
theorem x_zret (C : Cx z own cc gw) (E : Ct z w gw y (some .boolean) fr lo P) (d : decode cc pc = .ok (.ireturn, 1)) {v : Int32} (hn : narrow .boolean (.int v) = .int v) (g : ∀ h, A h → P (some (.int v)) h) : X z kc ks A pc L [.int v] := by
  intro H locs ls cells slots hp hS hl c1 c2
  refine W.widen (k := z.mc) (n := z.ms) (by omega) (by omega) ?_
  have hq := E.end_ hp hS g
  obtain ⟨-, -, -, -, e5, -, -, e8, e9, -, -, e12⟩ := E
  rw [e12]
  refine W.zret C.x C.b e8 hn hq (fun q hq => ?_) d e9
  have := hS.2.2 q hq
  rw [e5] at this
  exact this
theorem x_lret (C : Cx z own cc gw) (E : Ct z w gw y (some .long) fr lo P) (d : decode cc pc = .ok (.lreturn, 1)) {v : Int64} (g : ∀ h, A h → P (some (.long v)) h) : X z kc ks A pc L [.long v] := by
  intro H locs ls cells slots hp hS hl c1 c2
  refine W.widen (k := z.mc) (n := z.ms) (by omega) (by omega) ?_
  have hq := E.end_ hp hS g
  obtain ⟨-, -, -, -, e5, -, -, e8, e9, -, -, e12⟩ := E
  rw [e12]
  refine W.lret C.x C.b e8 hq (fun q hq => ?_) d e9
  have := hS.2.2 q hq
  rw [e5] at this
  exact this
theorem x_vret (C : Cx z own cc gw) (E : Ct z w gw y none fr lo P) (d : decode cc pc = .ok (.return_, 1)) (g : ∀ h, A h → P none h) : X z kc ks A pc L [] := by
  intro H locs ls cells slots hp hS hl c1 c2
  refine W.widen (k := z.mc) (n := z.ms) (by omega) (by omega) ?_
  have hq := E.end_ hp hS g
  obtain ⟨-, -, -, -, e5, -, -, e8, e9, -, -, e12⟩ := E
  rw [e12]
  refine W.vret C.x C.b e8 hq (fun q hq => ?_) d e9
  have := hS.2.2 q hq
  rw [e5] at this
  exact this
theorem x_aret (C : Cx z own cc gw) {ft : FieldType} (E : Ct z w gw y (some ft) fr lo P) (hft : (∃ n, ft = .object n) ∨ ∃ t, ft = .array t) (d : decode cc pc = .ok (.areturn, 1)) {v : Value} (hv : v = .null ∨ ∃ a, v = .ref a) (g : ∀ h, A h → P (some v) h) : X z kc ks A pc L [v] := by
  intro H locs ls cells slots hp hS hl c1 c2
  refine W.widen (k := z.mc) (n := z.ms) (by omega) (by omega) ?_
  have hq := E.end_ hp hS g
  obtain ⟨-, -, -, -, e5, -, -, e8, e9, -, -, e12⟩ := E
  rw [e12]
  refine W.aret C.x C.b e8 hft hv hq (fun q hq => ?_) d e9
  have := hS.2.2 q hq
  rw [e5] at this
  exact this
/-- what the words say of a method: its code, that it is made and started, how many parameters -/
def Md (gw : List Cond) (y : MethodName) (cc : ByteArray) (n : Nat) (rt : Option FieldType) (k : Nat) : Prop := Cond.code y cc n rt ∈ gw ∧ Cond.initialized y.cls ∈ gw ∧ (y.cls ≠ "java/lang/invoke/MethodHandle" ∧ y.cls ≠ "java/lang/invoke/VarHandle" ∧ (parseMethodDescriptor y.desc).map (fun d => d.parameters.length) = some k)
def Gd (gw : List Cond) : Prop := ∀ w ∈ gw, goodWord w = true
theorem Gd.in (hg : Gd gw) {c : Cond} (hc : c ∈ gw) : GoodIn gw (c :: gw) := by
  intro w hw
  rcases List.mem_cons.mp hw with e | e
  · subst e
    exact ⟨hc, good_of_word (hg _ hc)⟩
  · exact ⟨e, good_of_word (hg _ e)⟩
theorem pz_of (E : Ct z w gw y rt fr lo P) (C : Cx z own cc gw) (hw : w.ok) {as : List Value} {H : Heap} {locs : List Loc} (hp : hpA z.D z.cl z.base A H) (hS : va_S (fun q : Nat => z.base ≤ q) z.s.heap H locs) : ∀ U : State, U.heap = H → z.s.WarmedH U.vm → Pz w as A as.toArray U := by
  intro U hU hW
  have hK := C.K
  have hb := C.2.2.2.2.2.2.1
  obtain ⟨e1, e2, e3, e4, e5, -, -, -, -, -, e11, -⟩ := E
  rw [e2, e3, e4] at hK
  rw [e2, e3, e5] at hp
  rw [e5] at hS hb
  refine ⟨rfl, by rw [hU]; exact Nat.le_trans hb hS.1, va_K.moved hW.alike hK, ?_, by rw [hU]; exact hp⟩
  rw [hU]
  exact hw.1 z.s U z.s.heap H hW (fun q h1 h2 => hS.2.1 q h1 h2) e11
/-- behind a call -/
theorem x_back (E : Ct z w gw y rt fr lo P) {P' : Option Value → PH → Prop} {mc' ms' : Nat} {H : Heap} {locs : List Loc} {ls : Array Slot} {cells slots : Nat} {a : Array Value} {st0 : List Value}
    (hr : va_Run z.p z.l z.e z.R z.s z.m z.args z.below z.meth z.c H locs cells slots mc' ms' (F0 z.m pc ls st0) st (Qz w P' a) w.A)
    (hS : va_S (fun q : Nat => z.base ≤ q) z.s.heap H locs) (hl : lx z L ls) (c1 : cells + (kc + mc') ≤ z.mc) (c2 : slots + (ks + ms') ≤ z.ms)
    (k : ∀ r : Option Value, X z kc ks (P' r) (pc + 3) L (r.toList ++ st)) : Wz z H locs cells slots (F0 z.m pc ls st0) := by
  obtain ⟨e1, e2, e3, e4, e5, -⟩ := E
  intro S hSt XS
  obtain ⟨v, st₀, t, T', L', h0, X', hL, g1, g2, ⟨⟨r, h', hv, hP, hb⟩, hz, hk⟩, go⟩ := hr S hSt XS
  cases hv
  rw [← e2, ← e3, ← e5] at hb
  obtain ⟨t2, a1, b1⟩ := k v T'.heap (locs ++ L') ls (cells + mc') (slots + ms') ⟨h', hP, by rw [g1]; exact hb⟩ (by
    refine ⟨Nat.le_trans hS.1 (by rw [g1, ← h0]; exact hz), fun q h1 h2 => ?_, fun q hq => ?_⟩
    · have h3 : q < H.size := Nat.lt_of_lt_of_le h1 hS.1
      rw [← h0] at h3
      rw [g1, hk q h3 (by show ¬ w.base ≤ q; rw [← e5]; exact h2), h0]
      exact hS.2.1 q h1 h2
    · rcases List.mem_append.mp hq with h1 | h1
      · exact hS.2.2 q h1
      · have := hL q h1
        rw [e5]
        exact this) hl (by omega) (by omega) T' rfl X'
  exact ⟨t2, go t2 a1, b1⟩
theorem x_callV (C : Cx z own cc gw) (E : Ct z w gw y rt fr lo P) (hw : w.ok) (hg : Gd gw) {y' : MethodName} {cc' : ByteArray} {n' np ci index fr' lo' mc' ms' b : Nat} {rt' : Option FieldType} {As fs stk : List Value} {Tu : u_T} {N : Nat} {P' : Option Value → PH → Prop}
    (M : T w gw y' cc' n' rt' fr' lo' mc' ms' (.ref b :: As) A P') (md : Md gw y' cc' n' rt' np) (wi : Cond.instanceMethod y' ∈ gw) (wse : Cond.selects y'.cls y' y' ∈ gw) (wl : Cond.methodLink own index y' ∈ gw) (d : decode cc pc = .ok (.invokevirtual index, 3)) (hn : As.length = np) (hf : fr' + 1 ≤ fr) (hlo : 8 + (n' + 11) + lo' ≤ lo)
    (gb : ∀ h, A h → h b = some (.inr (ci, fs))) (hcl : z.cl[ci]? = some (y'.cls, Tu, N)) (hs : stk = As.reverse ++ .ref b :: st) (hcat : (st.map fun v => v.category).sum ≤ 8)
    (k : ∀ r : Option Value, X z kc ks (P' r) (pc + 3) L (r.toList ++ st)) : X z (kc + mc') (ks + ms') A pc L stk := by
  intro H locs ls cells slots hp hS hl c1 c2
  subst hs
  have E' := E
  obtain ⟨e1, e2, e3, e4, e5, e6, e7, -⟩ := E'
  obtain ⟨m1, m2, m3, m4, m5⟩ := md
  have hb := callB_of (own := own) (index := index) (R := z.R) (s := z.s) (args := z.args) (bytes := cc') (maxL := n') (ret := rt') (rm := { frames := fr', cells := mc', slots := ms', locals := lo' }) (ws := Cond.code y' cc' n' rt' :: gw) np C.ts (hg.in m1) rfl rfl rfl (C.ts _ m2) (C.ts _ wl) ⟨m3, m4, m5⟩ ⟨by rw [e6]; exact hf, by rw [e7]; exact hlo⟩
  have hr1 := C.rc
  have hr2 := C.rs
  have hp' := hp
  obtain ⟨h, hA, LP, f0, q1, q2, q3⟩ := hp'
  obtain ⟨q0, hq0⟩ := hp_get (D := z.D) (cl := z.cl) (base := z.base) (H := H) q1 (gb h hA)
  have hM : Met z.l y' (Cond.code y' cc' n' rt' :: gw) ({ frames := fr', cells := mc', slots := ms', locals := lo' }) (Pz w (.ref b :: As) A) (Qz w P') mc' ms' w.A := by rw [e1]; exact M
  have hrun := va_runV (b := b) (As := As) (rest := st) (g := F0 z.m pc ls (As.reverse ++ .ref b :: st)) (p := z.p) (e := z.e) (below := z.below) (meth := z.meth) (H := H) (locs := locs) (cells := cells) (slots := slots) (C := y'.cls) ⟨C.x, C.b, C.ml, C.ow, C.ts⟩ hM ⟨hb, C.ts _ wi, C.ts _ wse⟩ ⟨Pz.blind hw, va_recv C.K q2 hcl hq0, pz_of E C hw hp hS⟩ rfl hn hl.1 rfl (lv_room hcat) d ⟨by omega, by omega⟩
  exact x_back E hrun hS hl c1 c2 k
theorem x_callVN (C : Cx z own cc gw) (E : Ct z w gw y rt fr lo P) (hw : w.ok) (hg : Gd gw) {host : String} {y' : MethodName} {cc' : ByteArray} {n' np ci index fr' lo' mc' ms' b : Nat} {rt' : Option FieldType} {As fs stk : List Value} {Tu : u_T} {N : Nat} {P' : Option Value → PH → Prop}
    (M : T w gw y' cc' n' rt' fr' lo' mc' ms' (.ref b :: As) A P') (md : Md gw y' cc' n' rt' np) (wi : Cond.instanceMethod y' ∈ gw) (wse : Cond.selects y'.cls y' y' ∈ gw) (wl : va_Nw (.methodLinkNest own index y' host) z.s) (d : decode cc pc = .ok (.invokevirtual index, 3)) (hn : As.length = np) (hf : fr' + 1 ≤ fr) (hlo : 8 + (n' + 11) + lo' ≤ lo)
    (gb : ∀ h, A h → h b = some (.inr (ci, fs))) (hcl : z.cl[ci]? = some (y'.cls, Tu, N)) (hs : stk = As.reverse ++ .ref b :: st) (hcat : (st.map fun v => v.category).sum ≤ 8)
    (k : ∀ r : Option Value, X z kc ks (P' r) (pc + 3) L (r.toList ++ st)) : X z (kc + mc') (ks + ms') A pc L stk := by
  intro H locs ls cells slots hp hS hl c1 c2
  subst hs
  have E' := E
  obtain ⟨e1, e2, e3, e4, e5, e6, e7, -⟩ := E'
  obtain ⟨m1, m2, m3, m4, m5⟩ := md
  have hb := va_cnB (own := own) (index := index) (host := host) (R := z.R) (s := z.s) (args := z.args) (bytes := cc') (maxL := n') (ret := rt') (rm := { frames := fr', cells := mc', slots := ms', locals := lo' }) (ws := Cond.code y' cc' n' rt' :: gw) np C.ts (hg.in m1) rfl rfl rfl wl (C.ts _ m2) ⟨m3, m4, m5⟩ ⟨by rw [e6]; exact hf, by rw [e7]; exact hlo⟩
  have hr1 := C.rc
  have hr2 := C.rs
  have hp' := hp
  obtain ⟨h, hA, LP, f0, q1, q2, q3⟩ := hp'
  obtain ⟨q0, hq0⟩ := hp_get (D := z.D) (cl := z.cl) (base := z.base) (H := H) q1 (gb h hA)
  have hM : Met z.l y' (Cond.code y' cc' n' rt' :: gw) ({ frames := fr', cells := mc', slots := ms', locals := lo' }) (Pz w (.ref b :: As) A) (Qz w P') mc' ms' w.A := by rw [e1]; exact M
  have hrun := va_runVN (b := b) (As := As) (rest := st) (g := F0 z.m pc ls (As.reverse ++ .ref b :: st)) (p := z.p) (e := z.e) (below := z.below) (meth := z.meth) (H := H) (locs := locs) (cells := cells) (slots := slots) (C := y'.cls) ⟨C.x, C.b, C.ml, C.ow, C.ts⟩ hM ⟨hb, C.ts _ wi, C.ts _ wse⟩ ⟨Pz.blind hw, va_recv C.K q2 hcl hq0, pz_of E C hw hp hS⟩ rfl hn hl.1 rfl (lv_room hcat) d ⟨by omega, by omega⟩
  exact x_back E hrun hS hl c1 c2 k
theorem x_callS (C : Cx z own cc gw) (E : Ct z w gw y rt fr lo P) (hw : w.ok) (hg : Gd gw) {y' : MethodName} {cc' : ByteArray} {n' np index fr' lo' mc' ms' : Nat} {rt' : Option FieldType} {As stk : List Value} {P' : Option Value → PH → Prop}
    (M : T w gw y' cc' n' rt' fr' lo' mc' ms' As A P') (md : Md gw y' cc' n' rt' np) (wst : Cond.static y' ∈ gw) (wl : Cond.methodLink own index y' ∈ gw) (d : decode cc pc = .ok (.invokestatic index, 3)) (hn : As.length = np) (hf : fr' + 1 ≤ fr) (hlo : 8 + (n' + 11) + lo' ≤ lo)
    (hs : stk = As.reverse ++ st) (hcat : (st.map fun v => v.category).sum ≤ 8)
    (k : ∀ r : Option Value, X z kc ks (P' r) (pc + 3) L (r.toList ++ st)) : X z (kc + mc') (ks + ms') A pc L stk := by
  intro H locs ls cells slots hp hS hl c1 c2
  subst hs
  have E' := E
  obtain ⟨e1, e2, e3, e4, e5, e6, e7, -⟩ := E'
  obtain ⟨m1, m2, m3, m4, m5⟩ := md
  have hb := callB_of (own := own) (index := index) (R := z.R) (s := z.s) (args := z.args) (bytes := cc') (maxL := n') (ret := rt') (rm := { frames := fr', cells := mc', slots := ms', locals := lo' }) (ws := Cond.code y' cc' n' rt' :: gw) np C.ts (hg.in m1) rfl rfl rfl (C.ts _ m2) (C.ts _ wl) ⟨m3, m4, m5⟩ ⟨by rw [e6]; exact hf, by rw [e7]; exact hlo⟩
  have hr1 := C.rc
  have hr2 := C.rs
  have hM : Met z.l y' (Cond.code y' cc' n' rt' :: gw) ({ frames := fr', cells := mc', slots := ms', locals := lo' }) (Pz w As A) (Qz w P') mc' ms' w.A := by rw [e1]; exact M
  have hrun := va_runS (As := As) (rest := st) (g := F0 z.m pc ls (As.reverse ++ st)) (p := z.p) (e := z.e) (below := z.below) (meth := z.meth) (H := H) (locs := locs) (cells := cells) (slots := slots) ⟨C.x, C.b, C.ml, C.ow, C.ts⟩ hM ⟨hb, C.ts _ wst⟩ ⟨Pz.blind hw, pz_of E C hw hp hS⟩ rfl hn hl.1 rfl (lv_room hcat) d ⟨by omega, by omega⟩
  exact x_back E hrun hS hl c1 c2 k
theorem x_callSN (C : Cx z own cc gw) (E : Ct z w gw y rt fr lo P) (hw : w.ok) (hg : Gd gw) {host : String} {y' : MethodName} {cc' : ByteArray} {n' np index fr' lo' mc' ms' : Nat} {rt' : Option FieldType} {As stk : List Value} {P' : Option Value → PH → Prop}
    (M : T w gw y' cc' n' rt' fr' lo' mc' ms' As A P') (md : Md gw y' cc' n' rt' np) (wst : Cond.static y' ∈ gw) (wl : va_Nw (.methodLinkNest own index y' host) z.s) (d : decode cc pc = .ok (.invokestatic index, 3)) (hn : As.length = np) (hf : fr' + 1 ≤ fr) (hlo : 8 + (n' + 11) + lo' ≤ lo)
    (hs : stk = As.reverse ++ st) (hcat : (st.map fun v => v.category).sum ≤ 8)
    (k : ∀ r : Option Value, X z kc ks (P' r) (pc + 3) L (r.toList ++ st)) : X z (kc + mc') (ks + ms') A pc L stk := by
  intro H locs ls cells slots hp hS hl c1 c2
  subst hs
  have E' := E
  obtain ⟨e1, e2, e3, e4, e5, e6, e7, -⟩ := E'
  obtain ⟨m1, m2, m3, m4, m5⟩ := md
  have hb := va_cnB (own := own) (index := index) (host := host) (R := z.R) (s := z.s) (args := z.args) (bytes := cc') (maxL := n') (ret := rt') (rm := { frames := fr', cells := mc', slots := ms', locals := lo' }) (ws := Cond.code y' cc' n' rt' :: gw) np C.ts (hg.in m1) rfl rfl rfl wl (C.ts _ m2) ⟨m3, m4, m5⟩ ⟨by rw [e6]; exact hf, by rw [e7]; exact hlo⟩
  have hr1 := C.rc
  have hr2 := C.rs
  have hM : Met z.l y' (Cond.code y' cc' n' rt' :: gw) ({ frames := fr', cells := mc', slots := ms', locals := lo' }) (Pz w As A) (Qz w P') mc' ms' w.A := by rw [e1]; exact M
  have hrun := va_runSN (As := As) (rest := st) (g := F0 z.m pc ls (As.reverse ++ st)) (p := z.p) (e := z.e) (below := z.below) (meth := z.meth) (H := H) (locs := locs) (cells := cells) (slots := slots) ⟨C.x, C.b, C.ml, C.ow, C.ts⟩ hM ⟨hb, C.ts _ wst, True.intro⟩ ⟨Pz.blind hw, pz_of E C hw hp hS⟩ rfl hn hl.1 rfl (lv_room hcat) d ⟨by omega, by omega⟩
  exact x_back E hrun hS hl c1 c2 k
theorem x_callI (C : Cx z own cc gw) (E : Ct z w gw y rt fr lo P) (hw : w.ok) (hg : Gd gw) {y' : MethodName} {cc' : ByteArray} {n' np index fr' lo' mc' ms' b : Nat} {As stk : List Value} {P' : Option Value → PH → Prop}
    (M : T w gw y' cc' n' none fr' lo' mc' ms' (.ref b :: As) A P') (md : Md gw y' cc' n' none np) (hy : y'.name = "<init>") (wi : Cond.instanceMethod y' ∈ gw) (wl : Cond.methodLink own index y' ∈ gw) (d : decode cc pc = .ok (.invokespecial index, 3)) (hn : As.length = np) (hf : fr' + 1 ≤ fr) (hlo : 8 + (n' + 11) + lo' ≤ lo)
    (hs : stk = As.reverse ++ .ref b :: st) (hcat : (st.map fun v => v.category).sum ≤ 8)
    (k : ∀ r : Option Value, X z kc ks (P' r) (pc + 3) L (r.toList ++ st)) : X z (kc + mc') (ks + ms') A pc L stk := by
  intro H locs ls cells slots hp hS hl c1 c2
  subst hs
  have E' := E
  obtain ⟨e1, e2, e3, e4, e5, e6, e7, -⟩ := E'
  obtain ⟨m1, m2, m3, m4, m5⟩ := md
  have hb := callB_of (own := own) (index := index) (R := z.R) (s := z.s) (args := z.args) (bytes := cc') (maxL := n') (ret := none) (rm := { frames := fr', cells := mc', slots := ms', locals := lo' }) (ws := Cond.code y' cc' n' none :: gw) np C.ts (hg.in m1) rfl rfl rfl (C.ts _ m2) (C.ts _ wl) ⟨m3, m4, m5⟩ ⟨by rw [e6]; exact hf, by rw [e7]; exact hlo⟩
  have hr1 := C.rc
  have hr2 := C.rs
  have hM : Met z.l y' (Cond.code y' cc' n' none :: gw) ({ frames := fr', cells := mc', slots := ms', locals := lo' }) (Pz w (.ref b :: As) A) (Qz w P') mc' ms' w.A := by rw [e1]; exact M
  have hrun := va_runI (b := b) (As := As) (rest := st) (g := F0 z.m pc ls (As.reverse ++ .ref b :: st)) (p := z.p) (e := z.e) (below := z.below) (meth := z.meth) (H := H) (locs := locs) (cells := cells) (slots := slots) ⟨C.x, C.b, C.ml, C.ow, C.ts⟩ hM ⟨hb, hy, C.ts _ wi⟩ ⟨Pz.blind hw, pz_of E C hw hp hS⟩ rfl hn hl.1 rfl (lv_room hcat) d ⟨by omega, by omega⟩
  exact x_back E hrun hS hl c1 c2 k
theorem x_callIN (C : Cx z own cc gw) (E : Ct z w gw y rt fr lo P) (hw : w.ok) (hg : Gd gw) {host : String} {y' : MethodName} {cc' : ByteArray} {n' np index fr' lo' mc' ms' b : Nat} {As stk : List Value} {P' : Option Value → PH → Prop}
    (M : T w gw y' cc' n' none fr' lo' mc' ms' (.ref b :: As) A P') (md : Md gw y' cc' n' none np) (hy : y'.name = "<init>") (wi : Cond.instanceMethod y' ∈ gw) (wl : va_Nw (.methodLinkNest own index y' host) z.s) (d : decode cc pc = .ok (.invokespecial index, 3)) (hn : As.length = np) (hf : fr' + 1 ≤ fr) (hlo : 8 + (n' + 11) + lo' ≤ lo)
    (hs : stk = As.reverse ++ .ref b :: st) (hcat : (st.map fun v => v.category).sum ≤ 8)
    (k : ∀ r : Option Value, X z kc ks (P' r) (pc + 3) L (r.toList ++ st)) : X z (kc + mc') (ks + ms') A pc L stk := by
  intro H locs ls cells slots hp hS hl c1 c2
  subst hs
  have E' := E
  obtain ⟨e1, e2, e3, e4, e5, e6, e7, -⟩ := E'
  obtain ⟨m1, m2, m3, m4, m5⟩ := md
  have hb := va_cnB (own := own) (index := index) (host := host) (R := z.R) (s := z.s) (args := z.args) (bytes := cc') (maxL := n') (ret := none) (rm := { frames := fr', cells := mc', slots := ms', locals := lo' }) (ws := Cond.code y' cc' n' none :: gw) np C.ts (hg.in m1) rfl rfl rfl wl (C.ts _ m2) ⟨m3, m4, m5⟩ ⟨by rw [e6]; exact hf, by rw [e7]; exact hlo⟩
  have hr1 := C.rc
  have hr2 := C.rs
  have hM : Met z.l y' (Cond.code y' cc' n' none :: gw) ({ frames := fr', cells := mc', slots := ms', locals := lo' }) (Pz w (.ref b :: As) A) (Qz w P') mc' ms' w.A := by rw [e1]; exact M
  have hrun := va_runIN (b := b) (As := As) (rest := st) (g := F0 z.m pc ls (As.reverse ++ .ref b :: st)) (p := z.p) (e := z.e) (below := z.below) (meth := z.meth) (H := H) (locs := locs) (cells := cells) (slots := slots) ⟨C.x, C.b, C.ml, C.ow, C.ts⟩ hM ⟨hb, hy, C.ts _ wi⟩ ⟨Pz.blind hw, pz_of E C hw hp hS⟩ rfl hn hl.1 rfl (lv_room hcat) d ⟨by omega, by omega⟩
  exact x_back E hrun hS hl c1 c2 k
end Rows
end
