section
-- ===== PART A: goes FIRST, ahead of the names: the tables' words, and 'selects' of the private methods out of them =====
/-- a private method of a class that the tables say can be made, by its rows of tables_1 -/
def lw_okq (q : MethodName × Nat) : Prop := (q.1.cls ≠ "java/lang/invoke/MethodHandle" ∧ q.1.cls ≠ "java/lang/invoke/VarHandle") ∧ Cond.instantiable q.1.cls q.2 ∈ tables_1 ∧ Cond.privateMethod q.1 ∈ tables_1 ∧ Cond.instanceMethod q.1 ∈ tables_1
theorem lw_p0 : lw_okq (⟨"MeterBus$Meter", "forget", "()V"⟩, 8) := ⟨⟨by decide +kernel, by decide +kernel⟩, List.mem_of_getElem? (i := 160) (by decide +kernel), List.mem_of_getElem? (i := 158) (by decide +kernel), List.mem_of_getElem? (i := 159) (by decide +kernel)⟩
theorem lw_p1 : lw_okq (⟨"MeterBus$Meter", "pageToTell", "(I)I"⟩, 8) := ⟨⟨by decide +kernel, by decide +kernel⟩, List.mem_of_getElem? (i := 160) (by decide +kernel), List.mem_of_getElem? (i := 171) (by decide +kernel), List.mem_of_getElem? (i := 172) (by decide +kernel)⟩
theorem lw_p2 : lw_okq (⟨"MeterBus$Meter", "writeAnswer", "(LMeterBus$Row;)V"⟩, 8) := ⟨⟨by decide +kernel, by decide +kernel⟩, List.mem_of_getElem? (i := 160) (by decide +kernel), List.mem_of_getElem? (i := 179) (by decide +kernel), List.mem_of_getElem? (i := 180) (by decide +kernel)⟩
theorem lw_p3 : lw_okq (⟨"MeterBus$Bus", "outcome", "(I)I"⟩, 4) := ⟨⟨by decide +kernel, by decide +kernel⟩, List.mem_of_getElem? (i := 39) (by decide +kernel), List.mem_of_getElem? (i := 197) (by decide +kernel), List.mem_of_getElem? (i := 198) (by decide +kernel)⟩
theorem lw_p4 : lw_okq (⟨"MeterBus$Bus", "putSendingFrame", "(LMeterBus$Row;)I"⟩, 4) := ⟨⟨by decide +kernel, by decide +kernel⟩, List.mem_of_getElem? (i := 39) (by decide +kernel), List.mem_of_getElem? (i := 207) (by decide +kernel), List.mem_of_getElem? (i := 208) (by decide +kernel)⟩
theorem lw_p5 : lw_okq (⟨"MeterBus", "probe", "(IJ)V"⟩, 6) := ⟨⟨by decide +kernel, by decide +kernel⟩, List.mem_of_getElem? (i := 17) (by decide +kernel), List.mem_of_getElem? (i := 251) (by decide +kernel), List.mem_of_getElem? (i := 252) (by decide +kernel)⟩
theorem lw_p6 : lw_okq (⟨"MeterBus", "resetSelected", "(J)V"⟩, 6) := ⟨⟨by decide +kernel, by decide +kernel⟩, List.mem_of_getElem? (i := 17) (by decide +kernel), List.mem_of_getElem? (i := 256) (by decide +kernel), List.mem_of_getElem? (i := 257) (by decide +kernel)⟩
theorem lw_p7 : lw_okq (⟨"MeterBus", "addFound", "()V"⟩, 6) := ⟨⟨by decide +kernel, by decide +kernel⟩, List.mem_of_getElem? (i := 17) (by decide +kernel), List.mem_of_getElem? (i := 261) (by decide +kernel), List.mem_of_getElem? (i := 262) (by decide +kernel)⟩
theorem lw_p8 : lw_okq (⟨"MeterBus$Decoder", "frameIsWell", "()Z"⟩, 7) := ⟨⟨by decide +kernel, by decide +kernel⟩, List.mem_of_getElem? (i := 77) (by decide +kernel), List.mem_of_getElem? (i := 287) (by decide +kernel), List.mem_of_getElem? (i := 288) (by decide +kernel)⟩
theorem lw_p9 : lw_okq (⟨"MeterBus$Decoder", "wrong", "(II)Z"⟩, 7) := ⟨⟨by decide +kernel, by decide +kernel⟩, List.mem_of_getElem? (i := 77) (by decide +kernel), List.mem_of_getElem? (i := 292) (by decide +kernel), List.mem_of_getElem? (i := 293) (by decide +kernel)⟩
theorem lw_p10 : lw_okq (⟨"MeterBus$Decoder", "sumIsWell", "()Z"⟩, 7) := ⟨⟨by decide +kernel, by decide +kernel⟩, List.mem_of_getElem? (i := 77) (by decide +kernel), List.mem_of_getElem? (i := 300) (by decide +kernel), List.mem_of_getElem? (i := 301) (by decide +kernel)⟩
theorem lw_p11 : lw_okq (⟨"MeterBus$Decoder", "identIsWell", "()Z"⟩, 7) := ⟨⟨by decide +kernel, by decide +kernel⟩, List.mem_of_getElem? (i := 77) (by decide +kernel), List.mem_of_getElem? (i := 305) (by decide +kernel), List.mem_of_getElem? (i := 306) (by decide +kernel)⟩
theorem lw_p12 : lw_okq (⟨"MeterBus$Decoder", "readItem", "()Z"⟩, 7) := ⟨⟨by decide +kernel, by decide +kernel⟩, List.mem_of_getElem? (i := 77) (by decide +kernel), List.mem_of_getElem? (i := 312) (by decide +kernel), List.mem_of_getElem? (i := 313) (by decide +kernel)⟩
theorem lw_p13 : lw_okq (⟨"MeterBus$Decoder", "take", "()I"⟩, 7) := ⟨⟨by decide +kernel, by decide +kernel⟩, List.mem_of_getElem? (i := 77) (by decide +kernel), List.mem_of_getElem? (i := 316) (by decide +kernel), List.mem_of_getElem? (i := 317) (by decide +kernel)⟩
theorem lw_p14 : lw_okq (⟨"MeterBus$Decoder", "readText", "(LMeterBus$Reading;I)Z"⟩, 7) := ⟨⟨by decide +kernel, by decide +kernel⟩, List.mem_of_getElem? (i := 77) (by decide +kernel), List.mem_of_getElem? (i := 365) (by decide +kernel), List.mem_of_getElem? (i := 366) (by decide +kernel)⟩
theorem lw_p15 : lw_okq (⟨"MeterBus$Decoder", "areThere", "(I)Z"⟩, 7) := ⟨⟨by decide +kernel, by decide +kernel⟩, List.mem_of_getElem? (i := 77) (by decide +kernel), List.mem_of_getElem? (i := 369) (by decide +kernel), List.mem_of_getElem? (i := 370) (by decide +kernel)⟩
def lw_privs_1 : List (MethodName × Nat) := [(⟨"MeterBus$Meter", "forget", "()V"⟩, 8), (⟨"MeterBus$Meter", "pageToTell", "(I)I"⟩, 8), (⟨"MeterBus$Meter", "writeAnswer", "(LMeterBus$Row;)V"⟩, 8), (⟨"MeterBus$Bus", "outcome", "(I)I"⟩, 4), (⟨"MeterBus$Bus", "putSendingFrame", "(LMeterBus$Row;)I"⟩, 4), (⟨"MeterBus", "probe", "(IJ)V"⟩, 6), (⟨"MeterBus", "resetSelected", "(J)V"⟩, 6), (⟨"MeterBus", "addFound", "()V"⟩, 6), (⟨"MeterBus$Decoder", "frameIsWell", "()Z"⟩, 7), (⟨"MeterBus$Decoder", "wrong", "(II)Z"⟩, 7), (⟨"MeterBus$Decoder", "sumIsWell", "()Z"⟩, 7), (⟨"MeterBus$Decoder", "identIsWell", "()Z"⟩, 7), (⟨"MeterBus$Decoder", "readItem", "()Z"⟩, 7), (⟨"MeterBus$Decoder", "take", "()I"⟩, 7), (⟨"MeterBus$Decoder", "readText", "(LMeterBus$Reading;I)Z"⟩, 7), (⟨"MeterBus$Decoder", "areThere", "(I)Z"⟩, 7)]
theorem lw_r1 : ∀ q ∈ lw_privs_1, lw_okq q := List.forall_mem_cons.mpr ⟨lw_p0, List.forall_mem_cons.mpr ⟨lw_p1, List.forall_mem_cons.mpr ⟨lw_p2, List.forall_mem_cons.mpr ⟨lw_p3, List.forall_mem_cons.mpr ⟨lw_p4, List.forall_mem_cons.mpr ⟨lw_p5, List.forall_mem_cons.mpr ⟨lw_p6, List.forall_mem_cons.mpr ⟨lw_p7, List.forall_mem_cons.mpr ⟨lw_p8, List.forall_mem_cons.mpr ⟨lw_p9, List.forall_mem_cons.mpr ⟨lw_p10, List.forall_mem_cons.mpr ⟨lw_p11, List.forall_mem_cons.mpr ⟨lw_p12, List.forall_mem_cons.mpr ⟨lw_p13, List.forall_mem_cons.mpr ⟨lw_p14, List.forall_mem_cons.mpr ⟨lw_p15, fun _ h => absurd h List.not_mem_nil⟩⟩⟩⟩⟩⟩⟩⟩⟩⟩⟩⟩⟩⟩⟩⟩
theorem lw_p16 : lw_okq (⟨"MeterBus$Decoder", "readDifes", "(LMeterBus$Reading;I)Z"⟩, 7) := ⟨⟨by decide +kernel, by decide +kernel⟩, List.mem_of_getElem? (i := 77) (by decide +kernel), List.mem_of_getElem? (i := 382) (by decide +kernel), List.mem_of_getElem? (i := 383) (by decide +kernel)⟩
theorem lw_p17 : lw_okq (⟨"MeterBus$Decoder", "readVifs", "(LMeterBus$Reading;)Z"⟩, 7) := ⟨⟨by decide +kernel, by decide +kernel⟩, List.mem_of_getElem? (i := 77) (by decide +kernel), List.mem_of_getElem? (i := 390) (by decide +kernel), List.mem_of_getElem? (i := 391) (by decide +kernel)⟩
theorem lw_p18 : lw_okq (⟨"MeterBus$Decoder", "readValue", "(LMeterBus$Reading;I)Z"⟩, 7) := ⟨⟨by decide +kernel, by decide +kernel⟩, List.mem_of_getElem? (i := 77) (by decide +kernel), List.mem_of_getElem? (i := 398) (by decide +kernel), List.mem_of_getElem? (i := 399) (by decide +kernel)⟩
theorem lw_p19 : lw_okq (⟨"MeterBus$Decoder", "readNumber", "(LMeterBus$Reading;I)Z"⟩, 7) := ⟨⟨by decide +kernel, by decide +kernel⟩, List.mem_of_getElem? (i := 77) (by decide +kernel), List.mem_of_getElem? (i := 402) (by decide +kernel), List.mem_of_getElem? (i := 403) (by decide +kernel)⟩
theorem lw_p20 : lw_okq (⟨"MeterBus$Decoder", "readSignedBcd", "(LMeterBus$Reading;I)Z"⟩, 7) := ⟨⟨by decide +kernel, by decide +kernel⟩, List.mem_of_getElem? (i := 77) (by decide +kernel), List.mem_of_getElem? (i := 411) (by decide +kernel), List.mem_of_getElem? (i := 412) (by decide +kernel)⟩
theorem lw_p21 : lw_okq (⟨"MeterBus$Decoder", "readBcd", "(LMeterBus$Reading;IIZ)Z"⟩, 7) := ⟨⟨by decide +kernel, by decide +kernel⟩, List.mem_of_getElem? (i := 77) (by decide +kernel), List.mem_of_getElem? (i := 415) (by decide +kernel), List.mem_of_getElem? (i := 416) (by decide +kernel)⟩
theorem lw_p22 : lw_okq (⟨"MeterBus$Decoder", "readSized", "(LMeterBus$Reading;)Z"⟩, 7) := ⟨⟨by decide +kernel, by decide +kernel⟩, List.mem_of_getElem? (i := 77) (by decide +kernel), List.mem_of_getElem? (i := 420) (by decide +kernel), List.mem_of_getElem? (i := 421) (by decide +kernel)⟩
theorem lw_p23 : lw_okq (⟨"java/lang/Throwable", "fillInStackTrace", "(I)Ljava/lang/Throwable;"⟩, 6) := ⟨⟨by decide +kernel, by decide +kernel⟩, List.mem_of_getElem? (i := 497) (by decide +kernel), List.mem_of_getElem? (i := 495) (by decide +kernel), List.mem_of_getElem? (i := 496) (by decide +kernel)⟩
theorem lw_p24 : lw_okq (⟨"MeterBus", "isFoundOne", "(I)Z"⟩, 6) := ⟨⟨by decide +kernel, by decide +kernel⟩, List.mem_of_getElem? (i := 17) (by decide +kernel), List.mem_of_getElem? (i := 687) (by decide +kernel), List.mem_of_getElem? (i := 688) (by decide +kernel)⟩
theorem lw_p25 : lw_okq (⟨"MeterBus", "isSelected", "(J)Z"⟩, 6) := ⟨⟨by decide +kernel, by decide +kernel⟩, List.mem_of_getElem? (i := 17) (by decide +kernel), List.mem_of_getElem? (i := 701) (by decide +kernel), List.mem_of_getElem? (i := 702) (by decide +kernel)⟩
theorem lw_p26 : lw_okq (⟨"MeterBusModel", "fails", "(ZZ)Z"⟩, 42) := ⟨⟨by decide +kernel, by decide +kernel⟩, List.mem_of_getElem? (i := 766) (by decide +kernel), List.mem_of_getElem? (i := 911) (by decide +kernel), List.mem_of_getElem? (i := 912) (by decide +kernel)⟩
theorem lw_p27 : lw_okq (⟨"MeterBusModel", "isMeter", "(I)Z"⟩, 42) := ⟨⟨by decide +kernel, by decide +kernel⟩, List.mem_of_getElem? (i := 766) (by decide +kernel), List.mem_of_getElem? (i := 940) (by decide +kernel), List.mem_of_getElem? (i := 941) (by decide +kernel)⟩
theorem lw_p28 : lw_okq (⟨"MeterBusModel", "pagesOf", "(I)I"⟩, 42) := ⟨⟨by decide +kernel, by decide +kernel⟩, List.mem_of_getElem? (i := 766) (by decide +kernel), List.mem_of_getElem? (i := 944) (by decide +kernel), List.mem_of_getElem? (i := 945) (by decide +kernel)⟩
theorem lw_p29 : lw_okq (⟨"MeterBusModel", "bus", "()V"⟩, 42) := ⟨⟨by decide +kernel, by decide +kernel⟩, List.mem_of_getElem? (i := 766) (by decide +kernel), List.mem_of_getElem? (i := 956) (by decide +kernel), List.mem_of_getElem? (i := 957) (by decide +kernel)⟩
theorem lw_p30 : lw_okq (⟨"MeterBusModel", "isShort", "()Z"⟩, 42) := ⟨⟨by decide +kernel, by decide +kernel⟩, List.mem_of_getElem? (i := 766) (by decide +kernel), List.mem_of_getElem? (i := 960) (by decide +kernel), List.mem_of_getElem? (i := 961) (by decide +kernel)⟩
theorem lw_p31 : lw_okq (⟨"MeterBusModel", "isLong", "()Z"⟩, 42) := ⟨⟨by decide +kernel, by decide +kernel⟩, List.mem_of_getElem? (i := 766) (by decide +kernel), List.mem_of_getElem? (i := 964) (by decide +kernel), List.mem_of_getElem? (i := 965) (by decide +kernel)⟩
def lw_privs_2 : List (MethodName × Nat) := [(⟨"MeterBus$Decoder", "readDifes", "(LMeterBus$Reading;I)Z"⟩, 7), (⟨"MeterBus$Decoder", "readVifs", "(LMeterBus$Reading;)Z"⟩, 7), (⟨"MeterBus$Decoder", "readValue", "(LMeterBus$Reading;I)Z"⟩, 7), (⟨"MeterBus$Decoder", "readNumber", "(LMeterBus$Reading;I)Z"⟩, 7), (⟨"MeterBus$Decoder", "readSignedBcd", "(LMeterBus$Reading;I)Z"⟩, 7), (⟨"MeterBus$Decoder", "readBcd", "(LMeterBus$Reading;IIZ)Z"⟩, 7), (⟨"MeterBus$Decoder", "readSized", "(LMeterBus$Reading;)Z"⟩, 7), (⟨"java/lang/Throwable", "fillInStackTrace", "(I)Ljava/lang/Throwable;"⟩, 6), (⟨"MeterBus", "isFoundOne", "(I)Z"⟩, 6), (⟨"MeterBus", "isSelected", "(J)Z"⟩, 6), (⟨"MeterBusModel", "fails", "(ZZ)Z"⟩, 42), (⟨"MeterBusModel", "isMeter", "(I)Z"⟩, 42), (⟨"MeterBusModel", "pagesOf", "(I)I"⟩, 42), (⟨"MeterBusModel", "bus", "()V"⟩, 42), (⟨"MeterBusModel", "isShort", "()Z"⟩, 42), (⟨"MeterBusModel", "isLong", "()Z"⟩, 42)]
theorem lw_r2 : ∀ q ∈ lw_privs_2, lw_okq q := List.forall_mem_cons.mpr ⟨lw_p16, List.forall_mem_cons.mpr ⟨lw_p17, List.forall_mem_cons.mpr ⟨lw_p18, List.forall_mem_cons.mpr ⟨lw_p19, List.forall_mem_cons.mpr ⟨lw_p20, List.forall_mem_cons.mpr ⟨lw_p21, List.forall_mem_cons.mpr ⟨lw_p22, List.forall_mem_cons.mpr ⟨lw_p23, List.forall_mem_cons.mpr ⟨lw_p24, List.forall_mem_cons.mpr ⟨lw_p25, List.forall_mem_cons.mpr ⟨lw_p26, List.forall_mem_cons.mpr ⟨lw_p27, List.forall_mem_cons.mpr ⟨lw_p28, List.forall_mem_cons.mpr ⟨lw_p29, List.forall_mem_cons.mpr ⟨lw_p30, List.forall_mem_cons.mpr ⟨lw_p31, fun _ h => absurd h List.not_mem_nil⟩⟩⟩⟩⟩⟩⟩⟩⟩⟩⟩⟩⟩⟩⟩⟩
theorem lw_p32 : lw_okq (⟨"MeterBusModel", "select", "(I)V"⟩, 42) := ⟨⟨by decide +kernel, by decide +kernel⟩, List.mem_of_getElem? (i := 766) (by decide +kernel), List.mem_of_getElem? (i := 968) (by decide +kernel), List.mem_of_getElem? (i := 969) (by decide +kernel)⟩
theorem lw_p33 : lw_okq (⟨"MeterBusModel", "acknowledge", "()V"⟩, 42) := ⟨⟨by decide +kernel, by decide +kernel⟩, List.mem_of_getElem? (i := 766) (by decide +kernel), List.mem_of_getElem? (i := 972) (by decide +kernel), List.mem_of_getElem? (i := 973) (by decide +kernel)⟩
theorem lw_p34 : lw_okq (⟨"MeterBusModel", "shortFrame", "(III)V"⟩, 42) := ⟨⟨by decide +kernel, by decide +kernel⟩, List.mem_of_getElem? (i := 766) (by decide +kernel), List.mem_of_getElem? (i := 976) (by decide +kernel), List.mem_of_getElem? (i := 977) (by decide +kernel)⟩
theorem lw_p35 : lw_okq (⟨"MeterBusModel", "forget", "(I)V"⟩, 42) := ⟨⟨by decide +kernel, by decide +kernel⟩, List.mem_of_getElem? (i := 766) (by decide +kernel), List.mem_of_getElem? (i := 980) (by decide +kernel), List.mem_of_getElem? (i := 981) (by decide +kernel)⟩
theorem lw_p36 : lw_okq (⟨"MeterBusModel", "tell", "(II)V"⟩, 42) := ⟨⟨by decide +kernel, by decide +kernel⟩, List.mem_of_getElem? (i := 766) (by decide +kernel), List.mem_of_getElem? (i := 984) (by decide +kernel), List.mem_of_getElem? (i := 985) (by decide +kernel)⟩
theorem lw_p37 : lw_okq (⟨"MeterBusModel", "say", "(I)V"⟩, 42) := ⟨⟨by decide +kernel, by decide +kernel⟩, List.mem_of_getElem? (i := 766) (by decide +kernel), List.mem_of_getElem? (i := 988) (by decide +kernel), List.mem_of_getElem? (i := 989) (by decide +kernel)⟩
theorem lw_p38 : lw_okq (⟨"MeterBusModel", "longFrame", "(I)V"⟩, 42) := ⟨⟨by decide +kernel, by decide +kernel⟩, List.mem_of_getElem? (i := 766) (by decide +kernel), List.mem_of_getElem? (i := 992) (by decide +kernel), List.mem_of_getElem? (i := 993) (by decide +kernel)⟩
theorem lw_p39 : lw_okq (⟨"MeterBusModel", "putMask", "()V"⟩, 42) := ⟨⟨by decide +kernel, by decide +kernel⟩, List.mem_of_getElem? (i := 766) (by decide +kernel), List.mem_of_getElem? (i := 1000) (by decide +kernel), List.mem_of_getElem? (i := 1001) (by decide +kernel)⟩
theorem lw_p40 : lw_okq (⟨"MeterBusModel", "setPart", "(II)V"⟩, 42) := ⟨⟨by decide +kernel, by decide +kernel⟩, List.mem_of_getElem? (i := 766) (by decide +kernel), List.mem_of_getElem? (i := 1004) (by decide +kernel), List.mem_of_getElem? (i := 1005) (by decide +kernel)⟩
theorem lw_p41 : lw_okq (⟨"MeterBusModel", "find", "()V"⟩, 42) := ⟨⟨by decide +kernel, by decide +kernel⟩, List.mem_of_getElem? (i := 766) (by decide +kernel), List.mem_of_getElem? (i := 1008) (by decide +kernel), List.mem_of_getElem? (i := 1009) (by decide +kernel)⟩
theorem lw_p42 : lw_okq (⟨"MeterBusModel", "putShort", "(I)V"⟩, 42) := ⟨⟨by decide +kernel, by decide +kernel⟩, List.mem_of_getElem? (i := 766) (by decide +kernel), List.mem_of_getElem? (i := 1012) (by decide +kernel), List.mem_of_getElem? (i := 1013) (by decide +kernel)⟩
theorem lw_p43 : lw_okq (⟨"MeterBusModel", "decodeAll", "([II)I"⟩, 42) := ⟨⟨by decide +kernel, by decide +kernel⟩, List.mem_of_getElem? (i := 766) (by decide +kernel), List.mem_of_getElem? (i := 1024) (by decide +kernel), List.mem_of_getElem? (i := 1025) (by decide +kernel)⟩
theorem lw_p44 : lw_okq (⟨"MeterBusModel", "isFrame", "(I)Z"⟩, 42) := ⟨⟨by decide +kernel, by decide +kernel⟩, List.mem_of_getElem? (i := 766) (by decide +kernel), List.mem_of_getElem? (i := 1028) (by decide +kernel), List.mem_of_getElem? (i := 1029) (by decide +kernel)⟩
theorem lw_p45 : lw_okq (⟨"MeterBusModel", "isByte", "(IIII)Z"⟩, 42) := ⟨⟨by decide +kernel, by decide +kernel⟩, List.mem_of_getElem? (i := 766) (by decide +kernel), List.mem_of_getElem? (i := 1032) (by decide +kernel), List.mem_of_getElem? (i := 1033) (by decide +kernel)⟩
theorem lw_p46 : lw_okq (⟨"MeterBusModel", "blame", "(II)I"⟩, 42) := ⟨⟨by decide +kernel, by decide +kernel⟩, List.mem_of_getElem? (i := 766) (by decide +kernel), List.mem_of_getElem? (i := 1036) (by decide +kernel), List.mem_of_getElem? (i := 1037) (by decide +kernel)⟩
theorem lw_p47 : lw_okq (⟨"MeterBusModel", "oneRecord", "()V"⟩, 42) := ⟨⟨by decide +kernel, by decide +kernel⟩, List.mem_of_getElem? (i := 766) (by decide +kernel), List.mem_of_getElem? (i := 1040) (by decide +kernel), List.mem_of_getElem? (i := 1041) (by decide +kernel)⟩
def lw_privs_3 : List (MethodName × Nat) := [(⟨"MeterBusModel", "select", "(I)V"⟩, 42), (⟨"MeterBusModel", "acknowledge", "()V"⟩, 42), (⟨"MeterBusModel", "shortFrame", "(III)V"⟩, 42), (⟨"MeterBusModel", "forget", "(I)V"⟩, 42), (⟨"MeterBusModel", "tell", "(II)V"⟩, 42), (⟨"MeterBusModel", "say", "(I)V"⟩, 42), (⟨"MeterBusModel", "longFrame", "(I)V"⟩, 42), (⟨"MeterBusModel", "putMask", "()V"⟩, 42), (⟨"MeterBusModel", "setPart", "(II)V"⟩, 42), (⟨"MeterBusModel", "find", "()V"⟩, 42), (⟨"MeterBusModel", "putShort", "(I)V"⟩, 42), (⟨"MeterBusModel", "decodeAll", "([II)I"⟩, 42), (⟨"MeterBusModel", "isFrame", "(I)Z"⟩, 42), (⟨"MeterBusModel", "isByte", "(IIII)Z"⟩, 42), (⟨"MeterBusModel", "blame", "(II)I"⟩, 42), (⟨"MeterBusModel", "oneRecord", "()V"⟩, 42)]
theorem lw_r3 : ∀ q ∈ lw_privs_3, lw_okq q := List.forall_mem_cons.mpr ⟨lw_p32, List.forall_mem_cons.mpr ⟨lw_p33, List.forall_mem_cons.mpr ⟨lw_p34, List.forall_mem_cons.mpr ⟨lw_p35, List.forall_mem_cons.mpr ⟨lw_p36, List.forall_mem_cons.mpr ⟨lw_p37, List.forall_mem_cons.mpr ⟨lw_p38, List.forall_mem_cons.mpr ⟨lw_p39, List.forall_mem_cons.mpr ⟨lw_p40, List.forall_mem_cons.mpr ⟨lw_p41, List.forall_mem_cons.mpr ⟨lw_p42, List.forall_mem_cons.mpr ⟨lw_p43, List.forall_mem_cons.mpr ⟨lw_p44, List.forall_mem_cons.mpr ⟨lw_p45, List.forall_mem_cons.mpr ⟨lw_p46, List.forall_mem_cons.mpr ⟨lw_p47, fun _ h => absurd h List.not_mem_nil⟩⟩⟩⟩⟩⟩⟩⟩⟩⟩⟩⟩⟩⟩⟩⟩
theorem lw_p48 : lw_okq (⟨"MeterBusModel", "next", "()I"⟩, 42) := ⟨⟨by decide +kernel, by decide +kernel⟩, List.mem_of_getElem? (i := 766) (by decide +kernel), List.mem_of_getElem? (i := 1044) (by decide +kernel), List.mem_of_getElem? (i := 1045) (by decide +kernel)⟩
theorem lw_p49 : lw_okq (⟨"MeterBusModel", "textTo", "(I)V"⟩, 42) := ⟨⟨by decide +kernel, by decide +kernel⟩, List.mem_of_getElem? (i := 766) (by decide +kernel), List.mem_of_getElem? (i := 1048) (by decide +kernel), List.mem_of_getElem? (i := 1049) (by decide +kernel)⟩
theorem lw_p50 : lw_okq (⟨"MeterBusModel", "value", "(I)V"⟩, 42) := ⟨⟨by decide +kernel, by decide +kernel⟩, List.mem_of_getElem? (i := 766) (by decide +kernel), List.mem_of_getElem? (i := 1053) (by decide +kernel), List.mem_of_getElem? (i := 1054) (by decide +kernel)⟩
theorem lw_p51 : lw_okq (⟨"MeterBusModel", "has", "(I)Z"⟩, 42) := ⟨⟨by decide +kernel, by decide +kernel⟩, List.mem_of_getElem? (i := 766) (by decide +kernel), List.mem_of_getElem? (i := 1057) (by decide +kernel), List.mem_of_getElem? (i := 1058) (by decide +kernel)⟩
theorem lw_p52 : lw_okq (⟨"MeterBusModel", "whole", "(I)J"⟩, 42) := ⟨⟨by decide +kernel, by decide +kernel⟩, List.mem_of_getElem? (i := 766) (by decide +kernel), List.mem_of_getElem? (i := 1061) (by decide +kernel), List.mem_of_getElem? (i := 1062) (by decide +kernel)⟩
theorem lw_p53 : lw_okq (⟨"MeterBusModel", "digits", "(IZ)J"⟩, 42) := ⟨⟨by decide +kernel, by decide +kernel⟩, List.mem_of_getElem? (i := 766) (by decide +kernel), List.mem_of_getElem? (i := 1066) (by decide +kernel), List.mem_of_getElem? (i := 1067) (by decide +kernel)⟩
def lw_privs_4 : List (MethodName × Nat) := [(⟨"MeterBusModel", "next", "()I"⟩, 42), (⟨"MeterBusModel", "textTo", "(I)V"⟩, 42), (⟨"MeterBusModel", "value", "(I)V"⟩, 42), (⟨"MeterBusModel", "has", "(I)Z"⟩, 42), (⟨"MeterBusModel", "whole", "(I)J"⟩, 42), (⟨"MeterBusModel", "digits", "(IZ)J"⟩, 42)]
theorem lw_r4 : ∀ q ∈ lw_privs_4, lw_okq q := List.forall_mem_cons.mpr ⟨lw_p48, List.forall_mem_cons.mpr ⟨lw_p49, List.forall_mem_cons.mpr ⟨lw_p50, List.forall_mem_cons.mpr ⟨lw_p51, List.forall_mem_cons.mpr ⟨lw_p52, List.forall_mem_cons.mpr ⟨lw_p53, fun _ h => absurd h List.not_mem_nil⟩⟩⟩⟩⟩⟩
def lw_privs : List (MethodName × Nat) := lw_privs_1 ++ (lw_privs_2 ++ (lw_privs_3 ++ (lw_privs_4)))
def lw_tbl : List Cond := k2_sels lw_privs ++ tables_1
theorem lw_privs_ok : ∀ q ∈ lw_privs, lw_okq q := by
  show ∀ q ∈ lw_privs_1 ++ (lw_privs_2 ++ (lw_privs_3 ++ (lw_privs_4))), lw_okq q
  exact List.forall_mem_append.mpr ⟨lw_r1, List.forall_mem_append.mpr ⟨lw_r2, List.forall_mem_append.mpr ⟨lw_r3, lw_r4⟩⟩⟩
end
section
/-! A calculus over the machine: pure heaps, one judgement X for a frame, one contract T for a method. My own. -/
abbrev PH : Type := Nat → Option va_E
def hs (h : PH) (a : Nat) (e : va_E) : PH := fun q => if q = a then some e else h q
theorem hs_self (h : PH) (a : Nat) (e : va_E) : hs h a e a = some e := by simp [hs]
theorem hs_ne {h : PH} {a q : Nat} {e : va_E} (n : q ≠ a) : hs h a e q = h q := by simp [hs, n]
/-- the machine's heap holds h, and all of h lies from base on -/
def hp_in (D : va_G) (cl : List vw_C) (base : Nat) (h : PH) (H : Heap) : Prop :=
  ∃ (LP : List Nat) (f : Nat → va_E), (∀ a e, h a = some e → a ∈ LP ∧ f a = e) ∧ va_P D cl (va_pl LP f) H ∧ va_D (fun q : Nat => base ≤ q) (va_pl LP f)
/-- .. some h that is as A says -/
def hpA (D : va_G) (cl : List vw_C) (base : Nat) (A : PH → Prop) (H : Heap) : Prop := ∃ h : PH, A h ∧ hp_in D cl base h H
/-- what a walk never changes: the machine; the frame; the world's numbers; locals, cells, slots; the end -/
abbrev Fx : Type := (Program × Launch × Env × Room × State) × (MethodId × Array Value × List Frame × Method × Code) × (va_G × List vw_C × List (ClassId × FieldType) × Nat) × (Nat × Nat × Nat) × (State → Prop)
abbrev Fx.p (z : Fx) : Program := z.1.1
abbrev Fx.l (z : Fx) : Launch := z.1.2.1
abbrev Fx.e (z : Fx) : Env := z.1.2.2.1
abbrev Fx.R (z : Fx) : Room := z.1.2.2.2.1
abbrev Fx.s (z : Fx) : State := z.1.2.2.2.2
abbrev Fx.m (z : Fx) : MethodId := z.2.1.1
abbrev Fx.args (z : Fx) : Array Value := z.2.1.2.1
abbrev Fx.below (z : Fx) : List Frame := z.2.1.2.2.1
abbrev Fx.meth (z : Fx) : Method := z.2.1.2.2.2.1
abbrev Fx.c (z : Fx) : Code := z.2.1.2.2.2.2
abbrev Fx.D (z : Fx) : va_G := z.2.2.1.1
abbrev Fx.cl (z : Fx) : List vw_C := z.2.2.1.2.1
abbrev Fx.tys (z : Fx) : List (ClassId × FieldType) := z.2.2.1.2.2.1
abbrev Fx.base (z : Fx) : Nat := z.2.2.1.2.2.2
abbrev Fx.nL (z : Fx) : Nat := z.2.2.2.1.1
abbrev Fx.mc (z : Fx) : Nat := z.2.2.2.1.2.1
abbrev Fx.ms (z : Fx) : Nat := z.2.2.2.1.2.2
abbrev Fx.Q (z : Fx) : State → Prop := z.2.2.2.2
/-- locals by their places -/
def lx (z : Fx) (L : List (Option Value)) (ls : Array Slot) : Prop := ls.size = z.nL ∧ lv_wf ls ∧ ∀ (i : Nat) (v : Value), L[i]? = some (some v) → ls[i]? = some (.val v)
abbrev Wz (z : Fx) (H : Heap) (locs : List Loc) (cells slots : Nat) (g : JFrame) : Prop := W z.p z.l z.e z.R z.s z.m z.args z.below z.meth z.c H locs cells slots z.Q g
/-- from this frame, over any heap that is as A says, with kc cells and ks slots to make yet, the method comes to its end -/
def X (z : Fx) (kc ks : Nat) (A : PH → Prop) (pc : Nat) (L : List (Option Value)) (st : List Value) : Prop :=
  ∀ (H : Heap) (locs : List Loc) (ls : Array Slot) (cells slots : Nat), hpA z.D z.cl z.base A H → va_S (fun q : Nat => z.base ≤ q) z.s.heap H locs → lx z L ls → cells + kc ≤ z.mc → slots + ks ≤ z.ms → Wz z H locs cells slots (F0 z.m pc ls st)
/-- what is known of the method that is walked -/
def Cx (z : Fx) (own : String) (cc : ByteArray) (Ts : List Cond) : Prop :=
  z.p.tables.exec = Jvm.exec ∧ z.c.code = cc ∧ z.c.maxLocals = z.nL ∧ z.s.vm.findClass own = some z.m.cls ∧ (∀ w ∈ Ts, w.before z.args z.s = true) ∧ va_K z.D z.cl z.tys z.s ∧ z.base ≤ z.s.heap.size ∧ z.mc ≤ z.R.cells ∧ z.ms ≤ z.R.slots
section Rows
variable {z : Fx} {own : String} {cc : ByteArray} {Ts : List Cond} {kc ks pc : Nat} {A : PH → Prop} {L : List (Option Value)} {st : List Value}
theorem Cx.x (C : Cx z own cc Ts) : z.p.tables.exec = Jvm.exec := C.1
theorem Cx.b (C : Cx z own cc Ts) : z.c.code = cc := C.2.1
theorem Cx.ml (C : Cx z own cc Ts) : z.c.maxLocals = z.nL := C.2.2.1
theorem Cx.ow (C : Cx z own cc Ts) : z.s.vm.findClass own = some z.m.cls := C.2.2.2.1
theorem Cx.ts (C : Cx z own cc Ts) : ∀ w ∈ Ts, w.before z.args z.s = true := C.2.2.2.2.1
theorem Cx.K (C : Cx z own cc Ts) : va_K z.D z.cl z.tys z.s := C.2.2.2.2.2.1
theorem Cx.fr (C : Cx z own cc Ts) : ∀ q : Nat, z.s.heap.size ≤ q → (fun q : Nat => z.base ≤ q) q := fun _ g => Nat.le_trans C.2.2.2.2.2.2.1 g
theorem Cx.rc (C : Cx z own cc Ts) : z.mc ≤ z.R.cells := C.2.2.2.2.2.2.2.1
theorem Cx.rs (C : Cx z own cc Ts) : z.ms ≤ z.R.slots := C.2.2.2.2.2.2.2.2
/-- the heap may be known less, the room more -/
theorem X.weak {kc' ks' : Nat} {A' : PH → Prop} (k : X z kc' ks' A' pc L st) (hh : ∀ h, A h → A' h) (hc : kc' ≤ kc) (hs : ks' ≤ ks) : X z kc ks A pc L st := by
  intro H locs ls cells slots ⟨h, q, r⟩ hS hl c1 c2
  exact k H locs ls cells slots ⟨h, hh h q, r⟩ hS hl (by omega) (by omega)
theorem X.room {kc' ks' : Nat} (k : X z kc' ks' A pc L st) (hc : kc' ≤ kc) (hs : ks' ≤ ks) : X z kc ks A pc L st := k.weak (fun _ g => g) hc hs
theorem X.heap {A' : PH → Prop} (k : X z kc ks A' pc L st) (hh : ∀ h, A h → A' h) : X z kc ks A pc L st := k.weak hh (Nat.le_refl _) (Nat.le_refl _)
/-- the heap may be known less -/
theorem X.less {A' : PH → Prop} (k : X z kc ks A' pc L st) (hh : ∀ h, A h → ∃ h', A' h' ∧ ∀ a e, h' a = some e → h a = some e) : X z kc ks A pc L st := by
  intro H locs ls cells slots ⟨h, q, LP, f, q1, q2, q3⟩ hS hl c1 c2
  obtain ⟨h', r1, r2⟩ := hh h q
  exact k H locs ls cells slots ⟨h', r1, LP, f, fun a e g => q1 a e (r2 a e g), q2, q3⟩ hS hl c1 c2
theorem X.ex {α : Sort _} {B : α → PH → Prop} (k : ∀ x, X z kc ks (B x) pc L st) : X z kc ks (fun h => ∃ x, B x h) pc L st := by
  intro H locs ls cells slots ⟨h, ⟨x, q⟩, r⟩ hS hl c1 c2
  exact k x H locs ls cells slots ⟨h, q, r⟩ hS hl c1 c2
theorem X.pure {p : Prop} (hp : ∀ h, A h → p) (k : p → X z kc ks A pc L st) : X z kc ks A pc L st := by
  intro H locs ls cells slots ⟨h, q, r⟩ hS hl c1 c2
  exact k (hp h q) H locs ls cells slots ⟨h, q, r⟩ hS hl c1 c2
/-- fewer locals -/
def lsub (L' L : List (Option Value)) : Bool := match L', L with
  | [], _ => true
  | none :: a, _ :: b => lsub a b
  | none :: a, [] => lsub a []
  | some _ :: _, [] => false
  | some u :: a, some v :: b => decide (u = v) && lsub a b
  | some _ :: _, none :: _ => false
theorem lx.at {ls : Array Slot} (hl : lx z L ls) {i : Nat} {v : Value} (g : L[i]? = some (some v)) : ls[i]? = some (.val v) := hl.2.2 i v g
theorem X.locals {L' : List (Option Value)} (k : X z kc ks A pc L' st) (hh : ∀ (i : Nat) (v : Value), L'[i]? = some (some v) → L[i]? = some (some v)) : X z kc ks A pc L st := by
  intro H locs ls cells slots hp hS hl c1 c2
  exact k H locs ls cells slots hp hS ⟨hl.1, hl.2.1, fun i v g => hl.2.2 i v (hh i v g)⟩ c1 c2
/-- a store of one place: a long that lay in the place ahead and this one is gone -/
def is2 (v : Option Value) : Bool := match v with
  | some w => w.category == 2
  | none => false
def lst1 (L : List (Option Value)) (i : Nat) (v : Value) : List (Option Value) := match L, i with
  | [], _ => []
  | _ :: b, 0 => some v :: b
  | a :: b, 1 => (if is2 a then none else a) :: lst1 b 0 v
  | a :: b, i + 2 => a :: lst1 b (i + 1) v
def lst2 (L : List (Option Value)) (i : Nat) (v : Value) : List (Option Value) := match L, i with
  | [], _ => []
  | _ :: _ :: b, 0 => some v :: none :: b
  | [_], 0 => [some v]
  | a :: b, 1 => (if is2 a then none else a) :: lst2 b 0 v
  | a :: b, i + 2 => a :: lst2 b (i + 1) v
theorem lst1_get {L : List (Option Value)} {i : Nat} {v : Value} : ∀ {j : Nat} {w : Value}, (lst1 L i v)[j]? = some (some w) → (j = i ∧ w = v) ∨ (j ≠ i ∧ L[j]? = some (some w) ∧ ¬ (j + 1 = i ∧ w.category = 2)) := by
  fun_induction lst1 L i v with
  | case1 => intro j w g; simp at g
  | case2 a b => 
    intro j w g
    cases j with
    | zero => simp at g; exact Or.inl ⟨rfl, g.symm⟩
    | succ j => simp at g; exact Or.inr ⟨by omega, by simpa using g, by omega⟩
  | case3 a b ih =>
    intro j w g
    cases j with
    | zero =>
      simp at g
      refine Or.inr ⟨by omega, by simpa using g.2, fun q => ?_⟩
      have := g.2
      subst this
      simp [is2, q.2] at g
    | succ j =>
      simp at g
      rcases ih g with ⟨q1, q2⟩ | ⟨q1, q2, q3⟩
      · exact Or.inl ⟨by omega, q2⟩
      · exact Or.inr ⟨by omega, by simpa using q2, by omega⟩
  | case4 a b i ih =>
    intro j w g
    cases j with
    | zero => simp at g; exact Or.inr ⟨by omega, by simpa using g, by omega⟩
    | succ j =>
      simp at g
      rcases ih g with ⟨q1, q2⟩ | ⟨q1, q2, q3⟩
      · exact Or.inl ⟨by omega, q2⟩
      · exact Or.inr ⟨by omega, by simpa using q2, fun q => q3 ⟨by omega, q.2⟩⟩
theorem lst2_get {L : List (Option Value)} {i : Nat} {v : Value} : ∀ {j : Nat} {w : Value}, (lst2 L i v)[j]? = some (some w) → (j = i ∧ w = v) ∨ (j ≠ i ∧ j ≠ i + 1 ∧ L[j]? = some (some w) ∧ ¬ (j + 1 = i ∧ w.category = 2)) := by
  fun_induction lst2 L i v with
  | case1 => intro j w g; simp at g
  | case2 a b c =>
    intro j w g
    match j with
    | 0 => simp at g; exact Or.inl ⟨rfl, g.symm⟩
    | 1 => simp at g
    | j + 2 => simp at g; exact Or.inr ⟨by omega, by omega, by simpa using g, by omega⟩
  | case3 a =>
    intro j w g
    match j with
    | 0 => simp at g; exact Or.inl ⟨rfl, g.symm⟩
    | j + 1 => simp at g
  | case4 a b ih =>
    intro j w g
    cases j with
    | zero =>
      simp at g
      refine Or.inr ⟨by omega, by omega, by simpa using g.2, fun q => ?_⟩
      have := g.2
      subst this
      simp [is2, q.2] at g
    | succ j =>
      simp at g
      rcases ih g with ⟨q1, q2⟩ | ⟨q1, q2, q3, q4⟩
      · exact Or.inl ⟨by omega, q2⟩
      · exact Or.inr ⟨by omega, by omega, by simpa using q3, by omega⟩
  | case5 a b i ih =>
    intro j w g
    cases j with
    | zero => simp at g; exact Or.inr ⟨by omega, by omega, by simpa using g, by omega⟩
    | succ j =>
      simp at g
      rcases ih g with ⟨q1, q2⟩ | ⟨q1, q2, q3, q4⟩
      · exact Or.inl ⟨by omega, q2⟩
      · exact Or.inr ⟨by omega, by omega, by simpa using q3, fun q => q4 ⟨by omega, q.2⟩⟩
def lpr (i : Nat) (L : List (Option Value)) : List (Nat × Value) := match L with
  | [] => []
  | none :: b => lpr (i + 1) b
  | some v :: b => (i, v) :: lpr (i + 1) b
theorem lpr_mem {L : List (Option Value)} : ∀ {i : Nat} {q : Nat × Value}, q ∈ lpr i L ↔ ∃ j : Nat, q.1 = i + j ∧ L[j]? = some (some q.2) := by
  induction L with
  | nil => intro i q; simp [lpr]
  | cons a b ih =>
    intro i q
    cases a with
    | none =>
      rw [lpr, ih]
      constructor
      · rintro ⟨j, h1, h2⟩
        exact ⟨j + 1, by omega, by simpa using h2⟩
      · rintro ⟨j, h1, h2⟩
        cases j with
        | zero => simp at h2
        | succ j => exact ⟨j, by omega, by simpa using h2⟩
    | some v =>
      rw [lpr, List.mem_cons, ih]
      constructor
      · rintro (h1 | ⟨j, h1, h2⟩)
        · subst h1
          exact ⟨0, rfl, rfl⟩
        · exact ⟨j + 1, by omega, by simpa using h2⟩
      · rintro ⟨j, h1, h2⟩
        cases j with
        | zero =>
          left
          simp at h2
          obtain ⟨q1, q2⟩ := q
          simp at h1 h2
          rw [h1, h2]
        | succ j => exact Or.inr ⟨j, by omega, by simpa using h2⟩
theorem lx.has {ls : Array Slot} (hl : lx z L ls) : lv_has ls z.nL (lpr 0 L) := ⟨hl.1, hl.2.1, fun q hq => by
  obtain ⟨j, h1, h2⟩ := lpr_mem.mp hq
  rw [h1, Nat.zero_add]
  exact hl.2.2 j q.2 h2⟩
theorem lx.of1 {ls : Array Slot} {i : Nat} {v : Value} (hl : lv_has ls z.nL ((i, v) :: (lpr 0 L).filter (fun q => !(q.1 == i) && !(q.1 + 1 == i && q.2.category == 2)))) : lx z (lst1 L i v) ls := by
  refine ⟨hl.1, hl.2.1, fun j w g => ?_⟩
  rcases lst1_get g with ⟨q1, q2⟩ | ⟨q1, q2, q3⟩
  · subst q1; subst q2
    exact hl.2.2 (j, w) List.mem_cons_self
  · refine hl.2.2 (j, w) (List.mem_cons_of_mem _ (List.mem_filter.mpr ⟨lpr_mem.mpr ⟨j, by simp, q2⟩, ?_⟩))
    simp [q1]
    omega
theorem lx.of2 {ls : Array Slot} {i : Nat} {v : Value} (hl : lv_has ls z.nL ((i, v) :: (lpr 0 L).filter (fun q => !(q.1 == i) && (!(q.1 == i + 1) && !(q.1 + 1 == i && q.2.category == 2))))) : lx z (lst2 L i v) ls := by
  refine ⟨hl.1, hl.2.1, fun j w g => ?_⟩
  rcases lst2_get g with ⟨q1, q2⟩ | ⟨q1, q2, q3, q4⟩
  · subst q1; subst q2
    exact hl.2.2 (j, w) List.mem_cons_self
  · refine hl.2.2 (j, w) (List.mem_cons_of_mem _ (List.mem_filter.mpr ⟨lpr_mem.mpr ⟨j, by simp, q3⟩, ?_⟩))
    simp [q1, q2]
    omega
end Rows
end
section
/-! Rows of X, an instruction each. By program (wip/mkrows.py). -/
section Rows
variable {z : Fx} {own : String} {cc : ByteArray} {Ts : List Cond} {kc ks pc : Nat} {A : PH → Prop} {L : List (Option Value)} {st : List Value}
theorem x_iadd (C : Cx z own cc Ts) {x y : Int32} (d : decode cc pc = .ok (.iadd, 1)) 
    (k : X z kc ks A (pc + 1) L (.int (x + y) :: st)) : X z kc ks A pc L (.int y :: .int x :: st) := by
  intro H locs ls cells slots hp hS hl c1 c2
  exact lv_iadd C.x C.b d (k H locs ls cells slots hp hS hl c1 c2)
theorem x_isub (C : Cx z own cc Ts) {x y : Int32} (d : decode cc pc = .ok (.isub, 1)) 
    (k : X z kc ks A (pc + 1) L (.int (x - y) :: st)) : X z kc ks A pc L (.int y :: .int x :: st) := by
  intro H locs ls cells slots hp hS hl c1 c2
  exact lv_isub C.x C.b d (k H locs ls cells slots hp hS hl c1 c2)
theorem x_imul (C : Cx z own cc Ts) {x y : Int32} (d : decode cc pc = .ok (.imul, 1)) 
    (k : X z kc ks A (pc + 1) L (.int (x * y) :: st)) : X z kc ks A pc L (.int y :: .int x :: st) := by
  intro H locs ls cells slots hp hS hl c1 c2
  exact lv_imul C.x C.b d (k H locs ls cells slots hp hS hl c1 c2)
theorem x_iand (C : Cx z own cc Ts) {x y : Int32} (d : decode cc pc = .ok (.iand, 1)) 
    (k : X z kc ks A (pc + 1) L (.int (x &&& y) :: st)) : X z kc ks A pc L (.int y :: .int x :: st) := by
  intro H locs ls cells slots hp hS hl c1 c2
  exact lv_iand C.x C.b d (k H locs ls cells slots hp hS hl c1 c2)
theorem x_ior (C : Cx z own cc Ts) {x y : Int32} (d : decode cc pc = .ok (.ior, 1)) 
    (k : X z kc ks A (pc + 1) L (.int (x ||| y) :: st)) : X z kc ks A pc L (.int y :: .int x :: st) := by
  intro H locs ls cells slots hp hS hl c1 c2
  exact lv_ior C.x C.b d (k H locs ls cells slots hp hS hl c1 c2)
theorem x_ixor (C : Cx z own cc Ts) {x y : Int32} (d : decode cc pc = .ok (.ixor, 1)) 
    (k : X z kc ks A (pc + 1) L (.int (x ^^^ y) :: st)) : X z kc ks A pc L (.int y :: .int x :: st) := by
  intro H locs ls cells slots hp hS hl c1 c2
  exact lv_ixor C.x C.b d (k H locs ls cells slots hp hS hl c1 c2)
theorem x_ladd (C : Cx z own cc Ts) {x y : Int64} (d : decode cc pc = .ok (.ladd, 1)) 
    (k : X z kc ks A (pc + 1) L (.long (x + y) :: st)) : X z kc ks A pc L (.long y :: .long x :: st) := by
  intro H locs ls cells slots hp hS hl c1 c2
  exact lv_ladd C.x C.b d (k H locs ls cells slots hp hS hl c1 c2)
theorem x_lsub (C : Cx z own cc Ts) {x y : Int64} (d : decode cc pc = .ok (.lsub, 1)) 
    (k : X z kc ks A (pc + 1) L (.long (x - y) :: st)) : X z kc ks A pc L (.long y :: .long x :: st) := by
  intro H locs ls cells slots hp hS hl c1 c2
  exact lv_lsub C.x C.b d (k H locs ls cells slots hp hS hl c1 c2)
theorem x_lmul (C : Cx z own cc Ts) {x y : Int64} (d : decode cc pc = .ok (.lmul, 1)) 
    (k : X z kc ks A (pc + 1) L (.long (x * y) :: st)) : X z kc ks A pc L (.long y :: .long x :: st) := by
  intro H locs ls cells slots hp hS hl c1 c2
  exact lv_lmul C.x C.b d (k H locs ls cells slots hp hS hl c1 c2)
theorem x_land (C : Cx z own cc Ts) {x y : Int64} (d : decode cc pc = .ok (.land, 1)) 
    (k : X z kc ks A (pc + 1) L (.long (x &&& y) :: st)) : X z kc ks A pc L (.long y :: .long x :: st) := by
  intro H locs ls cells slots hp hS hl c1 c2
  exact lv_land C.x C.b d (k H locs ls cells slots hp hS hl c1 c2)
theorem x_lor (C : Cx z own cc Ts) {x y : Int64} (d : decode cc pc = .ok (.lor, 1)) 
    (k : X z kc ks A (pc + 1) L (.long (x ||| y) :: st)) : X z kc ks A pc L (.long y :: .long x :: st) := by
  intro H locs ls cells slots hp hS hl c1 c2
  exact lv_lor C.x C.b d (k H locs ls cells slots hp hS hl c1 c2)
theorem x_lxor (C : Cx z own cc Ts) {x y : Int64} (d : decode cc pc = .ok (.lxor, 1)) 
    (k : X z kc ks A (pc + 1) L (.long (x ^^^ y) :: st)) : X z kc ks A pc L (.long y :: .long x :: st) := by
  intro H locs ls cells slots hp hS hl c1 c2
  exact lv_lxor C.x C.b d (k H locs ls cells slots hp hS hl c1 c2)
theorem x_ishl (C : Cx z own cc Ts) {x y : Int32} (d : decode cc pc = .ok (.ishl, 1)) 
    (k : X z kc ks A (pc + 1) L (.int (x <<< (y &&& 31)) :: st)) : X z kc ks A pc L (.int y :: .int x :: st) := by
  intro H locs ls cells slots hp hS hl c1 c2
  exact lv_ishl C.x C.b d (k H locs ls cells slots hp hS hl c1 c2)
theorem x_ishr (C : Cx z own cc Ts) {x y : Int32} (d : decode cc pc = .ok (.ishr, 1)) 
    (k : X z kc ks A (pc + 1) L (.int (x >>> (y &&& 31)) :: st)) : X z kc ks A pc L (.int y :: .int x :: st) := by
  intro H locs ls cells slots hp hS hl c1 c2
  exact lv_ishr C.x C.b d (k H locs ls cells slots hp hS hl c1 c2)
theorem x_iushr (C : Cx z own cc Ts) {x y : Int32} (d : decode cc pc = .ok (.iushr, 1)) 
    (k : X z kc ks A (pc + 1) L (.int ((x.toUInt32 >>> (y.toUInt32 &&& Int32.toUInt32 31)).toInt32) :: st)) : X z kc ks A pc L (.int y :: .int x :: st) := by
  intro H locs ls cells slots hp hS hl c1 c2
  exact lv_iushr C.x C.b d rfl (k H locs ls cells slots hp hS hl c1 c2)
theorem x_lshl (C : Cx z own cc Ts) {x : Int64} {y : Int32} (d : decode cc pc = .ok (.lshl, 1)) 
    (k : X z kc ks A (pc + 1) L (.long (x <<< (y.toInt64 &&& 63)) :: st)) : X z kc ks A pc L (.int y :: .long x :: st) := by
  intro H locs ls cells slots hp hS hl c1 c2
  exact lv_lshl C.x C.b d rfl (k H locs ls cells slots hp hS hl c1 c2)
theorem x_lshr (C : Cx z own cc Ts) {x : Int64} {y : Int32} (d : decode cc pc = .ok (.lshr, 1)) 
    (k : X z kc ks A (pc + 1) L (.long (x >>> (y.toInt64 &&& 63)) :: st)) : X z kc ks A pc L (.int y :: .long x :: st) := by
  intro H locs ls cells slots hp hS hl c1 c2
  exact lv_lshr C.x C.b d rfl (k H locs ls cells slots hp hS hl c1 c2)
theorem x_lushr (C : Cx z own cc Ts) {x : Int64} {y : Int32} (d : decode cc pc = .ok (.lushr, 1)) 
    (k : X z kc ks A (pc + 1) L (.long ((x.toUInt64 >>> (y.toInt64.toUInt64 &&& Int64.toUInt64 63)).toInt64) :: st)) : X z kc ks A pc L (.int y :: .long x :: st) := by
  intro H locs ls cells slots hp hS hl c1 c2
  exact lv_lushr C.x C.b d rfl (k H locs ls cells slots hp hS hl c1 c2)
theorem x_i2l (C : Cx z own cc Ts) {x : Int32} (d : decode cc pc = .ok (.i2l, 1)) 
    (k : X z kc ks A (pc + 1) L (.long x.toInt64 :: st)) : X z kc ks A pc L (.int x :: st) := by
  intro H locs ls cells slots hp hS hl c1 c2
  exact lv_i2l C.x C.b d rfl (k H locs ls cells slots hp hS hl c1 c2)
theorem x_l2i (C : Cx z own cc Ts) {x : Int64} (d : decode cc pc = .ok (.l2i, 1)) 
    (k : X z kc ks A (pc + 1) L (.int x.toInt32 :: st)) : X z kc ks A pc L (.long x :: st) := by
  intro H locs ls cells slots hp hS hl c1 c2
  exact lv_l2i C.x C.b d rfl (k H locs ls cells slots hp hS hl c1 c2)
theorem x_ineg (C : Cx z own cc Ts) {x : Int32} (d : decode cc pc = .ok (.ineg, 1)) 
    (k : X z kc ks A (pc + 1) L (.int (-x) :: st)) : X z kc ks A pc L (.int x :: st) := by
  intro H locs ls cells slots hp hS hl c1 c2
  exact lv_ineg C.x C.b d (k H locs ls cells slots hp hS hl c1 c2)
theorem x_lneg (C : Cx z own cc Ts) {x : Int64} (d : decode cc pc = .ok (.lneg, 1)) 
    (k : X z kc ks A (pc + 1) L (.long (-x) :: st)) : X z kc ks A pc L (.long x :: st) := by
  intro H locs ls cells slots hp hS hl c1 c2
  exact lv_lneg C.x C.b d (k H locs ls cells slots hp hS hl c1 c2)
theorem x_dup (C : Cx z own cc Ts) {v : Value} (d : decode cc pc = .ok (.dup, 1)) (g : v.category = 1)
    (k : X z kc ks A (pc + 1) L (v :: v :: st)) : X z kc ks A pc L (v :: st) := by
  intro H locs ls cells slots hp hS hl c1 c2
  exact lv_dup C.x C.b d g (k H locs ls cells slots hp hS hl c1 c2)
theorem x_dup_x1 (C : Cx z own cc Ts) {v w : Value} (d : decode cc pc = .ok (.dup_x1, 1)) (g1 : v.category = 1) (g2 : w.category = 1)
    (k : X z kc ks A (pc + 1) L (v :: w :: v :: st)) : X z kc ks A pc L (v :: w :: st) := by
  intro H locs ls cells slots hp hS hl c1 c2
  exact lv_dup_x1 C.x C.b d g1 g2 (k H locs ls cells slots hp hS hl c1 c2)
theorem x_dup2 (C : Cx z own cc Ts) {v w : Value} (d : decode cc pc = .ok (.dup2, 1)) (g1 : v.category = 1) (g2 : w.category = 1)
    (k : X z kc ks A (pc + 1) L (v :: w :: v :: w :: st)) : X z kc ks A pc L (v :: w :: st) := by
  intro H locs ls cells slots hp hS hl c1 c2
  exact lv_dup2_11 C.x C.b d g1 g2 (k H locs ls cells slots hp hS hl c1 c2)
theorem x_pop (C : Cx z own cc Ts) {v : Value} (d : decode cc pc = .ok (.pop, 1)) (g : v.category = 1)
    (k : X z kc ks A (pc + 1) L (st)) : X z kc ks A pc L (v :: st) := by
  intro H locs ls cells slots hp hS hl c1 c2
  exact lv_pop C.x C.b d g (k H locs ls cells slots hp hS hl c1 c2)
theorem x_iconst (C : Cx z own cc Ts) {i : Int} {v : Int32} (d : decode cc pc = .ok (.iconst i, 1)) (g : Int32.ofInt i = v)
    (k : X z kc ks A (pc + 1) L (.int v :: st)) : X z kc ks A pc L (st) := by
  intro H locs ls cells slots hp hS hl c1 c2
  exact lv_iconst C.x C.b d g (k H locs ls cells slots hp hS hl c1 c2)
theorem x_bipush (C : Cx z own cc Ts) {i : Int} {v : Int32} (d : decode cc pc = .ok (.bipush i, 2)) (g : (Int8.ofInt i).toInt32 = v)
    (k : X z kc ks A (pc + 2) L (.int v :: st)) : X z kc ks A pc L (st) := by
  intro H locs ls cells slots hp hS hl c1 c2
  exact lv_bipush C.x C.b d g (k H locs ls cells slots hp hS hl c1 c2)
theorem x_sipush (C : Cx z own cc Ts) {i : Int} {v : Int32} (d : decode cc pc = .ok (.sipush i, 3)) (g : (Int16.ofInt i).toInt32 = v)
    (k : X z kc ks A (pc + 3) L (.int v :: st)) : X z kc ks A pc L (st) := by
  intro H locs ls cells slots hp hS hl c1 c2
  exact lv_sipush C.x C.b d g (k H locs ls cells slots hp hS hl c1 c2)
theorem x_null (C : Cx z own cc Ts)  (d : decode cc pc = .ok (.aconst_null, 1)) 
    (k : X z kc ks A (pc + 1) L (.null :: st)) : X z kc ks A pc L (st) := by
  intro H locs ls cells slots hp hS hl c1 c2
  exact lv_null C.x C.b d (k H locs ls cells slots hp hS hl c1 c2)
theorem x_iload_n (C : Cx z own cc Ts) {i : Fin 4} {x : Int32} (d : decode cc pc = .ok (.iload_n i, 1)) (g : L[(i : Nat)]? = some (some (.int x)))
    (k : X z kc ks A (pc + 1) L (.int x :: st)) : X z kc ks A pc L st := by
  intro H locs ls cells slots hp hS hl c1 c2
  exact lv_iload_n C.x C.b d rfl (hl.at g) (k H locs ls cells slots hp hS hl c1 c2)
theorem x_iload (C : Cx z own cc Ts) {i : Nat} {x : Int32} (d : decode cc pc = .ok (.iload i, 2)) (g : L[i]? = some (some (.int x)))
    (k : X z kc ks A (pc + 2) L (.int x :: st)) : X z kc ks A pc L st := by
  intro H locs ls cells slots hp hS hl c1 c2
  exact lv_iload C.x C.b d (hl.at g) (k H locs ls cells slots hp hS hl c1 c2)
theorem x_istore_n (C : Cx z own cc Ts) {i : Fin 4} {x : Int32} (d : decode cc pc = .ok (.istore_n i, 1)) (g : (i : Nat) < z.nL)
    (k : X z kc ks A (pc + 1) (lst1 L i (.int x)) st) : X z kc ks A pc L (.int x :: st) := by
  intro H locs ls cells slots hp hS hl c1 c2
  exact lv_istore_n C.x C.b d rfl hl.has g rfl (fun ls' hl' => k H locs ls' cells slots hp hS (lx.of1 hl') c1 c2)
theorem x_istore (C : Cx z own cc Ts) {i : Nat} {x : Int32} (d : decode cc pc = .ok (.istore i, 2)) (g : i < z.nL)
    (k : X z kc ks A (pc + 2) (lst1 L i (.int x)) st) : X z kc ks A pc L (.int x :: st) := by
  intro H locs ls cells slots hp hS hl c1 c2
  exact lv_istore C.x C.b d hl.has g rfl (fun ls' hl' => k H locs ls' cells slots hp hS (lx.of1 hl') c1 c2)
theorem x_lload_n (C : Cx z own cc Ts) {i : Fin 4} {x : Int64} (d : decode cc pc = .ok (.lload_n i, 1)) (g : L[(i : Nat)]? = some (some (.long x)))
    (k : X z kc ks A (pc + 1) L (.long x :: st)) : X z kc ks A pc L st := by
  intro H locs ls cells slots hp hS hl c1 c2
  exact lv_lload_n C.x C.b d rfl (hl.at g) (k H locs ls cells slots hp hS hl c1 c2)
theorem x_lload (C : Cx z own cc Ts) {i : Nat} {x : Int64} (d : decode cc pc = .ok (.lload i, 2)) (g : L[i]? = some (some (.long x)))
    (k : X z kc ks A (pc + 2) L (.long x :: st)) : X z kc ks A pc L st := by
  intro H locs ls cells slots hp hS hl c1 c2
  exact lv_lload C.x C.b d (hl.at g) (k H locs ls cells slots hp hS hl c1 c2)
theorem x_lstore_n (C : Cx z own cc Ts) {i : Fin 4} {x : Int64} (d : decode cc pc = .ok (.lstore_n i, 1)) (g : (i : Nat) + 1 < z.nL)
    (k : X z kc ks A (pc + 1) (lst2 L i (.long x)) st) : X z kc ks A pc L (.long x :: st) := by
  intro H locs ls cells slots hp hS hl c1 c2
  exact lv_lstore_n C.x C.b d rfl hl.has g rfl (fun ls' hl' => k H locs ls' cells slots hp hS (lx.of2 hl') c1 c2)
theorem x_lstore (C : Cx z own cc Ts) {i : Nat} {x : Int64} (d : decode cc pc = .ok (.lstore i, 2)) (g : i + 1 < z.nL)
    (k : X z kc ks A (pc + 2) (lst2 L i (.long x)) st) : X z kc ks A pc L (.long x :: st) := by
  intro H locs ls cells slots hp hS hl c1 c2
  exact lv_lstore C.x C.b d hl.has g rfl (fun ls' hl' => k H locs ls' cells slots hp hS (lx.of2 hl') c1 c2)
theorem x_aload_n (C : Cx z own cc Ts) {i : Fin 4} {x : Nat} (d : decode cc pc = .ok (.aload_n i, 1)) (g : L[(i : Nat)]? = some (some (.ref x)))
    (k : X z kc ks A (pc + 1) L (.ref x :: st)) : X z kc ks A pc L st := by
  intro H locs ls cells slots hp hS hl c1 c2
  exact lv_aload_n C.x C.b d rfl (hl.at g) (k H locs ls cells slots hp hS hl c1 c2)
theorem x_aload (C : Cx z own cc Ts) {i : Nat} {x : Nat} (d : decode cc pc = .ok (.aload i, 2)) (g : L[i]? = some (some (.ref x)))
    (k : X z kc ks A (pc + 2) L (.ref x :: st)) : X z kc ks A pc L st := by
  intro H locs ls cells slots hp hS hl c1 c2
  exact lv_aload C.x C.b d (hl.at g) (k H locs ls cells slots hp hS hl c1 c2)
theorem x_astore_n (C : Cx z own cc Ts) {i : Fin 4} {x : Nat} (d : decode cc pc = .ok (.astore_n i, 1)) (g : (i : Nat) < z.nL)
    (k : X z kc ks A (pc + 1) (lst1 L i (.ref x)) st) : X z kc ks A pc L (.ref x :: st) := by
  intro H locs ls cells slots hp hS hl c1 c2
  exact lv_astore_n C.x C.b d rfl hl.has g rfl (fun ls' hl' => k H locs ls' cells slots hp hS (lx.of1 hl') c1 c2)
theorem x_astore (C : Cx z own cc Ts) {i : Nat} {x : Nat} (d : decode cc pc = .ok (.astore i, 2)) (g : i < z.nL)
    (k : X z kc ks A (pc + 2) (lst1 L i (.ref x)) st) : X z kc ks A pc L (.ref x :: st) := by
  intro H locs ls cells slots hp hS hl c1 c2
  exact lv_astore C.x C.b d hl.has g rfl (fun ls' hl' => k H locs ls' cells slots hp hS (lx.of1 hl') c1 c2)
theorem x_aload_nN (C : Cx z own cc Ts) {i : Fin 4} (d : decode cc pc = .ok (.aload_n i, 1)) (g : L[(i : Nat)]? = some (some .null))
    (k : X z kc ks A (pc + 1) L (.null :: st)) : X z kc ks A pc L st := by
  intro H locs ls cells slots hp hS hl c1 c2
  exact lv_aload_nN C.x C.b d rfl (hl.at g) (k H locs ls cells slots hp hS hl c1 c2)
theorem x_aloadN (C : Cx z own cc Ts) {i : Nat} (d : decode cc pc = .ok (.aload i, 2)) (g : L[i]? = some (some .null))
    (k : X z kc ks A (pc + 2) L (.null :: st)) : X z kc ks A pc L st := by
  intro H locs ls cells slots hp hS hl c1 c2
  exact lv_aloadN C.x C.b d (hl.at g) (k H locs ls cells slots hp hS hl c1 c2)
theorem x_astore_nN (C : Cx z own cc Ts) {i : Fin 4} (d : decode cc pc = .ok (.astore_n i, 1)) (g : (i : Nat) < z.nL)
    (k : X z kc ks A (pc + 1) (lst1 L i .null) st) : X z kc ks A pc L (.null :: st) := by
  intro H locs ls cells slots hp hS hl c1 c2
  exact lv_astore_nN C.x C.b d rfl hl.has g rfl (fun ls' hl' => k H locs ls' cells slots hp hS (lx.of1 hl') c1 c2)
theorem x_astoreN (C : Cx z own cc Ts) {i : Nat} (d : decode cc pc = .ok (.astore i, 2)) (g : i < z.nL)
    (k : X z kc ks A (pc + 2) (lst1 L i .null) st) : X z kc ks A pc L (.null :: st) := by
  intro H locs ls cells slots hp hS hl c1 c2
  exact lv_astoreN C.x C.b d hl.has g rfl (fun ls' hl' => k H locs ls' cells slots hp hS (lx.of1 hl') c1 c2)
theorem x_iinc (C : Cx z own cc Ts) {i : Nat} {n : Int} {x v : Int32} (d : decode cc pc = .ok (.iinc i n, 3)) (g : L[i]? = some (some (.int x))) (hv : x + Int32.ofInt n = v) (gn : i < z.nL)
    (k : X z kc ks A (pc + 3) (lst1 L i (.int v)) st) : X z kc ks A pc L st := by
  intro H locs ls cells slots hp hS hl c1 c2
  obtain ⟨j, hj⟩ := List.getElem?_of_mem (lpr_mem (L := L) (i := 0) (q := (i, Value.int x)) |>.mpr ⟨i, by simp, g⟩)
  exact lv_iinc C.x C.b d hl.has hj hv gn rfl (fun ls' hl' => k H locs ls' cells slots hp hS (lx.of1 hl') c1 c2)
theorem x_if_eq (C : Cx z own cc Ts) {x : Int32} {off : Int} {tgt : Nat} (d : decode cc pc = .ok (.ifCond .eq off, 3)) (ht : (pc : Int) + off = (tgt : Int))
    (kt : x = 0 → X z kc ks A tgt L st) (kf : ¬ x = 0 → X z kc ks A (pc + 3) L st) : X z kc ks A pc L (.int x :: st) := by
  intro H locs ls cells slots hp hS hl c1 c2
  exact lv_if_eq C.x C.b d ht (fun g => kt g H locs ls cells slots hp hS hl c1 c2) (fun g => kf g H locs ls cells slots hp hS hl c1 c2)
theorem x_icmp_eq (C : Cx z own cc Ts) {x y : Int32} {off : Int} {tgt : Nat} (d : decode cc pc = .ok (.if_icmp .eq off, 3)) (ht : (pc : Int) + off = (tgt : Int))
    (kt : x = y → X z kc ks A tgt L st) (kf : ¬ x = y → X z kc ks A (pc + 3) L st) : X z kc ks A pc L (.int y :: .int x :: st) := by
  intro H locs ls cells slots hp hS hl c1 c2
  exact lv_icmp_eq C.x C.b d ht (fun g => kt g H locs ls cells slots hp hS hl c1 c2) (fun g => kf g H locs ls cells slots hp hS hl c1 c2)
theorem x_if_ne (C : Cx z own cc Ts) {x : Int32} {off : Int} {tgt : Nat} (d : decode cc pc = .ok (.ifCond .ne off, 3)) (ht : (pc : Int) + off = (tgt : Int))
    (kt : ¬ x = 0 → X z kc ks A tgt L st) (kf : x = 0 → X z kc ks A (pc + 3) L st) : X z kc ks A pc L (.int x :: st) := by
  intro H locs ls cells slots hp hS hl c1 c2
  exact lv_if_ne C.x C.b d ht (fun g => kt g H locs ls cells slots hp hS hl c1 c2) (fun g => kf g H locs ls cells slots hp hS hl c1 c2)
theorem x_icmp_ne (C : Cx z own cc Ts) {x y : Int32} {off : Int} {tgt : Nat} (d : decode cc pc = .ok (.if_icmp .ne off, 3)) (ht : (pc : Int) + off = (tgt : Int))
    (kt : ¬ x = y → X z kc ks A tgt L st) (kf : x = y → X z kc ks A (pc + 3) L st) : X z kc ks A pc L (.int y :: .int x :: st) := by
  intro H locs ls cells slots hp hS hl c1 c2
  exact lv_icmp_ne C.x C.b d ht (fun g => kt g H locs ls cells slots hp hS hl c1 c2) (fun g => kf g H locs ls cells slots hp hS hl c1 c2)
theorem x_if_lt (C : Cx z own cc Ts) {x : Int32} {off : Int} {tgt : Nat} (d : decode cc pc = .ok (.ifCond .lt off, 3)) (ht : (pc : Int) + off = (tgt : Int))
    (kt : x < 0 → X z kc ks A tgt L st) (kf : ¬ x < 0 → X z kc ks A (pc + 3) L st) : X z kc ks A pc L (.int x :: st) := by
  intro H locs ls cells slots hp hS hl c1 c2
  exact lv_if_lt C.x C.b d ht (fun g => kt g H locs ls cells slots hp hS hl c1 c2) (fun g => kf g H locs ls cells slots hp hS hl c1 c2)
theorem x_icmp_lt (C : Cx z own cc Ts) {x y : Int32} {off : Int} {tgt : Nat} (d : decode cc pc = .ok (.if_icmp .lt off, 3)) (ht : (pc : Int) + off = (tgt : Int))
    (kt : x < y → X z kc ks A tgt L st) (kf : ¬ x < y → X z kc ks A (pc + 3) L st) : X z kc ks A pc L (.int y :: .int x :: st) := by
  intro H locs ls cells slots hp hS hl c1 c2
  exact lv_icmp_lt C.x C.b d ht (fun g => kt g H locs ls cells slots hp hS hl c1 c2) (fun g => kf g H locs ls cells slots hp hS hl c1 c2)
theorem x_if_ge (C : Cx z own cc Ts) {x : Int32} {off : Int} {tgt : Nat} (d : decode cc pc = .ok (.ifCond .ge off, 3)) (ht : (pc : Int) + off = (tgt : Int))
    (kt : 0 ≤ x → X z kc ks A tgt L st) (kf : ¬ 0 ≤ x → X z kc ks A (pc + 3) L st) : X z kc ks A pc L (.int x :: st) := by
  intro H locs ls cells slots hp hS hl c1 c2
  exact lv_if_ge C.x C.b d ht (fun g => kt g H locs ls cells slots hp hS hl c1 c2) (fun g => kf g H locs ls cells slots hp hS hl c1 c2)
theorem x_icmp_ge (C : Cx z own cc Ts) {x y : Int32} {off : Int} {tgt : Nat} (d : decode cc pc = .ok (.if_icmp .ge off, 3)) (ht : (pc : Int) + off = (tgt : Int))
    (kt : y ≤ x → X z kc ks A tgt L st) (kf : ¬ y ≤ x → X z kc ks A (pc + 3) L st) : X z kc ks A pc L (.int y :: .int x :: st) := by
  intro H locs ls cells slots hp hS hl c1 c2
  exact lv_icmp_ge C.x C.b d ht (fun g => kt g H locs ls cells slots hp hS hl c1 c2) (fun g => kf g H locs ls cells slots hp hS hl c1 c2)
theorem x_if_gt (C : Cx z own cc Ts) {x : Int32} {off : Int} {tgt : Nat} (d : decode cc pc = .ok (.ifCond .gt off, 3)) (ht : (pc : Int) + off = (tgt : Int))
    (kt : 0 < x → X z kc ks A tgt L st) (kf : ¬ 0 < x → X z kc ks A (pc + 3) L st) : X z kc ks A pc L (.int x :: st) := by
  intro H locs ls cells slots hp hS hl c1 c2
  exact lv_if_gt C.x C.b d ht (fun g => kt g H locs ls cells slots hp hS hl c1 c2) (fun g => kf g H locs ls cells slots hp hS hl c1 c2)
theorem x_icmp_gt (C : Cx z own cc Ts) {x y : Int32} {off : Int} {tgt : Nat} (d : decode cc pc = .ok (.if_icmp .gt off, 3)) (ht : (pc : Int) + off = (tgt : Int))
    (kt : y < x → X z kc ks A tgt L st) (kf : ¬ y < x → X z kc ks A (pc + 3) L st) : X z kc ks A pc L (.int y :: .int x :: st) := by
  intro H locs ls cells slots hp hS hl c1 c2
  exact lv_icmp_gt C.x C.b d ht (fun g => kt g H locs ls cells slots hp hS hl c1 c2) (fun g => kf g H locs ls cells slots hp hS hl c1 c2)
theorem x_if_le (C : Cx z own cc Ts) {x : Int32} {off : Int} {tgt : Nat} (d : decode cc pc = .ok (.ifCond .le off, 3)) (ht : (pc : Int) + off = (tgt : Int))
    (kt : x ≤ 0 → X z kc ks A tgt L st) (kf : ¬ x ≤ 0 → X z kc ks A (pc + 3) L st) : X z kc ks A pc L (.int x :: st) := by
  intro H locs ls cells slots hp hS hl c1 c2
  exact lv_if_le C.x C.b d ht (fun g => kt g H locs ls cells slots hp hS hl c1 c2) (fun g => kf g H locs ls cells slots hp hS hl c1 c2)
theorem x_icmp_le (C : Cx z own cc Ts) {x y : Int32} {off : Int} {tgt : Nat} (d : decode cc pc = .ok (.if_icmp .le off, 3)) (ht : (pc : Int) + off = (tgt : Int))
    (kt : x ≤ y → X z kc ks A tgt L st) (kf : ¬ x ≤ y → X z kc ks A (pc + 3) L st) : X z kc ks A pc L (.int y :: .int x :: st) := by
  intro H locs ls cells slots hp hS hl c1 c2
  exact lv_icmp_le C.x C.b d ht (fun g => kt g H locs ls cells slots hp hS hl c1 c2) (fun g => kf g H locs ls cells slots hp hS hl c1 c2)
theorem x_goto (C : Cx z own cc Ts) {off : Int} {tgt : Nat} (d : decode cc pc = .ok (.goto off, 3)) (ht : (pc : Int) + off = (tgt : Int)) (k : X z kc ks A tgt L st) : X z kc ks A pc L st := by
  intro H locs ls cells slots hp hS hl c1 c2
  exact lv_goto C.x C.b d ht (k H locs ls cells slots hp hS hl c1 c2)
theorem x_ifnull (C : Cx z own cc Ts) {a : Nat} {off : Int} (d : decode cc pc = .ok (.ifnull off, 3)) (k : X z kc ks A (pc + 3) L st) : X z kc ks A pc L (.ref a :: st) := by
  intro H locs ls cells slots hp hS hl c1 c2
  exact lv_ifnull C.x C.b d (k H locs ls cells slots hp hS hl c1 c2)
theorem x_ifnullN (C : Cx z own cc Ts) {off : Int} {tgt : Nat} (d : decode cc pc = .ok (.ifnull off, 3)) (ht : (pc : Int) + off = (tgt : Int)) (k : X z kc ks A tgt L st) : X z kc ks A pc L (.null :: st) := by
  intro H locs ls cells slots hp hS hl c1 c2
  exact lv_ifnullN C.x C.b d ht (k H locs ls cells slots hp hS hl c1 c2)
theorem x_ifnonnull (C : Cx z own cc Ts) {a : Nat} {off : Int} {tgt : Nat} (d : decode cc pc = .ok (.ifnonnull off, 3)) (ht : (pc : Int) + off = (tgt : Int)) (k : X z kc ks A tgt L st) : X z kc ks A pc L (.ref a :: st) := by
  intro H locs ls cells slots hp hS hl c1 c2
  exact lv_ifnonnull C.x C.b d ht (k H locs ls cells slots hp hS hl c1 c2)
theorem x_ifnonnullN (C : Cx z own cc Ts) {off : Int} (d : decode cc pc = .ok (.ifnonnull off, 3)) (k : X z kc ks A (pc + 3) L st) : X z kc ks A pc L (.null :: st) := by
  intro H locs ls cells slots hp hS hl c1 c2
  exact lv_ifnonnullN C.x C.b d (k H locs ls cells slots hp hS hl c1 c2)
theorem x_ldc (C : Cx z own cc Ts) {index : Nat} {v : Int32} (w : Jvm.Cond.constant own index v ∈ Ts) (d : decode cc pc = .ok (.ldc index, 2)) (k : X z kc ks A (pc + 2) L (.int v :: st)) : X z kc ks A pc L st := by
  intro H locs ls cells slots hp hS hl c1 c2
  exact lv_ldc C.x C.b C.ow (C.ts _ w) d (k H locs ls cells slots hp hS hl c1 c2)
theorem x_ldc2 (C : Cx z own cc Ts) {index : Nat} {v : Int64} (w : Jvm.Cond.constantLong own index v ∈ Ts) (d : decode cc pc = .ok (.ldc2_w index, 3)) (k : X z kc ks A (pc + 3) L (.long v :: st)) : X z kc ks A pc L st := by
  intro H locs ls cells slots hp hS hl c1 c2
  exact lv_ldc2 C.x C.b C.ow (C.ts _ w) d (k H locs ls cells slots hp hS hl c1 c2)
theorem x_tblOut (C : Cx z own cc Ts) {dflt lo hi : Int} {offs : Array Int} {len : Nat} {x : Int32} {tgt : Nat} (d : decode cc pc = .ok (.tableswitch dflt lo hi offs, len)) (g : x.toInt < lo ∨ hi < x.toInt) (ht : (pc : Int) + dflt = (tgt : Int)) (k : X z kc ks A tgt L st) : X z kc ks A pc L (.int x :: st) := by
  intro H locs ls cells slots hp hS hl c1 c2
  exact lv_tableOut C.x C.b d g ht (k H locs ls cells slots hp hS hl c1 c2)
theorem x_tblIn (C : Cx z own cc Ts) {dflt lo hi : Int} {offs : Array Int} {len : Nat} {x : Int32} {off : Int} {tgt : Nat} (d : decode cc pc = .ok (.tableswitch dflt lo hi offs, len)) (g1 : ¬ x.toInt < lo) (g2 : ¬ hi < x.toInt) (ho : offs[(x.toInt - lo).toNat]? = some off) (ht : (pc : Int) + off = (tgt : Int)) (k : X z kc ks A tgt L st) : X z kc ks A pc L (.int x :: st) := by
  intro H locs ls cells slots hp hS hl c1 c2
  exact lv_tableIn C.x C.b d g1 g2 ho ht (k H locs ls cells slots hp hS hl c1 c2)
theorem x_lookup (C : Cx z own cc Ts) {dflt : Int} {ps : Array (Int × Int)} {len : Nat} {x : Int32} {off : Int} {tgt : Nat} (d : decode cc pc = .ok (.lookupswitch dflt ps, len)) (hp0 : (ps.toList.zip (ps.toList.drop 1)).all (fun (a, next) => a.1 < next.1) = true) (ho : Op.lookupswitch.offset ps.toList dflt x.toInt = off) (ht : (pc : Int) + off = (tgt : Int)) (k : X z kc ks A tgt L st) : X z kc ks A pc L (.int x :: st) := by
  intro H locs ls cells slots hp hS hl c1 c2
  exact lv_lookup C.x C.b d hp0 ho ht (k H locs ls cells slots hp hS hl c1 c2)
end Rows
end
section
/-! Rows of X for fields, arrays, new things. By program (wip/mkheap.py). -/
section Rows
variable {z : Fx} {own : String} {cc : ByteArray} {Ts : List Cond} {kc ks pc : Nat} {A B : PH → Prop} {L : List (Option Value)} {st : List Value}
theorem hp_get {D : va_G} {cl : List vw_C} {base : Nat} {h : PH} {H : Heap} {LP : List Nat} {f : Nat → va_E} {a : Nat} {e : va_E} (q1 : ∀ a e, h a = some e → a ∈ LP ∧ f a = e) (g : h a = some e) : ∃ k : Nat, (va_pl LP f)[k]? = some (a, e) := by
  obtain ⟨g1, g2⟩ := q1 a e g
  subst g2
  exact va_pl_get (X := []) g1
theorem hp_set {D : va_G} {cl : List vw_C} {base : Nat} {h : PH} {H1 : Heap} {LP : List Nat} {f : Nat → va_E} {a k : Nat} {e e1 : va_E} (q1 : ∀ a e, h a = some e → a ∈ LP ∧ f a = e) (q3 : va_D (fun q : Nat => base ≤ q) (va_pl LP f)) (g : h a = some e) (hk : (va_pl LP f)[k]? = some (a, e)) (hP : va_P D cl ((va_pl LP f).set k (a, e1)) H1) : hp_in D cl base (hs h a e1) H1 := by
  obtain ⟨g1, g2⟩ := q1 a e g
  have hk2 : ([] ++ va_pl LP f)[k]? = some (a, f a) := by rw [g2]; exact hk
  have e2 := va_pl_set (X := []) (e := e1) q3 g1 hk2
  refine ⟨LP, va_up f a e1, fun b eb gb => ?_, by have := hP; rw [show (va_pl LP f).set k (a, e1) = va_pl LP (va_up f a e1) from e2] at this; exact this, ?_⟩
  · by_cases hb : b = a
    · subst hb
      rw [hs_self] at gb
      exact ⟨g1, by rw [va_up_self]; exact Option.some.inj gb⟩
    · rw [hs_ne hb] at gb
      exact ⟨(q1 b eb gb).1, by rw [va_up_ne _ _ hb]; exact (q1 b eb gb).2⟩
  · have := va_D.set (e := e1) q3 hk
    rw [show (va_pl LP f).set k (a, e1) = va_pl LP (va_up f a e1) from e2] at this
    exact this
theorem hp_new {D : va_G} {cl : List vw_C} {base : Nat} {h : PH} {H1 : Heap} {LP : List Nat} {f : Nat → va_E} {q : Nat} {e1 : va_E} (q1 : ∀ a e, h a = some e → a ∈ LP ∧ f a = e) (hP : va_P D cl (va_pl LP f ++ [(q, e1)]) H1) (hD : va_D (fun q : Nat => base ≤ q) (va_pl LP f ++ [(q, e1)])) : h q = none ∧ hp_in D cl base (hs h q e1) H1 := by
  have hq : q ∉ LP := by
    intro hq
    obtain ⟨k, hk⟩ := va_pl_get (X := []) (f := f) hq
    have hk : (va_pl LP f)[k]? = some (q, f q) := hk
    have hl := (List.getElem?_eq_some_iff.mp hk).1
    have := hD.1 k (va_pl LP f).length (q, f q) (q, e1) (by rw [List.getElem?_append_left hl]; exact hk) (by rw [List.getElem?_append_right (Nat.le_refl _), Nat.sub_self]; rfl) rfl
    omega
  refine ⟨?_, LP ++ [q], va_up f q e1, fun b eb gb => ?_, by rw [← va_pl_push hq]; exact hP, by rw [← va_pl_push hq]; exact hD⟩
  · cases hh : h q with
    | none => rfl
    | some e => exact absurd (q1 q e hh).1 hq
  · by_cases hb : b = q
    · subst hb
      rw [hs_self] at gb
      exact ⟨List.mem_append_right _ (List.mem_singleton.mpr rfl), by rw [va_up_self]; exact Option.some.inj gb⟩
    · rw [hs_ne hb] at gb
      exact ⟨List.mem_append_left _ (q1 b eb gb).1, by rw [va_up_ne _ _ hb]; exact (q1 b eb gb).2⟩
/-- what the tables say of a class ci: its place, its words, its types, its names -/
def Kd (cl : List vw_C) (Ts : List Cond) (ci : Nat) (C : String) (T : u_T) (N : Nat) (ty : Nat → FieldType) : Prop := cl[ci]? = some (C, T, N) ∧ (∀ w ∈ u_ws C T N, w ∈ Ts) ∧ (∀ k, k < N → parseFieldDescriptor (T k).2.2.1 = some (ty k)) ∧ (∀ a, a < N → ∀ b, b < N → a ≠ b → (T a).2.1 ≠ (T b).2.1)
theorem x_get (C : Cx z own cc Ts) {Cn : String} {T : u_T} {N ci index : Nat} {ty : Nat → FieldType} (kd : Kd z.cl Ts ci Cn T N ty) (k : Nat) (hk : k < N) (w : Cond.fieldLink own index (T k).1 (T k).2.1 (T k).2.2.1 ∈ Ts) (d : decode cc pc = .ok (.getfield index, 3)) {a : Nat} {fs : List Value} {v : Value} (g : ∀ h, A h → h a = some (.inr (ci, fs))) (gv : fs[k]? = some v)
    (kk : X z kc ks A (pc + 3) L (v :: st)) : X z kc ks A pc L (.ref a :: st) := by
  intro H locs ls cells slots ⟨h, hA, LP, f, q1, q2, q3⟩ hS hl c1 c2
  obtain ⟨q0, hq0⟩ := hp_get (D := z.D) (cl := z.cl) (base := z.base) (H := H) q1 (g h hA)
  exact va_get C.x C.b C.ts kd.2.1 C.ow C.K q2 q0 hq0 kd.1 k hk (C.ts _ w) (fun _ h9 => h9) gv d (kk H locs ls cells slots ⟨h, hA, LP, f, q1, q2, q3⟩ hS hl c1 c2)
theorem x_put (C : Cx z own cc Ts) {Cn : String} {T : u_T} {N ci index : Nat} {ty : Nat → FieldType} (kd : Kd z.cl Ts ci Cn T N ty) (k : Nat) (hk : k < N) (hfin : (T k).2.2.2 = false) (w : Cond.fieldLink own index (T k).1 (T k).2.1 (T k).2.2.1 ∈ Ts) (d : decode cc pc = .ok (.putfield index, 3)) {a : Nat} {fs : List Value} {v : Value} (g : ∀ h, A h → h a = some (.inr (ci, fs))) (gl : k < fs.length) (hn : narrow (ty k) v = v) (hf : fits (ty k) v = true)
    (g' : ∀ h, A h → B (hs h a (.inr (ci, fs.set k v)))) (kk : X z kc ks B (pc + 3) L st) : X z kc ks A pc L (v :: .ref a :: st) := by
  intro H locs ls cells slots ⟨h, hA, LP, f, q1, q2, q3⟩ hS hl c1 c2
  obtain ⟨q0, hq0⟩ := hp_get (D := z.D) (cl := z.cl) (base := z.base) (H := H) q1 (g h hA)
  exact va_put C.x C.b C.ts kd.2.1 ty kd.2.2.1 kd.2.2.2 C.ow C.K q2 q3 hS q0 hq0 kd.1 k hk (C.ts _ w) (fun _ h9 => h9) hfin (kd.2.2.1 k hk) hn hf gl d (fun H1 locs1 hP1 hD1 hS1 => kk H1 locs1 ls cells slots ⟨_, g' h hA, hp_set q1 q3 (g h hA) hq0 hP1⟩ hS1 hl c1 c2)
theorem x_putF (C : Cx z own cc Ts) (hin : z.meth.name = "<init>") {Cn : String} {T : u_T} {N ci index : Nat} {ty : Nat → FieldType} (kd : Kd z.cl Ts ci Cn T N ty) (k : Nat) (hk : k < N) (hfin : (T k).2.2.2 = true) (hown : (T k).1 = own) (w : Cond.fieldLink own index (T k).1 (T k).2.1 (T k).2.2.1 ∈ Ts) (d : decode cc pc = .ok (.putfield index, 3)) {a : Nat} {fs : List Value} {v : Value} (g : ∀ h, A h → h a = some (.inr (ci, fs))) (gl : k < fs.length) (hn : narrow (ty k) v = v) (hf : fits (ty k) v = true)
    (g' : ∀ h, A h → B (hs h a (.inr (ci, fs.set k v)))) (kk : X z kc ks B (pc + 3) L st) : X z kc ks A pc L (v :: .ref a :: st) := by
  intro H locs ls cells slots ⟨h, hA, LP, f, q1, q2, q3⟩ hS hl c1 c2
  obtain ⟨q0, hq0⟩ := hp_get (D := z.D) (cl := z.cl) (base := z.base) (H := H) q1 (g h hA)
  exact va_putF C.x C.b C.ts kd.2.1 ty kd.2.2.1 kd.2.2.2 C.ow C.K q2 q3 hS q0 hq0 kd.1 k hk (C.ts _ w) (fun _ h9 => h9) hfin hin hown (kd.2.2.1 k hk) hn hf gl d (fun H1 locs1 hP1 hD1 hS1 => kk H1 locs1 ls cells slots ⟨_, g' h hA, hp_set q1 q3 (g h hA) hq0 hP1⟩ hS1 hl c1 c2)
theorem x_iald (C : Cx z own cc Ts) {t0 : Nat} {cA : ClassId} (ht : z.tys[t0]? = some (cA, .int)) (d : decode cc pc = .ok (.iaload, 1)) {a n : Nat} {f : Nat → Int32} {i : Int32} (g : ∀ h, A h → h a = some (.inl (cA, n, .inl f))) (gi : vp_in i n)
    (kk : X z kc ks A (pc + 1) L (.int (f i.toNatClampNeg) :: st)) : X z kc ks A pc L (.int i :: .ref a :: st) := by
  intro H locs ls cells slots ⟨h, hA, LP, f0, q1, q2, q3⟩ hS hl c1 c2
  obtain ⟨q0, hq0⟩ := hp_get (D := z.D) (cl := z.cl) (base := z.base) (H := H) q1 (g h hA)
  exact va_iald C.x C.b C.K q2 q0 t0 hq0 ht gi d (kk H locs ls cells slots ⟨h, hA, LP, f0, q1, q2, q3⟩ hS hl c1 c2)
theorem x_zald (C : Cx z own cc Ts) {t0 : Nat} {cA : ClassId} (ht : z.tys[t0]? = some (cA, .boolean)) (d : decode cc pc = .ok (.baload, 1)) {a n : Nat} {f : Nat → Int32} {i : Int32} (g : ∀ h, A h → h a = some (.inl (cA, n, .inl f))) (gi : vp_in i n)
    (kk : X z kc ks A (pc + 1) L (.int (f i.toNatClampNeg) :: st)) : X z kc ks A pc L (.int i :: .ref a :: st) := by
  intro H locs ls cells slots ⟨h, hA, LP, f0, q1, q2, q3⟩ hS hl c1 c2
  obtain ⟨q0, hq0⟩ := hp_get (D := z.D) (cl := z.cl) (base := z.base) (H := H) q1 (g h hA)
  exact va_zald C.x C.b C.K q2 q0 t0 hq0 ht gi d (kk H locs ls cells slots ⟨h, hA, LP, f0, q1, q2, q3⟩ hS hl c1 c2)
theorem x_lald (C : Cx z own cc Ts) {t0 : Nat} {cA : ClassId} (ht : z.tys[t0]? = some (cA, .long)) (d : decode cc pc = .ok (.laload, 1)) {a n : Nat} {f : Nat → Int64} {i : Int32} (g : ∀ h, A h → h a = some (.inl (cA, n, .inr (.inl f)))) (gi : vp_in i n)
    (kk : X z kc ks A (pc + 1) L (.long (f i.toNatClampNeg) :: st)) : X z kc ks A pc L (.int i :: .ref a :: st) := by
  intro H locs ls cells slots ⟨h, hA, LP, f0, q1, q2, q3⟩ hS hl c1 c2
  obtain ⟨q0, hq0⟩ := hp_get (D := z.D) (cl := z.cl) (base := z.base) (H := H) q1 (g h hA)
  exact va_lald C.x C.b C.K q2 q0 t0 hq0 ht gi d (kk H locs ls cells slots ⟨h, hA, LP, f0, q1, q2, q3⟩ hS hl c1 c2)
theorem x_aald (C : Cx z own cc Ts) {t0 : Nat} {cA : ClassId} {Cn : String} (ht : z.tys[t0]? = some (cA, .object Cn)) (d : decode cc pc = .ok (.aaload, 1)) {a n : Nat} {f : Nat → Option Nat} {i : Int32} (g : ∀ h, A h → h a = some (.inl (cA, n, .inr (.inr (.inr (.inr f)))))) (gi : vp_in i n)
    (kk : X z kc ks A (pc + 1) L (va_rf (f i.toNatClampNeg) :: st)) : X z kc ks A pc L (.int i :: .ref a :: st) := by
  intro H locs ls cells slots ⟨h, hA, LP, f0, q1, q2, q3⟩ hS hl c1 c2
  obtain ⟨q0, hq0⟩ := hp_get (D := z.D) (cl := z.cl) (base := z.base) (H := H) q1 (g h hA)
  exact va_aldq C.x C.b C.K q2 q0 t0 hq0 ht gi d (kk H locs ls cells slots ⟨h, hA, LP, f0, q1, q2, q3⟩ hS hl c1 c2)
theorem x_alen (C : Cx z own cc Ts) {t0 : Nat} {cA : ClassId} {ty : FieldType} (ht : z.tys[t0]? = some (cA, ty)) (d : decode cc pc = .ok (.arraylength, 1)) {a : Nat} {x : vp_A} {v : Int32} (g : ∀ h, A h → h a = some (.inl (cA, x))) (hv : Int32.ofNat x.1 = v)
    (kk : X z kc ks A (pc + 1) L (.int v :: st)) : X z kc ks A pc L (.ref a :: st) := by
  intro H locs ls cells slots ⟨h, hA, LP, f0, q1, q2, q3⟩ hS hl c1 c2
  obtain ⟨q0, hq0⟩ := hp_get (D := z.D) (cl := z.cl) (base := z.base) (H := H) q1 (g h hA)
  exact va_alen C.x C.b C.K q2 q0 t0 hq0 ht hv d (kk H locs ls cells slots ⟨h, hA, LP, f0, q1, q2, q3⟩ hS hl c1 c2)
theorem x_iast (C : Cx z own cc Ts) {t0 : Nat} {cA : ClassId} (ht : z.tys[t0]? = some (cA, .int)) (d : decode cc pc = .ok (.iastore, 1)) {a n : Nat} {f : Nat → Int32} {i : Int32} {x : Int32} (g : ∀ h, A h → h a = some (.inl (cA, n, .inl f))) (gi : vp_in i n)
    (g' : ∀ h, A h → B (hs h a (.inl (cA, n, .inl (upd f i.toNatClampNeg x))))) (kk : X z kc ks B (pc + 1) L st) : X z kc ks A pc L (.int x :: .int i :: .ref a :: st) := by
  intro H locs ls cells slots ⟨h, hA, LP, f0, q1, q2, q3⟩ hS hl c1 c2
  obtain ⟨q0, hq0⟩ := hp_get (D := z.D) (cl := z.cl) (base := z.base) (H := H) q1 (g h hA)
  exact va_iast C.x C.b C.K q2 q3 hS q0 t0 hq0 ht gi d (fun H1 locs1 hP1 hD1 hS1 => kk H1 locs1 ls cells slots ⟨_, g' h hA, hp_set q1 q3 (g h hA) hq0 hP1⟩ hS1 hl c1 c2)
theorem x_zast (C : Cx z own cc Ts) {t0 : Nat} {cA : ClassId} (ht : z.tys[t0]? = some (cA, .boolean)) (d : decode cc pc = .ok (.bastore, 1)) {a n : Nat} {f : Nat → Int32} {i : Int32} {x : Int32} (g : ∀ h, A h → h a = some (.inl (cA, n, .inl f))) (gi : vp_in i n)
    (g' : ∀ h, A h → B (hs h a (.inl (cA, n, .inl (upd f i.toNatClampNeg (vp_nar .boolean x)))))) (kk : X z kc ks B (pc + 1) L st) : X z kc ks A pc L (.int x :: .int i :: .ref a :: st) := by
  intro H locs ls cells slots ⟨h, hA, LP, f0, q1, q2, q3⟩ hS hl c1 c2
  obtain ⟨q0, hq0⟩ := hp_get (D := z.D) (cl := z.cl) (base := z.base) (H := H) q1 (g h hA)
  exact va_zast C.x C.b C.K q2 q3 hS q0 t0 hq0 ht gi d (fun H1 locs1 hP1 hD1 hS1 => kk H1 locs1 ls cells slots ⟨_, g' h hA, hp_set q1 q3 (g h hA) hq0 hP1⟩ hS1 hl c1 c2)
theorem x_last (C : Cx z own cc Ts) {t0 : Nat} {cA : ClassId} (ht : z.tys[t0]? = some (cA, .long)) (d : decode cc pc = .ok (.lastore, 1)) {a n : Nat} {f : Nat → Int64} {i : Int32} {x : Int64} (g : ∀ h, A h → h a = some (.inl (cA, n, .inr (.inl f)))) (gi : vp_in i n)
    (g' : ∀ h, A h → B (hs h a (.inl (cA, n, .inr (.inl (vp_updL f i.toNatClampNeg x)))))) (kk : X z kc ks B (pc + 1) L st) : X z kc ks A pc L (.long x :: .int i :: .ref a :: st) := by
  intro H locs ls cells slots ⟨h, hA, LP, f0, q1, q2, q3⟩ hS hl c1 c2
  obtain ⟨q0, hq0⟩ := hp_get (D := z.D) (cl := z.cl) (base := z.base) (H := H) q1 (g h hA)
  exact va_last C.x C.b C.K q2 q3 hS q0 t0 hq0 ht gi d (fun H1 locs1 hP1 hD1 hS1 => kk H1 locs1 ls cells slots ⟨_, g' h hA, hp_set q1 q3 (g h hA) hq0 hP1⟩ hS1 hl c1 c2)
theorem x_aast (C : Cx z own cc Ts) {t0 ci : Nat} {cA : ClassId} {r : vw_C} (ht : z.tys[t0]? = some (cA, .object r.1)) (hc : z.cl[ci]? = some r) (d : decode cc pc = .ok (.aastore, 1)) {a n v : Nat} {vs : List Value} {f : Nat → Option Nat} {i : Int32} (g : ∀ h, A h → h a = some (.inl (cA, n, .inr (.inr (.inr (.inr f)))))) (gi : vp_in i n) (gv : ∀ h, A h → h v = some (.inr (ci, vs)))
    (g' : ∀ h, A h → B (hs h a (.inl (cA, n, .inr (.inr (.inr (.inr (va_up f i.toNatClampNeg (some v))))))))) (kk : X z kc ks B (pc + 1) L st) : X z kc ks A pc L (.ref v :: .int i :: .ref a :: st) := by
  intro H locs ls cells slots ⟨h, hA, LP, f0, q1, q2, q3⟩ hS hl c1 c2
  obtain ⟨q0, hq0⟩ := hp_get (D := z.D) (cl := z.cl) (base := z.base) (H := H) q1 (g h hA)
  obtain ⟨qk, hqk⟩ := hp_get (D := z.D) (cl := z.cl) (base := z.base) (H := H) q1 (gv h hA)
  exact va_astq C.x C.b C.K q2 q3 hS q0 t0 qk ci hq0 ht hqk hc gi d (fun H1 locs1 hP1 hD1 hS1 => kk H1 locs1 ls cells slots ⟨_, g' h hA, hp_set q1 q3 (g h hA) hq0 hP1⟩ hS1 hl c1 c2)
theorem x_aastN (C : Cx z own cc Ts) {t0 : Nat} {cA : ClassId} {Cn : String} (ht : z.tys[t0]? = some (cA, .object Cn)) (d : decode cc pc = .ok (.aastore, 1)) {a n : Nat} {f : Nat → Option Nat} {i : Int32} (g : ∀ h, A h → h a = some (.inl (cA, n, .inr (.inr (.inr (.inr f)))))) (gi : vp_in i n)
    (g' : ∀ h, A h → B (hs h a (.inl (cA, n, .inr (.inr (.inr (.inr (va_up f i.toNatClampNeg none)))))))) (kk : X z kc ks B (pc + 1) L st) : X z kc ks A pc L (.null :: .int i :: .ref a :: st) := by
  intro H locs ls cells slots ⟨h, hA, LP, f0, q1, q2, q3⟩ hS hl c1 c2
  obtain ⟨q0, hq0⟩ := hp_get (D := z.D) (cl := z.cl) (base := z.base) (H := H) q1 (g h hA)
  exact va_astqN C.x C.b C.K q2 q3 hS q0 t0 hq0 ht gi d (fun H1 locs1 hP1 hD1 hS1 => kk H1 locs1 ls cells slots ⟨_, g' h hA, hp_set q1 q3 (g h hA) hq0 hP1⟩ hS1 hl c1 c2)
theorem x_new (C : Cx z own cc Ts) {Cn : String} {T : u_T} {N ci index : Nat} {ty : Nat → FieldType} (kd : Kd z.cl Ts ci Cn T N ty) (w1 : Cond.classLink own index Cn ∈ Ts) (w2 : Cond.instantiable Cn N ∈ Ts) (w3 : Cond.initialized Cn ∈ Ts) (d : decode cc pc = .ok (.new index, 3)) {fs : List Value} (hfs : ∀ j, j < N → defaultValue (ty j) = vp_V fs j)
    {Bq : Nat → PH → Prop} (g' : ∀ h q, A h → h q = none → Bq q (hs h q (.inr (ci, fs)))) (kk : ∀ q : Nat, X z kc ks (Bq q) (pc + 3) L (.ref q :: st)) : X z (kc + 1) (ks + N) A pc L st := by
  intro H locs ls cells slots ⟨h, hA, LP, f, q1, q2, q3⟩ hS hl c1 c2
  have r1 := C.rc
  have r2 := C.rs
  refine va_new C.x C.b C.ts kd.2.1 ty kd.2.2.1 C.ow (C.ts _ w1) (C.ts _ w2) (C.ts _ w3) C.K q2 q3 hS C.fr kd.1 hfs (by omega) (by omega) d (fun q H1 hP1 hD1 hS1 => ?_)
  obtain ⟨g1, g2⟩ := hp_new q1 hP1 hD1
  exact kk q H1 locs ls (cells + 1) (slots + N) ⟨_, g' h q hA g1, g2⟩ hS1 hl (by omega) (by omega)
theorem x_newi (C : Cx z own cc Ts) {t0 : Nat} {cA : ClassId} (ht : z.tys[t0]? = some (cA, .int)) (w : Cond.arrayClass .int ∈ Ts) (d : decode cc pc = .ok (.newarray .int, 2)) {n : Int32} {N : Nat} (hn : ¬ n < 0) (hN : n.toNatClampNeg = N) (hb : N * 8 ≤ 536870912)
    {Bq : Nat → PH → Prop} (g' : ∀ h q, A h → h q = none → Bq q (hs h q (.inl (cA, N, .inl (fun _ => 0))))) (kk : ∀ q : Nat, X z kc ks (Bq q) (pc + 2) L (.ref q :: st)) : X z (kc + 1) (ks + N) A pc L (.int n :: st) := by
  intro H locs ls cells slots ⟨h, hA, LP, f, q1, q2, q3⟩ hS hl c1 c2
  have r1 := C.rc
  have r2 := C.rs
  refine va_newa C.x C.b (atype := .int) (C.ts _ w) rfl C.K q2 q3 hS C.fr (N' := N) (a0 := (N, .inl (fun _ => 0))) (fun _ => rfl) hn hN (Nat.le_trans (Nat.mul_le_mul_left N (show componentBytes .int ≤ 8 by decide)) hb) (by omega) (by omega) d (fun q cB H1 hK1 hP1 hD1 hS1 => ?_)
  have e1 : cB = cA := by
    have a1 := (hK1.2 z.tys.length (cB, .int) (by rw [List.getElem?_append_right (Nat.le_refl _), Nat.sub_self]; rfl)).2
    have a2 := (C.K.2 t0 (cA, .int) ht).2
    exact Option.some.inj (a1.symm.trans a2)
  subst e1
  obtain ⟨g1, g2⟩ := hp_new q1 hP1 hD1
  exact kk q H1 locs ls (cells + 1) (slots + N) ⟨_, g' h q hA g1, g2⟩ hS1 hl (by omega) (by omega)
theorem x_newl (C : Cx z own cc Ts) {t0 : Nat} {cA : ClassId} (ht : z.tys[t0]? = some (cA, .long)) (w : Cond.arrayClass .long ∈ Ts) (d : decode cc pc = .ok (.newarray .long, 2)) {n : Int32} {N : Nat} (hn : ¬ n < 0) (hN : n.toNatClampNeg = N) (hb : N * 8 ≤ 536870912)
    {Bq : Nat → PH → Prop} (g' : ∀ h q, A h → h q = none → Bq q (hs h q (.inl (cA, N, .inr (.inl (fun _ => 0)))))) (kk : ∀ q : Nat, X z kc ks (Bq q) (pc + 2) L (.ref q :: st)) : X z (kc + 1) (ks + N) A pc L (.int n :: st) := by
  intro H locs ls cells slots ⟨h, hA, LP, f, q1, q2, q3⟩ hS hl c1 c2
  have r1 := C.rc
  have r2 := C.rs
  refine va_newa C.x C.b (atype := .long) (C.ts _ w) rfl C.K q2 q3 hS C.fr (N' := N) (a0 := (N, .inr (.inl (fun _ => 0)))) (fun _ => rfl) hn hN (Nat.le_trans (Nat.mul_le_mul_left N (show componentBytes .long ≤ 8 by decide)) hb) (by omega) (by omega) d (fun q cB H1 hK1 hP1 hD1 hS1 => ?_)
  have e1 : cB = cA := by
    have a1 := (hK1.2 z.tys.length (cB, .long) (by rw [List.getElem?_append_right (Nat.le_refl _), Nat.sub_self]; rfl)).2
    have a2 := (C.K.2 t0 (cA, .long) ht).2
    exact Option.some.inj (a1.symm.trans a2)
  subst e1
  obtain ⟨g1, g2⟩ := hp_new q1 hP1 hD1
  exact kk q H1 locs ls (cells + 1) (slots + N) ⟨_, g' h q hA g1, g2⟩ hS1 hl (by omega) (by omega)
theorem x_newz (C : Cx z own cc Ts) {t0 : Nat} {cA : ClassId} (ht : z.tys[t0]? = some (cA, .boolean)) (w : Cond.arrayClass .boolean ∈ Ts) (d : decode cc pc = .ok (.newarray .boolean, 2)) {n : Int32} {N : Nat} (hn : ¬ n < 0) (hN : n.toNatClampNeg = N) (hb : N * 8 ≤ 536870912)
    {Bq : Nat → PH → Prop} (g' : ∀ h q, A h → h q = none → Bq q (hs h q (.inl (cA, N, .inl (fun _ => 0))))) (kk : ∀ q : Nat, X z kc ks (Bq q) (pc + 2) L (.ref q :: st)) : X z (kc + 1) (ks + N) A pc L (.int n :: st) := by
  intro H locs ls cells slots ⟨h, hA, LP, f, q1, q2, q3⟩ hS hl c1 c2
  have r1 := C.rc
  have r2 := C.rs
  refine va_newa C.x C.b (atype := .boolean) (C.ts _ w) rfl C.K q2 q3 hS C.fr (N' := N) (a0 := (N, .inl (fun _ => 0))) (fun _ => rfl) hn hN (Nat.le_trans (Nat.mul_le_mul_left N (show componentBytes .boolean ≤ 8 by decide)) hb) (by omega) (by omega) d (fun q cB H1 hK1 hP1 hD1 hS1 => ?_)
  have e1 : cB = cA := by
    have a1 := (hK1.2 z.tys.length (cB, .boolean) (by rw [List.getElem?_append_right (Nat.le_refl _), Nat.sub_self]; rfl)).2
    have a2 := (C.K.2 t0 (cA, .boolean) ht).2
    exact Option.some.inj (a1.symm.trans a2)
  subst e1
  obtain ⟨g1, g2⟩ := hp_new q1 hP1 hD1
  exact kk q H1 locs ls (cells + 1) (slots + N) ⟨_, g' h q hA g1, g2⟩ hS1 hl (by omega) (by omega)
theorem x_newq (C : Cx z own cc Ts) {t0 index : Nat} {cA : ClassId} {Cn : String} (ht : z.tys[t0]? = some (cA, .object Cn)) (ho : va_AO Cn z.s) (w : Cond.classLink own index Cn ∈ Ts) (d : decode cc pc = .ok (.anewarray index, 3)) {n : Int32} {N : Nat} (hn : ¬ n < 0) (hN : n.toNatClampNeg = N) (hb : N * 4 ≤ 536870912)
    {Bq : Nat → PH → Prop} (g' : ∀ h q, A h → h q = none → Bq q (hs h q (.inl (cA, N, .inr (.inr (.inr (.inr (fun _ => none)))))))) (kk : ∀ q : Nat, X z kc ks (Bq q) (pc + 3) L (.ref q :: st)) : X z (kc + 1) (ks + N) A pc L (.int n :: st) := by
  intro H locs ls cells slots ⟨h, hA, LP, f, q1, q2, q3⟩ hS hl c1 c2
  have r1 := C.rc
  have r2 := C.rs
  refine va_newq C.x C.b C.ow (C.ts _ w) ho C.K q2 q3 hS C.fr hn hN hb (by omega) (by omega) d (fun q cB H1 hK1 hP1 hD1 hS1 => ?_)
  have e1 : cB = cA := by
    obtain ⟨_, _, _, _, _, a1⟩ := (hK1.2 z.tys.length (cB, .object Cn) (by rw [List.getElem?_append_right (Nat.le_refl _), Nat.sub_self]; rfl)).2
    obtain ⟨_, _, _, _, _, a2⟩ := (C.K.2 t0 (cA, .object Cn) ht).2
    exact Option.some.inj (a1.symm.trans a2)
  subst e1
  obtain ⟨g1, g2⟩ := hp_new q1 hP1 hD1
  exact kk q H1 locs ls (cells + 1) (slots + N) ⟨_, g' h q hA g1, g2⟩ hS1 hl (by omega) (by omega)
end Rows
end
section
/-! Contracts over pure heaps, and calls. -/
/-- the world that is the same for all methods: launch, class numbers, classes, array classes, base, what is known of the machine besides -/
abbrev Wd : Type := Launch × va_G × List vw_C × List (ClassId × FieldType) × Nat × (State → Heap → Prop)
abbrev Wd.l (w : Wd) : Launch := w.1
abbrev Wd.D (w : Wd) : va_G := w.2.1
abbrev Wd.cl (w : Wd) : List vw_C := w.2.2.1
abbrev Wd.tys (w : Wd) : List (ClassId × FieldType) := w.2.2.2.1
abbrev Wd.base (w : Wd) : Nat := w.2.2.2.2.1
abbrev Wd.G (w : Wd) : State → Heap → Prop := w.2.2.2.2.2
abbrev Wd.A (w : Wd) : Nat → Prop := fun q : Nat => w.base ≤ q
/-- what is known besides stays known -/
def Wd.ok (w : Wd) : Prop := (∀ (u U : State) (H H1 : Heap), u.WarmedH U.vm → (∀ q : Nat, q < H.size → ¬ w.base ≤ q → H1[q]? = H[q]?) → w.G u H → w.G U H1) ∧ (∀ (u U : State) (H : Heap), u.vm = U.vm → w.G u H → w.G U H)
def Pz (w : Wd) (as : List Value) (A : PH → Prop) : Array Value → State → Prop := fun v U => v = as.toArray ∧ w.base ≤ U.heap.size ∧ va_K w.D w.cl w.tys U ∧ w.G U U.heap ∧ hpA w.D w.cl w.base A U.heap
def Qz (w : Wd) (P : Option Value → PH → Prop) : Array Value → State → Outcome → State → Prop := fun _ st o t => (∃ (r : Option Value) (h' : PH), o = .returned r ∧ P r h' ∧ hp_in w.D w.cl w.base h' t.heap) ∧ va_F w.A st t
/-- a contract: y, from any heap that is as A says, returns r with a heap that is as P r says -/
def T (w : Wd) (gw : List Cond) (y : MethodName) (cc : ByteArray) (n : Nat) (rt : Option FieldType) (fr lo mc ms : Nat) (as : List Value) (A : PH → Prop) (P : Option Value → PH → Prop) : Prop :=
  Met w.l y (Cond.code y cc n rt :: gw) ({ frames := fr, cells := mc, slots := ms, locals := lo }) (Pz w as A) (Qz w P) mc ms w.A
/-- the rest of what is known of the method that is walked -/
def Ct (z : Fx) (w : Wd) (gw : List Cond) (y : MethodName) (rt : Option FieldType) (fr lo : Nat) (P : Option Value → PH → Prop) : Prop :=
  z.l = w.l ∧ z.D = w.D ∧ z.cl = w.cl ∧ z.tys = w.tys ∧ z.base = w.base ∧ z.R.frames = fr ∧ z.R.locals = lo ∧ z.meth.sig.returnType = rt ∧ z.meth.locks = false ∧ z.meth.name = y.name ∧ w.G z.s z.s.heap ∧ z.Q = MQ z.below (Qz w P) z.args z.s z.mc z.ms w.A
def lent (n : Nat) (as : List Value) : List (Option Value) := match as with
  | [] => List.replicate n none
  | a :: b => if a.category = 2 then some a :: none :: lent (n - 2) b else some a :: lent (n - 1) b
theorem Pz.blind {w : Wd} (hw : w.ok) {as : List Value} {A : PH → Prop} : FrameBlind (Pz w as A) := by
  intro a U g mk ⟨q1, q2, q3, q4, q5⟩
  exact ⟨q1, q2, va_K.moved (u := U) (U := U.calling g mk a) (Vm.Alike.refl U.vm) q3, hw.2 U _ _ rfl q4, q5⟩
theorem lent_get : ∀ {as : List Value} {n k i : Nat} {v : Value}, (lent n as)[i]? = some (some v) → (k + i, v) ∈ lv_args k as := by
  intro as
  induction as with
  | nil =>
    intro n k i v g
    simp [lent, List.getElem?_replicate] at g
  | cons a b ih =>
    intro n k i v g
    unfold lent at g
    by_cases hc : a.category = 2
    · rw [if_pos hc] at g
      match i with
      | 0 => 
        simp at g
        subst g
        simp [lv_args]
      | 1 => simp at g
      | i + 2 =>
        simp at g
        have := ih (k := k + 2) g
        simp [lv_args, hc]
        have e : k + (i + 2) = k + 2 + i := by omega
        rw [e]
        exact this
    · rw [if_neg hc] at g
      have hc1 : a.category = 1 := by cases a <;> simp_all [Value.category]
      match i with
      | 0 => 
        simp at g
        subst g
        simp [lv_args]
      | i + 1 =>
        simp at g
        have := ih (k := k + 1) g
        simp [lv_args, hc1]
        have e : k + (i + 1) = k + 1 + i := by omega
        rw [e]
        exact this
/-- a contract out of the walk of the method's body -/
theorem T.intro {w : Wd} {gw : List Cond} {y : MethodName} {cc : ByteArray} {n : Nat} {rt : Option FieldType} {fr lo mc ms : Nat} {as : List Value} {A : PH → Prop} {P : Option Value → PH → Prop} (hy : plainName y.cls = true) (hlen : (lg_sl as).length ≤ n)
    (k : ∀ z : Fx, Cx z y.cls cc gw → Ct z w gw y rt fr lo P → z.nL = n → z.mc = mc → z.ms = ms → X z mc ms A 0 (lent n as) []) : T w gw y cc n rt fr lo mc ms as A P := by
  refine Met.ofW (cc := cc) (maxL := n) (ret := rt) hy rfl ?_
  intro p e s m args below meth c s₁ B hml hv
  obtain ⟨rfl, hv2, hv3, hv4, hv5⟩ := hv
  have hts := atoms_spec (ws := Cond.code y cc n rt :: gw) B.pre
  have hl := lv_entry as (n := n) hlen
  rw [lg_entry_eq]
  generalize (lg_sl as ++ List.replicate (n - (lg_sl as).length) Slot.unset).toArray = ls at hl ⊢
  have K := k ((p, w.l, e, ({ frames := fr, cells := mc, slots := ms, locals := lo } : Room), s), (m, as.toArray, below, meth, c), (w.D, w.cl, w.tys, w.base), (n, mc, ms), MQ below (Qz w P) as.toArray s mc ms w.A)
    ⟨B.exec, B.bytes, hml, findClass_of_methodNamed B.named, fun q hq => hts q (List.mem_cons_of_mem _ hq), hv3, hv2, Nat.le_refl _, Nat.le_refl _⟩
    ⟨rfl, rfl, rfl, rfl, rfl, rfl, rfl, B.returns, B.notSynchronized, (name_of_methodNamed B.named B.method).1, hv4, rfl⟩ rfl rfl rfl
  refine K s.heap [] ls 0 0 hv5 va_S.rf ⟨hl.1, hl.2.1, fun i v g => ?_⟩ (by simp [Fx.mc]) (by simp [Fx.ms])
  have := lent_get (k := 0) g
  rw [Nat.zero_add] at this
  exact hl.2.2 (i, v) this
section Rows
variable {z : Fx} {own : String} {cc : ByteArray} {gw : List Cond} {kc ks pc : Nat} {A : PH → Prop} {L : List (Option Value)} {st : List Value} {w : Wd} {y : MethodName} {rt : Option FieldType} {fr lo : Nat} {P : Option Value → PH → Prop}
theorem Ct.end_ (E : Ct z w gw y rt fr lo P) {r : Option Value} {H : Heap} {locs : List Loc} (hp : hpA z.D z.cl z.base A H) (hS : va_S (fun q : Nat => z.base ≤ q) z.s.heap H locs) (g : ∀ h, A h → P r h) : ∀ t : State, t.heap = H → z.s.WarmedH t.vm → Qz w P z.args z.s (.returned r) t := by
  obtain ⟨e1, e2, e3, e4, e5, -⟩ := E
  intro t ht _
  rw [e2, e3, e5] at hp
  rw [e5] at hS
  obtain ⟨h, hA, hp⟩ := hp
  exact ⟨⟨r, h, rfl, g h hA, by rw [ht]; exact hp⟩, hS.F ht⟩
theorem x_iret (C : Cx z own cc gw) (E : Ct z w gw y (some .int) fr lo P) (d : decode cc pc = .ok (.ireturn, 1)) {v : Int32} (g : ∀ h, A h → P (some (.int v)) h) : X z kc ks A pc L [.int v] := by
  intro H locs ls cells slots hp hS hl c1 c2
  refine W.widen (k := z.mc) (n := z.ms) (by omega) (by omega) ?_
  have hq := E.end_ hp hS g
  obtain ⟨-, -, -, -, e5, -, -, e8, e9, -, -, e12⟩ := E
  rw [e12]
  refine W.iret C.x C.b e8 hq (fun q hq => ?_) d e9
  have := hS.2.2 q hq
  rw [e5] at this
  exact this
theorem x_zret (C : Cx z own cc gw) (E : Ct z w gw y (some .boolean) fr lo P) (d : decode cc pc = .ok (.ireturn, 1)) {v : Int32} (hn : narrow .boolean (.int v) = .int v) (g : ∀ h, A h → P (some (.int v)) h) : X z kc ks A pc L [.int v] := by
  intro H locs ls cells slots hp hS hl c1 c2
  refine W.widen (k := z.mc) (n := z.ms) (by omega) (by omega) ?_
  have hq := E.end_ hp hS g
  obtain ⟨-, -, -, -, e5, -, -, e8, e9, -, -, e12⟩ := E
  rw [e12]
  refine W.zret C.x C.b e8 hn hq (fun q hq => ?_) d e9
  have := hS.2.2 q hq
  rw [e5] at this
  exact this
theorem x_lret (C : Cx z own cc gw) (E : Ct z w gw y (some .long) fr lo P) (d : decode cc pc = .ok (.lreturn, 1)) {v : Int64} (g : ∀ h, A h → P (some (.long v)) h) : X z kc ks A pc L [.long v] := by
  intro H locs ls cells slots hp hS hl c1 c2
  refine W.widen (k := z.mc) (n := z.ms) (by omega) (by omega) ?_
  have hq := E.end_ hp hS g
  obtain ⟨-, -, -, -, e5, -, -, e8, e9, -, -, e12⟩ := E
  rw [e12]
  refine W.lret C.x C.b e8 hq (fun q hq => ?_) d e9
  have := hS.2.2 q hq
  rw [e5] at this
  exact this
theorem x_vret (C : Cx z own cc gw) (E : Ct z w gw y none fr lo P) (d : decode cc pc = .ok (.return_, 1)) (g : ∀ h, A h → P none h) : X z kc ks A pc L [] := by
  intro H locs ls cells slots hp hS hl c1 c2
  refine W.widen (k := z.mc) (n := z.ms) (by omega) (by omega) ?_
  have hq := E.end_ hp hS g
  obtain ⟨-, -, -, -, e5, -, -, e8, e9, -, -, e12⟩ := E
  rw [e12]
  refine W.vret C.x C.b e8 hq (fun q hq => ?_) d e9
  have := hS.2.2 q hq
  rw [e5] at this
  exact this
theorem x_aret (C : Cx z own cc gw) {ft : FieldType} (E : Ct z w gw y (some ft) fr lo P) (hft : (∃ n, ft = .object n) ∨ ∃ t, ft = .array t) (d : decode cc pc = .ok (.areturn, 1)) {v : Value} (hv : v = .null ∨ ∃ a, v = .ref a) (g : ∀ h, A h → P (some v) h) : X z kc ks A pc L [v] := by
  intro H locs ls cells slots hp hS hl c1 c2
  refine W.widen (k := z.mc) (n := z.ms) (by omega) (by omega) ?_
  have hq := E.end_ hp hS g
  obtain ⟨-, -, -, -, e5, -, -, e8, e9, -, -, e12⟩ := E
  rw [e12]
  refine W.aret C.x C.b e8 hft hv hq (fun q hq => ?_) d e9
  have := hS.2.2 q hq
  rw [e5] at this
  exact this
/-- what the words say of a method: its code, that it is made and started, how many parameters -/
def Md (gw : List Cond) (y : MethodName) (cc : ByteArray) (n : Nat) (rt : Option FieldType) (k : Nat) : Prop := Cond.code y cc n rt ∈ gw ∧ Cond.initialized y.cls ∈ gw ∧ (y.cls ≠ "java/lang/invoke/MethodHandle" ∧ y.cls ≠ "java/lang/invoke/VarHandle" ∧ (parseMethodDescriptor y.desc).map (fun d => d.parameters.length) = some k)
def Gd (gw : List Cond) : Prop := ∀ w ∈ gw, goodWord w = true
theorem Gd.in (hg : Gd gw) {c : Cond} (hc : c ∈ gw) : GoodIn gw (c :: gw) := by
  intro w hw
  rcases List.mem_cons.mp hw with e | e
  · subst e
    exact ⟨hc, good_of_word (hg _ hc)⟩
  · exact ⟨e, good_of_word (hg _ e)⟩
theorem pz_of (E : Ct z w gw y rt fr lo P) (C : Cx z own cc gw) (hw : w.ok) {as : List Value} {H : Heap} {locs : List Loc} (hp : hpA z.D z.cl z.base A H) (hS : va_S (fun q : Nat => z.base ≤ q) z.s.heap H locs) : ∀ U : State, U.heap = H → z.s.WarmedH U.vm → Pz w as A as.toArray U := by
  intro U hU hW
  have hK := C.K
  have hb := C.2.2.2.2.2.2.1
  obtain ⟨e1, e2, e3, e4, e5, -, -, -, -, -, e11, -⟩ := E
  rw [e2, e3, e4] at hK
  rw [e2, e3, e5] at hp
  rw [e5] at hS hb
  refine ⟨rfl, by rw [hU]; exact Nat.le_trans hb hS.1, va_K.moved hW.alike hK, ?_, by rw [hU]; exact hp⟩
  rw [hU]
  exact hw.1 z.s U z.s.heap H hW (fun q h1 h2 => hS.2.1 q h1 h2) e11
/-- behind a call -/
theorem x_back (E : Ct z w gw y rt fr lo P) {P' : Option Value → PH → Prop} {mc' ms' : Nat} {H : Heap} {locs : List Loc} {ls : Array Slot} {cells slots : Nat} {a : Array Value} {st0 : List Value}
    (hr : va_Run z.p z.l z.e z.R z.s z.m z.args z.below z.meth z.c H locs cells slots mc' ms' (F0 z.m pc ls st0) st (Qz w P' a) w.A)
    (hS : va_S (fun q : Nat => z.base ≤ q) z.s.heap H locs) (hl : lx z L ls) (c1 : cells + (kc + mc') ≤ z.mc) (c2 : slots + (ks + ms') ≤ z.ms)
    (k : ∀ r : Option Value, X z kc ks (P' r) (pc + 3) L (r.toList ++ st)) : Wz z H locs cells slots (F0 z.m pc ls st0) := by
  obtain ⟨e1, e2, e3, e4, e5, -⟩ := E
  intro S hSt XS
  obtain ⟨v, st₀, t, T', L', h0, X', hL, g1, g2, ⟨⟨r, h', hv, hP, hb⟩, hz, hk⟩, go⟩ := hr S hSt XS
  cases hv
  rw [← e2, ← e3, ← e5] at hb
  obtain ⟨t2, a1, b1⟩ := k v T'.heap (locs ++ L') ls (cells + mc') (slots + ms') ⟨h', hP, by rw [g1]; exact hb⟩ (by
    refine ⟨Nat.le_trans hS.1 (by rw [g1, ← h0]; exact hz), fun q h1 h2 => ?_, fun q hq => ?_⟩
    · have h3 : q < H.size := Nat.lt_of_lt_of_le h1 hS.1
      rw [← h0] at h3
      rw [g1, hk q h3 (by show ¬ w.base ≤ q; rw [← e5]; exact h2), h0]
      exact hS.2.1 q h1 h2
    · rcases List.mem_append.mp hq with h1 | h1
      · exact hS.2.2 q h1
      · have := hL q h1
        rw [e5]
        exact this) hl (by omega) (by omega) T' rfl X'
  exact ⟨t2, go t2 a1, b1⟩
theorem x_callV (C : Cx z own cc gw) (E : Ct z w gw y rt fr lo P) (hw : w.ok) (hg : Gd gw) {y' : MethodName} {cc' : ByteArray} {n' np ci index fr' lo' mc' ms' b : Nat} {rt' : Option FieldType} {As fs stk : List Value} {Tu : u_T} {N : Nat} {P' : Option Value → PH → Prop}
    (M : T w gw y' cc' n' rt' fr' lo' mc' ms' (.ref b :: As) A P') (md : Md gw y' cc' n' rt' np) (wi : Cond.instanceMethod y' ∈ gw) (wse : Cond.selects y'.cls y' y' ∈ gw) (wl : Cond.methodLink own index y' ∈ gw) (d : decode cc pc = .ok (.invokevirtual index, 3)) (hn : As.length = np) (hf : fr' + 1 ≤ fr) (hlo : 8 + (n' + 11) + lo' ≤ lo)
    (gb : ∀ h, A h → h b = some (.inr (ci, fs))) (hcl : z.cl[ci]? = some (y'.cls, Tu, N)) (hs : stk = As.reverse ++ .ref b :: st) (hcat : (st.map fun v => v.category).sum ≤ 8)
    (k : ∀ r : Option Value, X z kc ks (P' r) (pc + 3) L (r.toList ++ st)) : X z (kc + mc') (ks + ms') A pc L stk := by
  intro H locs ls cells slots hp hS hl c1 c2
  subst hs
  have E' := E
  obtain ⟨e1, e2, e3, e4, e5, e6, e7, -⟩ := E'
  obtain ⟨m1, m2, m3, m4, m5⟩ := md
  have hb := callB_of (own := own) (index := index) (R := z.R) (s := z.s) (args := z.args) (bytes := cc') (maxL := n') (ret := rt') (rm := { frames := fr', cells := mc', slots := ms', locals := lo' }) (ws := Cond.code y' cc' n' rt' :: gw) np C.ts (hg.in m1) rfl rfl rfl (C.ts _ m2) (C.ts _ wl) ⟨m3, m4, m5⟩ ⟨by rw [e6]; exact hf, by rw [e7]; exact hlo⟩
  have hr1 := C.rc
  have hr2 := C.rs
  have hp' := hp
  obtain ⟨h, hA, LP, f0, q1, q2, q3⟩ := hp'
  obtain ⟨q0, hq0⟩ := hp_get (D := z.D) (cl := z.cl) (base := z.base) (H := H) q1 (gb h hA)
  have hM : Met z.l y' (Cond.code y' cc' n' rt' :: gw) ({ frames := fr', cells := mc', slots := ms', locals := lo' }) (Pz w (.ref b :: As) A) (Qz w P') mc' ms' w.A := by rw [e1]; exact M
  have hrun := va_runV (b := b) (As := As) (rest := st) (g := F0 z.m pc ls (As.reverse ++ .ref b :: st)) (p := z.p) (e := z.e) (below := z.below) (meth := z.meth) (H := H) (locs := locs) (cells := cells) (slots := slots) (C := y'.cls) ⟨C.x, C.b, C.ml, C.ow, C.ts⟩ hM ⟨hb, C.ts _ wi, C.ts _ wse⟩ ⟨Pz.blind hw, va_recv C.K q2 hcl hq0, pz_of E C hw hp hS⟩ rfl hn hl.1 rfl (lv_room hcat) d ⟨by omega, by omega⟩
  exact x_back E hrun hS hl c1 c2 k
theorem x_callVN (C : Cx z own cc gw) (E : Ct z w gw y rt fr lo P) (hw : w.ok) (hg : Gd gw) {host : String} {y' : MethodName} {cc' : ByteArray} {n' np ci index fr' lo' mc' ms' b : Nat} {rt' : Option FieldType} {As fs stk : List Value} {Tu : u_T} {N : Nat} {P' : Option Value → PH → Prop}
    (M : T w gw y' cc' n' rt' fr' lo' mc' ms' (.ref b :: As) A P') (md : Md gw y' cc' n' rt' np) (wi : Cond.instanceMethod y' ∈ gw) (wse : Cond.selects y'.cls y' y' ∈ gw) (wl : va_Nw (.methodLinkNest own index y' host) z.s) (d : decode cc pc = .ok (.invokevirtual index, 3)) (hn : As.length = np) (hf : fr' + 1 ≤ fr) (hlo : 8 + (n' + 11) + lo' ≤ lo)
    (gb : ∀ h, A h → h b = some (.inr (ci, fs))) (hcl : z.cl[ci]? = some (y'.cls, Tu, N)) (hs : stk = As.reverse ++ .ref b :: st) (hcat : (st.map fun v => v.category).sum ≤ 8)
    (k : ∀ r : Option Value, X z kc ks (P' r) (pc + 3) L (r.toList ++ st)) : X z (kc + mc') (ks + ms') A pc L stk := by
  intro H locs ls cells slots hp hS hl c1 c2
  subst hs
  have E' := E
  obtain ⟨e1, e2, e3, e4, e5, e6, e7, -⟩ := E'
  obtain ⟨m1, m2, m3, m4, m5⟩ := md
  have hb := va_cnB (own := own) (index := index) (host := host) (R := z.R) (s := z.s) (args := z.args) (bytes := cc') (maxL := n') (ret := rt') (rm := { frames := fr', cells := mc', slots := ms', locals := lo' }) (ws := Cond.code y' cc' n' rt' :: gw) np C.ts (hg.in m1) rfl rfl rfl wl (C.ts _ m2) ⟨m3, m4, m5⟩ ⟨by rw [e6]; exact hf, by rw [e7]; exact hlo⟩
  have hr1 := C.rc
  have hr2 := C.rs
  have hp' := hp
  obtain ⟨h, hA, LP, f0, q1, q2, q3⟩ := hp'
  obtain ⟨q0, hq0⟩ := hp_get (D := z.D) (cl := z.cl) (base := z.base) (H := H) q1 (gb h hA)
  have hM : Met z.l y' (Cond.code y' cc' n' rt' :: gw) ({ frames := fr', cells := mc', slots := ms', locals := lo' }) (Pz w (.ref b :: As) A) (Qz w P') mc' ms' w.A := by rw [e1]; exact M
  have hrun := va_runVN (b := b) (As := As) (rest := st) (g := F0 z.m pc ls (As.reverse ++ .ref b :: st)) (p := z.p) (e := z.e) (below := z.below) (meth := z.meth) (H := H) (locs := locs) (cells := cells) (slots := slots) (C := y'.cls) ⟨C.x, C.b, C.ml, C.ow, C.ts⟩ hM ⟨hb, C.ts _ wi, C.ts _ wse⟩ ⟨Pz.blind hw, va_recv C.K q2 hcl hq0, pz_of E C hw hp hS⟩ rfl hn hl.1 rfl (lv_room hcat) d ⟨by omega, by omega⟩
  exact x_back E hrun hS hl c1 c2 k
theorem x_callS (C : Cx z own cc gw) (E : Ct z w gw y rt fr lo P) (hw : w.ok) (hg : Gd gw) {y' : MethodName} {cc' : ByteArray} {n' np index fr' lo' mc' ms' : Nat} {rt' : Option FieldType} {As stk : List Value} {P' : Option Value → PH → Prop}
    (M : T w gw y' cc' n' rt' fr' lo' mc' ms' As A P') (md : Md gw y' cc' n' rt' np) (wst : Cond.static y' ∈ gw) (wl : Cond.methodLink own index y' ∈ gw) (d : decode cc pc = .ok (.invokestatic index, 3)) (hn : As.length = np) (hf : fr' + 1 ≤ fr) (hlo : 8 + (n' + 11) + lo' ≤ lo)
    (hs : stk = As.reverse ++ st) (hcat : (st.map fun v => v.category).sum ≤ 8)
    (k : ∀ r : Option Value, X z kc ks (P' r) (pc + 3) L (r.toList ++ st)) : X z (kc + mc') (ks + ms') A pc L stk := by
  intro H locs ls cells slots hp hS hl c1 c2
  subst hs
  have E' := E
  obtain ⟨e1, e2, e3, e4, e5, e6, e7, -⟩ := E'
  obtain ⟨m1, m2, m3, m4, m5⟩ := md
  have hb := callB_of (own := own) (index := index) (R := z.R) (s := z.s) (args := z.args) (bytes := cc') (maxL := n') (ret := rt') (rm := { frames := fr', cells := mc', slots := ms', locals := lo' }) (ws := Cond.code y' cc' n' rt' :: gw) np C.ts (hg.in m1) rfl rfl rfl (C.ts _ m2) (C.ts _ wl) ⟨m3, m4, m5⟩ ⟨by rw [e6]; exact hf, by rw [e7]; exact hlo⟩
  have hr1 := C.rc
  have hr2 := C.rs
  have hM : Met z.l y' (Cond.code y' cc' n' rt' :: gw) ({ frames := fr', cells := mc', slots := ms', locals := lo' }) (Pz w As A) (Qz w P') mc' ms' w.A := by rw [e1]; exact M
  have hrun := va_runS (As := As) (rest := st) (g := F0 z.m pc ls (As.reverse ++ st)) (p := z.p) (e := z.e) (below := z.below) (meth := z.meth) (H := H) (locs := locs) (cells := cells) (slots := slots) ⟨C.x, C.b, C.ml, C.ow, C.ts⟩ hM ⟨hb, C.ts _ wst⟩ ⟨Pz.blind hw, pz_of E C hw hp hS⟩ rfl hn hl.1 rfl (lv_room hcat) d ⟨by omega, by omega⟩
  exact x_back E hrun hS hl c1 c2 k
theorem x_callSN (C : Cx z own cc gw) (E : Ct z w gw y rt fr lo P) (hw : w.ok) (hg : Gd gw) {host : String} {y' : MethodName} {cc' : ByteArray} {n' np index fr' lo' mc' ms' : Nat} {rt' : Option FieldType} {As stk : List Value} {P' : Option Value → PH → Prop}
    (M : T w gw y' cc' n' rt' fr' lo' mc' ms' As A P') (md : Md gw y' cc' n' rt' np) (wst : Cond.static y' ∈ gw) (wl : va_Nw (.methodLinkNest own index y' host) z.s) (d : decode cc pc = .ok (.invokestatic index, 3)) (hn : As.length = np) (hf : fr' + 1 ≤ fr) (hlo : 8 + (n' + 11) + lo' ≤ lo)
    (hs : stk = As.reverse ++ st) (hcat : (st.map fun v => v.category).sum ≤ 8)
    (k : ∀ r : Option Value, X z kc ks (P' r) (pc + 3) L (r.toList ++ st)) : X z (kc + mc') (ks + ms') A pc L stk := by
  intro H locs ls cells slots hp hS hl c1 c2
  subst hs
  have E' := E
  obtain ⟨e1, e2, e3, e4, e5, e6, e7, -⟩ := E'
  obtain ⟨m1, m2, m3, m4, m5⟩ := md
  have hb := va_cnB (own := own) (index := index) (host := host) (R := z.R) (s := z.s) (args := z.args) (bytes := cc') (maxL := n') (ret := rt') (rm := { frames := fr', cells := mc', slots := ms', locals := lo' }) (ws := Cond.code y' cc' n' rt' :: gw) np C.ts (hg.in m1) rfl rfl rfl wl (C.ts _ m2) ⟨m3, m4, m5⟩ ⟨by rw [e6]; exact hf, by rw [e7]; exact hlo⟩
  have hr1 := C.rc
  have hr2 := C.rs
  have hM : Met z.l y' (Cond.code y' cc' n' rt' :: gw) ({ frames := fr', cells := mc', slots := ms', locals := lo' }) (Pz w As A) (Qz w P') mc' ms' w.A := by rw [e1]; exact M
  have hrun := va_runSN (As := As) (rest := st) (g := F0 z.m pc ls (As.reverse ++ st)) (p := z.p) (e := z.e) (below := z.below) (meth := z.meth) (H := H) (locs := locs) (cells := cells) (slots := slots) ⟨C.x, C.b, C.ml, C.ow, C.ts⟩ hM ⟨hb, C.ts _ wst, True.intro⟩ ⟨Pz.blind hw, pz_of E C hw hp hS⟩ rfl hn hl.1 rfl (lv_room hcat) d ⟨by omega, by omega⟩
  exact x_back E hrun hS hl c1 c2 k
theorem x_callI (C : Cx z own cc gw) (E : Ct z w gw y rt fr lo P) (hw : w.ok) (hg : Gd gw) {y' : MethodName} {cc' : ByteArray} {n' np index fr' lo' mc' ms' b : Nat} {As stk : List Value} {P' : Option Value → PH → Prop}
    (M : T w gw y' cc' n' none fr' lo' mc' ms' (.ref b :: As) A P') (md : Md gw y' cc' n' none np) (hy : y'.name = "<init>") (wi : Cond.instanceMethod y' ∈ gw) (wl : Cond.methodLink own index y' ∈ gw) (d : decode cc pc = .ok (.invokespecial index, 3)) (hn : As.length = np) (hf : fr' + 1 ≤ fr) (hlo : 8 + (n' + 11) + lo' ≤ lo)
    (hs : stk = As.reverse ++ .ref b :: st) (hcat : (st.map fun v => v.category).sum ≤ 8)
    (k : ∀ r : Option Value, X z kc ks (P' r) (pc + 3) L (r.toList ++ st)) : X z (kc + mc') (ks + ms') A pc L stk := by
  intro H locs ls cells slots hp hS hl c1 c2
  subst hs
  have E' := E
  obtain ⟨e1, e2, e3, e4, e5, e6, e7, -⟩ := E'
  obtain ⟨m1, m2, m3, m4, m5⟩ := md
  have hb := callB_of (own := own) (index := index) (R := z.R) (s := z.s) (args := z.args) (bytes := cc') (maxL := n') (ret := none) (rm := { frames := fr', cells := mc', slots := ms', locals := lo' }) (ws := Cond.code y' cc' n' none :: gw) np C.ts (hg.in m1) rfl rfl rfl (C.ts _ m2) (C.ts _ wl) ⟨m3, m4, m5⟩ ⟨by rw [e6]; exact hf, by rw [e7]; exact hlo⟩
  have hr1 := C.rc
  have hr2 := C.rs
  have hM : Met z.l y' (Cond.code y' cc' n' none :: gw) ({ frames := fr', cells := mc', slots := ms', locals := lo' }) (Pz w (.ref b :: As) A) (Qz w P') mc' ms' w.A := by rw [e1]; exact M
  have hrun := va_runI (b := b) (As := As) (rest := st) (g := F0 z.m pc ls (As.reverse ++ .ref b :: st)) (p := z.p) (e := z.e) (below := z.below) (meth := z.meth) (H := H) (locs := locs) (cells := cells) (slots := slots) ⟨C.x, C.b, C.ml, C.ow, C.ts⟩ hM ⟨hb, hy, C.ts _ wi⟩ ⟨Pz.blind hw, pz_of E C hw hp hS⟩ rfl hn hl.1 rfl (lv_room hcat) d ⟨by omega, by omega⟩
  exact x_back E hrun hS hl c1 c2 k
theorem x_callIN (C : Cx z own cc gw) (E : Ct z w gw y rt fr lo P) (hw : w.ok) (hg : Gd gw) {host : String} {y' : MethodName} {cc' : ByteArray} {n' np index fr' lo' mc' ms' b : Nat} {As stk : List Value} {P' : Option Value → PH → Prop}
    (M : T w gw y' cc' n' none fr' lo' mc' ms' (.ref b :: As) A P') (md : Md gw y' cc' n' none np) (hy : y'.name = "<init>") (wi : Cond.instanceMethod y' ∈ gw) (wl : va_Nw (.methodLinkNest own index y' host) z.s) (d : decode cc pc = .ok (.invokespecial index, 3)) (hn : As.length = np) (hf : fr' + 1 ≤ fr) (hlo : 8 + (n' + 11) + lo' ≤ lo)
    (hs : stk = As.reverse ++ .ref b :: st) (hcat : (st.map fun v => v.category).sum ≤ 8)
    (k : ∀ r : Option Value, X z kc ks (P' r) (pc + 3) L (r.toList ++ st)) : X z (kc + mc') (ks + ms') A pc L stk := by
  intro H locs ls cells slots hp hS hl c1 c2
  subst hs
  have E' := E
  obtain ⟨e1, e2, e3, e4, e5, e6, e7, -⟩ := E'
  obtain ⟨m1, m2, m3, m4, m5⟩ := md
  have hb := va_cnB (own := own) (index := index) (host := host) (R := z.R) (s := z.s) (args := z.args) (bytes := cc') (maxL := n') (ret := none) (rm := { frames := fr', cells := mc', slots := ms', locals := lo' }) (ws := Cond.code y' cc' n' none :: gw) np C.ts (hg.in m1) rfl rfl rfl wl (C.ts _ m2) ⟨m3, m4, m5⟩ ⟨by rw [e6]; exact hf, by rw [e7]; exact hlo⟩
  have hr1 := C.rc
  have hr2 := C.rs
  have hM : Met z.l y' (Cond.code y' cc' n' none :: gw) ({ frames := fr', cells := mc', slots := ms', locals := lo' }) (Pz w (.ref b :: As) A) (Qz w P') mc' ms' w.A := by rw [e1]; exact M
  have hrun := va_runIN (b := b) (As := As) (rest := st) (g := F0 z.m pc ls (As.reverse ++ .ref b :: st)) (p := z.p) (e := z.e) (below := z.below) (meth := z.meth) (H := H) (locs := locs) (cells := cells) (slots := slots) ⟨C.x, C.b, C.ml, C.ow, C.ts⟩ hM ⟨hb, hy, C.ts _ wi⟩ ⟨Pz.blind hw, pz_of E C hw hp hS⟩ rfl hn hl.1 rfl (lv_room hcat) d ⟨by omega, by omega⟩
  exact x_back E hrun hS hl c1 c2 k
end Rows
end
section
/-! The printed rows of claim/NAMES.whole on new arrays of arrays, on throwing and catching (there with 'B..'-names opened); ahead of them the word on arrays over arrays, which that print uses and does not hold. -/
def va_AOA (t : FieldType) (U : State) : Prop := (Cond.arrayOver (.array t)).before #[] U = true
theorem va_AOA.use {t : FieldType} {A : Array Value} {U : State} (h : va_AOA t U) : (Cond.arrayOver (.array t)).before A U = true := h
theorem va_AOA.moved {t : FieldType} {u U : State} (hvm : u.vm.Alike U.vm) (h : va_AOA t u) : va_AOA t U := by
  have h' : (Cond.arrayOver (.array t)).holds #[] u none u [] = true := h
  simp only [Cond.holds, Cond.value, beq_iff_eq] at h'
  cases hc : u.vm.findClass (FieldType.array t).toString with
  | none => simp [hc] at h'
  | some comp =>
    simp only [hc, Option.bind_some, Option.bind_eq_some_iff, Option.map_eq_some_iff] at h'
    obtain ⟨c, hi, k, hk, hb⟩ := h'
    obtain ⟨k', hk', he⟩ := hvm.2.2 _ _ hk
    have e1 := va_idx_bare U.vm comp
    have e2 := va_idx_bare u.vm comp
    first | rw [hvm.bare_eq] at e1 | rw [← hvm.bare_eq] at e1
    have ek : k'.kind = k.kind := by rw [he]
    show (Cond.arrayOver (.array t)).holds #[] U none U [] = true
    simp only [Cond.holds, Cond.value, beq_iff_eq]
    rw [hvm.findClass, hc, Option.bind_some, Option.bind_eq_some_iff]
    refine ⟨c, (e1.symm.trans e2).trans hi, ?_⟩
    rw [Option.map_eq_some_iff]
    refine ⟨k', hk', ?_⟩
    rw [ek, hvm.findClass]
    exact hb
/-! ===== BEGIN words of one list among another's, by their places ===== -/
theorem goodIn_r {big : List Cond} (ws : List Cond) (ps : List Nat) (hp : ws = ps.filterMap (fun i => big[i]?)) (h : ws.all goodWord = true) : GoodIn big ws := by
  intro w hw
  have h1 := List.all_eq_true.mp h w hw
  rw [hp] at hw
  obtain ⟨i, -, hi⟩ := List.mem_filterMap.mp hw
  have hm : w ∈ big := by first | exact List.mem_of_getElem? hi | exact List.getElem?_mem hi
  exact ⟨hm, good_of_word h1⟩
theorem goodIn_app {big a b : List Cond} (ha : GoodIn big a) (hb : GoodIn big b) : GoodIn big (a ++ b) := fun w h => (List.mem_append.mp h).elim (ha w) (hb w)
theorem goodIn_ca {big a b : List Cond} {c : Cond} (ha : GoodIn big (c :: a)) (hb : GoodIn big b) : GoodIn big (c :: (a ++ b)) := fun w h => (List.mem_cons.mp h).elim (fun e => ha w (List.mem_cons.mpr (Or.inl e))) (fun h => (List.mem_append.mp h).elim (fun h => ha w (List.mem_cons.mpr (Or.inr h))) (hb w))
theorem goodIn_sub {big ws : List Cond} (hm : ∀ w ∈ ws, w ∈ big) (h : ws.all goodWord = true) : GoodIn big ws := fun w hw => ⟨hm w hw, good_of_word (List.all_eq_true.mp h w hw)⟩
/-! ===== END ===== -/

/-! ===== BEGIN new T[n][m]: the outer array a place, the inner ones among the pooled ===== -/
/-- f, but v at every address of l -/
def vr_up {α : Type} (f : Nat → α) (l : List Nat) (v : α) : Nat → α := fun a => if a ∈ l then v else f a
theorem vr_up_in {α : Type} {f : Nat → α} {l : List Nat} {v : α} {a : Nat} (h : a ∈ l) : vr_up f l v a = v := if_pos h
theorem vr_up_ne {α : Type} {f : Nat → α} {l : List Nat} {v : α} {a : Nat} (h : a ∉ l) : vr_up f l v a = f a := if_neg h
theorem vr_rows {L l : List Nat} {f : Nat → va_E} {e : va_E} (h : ∀ a, a ∈ l → a ∉ L) : va_pl L f ++ l.map (fun a => (a, e)) = va_pl (L ++ l) (vr_up f l e) := by
  unfold va_pl
  rw [List.map_append]
  congr 1
  · apply List.map_congr_left
    intro a ha
    rw [vr_up_ne (fun q => h a q ha)]
  · apply List.map_congr_left
    intro a ha
    rw [vr_up_in ha]
theorem vr_lay {X rows : va_W} {x : Nat × va_E} {pl : va_W} {D : va_G} {cl : List vw_C} {H : Heap} (hP : va_P D cl (((X ++ pl) ++ [x]) ++ rows) H) : va_P D cl ((X ++ [x]) ++ (pl ++ rows)) H := by
  rw [List.append_assoc (X ++ pl)] at hP
  have h := va_P.swap hP
  rw [← List.append_assoc X] at h
  have h2 := va_P.swap h
  rw [List.append_assoc (X ++ [x])] at h2
  exact h2
theorem vr_layD {X rows : va_W} {x : Nat × va_E} {pl : va_W} {A : Nat → Prop} (hD : va_D A (((X ++ pl) ++ [x]) ++ rows)) : va_D A ((X ++ [x]) ++ (pl ++ rows)) := by
  rw [List.append_assoc (X ++ pl)] at hD
  have h := va_D.swap hD
  rw [← List.append_assoc X] at h
  have h2 := va_D.swap h
  rw [List.append_assoc (X ++ [x])] at h2
  exact h2
theorem vr_outer (c : ClassId) (N h0 : Nat) : ∀ i : Nat, Jvm.Free.Multi.outerC c N h0 i = arrV c N (fun j => va_rf (if j < i then some (h0 + 1 + j) else none))
  | 0 => by
    show ({ cls := c, slots := Array.replicate N .null, vm := .none } : Cell) = _
    rw [arrV_new]
    refine congrArg (arrV c N) (funext fun j => ?_)
    simp [va_rf]
  | i + 1 => by
    show (Jvm.Free.Multi.outerC c N h0 i).setSlot i (.ref (h0 + 1 + i)) = _
    rw [vr_outer c N h0 i, arrV_store]
    refine congrArg (arrV c N) (funext fun j => ?_)
    by_cases e : j = i
    · subst e
      simp [updV, va_rf]
    · by_cases h : j < i
      · simp [updV, e, h, Nat.lt_succ_of_lt h]
      · simp [updV, e, h, show ¬ j < i + 1 by omega]
section VGM
variable {p : Program} {l : Launch} {e : Env} {R : Room} {s : State} {m : MethodId} {args : Array Value} {below : List Frame} {meth : Method} {c : Code} {H : Heap} {locs : List Loc} {cells slots : Nat} {Q : State → Prop}
variable {cc : ByteArray} {pc : Nat} {ls : Array Slot} {rest : List Value} {D : va_G} {cl : List vw_C} {A : Nat → Prop} {a : Nat} {tys : List (ClassId × FieldType)} {ws : va_W} {H0 : Heap}
theorem va_mna {X : va_W} {L : List Nat} {f : Nat → va_E} {cc : ByteArray} (hexec : p.tables.exec = Jvm.exec) (hb : c.code = cc) {own : String} {index : Nat} {ty : FieldType} {cy : ClassId} (hown : s.vm.findClass own = some m.cls) (hclink : (Cond.classLink own index ("[" ++ (FieldType.array ty).toString)).before args s = true) (hover : va_AOA ty s) (harr : (Cond.arrayClass ty).before args s = true) (hcy : s.vm.findClass (FieldType.array ty).toString = some cy)
    (hK : va_K D cl tys s) (hP : va_P D cl (X ++ va_pl L f) H) (hD : va_D A (X ++ va_pl L f)) (hS : va_S A H0 H locs) (hA : ∀ q, H0.size ≤ q → A q) {n k : Int32} {N' K' : Nat} {z : vp_A} (hn : ¬ n < 0) (hk : ¬ k < 0) (hN : n.toNatClampNeg = N') (hM : k.toNatClampNeg = K')
    (hb1 : N' * 4 ≤ 536870912) (hb2 : K' * componentBytes ty ≤ 536870912) (hb3 : K' ≤ 536870912) (hdf : fits ty (defaultValue ty) = true) (hdd : (defaultValue ty).isDefault = true) (hcells : cells + (1 + N') ≤ R.cells) (hslots : slots + (N' + N' * K') ≤ R.slots) (hz : ∀ c : ClassId, Jvm.Free.Multi.innerC c K' (defaultValue ty) = vp_cell c z) (hdg : decode cc pc = .ok (.multianewarray index 2, 4))
    (kk : ∀ (q : Nat) (r : Nat → Nat) (cA : ClassId) (H1 : Heap), (∀ i j : Nat, i < N' → j < N' → r i = r j → i = j) → (∀ i : Nat, i < N' → r i ∉ L) → va_K D cl (tys ++ [(cA, .array ty)]) s →
      va_P D cl ((X ++ [(q, .inl (cA, N', .inr (.inr (.inr (.inr (fun i => if i < N' then some (r i) else none))))))]) ++ va_pl (L ++ (List.range N').map r) (vr_up f ((List.range N').map r) (.inl (cy, z)))) H1 → va_D A ((X ++ [(q, .inl (cA, N', .inr (.inr (.inr (.inr (fun i => if i < N' then some (r i) else none))))))]) ++ va_pl (L ++ (List.range N').map r) (vr_up f ((List.range N').map r) (.inl (cy, z)))) → va_S A H0 H1 locs →
      W p l e R s m args below meth c H1 locs (cells + 1 + N') (slots + N' + N' * K') Q (F0 m (pc + 4) ls (.ref q :: rest))) : W p l e R s m args below meth c H locs cells slots Q (F0 m pc ls (.int k :: .int n :: rest)) := by
  subst hN
  subst hM
  intro T hT Xs
  obtain ⟨vm₁, cA, comp, -, fA, fC, hO, -, X', step⟩ := Xs.multianewarray2F hexec hown hclink (va_AOA.use hover) harr (g := F0 m pc ls (.int k :: .int n :: rest)) rfl (by rw [hb]; exact hdg) rfl hn hk hb1 hb2 hb3 hdf hdd hcells hslots
  have ec : some cy = some comp := hcy.symm.trans fC
  cases ec
  generalize hF : Jvm.Free.Multi.fill (T.setVm vm₁) cA cy n.toNatClampNeg k.toNatClampNeg (defaultValue ty) n.toNatClampNeg = F at X' step
  have hTh : (T.setVm vm₁).heap = H := hT
  obtain ⟨f1, f2, -, -⟩ := Jvm.Free.Multi.fill_facts (T.setVm vm₁) cA cy n.toNatClampNeg k.toNatClampNeg (defaultValue ty) n.toNatClampNeg
  rw [hF, hTh] at f1 f2
  have hold : ∀ x : Nat, x < H.size → F.heap[x]? = H[x]? := fun x hx => by
    have := Jvm.Free.Multi.fill_old (T.setVm vm₁) cA cy n.toNatClampNeg k.toNatClampNeg (defaultValue ty) (a := x) (by rw [hTh]; exact hx) n.toNatClampNeg
    rw [hF, hTh] at this
    exact this
  have hrow : ∀ j : Nat, j < n.toNatClampNeg → F.heap[H.size + 1 + j]? = some (vp_cell cy z) := fun j hj => by
    have := Jvm.Free.Multi.fill_inner (T.setVm vm₁) cA cy n.toNatClampNeg k.toNatClampNeg (defaultValue ty) n.toNatClampNeg j hj
    rw [hF, hTh, hz] at this
    exact this
  have hout : Jvm.Free.Multi.outerC cA n.toNatClampNeg H.size n.toNatClampNeg = vp_cell cA (n.toNatClampNeg, .inr (.inr (.inr (.inr (fun i => if i < n.toNatClampNeg then some (H.size + 1 + i) else none))))) := by
    rw [vp_cell_q]
    exact vr_outer cA n.toNatClampNeg H.size n.toNatClampNeg
  rw [hout] at f2
  have hlt : ∀ a, a ∈ L → a < H.size := fun a ha => by
    obtain ⟨k9, hk9⟩ := va_pl_get (X := X) (f := f) ha
    exact (hP k9 _ hk9).lt
  have hnl : ∀ i : Nat, i < n.toNatClampNeg → H.size + 1 + i ∉ L := fun i _ h => by
    have := hlt _ h
    omega
  have hnm : ∀ a, a ∈ (List.range n.toNatClampNeg).map (fun i => H.size + 1 + i) → a ∉ L := fun a ha h => by
    obtain ⟨i, -, rfl⟩ := List.mem_map.mp ha
    have := hlt _ h
    omega
  have hP0 : va_P D cl (X ++ va_pl L f) F.heap := hP.kept (fun k9 x hx => hold x.1 ((hP k9 x hx).lt))
  have hP1 : va_P D cl ((X ++ va_pl L f) ++ [(H.size, .inl (cA, n.toNatClampNeg, .inr (.inr (.inr (.inr (fun i => if i < n.toNatClampNeg then some (H.size + 1 + i) else none))))))]) F.heap := hP0.app (fun k9 x hx => by
    have h0 : k9 < 1 := (List.getElem?_eq_some_iff.mp hx).1
    rw [show k9 = 0 by omega] at hx
    cases hx
    exact f2)
  have hP2 : va_P D cl (((X ++ va_pl L f) ++ [(H.size, .inl (cA, n.toNatClampNeg, .inr (.inr (.inr (.inr (fun i => if i < n.toNatClampNeg then some (H.size + 1 + i) else none))))))]) ++ ((List.range n.toNatClampNeg).map (fun i => H.size + 1 + i)).map (fun a => (a, .inl (cy, z)))) F.heap := hP1.app (fun k9 x hx => by
    obtain ⟨a, ha, rfl⟩ := List.mem_map.mp (List.mem_of_getElem? hx)
    obtain ⟨i, hi, rfl⟩ := List.mem_map.mp ha
    exact hrow i (List.mem_range.mp hi))
  have hD2 : va_D A (((X ++ va_pl L f) ++ [(H.size, .inl (cA, n.toNatClampNeg, .inr (.inr (.inr (.inr (fun i => if i < n.toNatClampNeg then some (H.size + 1 + i) else none))))))]) ++ ((List.range n.toNatClampNeg).map (fun i => H.size + 1 + i)).map (fun a => (a, .inl (cy, z)))) := by
    have hD1 := hD.push (e := .inl (cA, n.toNatClampNeg, .inr (.inr (.inr (.inr (fun i => if i < n.toNatClampNeg then some (H.size + 1 + i) else none)))))) hP rfl (hA _ hS.1)
    generalize hW1 : (X ++ va_pl L f) ++ [(H.size, .inl (cA, n.toNatClampNeg, .inr (.inr (.inr (.inr (fun i => if i < n.toNatClampNeg then some (H.size + 1 + i) else none))))))] = W1 at hD1 hP1 ⊢
    have hle : ∀ (k9 : Nat) (x : Nat × va_E), W1[k9]? = some x → x.1 ≤ H.size := fun k9 x hx => by
      rw [← hW1] at hx
      by_cases hl : k9 < (X ++ va_pl L f).length
      · rw [List.getElem?_append_left hl] at hx
        exact Nat.le_of_lt ((hP k9 x hx).lt)
      · rw [List.getElem?_append_right (by omega)] at hx
        have h0 : k9 - (X ++ va_pl L f).length < 1 := (List.getElem?_eq_some_iff.mp hx).1
        rw [show k9 - (X ++ va_pl L f).length = 0 by omega] at hx
        cases hx
        exact Nat.le_refl _
    have hr : ∀ (k9 : Nat) (x : Nat × va_E), (((List.range n.toNatClampNeg).map (fun i => H.size + 1 + i)).map (fun a => ((a, .inl (cy, z)) : Nat × va_E)))[k9]? = some x → x.1 = H.size + 1 + k9 := fun k9 x hx => by
      rw [List.getElem?_map, List.getElem?_map] at hx
      by_cases h9 : k9 < n.toNatClampNeg
      · rw [List.getElem?_range h9] at hx
        cases hx
        rfl
      · have hn0 : (List.range n.toNatClampNeg)[k9]? = none := List.getElem?_eq_none (by rw [List.length_range]; omega)
        rw [hn0] at hx
        cases hx
    refine ⟨fun i j x y hi hj hxy => ?_, fun k9 x hx => ?_⟩
    · by_cases h1 : i < W1.length <;> by_cases h2 : j < W1.length
      · rw [List.getElem?_append_left h1] at hi
        rw [List.getElem?_append_left h2] at hj
        exact hD1.1 i j x y hi hj hxy
      · rw [List.getElem?_append_left h1] at hi
        rw [List.getElem?_append_right (by omega)] at hj
        have := hle _ _ hi
        have := hr _ _ hj
        omega
      · rw [List.getElem?_append_right (by omega)] at hi
        rw [List.getElem?_append_left h2] at hj
        have := hle _ _ hj
        have := hr _ _ hi
        omega
      · rw [List.getElem?_append_right (by omega)] at hi hj
        have := hr _ _ hi
        have := hr _ _ hj
        omega
    · by_cases h1 : k9 < W1.length
      · rw [List.getElem?_append_left h1] at hx
        exact hD1.2 k9 x hx
      · rw [List.getElem?_append_right (by omega)] at hx
        have := hr _ _ hx
        exact hA _ (by have := hS.1; omega)
  have hAr : ArrOfT s cA (.array ty) := fun N9 z9 => by
    obtain ⟨-, k9, hk9, cm9, hkk9⟩ := (hO 0 0 0).1
    exact ⟨(fun q hq => by cases hq), k9, hk9, cm9, hkk9⟩
  have hK2 : va_K D cl (tys ++ [(cA, .array ty)]) s := ⟨hK.1, fun k9 x hx => by
    by_cases hl : k9 < tys.length
    · rw [List.getElem?_append_left hl] at hx
      exact hK.2 k9 x hx
    · rw [List.getElem?_append_right (by omega)] at hx
      have h0 : k9 - tys.length < 1 := (List.getElem?_eq_some_iff.mp hx).1
      rw [show k9 - tys.length = 0 by omega] at hx
      cases hx
      exact ⟨hAr, fA⟩⟩
  obtain ⟨t, a1, b1⟩ := kk H.size (fun i => H.size + 1 + i) cA F.heap (fun i j _ _ h => by have h9 : H.size + 1 + i = H.size + 1 + j := h; omega) hnl hK2 (by rw [← vr_rows hnm]; exact vr_lay hP2) (by rw [← vr_rows hnm]; exact vr_layD hD2) ⟨by rw [f1]; have := hS.1; omega, fun x h1 h2 => (hold x (Nat.lt_of_lt_of_le h1 hS.1)).trans (hS.2.1 x h1 h2), hS.2.2⟩ F rfl X'
  refine ⟨t, step t ?_, b1⟩
  have e : T.heap.size = H.size := by rw [hT]
  rw [e]
  exact a1
end VGM
/-! ===== END ===== -/

/-! ===== BEGIN exceptions that leave a method, and their catching by the caller (launches without stack traces) ===== -/
section VXA
/-! The laws vx_back, vx_callV, vx_callS, vx_callSW, vx_throw0, vx_throwS follow proofs of the library, with one case more: JvmDerived/Free/Laws.lean (Back.of_free), Shelf42/LK1.lean (callV, callS), Shelf/KitTraced.lean (throwNew0V, throwNewS). -/
/-- where a method has thrown q: the class by its name, the cell, what was written, the world -/
def vx_T (XC : String → State → State → Prop) (st : State) (q : Addr) (t : State) (mc ms : Nat) (free : Addr → Prop) : Prop :=
  ∃ (E : String) (ce : Cell) (L : List Loc), XC E st t ∧ t.heap[q]? = some ce ∧ ce.vm = .none ∧ st.vm.findClass E = some ce.cls ∧ st.WarmedH t.vm ∧ st.sameButNew ({ t with vm := st.vm } : State) L mc ms ∧ ∀ z ∈ L, free z.base
def vx_Q (Qc : Array Value → State → Outcome → State → Prop) (XC : String → State → State → Prop) (mc ms : Nat) (free : Addr → Prop) : Array Value → State → Outcome → State → Prop := fun a st o t =>
  (Qc a st o t ∧ ∃ L, FrameEnd st o t L mc ms ∧ ∀ q ∈ L, free q.base) ∨ ∃ q, o = .threw q ∧ vx_T XC st q t mc ms free
/-- a callee that returns or throws -/
def vx_Met (l : Launch) (y : MethodName) (ws : List Cond) (rm : Room) (Pc : Array Value → State → Prop) (Qc : Array Value → State → Outcome → State → Prop) (XC : String → State → State → Prop) (mc ms : Nat) (free : Addr → Prop) : Prop :=
  MetFree l y (headSpec ws rm) Pc (fun _ _ _ _ _ => True) (vx_Q Qc XC mc ms free)
def vx_Post (XC : String → State → State → Prop) (mc ms : Nat) (free : Addr → Prop) : Pt → Array Value → Addr → Pt → Prop := fun A a q B =>
  ∃ (g : JFrame) (mk : MethodId) (t : State) (L : List Loc) (E : String) (ce : Cell), B.U.heap = t.heap ∧ B.U.vm = t.vm ∧ XC E (A.U.calling g mk a) t ∧ t.heap[q]? = some ce ∧ ce.vm = .none ∧ A.U.vm.findClass E = some ce.cls ∧ B.locs = A.locs ++ L ∧ (∀ z ∈ L, free z.base) ∧ B.cells = A.cells + mc ∧ B.slots = A.slots + ms
def vx_Back (l : Launch) (R : Room) (p : Program) (e : Env) (below : List Frame) (s : State) (sargs : Array Value) (y : MethodName) (len W9 : Nat)
    (Pre : Pt → Array Value → Prop) (Post : Pt → Array Value → Option Value → Pt → Prop) (PostX : Pt → Array Value → Addr → Pt → Prop) : Prop :=
  ∀ (m : MethodId) (meth : Method) (c : Code) (A : Pt) (g : JFrame) (ig : Instr) (mk : MethodId) (a : Array Value),
    Stand p l e R s m sargs below meth c A.U A.locs A.cells A.slots → g.method = m → g.locals.size = c.maxLocals → decode c.code g.pc = .ok (ig, len) →
    2 * g.monitorRoom + (g.stack.map fun v => v.category).sum ≤ W9 → A.U.methodNamed? y = some mk → Pre A a →
    (∃ (v : Option Value) (B : Pt), Stand p l e R s m sargs below meth c B.U B.locs B.cells B.slots ∧ Post A a v B ∧
      Steps p.tables e below (doInvoke e (A.U.setTop g) [] mk a).1 (B.U.setTop { g with pc := g.pc + len, stack := v.toList ++ g.stack })) ∨
    (∃ (q : Addr) (B : Pt), Stand p l e R s m sargs below meth c B.U B.locs B.cells B.slots ∧ PostX A a q B ∧
      Steps p.tables e below (doInvoke e (A.U.setTop g) [] mk a).1 ((B.U.setTop g).pushFrame (.throwing q)))
section Payer
variable {l : Launch} {R : Room} {p : Program} {e : Env} {below : List Frame} {s : State} {sargs : Array Value} {y : MethodName} {len W9 : Nat}
theorem vx_back {ws : List Cond} {rm : Room} {Pc : Array Value → State → Prop} {Qc : Array Value → State → Outcome → State → Prop} {XC : String → State → State → Prop} {mc ms : Nat} {free : Addr → Prop} {bytes : ByteArray} {maxL : Nat} {ret : Option FieldType}
    (hM : vx_Met l y ws rm Pc Qc XC mc ms free) (hblind : FrameBlind Pc) (hrc : rm.cells = mc) (hrs : rm.slots = ms)
    (hframes : rm.frames + 1 ≤ R.frames) (hlocals : W9 + (maxL + 11) + rm.locals ≤ R.locals)
    (hws : ∀ w ∈ ws, ∀ a' U, s.WarmedH U.vm → w.before a' U = true) (hcode : Cond.code y bytes maxL ret ∈ ws) (hinit : ∀ a' U, s.WarmedH U.vm → (Cond.initialized y.cls).before a' U = true) :
    vx_Back l R p e below s sargs y len W9 (PreOf R mc ms Pc) (PostOf Qc mc ms free) (vx_Post XC mc ms free) := by
  intro m meth c A g ig mk a X hg hsize hdg hW hn hp
  have h1 : (headSpec ws rm).pre.before a A.U = true := atoms_intro fun w hw => hws w hw _ _ X.warmed
  have h2 : (Cond.code y bytes maxL ret).before a A.U = true := hws _ hcode _ _ X.warmed
  have h3 : (Cond.initialized y.cls).before a A.U = true := hinit _ _ X.warmed
  have h4 : A.cells + (headSpec ws rm).room.cells ≤ R.cells := by rw [show (headSpec ws rm).room.cells = mc from hrc]; exact hp.1
  have h5 : A.slots + (headSpec ws rm).room.slots ≤ R.slots := by rw [show (headSpec ws rm).room.slots = ms from hrs]; exact hp.2.1
  have hPc : Pc a (A.U.calling g mk a) := hblind _ _ _ _ hp.2.2
  obtain ⟨U, Ls, c0, s0⟩ := A
  dsimp only [Pt.U, Pt.locs, Pt.cells, Pt.slots] at h1 h2 h3 h4 h5 X hn hPc ⊢
  obtain ⟨methY, cY, hmY, hcY, -, hlY, -, -, -, -⟩ := Cond.code_spec hn h2
  obtain ⟨kY, hkY, -⟩ := className_of_methodNamed hn
  have hinitY : kY.init = .initialized := Cond.initialized_spec (findClass_of_methodNamed hn) hkY h3
  have h : At U g.method c below := by rw [hg]; exact X.here
  have hlocals9 : W9 + (maxL + 11) + (headSpec ws rm).room.locals ≤ R.locals := hlocals
  have happ : (headSpec ws rm).appliesLoose y e.platform (U.calling g mk a) = true :=
    Spec.appliesLoose_calling (g := g) h hdg hn hkY hinitY
      (X.room_calling (g := g) (R' := (headSpec ws rm).room) hsize hmY hcY hframes (by rw [hlY]; omega) h4 h5) h1
  obtain ⟨mid, hmid⟩ := h.above
  have hfr : (U.setTop g).frames = (.java g :: mid) ++ below := by rw [State.frames_setTop' g h.top, hmid]; rfl
  obtain ⟨o, s₂, hsteps, -, hend, hq⟩ := Steps.callFree hM p X.admits X.cas X.clock (acts := []) hfr happ hPc trivial
  have hq' : vx_Q Qc XC mc ms free a (U.calling g mk a) o s₂ := hq
  rw [State.frames_setTop' g h.top] at hend
  obtain ⟨g₀, hg0⟩ := Option.isSome_iff_exists.mp h.top
  obtain ⟨r, hr⟩ := State.topJava?_eq_some.mp hg0
  have hr' : (({ U with heap := s₂.heap, slotsUsed := s₂.slotsUsed } : State).setVm s₂.vm).frames = .java g₀ :: r := hr
  rcases hq' with ⟨hqc, L, hfe, hL⟩ | ⟨q, rfl, E, ce, L, hx, hce, hcv, hcl, hW₂, hsm, hL⟩
  · obtain ⟨⟨v, rfl⟩, hW₂, e2, q2, q3, q4, q5, q6⟩ := id hfe
    have e3 : s₂ = ({ (U.calling g mk a).setFrames s₂.frames with heap := s₂.heap, slotsUsed := s₂.slotsUsed } : State).setVm s₂.vm := by
      have : s₂ = ({ s₂ with vm := (U.calling g mk a).vm } : State).setVm s₂.vm := rfl
      rw [e2] at this
      exact this
    obtain ⟨c₂, i₂, len₂, hc₂, hd₂, hf₂⟩ := hend
    have hW' : U.WarmedH s₂.vm := hW₂
    have hcc : c₂ = c := by
      have h1 : s₂.code? g.method = U.code? g.method := by
        rw [State.code?_eq, State.code?_eq, hW'.alike.method?]
      exact Option.some.inj (hc₂.symm.trans (h1.trans h.code))
    subst hcc
    have hlen : len₂ = len := by rw [hdg] at hd₂; cases hd₂; rfl
    subst hlen
    have hs₂ : s₂ = (({ U with heap := s₂.heap, slotsUsed := s₂.slotsUsed } : State).setVm s₂.vm).setTop { g with pc := g.pc + len₂, stack := v.toList ++ g.stack } := by
      refine e3.trans ?_
      rw [hf₂, State.calling_eq h.top, State.setFrames_setFrames, State.setTop_of_frames _ hr', hr]
      rfl
    have hsame : U.sameButNew ({ U with heap := s₂.heap, slotsUsed := s₂.slotsUsed } : State) L mc ms := by
      refine ⟨?_, q2, q3, q4, q5, q6⟩
      obtain ⟨t, ht, -⟩ := State.frames_cons hr
      show ({ U with heap := s₂.heap, slotsUsed := s₂.slotsUsed } : State) = { U.setFrames U.frames with heap := s₂.heap, slotsUsed := s₂.slotsUsed }
      rw [State.setFrames_self ht]
    subst hg
    refine Or.inl ⟨v, ⟨(({ U with heap := s₂.heap, slotsUsed := s₂.slotsUsed } : State).setVm s₂.vm), Ls ++ L, c0 + mc, s0 + ms⟩,
      ⟨X.admits, X.cas, X.clock, X.frames, X.room, X.hears, X.method, X.code, (X.here.setHeapUsed s₂.heap s₂.slotsUsed).setVm hW'.alike, X.tail, State.WarmedH.trans X.warmed hW', X.limits, X.bytes, X.same.trans (hsame.setVm s.vm)⟩,
      ⟨g, mk, s₂, L, rfl, rfl, hqc, rfl, hL, rfl, rfl⟩, ?_⟩
    show Steps p.tables e below _ ((({ U with heap := s₂.heap, slotsUsed := s₂.slotsUsed } : State).setVm s₂.vm).setTop { g with pc := g.pc + len₂, stack := v.toList ++ g.stack })
    rw [← hs₂]
    exact hsteps
  · obtain ⟨e2, q2, q3, q4, q5, q6⟩ := id hsm
    have e3 : s₂ = ({ (U.calling g mk a).setFrames s₂.frames with heap := s₂.heap, slotsUsed := s₂.slotsUsed } : State).setVm s₂.vm := by
      have : s₂ = ({ s₂ with vm := (U.calling g mk a).vm } : State).setVm s₂.vm := rfl
      rw [e2] at this
      exact this
    have hf₂ : s₂.frames = .throwing q :: .java g :: U.frames.tail := hend
    have hW' : U.WarmedH s₂.vm := hW₂
    have hs₂ : s₂ = ((({ U with heap := s₂.heap, slotsUsed := s₂.slotsUsed } : State).setVm s₂.vm).setTop g).pushFrame (.throwing q) := by
      refine e3.trans ?_
      rw [hf₂, State.calling_eq h.top, State.setFrames_setFrames, State.pushFrame, State.frames_setTop _ hr', State.setTop_of_frames _ hr', State.setFrames_setFrames, hr]
      rfl
    have hsame : U.sameButNew ({ U with heap := s₂.heap, slotsUsed := s₂.slotsUsed } : State) L mc ms := by
      refine ⟨?_, q2, q3, q4, q5, q6⟩
      obtain ⟨t, ht, -⟩ := State.frames_cons hr
      show ({ U with heap := s₂.heap, slotsUsed := s₂.slotsUsed } : State) = { U.setFrames U.frames with heap := s₂.heap, slotsUsed := s₂.slotsUsed }
      rw [State.setFrames_self ht]
    subst hg
    refine Or.inr ⟨q, ⟨(({ U with heap := s₂.heap, slotsUsed := s₂.slotsUsed } : State).setVm s₂.vm), Ls ++ L, c0 + mc, s0 + ms⟩,
      ⟨X.admits, X.cas, X.clock, X.frames, X.room, X.hears, X.method, X.code, (X.here.setHeapUsed s₂.heap s₂.slotsUsed).setVm hW'.alike, X.tail, State.WarmedH.trans X.warmed hW', X.limits, X.bytes, X.same.trans (hsame.setVm s.vm)⟩,
      ⟨g, mk, s₂, L, E, ce, rfl, rfl, hx, hce, hcv, hcl, rfl, hL, rfl, rfl⟩, ?_⟩
    show Steps p.tables e below _ (((({ U with heap := s₂.heap, slotsUsed := s₂.slotsUsed } : State).setVm s₂.vm).setTop g).pushFrame (.throwing q))
    rw [← hs₂]
    exact hsteps
end Payer
section Calls
variable {p : Program} {l : Launch} {e : Env} {R : Room} {s : State} {m : MethodId} {args : Array Value} {below : List Frame} {meth : Method} {c : Code} {T : State} {locs : List Loc} {cells slots : Nat}
theorem vx_callV (X : Stand p l e R s m args below meth c T locs cells slots) (hexec : p.tables.exec = Jvm.exec) {own C : String} {index : Nat} {y : MethodName} {bytes : ByteArray} {maxL : Nat} {ret : Option FieldType}
    (hown : s.vm.findClass own = some m.cls) (hlink : (Cond.methodLink own index y).before args s = true) (hinst : (Cond.instanceMethod y).before args s = true) (hsel : (Cond.selects C y y).before args s = true)
    (hcode : (Cond.code y bytes maxL ret).before args s = true) (hy : y.cls ≠ "java/lang/invoke/MethodHandle" ∧ y.cls ≠ "java/lang/invoke/VarHandle")
    {W9 : Nat} {Pre : Pt → Array Value → Prop} {Post : Pt → Array Value → Option Value → Pt → Prop} {PostX : Pt → Array Value → Addr → Pt → Prop} (hK : vx_Back l R p e below s args y 3 W9 Pre Post PostX)
    {b : Addr} {cellB : Cell} (hcell : T.heap[b]? = some cellB) (hobj : cellB.vm.isStatics = false) (hcls : s.vm.findClass C = some cellB.cls)
    {g : JFrame} (hg : g.method = m) (hsize : g.locals.size = c.maxLocals) {argsL rest : List Value} (hlen : ∀ sig, parseMethodDescriptor y.desc = some sig → argsL.length = sig.parameters.length)
    (hstack : g.stack = argsL.reverse ++ .ref b :: rest) (hW : 2 * g.monitorRoom + (rest.map fun v => v.category).sum ≤ W9) (hdg : decode c.code g.pc = .ok (.invokevirtual index, 3))
    (hpre : ∀ vm₁, s.WarmedH vm₁ → Pre ⟨T.setVm vm₁, locs, cells, slots⟩ (Value.ref b :: argsL).toArray) :
    (∃ (v : Option Value) (vm₁ : Vm) (B : Pt), s.WarmedH vm₁ ∧ Stand p l e R s m args below meth c B.U B.locs B.cells B.slots ∧ Post ⟨T.setVm vm₁, locs, cells, slots⟩ (Value.ref b :: argsL).toArray v B ∧
      ∀ target, Steps p.tables e below (B.U.setTop { g with pc := g.pc + 3, stack := v.toList ++ rest }) target → Steps p.tables e below (T.setTop g) target) ∨
    (∃ (q : Addr) (vm₁ : Vm) (B : Pt), s.WarmedH vm₁ ∧ Stand p l e R s m args below meth c B.U B.locs B.cells B.slots ∧ PostX ⟨T.setVm vm₁, locs, cells, slots⟩ (Value.ref b :: argsL).toArray q B ∧
      Steps p.tables e below (T.setTop g) ((B.U.setTop { g with stack := rest }).pushFrame (.throwing q))) := by
  obtain ⟨mk, methM, hnamed, hmethM, hstM, habM⟩ := Cond.instanceMethod_spec hinst
  obtain ⟨methM', cM, hmethM', -, -, -, -, -, -, hsigM⟩ := Cond.code_spec hnamed hcode
  cases hmethM.symm.trans hmethM'
  obtain ⟨c2, r2, m2, q1, q2, q3, q4, kP, hkP, hkPi⟩ := Cond.selects_spec hsel
  cases hcls.symm.trans q1
  cases (State.methodFound?_of_named hnamed hy).symm.trans q2
  cases hnamed.symm.trans q3
  have hselP : selectMethod e.platform s.vm cellB.cls mk = .method mk := by rw [Launch.admits_selectMethod X.admits]; exact q4
  obtain ⟨vm₁, X₁, hstep₁⟩ := X.invokevirtual hexec hown hlink hnamed hmethM hstM hkP hkPi hy (a := b) (cell := cellB) hcell
    (fun z h => by rw [h] at hobj; cases hobj) hselP hmethM habM hkP hkPi (g := g) hg (argsL := argsL) (rest := rest) (hlen _ hsigM) hstack hdg
  rcases hK m meth c ⟨T.setVm vm₁, locs, cells, slots⟩ { g with stack := rest } (.invokevirtual index) mk (Value.ref b :: argsL).toArray X₁ hg hsize hdg hW (X₁.named hnamed) (hpre vm₁ X₁.warmed) with ⟨v, B, X', hpost, hsteps⟩ | ⟨q, B, X', hpost, hsteps⟩
  · exact Or.inl ⟨v, vm₁, B, X₁.warmed, X', hpost, fun target h => hstep₁ _ fun acts => by rw [doInvoke_state]; exact hsteps.trans h⟩
  · exact Or.inr ⟨q, vm₁, B, X₁.warmed, X', hpost, hstep₁ _ fun acts => by rw [doInvoke_state]; exact hsteps⟩
theorem vx_callS (X : Stand p l e R s m args below meth c T locs cells slots) (hexec : p.tables.exec = Jvm.exec) {own : String} {index : Nat} {y : MethodName} {bytes : ByteArray} {maxL : Nat} {ret : Option FieldType}
    (hown : s.vm.findClass own = some m.cls) (hlink : (Cond.methodLink own index y).before args s = true) (hstat : (Cond.static y).before args s = true) (hinit : (Cond.initialized y.cls).before args s = true)
    (hcode : (Cond.code y bytes maxL ret).before args s = true) (hy : y.cls ≠ "java/lang/invoke/MethodHandle" ∧ y.cls ≠ "java/lang/invoke/VarHandle")
    {W9 : Nat} {Pre : Pt → Array Value → Prop} {Post : Pt → Array Value → Option Value → Pt → Prop} {PostX : Pt → Array Value → Addr → Pt → Prop} (hK : vx_Back l R p e below s args y 3 W9 Pre Post PostX)
    {g : JFrame} (hg : g.method = m) (hsize : g.locals.size = c.maxLocals) {argsL rest : List Value} (hlen : ∀ sig, parseMethodDescriptor y.desc = some sig → argsL.length = sig.parameters.length)
    (hstack : g.stack = argsL.reverse ++ rest) (hW : 2 * g.monitorRoom + (rest.map fun v => v.category).sum ≤ W9) (hdg : decode c.code g.pc = .ok (.invokestatic index, 3))
    (hpre : ∀ vm₁, s.WarmedH vm₁ → Pre ⟨T.setVm vm₁, locs, cells, slots⟩ argsL.toArray) :
    (∃ (v : Option Value) (vm₁ : Vm) (B : Pt), s.WarmedH vm₁ ∧ Stand p l e R s m args below meth c B.U B.locs B.cells B.slots ∧ Post ⟨T.setVm vm₁, locs, cells, slots⟩ argsL.toArray v B ∧
      ∀ target, Steps p.tables e below (B.U.setTop { g with pc := g.pc + 3, stack := v.toList ++ rest }) target → Steps p.tables e below (T.setTop g) target) ∨
    (∃ (q : Addr) (vm₁ : Vm) (B : Pt), s.WarmedH vm₁ ∧ Stand p l e R s m args below meth c B.U B.locs B.cells B.slots ∧ PostX ⟨T.setVm vm₁, locs, cells, slots⟩ argsL.toArray q B ∧
      Steps p.tables e below (T.setTop g) ((B.U.setTop { g with stack := rest }).pushFrame (.throwing q))) := by
  obtain ⟨mk, hnamed⟩ := Cond.code_named hcode
  obtain ⟨methM, cM, hmethM, -, -, -, -, -, -, hsigM⟩ := Cond.code_spec hnamed hcode
  have hstatic : methM.isStatic = true := Cond.static_spec hnamed hmethM hstat
  obtain ⟨kP, hkP, -⟩ := className_of_methodNamed hnamed
  have hinitP : kP.init = .initialized := Cond.initialized_spec (findClass_of_methodNamed hnamed) hkP hinit
  obtain ⟨vm₁, X₁, hstep₁⟩ := X.invokestatic hexec hown hlink hnamed hmethM hstatic hkP hinitP hy (g := g) hg (argsL := argsL) (rest := rest) (hlen _ hsigM) hstack hdg
  rcases hK m meth c ⟨T.setVm vm₁, locs, cells, slots⟩ { g with stack := rest } (.invokestatic index) mk argsL.toArray X₁ hg hsize hdg hW (X₁.named hnamed) (hpre vm₁ X₁.warmed) with ⟨v, B, X', hpost, hsteps⟩ | ⟨q, B, X', hpost, hsteps⟩
  · exact Or.inl ⟨v, vm₁, B, X₁.warmed, X', hpost, fun target h => hstep₁ _ fun acts => by rw [doInvoke_state]; exact hsteps.trans h⟩
  · exact Or.inr ⟨q, vm₁, B, X₁.warmed, X', hpost, hstep₁ _ fun acts => by rw [doInvoke_state]; exact hsteps⟩
end Calls
theorem vx_cls {s : State} {T : State} {vm₁ : Vm} {E : String} {k : ClassId} (hW : s.WarmedH vm₁) (h : (T.setVm vm₁).vm.findClass E = some k) : s.vm.findClass E = some k := by
  have h1 : vm₁.findClass E = some k := h
  rw [hW.alike.findClass] at h1
  exact h1
/-- the method's frame g, with q thrown over it -/
def vx_W (p : Program) (l : Launch) (e : Env) (R : Room) (s : State) (m : MethodId) (args : Array Value) (below : List Frame) (meth : Method) (c : Code) (H : Heap) (locs : List Loc) (cells slots : Nat) (Q : State → Prop) (g : JFrame) (q : Addr) : Prop :=
  ∀ T : State, T.heap = H → Stand p l e R s m args below meth c T locs cells slots → ∃ t, Steps p.tables e below ((T.setTop g).pushFrame (.throwing q)) t ∧ Q t
def vx_Run (p : Program) (l : Launch) (e : Env) (R : Room) (s : State) (m : MethodId) (args : Array Value) (below : List Frame) (meth : Method) (c : Code) (H : Heap) (locs : List Loc) (cells slots mc ms : Nat) (g : JFrame) (rest : List Value) (Qa : State → Outcome → State → Prop) (XC : String → State → State → Prop) (free : Addr → Prop) : Prop :=
  ∀ T : State, T.heap = H → Stand p l e R s m args below meth c T locs cells slots →
    (∃ (v : Option Value) (st₀ t T' : State) (L : List Loc), st₀.heap = H ∧ Stand p l e R s m args below meth c T' (locs ++ L) (cells + mc) (slots + ms) ∧ (∀ q ∈ L, free q.base) ∧ T'.heap = t.heap ∧ T'.vm = t.vm ∧ Qa st₀ (.returned v) t ∧
      Goes p e below T g T' { g with pc := g.pc + 3, stack := v.toList ++ rest }) ∨
    (∃ (q : Addr) (st₀ t T' : State) (L : List Loc) (E : String) (ce : Cell), st₀.heap = H ∧ Stand p l e R s m args below meth c T' (locs ++ L) (cells + mc) (slots + ms) ∧ (∀ z ∈ L, free z.base) ∧ T'.heap = t.heap ∧ T'.vm = t.vm ∧ XC E st₀ t ∧ t.heap[q]? = some ce ∧ ce.vm = .none ∧ s.vm.findClass E = some ce.cls ∧
      Steps p.tables e below (T.setTop g) ((T'.setTop { g with stack := rest }).pushFrame (.throwing q)))
def vx_X {S : Type} (px : S → Prop) (B : String → S → State → Prop) (A : Nat → Prop) : String → State → State → Prop := fun E st t => ∃ u : S, px u ∧ B E u t ∧ va_F A st t
section Runs
variable {p : Program} {l : Launch} {e : Env} {R : Room} {s : State} {m : MethodId} {args : Array Value} {below : List Frame} {meth : Method} {c : Code} {H : Heap} {locs : List Loc} {cells slots : Nat}
variable {y : MethodName} {bytes cc : ByteArray} {maxL nL mc ms n index : Nat} {ret : Option FieldType} {ws : List Cond} {rm : Room} {Pc : Array Value → State → Prop} {Qc : Array Value → State → Outcome → State → Prop} {XC : String → State → State → Prop} {free : Addr → Prop} {Ts : List Cond} {own C : String} {b : Addr} {As rest : List Value} {g : JFrame}
theorem vx_callBack (cb : CallB R s args own index y bytes maxL ret ws rm mc ms n) (hM : vx_Met l y ws rm Pc Qc XC mc ms free) (hbl : FrameBlind Pc) : vx_Back l R p e below s args y 3 8 (PreOf R mc ms Pc) (PostOf Qc mc ms free) (vx_Post XC mc ms free) := by
  obtain ⟨hrc, hrs, hfr, hlo, hws, hcw, -, hini, -⟩ := cb
  exact vx_back (bytes := bytes) (maxL := maxL) (ret := ret) hM hbl hrc hrs hfr hlo hws hcw (fun a' U hW => word_at hW (Or.inl (by first | rfl | simp [Cond.onTables, Cond.keeps, Cond.steady])) hini)
theorem vx_runV (S : CallFix p m c cc nL s args Ts own) (hM : vx_Met l y ws rm Pc Qc XC mc ms free) (cw : CallW R s args own C index y bytes maxL ret ws rm mc ms n) (hp : PreV s H C b Pc As)
    (hg : g.method = m) (hn : As.length = n) (hsize : g.locals.size = nL) (hstack : g.stack = As.reverse ++ .ref b :: rest) (hW : 2 * g.monitorRoom + (rest.map fun v => v.category).sum ≤ 8) (hdg : decode cc g.pc = .ok (.invokevirtual index, 3)) (hf : cells + mc ≤ R.cells ∧ slots + ms ≤ R.slots) :
    vx_Run p l e R s m args below meth c H locs cells slots mc ms g rest (Qc (Value.ref b :: As).toArray) XC free := by
  have hK : vx_Back l R p e below s args y 3 8 (PreOf R mc ms Pc) (PostOf Qc mc ms free) (vx_Post XC mc ms free) := vx_callBack cw.1 hM hp.1
  obtain ⟨⟨-, -, -, -, -, -, hcode, -, hy, hlen, hl⟩, hin, hse⟩ := cw
  obtain ⟨hx, hb, hml, ho, -⟩ := S
  obtain ⟨-, ⟨cellB, hcB, hoB, hclB⟩, hPc⟩ := hp
  intro T hT X
  rcases vx_callV X hx (C := C) (bytes := bytes) (maxL := maxL) (ret := ret) ho hl hin hse hcode hy hK (by rw [hT]; exact hcB) hoB hclB hg (hsize.trans hml.symm) (argsL := As) (rest := rest) (fun sig h => hn.trans (hlen sig h)) hstack hW (by rw [hb]; exact hdg)
    (fun vm₁ hW₁ => ⟨hf.1, hf.2, hPc (T.setVm vm₁) hT hW₁⟩) with ⟨v, vm₁, ⟨U', l2, c2, s2⟩, hW₁, X', ⟨g', mk, t, L, e1, e2, hq, h1, hL, h2, h3⟩, st⟩ | ⟨q, vm₁, ⟨U', l2, c2, s2⟩, hW₁, X', ⟨g', mk, t, L, E, ce, e1, e2, hq, hce, hcv, hcl, h1, hL, h2, h3⟩, st⟩
  · dsimp only [Pt.U, Pt.locs, Pt.cells, Pt.slots] at X' e1 e2 h1 h2 h3 st
    subst h1; subst h2; subst h3
    exact Or.inl ⟨v, (T.setVm vm₁).calling g' mk (Value.ref b :: As).toArray, t, U', L, hT, X', hL, e1, e2, hq, st⟩
  · dsimp only [Pt.U, Pt.locs, Pt.cells, Pt.slots] at X' e1 e2 h1 h2 h3 st hcl
    subst h1; subst h2; subst h3
    exact Or.inr ⟨q, (T.setVm vm₁).calling g' mk (Value.ref b :: As).toArray, t, U', L, E, ce, hT, X', hL, e1, e2, hq, hce, hcv, vx_cls hW₁ hcl, st⟩
theorem vx_runS (S : CallFix p m c cc nL s args Ts own) (hM : vx_Met l y ws rm Pc Qc XC mc ms free) (cw : CallB R s args own index y bytes maxL ret ws rm mc ms n ∧ (Cond.static y).before args s = true) (hp : PreS s H Pc As)
    (hg : g.method = m) (hn : As.length = n) (hsize : g.locals.size = nL) (hstack : g.stack = As.reverse ++ rest) (hW : 2 * g.monitorRoom + (rest.map fun v => v.category).sum ≤ 8) (hdg : decode cc g.pc = .ok (.invokestatic index, 3)) (hf : cells + mc ≤ R.cells ∧ slots + ms ≤ R.slots) :
    vx_Run p l e R s m args below meth c H locs cells slots mc ms g rest (Qc As.toArray) XC free := by
  have hK : vx_Back l R p e below s args y 3 8 (PreOf R mc ms Pc) (PostOf Qc mc ms free) (vx_Post XC mc ms free) := vx_callBack cw.1 hM hp.1
  obtain ⟨⟨-, -, -, -, -, -, hcode, hini, hy, hlen, hl⟩, hstt⟩ := cw
  obtain ⟨hx, hb, hml, ho, -⟩ := S
  intro T hT X
  rcases vx_callS X hx (bytes := bytes) (maxL := maxL) (ret := ret) ho hl hstt hini hcode hy hK hg (hsize.trans hml.symm) (argsL := As) (rest := rest) (fun sig h => hn.trans (hlen sig h)) hstack hW (by rw [hb]; exact hdg)
    (fun vm₁ hW₁ => ⟨hf.1, hf.2, hp.2 (T.setVm vm₁) hT hW₁⟩) with ⟨v, vm₁, ⟨U', l2, c2, s2⟩, hW₁, X', ⟨g', mk, t, L, e1, e2, hq, h1, hL, h2, h3⟩, st⟩ | ⟨q, vm₁, ⟨U', l2, c2, s2⟩, hW₁, X', ⟨g', mk, t, L, E, ce, e1, e2, hq, hce, hcv, hcl, h1, hL, h2, h3⟩, st⟩
  · dsimp only [Pt.U, Pt.locs, Pt.cells, Pt.slots] at X' e1 e2 h1 h2 h3 st
    subst h1; subst h2; subst h3
    exact Or.inl ⟨v, (T.setVm vm₁).calling g' mk As.toArray, t, U', L, hT, X', hL, e1, e2, hq, st⟩
  · dsimp only [Pt.U, Pt.locs, Pt.cells, Pt.slots] at X' e1 e2 h1 h2 h3 st hcl
    subst h1; subst h2; subst h3
    exact Or.inr ⟨q, (T.setVm vm₁).calling g' mk As.toArray, t, U', L, E, ce, hT, X', hL, e1, e2, hq, hce, hcv, vx_cls hW₁ hcl, st⟩
end Runs
section Rows
variable {p : Program} {l : Launch} {e : Env} {R : Room} {s : State} {m : MethodId} {args : Array Value} {below : List Frame} {meth : Method} {c : Code} {H : Heap} {locs : List Loc} {cells slots : Nat} {Q : State → Prop}
variable {mc ms : Nat} {free : Addr → Prop} {A0 A1 : Nat → Prop} {H0 : Heap} {a : Array Value} {pc : Nat} {ls : Array Slot} {st0 rest : List Value}
theorem vx_keep {st₀ t T' : State} {L : List Loc} (h0 : st₀.heap = H) (e1 : T'.heap = t.heap) (hS : va_S A0 H0 H locs) (hA : ∀ q, q < H.size → A1 q → A0 q) (hf : ∀ q, free q → A0 q) (hL : ∀ q ∈ L, free q.base) (hF : va_F A1 st₀ t) :
    H.size ≤ T'.heap.size ∧ (∀ q : Nat, q < H.size → ¬ A1 q → T'.heap[q]? = H[q]?) ∧ va_S A0 H0 T'.heap (locs ++ L) := by
  obtain ⟨hz, hk⟩ := hF
  rw [h0] at hz hk
  exact ⟨by rw [e1]; exact hz, fun q h1 h2 => by rw [e1]; exact hk q h1 h2,
    ⟨Nat.le_trans hS.1 (by rw [e1]; exact hz), fun q h1 h2 => by rw [e1, hk q (Nat.lt_of_lt_of_le h1 hS.1) (fun z => h2 (hA q (Nat.lt_of_lt_of_le h1 hS.1) z))]; exact hS.2.1 q h1 h2, fun q hq => by
      rcases List.mem_append.mp hq with h | h
      · exact hS.2.2 q h
      · exact hf _ (hL q h)⟩⟩
theorem vx_calli {S SX : Type} {post : Int32 → S → Prop} {px : SX → Prop} {B : S → State → Prop} {BX : String → SX → State → Prop} {AX : Nat → Prop} (hr : vx_Run p l e R s m args below meth c H locs cells slots mc ms (F0 m pc ls st0) rest (va_Qi post B A1 a) (vx_X px BX AX) free) (hS : va_S A0 H0 H locs) (hA : ∀ q, q < H.size → A1 q → A0 q) (hf : ∀ q, free q → A0 q) (hAX : ∀ q, q < H.size → AX q → A0 q)
    (kx : ∀ (E : String) (ce : Cell) (q9 : Addr) (u : SX) (t : State) (H1 : Heap) (locs1 : List Loc), t.heap = H1 → s.vm.Alike t.vm → px u → BX E u t → H.size ≤ H1.size → (∀ q : Nat, q < H.size → ¬ AX q → H1[q]? = H[q]?) → va_S A0 H0 H1 locs1 → H1[q9]? = some ce → ce.vm = .none → s.vm.findClass E = some ce.cls → vx_W p l e R s m args below meth c H1 locs1 (cells + mc) (slots + ms) Q (F0 m pc ls rest) q9)
    (kk : ∀ (r : Int32) (u : S) (t : State) (H1 : Heap) (locs1 : List Loc), t.heap = H1 → s.vm.Alike t.vm → post r u → B u t → H.size ≤ H1.size → (∀ q : Nat, q < H.size → ¬ A1 q → H1[q]? = H[q]?) → va_S A0 H0 H1 locs1 → W p l e R s m args below meth c H1 locs1 (cells + mc) (slots + ms) Q (F0 m (pc + 3) ls (.int r :: rest))) : W p l e R s m args below meth c H locs cells slots Q (F0 m pc ls st0) := by
  intro T hT X
  rcases hr T hT X with ⟨v, st₀, t, T', L, h0, X', hL, e1, e2, ⟨⟨r, u, hv, hp, hb⟩, hF⟩, st⟩ | ⟨q, st₀, t, T', L, E, ce, h0, X', hL, e1, e2, ⟨u, hp, hb, hF⟩, hce, hcv, hcl, st⟩
  · cases hv
    obtain ⟨k1, k2, k3⟩ := vx_keep h0 e1 hS hA hf hL hF
    obtain ⟨t2, a1, b1⟩ := kk r u t T'.heap (locs ++ L) e1.symm (by rw [← e2]; exact X'.warmed.alike) hp hb k1 k2 k3 T' rfl X'
    exact ⟨t2, st t2 a1, b1⟩
  · obtain ⟨k1, k2, k3⟩ := vx_keep h0 e1 hS hAX hf hL hF
    obtain ⟨t2, a1, b1⟩ := kx E ce q u t T'.heap (locs ++ L) e1.symm (by rw [← e2]; exact X'.warmed.alike) hp hb k1 k2 k3 (by rw [e1]; exact hce) hcv hcl T' rfl X'
    exact ⟨t2, st.trans a1, b1⟩
theorem vx_calll {S SX : Type} {post : Int64 → S → Prop} {px : SX → Prop} {B : S → State → Prop} {BX : String → SX → State → Prop} {AX : Nat → Prop} (hr : vx_Run p l e R s m args below meth c H locs cells slots mc ms (F0 m pc ls st0) rest (va_Ql post B A1 a) (vx_X px BX AX) free) (hS : va_S A0 H0 H locs) (hA : ∀ q, q < H.size → A1 q → A0 q) (hf : ∀ q, free q → A0 q) (hAX : ∀ q, q < H.size → AX q → A0 q)
    (kx : ∀ (E : String) (ce : Cell) (q9 : Addr) (u : SX) (t : State) (H1 : Heap) (locs1 : List Loc), t.heap = H1 → s.vm.Alike t.vm → px u → BX E u t → H.size ≤ H1.size → (∀ q : Nat, q < H.size → ¬ AX q → H1[q]? = H[q]?) → va_S A0 H0 H1 locs1 → H1[q9]? = some ce → ce.vm = .none → s.vm.findClass E = some ce.cls → vx_W p l e R s m args below meth c H1 locs1 (cells + mc) (slots + ms) Q (F0 m pc ls rest) q9)
    (kk : ∀ (r : Int64) (u : S) (t : State) (H1 : Heap) (locs1 : List Loc), t.heap = H1 → s.vm.Alike t.vm → post r u → B u t → H.size ≤ H1.size → (∀ q : Nat, q < H.size → ¬ A1 q → H1[q]? = H[q]?) → va_S A0 H0 H1 locs1 → W p l e R s m args below meth c H1 locs1 (cells + mc) (slots + ms) Q (F0 m (pc + 3) ls (.long r :: rest))) : W p l e R s m args below meth c H locs cells slots Q (F0 m pc ls st0) := by
  intro T hT X
  rcases hr T hT X with ⟨v, st₀, t, T', L, h0, X', hL, e1, e2, ⟨⟨r, u, hv, hp, hb⟩, hF⟩, st⟩ | ⟨q, st₀, t, T', L, E, ce, h0, X', hL, e1, e2, ⟨u, hp, hb, hF⟩, hce, hcv, hcl, st⟩
  · cases hv
    obtain ⟨k1, k2, k3⟩ := vx_keep h0 e1 hS hA hf hL hF
    obtain ⟨t2, a1, b1⟩ := kk r u t T'.heap (locs ++ L) e1.symm (by rw [← e2]; exact X'.warmed.alike) hp hb k1 k2 k3 T' rfl X'
    exact ⟨t2, st t2 a1, b1⟩
  · obtain ⟨k1, k2, k3⟩ := vx_keep h0 e1 hS hAX hf hL hF
    obtain ⟨t2, a1, b1⟩ := kx E ce q u t T'.heap (locs ++ L) e1.symm (by rw [← e2]; exact X'.warmed.alike) hp hb k1 k2 k3 (by rw [e1]; exact hce) hcv hcl T' rfl X'
    exact ⟨t2, st.trans a1, b1⟩
theorem vx_callf {S SX : Type} {post : UInt32 → S → Prop} {px : SX → Prop} {B : S → State → Prop} {BX : String → SX → State → Prop} {AX : Nat → Prop} (hr : vx_Run p l e R s m args below meth c H locs cells slots mc ms (F0 m pc ls st0) rest (va_Qf post B A1 a) (vx_X px BX AX) free) (hS : va_S A0 H0 H locs) (hA : ∀ q, q < H.size → A1 q → A0 q) (hf : ∀ q, free q → A0 q) (hAX : ∀ q, q < H.size → AX q → A0 q)
    (kx : ∀ (E : String) (ce : Cell) (q9 : Addr) (u : SX) (t : State) (H1 : Heap) (locs1 : List Loc), t.heap = H1 → s.vm.Alike t.vm → px u → BX E u t → H.size ≤ H1.size → (∀ q : Nat, q < H.size → ¬ AX q → H1[q]? = H[q]?) → va_S A0 H0 H1 locs1 → H1[q9]? = some ce → ce.vm = .none → s.vm.findClass E = some ce.cls → vx_W p l e R s m args below meth c H1 locs1 (cells + mc) (slots + ms) Q (F0 m pc ls rest) q9)
    (kk : ∀ (r : UInt32) (u : S) (t : State) (H1 : Heap) (locs1 : List Loc), t.heap = H1 → s.vm.Alike t.vm → post r u → B u t → H.size ≤ H1.size → (∀ q : Nat, q < H.size → ¬ A1 q → H1[q]? = H[q]?) → va_S A0 H0 H1 locs1 → W p l e R s m args below meth c H1 locs1 (cells + mc) (slots + ms) Q (F0 m (pc + 3) ls (.float r :: rest))) : W p l e R s m args below meth c H locs cells slots Q (F0 m pc ls st0) := by
  intro T hT X
  rcases hr T hT X with ⟨v, st₀, t, T', L, h0, X', hL, e1, e2, ⟨⟨r, u, hv, hp, hb⟩, hF⟩, st⟩ | ⟨q, st₀, t, T', L, E, ce, h0, X', hL, e1, e2, ⟨u, hp, hb, hF⟩, hce, hcv, hcl, st⟩
  · cases hv
    obtain ⟨k1, k2, k3⟩ := vx_keep h0 e1 hS hA hf hL hF
    obtain ⟨t2, a1, b1⟩ := kk r u t T'.heap (locs ++ L) e1.symm (by rw [← e2]; exact X'.warmed.alike) hp hb k1 k2 k3 T' rfl X'
    exact ⟨t2, st t2 a1, b1⟩
  · obtain ⟨k1, k2, k3⟩ := vx_keep h0 e1 hS hAX hf hL hF
    obtain ⟨t2, a1, b1⟩ := kx E ce q u t T'.heap (locs ++ L) e1.symm (by rw [← e2]; exact X'.warmed.alike) hp hb k1 k2 k3 (by rw [e1]; exact hce) hcv hcl T' rfl X'
    exact ⟨t2, st.trans a1, b1⟩
theorem vx_calld {S SX : Type} {post : UInt64 → S → Prop} {px : SX → Prop} {B : S → State → Prop} {BX : String → SX → State → Prop} {AX : Nat → Prop} (hr : vx_Run p l e R s m args below meth c H locs cells slots mc ms (F0 m pc ls st0) rest (va_Qd post B A1 a) (vx_X px BX AX) free) (hS : va_S A0 H0 H locs) (hA : ∀ q, q < H.size → A1 q → A0 q) (hf : ∀ q, free q → A0 q) (hAX : ∀ q, q < H.size → AX q → A0 q)
    (kx : ∀ (E : String) (ce : Cell) (q9 : Addr) (u : SX) (t : State) (H1 : Heap) (locs1 : List Loc), t.heap = H1 → s.vm.Alike t.vm → px u → BX E u t → H.size ≤ H1.size → (∀ q : Nat, q < H.size → ¬ AX q → H1[q]? = H[q]?) → va_S A0 H0 H1 locs1 → H1[q9]? = some ce → ce.vm = .none → s.vm.findClass E = some ce.cls → vx_W p l e R s m args below meth c H1 locs1 (cells + mc) (slots + ms) Q (F0 m pc ls rest) q9)
    (kk : ∀ (r : UInt64) (u : S) (t : State) (H1 : Heap) (locs1 : List Loc), t.heap = H1 → s.vm.Alike t.vm → post r u → B u t → H.size ≤ H1.size → (∀ q : Nat, q < H.size → ¬ A1 q → H1[q]? = H[q]?) → va_S A0 H0 H1 locs1 → W p l e R s m args below meth c H1 locs1 (cells + mc) (slots + ms) Q (F0 m (pc + 3) ls (.double r :: rest))) : W p l e R s m args below meth c H locs cells slots Q (F0 m pc ls st0) := by
  intro T hT X
  rcases hr T hT X with ⟨v, st₀, t, T', L, h0, X', hL, e1, e2, ⟨⟨r, u, hv, hp, hb⟩, hF⟩, st⟩ | ⟨q, st₀, t, T', L, E, ce, h0, X', hL, e1, e2, ⟨u, hp, hb, hF⟩, hce, hcv, hcl, st⟩
  · cases hv
    obtain ⟨k1, k2, k3⟩ := vx_keep h0 e1 hS hA hf hL hF
    obtain ⟨t2, a1, b1⟩ := kk r u t T'.heap (locs ++ L) e1.symm (by rw [← e2]; exact X'.warmed.alike) hp hb k1 k2 k3 T' rfl X'
    exact ⟨t2, st t2 a1, b1⟩
  · obtain ⟨k1, k2, k3⟩ := vx_keep h0 e1 hS hAX hf hL hF
    obtain ⟨t2, a1, b1⟩ := kx E ce q u t T'.heap (locs ++ L) e1.symm (by rw [← e2]; exact X'.warmed.alike) hp hb k1 k2 k3 (by rw [e1]; exact hce) hcv hcl T' rfl X'
    exact ⟨t2, st.trans a1, b1⟩
theorem vx_callv {S SX : Type} {post : S → Prop} {px : SX → Prop} {B : S → State → Prop} {BX : String → SX → State → Prop} {AX : Nat → Prop} (hr : vx_Run p l e R s m args below meth c H locs cells slots mc ms (F0 m pc ls st0) rest (va_Qv post B A1 a) (vx_X px BX AX) free) (hS : va_S A0 H0 H locs) (hA : ∀ q, q < H.size → A1 q → A0 q) (hf : ∀ q, free q → A0 q) (hAX : ∀ q, q < H.size → AX q → A0 q)
    (kx : ∀ (E : String) (ce : Cell) (q9 : Addr) (u : SX) (t : State) (H1 : Heap) (locs1 : List Loc), t.heap = H1 → s.vm.Alike t.vm → px u → BX E u t → H.size ≤ H1.size → (∀ q : Nat, q < H.size → ¬ AX q → H1[q]? = H[q]?) → va_S A0 H0 H1 locs1 → H1[q9]? = some ce → ce.vm = .none → s.vm.findClass E = some ce.cls → vx_W p l e R s m args below meth c H1 locs1 (cells + mc) (slots + ms) Q (F0 m pc ls rest) q9)
    (kk : ∀ (u : S) (t : State) (H1 : Heap) (locs1 : List Loc), t.heap = H1 → s.vm.Alike t.vm → post u → B u t → H.size ≤ H1.size → (∀ q : Nat, q < H.size → ¬ A1 q → H1[q]? = H[q]?) → va_S A0 H0 H1 locs1 → W p l e R s m args below meth c H1 locs1 (cells + mc) (slots + ms) Q (F0 m (pc + 3) ls (rest))) : W p l e R s m args below meth c H locs cells slots Q (F0 m pc ls st0) := by
  intro T hT X
  rcases hr T hT X with ⟨v, st₀, t, T', L, h0, X', hL, e1, e2, ⟨⟨u, hv, hp, hb⟩, hF⟩, st⟩ | ⟨q, st₀, t, T', L, E, ce, h0, X', hL, e1, e2, ⟨u, hp, hb, hF⟩, hce, hcv, hcl, st⟩
  · cases hv
    obtain ⟨k1, k2, k3⟩ := vx_keep h0 e1 hS hA hf hL hF
    obtain ⟨t2, a1, b1⟩ := kk u t T'.heap (locs ++ L) e1.symm (by rw [← e2]; exact X'.warmed.alike) hp hb k1 k2 k3 T' rfl X'
    exact ⟨t2, st t2 a1, b1⟩
  · obtain ⟨k1, k2, k3⟩ := vx_keep h0 e1 hS hAX hf hL hF
    obtain ⟨t2, a1, b1⟩ := kx E ce q u t T'.heap (locs ++ L) e1.symm (by rw [← e2]; exact X'.warmed.alike) hp hb k1 k2 k3 (by rw [e1]; exact hce) hcv hcl T' rfl X'
    exact ⟨t2, st.trans a1, b1⟩
/-- caught by the row x of this method's table; the rows ahead don't take it -/
theorem vx_catch {own name : String} {E : String} {ce : Cell} {q : Addr} (hown : s.vm.findClass own = some m.cls) (pre : List ExceptionTableEntry) (x : ExceptionTableEntry) (suf : List ExceptionTableEntry) (hsplit : c.exceptionTable.toList = pre ++ x :: suf)
    (hpass : ∀ z ∈ pre, covers z pc = false ∨ (z.catchType ≠ 0 ∧ ∃ nm : String, (Cond.classLink own z.catchType nm).before args s = true ∧ va_Nc E nm s)) (hx : covers x pc = true) (h0 : x.catchType ≠ 0)
    (hlink : (Cond.classLink own x.catchType name).before args s = true) (hcast : (Cond.castable E name).before args s = true) (hcell : H[q]? = some ce) (hv : ce.vm = .none) (hcl : s.vm.findClass E = some ce.cls)
    (kk : W p l e R s m args below meth c H locs cells slots Q (F0 m x.handlerPc ls [.ref q])) : vx_W p l e R s m args below meth c H locs cells slots Q (F0 m pc ls rest) q := by
  intro T hT X
  have hpl : e.platform.magicAccessors = ({} : Platform).magicAccessors := by rw [X.admits.platform]
  obtain ⟨c3, c4, hc3, hc4, hasg⟩ := Cond.castable_spec hcast
  cases Option.some.inj (hc3.symm.trans hcl)
  obtain ⟨c5, hc5, hcl5⟩ := Cond.classLink_spec hown hlink e.platform hpl
  cases Option.some.inj (hc4.symm.trans hc5)
  obtain ⟨vm', X', st⟩ := X.thenCaughtThrough q (g := F0 m pc ls rest) rfl (Steps.refl _) (by rw [hT]; exact hcell) (by rw [hv]; rfl) (by obtain ⟨k9, h9, -⟩ := Vm.findClass_spec hcl; exact ⟨k9, h9⟩) pre x suf hsplit
    (fun z hz => by
      rcases hpass z hz with h | ⟨hz0, nm, hl1, hn1⟩
      · exact Or.inl h
      · obtain ⟨c6, hc6, hcl6⟩ := Cond.classLink_spec hown hl1 e.platform hpl
        obtain ⟨a8, b8, h1, h2, h3⟩ := hn1
        cases Option.some.inj (h1.symm.trans hcl)
        cases Option.some.inj (h2.symm.trans hc6)
        exact Or.inr ⟨hz0, _, hcl6, h3⟩) hx (Or.inr ⟨h0, c4, hcl5, hasg⟩)
  obtain ⟨t, a1, b1⟩ := kk (T.setVm vm') hT X'
  exact ⟨t, st.trans a1, b1⟩
end Rows
section Ends
variable {p : Program} {l : Launch} {e : Env} {R : Room} {s : State} {m : MethodId} {args : Array Value} {below : List Frame} {meth : Method} {c : Code} {H : Heap} {locs : List Loc} {cells slots : Nat} {Q : State → Prop}
variable {mc ms : Nat} {free : Addr → Prop} {A0 A1 : Nat → Prop} {H0 : Heap} {a : Array Value} {ls : Array Slot} {st0 rest : List Value}
variable {Qc : Array Value → State → Outcome → State → Prop} {XC : String → State → State → Prop}
/-- what a body that may throw owes at its end -/
def vx_MQ (below : List Frame) (Qc : Array Value → State → Outcome → State → Prop) (XC : String → State → State → Prop) (a : Array Value) (s : State) (mc ms : Nat) (free : Addr → Prop) : State → Prop := fun t =>
  ∃ o, t.status = .running ∧ Ended t below o ∧ vx_Q Qc XC mc ms free a s o t
theorem vx_ret {g : JFrame} {mc ms : Nat} (k : W p l e R s m args below meth c H locs cells slots (MQ below Qc args s mc ms free) g) : W p l e R s m args below meth c H locs cells slots (vx_MQ below Qc XC args s mc ms free) g := by
  intro T hT X
  obtain ⟨t, a1, o, b1, b2, b3, b4⟩ := k T hT X
  exact ⟨t, a1, o, b1, b2, Or.inl ⟨b3, b4⟩⟩
/-- not caught here: it goes on to the caller -/
theorem vx_widen {g : JFrame} {q : Addr} {k n : Nat} (h1 : cells ≤ k) (h2 : slots ≤ n) (kk : vx_W p l e R s m args below meth c H locs k n Q g q) : vx_W p l e R s m args below meth c H locs cells slots Q g q := fun T hT X => kk T hT (stand_widen X h1 h2)
theorem vx_out {pc : Nat} {E : String} {ce : Cell} {q : Addr} {mc ms : Nat} (hout : ∀ x ∈ c.exceptionTable.toList, covers x pc = false) (hlocks : meth.locks = false) (hcell : H[q]? = some ce) (hv : ce.vm = .none) (hcl : s.vm.findClass E = some ce.cls)
    (hx : ∀ t : State, t.heap = H → s.vm.Alike t.vm → XC E s t) (hf : ∀ z ∈ locs, free z.base) (hc : cells ≤ mc) (hs : slots ≤ ms) :
    vx_W p l e R s m args below meth c H locs cells slots (vx_MQ below Qc XC args s mc ms free) (F0 m pc ls rest) q := by
  intro T hT X
  obtain ⟨st1, hrun, hend, hW, hsm⟩ := X.leaveThrown q (g := F0 m pc ls rest) rfl rfl rfl hout hlocks
  have hcell9 : (T.setFrames (.throwing q :: below)).heap[q]? = some ce := by
    show T.heap[q]? = some ce
    rw [hT]; exact hcell
  exact ⟨_, st1, .threw q, hrun, hend, Or.inr ⟨q, rfl, E, ce, locs, hx _ hT hW.alike, hcell9, hv, hcl, hW, hsm.mono hc hs, hf⟩⟩
theorem vx_frame {U : State} {k n : Nat} (h : s.sameButNew ({ U with vm := s.vm } : State) locs k n) : s.heap.size ≤ U.heap.size ∧ ∀ q : Nat, q < s.heap.size → (∀ z ∈ locs, z.base ≠ q) → U.heap[q]? = s.heap[q]? := by
  obtain ⟨-, h2, -, -, -, h6⟩ := h
  refine ⟨h2, fun q hq hz => ?_⟩
  obtain ⟨c9, e1, e2, e3, e4⟩ := h6 q _ (Array.getElem?_eq_getElem hq)
  have hs : c9.slots = (s.heap[q]).slots := Array.ext_getElem? fun i => e4 i fun hm => hz _ hm rfl
  have h9 : c9 = s.heap[q] := by
    rw [hs] at e2
    exact e2
  have e5 : U.heap[q]? = some c9 := e1
  rw [e5, h9, Array.getElem?_eq_getElem hq]
/-- the words of a throw but the four that speak of the heap -/
def vx_no (w : Cond) : Bool := decide (w ≠ .isRef (.static Bundle.tN "UNASSIGNED_STACK" Bundle.steD)) && decide (w ≠ .isRef (.static Bundle.tN "SUPPRESSED_SENTINEL" Bundle.listD)) && decide (w ≠ .laysStatic Bundle.tN "UNASSIGNED_STACK" Bundle.steD) && decide (w ≠ .laysStatic Bundle.tN "SUPPRESSED_SENTINEL" Bundle.listD)
def vx_at0 (own : String) (ic : Nat) (X : String) (names : List String) : List Cond := (Bundle.ownAtoms0 own ic X names).filter vx_no
def vx_atS (own : String) (ic : Nat) (X : String) (names : List String) : List Cond := (Bundle.ownAtoms own ic X names).filter vx_no
/-- a word that the tables alone decide, or a good one -/
def vx_ot (w : Cond) : Bool := w.onTables || goodWord w
theorem vx_ot_at {args a' : Array Value} {s U : State} {w : Cond} (hW : s.WarmedH U.vm) (hvm : s.vm = U.vm) (hg : vx_ot w = true) (h : w.before args s = true) : w.before a' U = true := by
  simp only [vx_ot, Bool.or_eq_true] at hg
  rcases hg with hg | hg
  · exact va_tabs hg hvm h
  · exact word_at hW (good_of_word hg) h
/-- a list's words: the good ones out of the method's own list, the others by premises of their own -/
theorem vx_hat {args : Array Value} {s : State} {L B : List Cond} (h1 : ∀ w ∈ L.filter goodWord, w.before args s = true) (h2 : ∀ w ∈ L.filter (fun w => !goodWord w), w ∈ B) (h3 : ∀ w ∈ B, w.before args s = true) : ∀ w ∈ L, w.before args s = true := by
  intro w hw
  by_cases g : goodWord w = true
  · exact h1 w (List.mem_filter.mpr ⟨hw, g⟩)
  · refine h3 w (h2 w (List.mem_filter.mpr ⟨hw, ?_⟩))
    show (!goodWord w) = true
    cases hgw : goodWord w
    · rfl
    · exact absurd hgw g
theorem vx_c {args : Array Value} {s : State} {w : Cond} {B : List Cond} (h : w.before args s = true) (t : ∀ w ∈ B, w.before args s = true) : ∀ w' ∈ w :: B, w'.before args s = true := fun w' h' => (List.mem_cons.mp h').elim (fun e => by rw [e]; exact h) (t w')
theorem vx_n {args : Array Value} {s : State} : ∀ w ∈ ([] : List Cond), w.before args s = true := fun _ h => nomatch h
theorem vx_own {args : Array Value} {s : State} {L : List Cond} (h1 : ∀ w ∈ L.filter vx_no, w.before args s = true)
    (hU : (Cond.isRef (.static Bundle.tN "UNASSIGNED_STACK" Bundle.steD)).before args s = true) (hN : (Cond.isRef (.static Bundle.tN "SUPPRESSED_SENTINEL" Bundle.listD)).before args s = true)
    (lU : (Cond.laysStatic Bundle.tN "UNASSIGNED_STACK" Bundle.steD).before args s = true) (lN : (Cond.laysStatic Bundle.tN "SUPPRESSED_SENTINEL" Bundle.listD).before args s = true) : ∀ w ∈ L, w.before args s = true := by
  intro w hw
  by_cases e1 : w = .isRef (.static Bundle.tN "UNASSIGNED_STACK" Bundle.steD)
  · rw [e1]; exact hU
  · by_cases e2 : w = .isRef (.static Bundle.tN "SUPPRESSED_SENTINEL" Bundle.listD)
    · rw [e2]; exact hN
    · by_cases e3 : w = .laysStatic Bundle.tN "UNASSIGNED_STACK" Bundle.steD
      · rw [e3]; exact lU
      · by_cases e4 : w = .laysStatic Bundle.tN "SUPPRESSED_SENTINEL" Bundle.listD
        · rw [e4]; exact lN
        · exact h1 w (List.mem_filter.mpr ⟨hw, by unfold vx_no; rw [decide_eq_true e1, decide_eq_true e2, decide_eq_true e3, decide_eq_true e4]; rfl⟩)
/-- where a static field lies, its class's statics cell in H -/
def vx_L (C n d : String) (A : Nat → Prop) (U : State) (H : Heap) : Prop := ∃ (c : ClassId) (k : Class) (i : Nat) (f : Field) (a : Nat) (cell : Cell), U.vm.findClass C = some c ∧ U.fieldFound? C n d = some (c, k, i, f) ∧ f.isStatic = true ∧ k.statics = some a ∧ H[a]? = some cell ∧ cell.vm.isStatics = true ∧ cell.cls = c ∧ f.slot < cell.slots.size ∧ k.staticTypes[f.slot]? = some f.type ∧ ¬ A a
theorem vx_L.moved {C n d : String} {A : Nat → Prop} {u U : State} {H : Heap} (hvm : u.vm.Alike U.vm) (h : vx_L C n d A u H) : vx_L C n d A U H := by
  obtain ⟨c, k, i, f, a, cell, h1, h2, h3, h4, h5, h6, h7, h8, h9, h10⟩ := h
  obtain ⟨k', hi', he⟩ := State.fieldFound?_setVm hvm h2
  exact ⟨c, k', i, f, a, cell, by rw [hvm.findClass]; exact h1, hi', h3, by rw [he]; exact h4, h5, h6, h7, h8, by rw [he]; exact h9, h10⟩
theorem vx_L.kept {C n d : String} {A : Nat → Prop} {U : State} {H H1 : Heap} (h : vx_L C n d A U H) (hq : ∀ a : Nat, a < H.size → ¬ A a → H1[a]? = H[a]?) : vx_L C n d A U H1 := by
  obtain ⟨c, k, i, f, a, cell, h1, h2, h3, h4, h5, h6, h7, h8, h9, h10⟩ := h
  exact ⟨c, k, i, f, a, cell, h1, h2, h3, h4, by rw [hq a (Array.getElem?_eq_some_iff.mp h5).1 h10]; exact h5, h6, h7, h8, h9, h10⟩
theorem vx_L.narrow {C n d : String} {A B : Nat → Prop} {U : State} {H : Heap} (h : vx_L C n d A U H) (hAB : ∀ q, B q → A q) : vx_L C n d B U H := by
  obtain ⟨c, k, i, f, a, cell, h1, h2, h3, h4, h5, h6, h7, h8, h9, h10⟩ := h
  exact ⟨c, k, i, f, a, cell, h1, h2, h3, h4, h5, h6, h7, h8, h9, fun z => h10 (hAB _ z)⟩
theorem vx_L.word {C n d : String} {A : Nat → Prop} {s : State} {args : Array Value} (h : vx_L C n d A s s.heap) : (Cond.laysStatic C n d).before args s = true := by
  obtain ⟨c, k, i, f, a, cell, h1, h2, h3, h4, h5, h6, h7, h8, h9, -⟩ := h
  show (Cond.laysStatic C n d).holds args s none s [] = true
  exact Cond.laysStatic_of h1 h2 h3 h4 h5 h6 h7 h8 h9
/-- .. and what it holds: null or some reference -/
def vx_Zq (C n d : String) (A : Nat → Prop) (U : State) (H : Heap) : Prop := va_Zq C n d A U H ∧ vx_L C n d A U H
theorem vx_Zq.moved {C n d : String} {A : Nat → Prop} {u U : State} {H : Heap} (hvm : u.vm.Alike U.vm) (h : vx_Zq C n d A u H) : vx_Zq C n d A U H := ⟨va_Zq.moved hvm h.1, vx_L.moved hvm h.2⟩
theorem vx_Zq.kept {C n d : String} {A : Nat → Prop} {U : State} {H H1 : Heap} (h : vx_Zq C n d A U H) (hq : ∀ a : Nat, a < H.size → ¬ A a → H1[a]? = H[a]?) : vx_Zq C n d A U H1 := ⟨va_Zq.kept h.1 hq, vx_L.kept h.2 hq⟩
theorem vx_Zq.narrow {C n d : String} {A B : Nat → Prop} {U : State} {H : Heap} (h : vx_Zq C n d A U H) (hAB : ∀ q, B q → A q) : vx_Zq C n d B U H := ⟨va_Zq.narrow h.1 hAB, vx_L.narrow h.2 hAB⟩
theorem vx_Zqof {args : Array Value} {s : State} {C n d : String} {A : Nat → Prop} (hl : (Cond.laysStatic C n d).before args s = true) (hini : (Cond.initialized C).before args s = true) (h : (Cond.isRef (.static C n d)).before args s = true) (hA : ∀ a : Nat, a < s.heap.size → ¬ A a) : vx_Zq C n d A s s.heap := by
  refine ⟨va_Zqof hl hini h hA, ?_⟩
  obtain ⟨c, k, i, f, a, cell, h1, h2, h3, h4, h5, h6, h7, h8, h9⟩ := Cond.laysStatic_spec hl
  exact ⟨c, k, i, f, a, cell, h1, h2, h3, h4, h5, h6, h7, h8, h9, hA a (Array.getElem?_eq_some_iff.mp h5).1⟩
theorem vx_isRef {C n d : String} {v : Value} {A : Nat → Prop} {s : State} {args : Array Value} (h : va_Z C n d v A s s.heap) (hv : v.isRef = true) : (Cond.isRef (.static C n d)).before args s = true := by
  obtain ⟨cf, kf, fi, f, a, cell, h1, h2, h3, h4, h5, h6, h7, -⟩ := h
  have he : (Term.static C n d).eval args s none [] s = some v := by
    simp [Term.eval, State.fieldNamed?, h1, h2, h4, h5, h6, h7]
  simp only [Cond.before, Cond.holds, Cond.value, he]
  cases v <;> simp_all [Value.isRef]
theorem vx_isRefq {C n d : String} {A : Nat → Prop} {s : State} {args : Array Value} (h : va_Zq C n d A s s.heap) : (Cond.isRef (.static C n d)).before args s = true := by
  rcases h with h | ⟨t, h⟩
  · exact vx_isRef h rfl
  · exact vx_isRef h rfl
/-- the same frame, seen from here: as if the method were called anew in this heap -/
theorem vx_rebase {T : State} (X : Stand p l e R s m args below meth c T locs cells slots) {R' : Room} (hf : R'.frames ≤ R.frames) (hl : R'.locals ≤ R.locals) (hc : cells + R'.cells ≤ R.cells) (hs : slots + R'.slots ≤ R.slots) :
    Stand p l e R' ((T.setVm s.vm).setFrames (.invoking m args :: below)) m args below meth c T [] 0 0 := by
  have htop : (T.setVm s.vm).topJava?.isSome := X.here.top
  have hF : ((T.setVm s.vm).setFrames (.invoking m args :: below)).frames = .invoking m args :: below := State.frames_setFrames _ (State.cur_lt_of_top htop)
  obtain ⟨g₀, hg0⟩ := Option.isSome_iff_exists.mp htop
  obtain ⟨r, hr⟩ := State.topJava?_eq_some.mp hg0
  have hl9 : e.platform.stackLimits (T.setVm s.vm).me = e.platform.stackLimits s.me := X.limits
  have hb9 : (T.setVm s.vm).me.stackBytes = s.me.stackBytes := X.bytes
  refine ⟨X.admits, X.cas, X.clock, hF, ?_, X.hears, X.method, X.code, X.here, X.tail, X.warmed, ?_, ?_, ?_⟩
  · have h := X.room
    have hU : ((T.setVm s.vm).setFrames (.invoking m args :: below)).localsInUse = s.localsInUse := by
      rw [State.localsInUse_invoking hF (meth := meth) (c := c) X.method X.code, State.localsInUse_invoking X.frames X.method X.code]
    simp only [State.hasRoom, Bool.and_eq_true, decide_eq_true_eq] at h ⊢
    obtain ⟨⟨⟨⟨h1, h2, h3, h4, h5, h6⟩, h7⟩, h8⟩, h9⟩ := h
    rw [X.frames, List.length_cons] at h2 h3
    have q1 := X.heapSize
    have q2 := X.used
    simp only [hF, hU, List.length_cons, State.stackLimits_setFrames, State.stackBytes_setFrames, hl9, hb9]
    refine ⟨⟨⟨⟨by omega, by omega, by omega, by omega, by omega, h6⟩, ?_⟩, ?_⟩, X.book⟩
    · show T.heap.size + R'.cells ≤ e.platform.maxCells
      omega
    · show T.slotsUsed + R'.slots ≤ e.platform.maxSlots
      omega
  · rw [State.stackLimits_setFrames]; rfl
  · rw [State.stackBytes_setFrames]; rfl
  · refine ⟨?_, Nat.le_refl _, Nat.le_refl _, ?_, ?_, fun a c9 h9 => ⟨c9, h9, rfl, rfl, fun _ _ => rfl⟩⟩
    · obtain ⟨t, ht, -⟩ := State.frames_cons hr
      show T.setVm s.vm = { ((T.setVm s.vm).setFrames (.invoking m args :: below)).setFrames (T.setVm s.vm).frames with heap := T.heap, slotsUsed := T.slotsUsed }
      rw [State.setFrames_setFrames, State.setFrames_self ht]
      rfl
    · show T.slotsUsed = T.slotsUsed + ((T.heap.toList.drop T.heap.size).map (·.slots.size)).sum
      rw [List.drop_eq_nil_of_le (Nat.le_of_eq Array.length_toList)]
      rfl
    · show ((T.heap.toList.drop T.heap.size).map (·.slots.size)).sum ≤ 0
      rw [List.drop_eq_nil_of_le (Nat.le_of_eq Array.length_toList)]
      exact Nat.le_refl _
/-- 'throw new E()': new; dup; invokespecial; athrow -/
theorem vx_throw0 {cc : ByteArray} {pc : Nat} (hexec : p.tables.exec = Jvm.exec) (hb : c.code = cc) (hl : l.stackTraces = false) {own cls : String} {names : List String} {ik ic mc ms : Nat} {A : Nat → Prop}
    (hown : s.vm.findClass own = some m.cls) (hcls : Bundle.fit cls = true) (hnames : ∀ n ∈ names, Bundle.fit n = true)
    (hk : (Cond.classLink own ik cls).before args s = true) (hini : (Cond.initialized cls).before args s = true) (hat : ∀ w ∈ vx_at0 own ic cls names, w.before args s = true)
    (hgood : ∀ w ∈ Cond.classLink own ik cls :: Cond.initialized cls :: vx_at0 own ic cls names, vx_ot w = true)
    (hU : vx_Zq Bundle.tN "UNASSIGNED_STACK" Bundle.steD A s s.heap) (hN : vx_Zq Bundle.tN "SUPPRESSED_SENTINEL" Bundle.listD A s s.heap) (hS : va_S A s.heap H locs) (hsize : ls.size = c.maxLocals)
    (d0 : decode cc pc = .ok (.new ik, 3)) (d3 : decode cc (pc + 3) = .ok (.dup, 1)) (d4 : decode cc (pc + 4) = .ok (.invokespecial ic, 3)) (d7 : decode cc (pc + 7) = .ok (.athrow, 1))
    (hout : ∀ x ∈ c.exceptionTable.toList, covers x (pc + 7) = false)
    (hRframes : names.length + 3 < R.frames) (hRlocals : (rest.map fun v => v.category).sum + (13 * (names.length + 1) + 42) ≤ R.locals) (hRcells : cells + 1 ≤ R.cells) (hRslots : slots + 6 ≤ R.slots) (hlocks : meth.locks = false)
    (hx : ∀ t : State, s.vm.Alike t.vm → H.size ≤ t.heap.size → (∀ q : Nat, q < H.size → t.heap[q]? = H[q]?) → XC cls s t)
    (hf : ∀ z ∈ locs, free z.base) (hc : cells + 1 ≤ mc) (hs : slots + 6 ≤ ms) :
    W p l e R s m args below meth c H locs cells slots (vx_MQ below Qc XC args s mc ms free) (F0 m pc ls rest) := by
  intro T hT X
  have htr : e.platform.stackTraces = false := (show e.platform.stackTraces = l.stackTraces by rw [X.admits.platform]).trans hl
  have Y := vx_rebase X (R' := { frames := R.frames, locals := R.locals, cells := 1, slots := 6 }) (Nat.le_refl _) (Nat.le_refl _) hRcells hRslots
  obtain ⟨s', hA⟩ : ∃ z, z = (T.setVm s.vm).setFrames (.invoking m args :: below) := ⟨_, rfl⟩
  rw [← hA] at Y
  have hvm : s'.vm = s.vm := by rw [hA]; rfl
  have hhp : s'.heap = H := by rw [hA]; exact hT
  have hW0 : s.WarmedH s'.vm := by rw [hvm]; exact State.WarmedH.refl s
  have hat' : ∀ w ∈ vx_at0 own ic cls names, w.before args s' = true := fun w hw => vx_ot_at hW0 hvm.symm (hgood w (List.mem_cons_of_mem _ (List.mem_cons_of_mem _ hw))) (hat w hw)
  have hk' : (Cond.classLink own ik cls).before args s' = true := vx_ot_at hW0 hvm.symm (hgood _ List.mem_cons_self) hk
  have hini' : (Cond.initialized cls).before args s' = true := vx_ot_at hW0 hvm.symm (hgood _ (List.mem_cons_of_mem _ List.mem_cons_self)) hini
  have hU' : vx_Zq Bundle.tN "UNASSIGNED_STACK" Bundle.steD A s' s'.heap := by rw [hhp]; exact vx_Zq.moved hW0.alike (hU.kept hS.2.1)
  have hN' : vx_Zq Bundle.tN "SUPPRESSED_SENTINEL" Bundle.listD A s' s'.heap := by rw [hhp]; exact vx_Zq.moved hW0.alike (hN.kept hS.2.1)
  have h : ∀ w ∈ Bundle.ownAtoms0 own ic cls names, w.before args s' = true := vx_own hat' (vx_isRefq hU'.1) (vx_isRefq hN'.1) hU'.2.word hN'.2.word
  have hown' : s'.vm.findClass own = some m.cls := by rw [hvm]; exact hown
  have hins : (Cond.instantiable cls 6).before args s' = true := h _ (by simp [Bundle.ownAtoms0])
  obtain ⟨vm₁, cX, kX, hfX, hkX, -, -, X₁, st1⟩ := Y.newCold hexec (own := own) (C := cls) (index := ik) (n := 6) hown' hk' hins hini'
    (g := F0 m pc ls rest) rfl (by rw [hb]; exact d0) (Nat.le_refl _) (Nat.le_refl _)
  generalize hT1 : (T.setVm vm₁).pushCell { cls := cX, slots := kX.instanceTypes.map defaultValue, vm := .none } = T1 at X₁ st1
  have hcat : (Value.ref T.heap.size).category = 1 := rfl
  have hcellA : T1.heap[T.heap.size]? = some (freshCell cX kX) := by rw [← hT1]; exact State.heap_pushCell_size _ _
  have d3' : decode c.code (pc + 3) = .ok (.dup, 1) := by rw [hb]; exact d3
  obtain ⟨U, hsteps, hrun, hend, hW, hsame, ce, hce, hO⟩ := X₁.ctorThrow0 hexec htr (own := own) (cls := cls) (names := names) (ic := ic) hown' hcls hnames h (fun x hx => nomatch hx) hfX hkX hcellA (by rw [hhp, hT]; exact Nat.le_refl _)
    (g := { method := m, pc := pc + 4, locals := ls, stack := .ref T.heap.size :: .ref T.heap.size :: rest, locked := none }) rfl hsize rfl rfl (rest := rest) rfl
    (by rw [hb]; exact d4) (by rw [hb]; exact d7) hout hRframes (by simp only [List.map_cons, List.sum_cons, hcat]; omega) hlocks
  obtain ⟨f1, f2⟩ := vx_frame hsame
  rw [hhp] at f1 f2
  have hWs : s.WarmedH U.vm := State.WarmedH.trans hW0 hW
  have hcl : s.vm.findClass cls = some ce.cls := by
    have h9 := hO.cls
    rw [hvm] at h9
    exact h9
  have hall : s.sameButNew ({ U with vm := s.vm } : State) locs mc ms := by
    subst hA
    obtain ⟨e1, e2⟩ := hsame
    rw [State.setFrames_setFrames] at e1
    have h2 : (T.setVm s.vm).sameButNew ({ U with vm := s.vm } : State) [] (0 + 1) (0 + 6) := ⟨e1, e2⟩
    have h3 := X.same.trans h2
    rw [List.append_nil] at h3
    exact h3.mono hc hs
  refine ⟨U, ?_, .threw T.heap.size, hrun, hend, Or.inr ⟨T.heap.size, rfl, cls, ce, locs, hx U hWs.alike f1 (fun q hq => f2 q hq (fun z hz => nomatch hz)), hce, hO.vm, hcl, hWs, hall, hf⟩⟩
  refine st1 _ ?_
  show Steps p.tables e below (T1.setTop { method := m, pc := pc + 3, locals := ls, stack := .ref T.heap.size :: rest, locked := none }) _
  jvm_step X₁.here [X₁.here.top, hexec, d3', Value.category]
  exact hsteps
/-- 'throw new E("text")': new; dup; ldc; invokespecial; athrow -/
theorem vx_throwS {cc : ByteArray} {pc : Nat} (hexec : p.tables.exec = Jvm.exec) (hb : c.code = cc) (hl : l.stackTraces = false) {own cls text : String} {names : List String} {ik is ic mc ms sa : Nat} {A : Nat → Prop}
    (hown : s.vm.findClass own = some m.cls) (hcls : Bundle.fit cls = true) (hnames : ∀ n ∈ names, Bundle.fit n = true)
    (hk : (Cond.classLink own ik cls).before args s = true) (hini : (Cond.initialized cls).before args s = true) (hstr : vk_R own is text sa s) (hat : ∀ w ∈ vx_atS own ic cls names, w.before args s = true)
    (hgood : ∀ w ∈ Cond.classLink own ik cls :: Cond.initialized cls :: vx_atS own ic cls names, vx_ot w = true)
    (hU : vx_Zq Bundle.tN "UNASSIGNED_STACK" Bundle.steD A s s.heap) (hN : vx_Zq Bundle.tN "SUPPRESSED_SENTINEL" Bundle.listD A s s.heap) (hS : va_S A s.heap H locs) (hsize : ls.size = c.maxLocals)
    (d0 : decode cc pc = .ok (.new ik, 3)) (d3 : decode cc (pc + 3) = .ok (.dup, 1)) (d4 : decode cc (pc + 4) = .ok (.ldc is, 2)) (d6 : decode cc (pc + 6) = .ok (.invokespecial ic, 3)) (d9 : decode cc (pc + 9) = .ok (.athrow, 1))
    (hout : ∀ x ∈ c.exceptionTable.toList, covers x (pc + 9) = false)
    (hRframes : names.length + 3 < R.frames) (hRlocals : (rest.map fun v => v.category).sum + (13 * (names.length + 1) + 43) ≤ R.locals) (hRcells : cells + 1 ≤ R.cells) (hRslots : slots + 6 ≤ R.slots) (hlocks : meth.locks = false)
    (hx : ∀ t : State, s.vm.Alike t.vm → H.size ≤ t.heap.size → (∀ q : Nat, q < H.size → t.heap[q]? = H[q]?) → XC cls s t)
    (hf : ∀ z ∈ locs, free z.base) (hc : cells + 1 ≤ mc) (hs : slots + 6 ≤ ms) :
    W p l e R s m args below meth c H locs cells slots (vx_MQ below Qc XC args s mc ms free) (F0 m pc ls rest) := by
  intro T hT X
  have htr : e.platform.stackTraces = false := (show e.platform.stackTraces = l.stackTraces by rw [X.admits.platform]).trans hl
  have Y := vx_rebase X (R' := { frames := R.frames, locals := R.locals, cells := 1, slots := 6 }) (Nat.le_refl _) (Nat.le_refl _) hRcells hRslots
  obtain ⟨s', hA⟩ : ∃ z, z = (T.setVm s.vm).setFrames (.invoking m args :: below) := ⟨_, rfl⟩
  rw [← hA] at Y
  have hvm : s'.vm = s.vm := by rw [hA]; rfl
  have hhp : s'.heap = H := by rw [hA]; exact hT
  have hW0 : s.WarmedH s'.vm := by rw [hvm]; exact State.WarmedH.refl s
  have hat' : ∀ w ∈ vx_atS own ic cls names, w.before args s' = true := fun w hw => vx_ot_at hW0 hvm.symm (hgood w (List.mem_cons_of_mem _ (List.mem_cons_of_mem _ hw))) (hat w hw)
  have hk' : (Cond.classLink own ik cls).before args s' = true := vx_ot_at hW0 hvm.symm (hgood _ List.mem_cons_self) hk
  have hini' : (Cond.initialized cls).before args s' = true := vx_ot_at hW0 hvm.symm (hgood _ (List.mem_cons_of_mem _ List.mem_cons_self)) hini
  have hU' : vx_Zq Bundle.tN "UNASSIGNED_STACK" Bundle.steD A s' s'.heap := by rw [hhp]; exact vx_Zq.moved hW0.alike (hU.kept hS.2.1)
  have hN' : vx_Zq Bundle.tN "SUPPRESSED_SENTINEL" Bundle.listD A s' s'.heap := by rw [hhp]; exact vx_Zq.moved hW0.alike (hN.kept hS.2.1)
  have h : ∀ w ∈ Bundle.ownAtoms own ic cls names, w.before args s' = true := vx_own hat' (vx_isRefq hU'.1) (vx_isRefq hN'.1) hU'.2.word hN'.2.word
  have hown' : s'.vm.findClass own = some m.cls := by rw [hvm]; exact hown
  have hins : (Cond.instantiable cls 6).before args s' = true := h _ (by simp [Bundle.ownAtoms])
  obtain ⟨vm₁, cX, kX, hfX, hkX, -, -, X₁, st1⟩ := Y.newCold hexec (own := own) (C := cls) (index := ik) (n := 6) hown' hk' hins hini'
    (g := F0 m pc ls rest) rfl (by rw [hb]; exact d0) (Nat.le_refl _) (Nat.le_refl _)
  generalize hT1 : (T.setVm vm₁).pushCell { cls := cX, slots := kX.instanceTypes.map defaultValue, vm := .none } = T1 at X₁ st1
  have hcat : (Value.ref T.heap.size).category = 1 := rfl
  have hcellA : T1.heap[T.heap.size]? = some (freshCell cX kX) := by rw [← hT1]; exact State.heap_pushCell_size _ _
  have d3' : decode c.code (pc + 3) = .ok (.dup, 1) := by rw [hb]; exact d3
  have d4' : decode c.code (pc + 4) = .ok (.ldc is, 2) := by rw [hb]; exact d4
  have hstr' : vk_R own is text sa s' := vk_R.warm hW0 hstr
  obtain ⟨U, hsteps, hrun, hend, hW, hsame, ce, hce, hO⟩ := X₁.ctorThrowS hexec htr (own := own) (cls := cls) (names := names) (ic := ic) hown' hcls hnames h (fun x hx => nomatch hx) hfX hkX hcellA (by rw [hhp, hT]; exact Nat.le_refl _) (msg := .ref sa) rfl
    (g := { method := m, pc := pc + 6, locals := ls, stack := .ref sa :: .ref T.heap.size :: .ref T.heap.size :: rest, locked := none }) rfl hsize rfl rfl (rest := rest) rfl
    (by rw [hb]; exact d6) (by rw [hb]; exact d9) hout hRframes (by simp only [List.map_cons, List.sum_cons, hcat]; omega) hlocks
  obtain ⟨f1, f2⟩ := vx_frame hsame
  rw [hhp] at f1 f2
  have hWs : s.WarmedH U.vm := State.WarmedH.trans hW0 hW
  have hcl : s.vm.findClass cls = some ce.cls := by
    have h9 := hO.cls
    rw [hvm] at h9
    exact h9
  have hall : s.sameButNew ({ U with vm := s.vm } : State) locs mc ms := by
    subst hA
    obtain ⟨e1, e2⟩ := hsame
    rw [State.setFrames_setFrames] at e1
    have h2 : (T.setVm s.vm).sameButNew ({ U with vm := s.vm } : State) [] (0 + 1) (0 + 6) := ⟨e1, e2⟩
    have h3 := X.same.trans h2
    rw [List.append_nil] at h3
    exact h3.mono hc hs
  refine ⟨U, ?_, .threw T.heap.size, hrun, hend, Or.inr ⟨T.heap.size, rfl, cls, ce, locs, hx U hWs.alike f1 (fun q hq => f2 q hq (fun z hz => nomatch hz)), hce, hO.vm, hcl, hWs, hall, hf⟩⟩
  refine st1 _ ?_
  show Steps p.tables e below (T1.setTop { method := m, pc := pc + 3, locals := ls, stack := .ref T.heap.size :: rest, locked := none }) _
  jvm_step X₁.here [X₁.here.top, hexec, d3', Value.category]
  exact X₁.ldcString hexec (own := own) (text := text) (index := is) (a := sa) hown' hstr'.1 hstr'.2
    (g := { method := m, pc := pc + 4, locals := ls, stack := .ref T.heap.size :: .ref T.heap.size :: rest, locked := none }) rfl d4' _ hsteps
/-- 'throw new E("text")', the text by a wide index -/
theorem vx_throwSW {cc : ByteArray} {pc : Nat} (hexec : p.tables.exec = Jvm.exec) (hb : c.code = cc) (hl : l.stackTraces = false) {own cls text : String} {names : List String} {ik is ic mc ms sa : Nat} {A : Nat → Prop}
    (hown : s.vm.findClass own = some m.cls) (hcls : Bundle.fit cls = true) (hnames : ∀ n ∈ names, Bundle.fit n = true)
    (hk : (Cond.classLink own ik cls).before args s = true) (hini : (Cond.initialized cls).before args s = true) (hstr : vk_R own is text sa s) (hat : ∀ w ∈ vx_atS own ic cls names, w.before args s = true)
    (hgood : ∀ w ∈ Cond.classLink own ik cls :: Cond.initialized cls :: vx_atS own ic cls names, vx_ot w = true)
    (hU : vx_Zq Bundle.tN "UNASSIGNED_STACK" Bundle.steD A s s.heap) (hN : vx_Zq Bundle.tN "SUPPRESSED_SENTINEL" Bundle.listD A s s.heap) (hS : va_S A s.heap H locs) (hsize : ls.size = c.maxLocals)
    (d0 : decode cc pc = .ok (.new ik, 3)) (d3 : decode cc (pc + 3) = .ok (.dup, 1)) (d4 : decode cc (pc + 4) = .ok (.ldc_w is, 3)) (d7 : decode cc (pc + 7) = .ok (.invokespecial ic, 3)) (d10 : decode cc (pc + 10) = .ok (.athrow, 1))
    (hout : ∀ x ∈ c.exceptionTable.toList, covers x (pc + 10) = false)
    (hRframes : names.length + 3 < R.frames) (hRlocals : (rest.map fun v => v.category).sum + (13 * (names.length + 1) + 43) ≤ R.locals) (hRcells : cells + 1 ≤ R.cells) (hRslots : slots + 6 ≤ R.slots) (hlocks : meth.locks = false)
    (hx : ∀ t : State, s.vm.Alike t.vm → H.size ≤ t.heap.size → (∀ q : Nat, q < H.size → t.heap[q]? = H[q]?) → XC cls s t)
    (hf : ∀ z ∈ locs, free z.base) (hc : cells + 1 ≤ mc) (hs : slots + 6 ≤ ms) :
    W p l e R s m args below meth c H locs cells slots (vx_MQ below Qc XC args s mc ms free) (F0 m pc ls rest) := by
  intro T hT X
  have htr : e.platform.stackTraces = false := (show e.platform.stackTraces = l.stackTraces by rw [X.admits.platform]).trans hl
  have Y := vx_rebase X (R' := { frames := R.frames, locals := R.locals, cells := 1, slots := 6 }) (Nat.le_refl _) (Nat.le_refl _) hRcells hRslots
  obtain ⟨s', hA⟩ : ∃ z, z = (T.setVm s.vm).setFrames (.invoking m args :: below) := ⟨_, rfl⟩
  rw [← hA] at Y
  have hvm : s'.vm = s.vm := by rw [hA]; rfl
  have hhp : s'.heap = H := by rw [hA]; exact hT
  have hW0 : s.WarmedH s'.vm := by rw [hvm]; exact State.WarmedH.refl s
  have hat' : ∀ w ∈ vx_atS own ic cls names, w.before args s' = true := fun w hw => vx_ot_at hW0 hvm.symm (hgood w (List.mem_cons_of_mem _ (List.mem_cons_of_mem _ hw))) (hat w hw)
  have hk' : (Cond.classLink own ik cls).before args s' = true := vx_ot_at hW0 hvm.symm (hgood _ List.mem_cons_self) hk
  have hini' : (Cond.initialized cls).before args s' = true := vx_ot_at hW0 hvm.symm (hgood _ (List.mem_cons_of_mem _ List.mem_cons_self)) hini
  have hU' : vx_Zq Bundle.tN "UNASSIGNED_STACK" Bundle.steD A s' s'.heap := by rw [hhp]; exact vx_Zq.moved hW0.alike (hU.kept hS.2.1)
  have hN' : vx_Zq Bundle.tN "SUPPRESSED_SENTINEL" Bundle.listD A s' s'.heap := by rw [hhp]; exact vx_Zq.moved hW0.alike (hN.kept hS.2.1)
  have h : ∀ w ∈ Bundle.ownAtoms own ic cls names, w.before args s' = true := vx_own hat' (vx_isRefq hU'.1) (vx_isRefq hN'.1) hU'.2.word hN'.2.word
  have hown' : s'.vm.findClass own = some m.cls := by rw [hvm]; exact hown
  have hins : (Cond.instantiable cls 6).before args s' = true := h _ (by simp [Bundle.ownAtoms])
  obtain ⟨vm₁, cX, kX, hfX, hkX, -, -, X₁, st1⟩ := Y.newCold hexec (own := own) (C := cls) (index := ik) (n := 6) hown' hk' hins hini'
    (g := F0 m pc ls rest) rfl (by rw [hb]; exact d0) (Nat.le_refl _) (Nat.le_refl _)
  generalize hT1 : (T.setVm vm₁).pushCell { cls := cX, slots := kX.instanceTypes.map defaultValue, vm := .none } = T1 at X₁ st1
  have hcat : (Value.ref T.heap.size).category = 1 := rfl
  have hcellA : T1.heap[T.heap.size]? = some (freshCell cX kX) := by rw [← hT1]; exact State.heap_pushCell_size _ _
  have d3' : decode c.code (pc + 3) = .ok (.dup, 1) := by rw [hb]; exact d3
  have d4' : decode c.code (pc + 4) = .ok (.ldc_w is, 3) := by rw [hb]; exact d4
  have hstr' : vk_R own is text sa s' := vk_R.warm hW0 hstr
  obtain ⟨U, hsteps, hrun, hend, hW, hsame, ce, hce, hO⟩ := X₁.ctorThrowS hexec htr (own := own) (cls := cls) (names := names) (ic := ic) hown' hcls hnames h (fun x hx => nomatch hx) hfX hkX hcellA (by rw [hhp, hT]; exact Nat.le_refl _) (msg := .ref sa) rfl
    (g := { method := m, pc := pc + 7, locals := ls, stack := .ref sa :: .ref T.heap.size :: .ref T.heap.size :: rest, locked := none }) rfl hsize rfl rfl (rest := rest) rfl
    (by rw [hb]; exact d7) (by rw [hb]; exact d10) hout hRframes (by simp only [List.map_cons, List.sum_cons, hcat]; omega) hlocks
  obtain ⟨f1, f2⟩ := vx_frame hsame
  rw [hhp] at f1 f2
  have hWs : s.WarmedH U.vm := State.WarmedH.trans hW0 hW
  have hcl : s.vm.findClass cls = some ce.cls := by
    have h9 := hO.cls
    rw [hvm] at h9
    exact h9
  have hall : s.sameButNew ({ U with vm := s.vm } : State) locs mc ms := by
    subst hA
    obtain ⟨e1, e2⟩ := hsame
    rw [State.setFrames_setFrames] at e1
    have h2 : (T.setVm s.vm).sameButNew ({ U with vm := s.vm } : State) [] (0 + 1) (0 + 6) := ⟨e1, e2⟩
    have h3 := X.same.trans h2
    rw [List.append_nil] at h3
    exact h3.mono hc hs
  refine ⟨U, ?_, .threw T.heap.size, hrun, hend, Or.inr ⟨T.heap.size, rfl, cls, ce, locs, hx U hWs.alike f1 (fun q hq => f2 q hq (fun z hz => nomatch hz)), hce, hO.vm, hcl, hWs, hall, hf⟩⟩
  refine st1 _ ?_
  show Steps p.tables e below (T1.setTop { method := m, pc := pc + 3, locals := ls, stack := .ref T.heap.size :: rest, locked := none }) _
  jvm_step X₁.here [X₁.here.top, hexec, d3', Value.category]
  exact X₁.ldcStringW hexec (own := own) (text := text) (index := is) (a := sa) hown' hstr'.1 hstr'.2
    (g := { method := m, pc := pc + 4, locals := ls, stack := .ref T.heap.size :: .ref T.heap.size :: rest, locked := none }) rfl d4' _ hsteps
end Ends
section Bodies
variable {l : Launch}
theorem vx_ofW {y : MethodName} {ws ws' : List Cond} {rm : Room} {Pc : Array Value → State → Prop} {Qc : Array Value → State → Outcome → State → Prop} {XC : String → State → State → Prop} {mc ms : Nat} {free : Addr → Prop} {cc : ByteArray} {maxL : Nat} {ret : Option FieldType}
    (hy : plainName y.cls = true) (hw : ws = Cond.code y cc maxL ret :: ws')
    (body : ∀ p e s m args below meth c s₁, BodyLoose p l y (headSpec ws rm) cc maxL ret e s m args below meth c s₁ → c.maxLocals = maxL → (∀ x ∈ c.exceptionTable.toList, False) → Pc args s →
      W p l e (headSpec ws rm).room s m args below meth c s.heap [] 0 0 (vx_MQ below Qc XC args s mc ms free) (entryFrame m args maxL)) : vx_Met l y ws rm Pc Qc XC mc ms free := by
  refine MetFree.of_bodyS (code := cc) (maxLocals := maxL) (ret := ret) hy ?_ ?_
  · intro args s m h hn
    obtain ⟨meth, c, h1, h2, h3, h4, h5, h6, -, -⟩ := Cond.code_spec hn (atoms_spec (ws := ws) h _ (by rw [hw]; exact List.mem_cons_self))
    exact ⟨meth, c, h1, h2, h3, h4, h5, h6⟩
  · intro p e s m args below meth c s₁ B hml hP _
    have hh0 : s₁.heap = s.heap := by rw [B.state]; rfl
    have ht : ∀ x ∈ c.exceptionTable.toList, False := by
      obtain ⟨meth9, c9, h1, h2, -, -, -, -, h7, -⟩ := Cond.code_spec B.named (atoms_spec (ws := ws) B.pre _ (by rw [hw]; exact List.mem_cons_self))
      cases Option.some.inj (h1.symm.trans B.method)
      cases Option.some.inj (h2.symm.trans (Stand.of_body B).code)
      intro x hx
      rw [Array.isEmpty_iff.mp h7] at hx
      cases hx
    obtain ⟨t, a1, o, b1, b2, b3⟩ := body p e s m args below meth c s₁ B hml ht hP s₁ hh0 (Stand.of_body B)
    exact ⟨t, o, a1, b1, b2, b3⟩
/-- the table of a body with handlers -/
theorem vx_table {p : Program} {x y : MethodName} {S : Spec} {cc bytes : ByteArray} {maxL maxL' : Nat} {ret ret' : Option FieldType} {e : Env} {s s₁ : State} {m : MethodId} {args : Array Value} {below : List Frame} {meth : Method} {c : Code} {hh : List (Nat × Nat × Nat × Nat)}
    (B : BodyLoose p l y S cc maxL ret e s m args below meth c s₁) (h : (Cond.codeWith y bytes maxL' ret' hh).before args s = true) : c.exceptionTable.toList = tableOf hh := by
  obtain ⟨m9, meth9, c9, hn9, h1, h2, -, -, h6, -⟩ := Cond.codeWith_spec h
  cases Option.some.inj (hn9.symm.trans B.named)
  cases Option.some.inj (h1.symm.trans B.method)
  cases Option.some.inj (h2.symm.trans (Stand.of_body B).code)
  rw [← h6, table_eq]
end Bodies
end VXA
/-! ===== END ===== -/
/-! ===== BEGIN a static call of a method with an exception table ===== -/
section VXS
variable {p : Program} {l : Launch} {e : Env} {R : Room} {s : State} {m : MethodId} {args : Array Value} {below : List Frame} {meth : Method} {c : Code} {T : State} {H : Heap} {locs : List Loc} {cells slots : Nat}
abbrev vx_CSW (R : Room) (s : State) (args : Array Value) (own : String) (index : Nat) (y : MethodName) (bytes : ByteArray) (maxL : Nat) (ret : Option FieldType) (hh : List (Nat × Nat × Nat × Nat)) (ws : List Cond) (rm : Room) (mc ms n : Nat) : Prop :=
  (rm.cells = mc ∧ rm.slots = ms ∧ rm.frames + 1 ≤ R.frames ∧ 8 + (maxL + 11) + rm.locals ≤ R.locals ∧ (∀ w ∈ ws, ∀ (a' : Array Value) (U : State), s.WarmedH U.vm → w.before a' U = true) ∧ Cond.codeWith y bytes maxL ret hh ∈ ws) ∧
  (Cond.codeWith y bytes maxL ret hh).before args s = true ∧ (Cond.initialized y.cls).before args s = true ∧ (y.cls ≠ "java/lang/invoke/MethodHandle" ∧ y.cls ≠ "java/lang/invoke/VarHandle") ∧
  (∀ sig, parseMethodDescriptor y.desc = some sig → n = sig.parameters.length) ∧ (Cond.methodLink own index y).before args s = true ∧ (Cond.static y).before args s = true
theorem vx_cwSW {own : String} {index maxL mc ms : Nat} {y : MethodName} {bytes : ByteArray} {ret : Option FieldType} {hh : List (Nat × Nat × Nat × Nat)} {Ts ws ws' : List Cond} {rm : Room} (n : Nat) (ht : ∀ w ∈ Ts, w.before args s = true) (hT : GoodIn Ts (va_wsS own index y ws)) (hw : ws = Cond.codeWith y bytes maxL ret hh :: ws') (hrc : rm.cells = mc) (hrs : rm.slots = ms)
    (hd : y.cls ≠ "java/lang/invoke/MethodHandle" ∧ y.cls ≠ "java/lang/invoke/VarHandle" ∧ (parseMethodDescriptor y.desc).map (fun d => d.parameters.length) = some n) (hR : rm.frames + 1 ≤ R.frames ∧ 8 + (maxL + 11) + rm.locals ≤ R.locals) :
    vx_CSW R s args own index y bytes maxL ret hh ws rm mc ms n := by
  have ok : ∀ w ∈ va_wsS own index y ws, w.before args s = true := fun w h => ht w (hT w h).1
  have hG : GoodIn Ts ws := fun w h => hT w (by unfold va_wsS; exact List.mem_append_right _ h)
  have hc : Cond.codeWith y bytes maxL ret hh ∈ ws := by rw [hw]; exact List.mem_cons_self
  refine ⟨⟨hrc, hrs, hR.1, hR.2, pay_in ht hG, hc⟩, ht _ (hG _ hc).1, ok _ (by simp [va_wsS]), ⟨hd.1, hd.2.1⟩, fun sig h => ?_, ok _ (by simp [va_wsS]), ok _ (by simp [va_wsS])⟩
  have h2 := hd.2.2
  rw [h] at h2
  exact (Option.some.inj h2).symm
theorem vx_callSW (X : Stand p l e R s m args below meth c T locs cells slots) (hexec : p.tables.exec = Jvm.exec) {own : String} {index : Nat} {y : MethodName} {bytes : ByteArray} {maxL : Nat} {ret : Option FieldType} {hh : List (Nat × Nat × Nat × Nat)}
    (hown : s.vm.findClass own = some m.cls) (hlink : (Cond.methodLink own index y).before args s = true) (hstat : (Cond.static y).before args s = true) (hinit : (Cond.initialized y.cls).before args s = true)
    (hcode : (Cond.codeWith y bytes maxL ret hh).before args s = true) (hy : y.cls ≠ "java/lang/invoke/MethodHandle" ∧ y.cls ≠ "java/lang/invoke/VarHandle")
    {W9 : Nat} {Pre : Pt → Array Value → Prop} {Post : Pt → Array Value → Option Value → Pt → Prop} (hK : Back l R p e below s args y 3 W9 Pre Post)
    {g : JFrame} (hg : g.method = m) (hsize : g.locals.size = c.maxLocals) {argsL rest : List Value} (hlen : ∀ sig, parseMethodDescriptor y.desc = some sig → argsL.length = sig.parameters.length)
    (hstack : g.stack = argsL.reverse ++ rest) (hW : 2 * g.monitorRoom + (rest.map fun v => v.category).sum ≤ W9) (hdg : decode c.code g.pc = .ok (.invokestatic index, 3))
    (hpre : ∀ vm₁, s.WarmedH vm₁ → Pre ⟨T.setVm vm₁, locs, cells, slots⟩ argsL.toArray) :
    ∃ (v : Option Value) (vm₁ : Vm) (B : Pt), s.WarmedH vm₁ ∧ Stand p l e R s m args below meth c B.U B.locs B.cells B.slots ∧ Post ⟨T.setVm vm₁, locs, cells, slots⟩ argsL.toArray v B ∧
      ∀ target, Steps p.tables e below (B.U.setTop { g with pc := g.pc + 3, stack := v.toList ++ rest }) target → Steps p.tables e below (T.setTop g) target := by
  obtain ⟨mk, methM, cM, hnamed, hmethM, -, -, -, -, -, -, hsigM⟩ := Cond.codeWith_spec hcode
  have hstatic : methM.isStatic = true := Cond.static_spec hnamed hmethM hstat
  obtain ⟨kP, hkP, -⟩ := className_of_methodNamed hnamed
  have hinitP : kP.init = .initialized := Cond.initialized_spec (findClass_of_methodNamed hnamed) hkP hinit
  obtain ⟨vm₁, X₁, hstep₁⟩ := X.invokestatic hexec hown hlink hnamed hmethM hstatic hkP hinitP hy (g := g) hg (argsL := argsL) (rest := rest) (hlen _ hsigM) hstack hdg
  obtain ⟨v, B, X', hpost, hsteps⟩ := hK m meth c ⟨T.setVm vm₁, locs, cells, slots⟩ { g with stack := rest } (.invokestatic index) mk argsL.toArray X₁ hg hsize hdg hW (X₁.named hnamed) (hpre vm₁ X₁.warmed)
  exact ⟨v, vm₁, B, X₁.warmed, X', hpost, fun target h => hstep₁ _ fun acts => by rw [doInvoke_state]; exact hsteps.trans h⟩
theorem vx_runSW {y : MethodName} {bytes cc : ByteArray} {maxL nL mc ms n index : Nat} {ret : Option FieldType} {hh : List (Nat × Nat × Nat × Nat)} {ws : List Cond} {rm : Room} {Pc : Array Value → State → Prop} {Qc : Array Value → State → Outcome → State → Prop} {free : Addr → Prop} {Ts : List Cond} {own : String} {As rest : List Value} {g : JFrame}
    (S : CallFix p m c cc nL s args Ts own) (hM : Met l y ws rm Pc Qc mc ms free) (cw : vx_CSW R s args own index y bytes maxL ret hh ws rm mc ms n) (hp : PreS s H Pc As)
    (hg : g.method = m) (hn : As.length = n) (hsize : g.locals.size = nL) (hstack : g.stack = As.reverse ++ rest) (hW : 2 * g.monitorRoom + (rest.map fun v => v.category).sum ≤ 8) (hdg : decode cc g.pc = .ok (.invokestatic index, 3)) (hf : cells + mc ≤ R.cells ∧ slots + ms ≤ R.slots) :
    va_Run p l e R s m args below meth c H locs cells slots mc ms g rest (Qc As.toArray) (free) := by
  obtain ⟨⟨hrc, hrs, hfr, hlo, hws, hcw⟩, hcode, hini, hy, hlen, hl, hstt⟩ := cw
  have hK : Back l R p e below s args y 3 8 (PreOf R mc ms Pc) (PostOf Qc mc ms free) := va_backW (hh := hh) (bytes := bytes) (maxL := maxL) (ret := ret) hM hp.1 hrc hrs hfr hlo hws hcw (fun a' U hW => word_at hW (Or.inl (by first | rfl | simp [Cond.onTables, Cond.keeps, Cond.steady])) hini)
  obtain ⟨hx, hb, hml, ho, -⟩ := S
  intro T hT X
  obtain ⟨v, vm₁, ⟨U', l2, c2, s2⟩, hW₁, X', ⟨g', mk, t, L, e1, e2, hq, h1, hL, h2, h3⟩, st⟩ := vx_callSW X hx (hh := hh) (bytes := bytes) (maxL := maxL) (ret := ret) ho hl hstt hini hcode hy hK hg (hsize.trans hml.symm) (argsL := As) (rest := rest) (fun sig h => hn.trans (hlen sig h)) hstack hW (by rw [hb]; exact hdg)
    (fun vm₁ hW₁ => ⟨hf.1, hf.2, hp.2 (T.setVm vm₁) hT hW₁⟩)
  dsimp only [Pt.U, Pt.locs, Pt.cells, Pt.slots] at X' e1 e2 h1 h2 h3 st
  subst h1; subst h2; subst h3
  exact ⟨v, (T.setVm vm₁).calling g' mk As.toArray, t, U', L, hT, X', hL, e1, e2, hq, st⟩
/-- not caught here, past rows that name other classes: it goes on to the caller -/
theorem vx_outP {p : Program} {l : Launch} {e : Env} {R : Room} {s : State} {m : MethodId} {args : Array Value} {below : List Frame} {meth : Method} {c : Code} {H : Heap} {locs : List Loc} {cells slots : Nat} {free : Addr → Prop} {ls : Array Slot} {rest : List Value} {Qc : Array Value → State → Outcome → State → Prop} {XC : String → State → State → Prop}
    {pc : Nat} {own E : String} {ce : Cell} {q : Addr} {mc ms : Nat} (hown : s.vm.findClass own = some m.cls) (hlocks : meth.locks = false)
    (hpass : ∀ z ∈ c.exceptionTable.toList, covers z pc = false ∨ (z.catchType ≠ 0 ∧ ∃ nm : String, (Cond.classLink own z.catchType nm).before args s = true ∧ va_Nc E nm s)) (hcell : H[q]? = some ce) (hv : ce.vm = .none) (hcl : s.vm.findClass E = some ce.cls)
    (hx : ∀ t : State, t.heap = H → s.vm.Alike t.vm → XC E s t) (hf : ∀ z ∈ locs, free z.base) (hc : cells ≤ mc) (hs : slots ≤ ms) :
    vx_W p l e R s m args below meth c H locs cells slots (vx_MQ below Qc XC args s mc ms free) (F0 m pc ls rest) q := by
  intro T hT X
  have hpl : e.platform.magicAccessors = ({} : Platform).magicAccessors := by rw [X.admits.platform]
  obtain ⟨vm', hW', X', st⟩ := X.outThrough hlocks q (g := F0 m pc ls rest) rfl rfl rfl (cell := ce) (by rw [hT]; exact hcell) (by rw [hv]; rfl)
    (by obtain ⟨k9, h9, -⟩ := Vm.findClass_spec hcl; exact ⟨k9, h9⟩) (fun z hz => by
      rcases hpass z hz with h | ⟨hz0, nm, hl1, hn1⟩
      · exact Or.inl h
      · obtain ⟨c6, hc6, hcl6⟩ := Cond.classLink_spec hown hl1 e.platform hpl
        obtain ⟨a8, b8, h1, h2, h3⟩ := hn1
        cases Option.some.inj (h1.symm.trans hcl)
        cases Option.some.inj (h2.symm.trans hc6)
        exact Or.inr ⟨hz0, _, hcl6, h3⟩)
  obtain ⟨g₀, hfr⟩ := X'.frames_eq
  have hcell9 : ((T.setVm vm').setFrames (.throwing q :: below)).heap[q]? = some ce := by
    show T.heap[q]? = some ce
    rw [hT]; exact hcell
  have hend : Ended ((T.setVm vm').setFrames (.throwing q :: below)) below (.threw q) := State.frames_setFrames _ (State.cur_lt_of_frames hfr)
  refine ⟨(T.setVm vm').setFrames (.throwing q :: below), ?_, .threw q, X'.here.running, hend, Or.inr ⟨q, rfl, E, ce, locs, hx _ hT (X'.ends _).1.alike, hcell9, hv, hcl, (X'.ends _).1, (X'.ends _).2.mono hc hs, hf⟩⟩
  rw [X.pushThrowing_eq]
  exact st
/-- a thing of a world lies in the heap -/
theorem vx_lt {D : va_G} {cl : List vw_C} {ws : va_W} {H1 : Heap} (h : va_P D cl ws H1) {k : Nat} {q : Nat × va_E} (hk : ws[k]? = some q) : q.1 < H1.size := (h k q hk).lt
end VXS
/-! ===== END ===== -/
/-! ===== BEGIN methods with a table of their own: called by a name, returning or throwing ===== -/
section VXH
/-! vx_backW, vx_callVX, vx_callSX, vx_callVW, vx_runVW, vx_runVX, vx_runSX, vx_ofWH follow the same proofs as their sisters above (Free/Laws.lean, Shelf42/LK1.lean); vx_outP calls Shelf42/NT130.lean (outThrough). -/
section
variable {l : Launch} {R : Room} {p : Program} {e : Env} {below : List Frame} {s : State} {sargs : Array Value} {y : MethodName} {len W9 : Nat}
theorem vx_backW {ws : List Cond} {rm : Room} {Pc : Array Value → State → Prop} {Qc : Array Value → State → Outcome → State → Prop} {XC : String → State → State → Prop} {mc ms : Nat} {free : Addr → Prop} {bytes : ByteArray} {maxL : Nat} {ret : Option FieldType} {hh : List (Nat × Nat × Nat × Nat)}
    (hM : vx_Met l y ws rm Pc Qc XC mc ms free) (hblind : FrameBlind Pc) (hrc : rm.cells = mc) (hrs : rm.slots = ms)
    (hframes : rm.frames + 1 ≤ R.frames) (hlocals : W9 + (maxL + 11) + rm.locals ≤ R.locals)
    (hws : ∀ w ∈ ws, ∀ a' U, s.WarmedH U.vm → w.before a' U = true) (hcode : Cond.codeWith y bytes maxL ret hh ∈ ws) (hinit : ∀ a' U, s.WarmedH U.vm → (Cond.initialized y.cls).before a' U = true) :
    vx_Back l R p e below s sargs y len W9 (PreOf R mc ms Pc) (PostOf Qc mc ms free) (vx_Post XC mc ms free) := by
  intro m meth c A g ig mk a X hg hsize hdg hW hn hp
  have h1 : (headSpec ws rm).pre.before a A.U = true := atoms_intro fun w hw => hws w hw _ _ X.warmed
  have h2 : (Cond.codeWith y bytes maxL ret hh).before a A.U = true := hws _ hcode _ _ X.warmed
  have h3 : (Cond.initialized y.cls).before a A.U = true := hinit _ _ X.warmed
  have h4 : A.cells + (headSpec ws rm).room.cells ≤ R.cells := by rw [show (headSpec ws rm).room.cells = mc from hrc]; exact hp.1
  have h5 : A.slots + (headSpec ws rm).room.slots ≤ R.slots := by rw [show (headSpec ws rm).room.slots = ms from hrs]; exact hp.2.1
  have hPc : Pc a (A.U.calling g mk a) := hblind _ _ _ _ hp.2.2
  obtain ⟨U, Ls, c0, s0⟩ := A
  dsimp only [Pt.U, Pt.locs, Pt.cells, Pt.slots] at h1 h2 h3 h4 h5 X hn hPc ⊢
  obtain ⟨m9, methY, cY, hn9, hmY, hcY, -, hlY, -⟩ := Cond.codeWith_spec h2
  cases Option.some.inj (hn9.symm.trans hn)
  obtain ⟨kY, hkY, -⟩ := className_of_methodNamed hn
  have hinitY : kY.init = .initialized := Cond.initialized_spec (findClass_of_methodNamed hn) hkY h3
  have h : At U g.method c below := by rw [hg]; exact X.here
  have hlocals9 : W9 + (maxL + 11) + (headSpec ws rm).room.locals ≤ R.locals := hlocals
  have happ : (headSpec ws rm).appliesLoose y e.platform (U.calling g mk a) = true :=
    Spec.appliesLoose_calling (g := g) h hdg hn hkY hinitY
      (X.room_calling (g := g) (R' := (headSpec ws rm).room) hsize hmY hcY hframes (by rw [hlY]; omega) h4 h5) h1
  obtain ⟨mid, hmid⟩ := h.above
  have hfr : (U.setTop g).frames = (.java g :: mid) ++ below := by rw [State.frames_setTop' g h.top, hmid]; rfl
  obtain ⟨o, s₂, hsteps, -, hend, hq⟩ := Steps.callFree hM p X.admits X.cas X.clock (acts := []) hfr happ hPc trivial
  have hq' : vx_Q Qc XC mc ms free a (U.calling g mk a) o s₂ := hq
  rw [State.frames_setTop' g h.top] at hend
  obtain ⟨g₀, hg0⟩ := Option.isSome_iff_exists.mp h.top
  obtain ⟨r, hr⟩ := State.topJava?_eq_some.mp hg0
  have hr' : (({ U with heap := s₂.heap, slotsUsed := s₂.slotsUsed } : State).setVm s₂.vm).frames = .java g₀ :: r := hr
  rcases hq' with ⟨hqc, L, hfe, hL⟩ | ⟨q, rfl, E, ce, L, hx, hce, hcv, hcl, hW₂, hsm, hL⟩
  · obtain ⟨⟨v, rfl⟩, hW₂, e2, q2, q3, q4, q5, q6⟩ := id hfe
    have e3 : s₂ = ({ (U.calling g mk a).setFrames s₂.frames with heap := s₂.heap, slotsUsed := s₂.slotsUsed } : State).setVm s₂.vm := by
      have : s₂ = ({ s₂ with vm := (U.calling g mk a).vm } : State).setVm s₂.vm := rfl
      rw [e2] at this
      exact this
    obtain ⟨c₂, i₂, len₂, hc₂, hd₂, hf₂⟩ := hend
    have hW' : U.WarmedH s₂.vm := hW₂
    have hcc : c₂ = c := by
      have h1 : s₂.code? g.method = U.code? g.method := by
        rw [State.code?_eq, State.code?_eq, hW'.alike.method?]
      exact Option.some.inj (hc₂.symm.trans (h1.trans h.code))
    subst hcc
    have hlen : len₂ = len := by rw [hdg] at hd₂; cases hd₂; rfl
    subst hlen
    have hs₂ : s₂ = (({ U with heap := s₂.heap, slotsUsed := s₂.slotsUsed } : State).setVm s₂.vm).setTop { g with pc := g.pc + len₂, stack := v.toList ++ g.stack } := by
      refine e3.trans ?_
      rw [hf₂, State.calling_eq h.top, State.setFrames_setFrames, State.setTop_of_frames _ hr', hr]
      rfl
    have hsame : U.sameButNew ({ U with heap := s₂.heap, slotsUsed := s₂.slotsUsed } : State) L mc ms := by
      refine ⟨?_, q2, q3, q4, q5, q6⟩
      obtain ⟨t, ht, -⟩ := State.frames_cons hr
      show ({ U with heap := s₂.heap, slotsUsed := s₂.slotsUsed } : State) = { U.setFrames U.frames with heap := s₂.heap, slotsUsed := s₂.slotsUsed }
      rw [State.setFrames_self ht]
    subst hg
    refine Or.inl ⟨v, ⟨(({ U with heap := s₂.heap, slotsUsed := s₂.slotsUsed } : State).setVm s₂.vm), Ls ++ L, c0 + mc, s0 + ms⟩,
      ⟨X.admits, X.cas, X.clock, X.frames, X.room, X.hears, X.method, X.code, (X.here.setHeapUsed s₂.heap s₂.slotsUsed).setVm hW'.alike, X.tail, State.WarmedH.trans X.warmed hW', X.limits, X.bytes, X.same.trans (hsame.setVm s.vm)⟩,
      ⟨g, mk, s₂, L, rfl, rfl, hqc, rfl, hL, rfl, rfl⟩, ?_⟩
    show Steps p.tables e below _ ((({ U with heap := s₂.heap, slotsUsed := s₂.slotsUsed } : State).setVm s₂.vm).setTop { g with pc := g.pc + len₂, stack := v.toList ++ g.stack })
    rw [← hs₂]
    exact hsteps
  · obtain ⟨e2, q2, q3, q4, q5, q6⟩ := id hsm
    have e3 : s₂ = ({ (U.calling g mk a).setFrames s₂.frames with heap := s₂.heap, slotsUsed := s₂.slotsUsed } : State).setVm s₂.vm := by
      have : s₂ = ({ s₂ with vm := (U.calling g mk a).vm } : State).setVm s₂.vm := rfl
      rw [e2] at this
      exact this
    have hf₂ : s₂.frames = .throwing q :: .java g :: U.frames.tail := hend
    have hW' : U.WarmedH s₂.vm := hW₂
    have hs₂ : s₂ = ((({ U with heap := s₂.heap, slotsUsed := s₂.slotsUsed } : State).setVm s₂.vm).setTop g).pushFrame (.throwing q) := by
      refine e3.trans ?_
      rw [hf₂, State.calling_eq h.top, State.setFrames_setFrames, State.pushFrame, State.frames_setTop _ hr', State.setTop_of_frames _ hr', State.setFrames_setFrames, hr]
      rfl
    have hsame : U.sameButNew ({ U with heap := s₂.heap, slotsUsed := s₂.slotsUsed } : State) L mc ms := by
      refine ⟨?_, q2, q3, q4, q5, q6⟩
      obtain ⟨t, ht, -⟩ := State.frames_cons hr
      show ({ U with heap := s₂.heap, slotsUsed := s₂.slotsUsed } : State) = { U.setFrames U.frames with heap := s₂.heap, slotsUsed := s₂.slotsUsed }
      rw [State.setFrames_self ht]
    subst hg
    refine Or.inr ⟨q, ⟨(({ U with heap := s₂.heap, slotsUsed := s₂.slotsUsed } : State).setVm s₂.vm), Ls ++ L, c0 + mc, s0 + ms⟩,
      ⟨X.admits, X.cas, X.clock, X.frames, X.room, X.hears, X.method, X.code, (X.here.setHeapUsed s₂.heap s₂.slotsUsed).setVm hW'.alike, X.tail, State.WarmedH.trans X.warmed hW', X.limits, X.bytes, X.same.trans (hsame.setVm s.vm)⟩,
      ⟨g, mk, s₂, L, E, ce, rfl, rfl, hx, hce, hcv, hcl, rfl, hL, rfl, rfl⟩, ?_⟩
    show Steps p.tables e below _ (((({ U with heap := s₂.heap, slotsUsed := s₂.slotsUsed } : State).setVm s₂.vm).setTop g).pushFrame (.throwing q))
    rw [← hs₂]
    exact hsteps
end
variable {p : Program} {l : Launch} {e : Env} {R : Room} {s : State} {m : MethodId} {args : Array Value} {below : List Frame} {meth : Method} {c : Code} {T : State} {H : Heap} {locs : List Loc} {cells slots : Nat}
theorem vx_callVX (X : Stand p l e R s m args below meth c T locs cells slots) (hexec : p.tables.exec = Jvm.exec) {own C : String} {index : Nat} {y : MethodName} {bytes : ByteArray} {maxL : Nat} {ret : Option FieldType} {hh : List (Nat × Nat × Nat × Nat)}
    (hown : s.vm.findClass own = some m.cls) (hlink : (Cond.methodLink own index y).before args s = true) (hinst : (Cond.instanceMethod y).before args s = true) (hsel : (Cond.selects C y y).before args s = true)
    (hcode : (Cond.codeWith y bytes maxL ret hh).before args s = true) (hy : y.cls ≠ "java/lang/invoke/MethodHandle" ∧ y.cls ≠ "java/lang/invoke/VarHandle")
    {W9 : Nat} {Pre : Pt → Array Value → Prop} {Post : Pt → Array Value → Option Value → Pt → Prop} {PostX : Pt → Array Value → Addr → Pt → Prop} (hK : vx_Back l R p e below s args y 3 W9 Pre Post PostX)
    {b : Addr} {cellB : Cell} (hcell : T.heap[b]? = some cellB) (hobj : cellB.vm.isStatics = false) (hcls : s.vm.findClass C = some cellB.cls)
    {g : JFrame} (hg : g.method = m) (hsize : g.locals.size = c.maxLocals) {argsL rest : List Value} (hlen : ∀ sig, parseMethodDescriptor y.desc = some sig → argsL.length = sig.parameters.length)
    (hstack : g.stack = argsL.reverse ++ .ref b :: rest) (hW : 2 * g.monitorRoom + (rest.map fun v => v.category).sum ≤ W9) (hdg : decode c.code g.pc = .ok (.invokevirtual index, 3))
    (hpre : ∀ vm₁, s.WarmedH vm₁ → Pre ⟨T.setVm vm₁, locs, cells, slots⟩ (Value.ref b :: argsL).toArray) :
    (∃ (v : Option Value) (vm₁ : Vm) (B : Pt), s.WarmedH vm₁ ∧ Stand p l e R s m args below meth c B.U B.locs B.cells B.slots ∧ Post ⟨T.setVm vm₁, locs, cells, slots⟩ (Value.ref b :: argsL).toArray v B ∧
      ∀ target, Steps p.tables e below (B.U.setTop { g with pc := g.pc + 3, stack := v.toList ++ rest }) target → Steps p.tables e below (T.setTop g) target) ∨
    (∃ (q : Addr) (vm₁ : Vm) (B : Pt), s.WarmedH vm₁ ∧ Stand p l e R s m args below meth c B.U B.locs B.cells B.slots ∧ PostX ⟨T.setVm vm₁, locs, cells, slots⟩ (Value.ref b :: argsL).toArray q B ∧
      Steps p.tables e below (T.setTop g) ((B.U.setTop { g with stack := rest }).pushFrame (.throwing q))) := by
  obtain ⟨mk, methM, hnamed, hmethM, hstM, habM⟩ := Cond.instanceMethod_spec hinst
  obtain ⟨m8, methM', cM, hn8, hmethM', -, -, -, -, -, -, hsigM⟩ := Cond.codeWith_spec hcode
  cases Option.some.inj (hn8.symm.trans hnamed)
  cases hmethM.symm.trans hmethM'
  obtain ⟨c2, r2, m2, q1, q2, q3, q4, kP, hkP, hkPi⟩ := Cond.selects_spec hsel
  cases hcls.symm.trans q1
  cases (State.methodFound?_of_named hnamed hy).symm.trans q2
  cases hnamed.symm.trans q3
  have hselP : selectMethod e.platform s.vm cellB.cls mk = .method mk := by rw [Launch.admits_selectMethod X.admits]; exact q4
  obtain ⟨vm₁, X₁, hstep₁⟩ := X.invokevirtual hexec hown hlink hnamed hmethM hstM hkP hkPi hy (a := b) (cell := cellB) hcell
    (fun z h => by rw [h] at hobj; cases hobj) hselP hmethM habM hkP hkPi (g := g) hg (argsL := argsL) (rest := rest) (hlen _ hsigM) hstack hdg
  rcases hK m meth c ⟨T.setVm vm₁, locs, cells, slots⟩ { g with stack := rest } (.invokevirtual index) mk (Value.ref b :: argsL).toArray X₁ hg hsize hdg hW (X₁.named hnamed) (hpre vm₁ X₁.warmed) with ⟨v, B, X', hpost, hsteps⟩ | ⟨q, B, X', hpost, hsteps⟩
  · exact Or.inl ⟨v, vm₁, B, X₁.warmed, X', hpost, fun target h => hstep₁ _ fun acts => by rw [doInvoke_state]; exact hsteps.trans h⟩
  · exact Or.inr ⟨q, vm₁, B, X₁.warmed, X', hpost, hstep₁ _ fun acts => by rw [doInvoke_state]; exact hsteps⟩
theorem vx_callSX (X : Stand p l e R s m args below meth c T locs cells slots) (hexec : p.tables.exec = Jvm.exec) {own : String} {index : Nat} {y : MethodName} {bytes : ByteArray} {maxL : Nat} {ret : Option FieldType} {hh : List (Nat × Nat × Nat × Nat)}
    (hown : s.vm.findClass own = some m.cls) (hlink : (Cond.methodLink own index y).before args s = true) (hstat : (Cond.static y).before args s = true) (hinit : (Cond.initialized y.cls).before args s = true)
    (hcode : (Cond.codeWith y bytes maxL ret hh).before args s = true) (hy : y.cls ≠ "java/lang/invoke/MethodHandle" ∧ y.cls ≠ "java/lang/invoke/VarHandle")
    {W9 : Nat} {Pre : Pt → Array Value → Prop} {Post : Pt → Array Value → Option Value → Pt → Prop} {PostX : Pt → Array Value → Addr → Pt → Prop} (hK : vx_Back l R p e below s args y 3 W9 Pre Post PostX)
    {g : JFrame} (hg : g.method = m) (hsize : g.locals.size = c.maxLocals) {argsL rest : List Value} (hlen : ∀ sig, parseMethodDescriptor y.desc = some sig → argsL.length = sig.parameters.length)
    (hstack : g.stack = argsL.reverse ++ rest) (hW : 2 * g.monitorRoom + (rest.map fun v => v.category).sum ≤ W9) (hdg : decode c.code g.pc = .ok (.invokestatic index, 3))
    (hpre : ∀ vm₁, s.WarmedH vm₁ → Pre ⟨T.setVm vm₁, locs, cells, slots⟩ argsL.toArray) :
    (∃ (v : Option Value) (vm₁ : Vm) (B : Pt), s.WarmedH vm₁ ∧ Stand p l e R s m args below meth c B.U B.locs B.cells B.slots ∧ Post ⟨T.setVm vm₁, locs, cells, slots⟩ argsL.toArray v B ∧
      ∀ target, Steps p.tables e below (B.U.setTop { g with pc := g.pc + 3, stack := v.toList ++ rest }) target → Steps p.tables e below (T.setTop g) target) ∨
    (∃ (q : Addr) (vm₁ : Vm) (B : Pt), s.WarmedH vm₁ ∧ Stand p l e R s m args below meth c B.U B.locs B.cells B.slots ∧ PostX ⟨T.setVm vm₁, locs, cells, slots⟩ argsL.toArray q B ∧
      Steps p.tables e below (T.setTop g) ((B.U.setTop { g with stack := rest }).pushFrame (.throwing q))) := by
  obtain ⟨mk, methM, cM, hnamed, hmethM, -, -, -, -, -, -, hsigM⟩ := Cond.codeWith_spec hcode
  have hstatic : methM.isStatic = true := Cond.static_spec hnamed hmethM hstat
  obtain ⟨kP, hkP, -⟩ := className_of_methodNamed hnamed
  have hinitP : kP.init = .initialized := Cond.initialized_spec (findClass_of_methodNamed hnamed) hkP hinit
  obtain ⟨vm₁, X₁, hstep₁⟩ := X.invokestatic hexec hown hlink hnamed hmethM hstatic hkP hinitP hy (g := g) hg (argsL := argsL) (rest := rest) (hlen _ hsigM) hstack hdg
  rcases hK m meth c ⟨T.setVm vm₁, locs, cells, slots⟩ { g with stack := rest } (.invokestatic index) mk argsL.toArray X₁ hg hsize hdg hW (X₁.named hnamed) (hpre vm₁ X₁.warmed) with ⟨v, B, X', hpost, hsteps⟩ | ⟨q, B, X', hpost, hsteps⟩
  · exact Or.inl ⟨v, vm₁, B, X₁.warmed, X', hpost, fun target h => hstep₁ _ fun acts => by rw [doInvoke_state]; exact hsteps.trans h⟩
  · exact Or.inr ⟨q, vm₁, B, X₁.warmed, X', hpost, hstep₁ _ fun acts => by rw [doInvoke_state]; exact hsteps⟩
theorem vx_callVW (X : Stand p l e R s m args below meth c T locs cells slots) (hexec : p.tables.exec = Jvm.exec) {own C : String} {index : Nat} {y : MethodName} {bytes : ByteArray} {maxL : Nat} {ret : Option FieldType} {hh : List (Nat × Nat × Nat × Nat)}
    (hown : s.vm.findClass own = some m.cls) (hlink : (Cond.methodLink own index y).before args s = true) (hinst : (Cond.instanceMethod y).before args s = true) (hsel : (Cond.selects C y y).before args s = true)
    (hcode : (Cond.codeWith y bytes maxL ret hh).before args s = true) (hy : y.cls ≠ "java/lang/invoke/MethodHandle" ∧ y.cls ≠ "java/lang/invoke/VarHandle")
    {W9 : Nat} {Pre : Pt → Array Value → Prop} {Post : Pt → Array Value → Option Value → Pt → Prop} (hK : Back l R p e below s args y 3 W9 Pre Post)
    {b : Addr} {cellB : Cell} (hcell : T.heap[b]? = some cellB) (hobj : cellB.vm.isStatics = false) (hcls : s.vm.findClass C = some cellB.cls)
    {g : JFrame} (hg : g.method = m) (hsize : g.locals.size = c.maxLocals) {argsL rest : List Value} (hlen : ∀ sig, parseMethodDescriptor y.desc = some sig → argsL.length = sig.parameters.length)
    (hstack : g.stack = argsL.reverse ++ .ref b :: rest) (hW : 2 * g.monitorRoom + (rest.map fun v => v.category).sum ≤ W9) (hdg : decode c.code g.pc = .ok (.invokevirtual index, 3))
    (hpre : ∀ vm₁, s.WarmedH vm₁ → Pre ⟨T.setVm vm₁, locs, cells, slots⟩ (Value.ref b :: argsL).toArray) :
    ∃ (v : Option Value) (vm₁ : Vm) (B : Pt), s.WarmedH vm₁ ∧ Stand p l e R s m args below meth c B.U B.locs B.cells B.slots ∧ Post ⟨T.setVm vm₁, locs, cells, slots⟩ (Value.ref b :: argsL).toArray v B ∧
      ∀ target, Steps p.tables e below (B.U.setTop { g with pc := g.pc + 3, stack := v.toList ++ rest }) target → Steps p.tables e below (T.setTop g) target := by
  obtain ⟨mk, methM, hnamed, hmethM, hstM, habM⟩ := Cond.instanceMethod_spec hinst
  obtain ⟨m8, methM', cM, hn8, hmethM', -, -, -, -, -, -, hsigM⟩ := Cond.codeWith_spec hcode
  cases Option.some.inj (hn8.symm.trans hnamed)
  cases hmethM.symm.trans hmethM'
  obtain ⟨c2, r2, m2, q1, q2, q3, q4, kP, hkP, hkPi⟩ := Cond.selects_spec hsel
  cases hcls.symm.trans q1
  cases (State.methodFound?_of_named hnamed hy).symm.trans q2
  cases hnamed.symm.trans q3
  have hselP : selectMethod e.platform s.vm cellB.cls mk = .method mk := by rw [Launch.admits_selectMethod X.admits]; exact q4
  obtain ⟨vm₁, X₁, hstep₁⟩ := X.invokevirtual hexec hown hlink hnamed hmethM hstM hkP hkPi hy (a := b) (cell := cellB) hcell
    (fun z h => by rw [h] at hobj; cases hobj) hselP hmethM habM hkP hkPi (g := g) hg (argsL := argsL) (rest := rest) (hlen _ hsigM) hstack hdg
  obtain ⟨v, B, X', hpost, hsteps⟩ := hK m meth c ⟨T.setVm vm₁, locs, cells, slots⟩ { g with stack := rest } (.invokevirtual index) mk (Value.ref b :: argsL).toArray X₁ hg hsize hdg hW (X₁.named hnamed) (hpre vm₁ X₁.warmed)
  exact ⟨v, vm₁, B, X₁.warmed, X', hpost, fun target h => hstep₁ _ fun acts => by rw [doInvoke_state]; exact hsteps.trans h⟩
abbrev vx_CVW (R : Room) (s : State) (args : Array Value) (own C : String) (index : Nat) (y : MethodName) (bytes : ByteArray) (maxL : Nat) (ret : Option FieldType) (hh : List (Nat × Nat × Nat × Nat)) (ws : List Cond) (rm : Room) (mc ms n : Nat) : Prop :=
  (rm.cells = mc ∧ rm.slots = ms ∧ rm.frames + 1 ≤ R.frames ∧ 8 + (maxL + 11) + rm.locals ≤ R.locals ∧ (∀ w ∈ ws, ∀ (a' : Array Value) (U : State), s.WarmedH U.vm → w.before a' U = true) ∧ Cond.codeWith y bytes maxL ret hh ∈ ws) ∧
  (Cond.codeWith y bytes maxL ret hh).before args s = true ∧ (Cond.initialized y.cls).before args s = true ∧ (y.cls ≠ "java/lang/invoke/MethodHandle" ∧ y.cls ≠ "java/lang/invoke/VarHandle") ∧
  (∀ sig, parseMethodDescriptor y.desc = some sig → n = sig.parameters.length) ∧ (Cond.methodLink own index y).before args s = true ∧ (Cond.instanceMethod y).before args s = true ∧ (Cond.selects C y y).before args s = true
theorem vx_cwVW {own C : String} {index maxL mc ms : Nat} {y : MethodName} {bytes : ByteArray} {ret : Option FieldType} {hh : List (Nat × Nat × Nat × Nat)} {Ts ws ws' : List Cond} {rm : Room} (n : Nat) (ht : ∀ w ∈ Ts, w.before args s = true) (hT : GoodIn Ts (wsV own index C y ws)) (hw : ws = Cond.codeWith y bytes maxL ret hh :: ws') (hrc : rm.cells = mc) (hrs : rm.slots = ms)
    (hd : y.cls = C ∧ y.cls ≠ "java/lang/invoke/MethodHandle" ∧ y.cls ≠ "java/lang/invoke/VarHandle" ∧ (parseMethodDescriptor y.desc).map (fun d => d.parameters.length) = some n) (hR : rm.frames + 1 ≤ R.frames ∧ 8 + (maxL + 11) + rm.locals ≤ R.locals) :
    vx_CVW R s args own C index y bytes maxL ret hh ws rm mc ms n := by
  obtain ⟨hC, hd⟩ := hd
  subst hC
  have ok : ∀ w ∈ wsV own index y.cls y ws, w.before args s = true := fun w h => ht w (hT w h).1
  have hG : GoodIn Ts ws := fun w h => hT w (by unfold wsV; exact List.mem_append_right _ h)
  have hc : Cond.codeWith y bytes maxL ret hh ∈ ws := by rw [hw]; exact List.mem_cons_self
  refine ⟨⟨hrc, hrs, hR.1, hR.2, pay_in ht hG, hc⟩, ht _ (hG _ hc).1, ok _ (by simp [wsV]), ⟨hd.1, hd.2.1⟩, fun sig h => ?_, ok _ (by simp [wsV]), ok _ (by simp [wsV]), ok _ (by simp [wsV])⟩
  have h2 := hd.2.2
  rw [h] at h2
  exact (Option.some.inj h2).symm
theorem vx_runVW {y : MethodName} {bytes cc : ByteArray} {maxL nL mc ms n index : Nat} {ret : Option FieldType} {hh : List (Nat × Nat × Nat × Nat)} {ws : List Cond} {rm : Room} {Pc : Array Value → State → Prop} {Qc : Array Value → State → Outcome → State → Prop} {free : Addr → Prop} {Ts : List Cond} {own C : String} {b : Addr} {As rest : List Value} {g : JFrame}
    (S : CallFix p m c cc nL s args Ts own) (hM : Met l y ws rm Pc Qc mc ms free) (cw : vx_CVW R s args own C index y bytes maxL ret hh ws rm mc ms n) (hp : PreV s H C b Pc As)
    (hg : g.method = m) (hn : As.length = n) (hsize : g.locals.size = nL) (hstack : g.stack = As.reverse ++ .ref b :: rest) (hW : 2 * g.monitorRoom + (rest.map fun v => v.category).sum ≤ 8) (hdg : decode cc g.pc = .ok (.invokevirtual index, 3)) (hf : cells + mc ≤ R.cells ∧ slots + ms ≤ R.slots) :
    va_Run p l e R s m args below meth c H locs cells slots mc ms g rest (Qc (Value.ref b :: As).toArray) free := by
  obtain ⟨⟨hrc, hrs, hfr, hlo, hws, hcw⟩, hcode, hini, hy, hlen, hl, hin, hse⟩ := cw
  have hK : Back l R p e below s args y 3 8 (PreOf R mc ms Pc) (PostOf Qc mc ms free) := va_backW (hh := hh) (bytes := bytes) (maxL := maxL) (ret := ret) hM hp.1 hrc hrs hfr hlo hws hcw (fun a' U hW => word_at hW (Or.inl (by first | rfl | simp [Cond.onTables, Cond.keeps, Cond.steady])) hini)
  obtain ⟨hx, hb, hml, ho, -⟩ := S
  obtain ⟨-, ⟨cellB, hcB, hoB, hclB⟩, hPc⟩ := hp
  intro T hT X
  obtain ⟨v, vm₁, ⟨U', l2, c2, s2⟩, hW₁, X', ⟨g', mk, t, L, e1, e2, hq, h1, hL, h2, h3⟩, st⟩ := vx_callVW X hx (C := C) (hh := hh) (bytes := bytes) (maxL := maxL) (ret := ret) ho hl hin hse hcode hy hK (by rw [hT]; exact hcB) hoB hclB hg (hsize.trans hml.symm) (argsL := As) (rest := rest) (fun sig h => hn.trans (hlen sig h)) hstack hW (by rw [hb]; exact hdg)
    (fun vm₁ hW₁ => ⟨hf.1, hf.2, hPc (T.setVm vm₁) hT hW₁⟩)
  dsimp only [Pt.U, Pt.locs, Pt.cells, Pt.slots] at X' e1 e2 h1 h2 h3 st
  subst h1; subst h2; subst h3
  exact ⟨v, (T.setVm vm₁).calling g' mk (Value.ref b :: As).toArray, t, U', L, hT, X', hL, e1, e2, hq, st⟩
section
variable {y : MethodName} {bytes cc : ByteArray} {maxL nL mc ms n index : Nat} {ret : Option FieldType} {ws : List Cond} {rm : Room} {Pc : Array Value → State → Prop} {Qc : Array Value → State → Outcome → State → Prop} {XC : String → State → State → Prop} {free : Addr → Prop} {Ts : List Cond} {own C : String} {b : Addr} {As rest : List Value} {g : JFrame}
theorem vx_runVX {hh : List (Nat × Nat × Nat × Nat)} (S : CallFix p m c cc nL s args Ts own) (hM : vx_Met l y ws rm Pc Qc XC mc ms free) (cw : vx_CVW R s args own C index y bytes maxL ret hh ws rm mc ms n) (hp : PreV s H C b Pc As)
    (hg : g.method = m) (hn : As.length = n) (hsize : g.locals.size = nL) (hstack : g.stack = As.reverse ++ .ref b :: rest) (hW : 2 * g.monitorRoom + (rest.map fun v => v.category).sum ≤ 8) (hdg : decode cc g.pc = .ok (.invokevirtual index, 3)) (hf : cells + mc ≤ R.cells ∧ slots + ms ≤ R.slots) :
    vx_Run p l e R s m args below meth c H locs cells slots mc ms g rest (Qc (Value.ref b :: As).toArray) XC free := by
  obtain ⟨⟨hrc, hrs, hfr, hlo, hws, hcw⟩, hcode, hini, hy, hlen, hl, hin, hse⟩ := cw
  have hK : vx_Back l R p e below s args y 3 8 (PreOf R mc ms Pc) (PostOf Qc mc ms free) (vx_Post XC mc ms free) := vx_backW (hh := hh) (bytes := bytes) (maxL := maxL) (ret := ret) hM hp.1 hrc hrs hfr hlo hws hcw (fun a' U hW => word_at hW (Or.inl (by first | rfl | simp [Cond.onTables, Cond.keeps, Cond.steady])) hini)
  obtain ⟨hx, hb, hml, ho, -⟩ := S
  obtain ⟨-, ⟨cellB, hcB, hoB, hclB⟩, hPc⟩ := hp
  intro T hT X
  rcases vx_callVX X hx (C := C) (hh := hh) (bytes := bytes) (maxL := maxL) (ret := ret) ho hl hin hse hcode hy hK (by rw [hT]; exact hcB) hoB hclB hg (hsize.trans hml.symm) (argsL := As) (rest := rest) (fun sig h => hn.trans (hlen sig h)) hstack hW (by rw [hb]; exact hdg)
    (fun vm₁ hW₁ => ⟨hf.1, hf.2, hPc (T.setVm vm₁) hT hW₁⟩) with ⟨v, vm₁, ⟨U', l2, c2, s2⟩, hW₁, X', ⟨g', mk, t, L, e1, e2, hq, h1, hL, h2, h3⟩, st⟩ | ⟨q, vm₁, ⟨U', l2, c2, s2⟩, hW₁, X', ⟨g', mk, t, L, E, ce, e1, e2, hq, hce, hcv, hcl, h1, hL, h2, h3⟩, st⟩
  · dsimp only [Pt.U, Pt.locs, Pt.cells, Pt.slots] at X' e1 e2 h1 h2 h3 st
    subst h1; subst h2; subst h3
    exact Or.inl ⟨v, (T.setVm vm₁).calling g' mk (Value.ref b :: As).toArray, t, U', L, hT, X', hL, e1, e2, hq, st⟩
  · dsimp only [Pt.U, Pt.locs, Pt.cells, Pt.slots] at X' e1 e2 h1 h2 h3 st hcl
    subst h1; subst h2; subst h3
    exact Or.inr ⟨q, (T.setVm vm₁).calling g' mk (Value.ref b :: As).toArray, t, U', L, E, ce, hT, X', hL, e1, e2, hq, hce, hcv, vx_cls hW₁ hcl, st⟩
theorem vx_runSX {hh : List (Nat × Nat × Nat × Nat)} (S : CallFix p m c cc nL s args Ts own) (hM : vx_Met l y ws rm Pc Qc XC mc ms free) (cw : vx_CSW R s args own index y bytes maxL ret hh ws rm mc ms n) (hp : PreS s H Pc As)
    (hg : g.method = m) (hn : As.length = n) (hsize : g.locals.size = nL) (hstack : g.stack = As.reverse ++ rest) (hW : 2 * g.monitorRoom + (rest.map fun v => v.category).sum ≤ 8) (hdg : decode cc g.pc = .ok (.invokestatic index, 3)) (hf : cells + mc ≤ R.cells ∧ slots + ms ≤ R.slots) :
    vx_Run p l e R s m args below meth c H locs cells slots mc ms g rest (Qc As.toArray) XC free := by
  obtain ⟨⟨hrc, hrs, hfr, hlo, hws, hcw⟩, hcode, hini, hy, hlen, hl, hstt⟩ := cw
  have hK : vx_Back l R p e below s args y 3 8 (PreOf R mc ms Pc) (PostOf Qc mc ms free) (vx_Post XC mc ms free) := vx_backW (hh := hh) (bytes := bytes) (maxL := maxL) (ret := ret) hM hp.1 hrc hrs hfr hlo hws hcw (fun a' U hW => word_at hW (Or.inl (by first | rfl | simp [Cond.onTables, Cond.keeps, Cond.steady])) hini)
  obtain ⟨hx, hb, hml, ho, -⟩ := S
  intro T hT X
  rcases vx_callSX X hx (hh := hh) (bytes := bytes) (maxL := maxL) (ret := ret) ho hl hstt hini hcode hy hK hg (hsize.trans hml.symm) (argsL := As) (rest := rest) (fun sig h => hn.trans (hlen sig h)) hstack hW (by rw [hb]; exact hdg)
    (fun vm₁ hW₁ => ⟨hf.1, hf.2, hp.2 (T.setVm vm₁) hT hW₁⟩) with ⟨v, vm₁, ⟨U', l2, c2, s2⟩, hW₁, X', ⟨g', mk, t, L, e1, e2, hq, h1, hL, h2, h3⟩, st⟩ | ⟨q, vm₁, ⟨U', l2, c2, s2⟩, hW₁, X', ⟨g', mk, t, L, E, ce, e1, e2, hq, hce, hcv, hcl, h1, hL, h2, h3⟩, st⟩
  · dsimp only [Pt.U, Pt.locs, Pt.cells, Pt.slots] at X' e1 e2 h1 h2 h3 st
    subst h1; subst h2; subst h3
    exact Or.inl ⟨v, (T.setVm vm₁).calling g' mk As.toArray, t, U', L, hT, X', hL, e1, e2, hq, st⟩
  · dsimp only [Pt.U, Pt.locs, Pt.cells, Pt.slots] at X' e1 e2 h1 h2 h3 st hcl
    subst h1; subst h2; subst h3
    exact Or.inr ⟨q, (T.setVm vm₁).calling g' mk As.toArray, t, U', L, E, ce, hT, X', hL, e1, e2, hq, hce, hcv, vx_cls hW₁ hcl, st⟩
end
end VXH
theorem vx_ofWH {l : Launch} {y : MethodName} {ws ws' : List Cond} {rm : Room} {Pc : Array Value → State → Prop} {Qc : Array Value → State → Outcome → State → Prop} {XC : String → State → State → Prop} {mc ms : Nat} {free : Addr → Prop} {cc : ByteArray} {maxL : Nat} {ret : Option FieldType} {hh : List (Nat × Nat × Nat × Nat)}
    (hy : plainName y.cls = true) (hw : ws = Cond.codeWith y cc maxL ret hh :: ws')
    (body : ∀ p e s m args below meth c s₁, BodyLoose p l y (headSpec ws rm) cc maxL ret e s m args below meth c s₁ → c.maxLocals = maxL → Pc args s →
      W p l e (headSpec ws rm).room s m args below meth c s.heap [] 0 0 (vx_MQ below Qc XC args s mc ms free) (entryFrame m args maxL)) : vx_Met l y ws rm Pc Qc XC mc ms free := by
  refine MetFree.of_bodyS (code := cc) (maxLocals := maxL) (ret := ret) hy ?_ ?_
  · intro args s m h hn
    obtain ⟨m9, meth, c, hn9, h1, h2, h3, h4, -, h5, h6, -⟩ := Cond.codeWith_spec (atoms_spec (ws := ws) h _ (by rw [hw]; exact List.mem_cons_self))
    cases hn.symm.trans hn9
    exact ⟨meth, c, h1, h2, h3, h4, h5, h6⟩
  · intro p e s m args below meth c s₁ B hml hP _
    have hh0 : s₁.heap = s.heap := by rw [B.state]; rfl
    obtain ⟨t, a1, o, b1, b2, b3⟩ := body p e s m args below meth c s₁ B hml hP s₁ hh0 (Stand.of_body B)
    exact ⟨t, o, a1, b1, b2, b3⟩
/-! ===== END ===== -/
end
