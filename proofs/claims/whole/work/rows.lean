section
-- ===== PART A: goes FIRST, ahead of the names: the tables' words, and 'selects' of the private methods out of them =====
/-- a private method of a class that the tables say can be made, by its rows of tables_1 -/
def lw_okq (q : MethodName × Nat) : Prop := (q.1.cls ≠ "java/lang/invoke/MethodHandle" ∧ q.1.cls ≠ "java/lang/invoke/VarHandle") ∧ Cond.instantiable q.1.cls q.2 ∈ tables_1 ∧ Cond.privateMethod q.1 ∈ tables_1 ∧ Cond.instanceMethod q.1 ∈ tables_1
theorem lw_p0 : lw_okq (⟨"LysimeterField", "forecastHolds", "(I)Z"⟩, 7) := ⟨⟨by decide +kernel, by decide +kernel⟩, List.mem_of_getElem? (i := 43) (by decide +kernel), List.mem_of_getElem? (i := 185) (by decide +kernel), List.mem_of_getElem? (i := 186) (by decide +kernel)⟩
theorem lw_p1 : lw_okq (⟨"LysimeterField", "columnAt", "(I)LLysimeterField$Column;"⟩, 7) := ⟨⟨by decide +kernel, by decide +kernel⟩, List.mem_of_getElem? (i := 43) (by decide +kernel), List.mem_of_getElem? (i := 189) (by decide +kernel), List.mem_of_getElem? (i := 190) (by decide +kernel)⟩
theorem lw_p2 : lw_okq (⟨"java/lang/Throwable", "fillInStackTrace", "(I)Ljava/lang/Throwable;"⟩, 6) := ⟨⟨by decide +kernel, by decide +kernel⟩, List.mem_of_getElem? (i := 235) (by decide +kernel), List.mem_of_getElem? (i := 233) (by decide +kernel), List.mem_of_getElem? (i := 234) (by decide +kernel)⟩
theorem lw_p3 : lw_okq (⟨"LysimeterField", "foresee", "(III)J"⟩, 7) := ⟨⟨by decide +kernel, by decide +kernel⟩, List.mem_of_getElem? (i := 43) (by decide +kernel), List.mem_of_getElem? (i := 265) (by decide +kernel), List.mem_of_getElem? (i := 266) (by decide +kernel)⟩
theorem lw_p4 : lw_okq (⟨"LysimeterField", "thinkOf", "(II)LLysimeterField$Column;"⟩, 7) := ⟨⟨by decide +kernel, by decide +kernel⟩, List.mem_of_getElem? (i := 43) (by decide +kernel), List.mem_of_getElem? (i := 269) (by decide +kernel), List.mem_of_getElem? (i := 270) (by decide +kernel)⟩
theorem lw_p5 : lw_okq (⟨"LysimeterField", "thoughtAt", "(I)LLysimeterField$Column;"⟩, 7) := ⟨⟨by decide +kernel, by decide +kernel⟩, List.mem_of_getElem? (i := 43) (by decide +kernel), List.mem_of_getElem? (i := 273) (by decide +kernel), List.mem_of_getElem? (i := 274) (by decide +kernel)⟩
theorem lw_p6 : lw_okq (⟨"LysimeterField$Column", "letFrostMove", "(I)V"⟩, 13) := ⟨⟨by decide +kernel, by decide +kernel⟩, List.mem_of_getElem? (i := 291) (by decide +kernel), List.mem_of_getElem? (i := 289) (by decide +kernel), List.mem_of_getElem? (i := 290) (by decide +kernel)⟩
theorem lw_p7 : lw_okq (⟨"LysimeterField$Column", "uppermost", "(Z)LLysimeterField$Layer;"⟩, 13) := ⟨⟨by decide +kernel, by decide +kernel⟩, List.mem_of_getElem? (i := 291) (by decide +kernel), List.mem_of_getElem? (i := 294) (by decide +kernel), List.mem_of_getElem? (i := 295) (by decide +kernel)⟩
theorem lw_p8 : lw_okq (⟨"LysimeterField$Column", "letWaterCome", "(I)J"⟩, 13) := ⟨⟨by decide +kernel, by decide +kernel⟩, List.mem_of_getElem? (i := 291) (by decide +kernel), List.mem_of_getElem? (i := 309) (by decide +kernel), List.mem_of_getElem? (i := 310) (by decide +kernel)⟩
theorem lw_p9 : lw_okq (⟨"LysimeterField$Column", "takeArrivals", "(I)J"⟩, 13) := ⟨⟨by decide +kernel, by decide +kernel⟩, List.mem_of_getElem? (i := 291) (by decide +kernel), List.mem_of_getElem? (i := 321) (by decide +kernel), List.mem_of_getElem? (i := 322) (by decide +kernel)⟩
theorem lw_p10 : lw_okq (⟨"LysimeterField$Column", "takeWatering", "(LLysimeterField$Layer;)I"⟩, 13) := ⟨⟨by decide +kernel, by decide +kernel⟩, List.mem_of_getElem? (i := 291) (by decide +kernel), List.mem_of_getElem? (i := 325) (by decide +kernel), List.mem_of_getElem? (i := 326) (by decide +kernel)⟩
theorem lw_p11 : lw_okq (⟨"LysimeterField$Column", "fillCrack", "(LLysimeterField$Layer;J)I"⟩, 13) := ⟨⟨by decide +kernel, by decide +kernel⟩, List.mem_of_getElem? (i := 291) (by decide +kernel), List.mem_of_getElem? (i := 329) (by decide +kernel), List.mem_of_getElem? (i := 330) (by decide +kernel)⟩
theorem lw_p12 : lw_okq (⟨"LysimeterField$Column", "crackEnd", "(LLysimeterField$Layer;)LLysimeterField$Layer;"⟩, 13) := ⟨⟨by decide +kernel, by decide +kernel⟩, List.mem_of_getElem? (i := 291) (by decide +kernel), List.mem_of_getElem? (i := 333) (by decide +kernel), List.mem_of_getElem? (i := 334) (by decide +kernel)⟩
theorem lw_p13 : lw_okq (⟨"LysimeterField$Column", "letWaterSink", "()V"⟩, 13) := ⟨⟨by decide +kernel, by decide +kernel⟩, List.mem_of_getElem? (i := 291) (by decide +kernel), List.mem_of_getElem? (i := 356) (by decide +kernel), List.mem_of_getElem? (i := 357) (by decide +kernel)⟩
theorem lw_p14 : lw_okq (⟨"LysimeterField$Column", "letDrink", "(LLysimeterField$Plant;)V"⟩, 13) := ⟨⟨by decide +kernel, by decide +kernel⟩, List.mem_of_getElem? (i := 291) (by decide +kernel), List.mem_of_getElem? (i := 374) (by decide +kernel), List.mem_of_getElem? (i := 375) (by decide +kernel)⟩
theorem lw_p15 : lw_okq (⟨"LysimeterField$Column", "wettest", "(I)LLysimeterField$Layer;"⟩, 13) := ⟨⟨by decide +kernel, by decide +kernel⟩, List.mem_of_getElem? (i := 291) (by decide +kernel), List.mem_of_getElem? (i := 382) (by decide +kernel), List.mem_of_getElem? (i := 383) (by decide +kernel)⟩
def lw_privs_1 : List (MethodName × Nat) := [(⟨"LysimeterField", "forecastHolds", "(I)Z"⟩, 7), (⟨"LysimeterField", "columnAt", "(I)LLysimeterField$Column;"⟩, 7), (⟨"java/lang/Throwable", "fillInStackTrace", "(I)Ljava/lang/Throwable;"⟩, 6), (⟨"LysimeterField", "foresee", "(III)J"⟩, 7), (⟨"LysimeterField", "thinkOf", "(II)LLysimeterField$Column;"⟩, 7), (⟨"LysimeterField", "thoughtAt", "(I)LLysimeterField$Column;"⟩, 7), (⟨"LysimeterField$Column", "letFrostMove", "(I)V"⟩, 13), (⟨"LysimeterField$Column", "uppermost", "(Z)LLysimeterField$Layer;"⟩, 13), (⟨"LysimeterField$Column", "letWaterCome", "(I)J"⟩, 13), (⟨"LysimeterField$Column", "takeArrivals", "(I)J"⟩, 13), (⟨"LysimeterField$Column", "takeWatering", "(LLysimeterField$Layer;)I"⟩, 13), (⟨"LysimeterField$Column", "fillCrack", "(LLysimeterField$Layer;J)I"⟩, 13), (⟨"LysimeterField$Column", "crackEnd", "(LLysimeterField$Layer;)LLysimeterField$Layer;"⟩, 13), (⟨"LysimeterField$Column", "letWaterSink", "()V"⟩, 13), (⟨"LysimeterField$Column", "letDrink", "(LLysimeterField$Plant;)V"⟩, 13), (⟨"LysimeterField$Column", "wettest", "(I)LLysimeterField$Layer;"⟩, 13)]
theorem lw_r1 : ∀ q ∈ lw_privs_1, lw_okq q := List.forall_mem_cons.mpr ⟨lw_p0, List.forall_mem_cons.mpr ⟨lw_p1, List.forall_mem_cons.mpr ⟨lw_p2, List.forall_mem_cons.mpr ⟨lw_p3, List.forall_mem_cons.mpr ⟨lw_p4, List.forall_mem_cons.mpr ⟨lw_p5, List.forall_mem_cons.mpr ⟨lw_p6, List.forall_mem_cons.mpr ⟨lw_p7, List.forall_mem_cons.mpr ⟨lw_p8, List.forall_mem_cons.mpr ⟨lw_p9, List.forall_mem_cons.mpr ⟨lw_p10, List.forall_mem_cons.mpr ⟨lw_p11, List.forall_mem_cons.mpr ⟨lw_p12, List.forall_mem_cons.mpr ⟨lw_p13, List.forall_mem_cons.mpr ⟨lw_p14, List.forall_mem_cons.mpr ⟨lw_p15, fun _ h => absurd h List.not_mem_nil⟩⟩⟩⟩⟩⟩⟩⟩⟩⟩⟩⟩⟩⟩⟩⟩
theorem lw_p16 : lw_okq (⟨"LysimeterField$Column", "letWaterDry", "(I)V"⟩, 13) := ⟨⟨by decide +kernel, by decide +kernel⟩, List.mem_of_getElem? (i := 291) (by decide +kernel), List.mem_of_getElem? (i := 386) (by decide +kernel), List.mem_of_getElem? (i := 387) (by decide +kernel)⟩
theorem lw_p17 : lw_okq (⟨"LysimeterField$Column", "makeNitrate", "(I)V"⟩, 13) := ⟨⟨by decide +kernel, by decide +kernel⟩, List.mem_of_getElem? (i := 291) (by decide +kernel), List.mem_of_getElem? (i := 394) (by decide +kernel), List.mem_of_getElem? (i := 395) (by decide +kernel)⟩
theorem lw_p18 : lw_okq (⟨"LysimeterField$Column", "eatNitrate", "(I)V"⟩, 13) := ⟨⟨by decide +kernel, by decide +kernel⟩, List.mem_of_getElem? (i := 291) (by decide +kernel), List.mem_of_getElem? (i := 403) (by decide +kernel), List.mem_of_getElem? (i := 404) (by decide +kernel)⟩
theorem lw_p19 : lw_okq (⟨"java/util/ArrayList", "add", "(Ljava/lang/Object;[Ljava/lang/Object;I)V"⟩, 3) := ⟨⟨by decide +kernel, by decide +kernel⟩, List.mem_of_getElem? (i := 51) (by decide +kernel), List.mem_of_getElem? (i := 579) (by decide +kernel), List.mem_of_getElem? (i := 580) (by decide +kernel)⟩
theorem lw_p20 : lw_okq (⟨"java/util/ArrayList", "grow", "()[Ljava/lang/Object;"⟩, 3) := ⟨⟨by decide +kernel, by decide +kernel⟩, List.mem_of_getElem? (i := 51) (by decide +kernel), List.mem_of_getElem? (i := 583) (by decide +kernel), List.mem_of_getElem? (i := 584) (by decide +kernel)⟩
theorem lw_p21 : lw_okq (⟨"java/util/ArrayList", "grow", "(I)[Ljava/lang/Object;"⟩, 3) := ⟨⟨by decide +kernel, by decide +kernel⟩, List.mem_of_getElem? (i := 51) (by decide +kernel), List.mem_of_getElem? (i := 587) (by decide +kernel), List.mem_of_getElem? (i := 588) (by decide +kernel)⟩
theorem lw_p22 : lw_okq (⟨"LysimeterField", "layerAt", "(II)LLysimeterField$Layer;"⟩, 7) := ⟨⟨by decide +kernel, by decide +kernel⟩, List.mem_of_getElem? (i := 43) (by decide +kernel), List.mem_of_getElem? (i := 737) (by decide +kernel), List.mem_of_getElem? (i := 738) (by decide +kernel)⟩
theorem lw_p23 : lw_okq (⟨"LysimeterField", "letAnHourGoBy", "(LLysimeterField$Column;)V"⟩, 7) := ⟨⟨by decide +kernel, by decide +kernel⟩, List.mem_of_getElem? (i := 43) (by decide +kernel), List.mem_of_getElem? (i := 929) (by decide +kernel), List.mem_of_getElem? (i := 930) (by decide +kernel)⟩
theorem lw_p24 : lw_okq (⟨"LysimeterField", "runOn", "(LLysimeterField$Column;J)V"⟩, 7) := ⟨⟨by decide +kernel, by decide +kernel⟩, List.mem_of_getElem? (i := 43) (by decide +kernel), List.mem_of_getElem? (i := 933) (by decide +kernel), List.mem_of_getElem? (i := 934) (by decide +kernel)⟩
theorem lw_p25 : lw_okq (⟨"LysimeterField", "judge", "(LLysimeterField$Column;JJ)V"⟩, 7) := ⟨⟨by decide +kernel, by decide +kernel⟩, List.mem_of_getElem? (i := 43) (by decide +kernel), List.mem_of_getElem? (i := 937) (by decide +kernel), List.mem_of_getElem? (i := 938) (by decide +kernel)⟩
theorem lw_p26 : lw_okq (⟨"LysimeterField", "driftOf", "(LLysimeterField$Column;)I"⟩, 7) := ⟨⟨by decide +kernel, by decide +kernel⟩, List.mem_of_getElem? (i := 43) (by decide +kernel), List.mem_of_getElem? (i := 1026) (by decide +kernel), List.mem_of_getElem? (i := 1027) (by decide +kernel)⟩
theorem lw_p27 : lw_okq (⟨"LysimeterField", "compareForecasts", "(III)J"⟩, 7) := ⟨⟨by decide +kernel, by decide +kernel⟩, List.mem_of_getElem? (i := 43) (by decide +kernel), List.mem_of_getElem? (i := 1066) (by decide +kernel), List.mem_of_getElem? (i := 1067) (by decide +kernel)⟩
theorem lw_p28 : lw_okq (⟨"LysimeterField", "layersInAll", "()I"⟩, 7) := ⟨⟨by decide +kernel, by decide +kernel⟩, List.mem_of_getElem? (i := 43) (by decide +kernel), List.mem_of_getElem? (i := 1108) (by decide +kernel), List.mem_of_getElem? (i := 1109) (by decide +kernel)⟩
theorem lw_p29 : lw_okq (⟨"LysimeterFieldModel", "noColumn", "(I)Z"⟩, 4) := ⟨⟨by decide +kernel, by decide +kernel⟩, List.mem_of_getElem? (i := 1126) (by decide +kernel), List.mem_of_getElem? (i := 1351) (by decide +kernel), List.mem_of_getElem? (i := 1352) (by decide +kernel)⟩
theorem lw_p30 : lw_okq (⟨"LysimeterFieldModel", "isColumn", "(I)Z"⟩, 4) := ⟨⟨by decide +kernel, by decide +kernel⟩, List.mem_of_getElem? (i := 1126) (by decide +kernel), List.mem_of_getElem? (i := 1355) (by decide +kernel), List.mem_of_getElem? (i := 1356) (by decide +kernel)⟩
theorem lw_p31 : lw_okq (⟨"LysimeterFieldModel", "noLayer", "(II)Z"⟩, 4) := ⟨⟨by decide +kernel, by decide +kernel⟩, List.mem_of_getElem? (i := 1126) (by decide +kernel), List.mem_of_getElem? (i := 1420) (by decide +kernel), List.mem_of_getElem? (i := 1421) (by decide +kernel)⟩
def lw_privs_2 : List (MethodName × Nat) := [(⟨"LysimeterField$Column", "letWaterDry", "(I)V"⟩, 13), (⟨"LysimeterField$Column", "makeNitrate", "(I)V"⟩, 13), (⟨"LysimeterField$Column", "eatNitrate", "(I)V"⟩, 13), (⟨"java/util/ArrayList", "add", "(Ljava/lang/Object;[Ljava/lang/Object;I)V"⟩, 3), (⟨"java/util/ArrayList", "grow", "()[Ljava/lang/Object;"⟩, 3), (⟨"java/util/ArrayList", "grow", "(I)[Ljava/lang/Object;"⟩, 3), (⟨"LysimeterField", "layerAt", "(II)LLysimeterField$Layer;"⟩, 7), (⟨"LysimeterField", "letAnHourGoBy", "(LLysimeterField$Column;)V"⟩, 7), (⟨"LysimeterField", "runOn", "(LLysimeterField$Column;J)V"⟩, 7), (⟨"LysimeterField", "judge", "(LLysimeterField$Column;JJ)V"⟩, 7), (⟨"LysimeterField", "driftOf", "(LLysimeterField$Column;)I"⟩, 7), (⟨"LysimeterField", "compareForecasts", "(III)J"⟩, 7), (⟨"LysimeterField", "layersInAll", "()I"⟩, 7), (⟨"LysimeterFieldModel", "noColumn", "(I)Z"⟩, 4), (⟨"LysimeterFieldModel", "isColumn", "(I)Z"⟩, 4), (⟨"LysimeterFieldModel", "noLayer", "(II)Z"⟩, 4)]
theorem lw_r2 : ∀ q ∈ lw_privs_2, lw_okq q := List.forall_mem_cons.mpr ⟨lw_p16, List.forall_mem_cons.mpr ⟨lw_p17, List.forall_mem_cons.mpr ⟨lw_p18, List.forall_mem_cons.mpr ⟨lw_p19, List.forall_mem_cons.mpr ⟨lw_p20, List.forall_mem_cons.mpr ⟨lw_p21, List.forall_mem_cons.mpr ⟨lw_p22, List.forall_mem_cons.mpr ⟨lw_p23, List.forall_mem_cons.mpr ⟨lw_p24, List.forall_mem_cons.mpr ⟨lw_p25, List.forall_mem_cons.mpr ⟨lw_p26, List.forall_mem_cons.mpr ⟨lw_p27, List.forall_mem_cons.mpr ⟨lw_p28, List.forall_mem_cons.mpr ⟨lw_p29, List.forall_mem_cons.mpr ⟨lw_p30, List.forall_mem_cons.mpr ⟨lw_p31, fun _ h => absurd h List.not_mem_nil⟩⟩⟩⟩⟩⟩⟩⟩⟩⟩⟩⟩⟩⟩⟩⟩
theorem lw_p32 : lw_okq (⟨"LysimeterFieldModel", "layerOf", "(II)LLysimeterFieldModel$Layer;"⟩, 4) := ⟨⟨by decide +kernel, by decide +kernel⟩, List.mem_of_getElem? (i := 1126) (by decide +kernel), List.mem_of_getElem? (i := 1424) (by decide +kernel), List.mem_of_getElem? (i := 1425) (by decide +kernel)⟩
theorem lw_p33 : lw_okq (⟨"LysimeterFieldModel$Column", "freezes", "(I)V"⟩, 18) := ⟨⟨by decide +kernel, by decide +kernel⟩, List.mem_of_getElem? (i := 1267) (by decide +kernel), List.mem_of_getElem? (i := 1600) (by decide +kernel), List.mem_of_getElem? (i := 1601) (by decide +kernel)⟩
theorem lw_p34 : lw_okq (⟨"LysimeterFieldModel$Column", "takesIn", "(I)I"⟩, 18) := ⟨⟨by decide +kernel, by decide +kernel⟩, List.mem_of_getElem? (i := 1267) (by decide +kernel), List.mem_of_getElem? (i := 1606) (by decide +kernel), List.mem_of_getElem? (i := 1607) (by decide +kernel)⟩
theorem lw_p35 : lw_okq (⟨"LysimeterFieldModel$Column", "crackEnd", "()LLysimeterFieldModel$Layer;"⟩, 18) := ⟨⟨by decide +kernel, by decide +kernel⟩, List.mem_of_getElem? (i := 1267) (by decide +kernel), List.mem_of_getElem? (i := 1614) (by decide +kernel), List.mem_of_getElem? (i := 1615) (by decide +kernel)⟩
theorem lw_p36 : lw_okq (⟨"LysimeterFieldModel$Column", "sinks", "([J)I"⟩, 18) := ⟨⟨by decide +kernel, by decide +kernel⟩, List.mem_of_getElem? (i := 1267) (by decide +kernel), List.mem_of_getElem? (i := 1627) (by decide +kernel), List.mem_of_getElem? (i := 1628) (by decide +kernel)⟩
theorem lw_p37 : lw_okq (⟨"LysimeterFieldModel$Column", "drinks", "(LLysimeterFieldModel$Plant;)V"⟩, 18) := ⟨⟨by decide +kernel, by decide +kernel⟩, List.mem_of_getElem? (i := 1267) (by decide +kernel), List.mem_of_getElem? (i := 1641) (by decide +kernel), List.mem_of_getElem? (i := 1642) (by decide +kernel)⟩
theorem lw_p38 : lw_okq (⟨"LysimeterFieldModel$Column", "dries", "(I)V"⟩, 18) := ⟨⟨by decide +kernel, by decide +kernel⟩, List.mem_of_getElem? (i := 1267) (by decide +kernel), List.mem_of_getElem? (i := 1649) (by decide +kernel), List.mem_of_getElem? (i := 1650) (by decide +kernel)⟩
theorem lw_p39 : lw_okq (⟨"LysimeterFieldModel$Column", "nitrates", "(I)V"⟩, 18) := ⟨⟨by decide +kernel, by decide +kernel⟩, List.mem_of_getElem? (i := 1267) (by decide +kernel), List.mem_of_getElem? (i := 1653) (by decide +kernel), List.mem_of_getElem? (i := 1654) (by decide +kernel)⟩
theorem lw_p40 : lw_okq (⟨"LysimeterFieldModel", "forecastOf", "(III)J"⟩, 4) := ⟨⟨by decide +kernel, by decide +kernel⟩, List.mem_of_getElem? (i := 1126) (by decide +kernel), List.mem_of_getElem? (i := 1716) (by decide +kernel), List.mem_of_getElem? (i := 1717) (by decide +kernel)⟩
theorem lw_p41 : lw_okq (⟨"LysimeterFieldModel", "noFit", "(III)Z"⟩, 4) := ⟨⟨by decide +kernel, by decide +kernel⟩, List.mem_of_getElem? (i := 1126) (by decide +kernel), List.mem_of_getElem? (i := 1738) (by decide +kernel), List.mem_of_getElem? (i := 1739) (by decide +kernel)⟩
theorem lw_p42 : lw_okq (⟨"LysimeterFieldModel", "fitting", "(III)Ljava/util/ArrayList;"⟩, 4) := ⟨⟨by decide +kernel, by decide +kernel⟩, List.mem_of_getElem? (i := 1126) (by decide +kernel), List.mem_of_getElem? (i := 1743) (by decide +kernel), List.mem_of_getElem? (i := 1744) (by decide +kernel)⟩
def lw_privs_3 : List (MethodName × Nat) := [(⟨"LysimeterFieldModel", "layerOf", "(II)LLysimeterFieldModel$Layer;"⟩, 4), (⟨"LysimeterFieldModel$Column", "freezes", "(I)V"⟩, 18), (⟨"LysimeterFieldModel$Column", "takesIn", "(I)I"⟩, 18), (⟨"LysimeterFieldModel$Column", "crackEnd", "()LLysimeterFieldModel$Layer;"⟩, 18), (⟨"LysimeterFieldModel$Column", "sinks", "([J)I"⟩, 18), (⟨"LysimeterFieldModel$Column", "drinks", "(LLysimeterFieldModel$Plant;)V"⟩, 18), (⟨"LysimeterFieldModel$Column", "dries", "(I)V"⟩, 18), (⟨"LysimeterFieldModel$Column", "nitrates", "(I)V"⟩, 18), (⟨"LysimeterFieldModel", "forecastOf", "(III)J"⟩, 4), (⟨"LysimeterFieldModel", "noFit", "(III)Z"⟩, 4), (⟨"LysimeterFieldModel", "fitting", "(III)Ljava/util/ArrayList;"⟩, 4)]
theorem lw_r3 : ∀ q ∈ lw_privs_3, lw_okq q := List.forall_mem_cons.mpr ⟨lw_p32, List.forall_mem_cons.mpr ⟨lw_p33, List.forall_mem_cons.mpr ⟨lw_p34, List.forall_mem_cons.mpr ⟨lw_p35, List.forall_mem_cons.mpr ⟨lw_p36, List.forall_mem_cons.mpr ⟨lw_p37, List.forall_mem_cons.mpr ⟨lw_p38, List.forall_mem_cons.mpr ⟨lw_p39, List.forall_mem_cons.mpr ⟨lw_p40, List.forall_mem_cons.mpr ⟨lw_p41, List.forall_mem_cons.mpr ⟨lw_p42, fun _ h => absurd h List.not_mem_nil⟩⟩⟩⟩⟩⟩⟩⟩⟩⟩⟩
def lw_privs : List (MethodName × Nat) := lw_privs_1 ++ (lw_privs_2 ++ (lw_privs_3))
def lw_tbl : List Cond := k2_sels lw_privs ++ tables_1
theorem lw_privs_ok : ∀ q ∈ lw_privs, lw_okq q := by
  show ∀ q ∈ lw_privs_1 ++ (lw_privs_2 ++ (lw_privs_3)), lw_okq q
  exact List.forall_mem_append.mpr ⟨lw_r1, List.forall_mem_append.mpr ⟨lw_r2, lw_r3⟩⟩
/-- the streams that the claim lets the run draw from -/
abbrev lw_cs : List Choice := [Jvm.Choice.named "NaN.bits"]
theorem lw_bits : nanBits ∈ lw_cs := by first | decide | exact List.mem_cons_self | simp [lw_cs, nanBits]
end
section
/-! ===== BEGIN words of one list among another's, by their places ===== -/
theorem goodIn_r {big : List Cond} (ws : List Cond) (ps : List Nat) (hp : ws = ps.filterMap (fun i => big[i]?)) (h : ws.all goodWord = true) : GoodIn big ws := by
  intro w hw
  have h1 := List.all_eq_true.mp h w hw
  rw [hp] at hw
  obtain ⟨i, -, hi⟩ := List.mem_filterMap.mp hw
  have hm : w ∈ big := by first | exact List.mem_of_getElem? hi | exact List.getElem?_mem hi
  exact ⟨hm, good_of_word h1⟩
theorem goodIn_app {big a b : List Cond} (ha : GoodIn big a) (hb : GoodIn big b) : GoodIn big (a ++ b) := fun w h => (List.mem_append.mp h).elim (ha w) (hb w)
theorem goodIn_ca {big a b : List Cond} {c : Cond} (ha : GoodIn big (c :: a)) (hb : GoodIn big b) : GoodIn big (c :: (a ++ b)) := fun w h => (List.mem_cons.mp h).elim (fun e => ha w (List.mem_cons.mpr (Or.inl e))) (fun h => (List.mem_append.mp h).elim (fun h => ha w (List.mem_cons.mpr (Or.inr h))) (hb w))
theorem goodIn_sub {big ws : List Cond} (hm : ∀ w ∈ ws, w ∈ big) (h : ws.all goodWord = true) : GoodIn big ws := fun w hw => ⟨hm w hw, good_of_word (List.all_eq_true.mp h w hw)⟩
/-! ===== END ===== -/

/-! ===== BEGIN exceptions that leave a method, and their catching by the caller (launches without stack traces) ===== -/
section VXA
/-! The laws vx_back, vx_callV, vx_callS, vx_callSW, vx_throw0, vx_throwS follow proofs of the library, with one case more: JvmDerived/Free/Laws.lean (Back.of_free), Shelf42/LK1.lean (callV, callS), Shelf/KitTraced.lean (throwNew0V, throwNewS). -/
/-- where a method has thrown q: the class by its name, the cell, what was written, the world -/
def vx_T (XC : String → State → State → Prop) (st : State) (q : Addr) (t : State) (mc ms : Nat) (free : Addr → Prop) : Prop :=
  ∃ (E : String) (ce : Cell) (L : List Loc), XC E st t ∧ t.heap[q]? = some ce ∧ ce.vm = .none ∧ st.vm.findClass E = some ce.cls ∧ st.WarmedH t.vm ∧ st.sameButNew ({ t with vm := st.vm } : State) L mc ms ∧ ∀ z ∈ L, free z.base
def vx_Q (Qc : Array Value → State → Outcome → State → Prop) (XC : String → State → State → Prop) (mc ms : Nat) (free : Addr → Prop) : Array Value → State → Outcome → State → Prop := fun a st o t =>
  (Qc a st o t ∧ ∃ L, FrameEnd st o t L mc ms ∧ ∀ q ∈ L, free q.base) ∨ ∃ q, o = .threw q ∧ vx_T XC st q t mc ms free
/-- a callee that returns or throws -/
def vx_Met (l : Launch) (y : MethodName) (ws : List Cond) (rm : Room) (Pc : Array Value → State → Prop) (Qc : Array Value → State → Outcome → State → Prop) (XC : String → State → State → Prop) (mc ms : Nat) (free : Addr → Prop) : Prop :=
  MetFree l y (headSpec ws rm) Pc (fun _ _ _ _ _ => True) (vx_Q Qc XC mc ms free)
def vx_Post (XC : String → State → State → Prop) (mc ms : Nat) (free : Addr → Prop) : Pt → Array Value → Addr → Pt → Prop := fun A a q B =>
  ∃ (g : JFrame) (mk : MethodId) (t : State) (L : List Loc) (E : String) (ce : Cell), B.U.heap = t.heap ∧ B.U.vm = t.vm ∧ XC E (A.U.calling g mk a) t ∧ t.heap[q]? = some ce ∧ ce.vm = .none ∧ A.U.vm.findClass E = some ce.cls ∧ B.locs = A.locs ++ L ∧ (∀ z ∈ L, free z.base) ∧ B.cells = A.cells + mc ∧ B.slots = A.slots + ms
def vx_Back (l : Launch) (R : Room) (p : Program) (e : Env) (below : List Frame) (s : State) (sargs : Array Value) (y : MethodName) (len W9 : Nat)
    (Pre : Pt → Array Value → Prop) (Post : Pt → Array Value → Option Value → Pt → Prop) (PostX : Pt → Array Value → Addr → Pt → Prop) : Prop :=
  ∀ (m : MethodId) (meth : Method) (c : Code) (A : Pt) (g : JFrame) (ig : Instr) (mk : MethodId) (a : Array Value),
    Stand p l e R s m sargs below meth c A.U A.locs A.cells A.slots → g.method = m → g.locals.size = c.maxLocals → decode c.code g.pc = .ok (ig, len) →
    2 * g.monitorRoom + (g.stack.map fun v => v.category).sum ≤ W9 → A.U.methodNamed? y = some mk → Pre A a →
    (∃ (v : Option Value) (B : Pt), Stand p l e R s m sargs below meth c B.U B.locs B.cells B.slots ∧ Post A a v B ∧
      Steps p.tables e below (doInvoke e (A.U.setTop g) [] mk a).1 (B.U.setTop { g with pc := g.pc + len, stack := v.toList ++ g.stack })) ∨
    (∃ (q : Addr) (B : Pt), Stand p l e R s m sargs below meth c B.U B.locs B.cells B.slots ∧ PostX A a q B ∧
      Steps p.tables e below (doInvoke e (A.U.setTop g) [] mk a).1 ((B.U.setTop g).pushFrame (.throwing q)))
section Payer
variable {l : Launch} {R : Room} {p : Program} {e : Env} {below : List Frame} {s : State} {sargs : Array Value} {y : MethodName} {len W9 : Nat}
theorem vx_back {ws : List Cond} {rm : Room} {Pc : Array Value → State → Prop} {Qc : Array Value → State → Outcome → State → Prop} {XC : String → State → State → Prop} {mc ms : Nat} {free : Addr → Prop} {bytes : ByteArray} {maxL : Nat} {ret : Option FieldType}
    (hM : vx_Met l y ws rm Pc Qc XC mc ms free) (hblind : FrameBlind Pc) (hrc : rm.cells = mc) (hrs : rm.slots = ms)
    (hframes : rm.frames + 1 ≤ R.frames) (hlocals : W9 + (maxL + 11) + rm.locals ≤ R.locals)
    (hws : ∀ w ∈ ws, ∀ a' U, s.WarmedH U.vm → w.before a' U = true) (hcode : Cond.code y bytes maxL ret ∈ ws) (hinit : ∀ a' U, s.WarmedH U.vm → (Cond.initialized y.cls).before a' U = true) :
    vx_Back l R p e below s sargs y len W9 (PreOf R mc ms Pc) (PostOf Qc mc ms free) (vx_Post XC mc ms free) := by
  intro m meth c A g ig mk a X hg hsize hdg hW hn hp
  have h1 : (headSpec ws rm).pre.before a A.U = true := atoms_intro fun w hw => hws w hw _ _ X.warmed
  have h2 : (Cond.code y bytes maxL ret).before a A.U = true := hws _ hcode _ _ X.warmed
  have h3 : (Cond.initialized y.cls).before a A.U = true := hinit _ _ X.warmed
  have h4 : A.cells + (headSpec ws rm).room.cells ≤ R.cells := by rw [show (headSpec ws rm).room.cells = mc from hrc]; exact hp.1
  have h5 : A.slots + (headSpec ws rm).room.slots ≤ R.slots := by rw [show (headSpec ws rm).room.slots = ms from hrs]; exact hp.2.1
  have hPc : Pc a (A.U.calling g mk a) := hblind _ _ _ _ hp.2.2
  obtain ⟨U, Ls, c0, s0⟩ := A
  dsimp only [Pt.U, Pt.locs, Pt.cells, Pt.slots] at h1 h2 h3 h4 h5 X hn hPc ⊢
  obtain ⟨methY, cY, hmY, hcY, -, hlY, -, -, -, -⟩ := Cond.code_spec hn h2
  obtain ⟨kY, hkY, -⟩ := className_of_methodNamed hn
  have hinitY : kY.init = .initialized := Cond.initialized_spec (findClass_of_methodNamed hn) hkY h3
  have h : At U g.method c below := by rw [hg]; exact X.here
  have hlocals9 : W9 + (maxL + 11) + (headSpec ws rm).room.locals ≤ R.locals := hlocals
  have happ : (headSpec ws rm).appliesLoose y e.platform (U.calling g mk a) = true :=
    Spec.appliesLoose_calling (g := g) h hdg hn hkY hinitY
      (X.room_calling (g := g) (R' := (headSpec ws rm).room) hsize hmY hcY hframes (by rw [hlY]; omega) h4 h5) h1
  obtain ⟨mid, hmid⟩ := h.above
  have hfr : (U.setTop g).frames = (.java g :: mid) ++ below := by rw [State.frames_setTop' g h.top, hmid]; rfl
  obtain ⟨o, s₂, hsteps, -, hend, hq⟩ := Steps.callFree hM p X.admits X.cas X.clock (acts := []) hfr happ hPc trivial
  have hq' : vx_Q Qc XC mc ms free a (U.calling g mk a) o s₂ := hq
  rw [State.frames_setTop' g h.top] at hend
  obtain ⟨g₀, hg0⟩ := Option.isSome_iff_exists.mp h.top
  obtain ⟨r, hr⟩ := State.topJava?_eq_some.mp hg0
  have hr' : (({ U with heap := s₂.heap, slotsUsed := s₂.slotsUsed } : State).setVm s₂.vm).frames = .java g₀ :: r := hr
  rcases hq' with ⟨hqc, L, hfe, hL⟩ | ⟨q, rfl, E, ce, L, hx, hce, hcv, hcl, hW₂, hsm, hL⟩
  · obtain ⟨⟨v, rfl⟩, hW₂, e2, q2, q3, q4, q5, q6⟩ := id hfe
    have e3 : s₂ = ({ (U.calling g mk a).setFrames s₂.frames with heap := s₂.heap, slotsUsed := s₂.slotsUsed } : State).setVm s₂.vm := by
      have : s₂ = ({ s₂ with vm := (U.calling g mk a).vm } : State).setVm s₂.vm := rfl
      rw [e2] at this
      exact this
    obtain ⟨c₂, i₂, len₂, hc₂, hd₂, hf₂⟩ := hend
    have hW' : U.WarmedH s₂.vm := hW₂
    have hcc : c₂ = c := by
      have h1 : s₂.code? g.method = U.code? g.method := by
        rw [State.code?_eq, State.code?_eq, hW'.alike.method?]
      exact Option.some.inj (hc₂.symm.trans (h1.trans h.code))
    subst hcc
    have hlen : len₂ = len := by rw [hdg] at hd₂; cases hd₂; rfl
    subst hlen
    have hs₂ : s₂ = (({ U with heap := s₂.heap, slotsUsed := s₂.slotsUsed } : State).setVm s₂.vm).setTop { g with pc := g.pc + len₂, stack := v.toList ++ g.stack } := by
      refine e3.trans ?_
      rw [hf₂, State.calling_eq h.top, State.setFrames_setFrames, State.setTop_of_frames _ hr', hr]
      rfl
    have hsame : U.sameButNew ({ U with heap := s₂.heap, slotsUsed := s₂.slotsUsed } : State) L mc ms := by
      refine ⟨?_, q2, q3, q4, q5, q6⟩
      obtain ⟨t, ht, -⟩ := State.frames_cons hr
      show ({ U with heap := s₂.heap, slotsUsed := s₂.slotsUsed } : State) = { U.setFrames U.frames with heap := s₂.heap, slotsUsed := s₂.slotsUsed }
      rw [State.setFrames_self ht]
    subst hg
    refine Or.inl ⟨v, ⟨(({ U with heap := s₂.heap, slotsUsed := s₂.slotsUsed } : State).setVm s₂.vm), Ls ++ L, c0 + mc, s0 + ms⟩,
      ⟨X.admits, X.cas, X.clock, X.frames, X.room, X.hears, X.method, X.code, (X.here.setHeapUsed s₂.heap s₂.slotsUsed).setVm hW'.alike, X.tail, State.WarmedH.trans X.warmed hW', X.limits, X.bytes, X.same.trans (hsame.setVm s.vm)⟩,
      ⟨g, mk, s₂, L, rfl, rfl, hqc, rfl, hL, rfl, rfl⟩, ?_⟩
    show Steps p.tables e below _ ((({ U with heap := s₂.heap, slotsUsed := s₂.slotsUsed } : State).setVm s₂.vm).setTop { g with pc := g.pc + len₂, stack := v.toList ++ g.stack })
    rw [← hs₂]
    exact hsteps
  · obtain ⟨e2, q2, q3, q4, q5, q6⟩ := id hsm
    have e3 : s₂ = ({ (U.calling g mk a).setFrames s₂.frames with heap := s₂.heap, slotsUsed := s₂.slotsUsed } : State).setVm s₂.vm := by
      have : s₂ = ({ s₂ with vm := (U.calling g mk a).vm } : State).setVm s₂.vm := rfl
      rw [e2] at this
      exact this
    have hf₂ : s₂.frames = .throwing q :: .java g :: U.frames.tail := hend
    have hW' : U.WarmedH s₂.vm := hW₂
    have hs₂ : s₂ = ((({ U with heap := s₂.heap, slotsUsed := s₂.slotsUsed } : State).setVm s₂.vm).setTop g).pushFrame (.throwing q) := by
      refine e3.trans ?_
      rw [hf₂, State.calling_eq h.top, State.setFrames_setFrames, State.pushFrame, State.frames_setTop _ hr', State.setTop_of_frames _ hr', State.setFrames_setFrames, hr]
      rfl
    have hsame : U.sameButNew ({ U with heap := s₂.heap, slotsUsed := s₂.slotsUsed } : State) L mc ms := by
      refine ⟨?_, q2, q3, q4, q5, q6⟩
      obtain ⟨t, ht, -⟩ := State.frames_cons hr
      show ({ U with heap := s₂.heap, slotsUsed := s₂.slotsUsed } : State) = { U.setFrames U.frames with heap := s₂.heap, slotsUsed := s₂.slotsUsed }
      rw [State.setFrames_self ht]
    subst hg
    refine Or.inr ⟨q, ⟨(({ U with heap := s₂.heap, slotsUsed := s₂.slotsUsed } : State).setVm s₂.vm), Ls ++ L, c0 + mc, s0 + ms⟩,
      ⟨X.admits, X.cas, X.clock, X.frames, X.room, X.hears, X.method, X.code, (X.here.setHeapUsed s₂.heap s₂.slotsUsed).setVm hW'.alike, X.tail, State.WarmedH.trans X.warmed hW', X.limits, X.bytes, X.same.trans (hsame.setVm s.vm)⟩,
      ⟨g, mk, s₂, L, E, ce, rfl, rfl, hx, hce, hcv, hcl, rfl, hL, rfl, rfl⟩, ?_⟩
    show Steps p.tables e below _ (((({ U with heap := s₂.heap, slotsUsed := s₂.slotsUsed } : State).setVm s₂.vm).setTop g).pushFrame (.throwing q))
    rw [← hs₂]
    exact hsteps
end Payer
section Calls
variable {p : Program} {l : Launch} {e : Env} {R : Room} {s : State} {m : MethodId} {args : Array Value} {below : List Frame} {meth : Method} {c : Code} {T : State} {locs : List Loc} {cells slots : Nat}
theorem vx_callV (X : Stand p l e R s m args below meth c T locs cells slots) (hexec : p.tables.exec = Jvm.exec) {own C : String} {index : Nat} {y : MethodName} {bytes : ByteArray} {maxL : Nat} {ret : Option FieldType}
    (hown : s.vm.findClass own = some m.cls) (hlink : (Cond.methodLink own index y).before args s = true) (hinst : (Cond.instanceMethod y).before args s = true) (hsel : (Cond.selects C y y).before args s = true)
    (hcode : (Cond.code y bytes maxL ret).before args s = true) (hy : y.cls ≠ "java/lang/invoke/MethodHandle" ∧ y.cls ≠ "java/lang/invoke/VarHandle")
    {W9 : Nat} {Pre : Pt → Array Value → Prop} {Post : Pt → Array Value → Option Value → Pt → Prop} {PostX : Pt → Array Value → Addr → Pt → Prop} (hK : vx_Back l R p e below s args y 3 W9 Pre Post PostX)
    {b : Addr} {cellB : Cell} (hcell : T.heap[b]? = some cellB) (hobj : cellB.vm.isStatics = false) (hcls : s.vm.findClass C = some cellB.cls)
    {g : JFrame} (hg : g.method = m) (hsize : g.locals.size = c.maxLocals) {argsL rest : List Value} (hlen : ∀ sig, parseMethodDescriptor y.desc = some sig → argsL.length = sig.parameters.length)
    (hstack : g.stack = argsL.reverse ++ .ref b :: rest) (hW : 2 * g.monitorRoom + (rest.map fun v => v.category).sum ≤ W9) (hdg : decode c.code g.pc = .ok (.invokevirtual index, 3))
    (hpre : ∀ vm₁, s.WarmedH vm₁ → Pre ⟨T.setVm vm₁, locs, cells, slots⟩ (Value.ref b :: argsL).toArray) :
    (∃ (v : Option Value) (vm₁ : Vm) (B : Pt), s.WarmedH vm₁ ∧ Stand p l e R s m args below meth c B.U B.locs B.cells B.slots ∧ Post ⟨T.setVm vm₁, locs, cells, slots⟩ (Value.ref b :: argsL).toArray v B ∧
      ∀ target, Steps p.tables e below (B.U.setTop { g with pc := g.pc + 3, stack := v.toList ++ rest }) target → Steps p.tables e below (T.setTop g) target) ∨
    (∃ (q : Addr) (vm₁ : Vm) (B : Pt), s.WarmedH vm₁ ∧ Stand p l e R s m args below meth c B.U B.locs B.cells B.slots ∧ PostX ⟨T.setVm vm₁, locs, cells, slots⟩ (Value.ref b :: argsL).toArray q B ∧
      Steps p.tables e below (T.setTop g) ((B.U.setTop { g with stack := rest }).pushFrame (.throwing q))) := by
  obtain ⟨mk, methM, hnamed, hmethM, hstM, habM⟩ := Cond.instanceMethod_spec hinst
  obtain ⟨methM', cM, hmethM', -, -, -, -, -, -, hsigM⟩ := Cond.code_spec hnamed hcode
  cases hmethM.symm.trans hmethM'
  obtain ⟨c2, r2, m2, q1, q2, q3, q4, kP, hkP, hkPi⟩ := Cond.selects_spec hsel
  cases hcls.symm.trans q1
  cases (State.methodFound?_of_named hnamed hy).symm.trans q2
  cases hnamed.symm.trans q3
  have hselP : selectMethod e.platform s.vm cellB.cls mk = .method mk := by rw [Launch.admits_selectMethod X.admits]; exact q4
  obtain ⟨vm₁, X₁, hstep₁⟩ := X.invokevirtual hexec hown hlink hnamed hmethM hstM hkP hkPi hy (a := b) (cell := cellB) hcell
    (fun z h => by rw [h] at hobj; cases hobj) hselP hmethM habM hkP hkPi (g := g) hg (argsL := argsL) (rest := rest) (hlen _ hsigM) hstack hdg
  rcases hK m meth c ⟨T.setVm vm₁, locs, cells, slots⟩ { g with stack := rest } (.invokevirtual index) mk (Value.ref b :: argsL).toArray X₁ hg hsize hdg hW (X₁.named hnamed) (hpre vm₁ X₁.warmed) with ⟨v, B, X', hpost, hsteps⟩ | ⟨q, B, X', hpost, hsteps⟩
  · exact Or.inl ⟨v, vm₁, B, X₁.warmed, X', hpost, fun target h => hstep₁ _ fun acts => by rw [doInvoke_state]; exact hsteps.trans h⟩
  · exact Or.inr ⟨q, vm₁, B, X₁.warmed, X', hpost, hstep₁ _ fun acts => by rw [doInvoke_state]; exact hsteps⟩
theorem vx_callS (X : Stand p l e R s m args below meth c T locs cells slots) (hexec : p.tables.exec = Jvm.exec) {own : String} {index : Nat} {y : MethodName} {bytes : ByteArray} {maxL : Nat} {ret : Option FieldType}
    (hown : s.vm.findClass own = some m.cls) (hlink : (Cond.methodLink own index y).before args s = true) (hstat : (Cond.static y).before args s = true) (hinit : (Cond.initialized y.cls).before args s = true)
    (hcode : (Cond.code y bytes maxL ret).before args s = true) (hy : y.cls ≠ "java/lang/invoke/MethodHandle" ∧ y.cls ≠ "java/lang/invoke/VarHandle")
    {W9 : Nat} {Pre : Pt → Array Value → Prop} {Post : Pt → Array Value → Option Value → Pt → Prop} {PostX : Pt → Array Value → Addr → Pt → Prop} (hK : vx_Back l R p e below s args y 3 W9 Pre Post PostX)
    {g : JFrame} (hg : g.method = m) (hsize : g.locals.size = c.maxLocals) {argsL rest : List Value} (hlen : ∀ sig, parseMethodDescriptor y.desc = some sig → argsL.length = sig.parameters.length)
    (hstack : g.stack = argsL.reverse ++ rest) (hW : 2 * g.monitorRoom + (rest.map fun v => v.category).sum ≤ W9) (hdg : decode c.code g.pc = .ok (.invokestatic index, 3))
    (hpre : ∀ vm₁, s.WarmedH vm₁ → Pre ⟨T.setVm vm₁, locs, cells, slots⟩ argsL.toArray) :
    (∃ (v : Option Value) (vm₁ : Vm) (B : Pt), s.WarmedH vm₁ ∧ Stand p l e R s m args below meth c B.U B.locs B.cells B.slots ∧ Post ⟨T.setVm vm₁, locs, cells, slots⟩ argsL.toArray v B ∧
      ∀ target, Steps p.tables e below (B.U.setTop { g with pc := g.pc + 3, stack := v.toList ++ rest }) target → Steps p.tables e below (T.setTop g) target) ∨
    (∃ (q : Addr) (vm₁ : Vm) (B : Pt), s.WarmedH vm₁ ∧ Stand p l e R s m args below meth c B.U B.locs B.cells B.slots ∧ PostX ⟨T.setVm vm₁, locs, cells, slots⟩ argsL.toArray q B ∧
      Steps p.tables e below (T.setTop g) ((B.U.setTop { g with stack := rest }).pushFrame (.throwing q))) := by
  obtain ⟨mk, hnamed⟩ := Cond.code_named hcode
  obtain ⟨methM, cM, hmethM, -, -, -, -, -, -, hsigM⟩ := Cond.code_spec hnamed hcode
  have hstatic : methM.isStatic = true := Cond.static_spec hnamed hmethM hstat
  obtain ⟨kP, hkP, -⟩ := className_of_methodNamed hnamed
  have hinitP : kP.init = .initialized := Cond.initialized_spec (findClass_of_methodNamed hnamed) hkP hinit
  obtain ⟨vm₁, X₁, hstep₁⟩ := X.invokestatic hexec hown hlink hnamed hmethM hstatic hkP hinitP hy (g := g) hg (argsL := argsL) (rest := rest) (hlen _ hsigM) hstack hdg
  rcases hK m meth c ⟨T.setVm vm₁, locs, cells, slots⟩ { g with stack := rest } (.invokestatic index) mk argsL.toArray X₁ hg hsize hdg hW (X₁.named hnamed) (hpre vm₁ X₁.warmed) with ⟨v, B, X', hpost, hsteps⟩ | ⟨q, B, X', hpost, hsteps⟩
  · exact Or.inl ⟨v, vm₁, B, X₁.warmed, X', hpost, fun target h => hstep₁ _ fun acts => by rw [doInvoke_state]; exact hsteps.trans h⟩
  · exact Or.inr ⟨q, vm₁, B, X₁.warmed, X', hpost, hstep₁ _ fun acts => by rw [doInvoke_state]; exact hsteps⟩
end Calls
theorem vx_cls {s : State} {T : State} {vm₁ : Vm} {E : String} {k : ClassId} (hW : s.WarmedH vm₁) (h : (T.setVm vm₁).vm.findClass E = some k) : s.vm.findClass E = some k := by
  have h1 : vm₁.findClass E = some k := h
  rw [hW.alike.findClass] at h1
  exact h1
/-- the method's frame g, with q thrown over it -/
def vx_W (p : Program) (l : Launch) (e : Env) (R : Room) (s : State) (m : MethodId) (args : Array Value) (below : List Frame) (meth : Method) (c : Code) (H : Heap) (locs : List Loc) (cells slots : Nat) (Q : State → Prop) (g : JFrame) (q : Addr) : Prop :=
  ∀ T : State, T.heap = H → Stand p l e R s m args below meth c T locs cells slots → ∃ t, Steps p.tables e below ((T.setTop g).pushFrame (.throwing q)) t ∧ Q t
def vx_Run (p : Program) (l : Launch) (e : Env) (R : Room) (s : State) (m : MethodId) (args : Array Value) (below : List Frame) (meth : Method) (c : Code) (H : Heap) (locs : List Loc) (cells slots mc ms : Nat) (g : JFrame) (rest : List Value) (Qa : State → Outcome → State → Prop) (XC : String → State → State → Prop) (free : Addr → Prop) : Prop :=
  ∀ T : State, T.heap = H → Stand p l e R s m args below meth c T locs cells slots →
    (∃ (v : Option Value) (st₀ t T' : State) (L : List Loc), st₀.heap = H ∧ Stand p l e R s m args below meth c T' (locs ++ L) (cells + mc) (slots + ms) ∧ (∀ q ∈ L, free q.base) ∧ T'.heap = t.heap ∧ T'.vm = t.vm ∧ Qa st₀ (.returned v) t ∧
      Goes p e below T g T' { g with pc := g.pc + 3, stack := v.toList ++ rest }) ∨
    (∃ (q : Addr) (st₀ t T' : State) (L : List Loc) (E : String) (ce : Cell), st₀.heap = H ∧ Stand p l e R s m args below meth c T' (locs ++ L) (cells + mc) (slots + ms) ∧ (∀ z ∈ L, free z.base) ∧ T'.heap = t.heap ∧ T'.vm = t.vm ∧ XC E st₀ t ∧ t.heap[q]? = some ce ∧ ce.vm = .none ∧ s.vm.findClass E = some ce.cls ∧
      Steps p.tables e below (T.setTop g) ((T'.setTop { g with stack := rest }).pushFrame (.throwing q)))
def vx_X {S : Type} (px : S → Prop) (B : String → S → State → Prop) (A : Nat → Prop) : String → State → State → Prop := fun E st t => ∃ u : S, px u ∧ B E u t ∧ va_F A st t
section Runs
variable {p : Program} {l : Launch} {e : Env} {R : Room} {s : State} {m : MethodId} {args : Array Value} {below : List Frame} {meth : Method} {c : Code} {H : Heap} {locs : List Loc} {cells slots : Nat}
variable {y : MethodName} {bytes cc : ByteArray} {maxL nL mc ms n index : Nat} {ret : Option FieldType} {ws : List Cond} {rm : Room} {Pc : Array Value → State → Prop} {Qc : Array Value → State → Outcome → State → Prop} {XC : String → State → State → Prop} {free : Addr → Prop} {Ts : List Cond} {own C : String} {b : Addr} {As rest : List Value} {g : JFrame}
theorem vx_callBack (cb : CallB R s args own index y bytes maxL ret ws rm mc ms n) (hM : vx_Met l y ws rm Pc Qc XC mc ms free) (hbl : FrameBlind Pc) : vx_Back l R p e below s args y 3 8 (PreOf R mc ms Pc) (PostOf Qc mc ms free) (vx_Post XC mc ms free) := by
  obtain ⟨hrc, hrs, hfr, hlo, hws, hcw, -, hini, -⟩ := cb
  exact vx_back (bytes := bytes) (maxL := maxL) (ret := ret) hM hbl hrc hrs hfr hlo hws hcw (fun a' U hW => word_at hW (Or.inl (by first | rfl | simp [Cond.onTables, Cond.keeps, Cond.steady])) hini)
theorem vx_runV (S : CallFix p m c cc nL s args Ts own) (hM : vx_Met l y ws rm Pc Qc XC mc ms free) (cw : CallW R s args own C index y bytes maxL ret ws rm mc ms n) (hp : PreV s H C b Pc As)
    (hg : g.method = m) (hn : As.length = n) (hsize : g.locals.size = nL) (hstack : g.stack = As.reverse ++ .ref b :: rest) (hW : 2 * g.monitorRoom + (rest.map fun v => v.category).sum ≤ 8) (hdg : decode cc g.pc = .ok (.invokevirtual index, 3)) (hf : cells + mc ≤ R.cells ∧ slots + ms ≤ R.slots) :
    vx_Run p l e R s m args below meth c H locs cells slots mc ms g rest (Qc (Value.ref b :: As).toArray) XC free := by
  have hK : vx_Back l R p e below s args y 3 8 (PreOf R mc ms Pc) (PostOf Qc mc ms free) (vx_Post XC mc ms free) := vx_callBack cw.1 hM hp.1
  obtain ⟨⟨-, -, -, -, -, -, hcode, -, hy, hlen, hl⟩, hin, hse⟩ := cw
  obtain ⟨hx, hb, hml, ho, -⟩ := S
  obtain ⟨-, ⟨cellB, hcB, hoB, hclB⟩, hPc⟩ := hp
  intro T hT X
  rcases vx_callV X hx (C := C) (bytes := bytes) (maxL := maxL) (ret := ret) ho hl hin hse hcode hy hK (by rw [hT]; exact hcB) hoB hclB hg (hsize.trans hml.symm) (argsL := As) (rest := rest) (fun sig h => hn.trans (hlen sig h)) hstack hW (by rw [hb]; exact hdg)
    (fun vm₁ hW₁ => ⟨hf.1, hf.2, hPc (T.setVm vm₁) hT hW₁⟩) with ⟨v, vm₁, ⟨U', l2, c2, s2⟩, hW₁, X', ⟨g', mk, t, L, e1, e2, hq, h1, hL, h2, h3⟩, st⟩ | ⟨q, vm₁, ⟨U', l2, c2, s2⟩, hW₁, X', ⟨g', mk, t, L, E, ce, e1, e2, hq, hce, hcv, hcl, h1, hL, h2, h3⟩, st⟩
  · dsimp only [Pt.U, Pt.locs, Pt.cells, Pt.slots] at X' e1 e2 h1 h2 h3 st
    subst h1; subst h2; subst h3
    exact Or.inl ⟨v, (T.setVm vm₁).calling g' mk (Value.ref b :: As).toArray, t, U', L, hT, X', hL, e1, e2, hq, st⟩
  · dsimp only [Pt.U, Pt.locs, Pt.cells, Pt.slots] at X' e1 e2 h1 h2 h3 st hcl
    subst h1; subst h2; subst h3
    exact Or.inr ⟨q, (T.setVm vm₁).calling g' mk (Value.ref b :: As).toArray, t, U', L, E, ce, hT, X', hL, e1, e2, hq, hce, hcv, vx_cls hW₁ hcl, st⟩
theorem vx_runS (S : CallFix p m c cc nL s args Ts own) (hM : vx_Met l y ws rm Pc Qc XC mc ms free) (cw : CallB R s args own index y bytes maxL ret ws rm mc ms n ∧ (Cond.static y).before args s = true) (hp : PreS s H Pc As)
    (hg : g.method = m) (hn : As.length = n) (hsize : g.locals.size = nL) (hstack : g.stack = As.reverse ++ rest) (hW : 2 * g.monitorRoom + (rest.map fun v => v.category).sum ≤ 8) (hdg : decode cc g.pc = .ok (.invokestatic index, 3)) (hf : cells + mc ≤ R.cells ∧ slots + ms ≤ R.slots) :
    vx_Run p l e R s m args below meth c H locs cells slots mc ms g rest (Qc As.toArray) XC free := by
  have hK : vx_Back l R p e below s args y 3 8 (PreOf R mc ms Pc) (PostOf Qc mc ms free) (vx_Post XC mc ms free) := vx_callBack cw.1 hM hp.1
  obtain ⟨⟨-, -, -, -, -, -, hcode, hini, hy, hlen, hl⟩, hstt⟩ := cw
  obtain ⟨hx, hb, hml, ho, -⟩ := S
  intro T hT X
  rcases vx_callS X hx (bytes := bytes) (maxL := maxL) (ret := ret) ho hl hstt hini hcode hy hK hg (hsize.trans hml.symm) (argsL := As) (rest := rest) (fun sig h => hn.trans (hlen sig h)) hstack hW (by rw [hb]; exact hdg)
    (fun vm₁ hW₁ => ⟨hf.1, hf.2, hp.2 (T.setVm vm₁) hT hW₁⟩) with ⟨v, vm₁, ⟨U', l2, c2, s2⟩, hW₁, X', ⟨g', mk, t, L, e1, e2, hq, h1, hL, h2, h3⟩, st⟩ | ⟨q, vm₁, ⟨U', l2, c2, s2⟩, hW₁, X', ⟨g', mk, t, L, E, ce, e1, e2, hq, hce, hcv, hcl, h1, hL, h2, h3⟩, st⟩
  · dsimp only [Pt.U, Pt.locs, Pt.cells, Pt.slots] at X' e1 e2 h1 h2 h3 st
    subst h1; subst h2; subst h3
    exact Or.inl ⟨v, (T.setVm vm₁).calling g' mk As.toArray, t, U', L, hT, X', hL, e1, e2, hq, st⟩
  · dsimp only [Pt.U, Pt.locs, Pt.cells, Pt.slots] at X' e1 e2 h1 h2 h3 st hcl
    subst h1; subst h2; subst h3
    exact Or.inr ⟨q, (T.setVm vm₁).calling g' mk As.toArray, t, U', L, E, ce, hT, X', hL, e1, e2, hq, hce, hcv, vx_cls hW₁ hcl, st⟩
end Runs
section Rows
variable {p : Program} {l : Launch} {e : Env} {R : Room} {s : State} {m : MethodId} {args : Array Value} {below : List Frame} {meth : Method} {c : Code} {H : Heap} {locs : List Loc} {cells slots : Nat} {Q : State → Prop}
variable {mc ms : Nat} {free : Addr → Prop} {A0 A1 : Nat → Prop} {H0 : Heap} {a : Array Value} {pc : Nat} {ls : Array Slot} {st0 rest : List Value}
theorem vx_keep {st₀ t T' : State} {L : List Loc} (h0 : st₀.heap = H) (e1 : T'.heap = t.heap) (hS : va_S A0 H0 H locs) (hA : ∀ q, q < H.size → A1 q → A0 q) (hf : ∀ q, free q → A0 q) (hL : ∀ q ∈ L, free q.base) (hF : va_F A1 st₀ t) :
    H.size ≤ T'.heap.size ∧ (∀ q : Nat, q < H.size → ¬ A1 q → T'.heap[q]? = H[q]?) ∧ va_S A0 H0 T'.heap (locs ++ L) := by
  obtain ⟨hz, hk⟩ := hF
  rw [h0] at hz hk
  exact ⟨by rw [e1]; exact hz, fun q h1 h2 => by rw [e1]; exact hk q h1 h2,
    ⟨Nat.le_trans hS.1 (by rw [e1]; exact hz), fun q h1 h2 => by rw [e1, hk q (Nat.lt_of_lt_of_le h1 hS.1) (fun z => h2 (hA q (Nat.lt_of_lt_of_le h1 hS.1) z))]; exact hS.2.1 q h1 h2, fun q hq => by
      rcases List.mem_append.mp hq with h | h
      · exact hS.2.2 q h
      · exact hf _ (hL q h)⟩⟩
theorem vx_calli {S SX : Type} {post : Int32 → S → Prop} {px : SX → Prop} {B : S → State → Prop} {BX : String → SX → State → Prop} {AX : Nat → Prop} (hr : vx_Run p l e R s m args below meth c H locs cells slots mc ms (F0 m pc ls st0) rest (va_Qi post B A1 a) (vx_X px BX AX) free) (hS : va_S A0 H0 H locs) (hA : ∀ q, q < H.size → A1 q → A0 q) (hf : ∀ q, free q → A0 q) (hAX : ∀ q, q < H.size → AX q → A0 q)
    (kx : ∀ (E : String) (ce : Cell) (q9 : Addr) (u : SX) (t : State) (H1 : Heap) (locs1 : List Loc), t.heap = H1 → s.vm.Alike t.vm → px u → BX E u t → H.size ≤ H1.size → (∀ q : Nat, q < H.size → ¬ AX q → H1[q]? = H[q]?) → va_S A0 H0 H1 locs1 → H1[q9]? = some ce → ce.vm = .none → s.vm.findClass E = some ce.cls → vx_W p l e R s m args below meth c H1 locs1 (cells + mc) (slots + ms) Q (F0 m pc ls rest) q9)
    (kk : ∀ (r : Int32) (u : S) (t : State) (H1 : Heap) (locs1 : List Loc), t.heap = H1 → s.vm.Alike t.vm → post r u → B u t → H.size ≤ H1.size → (∀ q : Nat, q < H.size → ¬ A1 q → H1[q]? = H[q]?) → va_S A0 H0 H1 locs1 → W p l e R s m args below meth c H1 locs1 (cells + mc) (slots + ms) Q (F0 m (pc + 3) ls (.int r :: rest))) : W p l e R s m args below meth c H locs cells slots Q (F0 m pc ls st0) := by
  intro T hT X
  rcases hr T hT X with ⟨v, st₀, t, T', L, h0, X', hL, e1, e2, ⟨⟨r, u, hv, hp, hb⟩, hF⟩, st⟩ | ⟨q, st₀, t, T', L, E, ce, h0, X', hL, e1, e2, ⟨u, hp, hb, hF⟩, hce, hcv, hcl, st⟩
  · cases hv
    obtain ⟨k1, k2, k3⟩ := vx_keep h0 e1 hS hA hf hL hF
    obtain ⟨t2, a1, b1⟩ := kk r u t T'.heap (locs ++ L) e1.symm (by rw [← e2]; exact X'.warmed.alike) hp hb k1 k2 k3 T' rfl X'
    exact ⟨t2, st t2 a1, b1⟩
  · obtain ⟨k1, k2, k3⟩ := vx_keep h0 e1 hS hAX hf hL hF
    obtain ⟨t2, a1, b1⟩ := kx E ce q u t T'.heap (locs ++ L) e1.symm (by rw [← e2]; exact X'.warmed.alike) hp hb k1 k2 k3 (by rw [e1]; exact hce) hcv hcl T' rfl X'
    exact ⟨t2, st.trans a1, b1⟩
theorem vx_calll {S SX : Type} {post : Int64 → S → Prop} {px : SX → Prop} {B : S → State → Prop} {BX : String → SX → State → Prop} {AX : Nat → Prop} (hr : vx_Run p l e R s m args below meth c H locs cells slots mc ms (F0 m pc ls st0) rest (va_Ql post B A1 a) (vx_X px BX AX) free) (hS : va_S A0 H0 H locs) (hA : ∀ q, q < H.size → A1 q → A0 q) (hf : ∀ q, free q → A0 q) (hAX : ∀ q, q < H.size → AX q → A0 q)
    (kx : ∀ (E : String) (ce : Cell) (q9 : Addr) (u : SX) (t : State) (H1 : Heap) (locs1 : List Loc), t.heap = H1 → s.vm.Alike t.vm → px u → BX E u t → H.size ≤ H1.size → (∀ q : Nat, q < H.size → ¬ AX q → H1[q]? = H[q]?) → va_S A0 H0 H1 locs1 → H1[q9]? = some ce → ce.vm = .none → s.vm.findClass E = some ce.cls → vx_W p l e R s m args below meth c H1 locs1 (cells + mc) (slots + ms) Q (F0 m pc ls rest) q9)
    (kk : ∀ (r : Int64) (u : S) (t : State) (H1 : Heap) (locs1 : List Loc), t.heap = H1 → s.vm.Alike t.vm → post r u → B u t → H.size ≤ H1.size → (∀ q : Nat, q < H.size → ¬ A1 q → H1[q]? = H[q]?) → va_S A0 H0 H1 locs1 → W p l e R s m args below meth c H1 locs1 (cells + mc) (slots + ms) Q (F0 m (pc + 3) ls (.long r :: rest))) : W p l e R s m args below meth c H locs cells slots Q (F0 m pc ls st0) := by
  intro T hT X
  rcases hr T hT X with ⟨v, st₀, t, T', L, h0, X', hL, e1, e2, ⟨⟨r, u, hv, hp, hb⟩, hF⟩, st⟩ | ⟨q, st₀, t, T', L, E, ce, h0, X', hL, e1, e2, ⟨u, hp, hb, hF⟩, hce, hcv, hcl, st⟩
  · cases hv
    obtain ⟨k1, k2, k3⟩ := vx_keep h0 e1 hS hA hf hL hF
    obtain ⟨t2, a1, b1⟩ := kk r u t T'.heap (locs ++ L) e1.symm (by rw [← e2]; exact X'.warmed.alike) hp hb k1 k2 k3 T' rfl X'
    exact ⟨t2, st t2 a1, b1⟩
  · obtain ⟨k1, k2, k3⟩ := vx_keep h0 e1 hS hAX hf hL hF
    obtain ⟨t2, a1, b1⟩ := kx E ce q u t T'.heap (locs ++ L) e1.symm (by rw [← e2]; exact X'.warmed.alike) hp hb k1 k2 k3 (by rw [e1]; exact hce) hcv hcl T' rfl X'
    exact ⟨t2, st.trans a1, b1⟩
theorem vx_callf {S SX : Type} {post : UInt32 → S → Prop} {px : SX → Prop} {B : S → State → Prop} {BX : String → SX → State → Prop} {AX : Nat → Prop} (hr : vx_Run p l e R s m args below meth c H locs cells slots mc ms (F0 m pc ls st0) rest (va_Qf post B A1 a) (vx_X px BX AX) free) (hS : va_S A0 H0 H locs) (hA : ∀ q, q < H.size → A1 q → A0 q) (hf : ∀ q, free q → A0 q) (hAX : ∀ q, q < H.size → AX q → A0 q)
    (kx : ∀ (E : String) (ce : Cell) (q9 : Addr) (u : SX) (t : State) (H1 : Heap) (locs1 : List Loc), t.heap = H1 → s.vm.Alike t.vm → px u → BX E u t → H.size ≤ H1.size → (∀ q : Nat, q < H.size → ¬ AX q → H1[q]? = H[q]?) → va_S A0 H0 H1 locs1 → H1[q9]? = some ce → ce.vm = .none → s.vm.findClass E = some ce.cls → vx_W p l e R s m args below meth c H1 locs1 (cells + mc) (slots + ms) Q (F0 m pc ls rest) q9)
    (kk : ∀ (r : UInt32) (u : S) (t : State) (H1 : Heap) (locs1 : List Loc), t.heap = H1 → s.vm.Alike t.vm → post r u → B u t → H.size ≤ H1.size → (∀ q : Nat, q < H.size → ¬ A1 q → H1[q]? = H[q]?) → va_S A0 H0 H1 locs1 → W p l e R s m args below meth c H1 locs1 (cells + mc) (slots + ms) Q (F0 m (pc + 3) ls (.float r :: rest))) : W p l e R s m args below meth c H locs cells slots Q (F0 m pc ls st0) := by
  intro T hT X
  rcases hr T hT X with ⟨v, st₀, t, T', L, h0, X', hL, e1, e2, ⟨⟨r, u, hv, hp, hb⟩, hF⟩, st⟩ | ⟨q, st₀, t, T', L, E, ce, h0, X', hL, e1, e2, ⟨u, hp, hb, hF⟩, hce, hcv, hcl, st⟩
  · cases hv
    obtain ⟨k1, k2, k3⟩ := vx_keep h0 e1 hS hA hf hL hF
    obtain ⟨t2, a1, b1⟩ := kk r u t T'.heap (locs ++ L) e1.symm (by rw [← e2]; exact X'.warmed.alike) hp hb k1 k2 k3 T' rfl X'
    exact ⟨t2, st t2 a1, b1⟩
  · obtain ⟨k1, k2, k3⟩ := vx_keep h0 e1 hS hAX hf hL hF
    obtain ⟨t2, a1, b1⟩ := kx E ce q u t T'.heap (locs ++ L) e1.symm (by rw [← e2]; exact X'.warmed.alike) hp hb k1 k2 k3 (by rw [e1]; exact hce) hcv hcl T' rfl X'
    exact ⟨t2, st.trans a1, b1⟩
theorem vx_calld {S SX : Type} {post : UInt64 → S → Prop} {px : SX → Prop} {B : S → State → Prop} {BX : String → SX → State → Prop} {AX : Nat → Prop} (hr : vx_Run p l e R s m args below meth c H locs cells slots mc ms (F0 m pc ls st0) rest (va_Qd post B A1 a) (vx_X px BX AX) free) (hS : va_S A0 H0 H locs) (hA : ∀ q, q < H.size → A1 q → A0 q) (hf : ∀ q, free q → A0 q) (hAX : ∀ q, q < H.size → AX q → A0 q)
    (kx : ∀ (E : String) (ce : Cell) (q9 : Addr) (u : SX) (t : State) (H1 : Heap) (locs1 : List Loc), t.heap = H1 → s.vm.Alike t.vm → px u → BX E u t → H.size ≤ H1.size → (∀ q : Nat, q < H.size → ¬ AX q → H1[q]? = H[q]?) → va_S A0 H0 H1 locs1 → H1[q9]? = some ce → ce.vm = .none → s.vm.findClass E = some ce.cls → vx_W p l e R s m args below meth c H1 locs1 (cells + mc) (slots + ms) Q (F0 m pc ls rest) q9)
    (kk : ∀ (r : UInt64) (u : S) (t : State) (H1 : Heap) (locs1 : List Loc), t.heap = H1 → s.vm.Alike t.vm → post r u → B u t → H.size ≤ H1.size → (∀ q : Nat, q < H.size → ¬ A1 q → H1[q]? = H[q]?) → va_S A0 H0 H1 locs1 → W p l e R s m args below meth c H1 locs1 (cells + mc) (slots + ms) Q (F0 m (pc + 3) ls (.double r :: rest))) : W p l e R s m args below meth c H locs cells slots Q (F0 m pc ls st0) := by
  intro T hT X
  rcases hr T hT X with ⟨v, st₀, t, T', L, h0, X', hL, e1, e2, ⟨⟨r, u, hv, hp, hb⟩, hF⟩, st⟩ | ⟨q, st₀, t, T', L, E, ce, h0, X', hL, e1, e2, ⟨u, hp, hb, hF⟩, hce, hcv, hcl, st⟩
  · cases hv
    obtain ⟨k1, k2, k3⟩ := vx_keep h0 e1 hS hA hf hL hF
    obtain ⟨t2, a1, b1⟩ := kk r u t T'.heap (locs ++ L) e1.symm (by rw [← e2]; exact X'.warmed.alike) hp hb k1 k2 k3 T' rfl X'
    exact ⟨t2, st t2 a1, b1⟩
  · obtain ⟨k1, k2, k3⟩ := vx_keep h0 e1 hS hAX hf hL hF
    obtain ⟨t2, a1, b1⟩ := kx E ce q u t T'.heap (locs ++ L) e1.symm (by rw [← e2]; exact X'.warmed.alike) hp hb k1 k2 k3 (by rw [e1]; exact hce) hcv hcl T' rfl X'
    exact ⟨t2, st.trans a1, b1⟩
theorem vx_callv {S SX : Type} {post : S → Prop} {px : SX → Prop} {B : S → State → Prop} {BX : String → SX → State → Prop} {AX : Nat → Prop} (hr : vx_Run p l e R s m args below meth c H locs cells slots mc ms (F0 m pc ls st0) rest (va_Qv post B A1 a) (vx_X px BX AX) free) (hS : va_S A0 H0 H locs) (hA : ∀ q, q < H.size → A1 q → A0 q) (hf : ∀ q, free q → A0 q) (hAX : ∀ q, q < H.size → AX q → A0 q)
    (kx : ∀ (E : String) (ce : Cell) (q9 : Addr) (u : SX) (t : State) (H1 : Heap) (locs1 : List Loc), t.heap = H1 → s.vm.Alike t.vm → px u → BX E u t → H.size ≤ H1.size → (∀ q : Nat, q < H.size → ¬ AX q → H1[q]? = H[q]?) → va_S A0 H0 H1 locs1 → H1[q9]? = some ce → ce.vm = .none → s.vm.findClass E = some ce.cls → vx_W p l e R s m args below meth c H1 locs1 (cells + mc) (slots + ms) Q (F0 m pc ls rest) q9)
    (kk : ∀ (u : S) (t : State) (H1 : Heap) (locs1 : List Loc), t.heap = H1 → s.vm.Alike t.vm → post u → B u t → H.size ≤ H1.size → (∀ q : Nat, q < H.size → ¬ A1 q → H1[q]? = H[q]?) → va_S A0 H0 H1 locs1 → W p l e R s m args below meth c H1 locs1 (cells + mc) (slots + ms) Q (F0 m (pc + 3) ls (rest))) : W p l e R s m args below meth c H locs cells slots Q (F0 m pc ls st0) := by
  intro T hT X
  rcases hr T hT X with ⟨v, st₀, t, T', L, h0, X', hL, e1, e2, ⟨⟨u, hv, hp, hb⟩, hF⟩, st⟩ | ⟨q, st₀, t, T', L, E, ce, h0, X', hL, e1, e2, ⟨u, hp, hb, hF⟩, hce, hcv, hcl, st⟩
  · cases hv
    obtain ⟨k1, k2, k3⟩ := vx_keep h0 e1 hS hA hf hL hF
    obtain ⟨t2, a1, b1⟩ := kk u t T'.heap (locs ++ L) e1.symm (by rw [← e2]; exact X'.warmed.alike) hp hb k1 k2 k3 T' rfl X'
    exact ⟨t2, st t2 a1, b1⟩
  · obtain ⟨k1, k2, k3⟩ := vx_keep h0 e1 hS hAX hf hL hF
    obtain ⟨t2, a1, b1⟩ := kx E ce q u t T'.heap (locs ++ L) e1.symm (by rw [← e2]; exact X'.warmed.alike) hp hb k1 k2 k3 (by rw [e1]; exact hce) hcv hcl T' rfl X'
    exact ⟨t2, st.trans a1, b1⟩
/-- caught by the row x of this method's table; the rows ahead don't take it -/
theorem vx_catch {own name : String} {E : String} {ce : Cell} {q : Addr} (hown : s.vm.findClass own = some m.cls) (pre : List ExceptionTableEntry) (x : ExceptionTableEntry) (suf : List ExceptionTableEntry) (hsplit : c.exceptionTable.toList = pre ++ x :: suf)
    (hpass : ∀ z ∈ pre, covers z pc = false ∨ (z.catchType ≠ 0 ∧ ∃ nm : String, (Cond.classLink own z.catchType nm).before args s = true ∧ va_Nc E nm s)) (hx : covers x pc = true) (h0 : x.catchType ≠ 0)
    (hlink : (Cond.classLink own x.catchType name).before args s = true) (hcast : (Cond.castable E name).before args s = true) (hcell : H[q]? = some ce) (hv : ce.vm = .none) (hcl : s.vm.findClass E = some ce.cls)
    (kk : W p l e R s m args below meth c H locs cells slots Q (F0 m x.handlerPc ls [.ref q])) : vx_W p l e R s m args below meth c H locs cells slots Q (F0 m pc ls rest) q := by
  intro T hT X
  have hpl : e.platform.magicAccessors = ({} : Platform).magicAccessors := by rw [X.admits.platform]
  obtain ⟨c3, c4, hc3, hc4, hasg⟩ := Cond.castable_spec hcast
  cases Option.some.inj (hc3.symm.trans hcl)
  obtain ⟨c5, hc5, hcl5⟩ := Cond.classLink_spec hown hlink e.platform hpl
  cases Option.some.inj (hc4.symm.trans hc5)
  obtain ⟨vm', X', st⟩ := X.thenCaughtThrough q (g := F0 m pc ls rest) rfl (Steps.refl _) (by rw [hT]; exact hcell) (by rw [hv]; rfl) (by obtain ⟨k9, h9, -⟩ := Vm.findClass_spec hcl; exact ⟨k9, h9⟩) pre x suf hsplit
    (fun z hz => by
      rcases hpass z hz with h | ⟨hz0, nm, hl1, hn1⟩
      · exact Or.inl h
      · obtain ⟨c6, hc6, hcl6⟩ := Cond.classLink_spec hown hl1 e.platform hpl
        obtain ⟨a8, b8, h1, h2, h3⟩ := hn1
        cases Option.some.inj (h1.symm.trans hcl)
        cases Option.some.inj (h2.symm.trans hc6)
        exact Or.inr ⟨hz0, _, hcl6, h3⟩) hx (Or.inr ⟨h0, c4, hcl5, hasg⟩)
  obtain ⟨t, a1, b1⟩ := kk (T.setVm vm') hT X'
  exact ⟨t, st.trans a1, b1⟩
end Rows
section Ends
variable {p : Program} {l : Launch} {e : Env} {R : Room} {s : State} {m : MethodId} {args : Array Value} {below : List Frame} {meth : Method} {c : Code} {H : Heap} {locs : List Loc} {cells slots : Nat} {Q : State → Prop}
variable {mc ms : Nat} {free : Addr → Prop} {A0 A1 : Nat → Prop} {H0 : Heap} {a : Array Value} {ls : Array Slot} {st0 rest : List Value}
variable {Qc : Array Value → State → Outcome → State → Prop} {XC : String → State → State → Prop}
/-- what a body that may throw owes at its end -/
def vx_MQ (below : List Frame) (Qc : Array Value → State → Outcome → State → Prop) (XC : String → State → State → Prop) (a : Array Value) (s : State) (mc ms : Nat) (free : Addr → Prop) : State → Prop := fun t =>
  ∃ o, t.status = .running ∧ Ended t below o ∧ vx_Q Qc XC mc ms free a s o t
theorem vx_ret {g : JFrame} {mc ms : Nat} (k : W p l e R s m args below meth c H locs cells slots (MQ below Qc args s mc ms free) g) : W p l e R s m args below meth c H locs cells slots (vx_MQ below Qc XC args s mc ms free) g := by
  intro T hT X
  obtain ⟨t, a1, o, b1, b2, b3, b4⟩ := k T hT X
  exact ⟨t, a1, o, b1, b2, Or.inl ⟨b3, b4⟩⟩
/-- not caught here: it goes on to the caller -/
theorem vx_widen {g : JFrame} {q : Addr} {k n : Nat} (h1 : cells ≤ k) (h2 : slots ≤ n) (kk : vx_W p l e R s m args below meth c H locs k n Q g q) : vx_W p l e R s m args below meth c H locs cells slots Q g q := fun T hT X => kk T hT (stand_widen X h1 h2)
theorem vx_out {pc : Nat} {E : String} {ce : Cell} {q : Addr} {mc ms : Nat} (hout : ∀ x ∈ c.exceptionTable.toList, covers x pc = false) (hlocks : meth.locks = false) (hcell : H[q]? = some ce) (hv : ce.vm = .none) (hcl : s.vm.findClass E = some ce.cls)
    (hx : ∀ t : State, t.heap = H → s.vm.Alike t.vm → XC E s t) (hf : ∀ z ∈ locs, free z.base) (hc : cells ≤ mc) (hs : slots ≤ ms) :
    vx_W p l e R s m args below meth c H locs cells slots (vx_MQ below Qc XC args s mc ms free) (F0 m pc ls rest) q := by
  intro T hT X
  obtain ⟨st1, hrun, hend, hW, hsm⟩ := X.leaveThrown q (g := F0 m pc ls rest) rfl rfl rfl hout hlocks
  have hcell9 : (T.setFrames (.throwing q :: below)).heap[q]? = some ce := by
    show T.heap[q]? = some ce
    rw [hT]; exact hcell
  exact ⟨_, st1, .threw q, hrun, hend, Or.inr ⟨q, rfl, E, ce, locs, hx _ hT hW.alike, hcell9, hv, hcl, hW, hsm.mono hc hs, hf⟩⟩
theorem vx_frame {U : State} {k n : Nat} (h : s.sameButNew ({ U with vm := s.vm } : State) locs k n) : s.heap.size ≤ U.heap.size ∧ ∀ q : Nat, q < s.heap.size → (∀ z ∈ locs, z.base ≠ q) → U.heap[q]? = s.heap[q]? := by
  obtain ⟨-, h2, -, -, -, h6⟩ := h
  refine ⟨h2, fun q hq hz => ?_⟩
  obtain ⟨c9, e1, e2, e3, e4⟩ := h6 q _ (Array.getElem?_eq_getElem hq)
  have hs : c9.slots = (s.heap[q]).slots := Array.ext_getElem? fun i => e4 i fun hm => hz _ hm rfl
  have h9 : c9 = s.heap[q] := by
    rw [hs] at e2
    exact e2
  have e5 : U.heap[q]? = some c9 := e1
  rw [e5, h9, Array.getElem?_eq_getElem hq]
/-- the words of a throw but the four that speak of the heap -/
def vx_no (w : Cond) : Bool := decide (w ≠ .isRef (.static Bundle.tN "UNASSIGNED_STACK" Bundle.steD)) && decide (w ≠ .isRef (.static Bundle.tN "SUPPRESSED_SENTINEL" Bundle.listD)) && decide (w ≠ .laysStatic Bundle.tN "UNASSIGNED_STACK" Bundle.steD) && decide (w ≠ .laysStatic Bundle.tN "SUPPRESSED_SENTINEL" Bundle.listD)
def vx_at0 (own : String) (ic : Nat) (X : String) (names : List String) : List Cond := (Bundle.ownAtoms0 own ic X names).filter vx_no
def vx_atS (own : String) (ic : Nat) (X : String) (names : List String) : List Cond := (Bundle.ownAtoms own ic X names).filter vx_no
/-- a word that the tables alone decide, or a good one -/
def vx_ot (w : Cond) : Bool := w.onTables || goodWord w
theorem vx_ot_at {args a' : Array Value} {s U : State} {w : Cond} (hW : s.WarmedH U.vm) (hvm : s.vm = U.vm) (hg : vx_ot w = true) (h : w.before args s = true) : w.before a' U = true := by
  simp only [vx_ot, Bool.or_eq_true] at hg
  rcases hg with hg | hg
  · exact va_tabs hg hvm h
  · exact word_at hW (good_of_word hg) h
/-- a list's words: the good ones out of the method's own list, the others by premises of their own -/
theorem vx_hat {args : Array Value} {s : State} {L B : List Cond} (h1 : ∀ w ∈ L.filter goodWord, w.before args s = true) (h2 : ∀ w ∈ L.filter (fun w => !goodWord w), w ∈ B) (h3 : ∀ w ∈ B, w.before args s = true) : ∀ w ∈ L, w.before args s = true := by
  intro w hw
  by_cases g : goodWord w = true
  · exact h1 w (List.mem_filter.mpr ⟨hw, g⟩)
  · refine h3 w (h2 w (List.mem_filter.mpr ⟨hw, ?_⟩))
    show (!goodWord w) = true
    cases hgw : goodWord w
    · rfl
    · exact absurd hgw g
theorem vx_c {args : Array Value} {s : State} {w : Cond} {B : List Cond} (h : w.before args s = true) (t : ∀ w ∈ B, w.before args s = true) : ∀ w' ∈ w :: B, w'.before args s = true := fun w' h' => (List.mem_cons.mp h').elim (fun e => by rw [e]; exact h) (t w')
theorem vx_n {args : Array Value} {s : State} : ∀ w ∈ ([] : List Cond), w.before args s = true := fun _ h => nomatch h
theorem vx_own {args : Array Value} {s : State} {L : List Cond} (h1 : ∀ w ∈ L.filter vx_no, w.before args s = true)
    (hU : (Cond.isRef (.static Bundle.tN "UNASSIGNED_STACK" Bundle.steD)).before args s = true) (hN : (Cond.isRef (.static Bundle.tN "SUPPRESSED_SENTINEL" Bundle.listD)).before args s = true)
    (lU : (Cond.laysStatic Bundle.tN "UNASSIGNED_STACK" Bundle.steD).before args s = true) (lN : (Cond.laysStatic Bundle.tN "SUPPRESSED_SENTINEL" Bundle.listD).before args s = true) : ∀ w ∈ L, w.before args s = true := by
  intro w hw
  by_cases e1 : w = .isRef (.static Bundle.tN "UNASSIGNED_STACK" Bundle.steD)
  · rw [e1]; exact hU
  · by_cases e2 : w = .isRef (.static Bundle.tN "SUPPRESSED_SENTINEL" Bundle.listD)
    · rw [e2]; exact hN
    · by_cases e3 : w = .laysStatic Bundle.tN "UNASSIGNED_STACK" Bundle.steD
      · rw [e3]; exact lU
      · by_cases e4 : w = .laysStatic Bundle.tN "SUPPRESSED_SENTINEL" Bundle.listD
        · rw [e4]; exact lN
        · exact h1 w (List.mem_filter.mpr ⟨hw, by unfold vx_no; rw [decide_eq_true e1, decide_eq_true e2, decide_eq_true e3, decide_eq_true e4]; rfl⟩)
/-- where a static field lies, its class's statics cell in H -/
def vx_L (C n d : String) (A : Nat → Prop) (U : State) (H : Heap) : Prop := ∃ (c : ClassId) (k : Class) (i : Nat) (f : Field) (a : Nat) (cell : Cell), U.vm.findClass C = some c ∧ U.fieldFound? C n d = some (c, k, i, f) ∧ f.isStatic = true ∧ k.statics = some a ∧ H[a]? = some cell ∧ cell.vm.isStatics = true ∧ cell.cls = c ∧ f.slot < cell.slots.size ∧ k.staticTypes[f.slot]? = some f.type ∧ ¬ A a
theorem vx_L.moved {C n d : String} {A : Nat → Prop} {u U : State} {H : Heap} (hvm : u.vm.Alike U.vm) (h : vx_L C n d A u H) : vx_L C n d A U H := by
  obtain ⟨c, k, i, f, a, cell, h1, h2, h3, h4, h5, h6, h7, h8, h9, h10⟩ := h
  obtain ⟨k', hi', he⟩ := State.fieldFound?_setVm hvm h2
  exact ⟨c, k', i, f, a, cell, by rw [hvm.findClass]; exact h1, hi', h3, by rw [he]; exact h4, h5, h6, h7, h8, by rw [he]; exact h9, h10⟩
theorem vx_L.kept {C n d : String} {A : Nat → Prop} {U : State} {H H1 : Heap} (h : vx_L C n d A U H) (hq : ∀ a : Nat, a < H.size → ¬ A a → H1[a]? = H[a]?) : vx_L C n d A U H1 := by
  obtain ⟨c, k, i, f, a, cell, h1, h2, h3, h4, h5, h6, h7, h8, h9, h10⟩ := h
  exact ⟨c, k, i, f, a, cell, h1, h2, h3, h4, by rw [hq a (Array.getElem?_eq_some_iff.mp h5).1 h10]; exact h5, h6, h7, h8, h9, h10⟩
theorem vx_L.narrow {C n d : String} {A B : Nat → Prop} {U : State} {H : Heap} (h : vx_L C n d A U H) (hAB : ∀ q, B q → A q) : vx_L C n d B U H := by
  obtain ⟨c, k, i, f, a, cell, h1, h2, h3, h4, h5, h6, h7, h8, h9, h10⟩ := h
  exact ⟨c, k, i, f, a, cell, h1, h2, h3, h4, h5, h6, h7, h8, h9, fun z => h10 (hAB _ z)⟩
theorem vx_L.word {C n d : String} {A : Nat → Prop} {s : State} {args : Array Value} (h : vx_L C n d A s s.heap) : (Cond.laysStatic C n d).before args s = true := by
  obtain ⟨c, k, i, f, a, cell, h1, h2, h3, h4, h5, h6, h7, h8, h9, -⟩ := h
  show (Cond.laysStatic C n d).holds args s none s [] = true
  exact Cond.laysStatic_of h1 h2 h3 h4 h5 h6 h7 h8 h9
/-- .. and what it holds: null or some reference -/
def vx_Zq (C n d : String) (A : Nat → Prop) (U : State) (H : Heap) : Prop := va_Zq C n d A U H ∧ vx_L C n d A U H
theorem vx_Zq.moved {C n d : String} {A : Nat → Prop} {u U : State} {H : Heap} (hvm : u.vm.Alike U.vm) (h : vx_Zq C n d A u H) : vx_Zq C n d A U H := ⟨va_Zq.moved hvm h.1, vx_L.moved hvm h.2⟩
theorem vx_Zq.kept {C n d : String} {A : Nat → Prop} {U : State} {H H1 : Heap} (h : vx_Zq C n d A U H) (hq : ∀ a : Nat, a < H.size → ¬ A a → H1[a]? = H[a]?) : vx_Zq C n d A U H1 := ⟨va_Zq.kept h.1 hq, vx_L.kept h.2 hq⟩
theorem vx_Zq.narrow {C n d : String} {A B : Nat → Prop} {U : State} {H : Heap} (h : vx_Zq C n d A U H) (hAB : ∀ q, B q → A q) : vx_Zq C n d B U H := ⟨va_Zq.narrow h.1 hAB, vx_L.narrow h.2 hAB⟩
theorem vx_Zqof {args : Array Value} {s : State} {C n d : String} {A : Nat → Prop} (hl : (Cond.laysStatic C n d).before args s = true) (hini : (Cond.initialized C).before args s = true) (h : (Cond.isRef (.static C n d)).before args s = true) (hA : ∀ a : Nat, a < s.heap.size → ¬ A a) : vx_Zq C n d A s s.heap := by
  refine ⟨va_Zqof hl hini h hA, ?_⟩
  obtain ⟨c, k, i, f, a, cell, h1, h2, h3, h4, h5, h6, h7, h8, h9⟩ := Cond.laysStatic_spec hl
  exact ⟨c, k, i, f, a, cell, h1, h2, h3, h4, h5, h6, h7, h8, h9, hA a (Array.getElem?_eq_some_iff.mp h5).1⟩
theorem vx_isRef {C n d : String} {v : Value} {A : Nat → Prop} {s : State} {args : Array Value} (h : va_Z C n d v A s s.heap) (hv : v.isRef = true) : (Cond.isRef (.static C n d)).before args s = true := by
  obtain ⟨cf, kf, fi, f, a, cell, h1, h2, h3, h4, h5, h6, h7, -⟩ := h
  have he : (Term.static C n d).eval args s none [] s = some v := by
    simp [Term.eval, State.fieldNamed?, h1, h2, h4, h5, h6, h7]
  simp only [Cond.before, Cond.holds, Cond.value, he]
  cases v <;> simp_all [Value.isRef]
theorem vx_isRefq {C n d : String} {A : Nat → Prop} {s : State} {args : Array Value} (h : va_Zq C n d A s s.heap) : (Cond.isRef (.static C n d)).before args s = true := by
  rcases h with h | ⟨t, h⟩
  · exact vx_isRef h rfl
  · exact vx_isRef h rfl
/-- the same frame, seen from here: as if the method were called anew in this heap -/
theorem vx_rebase {T : State} (X : Stand p l e R s m args below meth c T locs cells slots) {R' : Room} (hf : R'.frames ≤ R.frames) (hl : R'.locals ≤ R.locals) (hc : cells + R'.cells ≤ R.cells) (hs : slots + R'.slots ≤ R.slots) :
    Stand p l e R' ((T.setVm s.vm).setFrames (.invoking m args :: below)) m args below meth c T [] 0 0 := by
  have htop : (T.setVm s.vm).topJava?.isSome := X.here.top
  have hF : ((T.setVm s.vm).setFrames (.invoking m args :: below)).frames = .invoking m args :: below := State.frames_setFrames _ (State.cur_lt_of_top htop)
  obtain ⟨g₀, hg0⟩ := Option.isSome_iff_exists.mp htop
  obtain ⟨r, hr⟩ := State.topJava?_eq_some.mp hg0
  have hl9 : e.platform.stackLimits (T.setVm s.vm).me = e.platform.stackLimits s.me := X.limits
  have hb9 : (T.setVm s.vm).me.stackBytes = s.me.stackBytes := X.bytes
  refine ⟨X.admits, X.cas, X.clock, hF, ?_, X.hears, X.method, X.code, X.here, X.tail, X.warmed, ?_, ?_, ?_⟩
  · have h := X.room
    have hU : ((T.setVm s.vm).setFrames (.invoking m args :: below)).localsInUse = s.localsInUse := by
      rw [State.localsInUse_invoking hF (meth := meth) (c := c) X.method X.code, State.localsInUse_invoking X.frames X.method X.code]
    simp only [State.hasRoom, Bool.and_eq_true, decide_eq_true_eq] at h ⊢
    obtain ⟨⟨⟨⟨h1, h2, h3, h4, h5, h6⟩, h7⟩, h8⟩, h9⟩ := h
    rw [X.frames, List.length_cons] at h2 h3
    have q1 := X.heapSize
    have q2 := X.used
    simp only [hF, hU, List.length_cons, State.stackLimits_setFrames, State.stackBytes_setFrames, hl9, hb9]
    refine ⟨⟨⟨⟨by omega, by omega, by omega, by omega, by omega, h6⟩, ?_⟩, ?_⟩, X.book⟩
    · show T.heap.size + R'.cells ≤ e.platform.maxCells
      omega
    · show T.slotsUsed + R'.slots ≤ e.platform.maxSlots
      omega
  · rw [State.stackLimits_setFrames]; rfl
  · rw [State.stackBytes_setFrames]; rfl
  · refine ⟨?_, Nat.le_refl _, Nat.le_refl _, ?_, ?_, fun a c9 h9 => ⟨c9, h9, rfl, rfl, fun _ _ => rfl⟩⟩
    · obtain ⟨t, ht, -⟩ := State.frames_cons hr
      show T.setVm s.vm = { ((T.setVm s.vm).setFrames (.invoking m args :: below)).setFrames (T.setVm s.vm).frames with heap := T.heap, slotsUsed := T.slotsUsed }
      rw [State.setFrames_setFrames, State.setFrames_self ht]
      rfl
    · show T.slotsUsed = T.slotsUsed + ((T.heap.toList.drop T.heap.size).map (·.slots.size)).sum
      rw [List.drop_eq_nil_of_le (Nat.le_of_eq Array.length_toList)]
      rfl
    · show ((T.heap.toList.drop T.heap.size).map (·.slots.size)).sum ≤ 0
      rw [List.drop_eq_nil_of_le (Nat.le_of_eq Array.length_toList)]
      exact Nat.le_refl _
/-- 'throw new E()': new; dup; invokespecial; athrow -/
theorem vx_throw0 {cc : ByteArray} {pc : Nat} (hexec : p.tables.exec = Jvm.exec) (hb : c.code = cc) (hl : l.stackTraces = false) {own cls : String} {names : List String} {ik ic mc ms : Nat} {A : Nat → Prop}
    (hown : s.vm.findClass own = some m.cls) (hcls : Bundle.fit cls = true) (hnames : ∀ n ∈ names, Bundle.fit n = true)
    (hk : (Cond.classLink own ik cls).before args s = true) (hini : (Cond.initialized cls).before args s = true) (hat : ∀ w ∈ vx_at0 own ic cls names, w.before args s = true)
    (hgood : ∀ w ∈ Cond.classLink own ik cls :: Cond.initialized cls :: vx_at0 own ic cls names, vx_ot w = true)
    (hU : vx_Zq Bundle.tN "UNASSIGNED_STACK" Bundle.steD A s s.heap) (hN : vx_Zq Bundle.tN "SUPPRESSED_SENTINEL" Bundle.listD A s s.heap) (hS : va_S A s.heap H locs) (hsize : ls.size = c.maxLocals)
    (d0 : decode cc pc = .ok (.new ik, 3)) (d3 : decode cc (pc + 3) = .ok (.dup, 1)) (d4 : decode cc (pc + 4) = .ok (.invokespecial ic, 3)) (d7 : decode cc (pc + 7) = .ok (.athrow, 1))
    (hout : ∀ x ∈ c.exceptionTable.toList, covers x (pc + 7) = false)
    (hRframes : names.length + 3 < R.frames) (hRlocals : (rest.map fun v => v.category).sum + (13 * (names.length + 1) + 42) ≤ R.locals) (hRcells : cells + 1 ≤ R.cells) (hRslots : slots + 6 ≤ R.slots) (hlocks : meth.locks = false)
    (hx : ∀ t : State, s.vm.Alike t.vm → H.size ≤ t.heap.size → (∀ q : Nat, q < H.size → t.heap[q]? = H[q]?) → XC cls s t)
    (hf : ∀ z ∈ locs, free z.base) (hc : cells + 1 ≤ mc) (hs : slots + 6 ≤ ms) :
    W p l e R s m args below meth c H locs cells slots (vx_MQ below Qc XC args s mc ms free) (F0 m pc ls rest) := by
  intro T hT X
  have htr : e.platform.stackTraces = false := (show e.platform.stackTraces = l.stackTraces by rw [X.admits.platform]).trans hl
  have Y := vx_rebase X (R' := { frames := R.frames, locals := R.locals, cells := 1, slots := 6 }) (Nat.le_refl _) (Nat.le_refl _) hRcells hRslots
  obtain ⟨s', hA⟩ : ∃ z, z = (T.setVm s.vm).setFrames (.invoking m args :: below) := ⟨_, rfl⟩
  rw [← hA] at Y
  have hvm : s'.vm = s.vm := by rw [hA]; rfl
  have hhp : s'.heap = H := by rw [hA]; exact hT
  have hW0 : s.WarmedH s'.vm := by rw [hvm]; exact State.WarmedH.refl s
  have hat' : ∀ w ∈ vx_at0 own ic cls names, w.before args s' = true := fun w hw => vx_ot_at hW0 hvm.symm (hgood w (List.mem_cons_of_mem _ (List.mem_cons_of_mem _ hw))) (hat w hw)
  have hk' : (Cond.classLink own ik cls).before args s' = true := vx_ot_at hW0 hvm.symm (hgood _ List.mem_cons_self) hk
  have hini' : (Cond.initialized cls).before args s' = true := vx_ot_at hW0 hvm.symm (hgood _ (List.mem_cons_of_mem _ List.mem_cons_self)) hini
  have hU' : vx_Zq Bundle.tN "UNASSIGNED_STACK" Bundle.steD A s' s'.heap := by rw [hhp]; exact vx_Zq.moved hW0.alike (hU.kept hS.2.1)
  have hN' : vx_Zq Bundle.tN "SUPPRESSED_SENTINEL" Bundle.listD A s' s'.heap := by rw [hhp]; exact vx_Zq.moved hW0.alike (hN.kept hS.2.1)
  have h : ∀ w ∈ Bundle.ownAtoms0 own ic cls names, w.before args s' = true := vx_own hat' (vx_isRefq hU'.1) (vx_isRefq hN'.1) hU'.2.word hN'.2.word
  have hown' : s'.vm.findClass own = some m.cls := by rw [hvm]; exact hown
  have hins : (Cond.instantiable cls 6).before args s' = true := h _ (by simp [Bundle.ownAtoms0])
  obtain ⟨vm₁, cX, kX, hfX, hkX, -, -, X₁, st1⟩ := Y.newCold hexec (own := own) (C := cls) (index := ik) (n := 6) hown' hk' hins hini'
    (g := F0 m pc ls rest) rfl (by rw [hb]; exact d0) (Nat.le_refl _) (Nat.le_refl _)
  generalize hT1 : (T.setVm vm₁).pushCell { cls := cX, slots := kX.instanceTypes.map defaultValue, vm := .none } = T1 at X₁ st1
  have hcat : (Value.ref T.heap.size).category = 1 := rfl
  have hcellA : T1.heap[T.heap.size]? = some (freshCell cX kX) := by rw [← hT1]; exact State.heap_pushCell_size _ _
  have d3' : decode c.code (pc + 3) = .ok (.dup, 1) := by rw [hb]; exact d3
  obtain ⟨U, hsteps, hrun, hend, hW, hsame, ce, hce, hO⟩ := X₁.ctorThrow0 hexec htr (own := own) (cls := cls) (names := names) (ic := ic) hown' hcls hnames h (fun x hx => nomatch hx) hfX hkX hcellA (by rw [hhp, hT]; exact Nat.le_refl _)
    (g := { method := m, pc := pc + 4, locals := ls, stack := .ref T.heap.size :: .ref T.heap.size :: rest, locked := none }) rfl hsize rfl rfl (rest := rest) rfl
    (by rw [hb]; exact d4) (by rw [hb]; exact d7) hout hRframes (by simp only [List.map_cons, List.sum_cons, hcat]; omega) hlocks
  obtain ⟨f1, f2⟩ := vx_frame hsame
  rw [hhp] at f1 f2
  have hWs : s.WarmedH U.vm := State.WarmedH.trans hW0 hW
  have hcl : s.vm.findClass cls = some ce.cls := by
    have h9 := hO.cls
    rw [hvm] at h9
    exact h9
  have hall : s.sameButNew ({ U with vm := s.vm } : State) locs mc ms := by
    subst hA
    obtain ⟨e1, e2⟩ := hsame
    rw [State.setFrames_setFrames] at e1
    have h2 : (T.setVm s.vm).sameButNew ({ U with vm := s.vm } : State) [] (0 + 1) (0 + 6) := ⟨e1, e2⟩
    have h3 := X.same.trans h2
    rw [List.append_nil] at h3
    exact h3.mono hc hs
  refine ⟨U, ?_, .threw T.heap.size, hrun, hend, Or.inr ⟨T.heap.size, rfl, cls, ce, locs, hx U hWs.alike f1 (fun q hq => f2 q hq (fun z hz => nomatch hz)), hce, hO.vm, hcl, hWs, hall, hf⟩⟩
  refine st1 _ ?_
  show Steps p.tables e below (T1.setTop { method := m, pc := pc + 3, locals := ls, stack := .ref T.heap.size :: rest, locked := none }) _
  jvm_step X₁.here [X₁.here.top, hexec, d3', Value.category]
  exact hsteps
/-- 'throw new E("text")': new; dup; ldc; invokespecial; athrow -/
theorem vx_throwS {cc : ByteArray} {pc : Nat} (hexec : p.tables.exec = Jvm.exec) (hb : c.code = cc) (hl : l.stackTraces = false) {own cls text : String} {names : List String} {ik is ic mc ms sa : Nat} {A : Nat → Prop}
    (hown : s.vm.findClass own = some m.cls) (hcls : Bundle.fit cls = true) (hnames : ∀ n ∈ names, Bundle.fit n = true)
    (hk : (Cond.classLink own ik cls).before args s = true) (hini : (Cond.initialized cls).before args s = true) (hstr : vk_R own is text sa s) (hat : ∀ w ∈ vx_atS own ic cls names, w.before args s = true)
    (hgood : ∀ w ∈ Cond.classLink own ik cls :: Cond.initialized cls :: vx_atS own ic cls names, vx_ot w = true)
    (hU : vx_Zq Bundle.tN "UNASSIGNED_STACK" Bundle.steD A s s.heap) (hN : vx_Zq Bundle.tN "SUPPRESSED_SENTINEL" Bundle.listD A s s.heap) (hS : va_S A s.heap H locs) (hsize : ls.size = c.maxLocals)
    (d0 : decode cc pc = .ok (.new ik, 3)) (d3 : decode cc (pc + 3) = .ok (.dup, 1)) (d4 : decode cc (pc + 4) = .ok (.ldc is, 2)) (d6 : decode cc (pc + 6) = .ok (.invokespecial ic, 3)) (d9 : decode cc (pc + 9) = .ok (.athrow, 1))
    (hout : ∀ x ∈ c.exceptionTable.toList, covers x (pc + 9) = false)
    (hRframes : names.length + 3 < R.frames) (hRlocals : (rest.map fun v => v.category).sum + (13 * (names.length + 1) + 43) ≤ R.locals) (hRcells : cells + 1 ≤ R.cells) (hRslots : slots + 6 ≤ R.slots) (hlocks : meth.locks = false)
    (hx : ∀ t : State, s.vm.Alike t.vm → H.size ≤ t.heap.size → (∀ q : Nat, q < H.size → t.heap[q]? = H[q]?) → XC cls s t)
    (hf : ∀ z ∈ locs, free z.base) (hc : cells + 1 ≤ mc) (hs : slots + 6 ≤ ms) :
    W p l e R s m args below meth c H locs cells slots (vx_MQ below Qc XC args s mc ms free) (F0 m pc ls rest) := by
  intro T hT X
  have htr : e.platform.stackTraces = false := (show e.platform.stackTraces = l.stackTraces by rw [X.admits.platform]).trans hl
  have Y := vx_rebase X (R' := { frames := R.frames, locals := R.locals, cells := 1, slots := 6 }) (Nat.le_refl _) (Nat.le_refl _) hRcells hRslots
  obtain ⟨s', hA⟩ : ∃ z, z = (T.setVm s.vm).setFrames (.invoking m args :: below) := ⟨_, rfl⟩
  rw [← hA] at Y
  have hvm : s'.vm = s.vm := by rw [hA]; rfl
  have hhp : s'.heap = H := by rw [hA]; exact hT
  have hW0 : s.WarmedH s'.vm := by rw [hvm]; exact State.WarmedH.refl s
  have hat' : ∀ w ∈ vx_atS own ic cls names, w.before args s' = true := fun w hw => vx_ot_at hW0 hvm.symm (hgood w (List.mem_cons_of_mem _ (List.mem_cons_of_mem _ hw))) (hat w hw)
  have hk' : (Cond.classLink own ik cls).before args s' = true := vx_ot_at hW0 hvm.symm (hgood _ List.mem_cons_self) hk
  have hini' : (Cond.initialized cls).before args s' = true := vx_ot_at hW0 hvm.symm (hgood _ (List.mem_cons_of_mem _ List.mem_cons_self)) hini
  have hU' : vx_Zq Bundle.tN "UNASSIGNED_STACK" Bundle.steD A s' s'.heap := by rw [hhp]; exact vx_Zq.moved hW0.alike (hU.kept hS.2.1)
  have hN' : vx_Zq Bundle.tN "SUPPRESSED_SENTINEL" Bundle.listD A s' s'.heap := by rw [hhp]; exact vx_Zq.moved hW0.alike (hN.kept hS.2.1)
  have h : ∀ w ∈ Bundle.ownAtoms own ic cls names, w.before args s' = true := vx_own hat' (vx_isRefq hU'.1) (vx_isRefq hN'.1) hU'.2.word hN'.2.word
  have hown' : s'.vm.findClass own = some m.cls := by rw [hvm]; exact hown
  have hins : (Cond.instantiable cls 6).before args s' = true := h _ (by simp [Bundle.ownAtoms])
  obtain ⟨vm₁, cX, kX, hfX, hkX, -, -, X₁, st1⟩ := Y.newCold hexec (own := own) (C := cls) (index := ik) (n := 6) hown' hk' hins hini'
    (g := F0 m pc ls rest) rfl (by rw [hb]; exact d0) (Nat.le_refl _) (Nat.le_refl _)
  generalize hT1 : (T.setVm vm₁).pushCell { cls := cX, slots := kX.instanceTypes.map defaultValue, vm := .none } = T1 at X₁ st1
  have hcat : (Value.ref T.heap.size).category = 1 := rfl
  have hcellA : T1.heap[T.heap.size]? = some (freshCell cX kX) := by rw [← hT1]; exact State.heap_pushCell_size _ _
  have d3' : decode c.code (pc + 3) = .ok (.dup, 1) := by rw [hb]; exact d3
  have d4' : decode c.code (pc + 4) = .ok (.ldc is, 2) := by rw [hb]; exact d4
  have hstr' : vk_R own is text sa s' := vk_R.warm hW0 hstr
  obtain ⟨U, hsteps, hrun, hend, hW, hsame, ce, hce, hO⟩ := X₁.ctorThrowS hexec htr (own := own) (cls := cls) (names := names) (ic := ic) hown' hcls hnames h (fun x hx => nomatch hx) hfX hkX hcellA (by rw [hhp, hT]; exact Nat.le_refl _) (msg := .ref sa) rfl
    (g := { method := m, pc := pc + 6, locals := ls, stack := .ref sa :: .ref T.heap.size :: .ref T.heap.size :: rest, locked := none }) rfl hsize rfl rfl (rest := rest) rfl
    (by rw [hb]; exact d6) (by rw [hb]; exact d9) hout hRframes (by simp only [List.map_cons, List.sum_cons, hcat]; omega) hlocks
  obtain ⟨f1, f2⟩ := vx_frame hsame
  rw [hhp] at f1 f2
  have hWs : s.WarmedH U.vm := State.WarmedH.trans hW0 hW
  have hcl : s.vm.findClass cls = some ce.cls := by
    have h9 := hO.cls
    rw [hvm] at h9
    exact h9
  have hall : s.sameButNew ({ U with vm := s.vm } : State) locs mc ms := by
    subst hA
    obtain ⟨e1, e2⟩ := hsame
    rw [State.setFrames_setFrames] at e1
    have h2 : (T.setVm s.vm).sameButNew ({ U with vm := s.vm } : State) [] (0 + 1) (0 + 6) := ⟨e1, e2⟩
    have h3 := X.same.trans h2
    rw [List.append_nil] at h3
    exact h3.mono hc hs
  refine ⟨U, ?_, .threw T.heap.size, hrun, hend, Or.inr ⟨T.heap.size, rfl, cls, ce, locs, hx U hWs.alike f1 (fun q hq => f2 q hq (fun z hz => nomatch hz)), hce, hO.vm, hcl, hWs, hall, hf⟩⟩
  refine st1 _ ?_
  show Steps p.tables e below (T1.setTop { method := m, pc := pc + 3, locals := ls, stack := .ref T.heap.size :: rest, locked := none }) _
  jvm_step X₁.here [X₁.here.top, hexec, d3', Value.category]
  exact X₁.ldcString hexec (own := own) (text := text) (index := is) (a := sa) hown' hstr'.1 hstr'.2
    (g := { method := m, pc := pc + 4, locals := ls, stack := .ref T.heap.size :: .ref T.heap.size :: rest, locked := none }) rfl d4' _ hsteps
/-- 'throw new E("text")', the text by a wide index -/
theorem vx_throwSW {cc : ByteArray} {pc : Nat} (hexec : p.tables.exec = Jvm.exec) (hb : c.code = cc) (hl : l.stackTraces = false) {own cls text : String} {names : List String} {ik is ic mc ms sa : Nat} {A : Nat → Prop}
    (hown : s.vm.findClass own = some m.cls) (hcls : Bundle.fit cls = true) (hnames : ∀ n ∈ names, Bundle.fit n = true)
    (hk : (Cond.classLink own ik cls).before args s = true) (hini : (Cond.initialized cls).before args s = true) (hstr : vk_R own is text sa s) (hat : ∀ w ∈ vx_atS own ic cls names, w.before args s = true)
    (hgood : ∀ w ∈ Cond.classLink own ik cls :: Cond.initialized cls :: vx_atS own ic cls names, vx_ot w = true)
    (hU : vx_Zq Bundle.tN "UNASSIGNED_STACK" Bundle.steD A s s.heap) (hN : vx_Zq Bundle.tN "SUPPRESSED_SENTINEL" Bundle.listD A s s.heap) (hS : va_S A s.heap H locs) (hsize : ls.size = c.maxLocals)
    (d0 : decode cc pc = .ok (.new ik, 3)) (d3 : decode cc (pc + 3) = .ok (.dup, 1)) (d4 : decode cc (pc + 4) = .ok (.ldc_w is, 3)) (d7 : decode cc (pc + 7) = .ok (.invokespecial ic, 3)) (d10 : decode cc (pc + 10) = .ok (.athrow, 1))
    (hout : ∀ x ∈ c.exceptionTable.toList, covers x (pc + 10) = false)
    (hRframes : names.length + 3 < R.frames) (hRlocals : (rest.map fun v => v.category).sum + (13 * (names.length + 1) + 43) ≤ R.locals) (hRcells : cells + 1 ≤ R.cells) (hRslots : slots + 6 ≤ R.slots) (hlocks : meth.locks = false)
    (hx : ∀ t : State, s.vm.Alike t.vm → H.size ≤ t.heap.size → (∀ q : Nat, q < H.size → t.heap[q]? = H[q]?) → XC cls s t)
    (hf : ∀ z ∈ locs, free z.base) (hc : cells + 1 ≤ mc) (hs : slots + 6 ≤ ms) :
    W p l e R s m args below meth c H locs cells slots (vx_MQ below Qc XC args s mc ms free) (F0 m pc ls rest) := by
  intro T hT X
  have htr : e.platform.stackTraces = false := (show e.platform.stackTraces = l.stackTraces by rw [X.admits.platform]).trans hl
  have Y := vx_rebase X (R' := { frames := R.frames, locals := R.locals, cells := 1, slots := 6 }) (Nat.le_refl _) (Nat.le_refl _) hRcells hRslots
  obtain ⟨s', hA⟩ : ∃ z, z = (T.setVm s.vm).setFrames (.invoking m args :: below) := ⟨_, rfl⟩
  rw [← hA] at Y
  have hvm : s'.vm = s.vm := by rw [hA]; rfl
  have hhp : s'.heap = H := by rw [hA]; exact hT
  have hW0 : s.WarmedH s'.vm := by rw [hvm]; exact State.WarmedH.refl s
  have hat' : ∀ w ∈ vx_atS own ic cls names, w.before args s' = true := fun w hw => vx_ot_at hW0 hvm.symm (hgood w (List.mem_cons_of_mem _ (List.mem_cons_of_mem _ hw))) (hat w hw)
  have hk' : (Cond.classLink own ik cls).before args s' = true := vx_ot_at hW0 hvm.symm (hgood _ List.mem_cons_self) hk
  have hini' : (Cond.initialized cls).before args s' = true := vx_ot_at hW0 hvm.symm (hgood _ (List.mem_cons_of_mem _ List.mem_cons_self)) hini
  have hU' : vx_Zq Bundle.tN "UNASSIGNED_STACK" Bundle.steD A s' s'.heap := by rw [hhp]; exact vx_Zq.moved hW0.alike (hU.kept hS.2.1)
  have hN' : vx_Zq Bundle.tN "SUPPRESSED_SENTINEL" Bundle.listD A s' s'.heap := by rw [hhp]; exact vx_Zq.moved hW0.alike (hN.kept hS.2.1)
  have h : ∀ w ∈ Bundle.ownAtoms own ic cls names, w.before args s' = true := vx_own hat' (vx_isRefq hU'.1) (vx_isRefq hN'.1) hU'.2.word hN'.2.word
  have hown' : s'.vm.findClass own = some m.cls := by rw [hvm]; exact hown
  have hins : (Cond.instantiable cls 6).before args s' = true := h _ (by simp [Bundle.ownAtoms])
  obtain ⟨vm₁, cX, kX, hfX, hkX, -, -, X₁, st1⟩ := Y.newCold hexec (own := own) (C := cls) (index := ik) (n := 6) hown' hk' hins hini'
    (g := F0 m pc ls rest) rfl (by rw [hb]; exact d0) (Nat.le_refl _) (Nat.le_refl _)
  generalize hT1 : (T.setVm vm₁).pushCell { cls := cX, slots := kX.instanceTypes.map defaultValue, vm := .none } = T1 at X₁ st1
  have hcat : (Value.ref T.heap.size).category = 1 := rfl
  have hcellA : T1.heap[T.heap.size]? = some (freshCell cX kX) := by rw [← hT1]; exact State.heap_pushCell_size _ _
  have d3' : decode c.code (pc + 3) = .ok (.dup, 1) := by rw [hb]; exact d3
  have d4' : decode c.code (pc + 4) = .ok (.ldc_w is, 3) := by rw [hb]; exact d4
  have hstr' : vk_R own is text sa s' := vk_R.warm hW0 hstr
  obtain ⟨U, hsteps, hrun, hend, hW, hsame, ce, hce, hO⟩ := X₁.ctorThrowS hexec htr (own := own) (cls := cls) (names := names) (ic := ic) hown' hcls hnames h (fun x hx => nomatch hx) hfX hkX hcellA (by rw [hhp, hT]; exact Nat.le_refl _) (msg := .ref sa) rfl
    (g := { method := m, pc := pc + 7, locals := ls, stack := .ref sa :: .ref T.heap.size :: .ref T.heap.size :: rest, locked := none }) rfl hsize rfl rfl (rest := rest) rfl
    (by rw [hb]; exact d7) (by rw [hb]; exact d10) hout hRframes (by simp only [List.map_cons, List.sum_cons, hcat]; omega) hlocks
  obtain ⟨f1, f2⟩ := vx_frame hsame
  rw [hhp] at f1 f2
  have hWs : s.WarmedH U.vm := State.WarmedH.trans hW0 hW
  have hcl : s.vm.findClass cls = some ce.cls := by
    have h9 := hO.cls
    rw [hvm] at h9
    exact h9
  have hall : s.sameButNew ({ U with vm := s.vm } : State) locs mc ms := by
    subst hA
    obtain ⟨e1, e2⟩ := hsame
    rw [State.setFrames_setFrames] at e1
    have h2 : (T.setVm s.vm).sameButNew ({ U with vm := s.vm } : State) [] (0 + 1) (0 + 6) := ⟨e1, e2⟩
    have h3 := X.same.trans h2
    rw [List.append_nil] at h3
    exact h3.mono hc hs
  refine ⟨U, ?_, .threw T.heap.size, hrun, hend, Or.inr ⟨T.heap.size, rfl, cls, ce, locs, hx U hWs.alike f1 (fun q hq => f2 q hq (fun z hz => nomatch hz)), hce, hO.vm, hcl, hWs, hall, hf⟩⟩
  refine st1 _ ?_
  show Steps p.tables e below (T1.setTop { method := m, pc := pc + 3, locals := ls, stack := .ref T.heap.size :: rest, locked := none }) _
  jvm_step X₁.here [X₁.here.top, hexec, d3', Value.category]
  exact X₁.ldcStringW hexec (own := own) (text := text) (index := is) (a := sa) hown' hstr'.1 hstr'.2
    (g := { method := m, pc := pc + 4, locals := ls, stack := .ref T.heap.size :: .ref T.heap.size :: rest, locked := none }) rfl d4' _ hsteps
end Ends
section Bodies
variable {l : Launch}
theorem vx_ofW {y : MethodName} {ws ws' : List Cond} {rm : Room} {Pc : Array Value → State → Prop} {Qc : Array Value → State → Outcome → State → Prop} {XC : String → State → State → Prop} {mc ms : Nat} {free : Addr → Prop} {cc : ByteArray} {maxL : Nat} {ret : Option FieldType}
    (hy : plainName y.cls = true) (hw : ws = Cond.code y cc maxL ret :: ws')
    (body : ∀ p e s m args below meth c s₁, BodyLoose p l y (headSpec ws rm) cc maxL ret e s m args below meth c s₁ → c.maxLocals = maxL → (∀ x ∈ c.exceptionTable.toList, False) → Pc args s →
      W p l e (headSpec ws rm).room s m args below meth c s.heap [] 0 0 (vx_MQ below Qc XC args s mc ms free) (entryFrame m args maxL)) : vx_Met l y ws rm Pc Qc XC mc ms free := by
  refine MetFree.of_bodyS (code := cc) (maxLocals := maxL) (ret := ret) hy ?_ ?_
  · intro args s m h hn
    obtain ⟨meth, c, h1, h2, h3, h4, h5, h6, -, -⟩ := Cond.code_spec hn (atoms_spec (ws := ws) h _ (by rw [hw]; exact List.mem_cons_self))
    exact ⟨meth, c, h1, h2, h3, h4, h5, h6⟩
  · intro p e s m args below meth c s₁ B hml hP _
    have hh0 : s₁.heap = s.heap := by rw [B.state]; rfl
    have ht : ∀ x ∈ c.exceptionTable.toList, False := by
      obtain ⟨meth9, c9, h1, h2, -, -, -, -, h7, -⟩ := Cond.code_spec B.named (atoms_spec (ws := ws) B.pre _ (by rw [hw]; exact List.mem_cons_self))
      cases Option.some.inj (h1.symm.trans B.method)
      cases Option.some.inj (h2.symm.trans (Stand.of_body B).code)
      intro x hx
      rw [Array.isEmpty_iff.mp h7] at hx
      cases hx
    obtain ⟨t, a1, o, b1, b2, b3⟩ := body p e s m args below meth c s₁ B hml ht hP s₁ hh0 (Stand.of_body B)
    exact ⟨t, o, a1, b1, b2, b3⟩
/-- the table of a body with handlers -/
theorem vx_table {p : Program} {x y : MethodName} {S : Spec} {cc bytes : ByteArray} {maxL maxL' : Nat} {ret ret' : Option FieldType} {e : Env} {s s₁ : State} {m : MethodId} {args : Array Value} {below : List Frame} {meth : Method} {c : Code} {hh : List (Nat × Nat × Nat × Nat)}
    (B : BodyLoose p l y S cc maxL ret e s m args below meth c s₁) (h : (Cond.codeWith y bytes maxL' ret' hh).before args s = true) : c.exceptionTable.toList = tableOf hh := by
  obtain ⟨m9, meth9, c9, hn9, h1, h2, -, -, h6, -⟩ := Cond.codeWith_spec h
  cases Option.some.inj (hn9.symm.trans B.named)
  cases Option.some.inj (h1.symm.trans B.method)
  cases Option.some.inj (h2.symm.trans (Stand.of_body B).code)
  rw [← h6, table_eq]
end Bodies
end VXA
/-! ===== END ===== -/
/-! ===== BEGIN a static call of a method with an exception table ===== -/
section VXS
variable {p : Program} {l : Launch} {e : Env} {R : Room} {s : State} {m : MethodId} {args : Array Value} {below : List Frame} {meth : Method} {c : Code} {T : State} {H : Heap} {locs : List Loc} {cells slots : Nat}
abbrev vx_CSW (R : Room) (s : State) (args : Array Value) (own : String) (index : Nat) (y : MethodName) (bytes : ByteArray) (maxL : Nat) (ret : Option FieldType) (hh : List (Nat × Nat × Nat × Nat)) (ws : List Cond) (rm : Room) (mc ms n : Nat) : Prop :=
  (rm.cells = mc ∧ rm.slots = ms ∧ rm.frames + 1 ≤ R.frames ∧ 8 + (maxL + 11) + rm.locals ≤ R.locals ∧ (∀ w ∈ ws, ∀ (a' : Array Value) (U : State), s.WarmedH U.vm → w.before a' U = true) ∧ Cond.codeWith y bytes maxL ret hh ∈ ws) ∧
  (Cond.codeWith y bytes maxL ret hh).before args s = true ∧ (Cond.initialized y.cls).before args s = true ∧ (y.cls ≠ "java/lang/invoke/MethodHandle" ∧ y.cls ≠ "java/lang/invoke/VarHandle") ∧
  (∀ sig, parseMethodDescriptor y.desc = some sig → n = sig.parameters.length) ∧ (Cond.methodLink own index y).before args s = true ∧ (Cond.static y).before args s = true
theorem vx_cwSW {own : String} {index maxL mc ms : Nat} {y : MethodName} {bytes : ByteArray} {ret : Option FieldType} {hh : List (Nat × Nat × Nat × Nat)} {Ts ws ws' : List Cond} {rm : Room} (n : Nat) (ht : ∀ w ∈ Ts, w.before args s = true) (hT : GoodIn Ts (va_wsS own index y ws)) (hw : ws = Cond.codeWith y bytes maxL ret hh :: ws') (hrc : rm.cells = mc) (hrs : rm.slots = ms)
    (hd : y.cls ≠ "java/lang/invoke/MethodHandle" ∧ y.cls ≠ "java/lang/invoke/VarHandle" ∧ (parseMethodDescriptor y.desc).map (fun d => d.parameters.length) = some n) (hR : rm.frames + 1 ≤ R.frames ∧ 8 + (maxL + 11) + rm.locals ≤ R.locals) :
    vx_CSW R s args own index y bytes maxL ret hh ws rm mc ms n := by
  have ok : ∀ w ∈ va_wsS own index y ws, w.before args s = true := fun w h => ht w (hT w h).1
  have hG : GoodIn Ts ws := fun w h => hT w (by unfold va_wsS; exact List.mem_append_right _ h)
  have hc : Cond.codeWith y bytes maxL ret hh ∈ ws := by rw [hw]; exact List.mem_cons_self
  refine ⟨⟨hrc, hrs, hR.1, hR.2, pay_in ht hG, hc⟩, ht _ (hG _ hc).1, ok _ (by simp [va_wsS]), ⟨hd.1, hd.2.1⟩, fun sig h => ?_, ok _ (by simp [va_wsS]), ok _ (by simp [va_wsS])⟩
  have h2 := hd.2.2
  rw [h] at h2
  exact (Option.some.inj h2).symm
theorem vx_callSW (X : Stand p l e R s m args below meth c T locs cells slots) (hexec : p.tables.exec = Jvm.exec) {own : String} {index : Nat} {y : MethodName} {bytes : ByteArray} {maxL : Nat} {ret : Option FieldType} {hh : List (Nat × Nat × Nat × Nat)}
    (hown : s.vm.findClass own = some m.cls) (hlink : (Cond.methodLink own index y).before args s = true) (hstat : (Cond.static y).before args s = true) (hinit : (Cond.initialized y.cls).before args s = true)
    (hcode : (Cond.codeWith y bytes maxL ret hh).before args s = true) (hy : y.cls ≠ "java/lang/invoke/MethodHandle" ∧ y.cls ≠ "java/lang/invoke/VarHandle")
    {W9 : Nat} {Pre : Pt → Array Value → Prop} {Post : Pt → Array Value → Option Value → Pt → Prop} (hK : Back l R p e below s args y 3 W9 Pre Post)
    {g : JFrame} (hg : g.method = m) (hsize : g.locals.size = c.maxLocals) {argsL rest : List Value} (hlen : ∀ sig, parseMethodDescriptor y.desc = some sig → argsL.length = sig.parameters.length)
    (hstack : g.stack = argsL.reverse ++ rest) (hW : 2 * g.monitorRoom + (rest.map fun v => v.category).sum ≤ W9) (hdg : decode c.code g.pc = .ok (.invokestatic index, 3))
    (hpre : ∀ vm₁, s.WarmedH vm₁ → Pre ⟨T.setVm vm₁, locs, cells, slots⟩ argsL.toArray) :
    ∃ (v : Option Value) (vm₁ : Vm) (B : Pt), s.WarmedH vm₁ ∧ Stand p l e R s m args below meth c B.U B.locs B.cells B.slots ∧ Post ⟨T.setVm vm₁, locs, cells, slots⟩ argsL.toArray v B ∧
      ∀ target, Steps p.tables e below (B.U.setTop { g with pc := g.pc + 3, stack := v.toList ++ rest }) target → Steps p.tables e below (T.setTop g) target := by
  obtain ⟨mk, methM, cM, hnamed, hmethM, -, -, -, -, -, -, hsigM⟩ := Cond.codeWith_spec hcode
  have hstatic : methM.isStatic = true := Cond.static_spec hnamed hmethM hstat
  obtain ⟨kP, hkP, -⟩ := className_of_methodNamed hnamed
  have hinitP : kP.init = .initialized := Cond.initialized_spec (findClass_of_methodNamed hnamed) hkP hinit
  obtain ⟨vm₁, X₁, hstep₁⟩ := X.invokestatic hexec hown hlink hnamed hmethM hstatic hkP hinitP hy (g := g) hg (argsL := argsL) (rest := rest) (hlen _ hsigM) hstack hdg
  obtain ⟨v, B, X', hpost, hsteps⟩ := hK m meth c ⟨T.setVm vm₁, locs, cells, slots⟩ { g with stack := rest } (.invokestatic index) mk argsL.toArray X₁ hg hsize hdg hW (X₁.named hnamed) (hpre vm₁ X₁.warmed)
  exact ⟨v, vm₁, B, X₁.warmed, X', hpost, fun target h => hstep₁ _ fun acts => by rw [doInvoke_state]; exact hsteps.trans h⟩
theorem vx_runSW {y : MethodName} {bytes cc : ByteArray} {maxL nL mc ms n index : Nat} {ret : Option FieldType} {hh : List (Nat × Nat × Nat × Nat)} {ws : List Cond} {rm : Room} {Pc : Array Value → State → Prop} {Qc : Array Value → State → Outcome → State → Prop} {free : Addr → Prop} {Ts : List Cond} {own : String} {As rest : List Value} {g : JFrame}
    (S : CallFix p m c cc nL s args Ts own) (hM : Met l y ws rm Pc Qc mc ms free) (cw : vx_CSW R s args own index y bytes maxL ret hh ws rm mc ms n) (hp : PreS s H Pc As)
    (hg : g.method = m) (hn : As.length = n) (hsize : g.locals.size = nL) (hstack : g.stack = As.reverse ++ rest) (hW : 2 * g.monitorRoom + (rest.map fun v => v.category).sum ≤ 8) (hdg : decode cc g.pc = .ok (.invokestatic index, 3)) (hf : cells + mc ≤ R.cells ∧ slots + ms ≤ R.slots) :
    va_Run p l e R s m args below meth c H locs cells slots mc ms g rest (Qc As.toArray) (free) := by
  obtain ⟨⟨hrc, hrs, hfr, hlo, hws, hcw⟩, hcode, hini, hy, hlen, hl, hstt⟩ := cw
  have hK : Back l R p e below s args y 3 8 (PreOf R mc ms Pc) (PostOf Qc mc ms free) := va_backW (hh := hh) (bytes := bytes) (maxL := maxL) (ret := ret) hM hp.1 hrc hrs hfr hlo hws hcw (fun a' U hW => word_at hW (Or.inl (by first | rfl | simp [Cond.onTables, Cond.keeps, Cond.steady])) hini)
  obtain ⟨hx, hb, hml, ho, -⟩ := S
  intro T hT X
  obtain ⟨v, vm₁, ⟨U', l2, c2, s2⟩, hW₁, X', ⟨g', mk, t, L, e1, e2, hq, h1, hL, h2, h3⟩, st⟩ := vx_callSW X hx (hh := hh) (bytes := bytes) (maxL := maxL) (ret := ret) ho hl hstt hini hcode hy hK hg (hsize.trans hml.symm) (argsL := As) (rest := rest) (fun sig h => hn.trans (hlen sig h)) hstack hW (by rw [hb]; exact hdg)
    (fun vm₁ hW₁ => ⟨hf.1, hf.2, hp.2 (T.setVm vm₁) hT hW₁⟩)
  dsimp only [Pt.U, Pt.locs, Pt.cells, Pt.slots] at X' e1 e2 h1 h2 h3 st
  subst h1; subst h2; subst h3
  exact ⟨v, (T.setVm vm₁).calling g' mk As.toArray, t, U', L, hT, X', hL, e1, e2, hq, st⟩
/-- not caught here, past rows that name other classes: it goes on to the caller -/
theorem vx_outP {p : Program} {l : Launch} {e : Env} {R : Room} {s : State} {m : MethodId} {args : Array Value} {below : List Frame} {meth : Method} {c : Code} {H : Heap} {locs : List Loc} {cells slots : Nat} {free : Addr → Prop} {ls : Array Slot} {rest : List Value} {Qc : Array Value → State → Outcome → State → Prop} {XC : String → State → State → Prop}
    {pc : Nat} {own E : String} {ce : Cell} {q : Addr} {mc ms : Nat} (hown : s.vm.findClass own = some m.cls) (hlocks : meth.locks = false)
    (hpass : ∀ z ∈ c.exceptionTable.toList, covers z pc = false ∨ (z.catchType ≠ 0 ∧ ∃ nm : String, (Cond.classLink own z.catchType nm).before args s = true ∧ va_Nc E nm s)) (hcell : H[q]? = some ce) (hv : ce.vm = .none) (hcl : s.vm.findClass E = some ce.cls)
    (hx : ∀ t : State, t.heap = H → s.vm.Alike t.vm → XC E s t) (hf : ∀ z ∈ locs, free z.base) (hc : cells ≤ mc) (hs : slots ≤ ms) :
    vx_W p l e R s m args below meth c H locs cells slots (vx_MQ below Qc XC args s mc ms free) (F0 m pc ls rest) q := by
  intro T hT X
  have hpl : e.platform.magicAccessors = ({} : Platform).magicAccessors := by rw [X.admits.platform]
  obtain ⟨vm', hW', X', st⟩ := X.outThrough hlocks q (g := F0 m pc ls rest) rfl rfl rfl (cell := ce) (by rw [hT]; exact hcell) (by rw [hv]; rfl)
    (by obtain ⟨k9, h9, -⟩ := Vm.findClass_spec hcl; exact ⟨k9, h9⟩) (fun z hz => by
      rcases hpass z hz with h | ⟨hz0, nm, hl1, hn1⟩
      · exact Or.inl h
      · obtain ⟨c6, hc6, hcl6⟩ := Cond.classLink_spec hown hl1 e.platform hpl
        obtain ⟨a8, b8, h1, h2, h3⟩ := hn1
        cases Option.some.inj (h1.symm.trans hcl)
        cases Option.some.inj (h2.symm.trans hc6)
        exact Or.inr ⟨hz0, _, hcl6, h3⟩)
  obtain ⟨g₀, hfr⟩ := X'.frames_eq
  have hcell9 : ((T.setVm vm').setFrames (.throwing q :: below)).heap[q]? = some ce := by
    show T.heap[q]? = some ce
    rw [hT]; exact hcell
  have hend : Ended ((T.setVm vm').setFrames (.throwing q :: below)) below (.threw q) := State.frames_setFrames _ (State.cur_lt_of_frames hfr)
  refine ⟨(T.setVm vm').setFrames (.throwing q :: below), ?_, .threw q, X'.here.running, hend, Or.inr ⟨q, rfl, E, ce, locs, hx _ hT (X'.ends _).1.alike, hcell9, hv, hcl, (X'.ends _).1, (X'.ends _).2.mono hc hs, hf⟩⟩
  rw [X.pushThrowing_eq]
  exact st
/-- a thing of a world lies in the heap -/
theorem vx_lt {D : va_G} {cl : List vw_C} {ws : va_W} {H1 : Heap} (h : va_P D cl ws H1) {k : Nat} {q : Nat × va_E} (hk : ws[k]? = some q) : q.1 < H1.size := (h k q hk).lt
end VXS
/-! ===== END ===== -/
/-! ===== BEGIN methods with a table of their own: called by a name, returning or throwing ===== -/
section VXH
/-! vx_backW, vx_callVX, vx_callSX, vx_callVW, vx_runVW, vx_runVX, vx_runSX, vx_ofWH follow the same proofs as their sisters above (Free/Laws.lean, Shelf42/LK1.lean); vx_outP calls Shelf42/NT130.lean (outThrough). -/
section
variable {l : Launch} {R : Room} {p : Program} {e : Env} {below : List Frame} {s : State} {sargs : Array Value} {y : MethodName} {len W9 : Nat}
theorem vx_backW {ws : List Cond} {rm : Room} {Pc : Array Value → State → Prop} {Qc : Array Value → State → Outcome → State → Prop} {XC : String → State → State → Prop} {mc ms : Nat} {free : Addr → Prop} {bytes : ByteArray} {maxL : Nat} {ret : Option FieldType} {hh : List (Nat × Nat × Nat × Nat)}
    (hM : vx_Met l y ws rm Pc Qc XC mc ms free) (hblind : FrameBlind Pc) (hrc : rm.cells = mc) (hrs : rm.slots = ms)
    (hframes : rm.frames + 1 ≤ R.frames) (hlocals : W9 + (maxL + 11) + rm.locals ≤ R.locals)
    (hws : ∀ w ∈ ws, ∀ a' U, s.WarmedH U.vm → w.before a' U = true) (hcode : Cond.codeWith y bytes maxL ret hh ∈ ws) (hinit : ∀ a' U, s.WarmedH U.vm → (Cond.initialized y.cls).before a' U = true) :
    vx_Back l R p e below s sargs y len W9 (PreOf R mc ms Pc) (PostOf Qc mc ms free) (vx_Post XC mc ms free) := by
  intro m meth c A g ig mk a X hg hsize hdg hW hn hp
  have h1 : (headSpec ws rm).pre.before a A.U = true := atoms_intro fun w hw => hws w hw _ _ X.warmed
  have h2 : (Cond.codeWith y bytes maxL ret hh).before a A.U = true := hws _ hcode _ _ X.warmed
  have h3 : (Cond.initialized y.cls).before a A.U = true := hinit _ _ X.warmed
  have h4 : A.cells + (headSpec ws rm).room.cells ≤ R.cells := by rw [show (headSpec ws rm).room.cells = mc from hrc]; exact hp.1
  have h5 : A.slots + (headSpec ws rm).room.slots ≤ R.slots := by rw [show (headSpec ws rm).room.slots = ms from hrs]; exact hp.2.1
  have hPc : Pc a (A.U.calling g mk a) := hblind _ _ _ _ hp.2.2
  obtain ⟨U, Ls, c0, s0⟩ := A
  dsimp only [Pt.U, Pt.locs, Pt.cells, Pt.slots] at h1 h2 h3 h4 h5 X hn hPc ⊢
  obtain ⟨m9, methY, cY, hn9, hmY, hcY, -, hlY, -⟩ := Cond.codeWith_spec h2
  cases Option.some.inj (hn9.symm.trans hn)
  obtain ⟨kY, hkY, -⟩ := className_of_methodNamed hn
  have hinitY : kY.init = .initialized := Cond.initialized_spec (findClass_of_methodNamed hn) hkY h3
  have h : At U g.method c below := by rw [hg]; exact X.here
  have hlocals9 : W9 + (maxL + 11) + (headSpec ws rm).room.locals ≤ R.locals := hlocals
  have happ : (headSpec ws rm).appliesLoose y e.platform (U.calling g mk a) = true :=
    Spec.appliesLoose_calling (g := g) h hdg hn hkY hinitY
      (X.room_calling (g := g) (R' := (headSpec ws rm).room) hsize hmY hcY hframes (by rw [hlY]; omega) h4 h5) h1
  obtain ⟨mid, hmid⟩ := h.above
  have hfr : (U.setTop g).frames = (.java g :: mid) ++ below := by rw [State.frames_setTop' g h.top, hmid]; rfl
  obtain ⟨o, s₂, hsteps, -, hend, hq⟩ := Steps.callFree hM p X.admits X.cas X.clock (acts := []) hfr happ hPc trivial
  have hq' : vx_Q Qc XC mc ms free a (U.calling g mk a) o s₂ := hq
  rw [State.frames_setTop' g h.top] at hend
  obtain ⟨g₀, hg0⟩ := Option.isSome_iff_exists.mp h.top
  obtain ⟨r, hr⟩ := State.topJava?_eq_some.mp hg0
  have hr' : (({ U with heap := s₂.heap, slotsUsed := s₂.slotsUsed } : State).setVm s₂.vm).frames = .java g₀ :: r := hr
  rcases hq' with ⟨hqc, L, hfe, hL⟩ | ⟨q, rfl, E, ce, L, hx, hce, hcv, hcl, hW₂, hsm, hL⟩
  · obtain ⟨⟨v, rfl⟩, hW₂, e2, q2, q3, q4, q5, q6⟩ := id hfe
    have e3 : s₂ = ({ (U.calling g mk a).setFrames s₂.frames with heap := s₂.heap, slotsUsed := s₂.slotsUsed } : State).setVm s₂.vm := by
      have : s₂ = ({ s₂ with vm := (U.calling g mk a).vm } : State).setVm s₂.vm := rfl
      rw [e2] at this
      exact this
    obtain ⟨c₂, i₂, len₂, hc₂, hd₂, hf₂⟩ := hend
    have hW' : U.WarmedH s₂.vm := hW₂
    have hcc : c₂ = c := by
      have h1 : s₂.code? g.method = U.code? g.method := by
        rw [State.code?_eq, State.code?_eq, hW'.alike.method?]
      exact Option.some.inj (hc₂.symm.trans (h1.trans h.code))
    subst hcc
    have hlen : len₂ = len := by rw [hdg] at hd₂; cases hd₂; rfl
    subst hlen
    have hs₂ : s₂ = (({ U with heap := s₂.heap, slotsUsed := s₂.slotsUsed } : State).setVm s₂.vm).setTop { g with pc := g.pc + len₂, stack := v.toList ++ g.stack } := by
      refine e3.trans ?_
      rw [hf₂, State.calling_eq h.top, State.setFrames_setFrames, State.setTop_of_frames _ hr', hr]
      rfl
    have hsame : U.sameButNew ({ U with heap := s₂.heap, slotsUsed := s₂.slotsUsed } : State) L mc ms := by
      refine ⟨?_, q2, q3, q4, q5, q6⟩
      obtain ⟨t, ht, -⟩ := State.frames_cons hr
      show ({ U with heap := s₂.heap, slotsUsed := s₂.slotsUsed } : State) = { U.setFrames U.frames with heap := s₂.heap, slotsUsed := s₂.slotsUsed }
      rw [State.setFrames_self ht]
    subst hg
    refine Or.inl ⟨v, ⟨(({ U with heap := s₂.heap, slotsUsed := s₂.slotsUsed } : State).setVm s₂.vm), Ls ++ L, c0 + mc, s0 + ms⟩,
      ⟨X.admits, X.cas, X.clock, X.frames, X.room, X.hears, X.method, X.code, (X.here.setHeapUsed s₂.heap s₂.slotsUsed).setVm hW'.alike, X.tail, State.WarmedH.trans X.warmed hW', X.limits, X.bytes, X.same.trans (hsame.setVm s.vm)⟩,
      ⟨g, mk, s₂, L, rfl, rfl, hqc, rfl, hL, rfl, rfl⟩, ?_⟩
    show Steps p.tables e below _ ((({ U with heap := s₂.heap, slotsUsed := s₂.slotsUsed } : State).setVm s₂.vm).setTop { g with pc := g.pc + len₂, stack := v.toList ++ g.stack })
    rw [← hs₂]
    exact hsteps
  · obtain ⟨e2, q2, q3, q4, q5, q6⟩ := id hsm
    have e3 : s₂ = ({ (U.calling g mk a).setFrames s₂.frames with heap := s₂.heap, slotsUsed := s₂.slotsUsed } : State).setVm s₂.vm := by
      have : s₂ = ({ s₂ with vm := (U.calling g mk a).vm } : State).setVm s₂.vm := rfl
      rw [e2] at this
      exact this
    have hf₂ : s₂.frames = .throwing q :: .java g :: U.frames.tail := hend
    have hW' : U.WarmedH s₂.vm := hW₂
    have hs₂ : s₂ = ((({ U with heap := s₂.heap, slotsUsed := s₂.slotsUsed } : State).setVm s₂.vm).setTop g).pushFrame (.throwing q) := by
      refine e3.trans ?_
      rw [hf₂, State.calling_eq h.top, State.setFrames_setFrames, State.pushFrame, State.frames_setTop _ hr', State.setTop_of_frames _ hr', State.setFrames_setFrames, hr]
      rfl
    have hsame : U.sameButNew ({ U with heap := s₂.heap, slotsUsed := s₂.slotsUsed } : State) L mc ms := by
      refine ⟨?_, q2, q3, q4, q5, q6⟩
      obtain ⟨t, ht, -⟩ := State.frames_cons hr
      show ({ U with heap := s₂.heap, slotsUsed := s₂.slotsUsed } : State) = { U.setFrames U.frames with heap := s₂.heap, slotsUsed := s₂.slotsUsed }
      rw [State.setFrames_self ht]
    subst hg
    refine Or.inr ⟨q, ⟨(({ U with heap := s₂.heap, slotsUsed := s₂.slotsUsed } : State).setVm s₂.vm), Ls ++ L, c0 + mc, s0 + ms⟩,
      ⟨X.admits, X.cas, X.clock, X.frames, X.room, X.hears, X.method, X.code, (X.here.setHeapUsed s₂.heap s₂.slotsUsed).setVm hW'.alike, X.tail, State.WarmedH.trans X.warmed hW', X.limits, X.bytes, X.same.trans (hsame.setVm s.vm)⟩,
      ⟨g, mk, s₂, L, E, ce, rfl, rfl, hx, hce, hcv, hcl, rfl, hL, rfl, rfl⟩, ?_⟩
    show Steps p.tables e below _ (((({ U with heap := s₂.heap, slotsUsed := s₂.slotsUsed } : State).setVm s₂.vm).setTop g).pushFrame (.throwing q))
    rw [← hs₂]
    exact hsteps
end
variable {p : Program} {l : Launch} {e : Env} {R : Room} {s : State} {m : MethodId} {args : Array Value} {below : List Frame} {meth : Method} {c : Code} {T : State} {H : Heap} {locs : List Loc} {cells slots : Nat}
theorem vx_callVX (X : Stand p l e R s m args below meth c T locs cells slots) (hexec : p.tables.exec = Jvm.exec) {own C : String} {index : Nat} {y : MethodName} {bytes : ByteArray} {maxL : Nat} {ret : Option FieldType} {hh : List (Nat × Nat × Nat × Nat)}
    (hown : s.vm.findClass own = some m.cls) (hlink : (Cond.methodLink own index y).before args s = true) (hinst : (Cond.instanceMethod y).before args s = true) (hsel : (Cond.selects C y y).before args s = true)
    (hcode : (Cond.codeWith y bytes maxL ret hh).before args s = true) (hy : y.cls ≠ "java/lang/invoke/MethodHandle" ∧ y.cls ≠ "java/lang/invoke/VarHandle")
    {W9 : Nat} {Pre : Pt → Array Value → Prop} {Post : Pt → Array Value → Option Value → Pt → Prop} {PostX : Pt → Array Value → Addr → Pt → Prop} (hK : vx_Back l R p e below s args y 3 W9 Pre Post PostX)
    {b : Addr} {cellB : Cell} (hcell : T.heap[b]? = some cellB) (hobj : cellB.vm.isStatics = false) (hcls : s.vm.findClass C = some cellB.cls)
    {g : JFrame} (hg : g.method = m) (hsize : g.locals.size = c.maxLocals) {argsL rest : List Value} (hlen : ∀ sig, parseMethodDescriptor y.desc = some sig → argsL.length = sig.parameters.length)
    (hstack : g.stack = argsL.reverse ++ .ref b :: rest) (hW : 2 * g.monitorRoom + (rest.map fun v => v.category).sum ≤ W9) (hdg : decode c.code g.pc = .ok (.invokevirtual index, 3))
    (hpre : ∀ vm₁, s.WarmedH vm₁ → Pre ⟨T.setVm vm₁, locs, cells, slots⟩ (Value.ref b :: argsL).toArray) :
    (∃ (v : Option Value) (vm₁ : Vm) (B : Pt), s.WarmedH vm₁ ∧ Stand p l e R s m args below meth c B.U B.locs B.cells B.slots ∧ Post ⟨T.setVm vm₁, locs, cells, slots⟩ (Value.ref b :: argsL).toArray v B ∧
      ∀ target, Steps p.tables e below (B.U.setTop { g with pc := g.pc + 3, stack := v.toList ++ rest }) target → Steps p.tables e below (T.setTop g) target) ∨
    (∃ (q : Addr) (vm₁ : Vm) (B : Pt), s.WarmedH vm₁ ∧ Stand p l e R s m args below meth c B.U B.locs B.cells B.slots ∧ PostX ⟨T.setVm vm₁, locs, cells, slots⟩ (Value.ref b :: argsL).toArray q B ∧
      Steps p.tables e below (T.setTop g) ((B.U.setTop { g with stack := rest }).pushFrame (.throwing q))) := by
  obtain ⟨mk, methM, hnamed, hmethM, hstM, habM⟩ := Cond.instanceMethod_spec hinst
  obtain ⟨m8, methM', cM, hn8, hmethM', -, -, -, -, -, -, hsigM⟩ := Cond.codeWith_spec hcode
  cases Option.some.inj (hn8.symm.trans hnamed)
  cases hmethM.symm.trans hmethM'
  obtain ⟨c2, r2, m2, q1, q2, q3, q4, kP, hkP, hkPi⟩ := Cond.selects_spec hsel
  cases hcls.symm.trans q1
  cases (State.methodFound?_of_named hnamed hy).symm.trans q2
  cases hnamed.symm.trans q3
  have hselP : selectMethod e.platform s.vm cellB.cls mk = .method mk := by rw [Launch.admits_selectMethod X.admits]; exact q4
  obtain ⟨vm₁, X₁, hstep₁⟩ := X.invokevirtual hexec hown hlink hnamed hmethM hstM hkP hkPi hy (a := b) (cell := cellB) hcell
    (fun z h => by rw [h] at hobj; cases hobj) hselP hmethM habM hkP hkPi (g := g) hg (argsL := argsL) (rest := rest) (hlen _ hsigM) hstack hdg
  rcases hK m meth c ⟨T.setVm vm₁, locs, cells, slots⟩ { g with stack := rest } (.invokevirtual index) mk (Value.ref b :: argsL).toArray X₁ hg hsize hdg hW (X₁.named hnamed) (hpre vm₁ X₁.warmed) with ⟨v, B, X', hpost, hsteps⟩ | ⟨q, B, X', hpost, hsteps⟩
  · exact Or.inl ⟨v, vm₁, B, X₁.warmed, X', hpost, fun target h => hstep₁ _ fun acts => by rw [doInvoke_state]; exact hsteps.trans h⟩
  · exact Or.inr ⟨q, vm₁, B, X₁.warmed, X', hpost, hstep₁ _ fun acts => by rw [doInvoke_state]; exact hsteps⟩
theorem vx_callSX (X : Stand p l e R s m args below meth c T locs cells slots) (hexec : p.tables.exec = Jvm.exec) {own : String} {index : Nat} {y : MethodName} {bytes : ByteArray} {maxL : Nat} {ret : Option FieldType} {hh : List (Nat × Nat × Nat × Nat)}
    (hown : s.vm.findClass own = some m.cls) (hlink : (Cond.methodLink own index y).before args s = true) (hstat : (Cond.static y).before args s = true) (hinit : (Cond.initialized y.cls).before args s = true)
    (hcode : (Cond.codeWith y bytes maxL ret hh).before args s = true) (hy : y.cls ≠ "java/lang/invoke/MethodHandle" ∧ y.cls ≠ "java/lang/invoke/VarHandle")
    {W9 : Nat} {Pre : Pt → Array Value → Prop} {Post : Pt → Array Value → Option Value → Pt → Prop} {PostX : Pt → Array Value → Addr → Pt → Prop} (hK : vx_Back l R p e below s args y 3 W9 Pre Post PostX)
    {g : JFrame} (hg : g.method = m) (hsize : g.locals.size = c.maxLocals) {argsL rest : List Value} (hlen : ∀ sig, parseMethodDescriptor y.desc = some sig → argsL.length = sig.parameters.length)
    (hstack : g.stack = argsL.reverse ++ rest) (hW : 2 * g.monitorRoom + (rest.map fun v => v.category).sum ≤ W9) (hdg : decode c.code g.pc = .ok (.invokestatic index, 3))
    (hpre : ∀ vm₁, s.WarmedH vm₁ → Pre ⟨T.setVm vm₁, locs, cells, slots⟩ argsL.toArray) :
    (∃ (v : Option Value) (vm₁ : Vm) (B : Pt), s.WarmedH vm₁ ∧ Stand p l e R s m args below meth c B.U B.locs B.cells B.slots ∧ Post ⟨T.setVm vm₁, locs, cells, slots⟩ argsL.toArray v B ∧
      ∀ target, Steps p.tables e below (B.U.setTop { g with pc := g.pc + 3, stack := v.toList ++ rest }) target → Steps p.tables e below (T.setTop g) target) ∨
    (∃ (q : Addr) (vm₁ : Vm) (B : Pt), s.WarmedH vm₁ ∧ Stand p l e R s m args below meth c B.U B.locs B.cells B.slots ∧ PostX ⟨T.setVm vm₁, locs, cells, slots⟩ argsL.toArray q B ∧
      Steps p.tables e below (T.setTop g) ((B.U.setTop { g with stack := rest }).pushFrame (.throwing q))) := by
  obtain ⟨mk, methM, cM, hnamed, hmethM, -, -, -, -, -, -, hsigM⟩ := Cond.codeWith_spec hcode
  have hstatic : methM.isStatic = true := Cond.static_spec hnamed hmethM hstat
  obtain ⟨kP, hkP, -⟩ := className_of_methodNamed hnamed
  have hinitP : kP.init = .initialized := Cond.initialized_spec (findClass_of_methodNamed hnamed) hkP hinit
  obtain ⟨vm₁, X₁, hstep₁⟩ := X.invokestatic hexec hown hlink hnamed hmethM hstatic hkP hinitP hy (g := g) hg (argsL := argsL) (rest := rest) (hlen _ hsigM) hstack hdg
  rcases hK m meth c ⟨T.setVm vm₁, locs, cells, slots⟩ { g with stack := rest } (.invokestatic index) mk argsL.toArray X₁ hg hsize hdg hW (X₁.named hnamed) (hpre vm₁ X₁.warmed) with ⟨v, B, X', hpost, hsteps⟩ | ⟨q, B, X', hpost, hsteps⟩
  · exact Or.inl ⟨v, vm₁, B, X₁.warmed, X', hpost, fun target h => hstep₁ _ fun acts => by rw [doInvoke_state]; exact hsteps.trans h⟩
  · exact Or.inr ⟨q, vm₁, B, X₁.warmed, X', hpost, hstep₁ _ fun acts => by rw [doInvoke_state]; exact hsteps⟩
theorem vx_callVW (X : Stand p l e R s m args below meth c T locs cells slots) (hexec : p.tables.exec = Jvm.exec) {own C : String} {index : Nat} {y : MethodName} {bytes : ByteArray} {maxL : Nat} {ret : Option FieldType} {hh : List (Nat × Nat × Nat × Nat)}
    (hown : s.vm.findClass own = some m.cls) (hlink : (Cond.methodLink own index y).before args s = true) (hinst : (Cond.instanceMethod y).before args s = true) (hsel : (Cond.selects C y y).before args s = true)
    (hcode : (Cond.codeWith y bytes maxL ret hh).before args s = true) (hy : y.cls ≠ "java/lang/invoke/MethodHandle" ∧ y.cls ≠ "java/lang/invoke/VarHandle")
    {W9 : Nat} {Pre : Pt → Array Value → Prop} {Post : Pt → Array Value → Option Value → Pt → Prop} (hK : Back l R p e below s args y 3 W9 Pre Post)
    {b : Addr} {cellB : Cell} (hcell : T.heap[b]? = some cellB) (hobj : cellB.vm.isStatics = false) (hcls : s.vm.findClass C = some cellB.cls)
    {g : JFrame} (hg : g.method = m) (hsize : g.locals.size = c.maxLocals) {argsL rest : List Value} (hlen : ∀ sig, parseMethodDescriptor y.desc = some sig → argsL.length = sig.parameters.length)
    (hstack : g.stack = argsL.reverse ++ .ref b :: rest) (hW : 2 * g.monitorRoom + (rest.map fun v => v.category).sum ≤ W9) (hdg : decode c.code g.pc = .ok (.invokevirtual index, 3))
    (hpre : ∀ vm₁, s.WarmedH vm₁ → Pre ⟨T.setVm vm₁, locs, cells, slots⟩ (Value.ref b :: argsL).toArray) :
    ∃ (v : Option Value) (vm₁ : Vm) (B : Pt), s.WarmedH vm₁ ∧ Stand p l e R s m args below meth c B.U B.locs B.cells B.slots ∧ Post ⟨T.setVm vm₁, locs, cells, slots⟩ (Value.ref b :: argsL).toArray v B ∧
      ∀ target, Steps p.tables e below (B.U.setTop { g with pc := g.pc + 3, stack := v.toList ++ rest }) target → Steps p.tables e below (T.setTop g) target := by
  obtain ⟨mk, methM, hnamed, hmethM, hstM, habM⟩ := Cond.instanceMethod_spec hinst
  obtain ⟨m8, methM', cM, hn8, hmethM', -, -, -, -, -, -, hsigM⟩ := Cond.codeWith_spec hcode
  cases Option.some.inj (hn8.symm.trans hnamed)
  cases hmethM.symm.trans hmethM'
  obtain ⟨c2, r2, m2, q1, q2, q3, q4, kP, hkP, hkPi⟩ := Cond.selects_spec hsel
  cases hcls.symm.trans q1
  cases (State.methodFound?_of_named hnamed hy).symm.trans q2
  cases hnamed.symm.trans q3
  have hselP : selectMethod e.platform s.vm cellB.cls mk = .method mk := by rw [Launch.admits_selectMethod X.admits]; exact q4
  obtain ⟨vm₁, X₁, hstep₁⟩ := X.invokevirtual hexec hown hlink hnamed hmethM hstM hkP hkPi hy (a := b) (cell := cellB) hcell
    (fun z h => by rw [h] at hobj; cases hobj) hselP hmethM habM hkP hkPi (g := g) hg (argsL := argsL) (rest := rest) (hlen _ hsigM) hstack hdg
  obtain ⟨v, B, X', hpost, hsteps⟩ := hK m meth c ⟨T.setVm vm₁, locs, cells, slots⟩ { g with stack := rest } (.invokevirtual index) mk (Value.ref b :: argsL).toArray X₁ hg hsize hdg hW (X₁.named hnamed) (hpre vm₁ X₁.warmed)
  exact ⟨v, vm₁, B, X₁.warmed, X', hpost, fun target h => hstep₁ _ fun acts => by rw [doInvoke_state]; exact hsteps.trans h⟩
abbrev vx_CVW (R : Room) (s : State) (args : Array Value) (own C : String) (index : Nat) (y : MethodName) (bytes : ByteArray) (maxL : Nat) (ret : Option FieldType) (hh : List (Nat × Nat × Nat × Nat)) (ws : List Cond) (rm : Room) (mc ms n : Nat) : Prop :=
  (rm.cells = mc ∧ rm.slots = ms ∧ rm.frames + 1 ≤ R.frames ∧ 8 + (maxL + 11) + rm.locals ≤ R.locals ∧ (∀ w ∈ ws, ∀ (a' : Array Value) (U : State), s.WarmedH U.vm → w.before a' U = true) ∧ Cond.codeWith y bytes maxL ret hh ∈ ws) ∧
  (Cond.codeWith y bytes maxL ret hh).before args s = true ∧ (Cond.initialized y.cls).before args s = true ∧ (y.cls ≠ "java/lang/invoke/MethodHandle" ∧ y.cls ≠ "java/lang/invoke/VarHandle") ∧
  (∀ sig, parseMethodDescriptor y.desc = some sig → n = sig.parameters.length) ∧ (Cond.methodLink own index y).before args s = true ∧ (Cond.instanceMethod y).before args s = true ∧ (Cond.selects C y y).before args s = true
theorem vx_cwVW {own C : String} {index maxL mc ms : Nat} {y : MethodName} {bytes : ByteArray} {ret : Option FieldType} {hh : List (Nat × Nat × Nat × Nat)} {Ts ws ws' : List Cond} {rm : Room} (n : Nat) (ht : ∀ w ∈ Ts, w.before args s = true) (hT : GoodIn Ts (wsV own index C y ws)) (hw : ws = Cond.codeWith y bytes maxL ret hh :: ws') (hrc : rm.cells = mc) (hrs : rm.slots = ms)
    (hd : y.cls = C ∧ y.cls ≠ "java/lang/invoke/MethodHandle" ∧ y.cls ≠ "java/lang/invoke/VarHandle" ∧ (parseMethodDescriptor y.desc).map (fun d => d.parameters.length) = some n) (hR : rm.frames + 1 ≤ R.frames ∧ 8 + (maxL + 11) + rm.locals ≤ R.locals) :
    vx_CVW R s args own C index y bytes maxL ret hh ws rm mc ms n := by
  obtain ⟨hC, hd⟩ := hd
  subst hC
  have ok : ∀ w ∈ wsV own index y.cls y ws, w.before args s = true := fun w h => ht w (hT w h).1
  have hG : GoodIn Ts ws := fun w h => hT w (by unfold wsV; exact List.mem_append_right _ h)
  have hc : Cond.codeWith y bytes maxL ret hh ∈ ws := by rw [hw]; exact List.mem_cons_self
  refine ⟨⟨hrc, hrs, hR.1, hR.2, pay_in ht hG, hc⟩, ht _ (hG _ hc).1, ok _ (by simp [wsV]), ⟨hd.1, hd.2.1⟩, fun sig h => ?_, ok _ (by simp [wsV]), ok _ (by simp [wsV]), ok _ (by simp [wsV])⟩
  have h2 := hd.2.2
  rw [h] at h2
  exact (Option.some.inj h2).symm
theorem vx_runVW {y : MethodName} {bytes cc : ByteArray} {maxL nL mc ms n index : Nat} {ret : Option FieldType} {hh : List (Nat × Nat × Nat × Nat)} {ws : List Cond} {rm : Room} {Pc : Array Value → State → Prop} {Qc : Array Value → State → Outcome → State → Prop} {free : Addr → Prop} {Ts : List Cond} {own C : String} {b : Addr} {As rest : List Value} {g : JFrame}
    (S : CallFix p m c cc nL s args Ts own) (hM : Met l y ws rm Pc Qc mc ms free) (cw : vx_CVW R s args own C index y bytes maxL ret hh ws rm mc ms n) (hp : PreV s H C b Pc As)
    (hg : g.method = m) (hn : As.length = n) (hsize : g.locals.size = nL) (hstack : g.stack = As.reverse ++ .ref b :: rest) (hW : 2 * g.monitorRoom + (rest.map fun v => v.category).sum ≤ 8) (hdg : decode cc g.pc = .ok (.invokevirtual index, 3)) (hf : cells + mc ≤ R.cells ∧ slots + ms ≤ R.slots) :
    va_Run p l e R s m args below meth c H locs cells slots mc ms g rest (Qc (Value.ref b :: As).toArray) free := by
  obtain ⟨⟨hrc, hrs, hfr, hlo, hws, hcw⟩, hcode, hini, hy, hlen, hl, hin, hse⟩ := cw
  have hK : Back l R p e below s args y 3 8 (PreOf R mc ms Pc) (PostOf Qc mc ms free) := va_backW (hh := hh) (bytes := bytes) (maxL := maxL) (ret := ret) hM hp.1 hrc hrs hfr hlo hws hcw (fun a' U hW => word_at hW (Or.inl (by first | rfl | simp [Cond.onTables, Cond.keeps, Cond.steady])) hini)
  obtain ⟨hx, hb, hml, ho, -⟩ := S
  obtain ⟨-, ⟨cellB, hcB, hoB, hclB⟩, hPc⟩ := hp
  intro T hT X
  obtain ⟨v, vm₁, ⟨U', l2, c2, s2⟩, hW₁, X', ⟨g', mk, t, L, e1, e2, hq, h1, hL, h2, h3⟩, st⟩ := vx_callVW X hx (C := C) (hh := hh) (bytes := bytes) (maxL := maxL) (ret := ret) ho hl hin hse hcode hy hK (by rw [hT]; exact hcB) hoB hclB hg (hsize.trans hml.symm) (argsL := As) (rest := rest) (fun sig h => hn.trans (hlen sig h)) hstack hW (by rw [hb]; exact hdg)
    (fun vm₁ hW₁ => ⟨hf.1, hf.2, hPc (T.setVm vm₁) hT hW₁⟩)
  dsimp only [Pt.U, Pt.locs, Pt.cells, Pt.slots] at X' e1 e2 h1 h2 h3 st
  subst h1; subst h2; subst h3
  exact ⟨v, (T.setVm vm₁).calling g' mk (Value.ref b :: As).toArray, t, U', L, hT, X', hL, e1, e2, hq, st⟩
section
variable {y : MethodName} {bytes cc : ByteArray} {maxL nL mc ms n index : Nat} {ret : Option FieldType} {ws : List Cond} {rm : Room} {Pc : Array Value → State → Prop} {Qc : Array Value → State → Outcome → State → Prop} {XC : String → State → State → Prop} {free : Addr → Prop} {Ts : List Cond} {own C : String} {b : Addr} {As rest : List Value} {g : JFrame}
theorem vx_runVX {hh : List (Nat × Nat × Nat × Nat)} (S : CallFix p m c cc nL s args Ts own) (hM : vx_Met l y ws rm Pc Qc XC mc ms free) (cw : vx_CVW R s args own C index y bytes maxL ret hh ws rm mc ms n) (hp : PreV s H C b Pc As)
    (hg : g.method = m) (hn : As.length = n) (hsize : g.locals.size = nL) (hstack : g.stack = As.reverse ++ .ref b :: rest) (hW : 2 * g.monitorRoom + (rest.map fun v => v.category).sum ≤ 8) (hdg : decode cc g.pc = .ok (.invokevirtual index, 3)) (hf : cells + mc ≤ R.cells ∧ slots + ms ≤ R.slots) :
    vx_Run p l e R s m args below meth c H locs cells slots mc ms g rest (Qc (Value.ref b :: As).toArray) XC free := by
  obtain ⟨⟨hrc, hrs, hfr, hlo, hws, hcw⟩, hcode, hini, hy, hlen, hl, hin, hse⟩ := cw
  have hK : vx_Back l R p e below s args y 3 8 (PreOf R mc ms Pc) (PostOf Qc mc ms free) (vx_Post XC mc ms free) := vx_backW (hh := hh) (bytes := bytes) (maxL := maxL) (ret := ret) hM hp.1 hrc hrs hfr hlo hws hcw (fun a' U hW => word_at hW (Or.inl (by first | rfl | simp [Cond.onTables, Cond.keeps, Cond.steady])) hini)
  obtain ⟨hx, hb, hml, ho, -⟩ := S
  obtain ⟨-, ⟨cellB, hcB, hoB, hclB⟩, hPc⟩ := hp
  intro T hT X
  rcases vx_callVX X hx (C := C) (hh := hh) (bytes := bytes) (maxL := maxL) (ret := ret) ho hl hin hse hcode hy hK (by rw [hT]; exact hcB) hoB hclB hg (hsize.trans hml.symm) (argsL := As) (rest := rest) (fun sig h => hn.trans (hlen sig h)) hstack hW (by rw [hb]; exact hdg)
    (fun vm₁ hW₁ => ⟨hf.1, hf.2, hPc (T.setVm vm₁) hT hW₁⟩) with ⟨v, vm₁, ⟨U', l2, c2, s2⟩, hW₁, X', ⟨g', mk, t, L, e1, e2, hq, h1, hL, h2, h3⟩, st⟩ | ⟨q, vm₁, ⟨U', l2, c2, s2⟩, hW₁, X', ⟨g', mk, t, L, E, ce, e1, e2, hq, hce, hcv, hcl, h1, hL, h2, h3⟩, st⟩
  · dsimp only [Pt.U, Pt.locs, Pt.cells, Pt.slots] at X' e1 e2 h1 h2 h3 st
    subst h1; subst h2; subst h3
    exact Or.inl ⟨v, (T.setVm vm₁).calling g' mk (Value.ref b :: As).toArray, t, U', L, hT, X', hL, e1, e2, hq, st⟩
  · dsimp only [Pt.U, Pt.locs, Pt.cells, Pt.slots] at X' e1 e2 h1 h2 h3 st hcl
    subst h1; subst h2; subst h3
    exact Or.inr ⟨q, (T.setVm vm₁).calling g' mk (Value.ref b :: As).toArray, t, U', L, E, ce, hT, X', hL, e1, e2, hq, hce, hcv, vx_cls hW₁ hcl, st⟩
theorem vx_runSX {hh : List (Nat × Nat × Nat × Nat)} (S : CallFix p m c cc nL s args Ts own) (hM : vx_Met l y ws rm Pc Qc XC mc ms free) (cw : vx_CSW R s args own index y bytes maxL ret hh ws rm mc ms n) (hp : PreS s H Pc As)
    (hg : g.method = m) (hn : As.length = n) (hsize : g.locals.size = nL) (hstack : g.stack = As.reverse ++ rest) (hW : 2 * g.monitorRoom + (rest.map fun v => v.category).sum ≤ 8) (hdg : decode cc g.pc = .ok (.invokestatic index, 3)) (hf : cells + mc ≤ R.cells ∧ slots + ms ≤ R.slots) :
    vx_Run p l e R s m args below meth c H locs cells slots mc ms g rest (Qc As.toArray) XC free := by
  obtain ⟨⟨hrc, hrs, hfr, hlo, hws, hcw⟩, hcode, hini, hy, hlen, hl, hstt⟩ := cw
  have hK : vx_Back l R p e below s args y 3 8 (PreOf R mc ms Pc) (PostOf Qc mc ms free) (vx_Post XC mc ms free) := vx_backW (hh := hh) (bytes := bytes) (maxL := maxL) (ret := ret) hM hp.1 hrc hrs hfr hlo hws hcw (fun a' U hW => word_at hW (Or.inl (by first | rfl | simp [Cond.onTables, Cond.keeps, Cond.steady])) hini)
  obtain ⟨hx, hb, hml, ho, -⟩ := S
  intro T hT X
  rcases vx_callSX X hx (hh := hh) (bytes := bytes) (maxL := maxL) (ret := ret) ho hl hstt hini hcode hy hK hg (hsize.trans hml.symm) (argsL := As) (rest := rest) (fun sig h => hn.trans (hlen sig h)) hstack hW (by rw [hb]; exact hdg)
    (fun vm₁ hW₁ => ⟨hf.1, hf.2, hp.2 (T.setVm vm₁) hT hW₁⟩) with ⟨v, vm₁, ⟨U', l2, c2, s2⟩, hW₁, X', ⟨g', mk, t, L, e1, e2, hq, h1, hL, h2, h3⟩, st⟩ | ⟨q, vm₁, ⟨U', l2, c2, s2⟩, hW₁, X', ⟨g', mk, t, L, E, ce, e1, e2, hq, hce, hcv, hcl, h1, hL, h2, h3⟩, st⟩
  · dsimp only [Pt.U, Pt.locs, Pt.cells, Pt.slots] at X' e1 e2 h1 h2 h3 st
    subst h1; subst h2; subst h3
    exact Or.inl ⟨v, (T.setVm vm₁).calling g' mk As.toArray, t, U', L, hT, X', hL, e1, e2, hq, st⟩
  · dsimp only [Pt.U, Pt.locs, Pt.cells, Pt.slots] at X' e1 e2 h1 h2 h3 st hcl
    subst h1; subst h2; subst h3
    exact Or.inr ⟨q, (T.setVm vm₁).calling g' mk As.toArray, t, U', L, E, ce, hT, X', hL, e1, e2, hq, hce, hcv, vx_cls hW₁ hcl, st⟩
end
end VXH
theorem vx_ofWH {l : Launch} {y : MethodName} {ws ws' : List Cond} {rm : Room} {Pc : Array Value → State → Prop} {Qc : Array Value → State → Outcome → State → Prop} {XC : String → State → State → Prop} {mc ms : Nat} {free : Addr → Prop} {cc : ByteArray} {maxL : Nat} {ret : Option FieldType} {hh : List (Nat × Nat × Nat × Nat)}
    (hy : plainName y.cls = true) (hw : ws = Cond.codeWith y cc maxL ret hh :: ws')
    (body : ∀ p e s m args below meth c s₁, BodyLoose p l y (headSpec ws rm) cc maxL ret e s m args below meth c s₁ → c.maxLocals = maxL → Pc args s →
      W p l e (headSpec ws rm).room s m args below meth c s.heap [] 0 0 (vx_MQ below Qc XC args s mc ms free) (entryFrame m args maxL)) : vx_Met l y ws rm Pc Qc XC mc ms free := by
  refine MetFree.of_bodyS (code := cc) (maxLocals := maxL) (ret := ret) hy ?_ ?_
  · intro args s m h hn
    obtain ⟨m9, meth, c, hn9, h1, h2, h3, h4, -, h5, h6, -⟩ := Cond.codeWith_spec (atoms_spec (ws := ws) h _ (by rw [hw]; exact List.mem_cons_self))
    cases hn.symm.trans hn9
    exact ⟨meth, c, h1, h2, h3, h4, h5, h6⟩
  · intro p e s m args below meth c s₁ B hml hP _
    have hh0 : s₁.heap = s.heap := by rw [B.state]; rfl
    obtain ⟨t, a1, o, b1, b2, b3⟩ := body p e s m args below meth c s₁ B hml hP s₁ hh0 (Stand.of_body B)
    exact ⟨t, o, a1, b1, b2, b3⟩
/-! ===== END ===== -/

/-! ===== BEGIN what the machine throws by itself, no traces kept ===== -/
section VXM
set_option maxHeartbeats 1000000 in
/-- the machine throws cls with the message text, no traces kept: from its note over the frame g to 'throwing' over the same frame (follows the proofs of Stand.vmThrowsMessage, Shelf/KitTracedVmS.lean, and Stand.throwsMessageColdBareV, StandMessageColdV.lean, without the step out of the frame) -/
theorem vx_vmAt {p : Program} {l : Launch} {e : Env} {R : Room} {s : State} {m₀ : MethodId} {args : Array Value} {below : List Frame} {meth : Method} {c : Code} {W : State} {locs : List Loc} {cells slots : Nat}
    (X : Stand p l e R s m₀ args below meth c W locs cells slots) (hexec : p.tables.exec = Jvm.exec) (htr : e.platform.stackTraces = false) {cls : String} {names : List String} {text : String}
    (hcls : Bundle.fit cls = true) (hnames : ∀ n ∈ names, Bundle.fit n = true) (hsoe : (cls == "java/lang/StackOverflowError") = false) (hoom : (cls == "java/lang/OutOfMemoryError") = false)
    (h : ∀ a ∈ Bundle.messageArmAtoms cls names, a.before args s = true)
    (hlocs : ∀ x ∈ locs, ∀ cell, s.heap[x.base]? = some cell → cell.vm.isStatics = false)
    (htext : (text == notModelled) = false) (hlimit : ¬ (stringBytes (stringToUtf16 text)).size > e.platform.arrayLengthLimit) (hheap : ¬ (stringBytes (stringToUtf16 text)).size * componentBytes .byte > e.platform.maxHeapBytes)
    {g : JFrame} (hg : g.method = m₀) (hsize : g.locals.size = c.maxLocals)
    (hRframes : names.length + 4 < R.frames) (hRlocals : 2 * g.monitorRoom + (g.stack.map fun v => v.category).sum + 10240 ≤ R.locals) (hshort : 13 * names.length + 55 ≤ 10240)
    (hRcells : cells + 3 ≤ R.cells) (hRslots : slots + ((stringBytes (stringToUtf16 text)).size + 4 + 6) ≤ R.slots) (hlocks : meth.locks = false) :
    ∃ (S : State) (q : Addr) (ce : Cell), (∀ target, Steps p.tables e below ((S.setTop g).pushFrame (.throwing q)) target → Steps p.tables e below ((W.setTop g).pushFrame (.throwNew cls (some text) none)) target) ∧
      Stand p l e R s m₀ args below meth c S locs (cells + 3) (slots + ((stringBytes (stringToUtf16 text)).size + 4 + 6)) ∧ S.heap[q]? = some ce ∧ s.vm.findClass cls = some ce.cls ∧ ce.vm = .none := by
  have howns : e.platform.frameOwnsMonitors = true := by rw [X.admits.platform]
  have hfin : e.platform.finalization = false := by rw [X.admits.platform]
  have hpl : e.platform.magicAccessors = ({} : Platform).magicAccessors := by rw [X.admits.platform]
  have a : ∀ x, x ∈ Bundle.messageArmAtoms cls names → x.holds args s none s [] = true := fun x hx => h x hx
  obtain ⟨T, Z0, L, -, Y⟩ := ThrowableC.of_atoms (args := args) howns hfin hpl (fun x hx => h x (by simp [Bundle.messageArmAtoms, hx]))
  obtain ⟨Z, M, LZ, LM, hnZ⟩ := Init0T.ofS_atoms (args := args) hpl L Y (fun x hx => h x (by simp [Bundle.messageArmAtoms, hx]))
  obtain ⟨P1, Ps, hlen, L1, hL, hP1m, hlink1, hlink⟩ := Bundle.chainS (args := args) hpl hnZ names cls hcls hnames (fun x hx => h x (by simp [Bundle.messageArmAtoms, hx]))
  obtain ⟨Zs, LZs, hn4, hfitv, hfitc⟩ := StringT.of_atoms (args := args) (fun x hx => h x (by simp [Bundle.messageArmAtoms, hx]))
  have hfound : s.vm.findClass cls = some P1.m.cls := findClass_of_methodNamed hP1m
  obtain ⟨c1, kX, hc1, hk, hord, -, -, hn6⟩ := Cond.instantiable_spec (a (.instantiable cls 6) (by simp [Bundle.messageArmAtoms]))
  cases Option.some.inj (hc1.symm.trans hfound)
  have hinit := Cond.initialized_spec hfound hk (a (.initialized cls) (by simp [Bundle.messageArmAtoms]))
  have hctor : kX.findMethod "<init>" "(Ljava/lang/String;)V" = some P1.m.idx := findMethod_of_methodNamed hP1m hk
  have hsel0 : selectMethod e.platform s.vm P1.m.cls T.fill0 = .method T.fill0 := by
    obtain ⟨c2, r2, m2, q1, q2, q3, q4, -⟩ := Cond.selects_spec (a (.selects cls Bundle.tFill0 Bundle.tFill0) (by simp [Bundle.messageArmAtoms]))
    cases Option.some.inj (q1.symm.trans hfound)
    cases Option.some.inj (q2.symm.trans (State.methodFound?_of_named Y.fill0 (by decide)))
    cases Option.some.inj (q3.symm.trans Y.fill0)
    rw [Launch.admits_selectMethod X.admits]; exact q4
  have hselF : selectMethod e.platform s.vm P1.m.cls T.fill = .method T.fill := by
    obtain ⟨c2, r2, m2, q1, q2, q3, q4, -⟩ := Cond.selects_spec (a (.selects cls Bundle.tFill Bundle.tFill) (by simp [Bundle.messageArmAtoms]))
    cases Option.some.inj (q1.symm.trans hfound)
    cases Option.some.inj (q2.symm.trans (State.methodFound?_of_named Y.fill (by decide)))
    cases Option.some.inj (q3.symm.trans Y.fill)
    rw [Launch.admits_selectMethod X.admits]; exact q4
  obtain ⟨cellS0, hcS0, hiss⟩ := Y.statics
  obtain ⟨u0, hu0⟩ := Cond.staticRefV Y.unassigned L.unassignedStatic L.statics hcS0 hiss (a (.isRef (.static Bundle.tN "UNASSIGNED_STACK" Bundle.steD)) (by simp [Bundle.messageArmAtoms]))
  obtain ⟨sen, hsen⟩ := Cond.staticRefV Y.sentinel L.sentinelStatic L.statics hcS0 hiss (a (.isRef (.static Bundle.tN "SUPPRESSED_SENTINEL" Bundle.listD)) (by simp [Bundle.messageArmAtoms]))
  obtain ⟨ci198, i198, fB, hk198, hg198, ha198, hsB, -, hnB, htB, hffB⟩ := Cond.ownField (t := .object "java/lang/Object") Y.found L.cls (by decide +kernel) (a (.fieldLink Bundle.tN 198 Bundle.tN "backtrace" "Ljava/lang/Object;") (by simp [Bundle.messageArmAtoms])) (a (.lays Bundle.tN Bundle.tN "backtrace" "Ljava/lang/Object;") (by simp [Bundle.messageArmAtoms])) e.platform hpl
  obtain ⟨cellS, hcS', heS, -, hkeep⟩ := X.same.2.2.2.2.2 T.aS cellS0 hcS0
  have hcellS : W.heap[T.aS]? = some cellS := hcS'
  have hout' : ∀ i, (⟨T.aS, i⟩ : Loc) ∉ locs := fun i hmem => by
    have := hlocs _ hmem cellS0 hcS0
    rw [hiss] at this; cases this
  have hknownS : cellS.vm ≠ .unknown := by
    rw [heS]; intro hu
    rw [show cellS0.vm = .unknown from hu] at hiss
    cases hiss
  have hvU : cellS.slots[T.fUnassigned.slot]? = some u0.v := by rw [hkeep _ (hout' _)]; exact hu0
  have hvSen : cellS.slots[T.fSentinel.slot]? = some sen.v := by rw [hkeep _ (hout' _)]; exact hsen
  obtain ⟨iM, hffM⟩ := Y.msg
  obtain ⟨tyC, dC, hdC, hdnC⟩ := Cond.laysAt hfound hk Y.cause (a (.lays cls Bundle.tN "cause" "Ljava/lang/Throwable;") (by simp [Bundle.messageArmAtoms]))
  obtain ⟨tyS, dS, hdS, hdnS⟩ := Cond.laysAt hfound hk Y.stack (a (.lays cls Bundle.tN "stackTrace" Bundle.steD) (by simp [Bundle.messageArmAtoms]))
  obtain ⟨tyP, dP, hdP, hdnP⟩ := Cond.laysAt hfound hk Y.supp (a (.lays cls Bundle.tN "suppressedExceptions" Bundle.listD) (by simp [Bundle.messageArmAtoms]))
  obtain ⟨tyM, dM, hdM, hdnM⟩ := Cond.laysAt hfound hk hffM (a (.lays cls Bundle.tN "detailMessage" "Ljava/lang/String;") (by simp [Bundle.messageArmAtoms]))
  obtain ⟨tyB, dB, hdB, hdnB⟩ := Cond.laysAt hfound hk hffB (a (.lays cls Bundle.tN "backtrace" "Ljava/lang/Object;") (by simp [Bundle.messageArmAtoms]))
  have bC := Cond.laysApart hdB hdC hdnB hdnC (by rw [hnB, Y.causeName]; decide)
  have bS := Cond.laysApart hdB hdS hdnB hdnS (by rw [hnB, Y.stackName]; decide)
  have bP := Cond.laysApart hdB hdP hdnB hdnP (by rw [hnB, Y.suppName]; decide)
  have hbk : ((preparedCellV T.toThrowableT (freshCell P1.m.cls kX) (W.heap.size + 2) u0 sen).withEntry W.cur).slots[fB.slot]? = some .null := by
    have := fresh_default (c := P1.m.cls) tyB
    rw [htB] at this
    simpa [preparedCellV, Cell.setSlot, Cell.withEntry, Array.getElem?_setIfInBounds, bC, bS, bP, bC.symm, bS.symm, bP.symm, defaultValue] using this
  have tkC := Takes.of_laid (v := .ref (W.heap.size + 2)) hk hord tyC (by rw [Y.causeType]; rfl)
  have tkS := Takes.of_laid (v := u0.v) hk hord tyS (by rw [Y.stackType]; exact fits_refV_array _ u0)
  have tkP := Takes.of_laid (v := sen.v) hk hord tyP (by rw [Y.suppType]; exact fits_refV_object _ sen)
  have tkM := Takes.of_laid (v := .ref (W.heap.size + 1)) hk hord tyM (by rw [Y.msgType]; rfl)
  have hskip : SkipFacts T e.platform s (fun u => u) u0 ((preparedCellV T.toThrowableT (freshCell P1.m.cls kX) (W.heap.size + 2) u0 sen).withEntry W.cur) := ⟨{ ci198 := ci198, i198 := i198, fBack := fB }, ⟨hk198, hg198, ha198, hsB⟩, hbk, fun _ _ => rfl⟩
  have h0 : At W g.method c below := by rw [hg]; exact X.here
  obtain ⟨hbeyond, hfreeW⟩ := X.vmMayThrow hsize (.throwNew cls (some text) none) (fun f hf => by cases hf) rfl hRlocals
  have hfr' : W.frames.length + Ps.length + 4 < (e.platform.stackLimits W.me).1 := by have := X.framesAbove hRframes; omega
  have hwd' : (stackUse (.java g :: W.frames.tail)).2 + 13 * Ps.length + 55 ≤ (e.platform.stackLimits W.me).2 := by have := X.stackAbove hsize (K := 13 * Ps.length + 55) (by omega); omega
  have hslots : W.slotsUsed + (stringBytes (stringToUtf16 text)).size + Zs.kS.instanceTypes.size + kX.instanceTypes.size ≤ e.platform.maxSlots := by
    have := X.slotsAbove hRslots
    rw [hn4, hn6]
    omega
  obtain ⟨vm', hW', st⟩ := Steps.vmThrowsMessageColdByV p (s₀ := s) (S := W) (g := g) h0 hexec T L Z LZ M LM X.warmed (t := W.cur) rfl Zs LZs P1 L1 Ps hL hlink1 hlink hsoe hoom hfound hk hinit hord hctor
    (Launch.admits_hotImplicitExceptions X.admits) hbeyond hfreeW htext hlimit hheap (X.cellsAbove hRcells) hslots (hfitv _) (hfitc _)
    (Nn := fun u => u) heapOnly_id (fun _ _ => rfl) (fun _ => rfl) (fun u x y => setCell_twice _ _ _ _) (fun _ => Nat.le_refl _) (cN := ((preparedCellV T.toThrowableT (freshCell P1.m.cls kX) (W.heap.size + 2) u0 sen).withEntry W.cur))
    hsel0 hcellS hknownS hvU tkS (fun _ hu => hu) (fun _ hu => hu) rfl rfl rfl (by simp [preparedCellV, Cell.setSlot, Cell.withEntry]) hskip (fun _ _ hA hW _ hroom _ hrest => L.nativeOff p htr hA hW hroom hrest) hselF hvSen tkC tkP tkM Y.objLocals rfl hfr' hwd'
  rw [plainBareV_eq T.toThrowableT (W.heap.size + 2) u0 sen (.ref (W.heap.size + 1)) W.cur rfl rfl] at st
  obtain ⟨-, -, w3, w4, -, -, -⟩ := withThrown_facts e.platform W Zs text P1.m.cls kX
  have X3 := ((X.pushed (bytesOf Zs.cB (stringToUtf16 text))).pushed (stringAt Zs.cS Zs.kS Zs.fv Zs.fc (stringToUtf16 text) W.heap.size)).pushed (freshCell P1.m.cls kX)
  rw [← withString_eq] at X3
  have X4 := X3.noted hW'
  have ha : (W.heap.size + 2) < ((withThrown W Zs text P1.m.cls kX).setVm vm').heap.size := by show _ < (withThrown W Zs text P1.m.cls kX).heap.size; rw [w3]; omega
  have hcell : ((withThrown W Zs text P1.m.cls kX).setVm vm').heap[(W.heap.size + 2)]? = some (freshCell P1.m.cls kX) := w4
  have X5 := ((((X4.stored hcell T.fCause.slot (.ref (W.heap.size + 2))).storedAgain ha T.fStack.slot u0.v).storedAgain ha T.fSupp.slot sen.v).storedAgain ha T.fStack.slot u0.v).storedAgain ha T.fMsg.slot (.ref (W.heap.size + 1))
  obtain ⟨g₁, hfrM⟩ := X5.frames_eq
  have hU : ((((withThrown W Zs text P1.m.cls kX).setVm vm').setCell (W.heap.size + 2) (plainBareV T.toThrowableT (freshCell P1.m.cls kX) (W.heap.size + 2) u0 sen (.ref (W.heap.size + 1)))).setTop g).pushFrame (.throwing (W.heap.size + 2)) = (((withThrown W Zs text P1.m.cls kX).setVm vm').setCell (W.heap.size + 2) (plainBareV T.toThrowableT (freshCell P1.m.cls kX) (W.heap.size + 2) u0 sen (.ref (W.heap.size + 1)))).setFrames (.throwing (W.heap.size + 2) :: .java g :: below) := by
    rw [State.pushFrame, State.frames_setTop _ hfrM, State.setTop_of_frames _ hfrM, State.setFrames_setFrames]
  have b1 : (bytesOf Zs.cB (stringToUtf16 text)).slots.size = (stringBytes (stringToUtf16 text)).size := by
    rw [(Cell.writeAll_facts _ _).2.2]; simp [bytes0]
  have b2 : (stringAt Zs.cS Zs.kS Zs.fv Zs.fc (stringToUtf16 text) W.heap.size).slots.size = 4 := by simp [string0, Cell.setSlot, hn4]
  have b3 : (freshCell P1.m.cls kX).slots.size = 6 := by simp [hn6]
  rw [b1, b2, b3] at X5
  have e9 : slots + (stringBytes (stringToUtf16 text)).size + 4 + 6 = slots + ((stringBytes (stringToUtf16 text)).size + 4 + 6) := by omega
  rw [e9] at X5
  simp only [List.append_assoc, List.cons_append, List.nil_append] at X5
  refine ⟨((withThrown W Zs text P1.m.cls kX).setVm vm').setCell (W.heap.size + 2) (plainBareV T.toThrowableT (freshCell P1.m.cls kX) (W.heap.size + 2) u0 sen (.ref (W.heap.size + 1))), W.heap.size + 2, _, fun target ht => st _ (by rw [X.tail, ← hU]; exact ht),
    X5.forget (fun y hy => ?_), heapAt_setCell_self _ ha, hfound, rfl⟩
  simp only [List.mem_cons, List.not_mem_nil, or_false] at hy
  have hge : s.heap.size ≤ W.heap.size := X.same.2.1
  rcases hy with rfl | rfl | rfl | rfl | rfl <;> exact Nat.le_trans hge (Nat.le_add_right _ 2)
set_option maxHeartbeats 1000000 in
/-- the machine throws NullPointerException, no traces kept: from its note over the frame g to 'throwing' over the same frame (follows the proof of Stand.vmThrowsNpe, Shelf42/KT2.lean; throwsNpeColdBareVAt, Shelf42/NT91.lean, called) -/
theorem vx_npeAt {p : Program} {l : Launch} {e : Env} {R : Room} {s : State} {m₀ : MethodId} {args : Array Value} {below : List Frame} {meth : Method} {c : Code} {W : State} {locs : List Loc} {cells slots : Nat}
    (X : Stand p l e R s m₀ args below meth c W locs cells slots) (hexec : p.tables.exec = Jvm.exec) (htr : e.platform.stackTraces = false) {n : Nat}
    (h : ∀ a ∈ Bundle.npeArmAtoms n, a.before args s = true)
    (hlocs : ∀ x ∈ locs, ∀ cell, s.heap[x.base]? = some cell → cell.vm.isStatics = false)
    {g : JFrame} (hg : g.method = m₀) (hsize : g.locals.size = c.maxLocals)
    (hRframes : 7 < R.frames) (hRlocals : 2 * g.monitorRoom + (g.stack.map fun v => v.category).sum + 10240 ≤ R.locals)
    (hRcells : cells + 1 ≤ R.cells) (hRslots : slots + n ≤ R.slots) (hlocks : meth.locks = false) :
    ∃ (S : State) (q : Addr) (ce : Cell), (∀ target, Steps p.tables e below ((S.setTop g).pushFrame (.throwing q)) target → Steps p.tables e below ((W.setTop g).pushFrame (.throwNew "java/lang/NullPointerException" none none)) target) ∧
      Stand p l e R s m₀ args below meth c S locs (cells + 1) (slots + n) ∧ S.heap[q]? = some ce ∧ s.vm.findClass "java/lang/NullPointerException" = some ce.cls ∧ ce.vm = .none := by
  have howns : e.platform.frameOwnsMonitors = true := by rw [X.admits.platform]
  have hfin : e.platform.finalization = false := by rw [X.admits.platform]
  have hpl : e.platform.magicAccessors = ({} : Platform).magicAccessors := by rw [X.admits.platform]
  have hpl2 : e.platform.arrayCloneIsPublic = true := by rw [X.admits.platform]
  have a' : ∀ x, x ∈ Bundle.npeArmAtoms n → x.holds args s none s [] = true := fun x hx => h x hx
  obtain ⟨T, Z, L, LZ, Y⟩ := ThrowableC.of_atoms (args := args) howns hfin hpl (fun x hx => h x (by simp [Bundle.npeArmAtoms, hx]))
  obtain ⟨N, LN, hcN, hnNF, hordN, hffS⟩ := NpeC.of_atoms (args := args) hpl hpl2 L Y (fun x hx => h x (by simp [Bundle.npeArmAtoms, hx]))
  obtain ⟨P1, L1, hP1m, hP1s⟩ := PassC.of_atoms (args := args) (s := s) hpl (X := Bundle.nN) (Y := Bundle.rN) (by decide) (by decide) LibCode.NullPointerException.Init0.at_0 LibCode.NullPointerException.Init0.at_1 LibCode.NullPointerException.Init0.at_4 (fun x hx => h x (by simp [Bundle.npeArmAtoms, hx]))
  obtain ⟨PR, LR, hPRm, hPRs⟩ := PassC.of_atoms (args := args) (s := s) hpl (X := Bundle.rN) (Y := Bundle.eN) (by decide) (by decide) LibCode.RuntimeException.Init0.at_0 LibCode.RuntimeException.Init0.at_1 LibCode.RuntimeException.Init0.at_4 (fun x hx => h x (by simp [Bundle.npeArmAtoms, hx]))
  obtain ⟨PE, LEx, hPEm, hPEs⟩ := PassC.of_atoms (args := args) (s := s) hpl (X := Bundle.eN) (Y := Bundle.tN) (by decide) (by decide) LibCode.Exception.Init0.at_0 LibCode.Exception.Init0.at_1 LibCode.Exception.Init0.at_4 (fun x hx => h x (by simp [Bundle.npeArmAtoms, hx]))
  have hfound : s.vm.findClass Bundle.nN = some P1.m.cls := findClass_of_methodNamed hP1m
  have ecls : N.cN = P1.m.cls := Option.some.inj (hcN.symm.trans hfound)
  have hk : s.vm.classes[P1.m.cls]? = some N.kN := by rw [← ecls]; exact LN.cls
  have hinit := Cond.initialized_spec hfound hk (a' (.initialized Bundle.nN) (by simp [Bundle.npeArmAtoms]))
  have hctor : N.kN.findMethod "<init>" "()V" = some P1.m.idx := findMethod_of_methodNamed hP1m hk
  obtain ⟨c1, k1, hc1, hk1, -, -, -, hn⟩ := Cond.instantiable_spec (a' (.instantiable Bundle.nN n) (by simp [Bundle.npeArmAtoms]))
  cases Option.some.inj (hc1.symm.trans hfound)
  cases Option.some.inj (hk1.symm.trans hk)
  have hfsz : (freshCell P1.m.cls N.kN).slots.size = n := by simp [hn]
  have hlink1 : P1.sup = PR.m := Option.some.inj (hP1s.symm.trans hPRm)
  have hlinkR : PR.sup = PE.m := Option.some.inj (hPRs.symm.trans hPEm)
  have hlinkE : PE.sup = Z.m T.toThrowableT := Option.some.inj (hPEs.symm.trans Y.init0)
  have hLs : ∀ P, P ∈ [PR, PE] → P.Links0 e.platform s := fun P hP => by
    simp only [List.mem_cons, List.not_mem_nil, or_false] at hP
    rcases hP with rfl | rfl
    · exact LR
    · exact LEx
  have hsel0 : selectMethod e.platform s.vm P1.m.cls T.fill0 = .method T.fill0 := by
    obtain ⟨c2, r2, m2, q1, q2, q3, q4, -⟩ := Cond.selects_spec (a' (.selects Bundle.nN Bundle.tFill0 Bundle.tFill0) (by simp [Bundle.npeArmAtoms]))
    cases Option.some.inj (q1.symm.trans hfound)
    cases Option.some.inj (q2.symm.trans (State.methodFound?_of_named Y.fill0 (by decide)))
    cases Option.some.inj (q3.symm.trans Y.fill0)
    rw [Launch.admits_selectMethod X.admits]; exact q4
  have hselF : selectMethod e.platform s.vm P1.m.cls T.fill = .method N.fill := by
    obtain ⟨c2, r2, m2, q1, q2, q3, q4, -⟩ := Cond.selects_spec (a' (.selects Bundle.nN Bundle.tFill Bundle.nFill) (by simp [Bundle.npeArmAtoms]))
    cases Option.some.inj (q1.symm.trans hfound)
    cases Option.some.inj (q2.symm.trans (State.methodFound?_of_named Y.fill (by decide)))
    cases Option.some.inj (q3.symm.trans hnNF)
    rw [Launch.admits_selectMethod X.admits]; exact q4
  obtain ⟨cellS0, hcS0, hiss⟩ := Y.statics
  obtain ⟨u0, hu0⟩ := Cond.staticRefV Y.unassigned L.unassignedStatic L.statics hcS0 hiss (a' (.isRef (.static Bundle.tN "UNASSIGNED_STACK" Bundle.steD)) (by simp [Bundle.npeArmAtoms]))
  obtain ⟨sen, hsen⟩ := Cond.staticRefV Y.sentinel L.sentinelStatic L.statics hcS0 hiss (a' (.isRef (.static Bundle.tN "SUPPRESSED_SENTINEL" Bundle.listD)) (by simp [Bundle.npeArmAtoms]))
  obtain ⟨ci198, i198, fB, hk198, hg198, ha198, hsB, -, hnB, htB, hffB⟩ := Cond.ownField (t := .object "java/lang/Object") Y.found L.cls (by decide +kernel) (a' (.fieldLink Bundle.tN 198 Bundle.tN "backtrace" Bundle.objD) (by simp [Bundle.npeArmAtoms])) (a' (.lays Bundle.tN Bundle.tN "backtrace" Bundle.objD) (by simp [Bundle.npeArmAtoms])) e.platform hpl
  obtain ⟨cellS, hcS', heS, -, hkeep⟩ := X.same.2.2.2.2.2 T.aS cellS0 hcS0
  have hcellS : W.heap[T.aS]? = some cellS := hcS'
  have hout' : ∀ i, (⟨T.aS, i⟩ : Loc) ∉ locs := fun i hmem => by
    have := hlocs _ hmem cellS0 hcS0
    rw [hiss] at this; cases this
  have hknownS : cellS.vm ≠ .unknown := by
    rw [heS]; intro hu
    rw [show cellS0.vm = .unknown from hu] at hiss
    cases hiss
  have hvU : cellS.slots[T.fUnassigned.slot]? = some u0.v := by rw [hkeep _ (hout' _)]; exact hu0
  have hvSen : cellS.slots[T.fSentinel.slot]? = some sen.v := by rw [hkeep _ (hout' _)]; exact hsen
  obtain ⟨tyC, dC, hdC, hdnC⟩ := Cond.laysAt hfound hk Y.cause (a' (.lays Bundle.nN Bundle.tN "cause" "Ljava/lang/Throwable;") (by simp [Bundle.npeArmAtoms]))
  obtain ⟨tyS, dS, hdS, hdnS⟩ := Cond.laysAt hfound hk Y.stack (a' (.lays Bundle.nN Bundle.tN "stackTrace" Bundle.steD) (by simp [Bundle.npeArmAtoms]))
  obtain ⟨tyP, dP, hdP, hdnP⟩ := Cond.laysAt hfound hk Y.supp (a' (.lays Bundle.nN Bundle.tN "suppressedExceptions" Bundle.listD) (by simp [Bundle.npeArmAtoms]))
  obtain ⟨tyX, dX, hdX, hdnX⟩ := Cond.laysAt hfound hk hffS (a' (.lays Bundle.nN Bundle.nN "extendedMessageState" "I") (by simp [Bundle.npeArmAtoms, Bundle.npeAtoms]))
  obtain ⟨hnX, htX⟩ := State.fieldFound?_type hffS (t := .int) (by decide +kernel)
  have xC := Cond.laysApart hdC hdX hdnC hdnX (by rw [hnX, Y.causeName]; decide)
  have xS := Cond.laysApart hdS hdX hdnS hdnX (by rw [hnX, Y.stackName]; decide)
  have xP := Cond.laysApart hdP hdX hdnP hdnX (by rw [hnX, Y.suppName]; decide)
  have hv0 : (freshCell P1.m.cls N.kN).slots[N.fState.slot]? = some (.int 0) := by
    have := fresh_default (c := P1.m.cls) tyX
    rw [htX] at this; exact this
  obtain ⟨tyB, dB, hdB, hdnB⟩ := Cond.laysAt hfound hk hffB (a' (.lays Bundle.nN Bundle.tN "backtrace" Bundle.objD) (by simp [Bundle.npeArmAtoms]))
  have bC := Cond.laysApart hdB hdC hdnB hdnC (by rw [hnB, Y.causeName]; decide)
  have bS := Cond.laysApart hdB hdS hdnB hdnS (by rw [hnB, Y.stackName]; decide)
  have bP := Cond.laysApart hdB hdP hdnB hdnP (by rw [hnB, Y.suppName]; decide)
  have bX := Cond.laysApart hdB hdX hdnB hdnX (by rw [hnB, hnX]; decide)
  have hbk : ((npeCell N.toNpeT (preparedCellV T.toThrowableT (freshCell P1.m.cls N.kN) W.heap.size u0 sen) W.cur).withEntry W.cur).slots[fB.slot]? = some .null := by
    have := fresh_default (c := P1.m.cls) tyB
    rw [htB] at this
    simpa [npeCell, preparedCellV, Cell.setSlot, Cell.withEntry, Array.getElem?_setIfInBounds, bC, bS, bP, bX, bC.symm, bS.symm, bP.symm, bX.symm, defaultValue] using this
  have tkC := Takes.of_laid (v := .ref W.heap.size) hk hordN tyC (by rw [Y.causeType]; rfl)
  have tkS := Takes.of_laid (v := u0.v) hk hordN tyS (by rw [Y.stackType]; exact fits_refV_array _ u0)
  have tkP := Takes.of_laid (v := sen.v) hk hordN tyP (by rw [Y.suppType]; exact fits_refV_object _ sen)
  have tkX := Takes.of_laid (v := .int 1) hk hordN tyX (by rw [htX]; rfl)
  have hskip : SkipFacts T e.platform s (fun u => u) u0 ((npeCell N.toNpeT (preparedCellV T.toThrowableT (freshCell P1.m.cls N.kN) W.heap.size u0 sen) W.cur).withEntry W.cur) := ⟨{ ci198 := ci198, i198 := i198, fBack := fB }, ⟨hk198, hg198, ha198, hsB⟩, hbk, fun _ _ => rfl⟩
  obtain ⟨vm', X3, st, -⟩ := X.throwsNpeColdBareVAt hexec hg hsize T L Z LZ N LN P1 L1 [PR, PE] hLs hlink1 ⟨hlinkR, hlinkE, trivial⟩ hfound hk hinit hordN hctor hsel0 hselF hcellS hknownS hvU hvSen
    hv0 xC xS xP tkC tkS tkP tkX Y.objLocals hskip (fun _ _ hA hW _ hroom _ hrest => L.nativeOff p htr hA hW hroom hrest) (by simpa using hRframes) hRlocals (by simp) hRcells (by rw [hn]; exact hRslots)
  have hlt : W.heap.size < ((W.pushCell (freshCell P1.m.cls N.kN)).setVm vm').heap.size := by
    show W.heap.size < (W.pushCell (freshCell P1.m.cls N.kN)).heap.size
    rw [State.heap_size_pushCell]; omega
  rw [hfsz] at X3
  obtain ⟨g₁, hfrM⟩ := X3.frames_eq
  have hU : ((((W.pushCell (freshCell P1.m.cls N.kN)).setVm vm').setCell W.heap.size (npeBareV T.toThrowableT N.toNpeT (freshCell P1.m.cls N.kN) W.heap.size u0 sen)).setTop g).pushFrame (.throwing W.heap.size) = (((W.pushCell (freshCell P1.m.cls N.kN)).setVm vm').setCell W.heap.size (npeBareV T.toThrowableT N.toNpeT (freshCell P1.m.cls N.kN) W.heap.size u0 sen)).setFrames (.throwing W.heap.size :: .java g :: below) := by
    rw [State.pushFrame, State.frames_setTop _ hfrM, State.setTop_of_frames _ hfrM, State.setFrames_setFrames]
  refine ⟨_, W.heap.size, _, fun target ht => st.trans (by rw [← hU]; exact ht), X3.forget (fun y hy => ?_), heapAt_setCell_self _ hlt, hfound, rfl⟩
  simp only [List.mem_cons, List.not_mem_nil, or_false] at hy
  have hge : s.heap.size ≤ W.heap.size := X.same.2.1
  rcases hy with rfl | rfl | rfl | rfl | rfl <;> exact hge
/-- the words of a machine's NullPointerException, but the four that speak of the heap -/
def vx_atN (n : Nat) : List Cond := (Bundle.npeArmAtoms n).filter vx_no
/-- the words of a machine's throw with a message, but the four that speak of the heap -/
def vx_atM (X : String) (names : List String) : List Cond := (Bundle.messageArmAtoms X names).filter vx_no
section
variable {p : Program} {l : Launch} {e : Env} {R : Room} {s : State} {m : MethodId} {args : Array Value} {below : List Frame} {meth : Method} {c : Code} {H : Heap} {locs : List Loc} {cells slots : Nat}
/-- a frame seen from a rebased start, seen from the first start again -/
theorem vx_back9 {T S : State} {R' : Room} {k n : Nat} (X : Stand p l e R s m args below meth c T locs cells slots) (Y : Stand p l e R' ((T.setVm s.vm).setFrames (.invoking m args :: below)) m args below meth c T [] 0 0) (Z : Stand p l e R' ((T.setVm s.vm).setFrames (.invoking m args :: below)) m args below meth c S [] k n) :
    Stand p l e R s m args below meth c S locs (cells + k) (slots + n) := by
  have hW0 : s.WarmedH ((T.setVm s.vm).setFrames (.invoking m args :: below)).vm := State.WarmedH.refl s
  refine { admits := X.admits, cas := X.cas, clock := X.clock, frames := X.frames, room := X.room, hears := X.hears, method := X.method, code := X.code, here := Z.here, tail := Z.tail, warmed := State.WarmedH.trans hW0 Z.warmed, limits := Z.limits.trans (Y.limits.symm.trans X.limits), bytes := Z.bytes.trans (Y.bytes.symm.trans X.bytes), same := ?_ }
  obtain ⟨e1, e2⟩ := Z.same
  rw [State.setFrames_setFrames] at e1
  have h2 : (T.setVm s.vm).sameButNew (S.setVm s.vm) [] k n := ⟨e1, e2⟩
  have h3 := X.same.trans h2
  rw [List.append_nil] at h3
  exact h3
/-- from the machine's note that E is thrown here with this text -/
def vx_Note (p : Program) (l : Launch) (e : Env) (R : Room) (s : State) (m : MethodId) (args : Array Value) (below : List Frame) (meth : Method) (c : Code) (H : Heap) (locs : List Loc) (cells slots : Nat) (Q : State → Prop) (g : JFrame) (E text : String) : Prop :=
  ∀ T : State, T.heap = H → Stand p l e R s m args below meth c T locs cells slots → ∃ t, Steps p.tables e below ((T.setTop g).pushFrame (.throwNew E (some text) none)) t ∧ Q t
theorem vx_vm {pc : Nat} {ls : Array Slot} {rest : List Value} {Q : State → Prop} (hexec : p.tables.exec = Jvm.exec) (hl : l.stackTraces = false) {cls text : String} {names : List String} {nb : Nat} {A : Nat → Prop}
    (hcls : Bundle.fit cls = true) (hnames : ∀ n ∈ names, Bundle.fit n = true) (hsoe : (cls == "java/lang/StackOverflowError") = false) (hoom : (cls == "java/lang/OutOfMemoryError") = false)
    (hat : ∀ w ∈ vx_atM cls names, w.before args s = true) (hgood : ∀ w ∈ vx_atM cls names, vx_ot w = true)
    (hU : vx_Zq Bundle.tN "UNASSIGNED_STACK" Bundle.steD A s s.heap) (hN : vx_Zq Bundle.tN "SUPPRESSED_SENTINEL" Bundle.listD A s s.heap) (hS : va_S A s.heap H locs) (hsize : ls.size = c.maxLocals)
    (htext : (text == notModelled) = false) (hnb : (stringBytes (stringToUtf16 text)).size ≤ nb) (hnb1 : nb ≤ 1000)
    (hRframes : names.length + 4 < R.frames) (hRlocals : (rest.map fun v => v.category).sum + 10240 ≤ R.locals) (hshort : 13 * names.length + 55 ≤ 10240) (hRcells : cells + 3 ≤ R.cells) (hRslots : slots + (nb + 10) ≤ R.slots) (hlocks : meth.locks = false)
    (k : ∀ (H1 : Heap) (q9 : Addr) (ce : Cell), H.size ≤ H1.size → (∀ q : Nat, q < H.size → H1[q]? = H[q]?) → va_S A s.heap H1 locs → H1[q9]? = some ce → ce.vm = .none → s.vm.findClass cls = some ce.cls → vx_W p l e R s m args below meth c H1 locs (cells + 3) (slots + (nb + 10)) Q (F0 m pc ls rest) q9) :
    vx_Note p l e R s m args below meth c H locs cells slots Q (F0 m pc ls rest) cls text := by
  intro T hT X
  have htr : e.platform.stackTraces = false := (show e.platform.stackTraces = l.stackTraces by rw [X.admits.platform]).trans hl
  have Y := vx_rebase X (R' := { frames := R.frames, locals := R.locals, cells := 3, slots := nb + 10 }) (Nat.le_refl _) (Nat.le_refl _) hRcells hRslots
  have hhp : ((T.setVm s.vm).setFrames (.invoking m args :: below)).heap = H := hT
  have hW0 : s.WarmedH ((T.setVm s.vm).setFrames (.invoking m args :: below)).vm := State.WarmedH.refl s
  have hat' : ∀ w ∈ vx_atM cls names, w.before args ((T.setVm s.vm).setFrames (.invoking m args :: below)) = true := fun w hw => vx_ot_at hW0 rfl (hgood w hw) (hat w hw)
  have hU' : vx_Zq Bundle.tN "UNASSIGNED_STACK" Bundle.steD A ((T.setVm s.vm).setFrames (.invoking m args :: below)) ((T.setVm s.vm).setFrames (.invoking m args :: below)).heap := by rw [hhp]; exact vx_Zq.moved hW0.alike (hU.kept hS.2.1)
  have hN' : vx_Zq Bundle.tN "SUPPRESSED_SENTINEL" Bundle.listD A ((T.setVm s.vm).setFrames (.invoking m args :: below)) ((T.setVm s.vm).setFrames (.invoking m args :: below)).heap := by rw [hhp]; exact vx_Zq.moved hW0.alike (hN.kept hS.2.1)
  obtain ⟨S, q, ce, st, Z, hce, hcl', hv⟩ := vx_vmAt Y hexec htr (cls := cls) (names := names) (text := text) hcls hnames hsoe hoom (vx_own hat' (vx_isRefq hU'.1) (vx_isRefq hN'.1) hU'.2.word hN'.2.word) (fun x hx => nomatch hx) htext
    (by rw [Launch.admits_arrayLengthLimit X.admits]; omega) (by rw [Launch.admits_maxHeapBytes X.admits]; simp only [componentBytes]; omega)
    (g := F0 m pc ls rest) rfl hsize hRframes (by show 2 * 0 + (rest.map fun v => v.category).sum + 10240 ≤ R.locals; omega) hshort (by show 0 + 3 ≤ 3; omega) (by show 0 + (_ + 4 + 6) ≤ nb + 10; omega) hlocks
  obtain ⟨f1, f2⟩ := vx_frame Z.same
  have f1' : H.size ≤ S.heap.size := by rw [← hT]; exact f1
  have f2' : ∀ q : Nat, q < H.size → S.heap[q]? = H[q]? := fun q hq => by
    rw [← hT]
    exact f2 q (by rw [← hT] at hq; exact hq) (fun z hz => nomatch hz)
  have X5 := vx_back9 X Y Z
  have X6 : Stand p l e R s m args below meth c S locs (cells + 3) (slots + (nb + 10)) := { X5 with same := X5.same.mono (by omega) (by omega) }
  obtain ⟨t, a1, b1⟩ := k S.heap q ce f1' f2' ⟨Nat.le_trans hS.1 f1', fun q h1 h2 => (f2' q (Nat.lt_of_lt_of_le h1 hS.1)).trans (hS.2.1 q h1 h2), hS.2.2⟩ hce hv hcl' S rfl X6
  exact ⟨t, st t a1, b1⟩
/-- from the machine's note that NullPointerException is thrown here -/
def vx_NoteN (p : Program) (l : Launch) (e : Env) (R : Room) (s : State) (m : MethodId) (args : Array Value) (below : List Frame) (meth : Method) (c : Code) (H : Heap) (locs : List Loc) (cells slots : Nat) (Q : State → Prop) (g : JFrame) : Prop :=
  ∀ T : State, T.heap = H → Stand p l e R s m args below meth c T locs cells slots → ∃ t, Steps p.tables e below ((T.setTop g).pushFrame (.throwNew "java/lang/NullPointerException" none none)) t ∧ Q t
theorem vx_npe {pc : Nat} {ls : Array Slot} {rest : List Value} {Q : State → Prop} (hexec : p.tables.exec = Jvm.exec) (hl : l.stackTraces = false) {nb : Nat} {A : Nat → Prop}
    (hat : ∀ w ∈ vx_atN nb, w.before args s = true) (hgood : ∀ w ∈ vx_atN nb, vx_ot w = true)
    (hU : vx_Zq Bundle.tN "UNASSIGNED_STACK" Bundle.steD A s s.heap) (hN : vx_Zq Bundle.tN "SUPPRESSED_SENTINEL" Bundle.listD A s s.heap) (hS : va_S A s.heap H locs) (hsize : ls.size = c.maxLocals)
    (hRframes : 7 < R.frames) (hRlocals : (rest.map fun v => v.category).sum + 10240 ≤ R.locals) (hRcells : cells + 1 ≤ R.cells) (hRslots : slots + nb ≤ R.slots) (hlocks : meth.locks = false)
    (k : ∀ (H1 : Heap) (q9 : Addr) (ce : Cell), H.size ≤ H1.size → (∀ q : Nat, q < H.size → H1[q]? = H[q]?) → va_S A s.heap H1 locs → H1[q9]? = some ce → ce.vm = .none → s.vm.findClass "java/lang/NullPointerException" = some ce.cls → vx_W p l e R s m args below meth c H1 locs (cells + 1) (slots + nb) Q (F0 m pc ls rest) q9) :
    vx_NoteN p l e R s m args below meth c H locs cells slots Q (F0 m pc ls rest) := by
  intro T hT X
  have htr : e.platform.stackTraces = false := (show e.platform.stackTraces = l.stackTraces by rw [X.admits.platform]).trans hl
  have Y := vx_rebase X (R' := { frames := R.frames, locals := R.locals, cells := 1, slots := nb }) (Nat.le_refl _) (Nat.le_refl _) hRcells hRslots
  have hhp : ((T.setVm s.vm).setFrames (.invoking m args :: below)).heap = H := hT
  have hW0 : s.WarmedH ((T.setVm s.vm).setFrames (.invoking m args :: below)).vm := State.WarmedH.refl s
  have hat' : ∀ w ∈ vx_atN nb, w.before args ((T.setVm s.vm).setFrames (.invoking m args :: below)) = true := fun w hw => vx_ot_at hW0 rfl (hgood w hw) (hat w hw)
  have hU' : vx_Zq Bundle.tN "UNASSIGNED_STACK" Bundle.steD A ((T.setVm s.vm).setFrames (.invoking m args :: below)) ((T.setVm s.vm).setFrames (.invoking m args :: below)).heap := by rw [hhp]; exact vx_Zq.moved hW0.alike (hU.kept hS.2.1)
  have hN' : vx_Zq Bundle.tN "SUPPRESSED_SENTINEL" Bundle.listD A ((T.setVm s.vm).setFrames (.invoking m args :: below)) ((T.setVm s.vm).setFrames (.invoking m args :: below)).heap := by rw [hhp]; exact vx_Zq.moved hW0.alike (hN.kept hS.2.1)
  obtain ⟨S, q, ce, st, Z, hce, hcl', hv⟩ := vx_npeAt Y hexec htr (n := nb) (vx_own hat' (vx_isRefq hU'.1) (vx_isRefq hN'.1) hU'.2.word hN'.2.word) (fun x hx => nomatch hx)
    (g := F0 m pc ls rest) rfl hsize hRframes (by show 2 * 0 + (rest.map fun v => v.category).sum + 10240 ≤ R.locals; omega) (by show 0 + 1 ≤ 1; omega) (by show 0 + nb ≤ nb; omega) hlocks
  obtain ⟨f1, f2⟩ := vx_frame Z.same
  have f1' : H.size ≤ S.heap.size := by rw [← hT]; exact f1
  have f2' : ∀ q : Nat, q < H.size → S.heap[q]? = H[q]? := fun q hq => by
    rw [← hT]
    exact f2 q (by rw [← hT] at hq; exact hq) (fun z hz => nomatch hz)
  have X5 := vx_back9 X Y Z
  have X6 : Stand p l e R s m args below meth c S locs (cells + 1) (slots + nb) := { X5 with same := X5.same.mono (by omega) (by omega) }
  obtain ⟨t, a1, b1⟩ := k S.heap q ce f1' f2' ⟨Nat.le_trans hS.1 f1', fun q h1 h2 => (f2' q (Nat.lt_of_lt_of_le h1 hS.1)).trans (hS.2.1 q h1 h2), hS.2.2⟩ hce hv hcl' S rfl X6
  exact ⟨t, st t a1, b1⟩
variable {Q : State → Prop} {cc : ByteArray} {pc : Nat} {ls : Array Slot} {rest : List Value}
theorem vx_idivZ (hexec : p.tables.exec = Jvm.exec) (hb : c.code = cc) {a b : Int32} (h0 : b = 0) (d : decode cc pc = .ok (.idiv, 1)) (k : vx_Note p l e R s m args below meth c H locs cells slots Q (F0 m pc ls rest) "java/lang/ArithmeticException" "/ by zero") :
    W p l e R s m args below meth c H locs cells slots Q (F0 m pc ls (.int b :: .int a :: rest)) := by
  intro T hT X
  obtain ⟨t, st, q⟩ := k T hT X
  exact ⟨t, X.idivZero hexec (g := F0 m pc ls (.int b :: .int a :: rest)) rfl (a := a) (rest := rest) (by rw [h0]) (by rw [hb]; exact d) t st, q⟩
theorem vx_iremZ (hexec : p.tables.exec = Jvm.exec) (hb : c.code = cc) {a b : Int32} (h0 : b = 0) (d : decode cc pc = .ok (.irem, 1)) (k : vx_Note p l e R s m args below meth c H locs cells slots Q (F0 m pc ls rest) "java/lang/ArithmeticException" "/ by zero") :
    W p l e R s m args below meth c H locs cells slots Q (F0 m pc ls (.int b :: .int a :: rest)) := by
  intro T hT X
  obtain ⟨t, st, q⟩ := k T hT X
  exact ⟨t, X.iremZero hexec (g := F0 m pc ls (.int b :: .int a :: rest)) rfl (a := a) (rest := rest) (by rw [h0]) (by rw [hb]; exact d) t st, q⟩
theorem vx_ldivZ (hexec : p.tables.exec = Jvm.exec) (hb : c.code = cc) {a b : Int64} (h0 : b = 0) (d : decode cc pc = .ok (.ldiv, 1)) (k : vx_Note p l e R s m args below meth c H locs cells slots Q (F0 m pc ls rest) "java/lang/ArithmeticException" "/ by zero") :
    W p l e R s m args below meth c H locs cells slots Q (F0 m pc ls (.long b :: .long a :: rest)) := by
  intro T hT X
  obtain ⟨t, st, q⟩ := k T hT X
  exact ⟨t, X.ldivZero hexec (g := F0 m pc ls (.long b :: .long a :: rest)) rfl (a := a) (rest := rest) (by rw [h0]) (by rw [hb]; exact d) t st, q⟩
theorem vx_lremZ (hexec : p.tables.exec = Jvm.exec) (hb : c.code = cc) {a b : Int64} (h0 : b = 0) (d : decode cc pc = .ok (.lrem, 1)) (k : vx_Note p l e R s m args below meth c H locs cells slots Q (F0 m pc ls rest) "java/lang/ArithmeticException" "/ by zero") :
    W p l e R s m args below meth c H locs cells slots Q (F0 m pc ls (.long b :: .long a :: rest)) := by
  intro T hT X
  obtain ⟨t, st, q⟩ := k T hT X
  exact ⟨t, X.lremZero hexec (g := F0 m pc ls (.long b :: .long a :: rest)) rfl (a := a) (rest := rest) (by rw [h0]) (by rw [hb]; exact d) t st, q⟩
theorem vx_ialdZ {D : va_G} {cl : List vw_C} {ws : va_W} {tys : List (ClassId × FieldType)} {a : Nat} (hexec : p.tables.exec = Jvm.exec) (hb : c.code = cc) (hK : va_K D cl tys s) (hP : va_P D cl ws H) (q0 t0 : Nat) {cA : ClassId} {n : Nat} {f : Nat → Int32} (ha : ws[q0]? = some (a, .inl (cA, n, .inl f))) (ht : tys[t0]? = some (cA, .int)) {i : Int32} (hout : ¬ vp_in i n) (hdg : decode cc pc = .ok (.iaload, 1))
    (k : ∀ tx : String, tx = (toString "Index " ++ toString i ++ toString " out of bounds for length " ++ toString n : String) → vx_Note p l e R s m args below meth c H locs cells slots Q (F0 m pc ls rest) "java/lang/ArrayIndexOutOfBoundsException" tx) : W p l e R s m args below meth c H locs cells slots Q (F0 m pc ls (.int i :: .ref a :: rest)) := by
  intro T hT X
  obtain ⟨t, st, q⟩ := k _ rfl T hT X
  refine ⟨t, ?_, q⟩
  have h1 := X.ialoadOut hexec (by rw [hT]; exact hP q0 _ ha) ((hK.2 t0 _ ht).1 n (fun j => .int (f j))) (j := i) (by show (i < 0 ∨ (arrV _ _ _).slots.size ≤ _); rw [arrV_size]; exact Classical.byContradiction hout) (g := F0 m pc ls (.int i :: .ref a :: rest)) rfl (rest := rest) rfl (by rw [hb]; exact hdg) t
  simp only [arrV_size] at h1
  exact h1 st
theorem vx_iastZ {D : va_G} {cl : List vw_C} {ws : va_W} {tys : List (ClassId × FieldType)} {a : Nat} (hexec : p.tables.exec = Jvm.exec) (hb : c.code = cc) (hK : va_K D cl tys s) (hP : va_P D cl ws H) (q0 t0 : Nat) {cA : ClassId} {n : Nat} {f : Nat → Int32} (ha : ws[q0]? = some (a, .inl (cA, n, .inl f))) (ht : tys[t0]? = some (cA, .int)) {i : Int32} {x : Int32} (hout : ¬ vp_in i n) (hdg : decode cc pc = .ok (.iastore, 1))
    (k : ∀ tx : String, tx = (toString "Index " ++ toString i ++ toString " out of bounds for length " ++ toString n : String) → vx_Note p l e R s m args below meth c H locs cells slots Q (F0 m pc ls rest) "java/lang/ArrayIndexOutOfBoundsException" tx) : W p l e R s m args below meth c H locs cells slots Q (F0 m pc ls (.int x :: .int i :: .ref a :: rest)) := by
  intro T hT X
  obtain ⟨t, st, q⟩ := k _ rfl T hT X
  refine ⟨t, ?_, q⟩
  have h1 := X.iastoreOut hexec (by rw [hT]; exact hP q0 _ ha) ((hK.2 t0 _ ht).1 n (fun j => .int (f j))) (j := i) (by show (i < 0 ∨ (arrV _ _ _).slots.size ≤ _); rw [arrV_size]; exact Classical.byContradiction hout) (g := F0 m pc ls (.int x :: .int i :: .ref a :: rest)) rfl (rest := rest) rfl (by rw [hb]; exact hdg) t
  simp only [arrV_size] at h1
  exact h1 st
theorem vx_baldZ {D : va_G} {cl : List vw_C} {ws : va_W} {tys : List (ClassId × FieldType)} {a : Nat} (hexec : p.tables.exec = Jvm.exec) (hb : c.code = cc) (hK : va_K D cl tys s) (hP : va_P D cl ws H) (q0 t0 : Nat) {cA : ClassId} {n : Nat} {f : Nat → Int32} (ha : ws[q0]? = some (a, .inl (cA, n, .inl f))) (ht : tys[t0]? = some (cA, .byte)) {i : Int32} (hout : ¬ vp_in i n) (hdg : decode cc pc = .ok (.baload, 1))
    (k : ∀ tx : String, tx = (toString "Index " ++ toString i ++ toString " out of bounds for length " ++ toString n : String) → vx_Note p l e R s m args below meth c H locs cells slots Q (F0 m pc ls rest) "java/lang/ArrayIndexOutOfBoundsException" tx) : W p l e R s m args below meth c H locs cells slots Q (F0 m pc ls (.int i :: .ref a :: rest)) := by
  intro T hT X
  obtain ⟨t, st, q⟩ := k _ rfl T hT X
  refine ⟨t, ?_, q⟩
  have h1 := X.baloadOut hexec (by rw [hT]; exact hP q0 _ ha) ((hK.2 t0 _ ht).1 n (fun j => .int (f j))) (j := i) (by show (i < 0 ∨ (arrV _ _ _).slots.size ≤ _); rw [arrV_size]; exact Classical.byContradiction hout) (g := F0 m pc ls (.int i :: .ref a :: rest)) rfl (rest := rest) rfl (by rw [hb]; exact hdg) t
  simp only [arrV_size] at h1
  exact h1 st
theorem vx_bastZ {D : va_G} {cl : List vw_C} {ws : va_W} {tys : List (ClassId × FieldType)} {a : Nat} (hexec : p.tables.exec = Jvm.exec) (hb : c.code = cc) (hK : va_K D cl tys s) (hP : va_P D cl ws H) (q0 t0 : Nat) {cA : ClassId} {n : Nat} {f : Nat → Int32} (ha : ws[q0]? = some (a, .inl (cA, n, .inl f))) (ht : tys[t0]? = some (cA, .byte)) {i : Int32} {x : Int32} (hout : ¬ vp_in i n) (hdg : decode cc pc = .ok (.bastore, 1))
    (k : ∀ tx : String, tx = (toString "Index " ++ toString i ++ toString " out of bounds for length " ++ toString n : String) → vx_Note p l e R s m args below meth c H locs cells slots Q (F0 m pc ls rest) "java/lang/ArrayIndexOutOfBoundsException" tx) : W p l e R s m args below meth c H locs cells slots Q (F0 m pc ls (.int x :: .int i :: .ref a :: rest)) := by
  intro T hT X
  obtain ⟨t, st, q⟩ := k _ rfl T hT X
  refine ⟨t, ?_, q⟩
  have h1 := X.bastoreOut hexec (by rw [hT]; exact hP q0 _ ha) ((hK.2 t0 _ ht).1 n (fun j => .int (f j))) (j := i) (by show (i < 0 ∨ (arrV _ _ _).slots.size ≤ _); rw [arrV_size]; exact Classical.byContradiction hout) (g := F0 m pc ls (.int x :: .int i :: .ref a :: rest)) rfl (rest := rest) rfl (by rw [hb]; exact hdg) t
  simp only [arrV_size] at h1
  exact h1 st
theorem vx_zaldZ {D : va_G} {cl : List vw_C} {ws : va_W} {tys : List (ClassId × FieldType)} {a : Nat} (hexec : p.tables.exec = Jvm.exec) (hb : c.code = cc) (hK : va_K D cl tys s) (hP : va_P D cl ws H) (q0 t0 : Nat) {cA : ClassId} {n : Nat} {f : Nat → Int32} (ha : ws[q0]? = some (a, .inl (cA, n, .inl f))) (ht : tys[t0]? = some (cA, .boolean)) {i : Int32} (hout : ¬ vp_in i n) (hdg : decode cc pc = .ok (.baload, 1))
    (k : ∀ tx : String, tx = (toString "Index " ++ toString i ++ toString " out of bounds for length " ++ toString n : String) → vx_Note p l e R s m args below meth c H locs cells slots Q (F0 m pc ls rest) "java/lang/ArrayIndexOutOfBoundsException" tx) : W p l e R s m args below meth c H locs cells slots Q (F0 m pc ls (.int i :: .ref a :: rest)) := by
  intro T hT X
  obtain ⟨t, st, q⟩ := k _ rfl T hT X
  refine ⟨t, ?_, q⟩
  have h1 := X.baloadOut hexec (by rw [hT]; exact hP q0 _ ha) ((hK.2 t0 _ ht).1 n (fun j => .int (f j))) (j := i) (by show (i < 0 ∨ (arrV _ _ _).slots.size ≤ _); rw [arrV_size]; exact Classical.byContradiction hout) (g := F0 m pc ls (.int i :: .ref a :: rest)) rfl (rest := rest) rfl (by rw [hb]; exact hdg) t
  simp only [arrV_size] at h1
  exact h1 st
theorem vx_zastZ {D : va_G} {cl : List vw_C} {ws : va_W} {tys : List (ClassId × FieldType)} {a : Nat} (hexec : p.tables.exec = Jvm.exec) (hb : c.code = cc) (hK : va_K D cl tys s) (hP : va_P D cl ws H) (q0 t0 : Nat) {cA : ClassId} {n : Nat} {f : Nat → Int32} (ha : ws[q0]? = some (a, .inl (cA, n, .inl f))) (ht : tys[t0]? = some (cA, .boolean)) {i : Int32} {x : Int32} (hout : ¬ vp_in i n) (hdg : decode cc pc = .ok (.bastore, 1))
    (k : ∀ tx : String, tx = (toString "Index " ++ toString i ++ toString " out of bounds for length " ++ toString n : String) → vx_Note p l e R s m args below meth c H locs cells slots Q (F0 m pc ls rest) "java/lang/ArrayIndexOutOfBoundsException" tx) : W p l e R s m args below meth c H locs cells slots Q (F0 m pc ls (.int x :: .int i :: .ref a :: rest)) := by
  intro T hT X
  obtain ⟨t, st, q⟩ := k _ rfl T hT X
  refine ⟨t, ?_, q⟩
  have h1 := X.bastoreOut hexec (by rw [hT]; exact hP q0 _ ha) ((hK.2 t0 _ ht).1 n (fun j => .int (f j))) (j := i) (by show (i < 0 ∨ (arrV _ _ _).slots.size ≤ _); rw [arrV_size]; exact Classical.byContradiction hout) (g := F0 m pc ls (.int x :: .int i :: .ref a :: rest)) rfl (rest := rest) rfl (by rw [hb]; exact hdg) t
  simp only [arrV_size] at h1
  exact h1 st
theorem vx_caldZ {D : va_G} {cl : List vw_C} {ws : va_W} {tys : List (ClassId × FieldType)} {a : Nat} (hexec : p.tables.exec = Jvm.exec) (hb : c.code = cc) (hK : va_K D cl tys s) (hP : va_P D cl ws H) (q0 t0 : Nat) {cA : ClassId} {n : Nat} {f : Nat → Int32} (ha : ws[q0]? = some (a, .inl (cA, n, .inl f))) (ht : tys[t0]? = some (cA, .char)) {i : Int32} (hout : ¬ vp_in i n) (hdg : decode cc pc = .ok (.caload, 1))
    (k : ∀ tx : String, tx = (toString "Index " ++ toString i ++ toString " out of bounds for length " ++ toString n : String) → vx_Note p l e R s m args below meth c H locs cells slots Q (F0 m pc ls rest) "java/lang/ArrayIndexOutOfBoundsException" tx) : W p l e R s m args below meth c H locs cells slots Q (F0 m pc ls (.int i :: .ref a :: rest)) := by
  intro T hT X
  obtain ⟨t, st, q⟩ := k _ rfl T hT X
  refine ⟨t, ?_, q⟩
  have h1 := X.caloadOut hexec (by rw [hT]; exact hP q0 _ ha) ((hK.2 t0 _ ht).1 n (fun j => .int (f j))) (j := i) (by show (i < 0 ∨ (arrV _ _ _).slots.size ≤ _); rw [arrV_size]; exact Classical.byContradiction hout) (g := F0 m pc ls (.int i :: .ref a :: rest)) rfl (rest := rest) rfl (by rw [hb]; exact hdg) t
  simp only [arrV_size] at h1
  exact h1 st
theorem vx_castZ {D : va_G} {cl : List vw_C} {ws : va_W} {tys : List (ClassId × FieldType)} {a : Nat} (hexec : p.tables.exec = Jvm.exec) (hb : c.code = cc) (hK : va_K D cl tys s) (hP : va_P D cl ws H) (q0 t0 : Nat) {cA : ClassId} {n : Nat} {f : Nat → Int32} (ha : ws[q0]? = some (a, .inl (cA, n, .inl f))) (ht : tys[t0]? = some (cA, .char)) {i : Int32} {x : Int32} (hout : ¬ vp_in i n) (hdg : decode cc pc = .ok (.castore, 1))
    (k : ∀ tx : String, tx = (toString "Index " ++ toString i ++ toString " out of bounds for length " ++ toString n : String) → vx_Note p l e R s m args below meth c H locs cells slots Q (F0 m pc ls rest) "java/lang/ArrayIndexOutOfBoundsException" tx) : W p l e R s m args below meth c H locs cells slots Q (F0 m pc ls (.int x :: .int i :: .ref a :: rest)) := by
  intro T hT X
  obtain ⟨t, st, q⟩ := k _ rfl T hT X
  refine ⟨t, ?_, q⟩
  have h1 := X.castoreOut hexec (by rw [hT]; exact hP q0 _ ha) ((hK.2 t0 _ ht).1 n (fun j => .int (f j))) (j := i) (by show (i < 0 ∨ (arrV _ _ _).slots.size ≤ _); rw [arrV_size]; exact Classical.byContradiction hout) (g := F0 m pc ls (.int x :: .int i :: .ref a :: rest)) rfl (rest := rest) rfl (by rw [hb]; exact hdg) t
  simp only [arrV_size] at h1
  exact h1 st
theorem vx_saldZ {D : va_G} {cl : List vw_C} {ws : va_W} {tys : List (ClassId × FieldType)} {a : Nat} (hexec : p.tables.exec = Jvm.exec) (hb : c.code = cc) (hK : va_K D cl tys s) (hP : va_P D cl ws H) (q0 t0 : Nat) {cA : ClassId} {n : Nat} {f : Nat → Int32} (ha : ws[q0]? = some (a, .inl (cA, n, .inl f))) (ht : tys[t0]? = some (cA, .short)) {i : Int32} (hout : ¬ vp_in i n) (hdg : decode cc pc = .ok (.saload, 1))
    (k : ∀ tx : String, tx = (toString "Index " ++ toString i ++ toString " out of bounds for length " ++ toString n : String) → vx_Note p l e R s m args below meth c H locs cells slots Q (F0 m pc ls rest) "java/lang/ArrayIndexOutOfBoundsException" tx) : W p l e R s m args below meth c H locs cells slots Q (F0 m pc ls (.int i :: .ref a :: rest)) := by
  intro T hT X
  obtain ⟨t, st, q⟩ := k _ rfl T hT X
  refine ⟨t, ?_, q⟩
  have h1 := X.saloadOut hexec (by rw [hT]; exact hP q0 _ ha) ((hK.2 t0 _ ht).1 n (fun j => .int (f j))) (j := i) (by show (i < 0 ∨ (arrV _ _ _).slots.size ≤ _); rw [arrV_size]; exact Classical.byContradiction hout) (g := F0 m pc ls (.int i :: .ref a :: rest)) rfl (rest := rest) rfl (by rw [hb]; exact hdg) t
  simp only [arrV_size] at h1
  exact h1 st
theorem vx_sastZ {D : va_G} {cl : List vw_C} {ws : va_W} {tys : List (ClassId × FieldType)} {a : Nat} (hexec : p.tables.exec = Jvm.exec) (hb : c.code = cc) (hK : va_K D cl tys s) (hP : va_P D cl ws H) (q0 t0 : Nat) {cA : ClassId} {n : Nat} {f : Nat → Int32} (ha : ws[q0]? = some (a, .inl (cA, n, .inl f))) (ht : tys[t0]? = some (cA, .short)) {i : Int32} {x : Int32} (hout : ¬ vp_in i n) (hdg : decode cc pc = .ok (.sastore, 1))
    (k : ∀ tx : String, tx = (toString "Index " ++ toString i ++ toString " out of bounds for length " ++ toString n : String) → vx_Note p l e R s m args below meth c H locs cells slots Q (F0 m pc ls rest) "java/lang/ArrayIndexOutOfBoundsException" tx) : W p l e R s m args below meth c H locs cells slots Q (F0 m pc ls (.int x :: .int i :: .ref a :: rest)) := by
  intro T hT X
  obtain ⟨t, st, q⟩ := k _ rfl T hT X
  refine ⟨t, ?_, q⟩
  have h1 := X.sastoreOut hexec (by rw [hT]; exact hP q0 _ ha) ((hK.2 t0 _ ht).1 n (fun j => .int (f j))) (j := i) (by show (i < 0 ∨ (arrV _ _ _).slots.size ≤ _); rw [arrV_size]; exact Classical.byContradiction hout) (g := F0 m pc ls (.int x :: .int i :: .ref a :: rest)) rfl (rest := rest) rfl (by rw [hb]; exact hdg) t
  simp only [arrV_size] at h1
  exact h1 st
theorem vx_laldZ {D : va_G} {cl : List vw_C} {ws : va_W} {tys : List (ClassId × FieldType)} {a : Nat} (hexec : p.tables.exec = Jvm.exec) (hb : c.code = cc) (hK : va_K D cl tys s) (hP : va_P D cl ws H) (q0 t0 : Nat) {cA : ClassId} {n : Nat} {f : Nat → Int64} (ha : ws[q0]? = some (a, .inl (cA, n, .inr (.inl f)))) (ht : tys[t0]? = some (cA, .long)) {i : Int32} (hout : ¬ vp_in i n) (hdg : decode cc pc = .ok (.laload, 1))
    (k : ∀ tx : String, tx = (toString "Index " ++ toString i ++ toString " out of bounds for length " ++ toString n : String) → vx_Note p l e R s m args below meth c H locs cells slots Q (F0 m pc ls rest) "java/lang/ArrayIndexOutOfBoundsException" tx) : W p l e R s m args below meth c H locs cells slots Q (F0 m pc ls (.int i :: .ref a :: rest)) := by
  intro T hT X
  obtain ⟨t, st, q⟩ := k _ rfl T hT X
  refine ⟨t, ?_, q⟩
  have h1 := X.laloadOut hexec (by rw [hT]; exact hP q0 _ ha) ((hK.2 t0 _ ht).1 n (fun j => .long (f j))) (j := i) (by show (i < 0 ∨ (arrV _ _ _).slots.size ≤ _); rw [arrV_size]; exact Classical.byContradiction hout) (g := F0 m pc ls (.int i :: .ref a :: rest)) rfl (rest := rest) rfl (by rw [hb]; exact hdg) t
  simp only [arrV_size] at h1
  exact h1 st
theorem vx_lastZ {D : va_G} {cl : List vw_C} {ws : va_W} {tys : List (ClassId × FieldType)} {a : Nat} (hexec : p.tables.exec = Jvm.exec) (hb : c.code = cc) (hK : va_K D cl tys s) (hP : va_P D cl ws H) (q0 t0 : Nat) {cA : ClassId} {n : Nat} {f : Nat → Int64} (ha : ws[q0]? = some (a, .inl (cA, n, .inr (.inl f)))) (ht : tys[t0]? = some (cA, .long)) {i : Int32} {x : Int64} (hout : ¬ vp_in i n) (hdg : decode cc pc = .ok (.lastore, 1))
    (k : ∀ tx : String, tx = (toString "Index " ++ toString i ++ toString " out of bounds for length " ++ toString n : String) → vx_Note p l e R s m args below meth c H locs cells slots Q (F0 m pc ls rest) "java/lang/ArrayIndexOutOfBoundsException" tx) : W p l e R s m args below meth c H locs cells slots Q (F0 m pc ls (.long x :: .int i :: .ref a :: rest)) := by
  intro T hT X
  obtain ⟨t, st, q⟩ := k _ rfl T hT X
  refine ⟨t, ?_, q⟩
  have h1 := X.lastoreOut hexec (by rw [hT]; exact hP q0 _ ha) ((hK.2 t0 _ ht).1 n (fun j => .long (f j))) (j := i) (by show (i < 0 ∨ (arrV _ _ _).slots.size ≤ _); rw [arrV_size]; exact Classical.byContradiction hout) (g := F0 m pc ls (.long x :: .int i :: .ref a :: rest)) rfl (rest := rest) rfl (by rw [hb]; exact hdg) t
  simp only [arrV_size] at h1
  exact h1 st
theorem vx_faldZ {D : va_G} {cl : List vw_C} {ws : va_W} {tys : List (ClassId × FieldType)} {a : Nat} (hexec : p.tables.exec = Jvm.exec) (hb : c.code = cc) (hK : va_K D cl tys s) (hP : va_P D cl ws H) (q0 t0 : Nat) {cA : ClassId} {n : Nat} {f : Nat → UInt32} (ha : ws[q0]? = some (a, .inl (cA, n, .inr (.inr (.inl f))))) (ht : tys[t0]? = some (cA, .float)) {i : Int32} (hout : ¬ vp_in i n) (hdg : decode cc pc = .ok (.faload, 1))
    (k : ∀ tx : String, tx = (toString "Index " ++ toString i ++ toString " out of bounds for length " ++ toString n : String) → vx_Note p l e R s m args below meth c H locs cells slots Q (F0 m pc ls rest) "java/lang/ArrayIndexOutOfBoundsException" tx) : W p l e R s m args below meth c H locs cells slots Q (F0 m pc ls (.int i :: .ref a :: rest)) := by
  intro T hT X
  obtain ⟨t, st, q⟩ := k _ rfl T hT X
  refine ⟨t, ?_, q⟩
  have h1 := X.faloadOut hexec (by rw [hT]; exact hP q0 _ ha) ((hK.2 t0 _ ht).1 n (fun j => .float (f j))) (j := i) (by show (i < 0 ∨ (arrV _ _ _).slots.size ≤ _); rw [arrV_size]; exact Classical.byContradiction hout) (g := F0 m pc ls (.int i :: .ref a :: rest)) rfl (rest := rest) rfl (by rw [hb]; exact hdg) t
  simp only [arrV_size] at h1
  exact h1 st
theorem vx_fastZ {D : va_G} {cl : List vw_C} {ws : va_W} {tys : List (ClassId × FieldType)} {a : Nat} (hexec : p.tables.exec = Jvm.exec) (hb : c.code = cc) (hK : va_K D cl tys s) (hP : va_P D cl ws H) (q0 t0 : Nat) {cA : ClassId} {n : Nat} {f : Nat → UInt32} (ha : ws[q0]? = some (a, .inl (cA, n, .inr (.inr (.inl f))))) (ht : tys[t0]? = some (cA, .float)) {i : Int32} {x : UInt32} (hout : ¬ vp_in i n) (hdg : decode cc pc = .ok (.fastore, 1))
    (k : ∀ tx : String, tx = (toString "Index " ++ toString i ++ toString " out of bounds for length " ++ toString n : String) → vx_Note p l e R s m args below meth c H locs cells slots Q (F0 m pc ls rest) "java/lang/ArrayIndexOutOfBoundsException" tx) : W p l e R s m args below meth c H locs cells slots Q (F0 m pc ls (.float x :: .int i :: .ref a :: rest)) := by
  intro T hT X
  obtain ⟨t, st, q⟩ := k _ rfl T hT X
  refine ⟨t, ?_, q⟩
  have h1 := X.fastoreOut hexec (by rw [hT]; exact hP q0 _ ha) ((hK.2 t0 _ ht).1 n (fun j => .float (f j))) (j := i) (by show (i < 0 ∨ (arrV _ _ _).slots.size ≤ _); rw [arrV_size]; exact Classical.byContradiction hout) (g := F0 m pc ls (.float x :: .int i :: .ref a :: rest)) rfl (rest := rest) rfl (by rw [hb]; exact hdg) t
  simp only [arrV_size] at h1
  exact h1 st
theorem vx_daldZ {D : va_G} {cl : List vw_C} {ws : va_W} {tys : List (ClassId × FieldType)} {a : Nat} (hexec : p.tables.exec = Jvm.exec) (hb : c.code = cc) (hK : va_K D cl tys s) (hP : va_P D cl ws H) (q0 t0 : Nat) {cA : ClassId} {n : Nat} {f : Nat → UInt64} (ha : ws[q0]? = some (a, .inl (cA, n, .inr (.inr (.inr (.inl f)))))) (ht : tys[t0]? = some (cA, .double)) {i : Int32} (hout : ¬ vp_in i n) (hdg : decode cc pc = .ok (.daload, 1))
    (k : ∀ tx : String, tx = (toString "Index " ++ toString i ++ toString " out of bounds for length " ++ toString n : String) → vx_Note p l e R s m args below meth c H locs cells slots Q (F0 m pc ls rest) "java/lang/ArrayIndexOutOfBoundsException" tx) : W p l e R s m args below meth c H locs cells slots Q (F0 m pc ls (.int i :: .ref a :: rest)) := by
  intro T hT X
  obtain ⟨t, st, q⟩ := k _ rfl T hT X
  refine ⟨t, ?_, q⟩
  have h1 := X.daloadOut hexec (by rw [hT]; exact hP q0 _ ha) ((hK.2 t0 _ ht).1 n (fun j => .double (f j))) (j := i) (by show (i < 0 ∨ (arrV _ _ _).slots.size ≤ _); rw [arrV_size]; exact Classical.byContradiction hout) (g := F0 m pc ls (.int i :: .ref a :: rest)) rfl (rest := rest) rfl (by rw [hb]; exact hdg) t
  simp only [arrV_size] at h1
  exact h1 st
theorem vx_dastZ {D : va_G} {cl : List vw_C} {ws : va_W} {tys : List (ClassId × FieldType)} {a : Nat} (hexec : p.tables.exec = Jvm.exec) (hb : c.code = cc) (hK : va_K D cl tys s) (hP : va_P D cl ws H) (q0 t0 : Nat) {cA : ClassId} {n : Nat} {f : Nat → UInt64} (ha : ws[q0]? = some (a, .inl (cA, n, .inr (.inr (.inr (.inl f)))))) (ht : tys[t0]? = some (cA, .double)) {i : Int32} {x : UInt64} (hout : ¬ vp_in i n) (hdg : decode cc pc = .ok (.dastore, 1))
    (k : ∀ tx : String, tx = (toString "Index " ++ toString i ++ toString " out of bounds for length " ++ toString n : String) → vx_Note p l e R s m args below meth c H locs cells slots Q (F0 m pc ls rest) "java/lang/ArrayIndexOutOfBoundsException" tx) : W p l e R s m args below meth c H locs cells slots Q (F0 m pc ls (.double x :: .int i :: .ref a :: rest)) := by
  intro T hT X
  obtain ⟨t, st, q⟩ := k _ rfl T hT X
  refine ⟨t, ?_, q⟩
  have h1 := X.dastoreOut hexec (by rw [hT]; exact hP q0 _ ha) ((hK.2 t0 _ ht).1 n (fun j => .double (f j))) (j := i) (by show (i < 0 ∨ (arrV _ _ _).slots.size ≤ _); rw [arrV_size]; exact Classical.byContradiction hout) (g := F0 m pc ls (.double x :: .int i :: .ref a :: rest)) rfl (rest := rest) rfl (by rw [hb]; exact hdg) t
  simp only [arrV_size] at h1
  exact h1 st
theorem vx_arraylengthN (hexec : p.tables.exec = Jvm.exec) (hb : c.code = cc) (hdg : decode cc pc = .ok (.arraylength, 1)) (k : vx_NoteN p l e R s m args below meth c H locs cells slots Q (F0 m pc ls rest)) : W p l e R s m args below meth c H locs cells slots Q (F0 m pc ls (.null :: rest)) := by
  intro T hT X
  obtain ⟨t, st, q⟩ := k T hT X
  exact ⟨t, X.arraylengthNull hexec (g := F0 m pc ls (.null :: rest)) rfl (rest := rest) rfl (by rw [hb]; exact hdg) t st, q⟩
theorem vx_ialoadN (hexec : p.tables.exec = Jvm.exec) (hb : c.code = cc) {i : Int32} (hdg : decode cc pc = .ok (.iaload, 1)) (k : vx_NoteN p l e R s m args below meth c H locs cells slots Q (F0 m pc ls rest)) : W p l e R s m args below meth c H locs cells slots Q (F0 m pc ls (.int i :: .null :: rest)) := by
  intro T hT X
  obtain ⟨t, st, q⟩ := k T hT X
  exact ⟨t, X.ialoadNull hexec (g := F0 m pc ls (.int i :: .null :: rest)) rfl (rest := rest) rfl (by rw [hb]; exact hdg) t st, q⟩
theorem vx_laloadN (hexec : p.tables.exec = Jvm.exec) (hb : c.code = cc) {i : Int32} (hdg : decode cc pc = .ok (.laload, 1)) (k : vx_NoteN p l e R s m args below meth c H locs cells slots Q (F0 m pc ls rest)) : W p l e R s m args below meth c H locs cells slots Q (F0 m pc ls (.int i :: .null :: rest)) := by
  intro T hT X
  obtain ⟨t, st, q⟩ := k T hT X
  exact ⟨t, X.laloadNull hexec (g := F0 m pc ls (.int i :: .null :: rest)) rfl (rest := rest) rfl (by rw [hb]; exact hdg) t st, q⟩
theorem vx_faloadN (hexec : p.tables.exec = Jvm.exec) (hb : c.code = cc) {i : Int32} (hdg : decode cc pc = .ok (.faload, 1)) (k : vx_NoteN p l e R s m args below meth c H locs cells slots Q (F0 m pc ls rest)) : W p l e R s m args below meth c H locs cells slots Q (F0 m pc ls (.int i :: .null :: rest)) := by
  intro T hT X
  obtain ⟨t, st, q⟩ := k T hT X
  exact ⟨t, X.faloadNull hexec (g := F0 m pc ls (.int i :: .null :: rest)) rfl (rest := rest) rfl (by rw [hb]; exact hdg) t st, q⟩
theorem vx_daloadN (hexec : p.tables.exec = Jvm.exec) (hb : c.code = cc) {i : Int32} (hdg : decode cc pc = .ok (.daload, 1)) (k : vx_NoteN p l e R s m args below meth c H locs cells slots Q (F0 m pc ls rest)) : W p l e R s m args below meth c H locs cells slots Q (F0 m pc ls (.int i :: .null :: rest)) := by
  intro T hT X
  obtain ⟨t, st, q⟩ := k T hT X
  exact ⟨t, X.daloadNull hexec (g := F0 m pc ls (.int i :: .null :: rest)) rfl (rest := rest) rfl (by rw [hb]; exact hdg) t st, q⟩
theorem vx_aaloadN (hexec : p.tables.exec = Jvm.exec) (hb : c.code = cc) {i : Int32} (hdg : decode cc pc = .ok (.aaload, 1)) (k : vx_NoteN p l e R s m args below meth c H locs cells slots Q (F0 m pc ls rest)) : W p l e R s m args below meth c H locs cells slots Q (F0 m pc ls (.int i :: .null :: rest)) := by
  intro T hT X
  obtain ⟨t, st, q⟩ := k T hT X
  exact ⟨t, X.aaloadNull hexec (g := F0 m pc ls (.int i :: .null :: rest)) rfl (rest := rest) rfl (by rw [hb]; exact hdg) t st, q⟩
theorem vx_baloadN (hexec : p.tables.exec = Jvm.exec) (hb : c.code = cc) {i : Int32} (hdg : decode cc pc = .ok (.baload, 1)) (k : vx_NoteN p l e R s m args below meth c H locs cells slots Q (F0 m pc ls rest)) : W p l e R s m args below meth c H locs cells slots Q (F0 m pc ls (.int i :: .null :: rest)) := by
  intro T hT X
  obtain ⟨t, st, q⟩ := k T hT X
  exact ⟨t, X.baloadNull hexec (g := F0 m pc ls (.int i :: .null :: rest)) rfl (rest := rest) rfl (by rw [hb]; exact hdg) t st, q⟩
theorem vx_caloadN (hexec : p.tables.exec = Jvm.exec) (hb : c.code = cc) {i : Int32} (hdg : decode cc pc = .ok (.caload, 1)) (k : vx_NoteN p l e R s m args below meth c H locs cells slots Q (F0 m pc ls rest)) : W p l e R s m args below meth c H locs cells slots Q (F0 m pc ls (.int i :: .null :: rest)) := by
  intro T hT X
  obtain ⟨t, st, q⟩ := k T hT X
  exact ⟨t, X.caloadNull hexec (g := F0 m pc ls (.int i :: .null :: rest)) rfl (rest := rest) rfl (by rw [hb]; exact hdg) t st, q⟩
theorem vx_saloadN (hexec : p.tables.exec = Jvm.exec) (hb : c.code = cc) {i : Int32} (hdg : decode cc pc = .ok (.saload, 1)) (k : vx_NoteN p l e R s m args below meth c H locs cells slots Q (F0 m pc ls rest)) : W p l e R s m args below meth c H locs cells slots Q (F0 m pc ls (.int i :: .null :: rest)) := by
  intro T hT X
  obtain ⟨t, st, q⟩ := k T hT X
  exact ⟨t, X.saloadNull hexec (g := F0 m pc ls (.int i :: .null :: rest)) rfl (rest := rest) rfl (by rw [hb]; exact hdg) t st, q⟩
theorem vx_iastoreN (hexec : p.tables.exec = Jvm.exec) (hb : c.code = cc) {x : Int32} {i : Int32} (hdg : decode cc pc = .ok (.iastore, 1)) (k : vx_NoteN p l e R s m args below meth c H locs cells slots Q (F0 m pc ls rest)) : W p l e R s m args below meth c H locs cells slots Q (F0 m pc ls (.int x :: .int i :: .null :: rest)) := by
  intro T hT X
  obtain ⟨t, st, q⟩ := k T hT X
  exact ⟨t, X.iastoreNull hexec (g := F0 m pc ls (.int x :: .int i :: .null :: rest)) rfl (rest := rest) rfl (by rw [hb]; exact hdg) t st, q⟩
theorem vx_lastoreN (hexec : p.tables.exec = Jvm.exec) (hb : c.code = cc) {x : Int64} {i : Int32} (hdg : decode cc pc = .ok (.lastore, 1)) (k : vx_NoteN p l e R s m args below meth c H locs cells slots Q (F0 m pc ls rest)) : W p l e R s m args below meth c H locs cells slots Q (F0 m pc ls (.long x :: .int i :: .null :: rest)) := by
  intro T hT X
  obtain ⟨t, st, q⟩ := k T hT X
  exact ⟨t, X.lastoreNull hexec (g := F0 m pc ls (.long x :: .int i :: .null :: rest)) rfl (rest := rest) rfl (by rw [hb]; exact hdg) t st, q⟩
theorem vx_fastoreN (hexec : p.tables.exec = Jvm.exec) (hb : c.code = cc) {x : UInt32} {i : Int32} (hdg : decode cc pc = .ok (.fastore, 1)) (k : vx_NoteN p l e R s m args below meth c H locs cells slots Q (F0 m pc ls rest)) : W p l e R s m args below meth c H locs cells slots Q (F0 m pc ls (.float x :: .int i :: .null :: rest)) := by
  intro T hT X
  obtain ⟨t, st, q⟩ := k T hT X
  exact ⟨t, X.fastoreNull hexec (g := F0 m pc ls (.float x :: .int i :: .null :: rest)) rfl (rest := rest) rfl (by rw [hb]; exact hdg) t st, q⟩
theorem vx_dastoreN (hexec : p.tables.exec = Jvm.exec) (hb : c.code = cc) {x : UInt64} {i : Int32} (hdg : decode cc pc = .ok (.dastore, 1)) (k : vx_NoteN p l e R s m args below meth c H locs cells slots Q (F0 m pc ls rest)) : W p l e R s m args below meth c H locs cells slots Q (F0 m pc ls (.double x :: .int i :: .null :: rest)) := by
  intro T hT X
  obtain ⟨t, st, q⟩ := k T hT X
  exact ⟨t, X.dastoreNull hexec (g := F0 m pc ls (.double x :: .int i :: .null :: rest)) rfl (rest := rest) rfl (by rw [hb]; exact hdg) t st, q⟩
theorem vx_bastoreN (hexec : p.tables.exec = Jvm.exec) (hb : c.code = cc) {x : Int32} {i : Int32} (hdg : decode cc pc = .ok (.bastore, 1)) (k : vx_NoteN p l e R s m args below meth c H locs cells slots Q (F0 m pc ls rest)) : W p l e R s m args below meth c H locs cells slots Q (F0 m pc ls (.int x :: .int i :: .null :: rest)) := by
  intro T hT X
  obtain ⟨t, st, q⟩ := k T hT X
  exact ⟨t, X.bastoreNull hexec (g := F0 m pc ls (.int x :: .int i :: .null :: rest)) rfl (rest := rest) rfl (by rw [hb]; exact hdg) t st, q⟩
theorem vx_castoreN (hexec : p.tables.exec = Jvm.exec) (hb : c.code = cc) {x : Int32} {i : Int32} (hdg : decode cc pc = .ok (.castore, 1)) (k : vx_NoteN p l e R s m args below meth c H locs cells slots Q (F0 m pc ls rest)) : W p l e R s m args below meth c H locs cells slots Q (F0 m pc ls (.int x :: .int i :: .null :: rest)) := by
  intro T hT X
  obtain ⟨t, st, q⟩ := k T hT X
  exact ⟨t, X.castoreNull hexec (g := F0 m pc ls (.int x :: .int i :: .null :: rest)) rfl (rest := rest) rfl (by rw [hb]; exact hdg) t st, q⟩
theorem vx_sastoreN (hexec : p.tables.exec = Jvm.exec) (hb : c.code = cc) {x : Int32} {i : Int32} (hdg : decode cc pc = .ok (.sastore, 1)) (k : vx_NoteN p l e R s m args below meth c H locs cells slots Q (F0 m pc ls rest)) : W p l e R s m args below meth c H locs cells slots Q (F0 m pc ls (.int x :: .int i :: .null :: rest)) := by
  intro T hT X
  obtain ⟨t, st, q⟩ := k T hT X
  exact ⟨t, X.sastoreNull hexec (g := F0 m pc ls (.int x :: .int i :: .null :: rest)) rfl (rest := rest) rfl (by rw [hb]; exact hdg) t st, q⟩
theorem vx_invokeN {own C : String} {index maxL : Nat} {y : MethodName} {bytes : ByteArray} {ret : Option FieldType} (hexec : p.tables.exec = Jvm.exec) (hb : c.code = cc) (hown : s.vm.findClass own = some m.cls) (hlink : (Cond.methodLink own index y).before args s = true) (hinst : (Cond.instanceMethod y).before args s = true) (hcode : (Cond.code y bytes maxL ret).before args s = true) (hsel : (Cond.selects C y y).before args s = true)
    (hx : y.cls ≠ "java/lang/invoke/MethodHandle" ∧ y.cls ≠ "java/lang/invoke/VarHandle") {As : List Value} (hlen : (parseMethodDescriptor y.desc).map (fun d => d.parameters.length) = some As.length) (hdg : decode cc pc = .ok (.invokevirtual index, 3))
    (k : vx_NoteN p l e R s m args below meth c H locs cells slots Q (F0 m pc ls rest)) {st0 : List Value} (hst : st0 = As.reverse ++ .null :: rest) : W p l e R s m args below meth c H locs cells slots Q (F0 m pc ls st0) := by
  intro T hT X
  obtain ⟨r0, r, hn, hrm, hstR, hsigR⟩ := va_Decl.of hinst hcode
  obtain ⟨c2, r2, m2, q1, q2, q3, q4, kP, hkP, hkPi⟩ := Cond.selects_spec hsel
  cases hn.symm.trans q3
  have hl9 : As.length = r.sig.parameters.length := by
    rw [hsigR] at hlen
    exact (Option.some.inj hlen).symm
  obtain ⟨vm', X1, st1⟩ := X.invokevirtualNull hexec hown hlink hn hrm hstR hkP hkPi hx (g := F0 m pc ls st0) rfl (argsL := As) (rest := rest) hl9 hst (by rw [hb]; exact hdg)
  obtain ⟨t, st, q⟩ := k (T.setVm vm') hT X1
  exact ⟨t, st1 t st, q⟩
theorem vx_newarrayZ {atype : ArrayType} (hexec : p.tables.exec = Jvm.exec) (hb : c.code = cc) {n : Int32} (h0 : n < 0) (hdg : decode cc pc = .ok (.newarray atype, 2)) (k : ∀ tx : String, tx = toString n → vx_Note p l e R s m args below meth c H locs cells slots Q (F0 m pc ls rest) "java/lang/NegativeArraySizeException" tx) : W p l e R s m args below meth c H locs cells slots Q (F0 m pc ls (.int n :: rest)) := by
  intro T hT X
  obtain ⟨t, st, q⟩ := k _ rfl T hT X
  exact ⟨t, X.newarrayNegative hexec (g := F0 m pc ls (.int n :: rest)) rfl h0 (rest := rest) rfl (by rw [hb]; exact hdg) t st, q⟩
end
end VXM
/-! ===== END ===== -/
end
section
def RX0 : String := "LysimeterField$Account"
def TX0 : u_T := fun k => match k with
  | 0 => ("LysimeterField$Account", "given", "LLysimeterField$Solutes;", true)
  | 1 => ("LysimeterField$Account", "out", "LLysimeterField$Solutes;", true)
  | 2 => ("LysimeterField$Account", "told", "J", false)
  | 3 => ("LysimeterField$Account", "rained", "J", false)
  | 4 => ("LysimeterField$Account", "watered", "J", false)
  | 5 => ("LysimeterField$Account", "recharge", "J", false)
  | 6 => ("LysimeterField$Account", "runoff", "J", false)
  | 7 => ("LysimeterField$Account", "lost", "J", false)
  | 8 => ("LysimeterField$Account", "vapour", "J", false)
  | 9 => ("LysimeterField$Account", "eaten", "J", false)
  | _ => ("LysimeterField$Account", "fines", "J", false)
def tyX0 : Nat → FieldType := fun k => match k with
  | 0 => .object "LysimeterField$Solutes"
  | 1 => .object "LysimeterField$Solutes"
  | 2 => .long
  | 3 => .long
  | 4 => .long
  | 5 => .long
  | 6 => .long
  | 7 => .long
  | 8 => .long
  | 9 => .long
  | _ => .long
abbrev wsX00 : List Cond := u_ws RX0 TX0 11
theorem nmX0 : ∀ a, a < 11 → ∀ b, b < 11 → a ≠ b → (TX0 a).2.1 ≠ (TX0 b).2.1 := by decide +kernel
theorem tyX0_ok : ∀ k, k < 11 → parseFieldDescriptor (TX0 k).2.2.1 = some (tyX0 k) := by decide +kernel
abbrev cX0_init : ByteArray := prog_2_method_1_code
def yX0_init : MethodName := ⟨RX0, "<init>", "()V"⟩
def RX1 : String := "LysimeterField$Column"
def TX1 : u_T := fun k => match k with
  | 0 => ("LysimeterField$Column", "bottom", "C", true)
  | 1 => ("LysimeterField$Column", "layers", "Ljava/util/ArrayList;", true)
  | 2 => ("LysimeterField$Column", "plants", "Ljava/util/ArrayList;", true)
  | 3 => ("LysimeterField$Column", "account", "LLysimeterField$Account;", true)
  | 4 => ("LysimeterField$Column", "link", "I", false)
  | 5 => ("LysimeterField$Column", "scale", "I", false)
  | 6 => ("LysimeterField$Column", "mulched", "Z", false)
  | 7 => ("LysimeterField$Column", "threshold", "I", false)
  | 8 => ("LysimeterField$Column", "watering", "I", false)
  | 9 => ("LysimeterField$Column", "standing", "I", false)
  | 10 => ("LysimeterField$Column", "rightSince", "I", false)
  | 11 => ("LysimeterField$Column", "running", "J", false)
  | _ => ("LysimeterField$Column", "manure", "J", false)
def tyX1 : Nat → FieldType := fun k => match k with
  | 0 => .char
  | 1 => .object "java/util/ArrayList"
  | 2 => .object "java/util/ArrayList"
  | 3 => .object "LysimeterField$Account"
  | 4 => .int
  | 5 => .int
  | 6 => .boolean
  | 7 => .int
  | 8 => .int
  | 9 => .int
  | 10 => .int
  | 11 => .long
  | _ => .long
abbrev wsX10 : List Cond := u_ws RX1 TX1 13
theorem nmX1 : ∀ a, a < 13 → ∀ b, b < 13 → a ≠ b → (TX1 a).2.1 ≠ (TX1 b).2.1 := by decide +kernel
theorem tyX1_ok : ∀ k, k < 13 → parseFieldDescriptor (TX1 k).2.2.1 = some (tyX1 k) := by decide +kernel
abbrev cX1_init : ByteArray := prog_3_method_1_code
def yX1_init : MethodName := ⟨RX1, "<init>", "(CI)V"⟩
abbrev cX1_becomeLike : ByteArray := prog_3_method_2_code
def yX1_becomeLike : MethodName := ⟨RX1, "becomeLike", "(LLysimeterField$Column;)V"⟩
abbrev cX1_goThroughAnHour : ByteArray := prog_3_method_3_code
def yX1_goThroughAnHour : MethodName := ⟨RX1, "goThroughAnHour", "(III)J"⟩
abbrev cX1_topOrNull : ByteArray := prog_3_method_4_code
def yX1_topOrNull : MethodName := ⟨RX1, "topOrNull", "()LLysimeterField$Layer;"⟩
abbrev cX1_letFrostMove : ByteArray := prog_3_method_5_code
def yX1_letFrostMove : MethodName := ⟨RX1, "letFrostMove", "(I)V"⟩
abbrev cX1_uppermost : ByteArray := prog_3_method_6_code
def yX1_uppermost : MethodName := ⟨RX1, "uppermost", "(Z)LLysimeterField$Layer;"⟩
abbrev cX1_letWaterCome : ByteArray := prog_3_method_7_code
def yX1_letWaterCome : MethodName := ⟨RX1, "letWaterCome", "(I)J"⟩
abbrev cX1_takeArrivals : ByteArray := prog_3_method_8_code
def yX1_takeArrivals : MethodName := ⟨RX1, "takeArrivals", "(I)J"⟩
abbrev cX1_takeWatering : ByteArray := prog_3_method_9_code
def yX1_takeWatering : MethodName := ⟨RX1, "takeWatering", "(LLysimeterField$Layer;)I"⟩
abbrev cX1_fillCrack : ByteArray := prog_3_method_10_code
def yX1_fillCrack : MethodName := ⟨RX1, "fillCrack", "(LLysimeterField$Layer;J)I"⟩
abbrev cX1_soakIn : ByteArray := prog_3_method_11_code
def yX1_soakIn : MethodName := ⟨RX1, "soakIn", "(LLysimeterField$Layer;J)I"⟩
abbrev cX1_crackEnd : ByteArray := prog_3_method_12_code
def yX1_crackEnd : MethodName := ⟨RX1, "crackEnd", "(LLysimeterField$Layer;)LLysimeterField$Layer;"⟩
abbrev cX1_crackBetween : ByteArray := prog_3_method_13_code
def yX1_crackBetween : MethodName := ⟨RX1, "crackBetween", "(LLysimeterField$Layer;LLysimeterField$Layer;)I"⟩
abbrev cX1_crackCanTake : ByteArray := prog_3_method_14_code
def yX1_crackCanTake : MethodName := ⟨RX1, "crackCanTake", "()I"⟩
abbrev cX1_letWaterSink : ByteArray := prog_3_method_15_code
def yX1_letWaterSink : MethodName := ⟨RX1, "letWaterSink", "()V"⟩
abbrev cX1_letDrink : ByteArray := prog_3_method_16_code
def yX1_letDrink : MethodName := ⟨RX1, "letDrink", "(LLysimeterField$Plant;)V"⟩
abbrev cX1_wettest : ByteArray := prog_3_method_17_code
def yX1_wettest : MethodName := ⟨RX1, "wettest", "(I)LLysimeterField$Layer;"⟩
abbrev cX1_letWaterDry : ByteArray := prog_3_method_18_code
def yX1_letWaterDry : MethodName := ⟨RX1, "letWaterDry", "(I)V"⟩
abbrev cX1_makeNitrate : ByteArray := prog_3_method_19_code
def yX1_makeNitrate : MethodName := ⟨RX1, "makeNitrate", "(I)V"⟩
abbrev cX1_eatNitrate : ByteArray := prog_3_method_20_code
def yX1_eatNitrate : MethodName := ⟨RX1, "eatNitrate", "(I)V"⟩
abbrev cX1_waterOfLayers : ByteArray := prog_3_method_21_code
def yX1_waterOfLayers : MethodName := ⟨RX1, "waterOfLayers", "()I"⟩
abbrev cX1_frozenWater : ByteArray := prog_3_method_22_code
def yX1_frozenWater : MethodName := ⟨RX1, "frozenWater", "()I"⟩
abbrev cX1_frozenLayers : ByteArray := prog_3_method_23_code
def yX1_frozenLayers : MethodName := ⟨RX1, "frozenLayers", "()I"⟩
abbrev cX1_missingWater : ByteArray := prog_3_method_24_code
def yX1_missingWater : MethodName := ⟨RX1, "missingWater", "()J"⟩
abbrev cX1_layersHold : ByteArray := prog_3_method_25_code
def yX1_layersHold : MethodName := ⟨RX1, "layersHold", "()Z"⟩
abbrev cX1_solutesHold : ByteArray := prog_3_method_26_code
def yX1_solutesHold : MethodName := ⟨RX1, "solutesHold", "()Z"⟩
def RX2 : String := "LysimeterField$Layer"
def TX2 : u_T := fun k => match k with
  | 0 => ("LysimeterField$Layer", "soil", "LLysimeterField$Soil;", true)
  | 1 => ("LysimeterField$Layer", "thickness", "I", true)
  | 2 => ("LysimeterField$Layer", "capacity", "I", true)
  | 3 => ("LysimeterField$Layer", "field", "I", true)
  | 4 => ("LysimeterField$Layer", "wilting", "I", true)
  | 5 => ("LysimeterField$Layer", "solutes", "LLysimeterField$Solutes;", true)
  | 6 => ("LysimeterField$Layer", "water", "I", false)
  | 7 => ("LysimeterField$Layer", "frost", "I", false)
  | _ => ("LysimeterField$Layer", "frozen", "Z", false)
def tyX2 : Nat → FieldType := fun k => match k with
  | 0 => .object "LysimeterField$Soil"
  | 1 => .int
  | 2 => .int
  | 3 => .int
  | 4 => .int
  | 5 => .object "LysimeterField$Solutes"
  | 6 => .int
  | 7 => .int
  | _ => .boolean
abbrev wsX20 : List Cond := u_ws RX2 TX2 9
theorem nmX2 : ∀ a, a < 9 → ∀ b, b < 9 → a ≠ b → (TX2 a).2.1 ≠ (TX2 b).2.1 := by decide +kernel
theorem tyX2_ok : ∀ k, k < 9 → parseFieldDescriptor (TX2 k).2.2.1 = some (tyX2 k) := by decide +kernel
abbrev cX2_init : ByteArray := prog_4_method_1_code
def yX2_init : MethodName := ⟨RX2, "<init>", "(LLysimeterField$Soil;I)V"⟩
abbrev cX2_room : ByteArray := prog_4_method_2_code
def yX2_room : MethodName := ⟨RX2, "room", "()I"⟩
abbrev cX2_canReceive : ByteArray := prog_4_method_3_code
def yX2_canReceive : MethodName := ⟨RX2, "canReceive", "()I"⟩
abbrev cX2_canFeedRoots : ByteArray := prog_4_method_4_code
def yX2_canFeedRoots : MethodName := ⟨RX2, "canFeedRoots", "()I"⟩
abbrev cX2_canGiveToAir : ByteArray := prog_4_method_5_code
def yX2_canGiveToAir : MethodName := ⟨RX2, "canGiveToAir", "()I"⟩
abbrev cX2_canSink : ByteArray := prog_4_method_6_code
def yX2_canSink : MethodName := ⟨RX2, "canSink", "(I)I"⟩
abbrev cX2_hundredthsOfWater : ByteArray := prog_4_method_7_code
def yX2_hundredthsOfWater : MethodName := ⟨RX2, "hundredthsOfWater", "()I"⟩
abbrev cX2_freeze : ByteArray := prog_4_method_8_code
def yX2_freeze : MethodName := ⟨RX2, "freeze", "(I)V"⟩
abbrev cX2_thaw : ByteArray := prog_4_method_9_code
def yX2_thaw : MethodName := ⟨RX2, "thaw", "(I)V"⟩
abbrev cX2_sendWater : ByteArray := prog_4_method_10_code
def yX2_sendWater : MethodName := ⟨RX2, "sendWater", "(ILLysimeterField$Solutes;)V"⟩
abbrev cX2_becomeLike : ByteArray := prog_4_method_11_code
def yX2_becomeLike : MethodName := ⟨RX2, "becomeLike", "(LLysimeterField$Layer;)V"⟩
def RX3 : String := "LysimeterField$Plant"
def TX3 : u_T := fun k => match k with
  | 0 => ("LysimeterField$Plant", "reach", "I", true)
  | 1 => ("LysimeterField$Plant", "thirst", "I", true)
  | _ => ("LysimeterField$Plant", "stress", "J", false)
def tyX3 : Nat → FieldType := fun k => match k with
  | 0 => .int
  | 1 => .int
  | _ => .long
abbrev wsX30 : List Cond := u_ws RX3 TX3 3
theorem nmX3 : ∀ a, a < 3 → ∀ b, b < 3 → a ≠ b → (TX3 a).2.1 ≠ (TX3 b).2.1 := by decide +kernel
theorem tyX3_ok : ∀ k, k < 3 → parseFieldDescriptor (TX3 k).2.2.1 = some (tyX3 k) := by decide +kernel
abbrev cX3_init : ByteArray := prog_5_method_1_code
def yX3_init : MethodName := ⟨RX3, "<init>", "(II)V"⟩
def RX4 : String := "LysimeterField$Soil"
def TX4 : u_T := fun k => match k with
  | _ => ("", "", "", false)
def tyX4 : Nat → FieldType := fun k => match k with
  | _ => .int
abbrev wsX40 : List Cond := u_ws RX4 TX4 0
theorem nmX4 : ∀ a, a < 0 → ∀ b, b < 0 → a ≠ b → (TX4 a).2.1 ≠ (TX4 b).2.1 := by decide +kernel
theorem tyX4_ok : ∀ k, k < 0 → parseFieldDescriptor (TX4 k).2.2.1 = some (tyX4 k) := by decide +kernel
def RX5 : String := "LysimeterField$Solutes"
def TX5 : u_T := fun k => match k with
  | _ => ("LysimeterField$Solutes", "amounts", "[J", true)
def tyX5 : Nat → FieldType := fun k => match k with
  | _ => .array .long
abbrev wsX50 : List Cond := u_ws RX5 TX5 1
theorem nmX5 : ∀ a, a < 1 → ∀ b, b < 1 → a ≠ b → (TX5 a).2.1 ≠ (TX5 b).2.1 := by decide +kernel
theorem tyX5_ok : ∀ k, k < 1 → parseFieldDescriptor (TX5 k).2.2.1 = some (tyX5 k) := by decide +kernel
abbrev cX5_init : ByteArray := prog_7_method_1_code
def yX5_init : MethodName := ⟨RX5, "<init>", "()V"⟩
abbrev cX5_amountOf : ByteArray := prog_7_method_2_code
def yX5_amountOf : MethodName := ⟨RX5, "amountOf", "(I)J"⟩
abbrev cX5_change : ByteArray := prog_7_method_3_code
def yX5_change : MethodName := ⟨RX5, "change", "(IJ)V"⟩
abbrev cX5_giveShare : ByteArray := prog_7_method_4_code
def yX5_giveShare : MethodName := ⟨RX5, "giveShare", "(IILLysimeterField$Solutes;)V"⟩
def RX6 : String := "LysimeterField$Weather"
def TX6 : u_T := fun k => match k with
  | 0 => ("LysimeterField$Weather", "temperature", "I", false)
  | 1 => ("LysimeterField$Weather", "rain", "I", false)
  | _ => ("LysimeterField$Weather", "thirst", "I", false)
def tyX6 : Nat → FieldType := fun k => match k with
  | 0 => .int
  | 1 => .int
  | _ => .int
abbrev wsX60 : List Cond := u_ws RX6 TX6 3
theorem nmX6 : ∀ a, a < 3 → ∀ b, b < 3 → a ≠ b → (TX6 a).2.1 ≠ (TX6 b).2.1 := by decide +kernel
theorem tyX6_ok : ∀ k, k < 3 → parseFieldDescriptor (TX6 k).2.2.1 = some (tyX6 k) := by decide +kernel
abbrev cX6_init : ByteArray := prog_8_method_1_code
def yX6_init : MethodName := ⟨RX6, "<init>", "()V"⟩
def RX7 : String := "LysimeterField"
def TX7 : u_T := fun k => match k with
  | 0 => ("LysimeterField", "columns", "Ljava/util/ArrayList;", true)
  | 1 => ("LysimeterField", "thoughts", "Ljava/util/ArrayList;", true)
  | 2 => ("LysimeterField", "now", "LLysimeterField$Weather;", true)
  | 3 => ("LysimeterField", "misses", "[J", true)
  | 4 => ("LysimeterField", "limit", "I", false)
  | 5 => ("LysimeterField", "fine", "I", false)
  | _ => ("LysimeterField", "hoursInAll", "I", false)
def tyX7 : Nat → FieldType := fun k => match k with
  | 0 => .object "java/util/ArrayList"
  | 1 => .object "java/util/ArrayList"
  | 2 => .object "LysimeterField$Weather"
  | 3 => .array .long
  | 4 => .int
  | 5 => .int
  | _ => .int
abbrev wsX70 : List Cond := u_ws RX7 TX7 7
theorem nmX7 : ∀ a, a < 7 → ∀ b, b < 7 → a ≠ b → (TX7 a).2.1 ≠ (TX7 b).2.1 := by decide +kernel
theorem tyX7_ok : ∀ k, k < 7 → parseFieldDescriptor (TX7 k).2.2.1 = some (tyX7 k) := by decide +kernel
abbrev cX7_init : ByteArray := prog_1_method_1_code
def yX7_init : MethodName := ⟨RX7, "<init>", "()V"⟩
abbrev cX7_column : ByteArray := prog_1_method_2_code
def yX7_column : MethodName := ⟨RX7, "column", "(C)I"⟩
abbrev cX7_layer : ByteArray := prog_1_method_3_code
def yX7_layer : MethodName := ⟨RX7, "layer", "(ICI)I"⟩
abbrev cX7_wet : ByteArray := prog_1_method_4_code
def yX7_wet : MethodName := ⟨RX7, "wet", "(III)I"⟩
abbrev cX7_water : ByteArray := prog_1_method_5_code
def yX7_water : MethodName := ⟨RX7, "water", "(II)I"⟩
abbrev cX7_capacity : ByteArray := prog_1_method_6_code
def yX7_capacity : MethodName := ⟨RX7, "capacity", "(II)I"⟩
abbrev cX7_link : ByteArray := prog_1_method_7_code
def yX7_link : MethodName := ⟨RX7, "link", "(II)I"⟩
abbrev cX7_scale : ByteArray := prog_1_method_8_code
def yX7_scale : MethodName := ⟨RX7, "scale", "(II)I"⟩
abbrev cX7_plant : ByteArray := prog_1_method_9_code
def yX7_plant : MethodName := ⟨RX7, "plant", "(III)I"⟩
abbrev cX7_harvest : ByteArray := prog_1_method_10_code
def yX7_harvest : MethodName := ⟨RX7, "harvest", "(I)I"⟩
abbrev cX7_stress : ByteArray := prog_1_method_11_code
def yX7_stress : MethodName := ⟨RX7, "stress", "(II)I"⟩
abbrev cX7_mulch : ByteArray := prog_1_method_12_code
def yX7_mulch : MethodName := ⟨RX7, "mulch", "(IZ)Z"⟩
abbrev cX7_rule : ByteArray := prog_1_method_13_code
def yX7_rule : MethodName := ⟨RX7, "rule", "(III)I"⟩
abbrev cX7_spread : ByteArray := prog_1_method_14_code
def yX7_spread : MethodName := ⟨RX7, "spread", "(ICI)J"⟩
abbrev cX7_manure : ByteArray := prog_1_method_15_code
def yX7_manure : MethodName := ⟨RX7, "manure", "(II)J"⟩
abbrev cX7_solute : ByteArray := prog_1_method_16_code
def yX7_solute : MethodName := ⟨RX7, "solute", "(IIC)J"⟩
abbrev cX7_out : ByteArray := prog_1_method_17_code
def yX7_out : MethodName := ⟨RX7, "out", "(IC)J"⟩
abbrev cX7_eaten : ByteArray := prog_1_method_18_code
def yX7_eaten : MethodName := ⟨RX7, "eaten", "(I)J"⟩
abbrev cX7_weather : ByteArray := prog_1_method_19_code
def yX7_weather : MethodName := ⟨RX7, "weather", "(III)I"⟩
abbrev cX7_law : ByteArray := prog_1_method_20_code
def yX7_law : MethodName := ⟨RX7, "law", "(II)I"⟩
abbrev cX7_hours : ByteArray := prog_1_method_21_code
def yX7_hours : MethodName := ⟨RX7, "hours", "(I)I"⟩
abbrev cX7_standing : ByteArray := prog_1_method_22_code
def yX7_standing : MethodName := ⟨RX7, "standing", "(I)I"⟩
abbrev cX7_recharge : ByteArray := prog_1_method_23_code
def yX7_recharge : MethodName := ⟨RX7, "recharge", "(I)J"⟩
abbrev cX7_runoff : ByteArray := prog_1_method_24_code
def yX7_runoff : MethodName := ⟨RX7, "runoff", "(I)J"⟩
abbrev cX7_vapour : ByteArray := prog_1_method_25_code
def yX7_vapour : MethodName := ⟨RX7, "vapour", "(I)J"⟩
abbrev cX7_isFrozen : ByteArray := prog_1_method_26_code
def yX7_isFrozen : MethodName := ⟨RX7, "isFrozen", "(II)Z"⟩
abbrev cX7_frost : ByteArray := prog_1_method_27_code
def yX7_frost : MethodName := ⟨RX7, "frost", "(II)I"⟩
abbrev cX7_heave : ByteArray := prog_1_method_28_code
def yX7_heave : MethodName := ⟨RX7, "heave", "(I)I"⟩
abbrev cX7_crack : ByteArray := prog_1_method_29_code
def yX7_crack : MethodName := ⟨RX7, "crack", "(I)I"⟩
abbrev cX7_tension : ByteArray := prog_1_method_30_code
def yX7_tension : MethodName := ⟨RX7, "tension", "(II)I"⟩
abbrev cX7_reflection : ByteArray := prog_1_method_31_code
def yX7_reflection : MethodName := ⟨RX7, "reflection", "(II)I"⟩
abbrev cX7_setRight : ByteArray := prog_1_method_32_code
def yX7_setRight : MethodName := ⟨RX7, "setRight", "(I)I"⟩
abbrev cX7_weigh : ByteArray := prog_1_method_33_code
def yX7_weigh : MethodName := ⟨RX7, "weigh", "(I)I"⟩
abbrev cX7_fines : ByteArray := prog_1_method_34_code
def yX7_fines : MethodName := ⟨RX7, "fines", "(I)J"⟩
abbrev cX7_forecast : ByteArray := prog_1_method_35_code
def yX7_forecast : MethodName := ⟨RX7, "forecast", "(III)J"⟩
abbrev cX7_fits : ByteArray := prog_1_method_36_code
def yX7_fits : MethodName := ⟨RX7, "fits", "(III)I"⟩
abbrev cX7_fit : ByteArray := prog_1_method_37_code
def yX7_fit : MethodName := ⟨RX7, "fit", "(IIII)I"⟩
abbrev cX7_missing : ByteArray := prog_1_method_38_code
def yX7_missing : MethodName := ⟨RX7, "missing", "()J"⟩
abbrev cX7_frozenShare : ByteArray := prog_1_method_39_code
def yX7_frozenShare : MethodName := ⟨RX7, "frozenShare", "()F"⟩
abbrev cX7_meanWater : ByteArray := prog_1_method_40_code
def yX7_meanWater : MethodName := ⟨RX7, "meanWater", "()D"⟩
abbrev cX7_checksum : ByteArray := prog_1_method_41_code
def yX7_checksum : MethodName := ⟨RX7, "checksum", "()J"⟩
abbrev cX7_isTrue : ByteArray := prog_1_method_42_code
def yX7_isTrue : MethodName := ⟨RX7, "isTrue", "()Z"⟩
abbrev cX7_columnAt : ByteArray := prog_1_method_43_code
def yX7_columnAt : MethodName := ⟨RX7, "columnAt", "(I)LLysimeterField$Column;"⟩
abbrev cX7_thoughtAt : ByteArray := prog_1_method_44_code
def yX7_thoughtAt : MethodName := ⟨RX7, "thoughtAt", "(I)LLysimeterField$Column;"⟩
abbrev cX7_layerAt : ByteArray := prog_1_method_45_code
def yX7_layerAt : MethodName := ⟨RX7, "layerAt", "(II)LLysimeterField$Layer;"⟩
abbrev cX7_checkRange : ByteArray := prog_1_method_46_code
def yX7_checkRange : MethodName := ⟨RX7, "checkRange", "(III)V"⟩
abbrev cX7_soilOf : ByteArray := prog_1_method_47_code
def yX7_soilOf : MethodName := ⟨RX7, "soilOf", "(C)LLysimeterField$Soil;"⟩
abbrev cX7_kindOf : ByteArray := prog_1_method_48_code
def yX7_kindOf : MethodName := ⟨RX7, "kindOf", "(C)I"⟩
abbrev cX7_letAnHourGoBy : ByteArray := prog_1_method_49_code
def yX7_letAnHourGoBy : MethodName := ⟨RX7, "letAnHourGoBy", "(LLysimeterField$Column;)V"⟩
abbrev cX7_runOn : ByteArray := prog_1_method_50_code
def yX7_runOn : MethodName := ⟨RX7, "runOn", "(LLysimeterField$Column;J)V"⟩
abbrev cX7_judge : ByteArray := prog_1_method_51_code
def yX7_judge : MethodName := ⟨RX7, "judge", "(LLysimeterField$Column;JJ)V"⟩
abbrev cX7_driftOf : ByteArray := prog_1_method_52_code
def yX7_driftOf : MethodName := ⟨RX7, "driftOf", "(LLysimeterField$Column;)I"⟩
abbrev cX7_thinkOf : ByteArray := prog_1_method_53_code
def yX7_thinkOf : MethodName := ⟨RX7, "thinkOf", "(II)LLysimeterField$Column;"⟩
abbrev cX7_foresee : ByteArray := prog_1_method_54_code
def yX7_foresee : MethodName := ⟨RX7, "foresee", "(III)J"⟩
abbrev cX7_compareForecasts : ByteArray := prog_1_method_55_code
def yX7_compareForecasts : MethodName := ⟨RX7, "compareForecasts", "(III)J"⟩
abbrev cX7_fittedScale : ByteArray := prog_1_method_56_code
def yX7_fittedScale : MethodName := ⟨RX7, "fittedScale", "(I)I"⟩
abbrev cX7_layersInAll : ByteArray := prog_1_method_57_code
def yX7_layersInAll : MethodName := ⟨RX7, "layersInAll", "()I"⟩
abbrev cX7_forecastHolds : ByteArray := prog_1_method_58_code
def yX7_forecastHolds : MethodName := ⟨RX7, "forecastHolds", "(I)Z"⟩
def RX8 : String := "LysimeterFieldModel$Column"
def TX8 : u_T := fun k => match k with
  | 0 => ("LysimeterFieldModel$Column", "bottom", "C", true)
  | 1 => ("LysimeterFieldModel$Column", "layers", "Ljava/util/ArrayList;", true)
  | 2 => ("LysimeterFieldModel$Column", "plants", "Ljava/util/ArrayList;", true)
  | 3 => ("LysimeterFieldModel$Column", "link", "I", false)
  | 4 => ("LysimeterFieldModel$Column", "scale", "I", false)
  | 5 => ("LysimeterFieldModel$Column", "hasMulch", "Z", false)
  | 6 => ("LysimeterFieldModel$Column", "threshold", "I", false)
  | 7 => ("LysimeterFieldModel$Column", "amount", "I", false)
  | 8 => ("LysimeterFieldModel$Column", "standing", "I", false)
  | 9 => ("LysimeterFieldModel$Column", "coming", "I", false)
  | 10 => ("LysimeterFieldModel$Column", "manure", "J", false)
  | 11 => ("LysimeterFieldModel$Column", "drift", "I", false)
  | 12 => ("LysimeterFieldModel$Column", "recharge", "J", false)
  | 13 => ("LysimeterFieldModel$Column", "runoff", "J", false)
  | 14 => ("LysimeterFieldModel$Column", "vapour", "J", false)
  | 15 => ("LysimeterFieldModel$Column", "eaten", "J", false)
  | 16 => ("LysimeterFieldModel$Column", "fines", "J", false)
  | _ => ("LysimeterFieldModel$Column", "outs", "[J", true)
def tyX8 : Nat → FieldType := fun k => match k with
  | 0 => .char
  | 1 => .object "java/util/ArrayList"
  | 2 => .object "java/util/ArrayList"
  | 3 => .int
  | 4 => .int
  | 5 => .boolean
  | 6 => .int
  | 7 => .int
  | 8 => .int
  | 9 => .int
  | 10 => .long
  | 11 => .int
  | 12 => .long
  | 13 => .long
  | 14 => .long
  | 15 => .long
  | 16 => .long
  | _ => .array .long
abbrev wsX80 : List Cond := u_ws RX8 TX8 18
theorem nmX8 : ∀ a, a < 18 → ∀ b, b < 18 → a ≠ b → (TX8 a).2.1 ≠ (TX8 b).2.1 := by decide +kernel
theorem tyX8_ok : ∀ k, k < 18 → parseFieldDescriptor (TX8 k).2.2.1 = some (tyX8 k) := by decide +kernel
abbrev cX8_init : ByteArray := prog_11_method_1_code
def yX8_init : MethodName := ⟨RX8, "<init>", "(C)V"⟩
abbrev cX8_copy : ByteArray := prog_11_method_2_code
def yX8_copy : MethodName := ⟨RX8, "copy", "()LLysimeterFieldModel$Column;"⟩
abbrev cX8_freezes : ByteArray := prog_11_method_3_code
def yX8_freezes : MethodName := ⟨RX8, "freezes", "(I)V"⟩
abbrev cX8_crackEnd : ByteArray := prog_11_method_4_code
def yX8_crackEnd : MethodName := ⟨RX8, "crackEnd", "()LLysimeterFieldModel$Layer;"⟩
abbrev cX8_crack : ByteArray := prog_11_method_5_code
def yX8_crack : MethodName := ⟨RX8, "crack", "()I"⟩
abbrev cX8_takesIn : ByteArray := prog_11_method_6_code
def yX8_takesIn : MethodName := ⟨RX8, "takesIn", "(I)I"⟩
abbrev cX8_sinks : ByteArray := prog_11_method_7_code
def yX8_sinks : MethodName := ⟨RX8, "sinks", "([J)I"⟩
abbrev cX8_drinks : ByteArray := prog_11_method_8_code
def yX8_drinks : MethodName := ⟨RX8, "drinks", "(LLysimeterFieldModel$Plant;)V"⟩
abbrev cX8_dries : ByteArray := prog_11_method_9_code
def yX8_dries : MethodName := ⟨RX8, "dries", "(I)V"⟩
abbrev cX8_nitrates : ByteArray := prog_11_method_10_code
def yX8_nitrates : MethodName := ⟨RX8, "nitrates", "(I)V"⟩
abbrev cX8_goes : ByteArray := prog_11_method_11_code
def yX8_goes : MethodName := ⟨RX8, "goes", "(LLysimeterFieldModel$Sky;I)I"⟩
abbrev cX8_waters : ByteArray := prog_11_method_12_code
def yX8_waters : MethodName := ⟨RX8, "waters", "()I"⟩
def RX9 : String := "LysimeterFieldModel$Layer"
def TX9 : u_T := fun k => match k with
  | 0 => ("LysimeterFieldModel$Layer", "soil", "C", true)
  | 1 => ("LysimeterFieldModel$Layer", "thickness", "I", true)
  | 2 => ("LysimeterFieldModel$Layer", "capacity", "I", true)
  | 3 => ("LysimeterFieldModel$Layer", "field", "I", true)
  | 4 => ("LysimeterFieldModel$Layer", "wilting", "I", true)
  | 5 => ("LysimeterFieldModel$Layer", "water", "I", false)
  | 6 => ("LysimeterFieldModel$Layer", "frost", "I", false)
  | 7 => ("LysimeterFieldModel$Layer", "isFrozen", "Z", false)
  | _ => ("LysimeterFieldModel$Layer", "solutes", "[J", true)
def tyX9 : Nat → FieldType := fun k => match k with
  | 0 => .char
  | 1 => .int
  | 2 => .int
  | 3 => .int
  | 4 => .int
  | 5 => .int
  | 6 => .int
  | 7 => .boolean
  | _ => .array .long
abbrev wsX90 : List Cond := u_ws RX9 TX9 9
theorem nmX9 : ∀ a, a < 9 → ∀ b, b < 9 → a ≠ b → (TX9 a).2.1 ≠ (TX9 b).2.1 := by decide +kernel
theorem tyX9_ok : ∀ k, k < 9 → parseFieldDescriptor (TX9 k).2.2.1 = some (tyX9 k) := by decide +kernel
abbrev cX9_init : ByteArray := prog_12_method_1_code
def yX9_init : MethodName := ⟨RX9, "<init>", "(CI)V"⟩
abbrev cX9_copy : ByteArray := prog_12_method_2_code
def yX9_copy : MethodName := ⟨RX9, "copy", "()LLysimeterFieldModel$Layer;"⟩
abbrev cX9_takes : ByteArray := prog_12_method_3_code
def yX9_takes : MethodName := ⟨RX9, "takes", "()I"⟩
abbrev cX9_drains : ByteArray := prog_12_method_4_code
def yX9_drains : MethodName := ⟨RX9, "drains", "()I"⟩
abbrev cX9_room : ByteArray := prog_12_method_5_code
def yX9_room : MethodName := ⟨RX9, "room", "()I"⟩
abbrev cX9_above : ByteArray := prog_12_method_6_code
def yX9_above : MethodName := ⟨RX9, "above", "()I"⟩
def RX10 : String := "LysimeterFieldModel$Plant"
def TX10 : u_T := fun k => match k with
  | 0 => ("LysimeterFieldModel$Plant", "reach", "I", true)
  | 1 => ("LysimeterFieldModel$Plant", "thirst", "I", true)
  | _ => ("LysimeterFieldModel$Plant", "stress", "I", false)
def tyX10 : Nat → FieldType := fun k => match k with
  | 0 => .int
  | 1 => .int
  | _ => .int
abbrev wsX100 : List Cond := u_ws RX10 TX10 3
theorem nmX10 : ∀ a, a < 3 → ∀ b, b < 3 → a ≠ b → (TX10 a).2.1 ≠ (TX10 b).2.1 := by decide +kernel
theorem tyX10_ok : ∀ k, k < 3 → parseFieldDescriptor (TX10 k).2.2.1 = some (tyX10 k) := by decide +kernel
abbrev cX10_init : ByteArray := prog_13_method_1_code
def yX10_init : MethodName := ⟨RX10, "<init>", "(II)V"⟩
def RX11 : String := "LysimeterFieldModel$Sky"
def TX11 : u_T := fun k => match k with
  | 0 => ("LysimeterFieldModel$Sky", "temperature", "I", false)
  | 1 => ("LysimeterFieldModel$Sky", "rain", "I", false)
  | 2 => ("LysimeterFieldModel$Sky", "thirst", "I", false)
  | 3 => ("LysimeterFieldModel$Sky", "limit", "I", false)
  | _ => ("LysimeterFieldModel$Sky", "fine", "I", false)
def tyX11 : Nat → FieldType := fun k => match k with
  | 0 => .int
  | 1 => .int
  | 2 => .int
  | 3 => .int
  | _ => .int
abbrev wsX110 : List Cond := u_ws RX11 TX11 5
theorem nmX11 : ∀ a, a < 5 → ∀ b, b < 5 → a ≠ b → (TX11 a).2.1 ≠ (TX11 b).2.1 := by decide +kernel
theorem tyX11_ok : ∀ k, k < 5 → parseFieldDescriptor (TX11 k).2.2.1 = some (tyX11 k) := by decide +kernel
abbrev cX11_init : ByteArray := prog_14_method_1_code
def yX11_init : MethodName := ⟨RX11, "<init>", "()V"⟩
def RX12 : String := "LysimeterFieldModel"
def TX12 : u_T := fun k => match k with
  | 0 => ("LysimeterFieldModel", "thrown", "I", false)
  | 1 => ("LysimeterFieldModel", "columns", "Ljava/util/ArrayList;", true)
  | 2 => ("LysimeterFieldModel", "sky", "LLysimeterFieldModel$Sky;", true)
  | _ => ("LysimeterFieldModel", "hours", "I", false)
def tyX12 : Nat → FieldType := fun k => match k with
  | 0 => .int
  | 1 => .object "java/util/ArrayList"
  | 2 => .object "LysimeterFieldModel$Sky"
  | _ => .int
abbrev wsX120 : List Cond := u_ws RX12 TX12 4
theorem nmX12 : ∀ a, a < 4 → ∀ b, b < 4 → a ≠ b → (TX12 a).2.1 ≠ (TX12 b).2.1 := by decide +kernel
theorem tyX12_ok : ∀ k, k < 4 → parseFieldDescriptor (TX12 k).2.2.1 = some (tyX12 k) := by decide +kernel
abbrev cX12_in : ByteArray := prog_10_method_1_code
def yX12_in : MethodName := ⟨RX12, "in", "(JJJ)Z"⟩
abbrev cX12_kindOf : ByteArray := prog_10_method_2_code
def yX12_kindOf : MethodName := ⟨RX12, "kindOf", "(C)I"⟩
abbrev cX12_init : ByteArray := prog_10_method_3_code
def yX12_init : MethodName := ⟨RX12, "<init>", "()V"⟩
abbrev cX12_thrown : ByteArray := prog_10_method_4_code
def yX12_thrown : MethodName := ⟨RX12, "thrown", "()I"⟩
abbrev cX12_isColumn : ByteArray := prog_10_method_5_code
def yX12_isColumn : MethodName := ⟨RX12, "isColumn", "(I)Z"⟩
abbrev cX12_noColumn : ByteArray := prog_10_method_6_code
def yX12_noColumn : MethodName := ⟨RX12, "noColumn", "(I)Z"⟩
abbrev cX12_noLayer : ByteArray := prog_10_method_7_code
def yX12_noLayer : MethodName := ⟨RX12, "noLayer", "(II)Z"⟩
abbrev cX12_layerOf : ByteArray := prog_10_method_8_code
def yX12_layerOf : MethodName := ⟨RX12, "layerOf", "(II)LLysimeterFieldModel$Layer;"⟩
abbrev cX12_column : ByteArray := prog_10_method_9_code
def yX12_column : MethodName := ⟨RX12, "column", "(C)I"⟩
abbrev cX12_layer : ByteArray := prog_10_method_10_code
def yX12_layer : MethodName := ⟨RX12, "layer", "(ICI)I"⟩
abbrev cX12_wet : ByteArray := prog_10_method_11_code
def yX12_wet : MethodName := ⟨RX12, "wet", "(III)I"⟩
abbrev cX12_water : ByteArray := prog_10_method_12_code
def yX12_water : MethodName := ⟨RX12, "water", "(II)I"⟩
abbrev cX12_capacity : ByteArray := prog_10_method_13_code
def yX12_capacity : MethodName := ⟨RX12, "capacity", "(II)I"⟩
abbrev cX12_link : ByteArray := prog_10_method_14_code
def yX12_link : MethodName := ⟨RX12, "link", "(II)I"⟩
abbrev cX12_scale : ByteArray := prog_10_method_15_code
def yX12_scale : MethodName := ⟨RX12, "scale", "(II)I"⟩
abbrev cX12_plant : ByteArray := prog_10_method_16_code
def yX12_plant : MethodName := ⟨RX12, "plant", "(III)I"⟩
abbrev cX12_harvest : ByteArray := prog_10_method_17_code
def yX12_harvest : MethodName := ⟨RX12, "harvest", "(I)I"⟩
abbrev cX12_stress : ByteArray := prog_10_method_18_code
def yX12_stress : MethodName := ⟨RX12, "stress", "(II)I"⟩
abbrev cX12_mulch : ByteArray := prog_10_method_19_code
def yX12_mulch : MethodName := ⟨RX12, "mulch", "(IZ)Z"⟩
abbrev cX12_rule : ByteArray := prog_10_method_20_code
def yX12_rule : MethodName := ⟨RX12, "rule", "(III)I"⟩
abbrev cX12_spread : ByteArray := prog_10_method_21_code
def yX12_spread : MethodName := ⟨RX12, "spread", "(ICI)J"⟩
abbrev cX12_manure : ByteArray := prog_10_method_22_code
def yX12_manure : MethodName := ⟨RX12, "manure", "(II)J"⟩
abbrev cX12_solute : ByteArray := prog_10_method_23_code
def yX12_solute : MethodName := ⟨RX12, "solute", "(IIC)J"⟩
abbrev cX12_out : ByteArray := prog_10_method_24_code
def yX12_out : MethodName := ⟨RX12, "out", "(IC)J"⟩
abbrev cX12_eaten : ByteArray := prog_10_method_25_code
def yX12_eaten : MethodName := ⟨RX12, "eaten", "(I)J"⟩
abbrev cX12_weather : ByteArray := prog_10_method_26_code
def yX12_weather : MethodName := ⟨RX12, "weather", "(III)I"⟩
abbrev cX12_law : ByteArray := prog_10_method_27_code
def yX12_law : MethodName := ⟨RX12, "law", "(II)I"⟩
abbrev cX12_hours : ByteArray := prog_10_method_28_code
def yX12_hours : MethodName := ⟨RX12, "hours", "(I)I"⟩
abbrev cX12_standing : ByteArray := prog_10_method_29_code
def yX12_standing : MethodName := ⟨RX12, "standing", "(I)I"⟩
abbrev cX12_recharge : ByteArray := prog_10_method_30_code
def yX12_recharge : MethodName := ⟨RX12, "recharge", "(I)J"⟩
abbrev cX12_runoff : ByteArray := prog_10_method_31_code
def yX12_runoff : MethodName := ⟨RX12, "runoff", "(I)J"⟩
abbrev cX12_vapour : ByteArray := prog_10_method_32_code
def yX12_vapour : MethodName := ⟨RX12, "vapour", "(I)J"⟩
abbrev cX12_isFrozen : ByteArray := prog_10_method_33_code
def yX12_isFrozen : MethodName := ⟨RX12, "isFrozen", "(II)Z"⟩
abbrev cX12_frost : ByteArray := prog_10_method_34_code
def yX12_frost : MethodName := ⟨RX12, "frost", "(II)I"⟩
abbrev cX12_heave : ByteArray := prog_10_method_35_code
def yX12_heave : MethodName := ⟨RX12, "heave", "(I)I"⟩
abbrev cX12_crack : ByteArray := prog_10_method_36_code
def yX12_crack : MethodName := ⟨RX12, "crack", "(I)I"⟩
abbrev cX12_tension : ByteArray := prog_10_method_37_code
def yX12_tension : MethodName := ⟨RX12, "tension", "(II)I"⟩
abbrev cX12_reflection : ByteArray := prog_10_method_38_code
def yX12_reflection : MethodName := ⟨RX12, "reflection", "(II)I"⟩
abbrev cX12_setRight : ByteArray := prog_10_method_39_code
def yX12_setRight : MethodName := ⟨RX12, "setRight", "(I)I"⟩
abbrev cX12_weigh : ByteArray := prog_10_method_40_code
def yX12_weigh : MethodName := ⟨RX12, "weigh", "(I)I"⟩
abbrev cX12_fines : ByteArray := prog_10_method_41_code
def yX12_fines : MethodName := ⟨RX12, "fines", "(I)J"⟩
abbrev cX12_forecastOf : ByteArray := prog_10_method_42_code
def yX12_forecastOf : MethodName := ⟨RX12, "forecastOf", "(III)J"⟩
abbrev cX12_forecast : ByteArray := prog_10_method_43_code
def yX12_forecast : MethodName := ⟨RX12, "forecast", "(III)J"⟩
abbrev cX12_fitting : ByteArray := prog_10_method_44_code
def yX12_fitting : MethodName := ⟨RX12, "fitting", "(III)Ljava/util/ArrayList;"⟩
abbrev cX12_noFit : ByteArray := prog_10_method_45_code
def yX12_noFit : MethodName := ⟨RX12, "noFit", "(III)Z"⟩
abbrev cX12_fits : ByteArray := prog_10_method_46_code
def yX12_fits : MethodName := ⟨RX12, "fits", "(III)I"⟩
abbrev cX12_fit : ByteArray := prog_10_method_47_code
def yX12_fit : MethodName := ⟨RX12, "fit", "(IIII)I"⟩
abbrev cX12_missing : ByteArray := prog_10_method_48_code
def yX12_missing : MethodName := ⟨RX12, "missing", "()J"⟩
abbrev cX12_frozenShare : ByteArray := prog_10_method_49_code
def yX12_frozenShare : MethodName := ⟨RX12, "frozenShare", "()F"⟩
abbrev cX12_meanWater : ByteArray := prog_10_method_50_code
def yX12_meanWater : MethodName := ⟨RX12, "meanWater", "()D"⟩
abbrev cX12_checksum : ByteArray := prog_10_method_51_code
def yX12_checksum : MethodName := ⟨RX12, "checksum", "()J"⟩
abbrev cX12_isTrue : ByteArray := prog_10_method_52_code
def yX12_isTrue : MethodName := ⟨RX12, "isTrue", "()Z"⟩
def RJx145de : String := "java/io/Serializable"
def TJx145de : u_T := fun k => match k with
  | _ => ("", "", "", false)
def tyJx145de : Nat → FieldType := fun k => match k with
  | _ => .int
abbrev wsJx145de0 : List Cond := u_ws RJx145de TJx145de 0
theorem nmJx145de : ∀ a, a < 0 → ∀ b, b < 0 → a ≠ b → (TJx145de a).2.1 ≠ (TJx145de b).2.1 := by decide +kernel
theorem tyJx145de_ok : ∀ k, k < 0 → parseFieldDescriptor (TJx145de k).2.2.1 = some (tyJx145de k) := by decide +kernel
def RJx00060 : String := "java/lang/ArrayIndexOutOfBoundsException"
def TJx00060 : u_T := fun k => match k with
  | 0 => ("java/lang/Throwable", "backtrace", "Ljava/lang/Object;", false)
  | 1 => ("java/lang/Throwable", "detailMessage", "Ljava/lang/String;", false)
  | 2 => ("java/lang/Throwable", "cause", "Ljava/lang/Throwable;", false)
  | 3 => ("java/lang/Throwable", "stackTrace", "[Ljava/lang/StackTraceElement;", false)
  | 4 => ("java/lang/Throwable", "depth", "I", false)
  | _ => ("java/lang/Throwable", "suppressedExceptions", "Ljava/util/List;", false)
def tyJx00060 : Nat → FieldType := fun k => match k with
  | 0 => .object "java/lang/Object"
  | 1 => .object "java/lang/String"
  | 2 => .object "java/lang/Throwable"
  | 3 => .array (.object "java/lang/StackTraceElement")
  | 4 => .int
  | _ => .object "java/util/List"
abbrev wsJx000600 : List Cond := u_ws RJx00060 TJx00060 6
theorem nmJx00060 : ∀ a, a < 6 → ∀ b, b < 6 → a ≠ b → (TJx00060 a).2.1 ≠ (TJx00060 b).2.1 := by decide +kernel
theorem tyJx00060_ok : ∀ k, k < 6 → parseFieldDescriptor (TJx00060 k).2.2.1 = some (tyJx00060 k) := by decide +kernel
abbrev cJx00060_init_a7421 : ByteArray := prog_17_method_2_code
def yJx00060_init_a7421 : MethodName := ⟨RJx00060, "<init>", "(Ljava/lang/String;)V"⟩
def RJx9f9b0 : String := "java/lang/CharSequence"
def TJx9f9b0 : u_T := fun k => match k with
  | _ => ("", "", "", false)
def tyJx9f9b0 : Nat → FieldType := fun k => match k with
  | _ => .int
abbrev wsJx9f9b00 : List Cond := u_ws RJx9f9b0 TJx9f9b0 0
theorem nmJx9f9b0 : ∀ a, a < 0 → ∀ b, b < 0 → a ≠ b → (TJx9f9b0 a).2.1 ≠ (TJx9f9b0 b).2.1 := by decide +kernel
theorem tyJx9f9b0_ok : ∀ k, k < 0 → parseFieldDescriptor (TJx9f9b0 k).2.2.1 = some (tyJx9f9b0 k) := by decide +kernel
def RJ11 : String := "java/lang/Character"
def TJ11 : u_T := fun k => match k with
  | _ => ("", "", "", false)
def tyJ11 : Nat → FieldType := fun k => match k with
  | _ => .int
abbrev wsJ110 : List Cond := u_ws RJ11 TJ11 0
theorem nmJ11 : ∀ a, a < 0 → ∀ b, b < 0 → a ≠ b → (TJ11 a).2.1 ≠ (TJ11 b).2.1 := by decide +kernel
theorem tyJ11_ok : ∀ k, k < 0 → parseFieldDescriptor (TJ11 k).2.2.1 = some (tyJ11 k) := by decide +kernel
abbrev cJ11_isValidCodePoint_9a6ad : ByteArray := prog_19_method_11_code
def yJ11_isValidCodePoint_9a6ad : MethodName := ⟨RJ11, "isValidCodePoint", "(I)Z"⟩
abbrev cJ11_highSurrogate_5068e : ByteArray := prog_19_method_28_code
def yJ11_highSurrogate_5068e : MethodName := ⟨RJ11, "highSurrogate", "(I)C"⟩
abbrev cJ11_lowSurrogate_5068e : ByteArray := prog_19_method_29_code
def yJ11_lowSurrogate_5068e : MethodName := ⟨RJ11, "lowSurrogate", "(I)C"⟩
def RJx8e188 : String := "java/lang/Cloneable"
def TJx8e188 : u_T := fun k => match k with
  | _ => ("", "", "", false)
def tyJx8e188 : Nat → FieldType := fun k => match k with
  | _ => .int
abbrev wsJx8e1880 : List Cond := u_ws RJx8e188 TJx8e188 0
theorem nmJx8e188 : ∀ a, a < 0 → ∀ b, b < 0 → a ≠ b → (TJx8e188 a).2.1 ≠ (TJx8e188 b).2.1 := by decide +kernel
theorem tyJx8e188_ok : ∀ k, k < 0 → parseFieldDescriptor (TJx8e188 k).2.2.1 = some (tyJx8e188 k) := by decide +kernel
def RJxb160c : String := "java/lang/Comparable"
def TJxb160c : u_T := fun k => match k with
  | _ => ("", "", "", false)
def tyJxb160c : Nat → FieldType := fun k => match k with
  | _ => .int
abbrev wsJxb160c0 : List Cond := u_ws RJxb160c TJxb160c 0
theorem nmJxb160c : ∀ a, a < 0 → ∀ b, b < 0 → a ≠ b → (TJxb160c a).2.1 ≠ (TJxb160c b).2.1 := by decide +kernel
theorem tyJxb160c_ok : ∀ k, k < 0 → parseFieldDescriptor (TJxb160c k).2.2.1 = some (tyJxb160c k) := by decide +kernel
def RJx29ce0 : String := "java/lang/Enum"
def TJx29ce0 : u_T := fun k => match k with
  | _ => ("", "", "", false)
def tyJx29ce0 : Nat → FieldType := fun k => match k with
  | _ => .int
abbrev wsJx29ce00 : List Cond := u_ws RJx29ce0 TJx29ce0 0
theorem nmJx29ce0 : ∀ a, a < 0 → ∀ b, b < 0 → a ≠ b → (TJx29ce0 a).2.1 ≠ (TJx29ce0 b).2.1 := by decide +kernel
theorem tyJx29ce0_ok : ∀ k, k < 0 → parseFieldDescriptor (TJx29ce0 k).2.2.1 = some (tyJx29ce0 k) := by decide +kernel
def RJxabbfe : String := "java/lang/Integer$IntegerCache"
def TJxabbfe : u_T := fun k => match k with
  | _ => ("", "", "", false)
def tyJxabbfe : Nat → FieldType := fun k => match k with
  | _ => .int
abbrev wsJxabbfe0 : List Cond := u_ws RJxabbfe TJxabbfe 0
theorem nmJxabbfe : ∀ a, a < 0 → ∀ b, b < 0 → a ≠ b → (TJxabbfe a).2.1 ≠ (TJxabbfe b).2.1 := by decide +kernel
theorem tyJxabbfe_ok : ∀ k, k < 0 → parseFieldDescriptor (TJxabbfe k).2.2.1 = some (tyJxabbfe k) := by decide +kernel
def RJ6 : String := "java/lang/Integer"
def TJ6 : u_T := fun k => match k with
  | _ => ("java/lang/Integer", "value", "I", true)
def tyJ6 : Nat → FieldType := fun k => match k with
  | _ => .int
abbrev wsJ60 : List Cond := u_ws RJ6 TJ6 1
theorem nmJ6 : ∀ a, a < 1 → ∀ b, b < 1 → a ≠ b → (TJ6 a).2.1 ≠ (TJ6 b).2.1 := by decide +kernel
theorem tyJ6_ok : ∀ k, k < 1 → parseFieldDescriptor (TJ6 k).2.2.1 = some (tyJ6 k) := by decide +kernel
abbrev cJ6_valueOf_2dffe : ByteArray := prog_27_method_22_code
def yJ6_valueOf_2dffe : MethodName := ⟨RJ6, "valueOf", "(I)Ljava/lang/Integer;"⟩
abbrev cJ6_init_d00df : ByteArray := prog_27_method_23_code
def yJ6_init_d00df : MethodName := ⟨RJ6, "<init>", "(I)V"⟩
abbrev cJ6_intValue_8abf5 : ByteArray := prog_27_method_27_code
def yJ6_intValue_8abf5 : MethodName := ⟨RJ6, "intValue", "()I"⟩
def RJxab1ab : String := "java/lang/Iterable"
def TJxab1ab : u_T := fun k => match k with
  | _ => ("", "", "", false)
def tyJxab1ab : Nat → FieldType := fun k => match k with
  | _ => .int
abbrev wsJxab1ab0 : List Cond := u_ws RJxab1ab TJxab1ab 0
theorem nmJxab1ab : ∀ a, a < 0 → ∀ b, b < 0 → a ≠ b → (TJxab1ab a).2.1 ≠ (TJxab1ab b).2.1 := by decide +kernel
theorem tyJxab1ab_ok : ∀ k, k < 0 → parseFieldDescriptor (TJxab1ab k).2.2.1 = some (tyJxab1ab k) := by decide +kernel
def RJ9 : String := "java/lang/Math"
def TJ9 : u_T := fun k => match k with
  | _ => ("", "", "", false)
def tyJ9 : Nat → FieldType := fun k => match k with
  | _ => .int
abbrev wsJ90 : List Cond := u_ws RJ9 TJ9 0
theorem nmJ9 : ∀ a, a < 0 → ∀ b, b < 0 → a ≠ b → (TJ9 a).2.1 ≠ (TJ9 b).2.1 := by decide +kernel
theorem tyJ9_ok : ∀ k, k < 0 → parseFieldDescriptor (TJ9 k).2.2.1 = some (tyJ9 k) := by decide +kernel
abbrev cJ9_abs_067f4 : ByteArray := prog_30_method_61_code
def yJ9_abs_067f4 : MethodName := ⟨RJ9, "abs", "(J)J"⟩
abbrev cJ9_max_7cf53 : ByteArray := prog_30_method_65_code
def yJ9_max_7cf53 : MethodName := ⟨RJ9, "max", "(II)I"⟩
abbrev cJ9_min_7cf53 : ByteArray := prog_30_method_69_code
def yJ9_min_7cf53 : MethodName := ⟨RJ9, "min", "(II)I"⟩
abbrev cJ9_min_f86c9 : ByteArray := prog_30_method_70_code
def yJ9_min_f86c9 : MethodName := ⟨RJ9, "min", "(JJ)J"⟩
def RJxd2413 : String := "java/lang/Number"
def TJxd2413 : u_T := fun k => match k with
  | _ => ("", "", "", false)
def tyJxd2413 : Nat → FieldType := fun k => match k with
  | _ => .int
abbrev wsJxd24130 : List Cond := u_ws RJxd2413 TJxd2413 0
theorem nmJxd2413 : ∀ a, a < 0 → ∀ b, b < 0 → a ≠ b → (TJxd2413 a).2.1 ≠ (TJxd2413 b).2.1 := by decide +kernel
theorem tyJxd2413_ok : ∀ k, k < 0 → parseFieldDescriptor (TJxd2413 k).2.2.1 = some (tyJxd2413 k) := by decide +kernel
abbrev cJxd2413_init_da8c8 : ByteArray := prog_31_method_1_code
def yJxd2413_init_da8c8 : MethodName := ⟨RJxd2413, "<init>", "()V"⟩
def RJ0 : String := "java/lang/String"
def TJ0 : u_T := fun k => match k with
  | 0 => ("java/lang/String", "value", "[B", true)
  | _ => ("java/lang/String", "coder", "B", true)
def tyJ0 : Nat → FieldType := fun k => match k with
  | 0 => .array .byte
  | _ => .byte
abbrev wsJ00 : List Cond := u_ws RJ0 TJ0 2
theorem nmJ0 : ∀ a, a < 2 → ∀ b, b < 2 → a ≠ b → (TJ0 a).2.1 ≠ (TJ0 b).2.1 := by decide +kernel
theorem tyJ0_ok : ∀ k, k < 2 → parseFieldDescriptor (TJ0 k).2.2.1 = some (tyJ0 k) := by decide +kernel
abbrev cJ0_length_8abf5 : ByteArray := prog_33_method_54_code
def yJ0_length_8abf5 : MethodName := ⟨RJ0, "length", "()I"⟩
abbrev cJ0_indexOf_0f7a4 : ByteArray := prog_33_method_79_code
def yJ0_indexOf_0f7a4 : MethodName := ⟨RJ0, "indexOf", "(I)I"⟩
abbrev cJ0_indexOf_7cf53 : ByteArray := prog_33_method_80_code
def yJ0_indexOf_7cf53 : MethodName := ⟨RJ0, "indexOf", "(II)I"⟩
abbrev cJ0_coder_7d493 : ByteArray := prog_33_method_152_code
def yJ0_coder_7d493 : MethodName := ⟨RJ0, "coder", "()B"⟩
abbrev cJ0_isLatin1_aae02 : ByteArray := prog_33_method_154_code
def yJ0_isLatin1_aae02 : MethodName := ⟨RJ0, "isLatin1", "()Z"⟩
abbrev cJ0_checkBoundsBeginEnd_23922 : ByteArray := prog_33_method_158_code
def yJ0_checkBoundsBeginEnd_23922 : MethodName := ⟨RJ0, "checkBoundsBeginEnd", "(III)V"⟩
def RJ1 : String := "java/lang/StringLatin1"
def TJ1 : u_T := fun k => match k with
  | _ => ("", "", "", false)
def tyJ1 : Nat → FieldType := fun k => match k with
  | _ => .int
abbrev wsJ10 : List Cond := u_ws RJ1 TJ1 0
theorem nmJ1 : ∀ a, a < 0 → ∀ b, b < 0 → a ≠ b → (TJ1 a).2.1 ≠ (TJ1 b).2.1 := by decide +kernel
theorem tyJ1_ok : ∀ k, k < 0 → parseFieldDescriptor (TJ1 k).2.2.1 = some (tyJ1 k) := by decide +kernel
abbrev cJ1_canEncode_9a6ad : ByteArray := prog_34_method_4_code
def yJ1_canEncode_9a6ad : MethodName := ⟨RJ1, "canEncode", "(I)Z"⟩
abbrev cJ1_indexOf_4cfef : ByteArray := prog_34_method_22_code
def yJ1_indexOf_4cfef : MethodName := ⟨RJ1, "indexOf", "([BIII)I"⟩
abbrev cJ1_indexOfChar_4cfef : ByteArray := prog_34_method_23_code
def yJ1_indexOfChar_4cfef : MethodName := ⟨RJ1, "indexOfChar", "([BIII)I"⟩
def RJ2 : String := "java/lang/StringUTF16"
def TJ2 : u_T := fun k => match k with
  | _ => ("", "", "", false)
def tyJ2 : Nat → FieldType := fun k => match k with
  | _ => .int
abbrev wsJ20 : List Cond := u_ws RJ2 TJ2 0
theorem nmJ2 : ∀ a, a < 0 → ∀ b, b < 0 → a ≠ b → (TJ2 a).2.1 ≠ (TJ2 b).2.1 := by decide +kernel
theorem tyJ2_ok : ∀ k, k < 0 → parseFieldDescriptor (TJ2 k).2.2.1 = some (tyJ2 k) := by decide +kernel
abbrev cJ2_getChar_3b067 : ByteArray := prog_35_method_5_code
def yJ2_getChar_3b067 : MethodName := ⟨RJ2, "getChar", "([BI)C"⟩
abbrev cJ2_length_9d52b : ByteArray := prog_35_method_6_code
def yJ2_length_9d52b : MethodName := ⟨RJ2, "length", "([B)I"⟩
abbrev cJ2_indexOf_4cfef : ByteArray := prog_35_method_40_code
def yJ2_indexOf_4cfef : MethodName := ⟨RJ2, "indexOf", "([BIII)I"⟩
abbrev cJ2_indexOfChar_4cfef : ByteArray := prog_35_method_47_code
def yJ2_indexOfChar_4cfef : MethodName := ⟨RJ2, "indexOfChar", "([BIII)I"⟩
abbrev cJ2_indexOfCharUnsafe_4cfef : ByteArray := prog_35_method_48_code
def yJ2_indexOfCharUnsafe_4cfef : MethodName := ⟨RJ2, "indexOfCharUnsafe", "([BIII)I"⟩
abbrev cJ2_indexOfSupplementary_4cfef : ByteArray := prog_35_method_49_code
def yJ2_indexOfSupplementary_4cfef : MethodName := ⟨RJ2, "indexOfSupplementary", "([BIII)I"⟩
abbrev cJ2_checkBoundsBeginEnd_d044e : ByteArray := prog_35_method_93_code
def yJ2_checkBoundsBeginEnd_d044e : MethodName := ⟨RJ2, "checkBoundsBeginEnd", "(II[B)V"⟩
def RJ10 : String := "java/lang/System"
def TJ10 : u_T := fun k => match k with
  | _ => ("", "", "", false)
def tyJ10 : Nat → FieldType := fun k => match k with
  | _ => .int
abbrev wsJ100 : List Cond := u_ws RJ10 TJ10 0
theorem nmJ10 : ∀ a, a < 0 → ∀ b, b < 0 → a ≠ b → (TJ10 a).2.1 ≠ (TJ10 b).2.1 := by decide +kernel
theorem tyJ10_ok : ∀ k, k < 0 → parseFieldDescriptor (TJ10 k).2.2.1 = some (tyJ10 k) := by decide +kernel
def RJxfd54e : String := "java/lang/constant/Constable"
def TJxfd54e : u_T := fun k => match k with
  | _ => ("", "", "", false)
def tyJxfd54e : Nat → FieldType := fun k => match k with
  | _ => .int
abbrev wsJxfd54e0 : List Cond := u_ws RJxfd54e TJxfd54e 0
theorem nmJxfd54e : ∀ a, a < 0 → ∀ b, b < 0 → a ≠ b → (TJxfd54e a).2.1 ≠ (TJxfd54e b).2.1 := by decide +kernel
theorem tyJxfd54e_ok : ∀ k, k < 0 → parseFieldDescriptor (TJxfd54e k).2.2.1 = some (tyJxfd54e k) := by decide +kernel
def RJx3cf43 : String := "java/lang/constant/ConstantDesc"
def TJx3cf43 : u_T := fun k => match k with
  | _ => ("", "", "", false)
def tyJx3cf43 : Nat → FieldType := fun k => match k with
  | _ => .int
abbrev wsJx3cf430 : List Cond := u_ws RJx3cf43 TJx3cf43 0
theorem nmJx3cf43 : ∀ a, a < 0 → ∀ b, b < 0 → a ≠ b → (TJx3cf43 a).2.1 ≠ (TJx3cf43 b).2.1 := by decide +kernel
theorem tyJx3cf43_ok : ∀ k, k < 0 → parseFieldDescriptor (TJx3cf43 k).2.2.1 = some (tyJx3cf43 k) := by decide +kernel
def RJxa1e45 : String := "java/util/AbstractCollection"
def TJxa1e45 : u_T := fun k => match k with
  | _ => ("", "", "", false)
def tyJxa1e45 : Nat → FieldType := fun k => match k with
  | _ => .int
abbrev wsJxa1e450 : List Cond := u_ws RJxa1e45 TJxa1e45 0
theorem nmJxa1e45 : ∀ a, a < 0 → ∀ b, b < 0 → a ≠ b → (TJxa1e45 a).2.1 ≠ (TJxa1e45 b).2.1 := by decide +kernel
theorem tyJxa1e45_ok : ∀ k, k < 0 → parseFieldDescriptor (TJxa1e45 k).2.2.1 = some (tyJxa1e45 k) := by decide +kernel
abbrev cJxa1e45_init_da8c8 : ByteArray := prog_41_method_1_code
def yJxa1e45_init_da8c8 : MethodName := ⟨RJxa1e45, "<init>", "()V"⟩
def RJxc12de : String := "java/util/AbstractList"
def TJxc12de : u_T := fun k => match k with
  | _ => ("", "", "", false)
def tyJxc12de : Nat → FieldType := fun k => match k with
  | _ => .int
abbrev wsJxc12de0 : List Cond := u_ws RJxc12de TJxc12de 0
theorem nmJxc12de : ∀ a, a < 0 → ∀ b, b < 0 → a ≠ b → (TJxc12de a).2.1 ≠ (TJxc12de b).2.1 := by decide +kernel
theorem tyJxc12de_ok : ∀ k, k < 0 → parseFieldDescriptor (TJxc12de k).2.2.1 = some (tyJxc12de k) := by decide +kernel
abbrev cJxc12de_init_da8c8 : ByteArray := prog_42_method_1_code
def yJxc12de_init_da8c8 : MethodName := ⟨RJxc12de, "<init>", "()V"⟩
def RJx35411 : String := "java/util/ArrayList$Itr"
def TJx35411 : u_T := fun k => match k with
  | 0 => ("java/util/ArrayList$Itr", "cursor", "I", false)
  | 1 => ("java/util/ArrayList$Itr", "lastRet", "I", false)
  | 2 => ("java/util/ArrayList$Itr", "expectedModCount", "I", false)
  | _ => ("java/util/ArrayList$Itr", "this$0", "Ljava/util/ArrayList;", true)
def tyJx35411 : Nat → FieldType := fun k => match k with
  | 0 => .int
  | 1 => .int
  | 2 => .int
  | _ => .object "java/util/ArrayList"
abbrev wsJx354110 : List Cond := u_ws RJx35411 TJx35411 4
theorem nmJx35411 : ∀ a, a < 4 → ∀ b, b < 4 → a ≠ b → (TJx35411 a).2.1 ≠ (TJx35411 b).2.1 := by decide +kernel
theorem tyJx35411_ok : ∀ k, k < 4 → parseFieldDescriptor (TJx35411 k).2.2.1 = some (tyJx35411 k) := by decide +kernel
abbrev cJx35411_init_45d68 : ByteArray := prog_44_method_1_code
def yJx35411_init_45d68 : MethodName := ⟨RJx35411, "<init>", "(Ljava/util/ArrayList;)V"⟩
abbrev cJx35411_hasNext_aae02 : ByteArray := prog_44_method_2_code
def yJx35411_hasNext_aae02 : MethodName := ⟨RJx35411, "hasNext", "()Z"⟩
abbrev cJx35411_next_0502b : ByteArray := prog_44_method_3_code
def yJx35411_next_0502b : MethodName := ⟨RJx35411, "next", "()Ljava/lang/Object;"⟩
abbrev cJx35411_checkForComodification_da8c8 : ByteArray := prog_44_method_6_code
def yJx35411_checkForComodification_da8c8 : MethodName := ⟨RJx35411, "checkForComodification", "()V"⟩
def RJx4a65c : String := "java/util/ArrayList"
def TJx4a65c : u_T := fun k => match k with
  | 0 => ("java/util/AbstractList", "modCount", "I", false)
  | 1 => ("java/util/ArrayList", "elementData", "[Ljava/lang/Object;", false)
  | _ => ("java/util/ArrayList", "size", "I", false)
def tyJx4a65c : Nat → FieldType := fun k => match k with
  | 0 => .int
  | 1 => .array (.object "java/lang/Object")
  | _ => .int
abbrev wsJx4a65c0 : List Cond := u_ws RJx4a65c TJx4a65c 3
theorem nmJx4a65c : ∀ a, a < 3 → ∀ b, b < 3 → a ≠ b → (TJx4a65c a).2.1 ≠ (TJx4a65c b).2.1 := by decide +kernel
theorem tyJx4a65c_ok : ∀ k, k < 3 → parseFieldDescriptor (TJx4a65c k).2.2.1 = some (tyJx4a65c k) := by decide +kernel
abbrev cJx4a65c_init_da8c8 : ByteArray := prog_43_method_2_code
def yJx4a65c_init_da8c8 : MethodName := ⟨RJx4a65c, "<init>", "()V"⟩
abbrev cJx4a65c_grow_92f84 : ByteArray := prog_43_method_6_code
def yJx4a65c_grow_92f84 : MethodName := ⟨RJx4a65c, "grow", "(I)[Ljava/lang/Object;"⟩
abbrev cJx4a65c_grow_d5877 : ByteArray := prog_43_method_7_code
def yJx4a65c_grow_d5877 : MethodName := ⟨RJx4a65c, "grow", "()[Ljava/lang/Object;"⟩
abbrev cJx4a65c_size_8abf5 : ByteArray := prog_43_method_8_code
def yJx4a65c_size_8abf5 : MethodName := ⟨RJx4a65c, "size", "()I"⟩
abbrev cJx4a65c_isEmpty_aae02 : ByteArray := prog_43_method_9_code
def yJx4a65c_isEmpty_aae02 : MethodName := ⟨RJx4a65c, "isEmpty", "()Z"⟩
abbrev cJx4a65c_elementData_915e3 : ByteArray := prog_43_method_18_code
def yJx4a65c_elementData_915e3 : MethodName := ⟨RJx4a65c, "elementData", "(I)Ljava/lang/Object;"⟩
abbrev cJx4a65c_get_915e3 : ByteArray := prog_43_method_20_code
def yJx4a65c_get_915e3 : MethodName := ⟨RJx4a65c, "get", "(I)Ljava/lang/Object;"⟩
abbrev cJx4a65c_add_72be8 : ByteArray := prog_43_method_24_code
def yJx4a65c_add_72be8 : MethodName := ⟨RJx4a65c, "add", "(Ljava/lang/Object;[Ljava/lang/Object;I)V"⟩
abbrev cJx4a65c_add_9ea2d : ByteArray := prog_43_method_25_code
def yJx4a65c_add_9ea2d : MethodName := ⟨RJx4a65c, "add", "(Ljava/lang/Object;)Z"⟩
abbrev cJx4a65c_clear_da8c8 : ByteArray := prog_43_method_40_code
def yJx4a65c_clear_da8c8 : MethodName := ⟨RJx4a65c, "clear", "()V"⟩
abbrev cJx4a65c_iterator_32c93 : ByteArray := prog_43_method_55_code
def yJx4a65c_iterator_32c93 : MethodName := ⟨RJx4a65c, "iterator", "()Ljava/util/Iterator;"⟩
def RJ7 : String := "java/util/Arrays"
def TJ7 : u_T := fun k => match k with
  | _ => ("", "", "", false)
def tyJ7 : Nat → FieldType := fun k => match k with
  | _ => .int
abbrev wsJ70 : List Cond := u_ws RJ7 TJ7 0
theorem nmJ7 : ∀ a, a < 0 → ∀ b, b < 0 → a ≠ b → (TJ7 a).2.1 ≠ (TJ7 b).2.1 := by decide +kernel
theorem tyJ7_ok : ∀ k, k < 0 → parseFieldDescriptor (TJ7 k).2.2.1 = some (tyJ7 k) := by decide +kernel
abbrev cJ7_copyOf_1904c : ByteArray := prog_45_method_119_code
def yJ7_copyOf_1904c : MethodName := ⟨RJ7, "copyOf", "([Ljava/lang/Object;I)[Ljava/lang/Object;"⟩
abbrev cJ7_copyOf_6403c : ByteArray := prog_45_method_120_code
def yJ7_copyOf_6403c : MethodName := ⟨RJ7, "copyOf", "([Ljava/lang/Object;ILjava/lang/Class;)[Ljava/lang/Object;"⟩
def RJx5ef63 : String := "java/util/Collection"
def TJx5ef63 : u_T := fun k => match k with
  | _ => ("", "", "", false)
def tyJx5ef63 : Nat → FieldType := fun k => match k with
  | _ => .int
abbrev wsJx5ef630 : List Cond := u_ws RJx5ef63 TJx5ef63 0
theorem nmJx5ef63 : ∀ a, a < 0 → ∀ b, b < 0 → a ≠ b → (TJx5ef63 a).2.1 ≠ (TJx5ef63 b).2.1 := by decide +kernel
theorem tyJx5ef63_ok : ∀ k, k < 0 → parseFieldDescriptor (TJx5ef63 k).2.2.1 = some (tyJx5ef63 k) := by decide +kernel
def RJx4d0d8 : String := "java/util/Iterator"
def TJx4d0d8 : u_T := fun k => match k with
  | _ => ("", "", "", false)
def tyJx4d0d8 : Nat → FieldType := fun k => match k with
  | _ => .int
abbrev wsJx4d0d80 : List Cond := u_ws RJx4d0d8 TJx4d0d8 0
theorem nmJx4d0d8 : ∀ a, a < 0 → ∀ b, b < 0 → a ≠ b → (TJx4d0d8 a).2.1 ≠ (TJx4d0d8 b).2.1 := by decide +kernel
theorem tyJx4d0d8_ok : ∀ k, k < 0 → parseFieldDescriptor (TJx4d0d8 k).2.2.1 = some (tyJx4d0d8 k) := by decide +kernel
def RJxbd725 : String := "java/util/List"
def TJxbd725 : u_T := fun k => match k with
  | _ => ("", "", "", false)
def tyJxbd725 : Nat → FieldType := fun k => match k with
  | _ => .int
abbrev wsJxbd7250 : List Cond := u_ws RJxbd725 TJxbd725 0
theorem nmJxbd725 : ∀ a, a < 0 → ∀ b, b < 0 → a ≠ b → (TJxbd725 a).2.1 ≠ (TJxbd725 b).2.1 := by decide +kernel
theorem tyJxbd725_ok : ∀ k, k < 0 → parseFieldDescriptor (TJxbd725 k).2.2.1 = some (tyJxbd725 k) := by decide +kernel
def RJ15 : String := "java/util/Objects"
def TJ15 : u_T := fun k => match k with
  | _ => ("", "", "", false)
def tyJ15 : Nat → FieldType := fun k => match k with
  | _ => .int
abbrev wsJ150 : List Cond := u_ws RJ15 TJ15 0
theorem nmJ15 : ∀ a, a < 0 → ∀ b, b < 0 → a ≠ b → (TJ15 a).2.1 ≠ (TJ15 b).2.1 := by decide +kernel
theorem tyJ15_ok : ∀ k, k < 0 → parseFieldDescriptor (TJ15 k).2.2.1 = some (tyJ15 k) := by decide +kernel
abbrev cJ15_checkIndex_7cf53 : ByteArray := prog_50_method_17_code
def yJ15_checkIndex_7cf53 : MethodName := ⟨RJ15, "checkIndex", "(II)I"⟩
def RJxf0a74 : String := "java/util/RandomAccess"
def TJxf0a74 : u_T := fun k => match k with
  | _ => ("", "", "", false)
def tyJxf0a74 : Nat → FieldType := fun k => match k with
  | _ => .int
abbrev wsJxf0a740 : List Cond := u_ws RJxf0a74 TJxf0a74 0
theorem nmJxf0a74 : ∀ a, a < 0 → ∀ b, b < 0 → a ≠ b → (TJxf0a74 a).2.1 ≠ (TJxf0a74 b).2.1 := by decide +kernel
theorem tyJxf0a74_ok : ∀ k, k < 0 → parseFieldDescriptor (TJxf0a74 k).2.2.1 = some (tyJxf0a74 k) := by decide +kernel
def RJxa66e6 : String := "java/util/SequencedCollection"
def TJxa66e6 : u_T := fun k => match k with
  | _ => ("", "", "", false)
def tyJxa66e6 : Nat → FieldType := fun k => match k with
  | _ => .int
abbrev wsJxa66e60 : List Cond := u_ws RJxa66e6 TJxa66e6 0
theorem nmJxa66e6 : ∀ a, a < 0 → ∀ b, b < 0 → a ≠ b → (TJxa66e6 a).2.1 ≠ (TJxa66e6 b).2.1 := by decide +kernel
theorem tyJxa66e6_ok : ∀ k, k < 0 → parseFieldDescriptor (TJxa66e6 k).2.2.1 = some (tyJxa66e6 k) := by decide +kernel
def RJ8 : String := "jdk/internal/util/ArraysSupport"
def TJ8 : u_T := fun k => match k with
  | _ => ("", "", "", false)
def tyJ8 : Nat → FieldType := fun k => match k with
  | _ => .int
abbrev wsJ80 : List Cond := u_ws RJ8 TJ8 0
theorem nmJ8 : ∀ a, a < 0 → ∀ b, b < 0 → a ≠ b → (TJ8 a).2.1 ≠ (TJ8 b).2.1 := by decide +kernel
theorem tyJ8_ok : ∀ k, k < 0 → parseFieldDescriptor (TJ8 k).2.2.1 = some (tyJ8 k) := by decide +kernel
abbrev cJ8_newLength_cabcc : ByteArray := prog_53_method_27_code
def yJ8_newLength_cabcc : MethodName := ⟨RJ8, "newLength", "(III)I"⟩
abbrev cJ8_hugeLength_7cf53 : ByteArray := prog_53_method_28_code
def yJ8_hugeLength_7cf53 : MethodName := ⟨RJ8, "hugeLength", "(II)I"⟩
def RJ3 : String := "jdk/internal/util/Preconditions"
def TJ3 : u_T := fun k => match k with
  | _ => ("", "", "", false)
def tyJ3 : Nat → FieldType := fun k => match k with
  | _ => .int
abbrev wsJ30 : List Cond := u_ws RJ3 TJ3 0
theorem nmJ3 : ∀ a, a < 0 → ∀ b, b < 0 → a ≠ b → (TJ3 a).2.1 ≠ (TJ3 b).2.1 := by decide +kernel
theorem tyJ3_ok : ∀ k, k < 0 → parseFieldDescriptor (TJ3 k).2.2.1 = some (tyJ3 k) := by decide +kernel
abbrev cJ3_checkIndex_8e157 : ByteArray := prog_54_method_11_code
def yJ3_checkIndex_8e157 : MethodName := ⟨RJ3, "checkIndex", "(IILjava/util/function/BiFunction;)I"⟩
abbrev cJ3_checkFromToIndex_8c36e : ByteArray := prog_54_method_12_code
def yJ3_checkFromToIndex_8c36e : MethodName := ⟨RJ3, "checkFromToIndex", "(IIILjava/util/function/BiFunction;)I"⟩
def RL : String := "LysimeterFieldLaw"
abbrev cL_column : ByteArray := method_3_code
def yL_column : MethodName := ⟨RL, "column", "(LLysimeterField;C[J)I"⟩
abbrev cL_layer : ByteArray := method_4_code
def yL_layer : MethodName := ⟨RL, "layer", "(LLysimeterField;ICI[J)I"⟩
abbrev cL_wet : ByteArray := method_5_code
def yL_wet : MethodName := ⟨RL, "wet", "(LLysimeterField;III[J)I"⟩
abbrev cL_water : ByteArray := method_6_code
def yL_water : MethodName := ⟨RL, "water", "(LLysimeterField;II[J)I"⟩
abbrev cL_capacity : ByteArray := method_7_code
def yL_capacity : MethodName := ⟨RL, "capacity", "(LLysimeterField;II[J)I"⟩
abbrev cL_link : ByteArray := method_8_code
def yL_link : MethodName := ⟨RL, "link", "(LLysimeterField;II[J)I"⟩
abbrev cL_scale : ByteArray := method_9_code
def yL_scale : MethodName := ⟨RL, "scale", "(LLysimeterField;II[J)I"⟩
abbrev cL_plant : ByteArray := method_10_code
def yL_plant : MethodName := ⟨RL, "plant", "(LLysimeterField;III[J)I"⟩
abbrev cL_harvest : ByteArray := method_11_code
def yL_harvest : MethodName := ⟨RL, "harvest", "(LLysimeterField;I[J)I"⟩
abbrev cL_stress : ByteArray := method_12_code
def yL_stress : MethodName := ⟨RL, "stress", "(LLysimeterField;II[J)I"⟩
abbrev cL_mulch : ByteArray := method_13_code
def yL_mulch : MethodName := ⟨RL, "mulch", "(LLysimeterField;IZ[J)I"⟩
abbrev cL_rule : ByteArray := method_14_code
def yL_rule : MethodName := ⟨RL, "rule", "(LLysimeterField;III[J)I"⟩
abbrev cL_spread : ByteArray := method_15_code
def yL_spread : MethodName := ⟨RL, "spread", "(LLysimeterField;ICI[J)I"⟩
abbrev cL_manure : ByteArray := method_16_code
def yL_manure : MethodName := ⟨RL, "manure", "(LLysimeterField;II[J)I"⟩
abbrev cL_solute : ByteArray := method_17_code
def yL_solute : MethodName := ⟨RL, "solute", "(LLysimeterField;IIC[J)I"⟩
abbrev cL_out : ByteArray := method_18_code
def yL_out : MethodName := ⟨RL, "out", "(LLysimeterField;IC[J)I"⟩
abbrev cL_eaten : ByteArray := method_19_code
def yL_eaten : MethodName := ⟨RL, "eaten", "(LLysimeterField;I[J)I"⟩
abbrev cL_weather : ByteArray := method_20_code
def yL_weather : MethodName := ⟨RL, "weather", "(LLysimeterField;III[J)I"⟩
abbrev cL_law : ByteArray := method_21_code
def yL_law : MethodName := ⟨RL, "law", "(LLysimeterField;II[J)I"⟩
abbrev cL_hours : ByteArray := method_22_code
def yL_hours : MethodName := ⟨RL, "hours", "(LLysimeterField;I[J)I"⟩
abbrev cL_standing : ByteArray := method_23_code
def yL_standing : MethodName := ⟨RL, "standing", "(LLysimeterField;I[J)I"⟩
abbrev cL_recharge : ByteArray := method_24_code
def yL_recharge : MethodName := ⟨RL, "recharge", "(LLysimeterField;I[J)I"⟩
abbrev cL_runoff : ByteArray := method_25_code
def yL_runoff : MethodName := ⟨RL, "runoff", "(LLysimeterField;I[J)I"⟩
abbrev cL_vapour : ByteArray := method_26_code
def yL_vapour : MethodName := ⟨RL, "vapour", "(LLysimeterField;I[J)I"⟩
abbrev cL_isFrozen : ByteArray := method_27_code
def yL_isFrozen : MethodName := ⟨RL, "isFrozen", "(LLysimeterField;II[J)I"⟩
abbrev cL_frost : ByteArray := method_28_code
def yL_frost : MethodName := ⟨RL, "frost", "(LLysimeterField;II[J)I"⟩
abbrev cL_heave : ByteArray := method_29_code
def yL_heave : MethodName := ⟨RL, "heave", "(LLysimeterField;I[J)I"⟩
abbrev cL_crack : ByteArray := method_30_code
def yL_crack : MethodName := ⟨RL, "crack", "(LLysimeterField;I[J)I"⟩
abbrev cL_tension : ByteArray := method_31_code
def yL_tension : MethodName := ⟨RL, "tension", "(LLysimeterField;II[J)I"⟩
abbrev cL_reflection : ByteArray := method_32_code
def yL_reflection : MethodName := ⟨RL, "reflection", "(LLysimeterField;II[J)I"⟩
abbrev cL_setRight : ByteArray := method_33_code
def yL_setRight : MethodName := ⟨RL, "setRight", "(LLysimeterField;I[J)I"⟩
abbrev cL_weigh : ByteArray := method_34_code
def yL_weigh : MethodName := ⟨RL, "weigh", "(LLysimeterField;I[J)I"⟩
abbrev cL_fines : ByteArray := method_35_code
def yL_fines : MethodName := ⟨RL, "fines", "(LLysimeterField;I[J)I"⟩
abbrev cL_forecast : ByteArray := method_36_code
def yL_forecast : MethodName := ⟨RL, "forecast", "(LLysimeterField;III[J)I"⟩
abbrev cL_fits : ByteArray := method_37_code
def yL_fits : MethodName := ⟨RL, "fits", "(LLysimeterField;III[J)I"⟩
abbrev cL_fit : ByteArray := method_38_code
def yL_fit : MethodName := ⟨RL, "fit", "(LLysimeterField;IIII[J)I"⟩
abbrev cL_frozenShare : ByteArray := method_39_code
def yL_frozenShare : MethodName := ⟨RL, "frozenShare", "(LLysimeterField;[D)I"⟩
abbrev cL_meanWater : ByteArray := method_40_code
def yL_meanWater : MethodName := ⟨RL, "meanWater", "(LLysimeterField;[D)I"⟩
abbrev cL_law_ : ByteArray := code
def yL_law_ : MethodName := ⟨RL, "law", "([I)Z"⟩
abbrev vwCl : List vw_C := [(RJ0, TJ0, 2), (RJ6, TJ6, 1), (RJx00060, TJx00060, 6), (RJx35411, TJx35411, 4), (RJx4a65c, TJx4a65c, 3), (RX0, TX0, 11), (RX1, TX1, 13), (RX2, TX2, 9), (RX3, TX3, 3), (RX5, TX5, 1), (RX6, TX6, 3), (RX7, TX7, 7), (RX8, TX8, 18), (RX9, TX9, 9), (RX10, TX10, 3), (RX11, TX11, 5), (RX12, TX12, 4)]
end
section
theorem dX0_init_0 : decode cX0_init 0 = .ok (.aload_n 0, 1) := by decide +kernel
theorem dX0_init_1 : decode cX0_init 1 = .ok (.invokespecial 1, 3) := by decide +kernel
theorem dX0_init_4 : decode cX0_init 4 = .ok (.aload_n 0, 1) := by decide +kernel
theorem dX0_init_5 : decode cX0_init 5 = .ok (.new 7, 3) := by decide +kernel
theorem dX0_init_8 : decode cX0_init 8 = .ok (.dup, 1) := by decide +kernel
theorem dX0_init_9 : decode cX0_init 9 = .ok (.invokespecial 9, 3) := by decide +kernel
theorem dX0_init_12 : decode cX0_init 12 = .ok (.putfield 10, 3) := by decide +kernel
theorem dX0_init_15 : decode cX0_init 15 = .ok (.aload_n 0, 1) := by decide +kernel
theorem dX0_init_16 : decode cX0_init 16 = .ok (.new 7, 3) := by decide +kernel
theorem dX0_init_19 : decode cX0_init 19 = .ok (.dup, 1) := by decide +kernel
theorem dX0_init_20 : decode cX0_init 20 = .ok (.invokespecial 9, 3) := by decide +kernel
theorem dX0_init_23 : decode cX0_init 23 = .ok (.putfield 16, 3) := by decide +kernel
theorem dX0_init_26 : decode cX0_init 26 = .ok (.aload_n 0, 1) := by decide +kernel
theorem dX0_init_27 : decode cX0_init 27 = .ok (.lconst 0, 1) := by decide +kernel
theorem dX0_init_28 : decode cX0_init 28 = .ok (.putfield 19, 3) := by decide +kernel
theorem dX0_init_31 : decode cX0_init 31 = .ok (.aload_n 0, 1) := by decide +kernel
theorem dX0_init_32 : decode cX0_init 32 = .ok (.lconst 0, 1) := by decide +kernel
theorem dX0_init_33 : decode cX0_init 33 = .ok (.putfield 23, 3) := by decide +kernel
theorem dX0_init_36 : decode cX0_init 36 = .ok (.aload_n 0, 1) := by decide +kernel
theorem dX0_init_37 : decode cX0_init 37 = .ok (.lconst 0, 1) := by decide +kernel
theorem dX0_init_38 : decode cX0_init 38 = .ok (.putfield 26, 3) := by decide +kernel
theorem dX0_init_41 : decode cX0_init 41 = .ok (.aload_n 0, 1) := by decide +kernel
theorem dX0_init_42 : decode cX0_init 42 = .ok (.lconst 0, 1) := by decide +kernel
theorem dX0_init_43 : decode cX0_init 43 = .ok (.putfield 29, 3) := by decide +kernel
theorem dX0_init_46 : decode cX0_init 46 = .ok (.aload_n 0, 1) := by decide +kernel
theorem dX0_init_47 : decode cX0_init 47 = .ok (.lconst 0, 1) := by decide +kernel
theorem dX0_init_48 : decode cX0_init 48 = .ok (.putfield 32, 3) := by decide +kernel
theorem dX0_init_51 : decode cX0_init 51 = .ok (.aload_n 0, 1) := by decide +kernel
theorem dX0_init_52 : decode cX0_init 52 = .ok (.lconst 0, 1) := by decide +kernel
theorem dX0_init_53 : decode cX0_init 53 = .ok (.putfield 35, 3) := by decide +kernel
theorem dX0_init_56 : decode cX0_init 56 = .ok (.aload_n 0, 1) := by decide +kernel
theorem dX0_init_57 : decode cX0_init 57 = .ok (.lconst 0, 1) := by decide +kernel
theorem dX0_init_58 : decode cX0_init 58 = .ok (.putfield 38, 3) := by decide +kernel
theorem dX0_init_61 : decode cX0_init 61 = .ok (.aload_n 0, 1) := by decide +kernel
theorem dX0_init_62 : decode cX0_init 62 = .ok (.lconst 0, 1) := by decide +kernel
theorem dX0_init_63 : decode cX0_init 63 = .ok (.putfield 41, 3) := by decide +kernel
theorem dX0_init_66 : decode cX0_init 66 = .ok (.aload_n 0, 1) := by decide +kernel
theorem dX0_init_67 : decode cX0_init 67 = .ok (.lconst 0, 1) := by decide +kernel
theorem dX0_init_68 : decode cX0_init 68 = .ok (.putfield 44, 3) := by decide +kernel
theorem dX0_init_71 : decode cX0_init 71 = .ok (.return_, 1) := by decide +kernel
theorem dX1_init_0 : decode cX1_init 0 = .ok (.aload_n 0, 1) := by decide +kernel
theorem dX1_init_1 : decode cX1_init 1 = .ok (.invokespecial 3, 3) := by decide +kernel
theorem dX1_init_4 : decode cX1_init 4 = .ok (.aload_n 0, 1) := by decide +kernel
theorem dX1_init_5 : decode cX1_init 5 = .ok (.new 9, 3) := by decide +kernel
theorem dX1_init_8 : decode cX1_init 8 = .ok (.dup, 1) := by decide +kernel
theorem dX1_init_9 : decode cX1_init 9 = .ok (.invokespecial 11, 3) := by decide +kernel
theorem dX1_init_12 : decode cX1_init 12 = .ok (.putfield 12, 3) := by decide +kernel
theorem dX1_init_15 : decode cX1_init 15 = .ok (.aload_n 0, 1) := by decide +kernel
theorem dX1_init_16 : decode cX1_init 16 = .ok (.new 9, 3) := by decide +kernel
theorem dX1_init_19 : decode cX1_init 19 = .ok (.dup, 1) := by decide +kernel
theorem dX1_init_20 : decode cX1_init 20 = .ok (.invokespecial 11, 3) := by decide +kernel
theorem dX1_init_23 : decode cX1_init 23 = .ok (.putfield 18, 3) := by decide +kernel
theorem dX1_init_26 : decode cX1_init 26 = .ok (.aload_n 0, 1) := by decide +kernel
theorem dX1_init_27 : decode cX1_init 27 = .ok (.new 21, 3) := by decide +kernel
theorem dX1_init_30 : decode cX1_init 30 = .ok (.dup, 1) := by decide +kernel
theorem dX1_init_31 : decode cX1_init 31 = .ok (.invokespecial 23, 3) := by decide +kernel
theorem dX1_init_34 : decode cX1_init 34 = .ok (.putfield 24, 3) := by decide +kernel
theorem dX1_init_37 : decode cX1_init 37 = .ok (.aload_n 0, 1) := by decide +kernel
theorem dX1_init_38 : decode cX1_init 38 = .ok (.iconst (-1), 1) := by decide +kernel
theorem dX1_init_39 : decode cX1_init 39 = .ok (.putfield 28, 3) := by decide +kernel
theorem dX1_init_42 : decode cX1_init 42 = .ok (.aload_n 0, 1) := by decide +kernel
theorem dX1_init_43 : decode cX1_init 43 = .ok (.bipush 100, 2) := by decide +kernel
theorem dX1_init_45 : decode cX1_init 45 = .ok (.putfield 32, 3) := by decide +kernel
theorem dX1_init_48 : decode cX1_init 48 = .ok (.aload_n 0, 1) := by decide +kernel
theorem dX1_init_49 : decode cX1_init 49 = .ok (.iconst 0, 1) := by decide +kernel
theorem dX1_init_50 : decode cX1_init 50 = .ok (.putfield 35, 3) := by decide +kernel
theorem dX1_init_53 : decode cX1_init 53 = .ok (.aload_n 0, 1) := by decide +kernel
theorem dX1_init_54 : decode cX1_init 54 = .ok (.iconst 0, 1) := by decide +kernel
theorem dX1_init_55 : decode cX1_init 55 = .ok (.putfield 39, 3) := by decide +kernel
theorem dX1_init_58 : decode cX1_init 58 = .ok (.aload_n 0, 1) := by decide +kernel
theorem dX1_init_59 : decode cX1_init 59 = .ok (.iconst 0, 1) := by decide +kernel
theorem dX1_init_60 : decode cX1_init 60 = .ok (.putfield 42, 3) := by decide +kernel
theorem dX1_init_63 : decode cX1_init 63 = .ok (.aload_n 0, 1) := by decide +kernel
theorem dX1_init_64 : decode cX1_init 64 = .ok (.iconst 0, 1) := by decide +kernel
theorem dX1_init_65 : decode cX1_init 65 = .ok (.putfield 45, 3) := by decide +kernel
theorem dX1_init_68 : decode cX1_init 68 = .ok (.aload_n 0, 1) := by decide +kernel
theorem dX1_init_69 : decode cX1_init 69 = .ok (.lconst 0, 1) := by decide +kernel
theorem dX1_init_70 : decode cX1_init 70 = .ok (.putfield 48, 3) := by decide +kernel
theorem dX1_init_73 : decode cX1_init 73 = .ok (.aload_n 0, 1) := by decide +kernel
theorem dX1_init_74 : decode cX1_init 74 = .ok (.lconst 0, 1) := by decide +kernel
theorem dX1_init_75 : decode cX1_init 75 = .ok (.putfield 52, 3) := by decide +kernel
theorem dX1_init_78 : decode cX1_init 78 = .ok (.aload_n 0, 1) := by decide +kernel
theorem dX1_init_79 : decode cX1_init 79 = .ok (.iload_n 1, 1) := by decide +kernel
theorem dX1_init_80 : decode cX1_init 80 = .ok (.putfield 55, 3) := by decide +kernel
theorem dX1_init_83 : decode cX1_init 83 = .ok (.aload_n 0, 1) := by decide +kernel
theorem dX1_init_84 : decode cX1_init 84 = .ok (.iload_n 2, 1) := by decide +kernel
theorem dX1_init_85 : decode cX1_init 85 = .ok (.putfield 59, 3) := by decide +kernel
theorem dX1_init_88 : decode cX1_init 88 = .ok (.return_, 1) := by decide +kernel
theorem dX1_becomeLike_0 : decode cX1_becomeLike 0 = .ok (.aload_n 0, 1) := by decide +kernel
theorem dX1_becomeLike_1 : decode cX1_becomeLike 1 = .ok (.aload_n 1, 1) := by decide +kernel
theorem dX1_becomeLike_2 : decode cX1_becomeLike 2 = .ok (.getfield 45, 3) := by decide +kernel
theorem dX1_becomeLike_5 : decode cX1_becomeLike 5 = .ok (.putfield 45, 3) := by decide +kernel
theorem dX1_becomeLike_8 : decode cX1_becomeLike 8 = .ok (.aload_n 0, 1) := by decide +kernel
theorem dX1_becomeLike_9 : decode cX1_becomeLike 9 = .ok (.aload_n 1, 1) := by decide +kernel
theorem dX1_becomeLike_10 : decode cX1_becomeLike 10 = .ok (.getfield 35, 3) := by decide +kernel
theorem dX1_becomeLike_13 : decode cX1_becomeLike 13 = .ok (.putfield 35, 3) := by decide +kernel
theorem dX1_becomeLike_16 : decode cX1_becomeLike 16 = .ok (.iconst 0, 1) := by decide +kernel
theorem dX1_becomeLike_17 : decode cX1_becomeLike 17 = .ok (.istore_n 2, 1) := by decide +kernel
theorem dX1_becomeLike_18 : decode cX1_becomeLike 18 = .ok (.iload_n 2, 1) := by decide +kernel
theorem dX1_becomeLike_19 : decode cX1_becomeLike 19 = .ok (.aload_n 0, 1) := by decide +kernel
theorem dX1_becomeLike_20 : decode cX1_becomeLike 20 = .ok (.getfield 12, 3) := by decide +kernel
theorem dX1_becomeLike_23 : decode cX1_becomeLike 23 = .ok (.invokevirtual 62, 3) := by decide +kernel
theorem dX1_becomeLike_26 : decode cX1_becomeLike 26 = .ok (.if_icmp .ge 45, 3) := by decide +kernel
theorem dX1_becomeLike_29 : decode cX1_becomeLike 29 = .ok (.iload_n 2, 1) := by decide +kernel
theorem dX1_becomeLike_30 : decode cX1_becomeLike 30 = .ok (.aload_n 1, 1) := by decide +kernel
theorem dX1_becomeLike_31 : decode cX1_becomeLike 31 = .ok (.getfield 12, 3) := by decide +kernel
theorem dX1_becomeLike_34 : decode cX1_becomeLike 34 = .ok (.invokevirtual 62, 3) := by decide +kernel
theorem dX1_becomeLike_37 : decode cX1_becomeLike 37 = .ok (.if_icmp .ge 34, 3) := by decide +kernel
theorem dX1_becomeLike_40 : decode cX1_becomeLike 40 = .ok (.aload_n 0, 1) := by decide +kernel
theorem dX1_becomeLike_41 : decode cX1_becomeLike 41 = .ok (.getfield 12, 3) := by decide +kernel
theorem dX1_becomeLike_44 : decode cX1_becomeLike 44 = .ok (.iload_n 2, 1) := by decide +kernel
theorem dX1_becomeLike_45 : decode cX1_becomeLike 45 = .ok (.invokevirtual 66, 3) := by decide +kernel
theorem dX1_becomeLike_48 : decode cX1_becomeLike 48 = .ok (.checkcast 70, 3) := by decide +kernel
theorem dX1_becomeLike_51 : decode cX1_becomeLike 51 = .ok (.aload_n 1, 1) := by decide +kernel
theorem dX1_becomeLike_52 : decode cX1_becomeLike 52 = .ok (.getfield 12, 3) := by decide +kernel
theorem dX1_becomeLike_55 : decode cX1_becomeLike 55 = .ok (.iload_n 2, 1) := by decide +kernel
theorem dX1_becomeLike_56 : decode cX1_becomeLike 56 = .ok (.invokevirtual 66, 3) := by decide +kernel
theorem dX1_becomeLike_59 : decode cX1_becomeLike 59 = .ok (.checkcast 70, 3) := by decide +kernel
theorem dX1_becomeLike_62 : decode cX1_becomeLike 62 = .ok (.invokevirtual 72, 3) := by decide +kernel
theorem dX1_becomeLike_65 : decode cX1_becomeLike 65 = .ok (.iinc 2 1, 3) := by decide +kernel
theorem dX1_becomeLike_68 : decode cX1_becomeLike 68 = .ok (.goto (-50), 3) := by decide +kernel
theorem dX1_becomeLike_71 : decode cX1_becomeLike 71 = .ok (.return_, 1) := by decide +kernel
theorem dX1_goThroughAnHour_0 : decode cX1_goThroughAnHour 0 = .ok (.aload_n 0, 1) := by decide +kernel
theorem dX1_goThroughAnHour_1 : decode cX1_goThroughAnHour 1 = .ok (.iload_n 1, 1) := by decide +kernel
theorem dX1_goThroughAnHour_2 : decode cX1_goThroughAnHour 2 = .ok (.invokevirtual 76, 3) := by decide +kernel
theorem dX1_goThroughAnHour_5 : decode cX1_goThroughAnHour 5 = .ok (.aload_n 0, 1) := by decide +kernel
theorem dX1_goThroughAnHour_6 : decode cX1_goThroughAnHour 6 = .ok (.iload_n 2, 1) := by decide +kernel
theorem dX1_goThroughAnHour_7 : decode cX1_goThroughAnHour 7 = .ok (.invokevirtual 80, 3) := by decide +kernel
theorem dX1_goThroughAnHour_10 : decode cX1_goThroughAnHour 10 = .ok (.lstore 4, 2) := by decide +kernel
theorem dX1_goThroughAnHour_12 : decode cX1_goThroughAnHour 12 = .ok (.aload_n 0, 1) := by decide +kernel
theorem dX1_goThroughAnHour_13 : decode cX1_goThroughAnHour 13 = .ok (.invokevirtual 84, 3) := by decide +kernel
theorem dX1_goThroughAnHour_16 : decode cX1_goThroughAnHour 16 = .ok (.iconst 0, 1) := by decide +kernel
theorem dX1_goThroughAnHour_17 : decode cX1_goThroughAnHour 17 = .ok (.istore 6, 2) := by decide +kernel
theorem dX1_goThroughAnHour_19 : decode cX1_goThroughAnHour 19 = .ok (.iload 6, 2) := by decide +kernel
theorem dX1_goThroughAnHour_21 : decode cX1_goThroughAnHour 21 = .ok (.aload_n 0, 1) := by decide +kernel
theorem dX1_goThroughAnHour_22 : decode cX1_goThroughAnHour 22 = .ok (.getfield 18, 3) := by decide +kernel
theorem dX1_goThroughAnHour_25 : decode cX1_goThroughAnHour 25 = .ok (.invokevirtual 62, 3) := by decide +kernel
theorem dX1_goThroughAnHour_28 : decode cX1_goThroughAnHour 28 = .ok (.if_icmp .ge 25, 3) := by decide +kernel
theorem dX1_goThroughAnHour_31 : decode cX1_goThroughAnHour 31 = .ok (.aload_n 0, 1) := by decide +kernel
theorem dX1_goThroughAnHour_32 : decode cX1_goThroughAnHour 32 = .ok (.aload_n 0, 1) := by decide +kernel
theorem dX1_goThroughAnHour_33 : decode cX1_goThroughAnHour 33 = .ok (.getfield 18, 3) := by decide +kernel
theorem dX1_goThroughAnHour_36 : decode cX1_goThroughAnHour 36 = .ok (.iload 6, 2) := by decide +kernel
theorem dX1_goThroughAnHour_38 : decode cX1_goThroughAnHour 38 = .ok (.invokevirtual 66, 3) := by decide +kernel
theorem dX1_goThroughAnHour_41 : decode cX1_goThroughAnHour 41 = .ok (.checkcast 87, 3) := by decide +kernel
theorem dX1_goThroughAnHour_44 : decode cX1_goThroughAnHour 44 = .ok (.invokevirtual 89, 3) := by decide +kernel
theorem dX1_goThroughAnHour_47 : decode cX1_goThroughAnHour 47 = .ok (.iinc 6 1, 3) := by decide +kernel
theorem dX1_goThroughAnHour_50 : decode cX1_goThroughAnHour 50 = .ok (.goto (-31), 3) := by decide +kernel
theorem dX1_goThroughAnHour_53 : decode cX1_goThroughAnHour 53 = .ok (.aload_n 0, 1) := by decide +kernel
theorem dX1_goThroughAnHour_54 : decode cX1_goThroughAnHour 54 = .ok (.aload_n 0, 1) := by decide +kernel
theorem dX1_goThroughAnHour_55 : decode cX1_goThroughAnHour 55 = .ok (.getfield 35, 3) := by decide +kernel
theorem dX1_goThroughAnHour_58 : decode cX1_goThroughAnHour 58 = .ok (.ifCond .eq 9, 3) := by decide +kernel
theorem dX1_goThroughAnHour_61 : decode cX1_goThroughAnHour 61 = .ok (.iload_n 3, 1) := by decide +kernel
theorem dX1_goThroughAnHour_62 : decode cX1_goThroughAnHour 62 = .ok (.iconst 2, 1) := by decide +kernel
theorem dX1_goThroughAnHour_63 : decode cX1_goThroughAnHour 63 = .ok (.idiv, 1) := by decide +kernel
theorem dX1_goThroughAnHour_64 : decode cX1_goThroughAnHour 64 = .ok (.goto 4, 3) := by decide +kernel
theorem dX1_goThroughAnHour_67 : decode cX1_goThroughAnHour 67 = .ok (.iload_n 3, 1) := by decide +kernel
theorem dX1_goThroughAnHour_68 : decode cX1_goThroughAnHour 68 = .ok (.invokevirtual 93, 3) := by decide +kernel
theorem dX1_goThroughAnHour_71 : decode cX1_goThroughAnHour 71 = .ok (.aload_n 0, 1) := by decide +kernel
theorem dX1_goThroughAnHour_72 : decode cX1_goThroughAnHour 72 = .ok (.iload_n 1, 1) := by decide +kernel
theorem dX1_goThroughAnHour_73 : decode cX1_goThroughAnHour 73 = .ok (.invokevirtual 96, 3) := by decide +kernel
theorem dX1_goThroughAnHour_76 : decode cX1_goThroughAnHour 76 = .ok (.aload_n 0, 1) := by decide +kernel
theorem dX1_goThroughAnHour_77 : decode cX1_goThroughAnHour 77 = .ok (.iload_n 1, 1) := by decide +kernel
theorem dX1_goThroughAnHour_78 : decode cX1_goThroughAnHour 78 = .ok (.invokevirtual 99, 3) := by decide +kernel
theorem dX1_goThroughAnHour_81 : decode cX1_goThroughAnHour 81 = .ok (.lload 4, 2) := by decide +kernel
theorem dX1_goThroughAnHour_83 : decode cX1_goThroughAnHour 83 = .ok (.lreturn, 1) := by decide +kernel
theorem dX1_topOrNull_0 : decode cX1_topOrNull 0 = .ok (.aload_n 0, 1) := by decide +kernel
theorem dX1_topOrNull_1 : decode cX1_topOrNull 1 = .ok (.getfield 12, 3) := by decide +kernel
theorem dX1_topOrNull_4 : decode cX1_topOrNull 4 = .ok (.invokevirtual 102, 3) := by decide +kernel
theorem dX1_topOrNull_7 : decode cX1_topOrNull 7 = .ok (.ifCond .eq 7, 3) := by decide +kernel
theorem dX1_topOrNull_10 : decode cX1_topOrNull 10 = .ok (.aconst_null, 1) := by decide +kernel
theorem dX1_topOrNull_11 : decode cX1_topOrNull 11 = .ok (.goto 14, 3) := by decide +kernel
theorem dX1_topOrNull_14 : decode cX1_topOrNull 14 = .ok (.aload_n 0, 1) := by decide +kernel
theorem dX1_topOrNull_15 : decode cX1_topOrNull 15 = .ok (.getfield 12, 3) := by decide +kernel
theorem dX1_topOrNull_18 : decode cX1_topOrNull 18 = .ok (.iconst 0, 1) := by decide +kernel
theorem dX1_topOrNull_19 : decode cX1_topOrNull 19 = .ok (.invokevirtual 66, 3) := by decide +kernel
theorem dX1_topOrNull_22 : decode cX1_topOrNull 22 = .ok (.checkcast 70, 3) := by decide +kernel
theorem dX1_topOrNull_25 : decode cX1_topOrNull 25 = .ok (.areturn, 1) := by decide +kernel
theorem dX1_letFrostMove_0 : decode cX1_letFrostMove 0 = .ok (.iload_n 1, 1) := by decide +kernel
theorem dX1_letFrostMove_1 : decode cX1_letFrostMove 1 = .ok (.ifCond .ge 22, 3) := by decide +kernel
theorem dX1_letFrostMove_4 : decode cX1_letFrostMove 4 = .ok (.aload_n 0, 1) := by decide +kernel
theorem dX1_letFrostMove_5 : decode cX1_letFrostMove 5 = .ok (.iconst 0, 1) := by decide +kernel
theorem dX1_letFrostMove_6 : decode cX1_letFrostMove 6 = .ok (.invokevirtual 106, 3) := by decide +kernel
theorem dX1_letFrostMove_9 : decode cX1_letFrostMove 9 = .ok (.astore_n 2, 1) := by decide +kernel
theorem dX1_letFrostMove_10 : decode cX1_letFrostMove 10 = .ok (.aload_n 2, 1) := by decide +kernel
theorem dX1_letFrostMove_11 : decode cX1_letFrostMove 11 = .ok (.ifnull 9, 3) := by decide +kernel
theorem dX1_letFrostMove_14 : decode cX1_letFrostMove 14 = .ok (.aload_n 2, 1) := by decide +kernel
theorem dX1_letFrostMove_15 : decode cX1_letFrostMove 15 = .ok (.iload_n 1, 1) := by decide +kernel
theorem dX1_letFrostMove_16 : decode cX1_letFrostMove 16 = .ok (.ineg, 1) := by decide +kernel
theorem dX1_letFrostMove_17 : decode cX1_letFrostMove 17 = .ok (.invokevirtual 110, 3) := by decide +kernel
theorem dX1_letFrostMove_20 : decode cX1_letFrostMove 20 = .ok (.goto 22, 3) := by decide +kernel
theorem dX1_letFrostMove_23 : decode cX1_letFrostMove 23 = .ok (.iload_n 1, 1) := by decide +kernel
theorem dX1_letFrostMove_24 : decode cX1_letFrostMove 24 = .ok (.ifCond .le 18, 3) := by decide +kernel
theorem dX1_letFrostMove_27 : decode cX1_letFrostMove 27 = .ok (.aload_n 0, 1) := by decide +kernel
theorem dX1_letFrostMove_28 : decode cX1_letFrostMove 28 = .ok (.iconst 1, 1) := by decide +kernel
theorem dX1_letFrostMove_29 : decode cX1_letFrostMove 29 = .ok (.invokevirtual 106, 3) := by decide +kernel
theorem dX1_letFrostMove_32 : decode cX1_letFrostMove 32 = .ok (.astore_n 2, 1) := by decide +kernel
theorem dX1_letFrostMove_33 : decode cX1_letFrostMove 33 = .ok (.aload_n 2, 1) := by decide +kernel
theorem dX1_letFrostMove_34 : decode cX1_letFrostMove 34 = .ok (.ifnull 8, 3) := by decide +kernel
theorem dX1_letFrostMove_37 : decode cX1_letFrostMove 37 = .ok (.aload_n 2, 1) := by decide +kernel
theorem dX1_letFrostMove_38 : decode cX1_letFrostMove 38 = .ok (.iload_n 1, 1) := by decide +kernel
theorem dX1_letFrostMove_39 : decode cX1_letFrostMove 39 = .ok (.invokevirtual 113, 3) := by decide +kernel
theorem dX1_letFrostMove_42 : decode cX1_letFrostMove 42 = .ok (.return_, 1) := by decide +kernel
theorem dX1_uppermost_0 : decode cX1_uppermost 0 = .ok (.iconst 0, 1) := by decide +kernel
theorem dX1_uppermost_1 : decode cX1_uppermost 1 = .ok (.istore_n 2, 1) := by decide +kernel
theorem dX1_uppermost_2 : decode cX1_uppermost 2 = .ok (.iload_n 2, 1) := by decide +kernel
theorem dX1_uppermost_3 : decode cX1_uppermost 3 = .ok (.aload_n 0, 1) := by decide +kernel
theorem dX1_uppermost_4 : decode cX1_uppermost 4 = .ok (.getfield 12, 3) := by decide +kernel
theorem dX1_uppermost_7 : decode cX1_uppermost 7 = .ok (.invokevirtual 62, 3) := by decide +kernel
theorem dX1_uppermost_10 : decode cX1_uppermost 10 = .ok (.if_icmp .ge 31, 3) := by decide +kernel
theorem dX1_uppermost_13 : decode cX1_uppermost 13 = .ok (.aload_n 0, 1) := by decide +kernel
theorem dX1_uppermost_14 : decode cX1_uppermost 14 = .ok (.getfield 12, 3) := by decide +kernel
theorem dX1_uppermost_17 : decode cX1_uppermost 17 = .ok (.iload_n 2, 1) := by decide +kernel
theorem dX1_uppermost_18 : decode cX1_uppermost 18 = .ok (.invokevirtual 66, 3) := by decide +kernel
theorem dX1_uppermost_21 : decode cX1_uppermost 21 = .ok (.checkcast 70, 3) := by decide +kernel
theorem dX1_uppermost_24 : decode cX1_uppermost 24 = .ok (.astore_n 3, 1) := by decide +kernel
theorem dX1_uppermost_25 : decode cX1_uppermost 25 = .ok (.aload_n 3, 1) := by decide +kernel
theorem dX1_uppermost_26 : decode cX1_uppermost 26 = .ok (.getfield 116, 3) := by decide +kernel
theorem dX1_uppermost_29 : decode cX1_uppermost 29 = .ok (.iload_n 1, 1) := by decide +kernel
theorem dX1_uppermost_30 : decode cX1_uppermost 30 = .ok (.if_icmp .ne 5, 3) := by decide +kernel
theorem dX1_uppermost_33 : decode cX1_uppermost 33 = .ok (.aload_n 3, 1) := by decide +kernel
theorem dX1_uppermost_34 : decode cX1_uppermost 34 = .ok (.areturn, 1) := by decide +kernel
theorem dX1_uppermost_35 : decode cX1_uppermost 35 = .ok (.iinc 2 1, 3) := by decide +kernel
theorem dX1_uppermost_38 : decode cX1_uppermost 38 = .ok (.goto (-36), 3) := by decide +kernel
theorem dX1_uppermost_41 : decode cX1_uppermost 41 = .ok (.aconst_null, 1) := by decide +kernel
theorem dX1_uppermost_42 : decode cX1_uppermost 42 = .ok (.areturn, 1) := by decide +kernel
theorem dX1_letWaterCome_0 : decode cX1_letWaterCome 0 = .ok (.aload_n 0, 1) := by decide +kernel
theorem dX1_letWaterCome_1 : decode cX1_letWaterCome 1 = .ok (.invokevirtual 119, 3) := by decide +kernel
theorem dX1_letWaterCome_4 : decode cX1_letWaterCome 4 = .ok (.astore_n 2, 1) := by decide +kernel
theorem dX1_letWaterCome_5 : decode cX1_letWaterCome 5 = .ok (.aload_n 0, 1) := by decide +kernel
theorem dX1_letWaterCome_6 : decode cX1_letWaterCome 6 = .ok (.getfield 45, 3) := by decide +kernel
theorem dX1_letWaterCome_9 : decode cX1_letWaterCome 9 = .ok (.i2l, 1) := by decide +kernel
theorem dX1_letWaterCome_10 : decode cX1_letWaterCome 10 = .ok (.aload_n 0, 1) := by decide +kernel
theorem dX1_letWaterCome_11 : decode cX1_letWaterCome 11 = .ok (.iload_n 1, 1) := by decide +kernel
theorem dX1_letWaterCome_12 : decode cX1_letWaterCome 12 = .ok (.invokevirtual 123, 3) := by decide +kernel
theorem dX1_letWaterCome_15 : decode cX1_letWaterCome 15 = .ok (.ladd, 1) := by decide +kernel
theorem dX1_letWaterCome_16 : decode cX1_letWaterCome 16 = .ok (.lstore_n 3, 1) := by decide +kernel
theorem dX1_letWaterCome_17 : decode cX1_letWaterCome 17 = .ok (.aload_n 2, 1) := by decide +kernel
theorem dX1_letWaterCome_18 : decode cX1_letWaterCome 18 = .ok (.ifnull 31, 3) := by decide +kernel
theorem dX1_letWaterCome_21 : decode cX1_letWaterCome 21 = .ok (.lload_n 3, 1) := by decide +kernel
theorem dX1_letWaterCome_22 : decode cX1_letWaterCome 22 = .ok (.aload_n 0, 1) := by decide +kernel
theorem dX1_letWaterCome_23 : decode cX1_letWaterCome 23 = .ok (.aload_n 2, 1) := by decide +kernel
theorem dX1_letWaterCome_24 : decode cX1_letWaterCome 24 = .ok (.invokevirtual 126, 3) := by decide +kernel
theorem dX1_letWaterCome_27 : decode cX1_letWaterCome 27 = .ok (.i2l, 1) := by decide +kernel
theorem dX1_letWaterCome_28 : decode cX1_letWaterCome 28 = .ok (.ladd, 1) := by decide +kernel
theorem dX1_letWaterCome_29 : decode cX1_letWaterCome 29 = .ok (.lstore_n 3, 1) := by decide +kernel
theorem dX1_letWaterCome_30 : decode cX1_letWaterCome 30 = .ok (.lload_n 3, 1) := by decide +kernel
theorem dX1_letWaterCome_31 : decode cX1_letWaterCome 31 = .ok (.aload_n 0, 1) := by decide +kernel
theorem dX1_letWaterCome_32 : decode cX1_letWaterCome 32 = .ok (.aload_n 2, 1) := by decide +kernel
theorem dX1_letWaterCome_33 : decode cX1_letWaterCome 33 = .ok (.lload_n 3, 1) := by decide +kernel
theorem dX1_letWaterCome_34 : decode cX1_letWaterCome 34 = .ok (.invokevirtual 130, 3) := by decide +kernel
theorem dX1_letWaterCome_37 : decode cX1_letWaterCome 37 = .ok (.i2l, 1) := by decide +kernel
theorem dX1_letWaterCome_38 : decode cX1_letWaterCome 38 = .ok (.lsub, 1) := by decide +kernel
theorem dX1_letWaterCome_39 : decode cX1_letWaterCome 39 = .ok (.lstore_n 3, 1) := by decide +kernel
theorem dX1_letWaterCome_40 : decode cX1_letWaterCome 40 = .ok (.lload_n 3, 1) := by decide +kernel
theorem dX1_letWaterCome_41 : decode cX1_letWaterCome 41 = .ok (.aload_n 2, 1) := by decide +kernel
theorem dX1_letWaterCome_42 : decode cX1_letWaterCome 42 = .ok (.lload_n 3, 1) := by decide +kernel
theorem dX1_letWaterCome_43 : decode cX1_letWaterCome 43 = .ok (.invokestatic 134, 3) := by decide +kernel
theorem dX1_letWaterCome_46 : decode cX1_letWaterCome 46 = .ok (.i2l, 1) := by decide +kernel
theorem dX1_letWaterCome_47 : decode cX1_letWaterCome 47 = .ok (.lsub, 1) := by decide +kernel
theorem dX1_letWaterCome_48 : decode cX1_letWaterCome 48 = .ok (.lstore_n 3, 1) := by decide +kernel
theorem dX1_letWaterCome_49 : decode cX1_letWaterCome 49 = .ok (.aload_n 0, 1) := by decide +kernel
theorem dX1_letWaterCome_50 : decode cX1_letWaterCome 50 = .ok (.lload_n 3, 1) := by decide +kernel
theorem dX1_letWaterCome_51 : decode cX1_letWaterCome 51 = .ok (.ldc2_w 137, 3) := by decide +kernel
theorem dX1_letWaterCome_54 : decode cX1_letWaterCome 54 = .ok (.invokestatic 139, 3) := by decide +kernel
theorem dX1_letWaterCome_57 : decode cX1_letWaterCome 57 = .ok (.l2i, 1) := by decide +kernel
theorem dX1_letWaterCome_58 : decode cX1_letWaterCome 58 = .ok (.putfield 45, 3) := by decide +kernel
theorem dX1_letWaterCome_61 : decode cX1_letWaterCome 61 = .ok (.lload_n 3, 1) := by decide +kernel
theorem dX1_letWaterCome_62 : decode cX1_letWaterCome 62 = .ok (.aload_n 0, 1) := by decide +kernel
theorem dX1_letWaterCome_63 : decode cX1_letWaterCome 63 = .ok (.getfield 45, 3) := by decide +kernel
theorem dX1_letWaterCome_66 : decode cX1_letWaterCome 66 = .ok (.i2l, 1) := by decide +kernel
theorem dX1_letWaterCome_67 : decode cX1_letWaterCome 67 = .ok (.lsub, 1) := by decide +kernel
theorem dX1_letWaterCome_68 : decode cX1_letWaterCome 68 = .ok (.lreturn, 1) := by decide +kernel
theorem dX1_takeArrivals_0 : decode cX1_takeArrivals 0 = .ok (.iload_n 1, 1) := by decide +kernel
theorem dX1_takeArrivals_1 : decode cX1_takeArrivals 1 = .ok (.i2l, 1) := by decide +kernel
theorem dX1_takeArrivals_2 : decode cX1_takeArrivals 2 = .ok (.aload_n 0, 1) := by decide +kernel
theorem dX1_takeArrivals_3 : decode cX1_takeArrivals 3 = .ok (.getfield 48, 3) := by decide +kernel
theorem dX1_takeArrivals_6 : decode cX1_takeArrivals 6 = .ok (.ladd, 1) := by decide +kernel
theorem dX1_takeArrivals_7 : decode cX1_takeArrivals 7 = .ok (.lstore_n 2, 1) := by decide +kernel
theorem dX1_takeArrivals_8 : decode cX1_takeArrivals 8 = .ok (.aload_n 0, 1) := by decide +kernel
theorem dX1_takeArrivals_9 : decode cX1_takeArrivals 9 = .ok (.getfield 24, 3) := by decide +kernel
theorem dX1_takeArrivals_12 : decode cX1_takeArrivals 12 = .ok (.dup, 1) := by decide +kernel
theorem dX1_takeArrivals_13 : decode cX1_takeArrivals 13 = .ok (.getfield 145, 3) := by decide +kernel
theorem dX1_takeArrivals_16 : decode cX1_takeArrivals 16 = .ok (.iload_n 1, 1) := by decide +kernel
theorem dX1_takeArrivals_17 : decode cX1_takeArrivals 17 = .ok (.i2l, 1) := by decide +kernel
theorem dX1_takeArrivals_18 : decode cX1_takeArrivals 18 = .ok (.ladd, 1) := by decide +kernel
theorem dX1_takeArrivals_19 : decode cX1_takeArrivals 19 = .ok (.putfield 145, 3) := by decide +kernel
theorem dX1_takeArrivals_22 : decode cX1_takeArrivals 22 = .ok (.aload_n 0, 1) := by decide +kernel
theorem dX1_takeArrivals_23 : decode cX1_takeArrivals 23 = .ok (.lconst 0, 1) := by decide +kernel
theorem dX1_takeArrivals_24 : decode cX1_takeArrivals 24 = .ok (.putfield 48, 3) := by decide +kernel
theorem dX1_takeArrivals_27 : decode cX1_takeArrivals 27 = .ok (.lload_n 2, 1) := by decide +kernel
theorem dX1_takeArrivals_28 : decode cX1_takeArrivals 28 = .ok (.lreturn, 1) := by decide +kernel
theorem dX1_takeWatering_0 : decode cX1_takeWatering 0 = .ok (.aload_n 1, 1) := by decide +kernel
theorem dX1_takeWatering_1 : decode cX1_takeWatering 1 = .ok (.getfield 148, 3) := by decide +kernel
theorem dX1_takeWatering_4 : decode cX1_takeWatering 4 = .ok (.aload_n 0, 1) := by decide +kernel
theorem dX1_takeWatering_5 : decode cX1_takeWatering 5 = .ok (.getfield 39, 3) := by decide +kernel
theorem dX1_takeWatering_8 : decode cX1_takeWatering 8 = .ok (.if_icmp .lt 5, 3) := by decide +kernel
theorem dX1_takeWatering_11 : decode cX1_takeWatering 11 = .ok (.iconst 0, 1) := by decide +kernel
theorem dX1_takeWatering_12 : decode cX1_takeWatering 12 = .ok (.ireturn, 1) := by decide +kernel
theorem dX1_takeWatering_13 : decode cX1_takeWatering 13 = .ok (.aload_n 0, 1) := by decide +kernel
theorem dX1_takeWatering_14 : decode cX1_takeWatering 14 = .ok (.getfield 24, 3) := by decide +kernel
theorem dX1_takeWatering_17 : decode cX1_takeWatering 17 = .ok (.dup, 1) := by decide +kernel
theorem dX1_takeWatering_18 : decode cX1_takeWatering 18 = .ok (.getfield 151, 3) := by decide +kernel
theorem dX1_takeWatering_21 : decode cX1_takeWatering 21 = .ok (.aload_n 0, 1) := by decide +kernel
theorem dX1_takeWatering_22 : decode cX1_takeWatering 22 = .ok (.getfield 42, 3) := by decide +kernel
theorem dX1_takeWatering_25 : decode cX1_takeWatering 25 = .ok (.i2l, 1) := by decide +kernel
theorem dX1_takeWatering_26 : decode cX1_takeWatering 26 = .ok (.ladd, 1) := by decide +kernel
theorem dX1_takeWatering_27 : decode cX1_takeWatering 27 = .ok (.putfield 151, 3) := by decide +kernel
theorem dX1_takeWatering_30 : decode cX1_takeWatering 30 = .ok (.aload_n 0, 1) := by decide +kernel
theorem dX1_takeWatering_31 : decode cX1_takeWatering 31 = .ok (.getfield 42, 3) := by decide +kernel
theorem dX1_takeWatering_34 : decode cX1_takeWatering 34 = .ok (.ireturn, 1) := by decide +kernel
theorem dX1_fillCrack_0 : decode cX1_fillCrack 0 = .ok (.aload_n 0, 1) := by decide +kernel
theorem dX1_fillCrack_1 : decode cX1_fillCrack 1 = .ok (.aload_n 1, 1) := by decide +kernel
theorem dX1_fillCrack_2 : decode cX1_fillCrack 2 = .ok (.invokevirtual 154, 3) := by decide +kernel
theorem dX1_fillCrack_5 : decode cX1_fillCrack 5 = .ok (.astore 4, 2) := by decide +kernel
theorem dX1_fillCrack_7 : decode cX1_fillCrack 7 = .ok (.aload 4, 2) := by decide +kernel
theorem dX1_fillCrack_9 : decode cX1_fillCrack 9 = .ok (.ifnonnull 5, 3) := by decide +kernel
theorem dX1_fillCrack_12 : decode cX1_fillCrack 12 = .ok (.iconst 0, 1) := by decide +kernel
theorem dX1_fillCrack_13 : decode cX1_fillCrack 13 = .ok (.ireturn, 1) := by decide +kernel
theorem dX1_fillCrack_14 : decode cX1_fillCrack 14 = .ok (.lload_n 2, 1) := by decide +kernel
theorem dX1_fillCrack_15 : decode cX1_fillCrack 15 = .ok (.aload_n 1, 1) := by decide +kernel
theorem dX1_fillCrack_16 : decode cX1_fillCrack 16 = .ok (.aload 4, 2) := by decide +kernel
theorem dX1_fillCrack_18 : decode cX1_fillCrack 18 = .ok (.invokestatic 158, 3) := by decide +kernel
theorem dX1_fillCrack_21 : decode cX1_fillCrack 21 = .ok (.i2l, 1) := by decide +kernel
theorem dX1_fillCrack_22 : decode cX1_fillCrack 22 = .ok (.invokestatic 139, 3) := by decide +kernel
theorem dX1_fillCrack_25 : decode cX1_fillCrack 25 = .ok (.l2i, 1) := by decide +kernel
theorem dX1_fillCrack_26 : decode cX1_fillCrack 26 = .ok (.istore 5, 2) := by decide +kernel
theorem dX1_fillCrack_28 : decode cX1_fillCrack 28 = .ok (.aload 4, 2) := by decide +kernel
theorem dX1_fillCrack_30 : decode cX1_fillCrack 30 = .ok (.dup, 1) := by decide +kernel
theorem dX1_fillCrack_31 : decode cX1_fillCrack 31 = .ok (.getfield 148, 3) := by decide +kernel
theorem dX1_fillCrack_34 : decode cX1_fillCrack 34 = .ok (.iload 5, 2) := by decide +kernel
theorem dX1_fillCrack_36 : decode cX1_fillCrack 36 = .ok (.iadd, 1) := by decide +kernel
theorem dX1_fillCrack_37 : decode cX1_fillCrack 37 = .ok (.putfield 148, 3) := by decide +kernel
theorem dX1_fillCrack_40 : decode cX1_fillCrack 40 = .ok (.iload 5, 2) := by decide +kernel
theorem dX1_fillCrack_42 : decode cX1_fillCrack 42 = .ok (.ireturn, 1) := by decide +kernel
theorem dX1_soakIn_0 : decode cX1_soakIn 0 = .ok (.lload_n 1, 1) := by decide +kernel
theorem dX1_soakIn_1 : decode cX1_soakIn 1 = .ok (.aload_n 0, 1) := by decide +kernel
theorem dX1_soakIn_2 : decode cX1_soakIn 2 = .ok (.getfield 162, 3) := by decide +kernel
theorem dX1_soakIn_5 : decode cX1_soakIn 5 = .ok (.getfield 166, 3) := by decide +kernel
theorem dX1_soakIn_8 : decode cX1_soakIn 8 = .ok (.aload_n 0, 1) := by decide +kernel
theorem dX1_soakIn_9 : decode cX1_soakIn 9 = .ok (.invokevirtual 171, 3) := by decide +kernel
theorem dX1_soakIn_12 : decode cX1_soakIn 12 = .ok (.invokestatic 174, 3) := by decide +kernel
theorem dX1_soakIn_15 : decode cX1_soakIn 15 = .ok (.i2l, 1) := by decide +kernel
theorem dX1_soakIn_16 : decode cX1_soakIn 16 = .ok (.invokestatic 139, 3) := by decide +kernel
theorem dX1_soakIn_19 : decode cX1_soakIn 19 = .ok (.l2i, 1) := by decide +kernel
theorem dX1_soakIn_20 : decode cX1_soakIn 20 = .ok (.istore_n 3, 1) := by decide +kernel
theorem dX1_soakIn_21 : decode cX1_soakIn 21 = .ok (.aload_n 0, 1) := by decide +kernel
theorem dX1_soakIn_22 : decode cX1_soakIn 22 = .ok (.dup, 1) := by decide +kernel
theorem dX1_soakIn_23 : decode cX1_soakIn 23 = .ok (.getfield 148, 3) := by decide +kernel
theorem dX1_soakIn_26 : decode cX1_soakIn 26 = .ok (.iload_n 3, 1) := by decide +kernel
theorem dX1_soakIn_27 : decode cX1_soakIn 27 = .ok (.iadd, 1) := by decide +kernel
theorem dX1_soakIn_28 : decode cX1_soakIn 28 = .ok (.putfield 148, 3) := by decide +kernel
theorem dX1_soakIn_31 : decode cX1_soakIn 31 = .ok (.iload_n 3, 1) := by decide +kernel
theorem dX1_soakIn_32 : decode cX1_soakIn 32 = .ok (.ireturn, 1) := by decide +kernel
theorem dX1_crackEnd_0 : decode cX1_crackEnd 0 = .ok (.aload_n 1, 1) := by decide +kernel
theorem dX1_crackEnd_1 : decode cX1_crackEnd 1 = .ok (.getfield 162, 3) := by decide +kernel
theorem dX1_crackEnd_4 : decode cX1_crackEnd 4 = .ok (.getstatic 177, 3) := by decide +kernel
theorem dX1_crackEnd_7 : decode cX1_crackEnd 7 = .ok (.if_acmp .ne 27, 3) := by decide +kernel
theorem dX1_crackEnd_10 : decode cX1_crackEnd 10 = .ok (.aload_n 1, 1) := by decide +kernel
theorem dX1_crackEnd_11 : decode cX1_crackEnd 11 = .ok (.getfield 116, 3) := by decide +kernel
theorem dX1_crackEnd_14 : decode cX1_crackEnd 14 = .ok (.ifCond .ne 20, 3) := by decide +kernel
theorem dX1_crackEnd_17 : decode cX1_crackEnd 17 = .ok (.aload_n 1, 1) := by decide +kernel
theorem dX1_crackEnd_18 : decode cX1_crackEnd 18 = .ok (.getfield 148, 3) := by decide +kernel
theorem dX1_crackEnd_21 : decode cX1_crackEnd 21 = .ok (.aload_n 1, 1) := by decide +kernel
theorem dX1_crackEnd_22 : decode cX1_crackEnd 22 = .ok (.getfield 180, 3) := by decide +kernel
theorem dX1_crackEnd_25 : decode cX1_crackEnd 25 = .ok (.bipush 8, 2) := by decide +kernel
theorem dX1_crackEnd_27 : decode cX1_crackEnd 27 = .ok (.imul, 1) := by decide +kernel
theorem dX1_crackEnd_28 : decode cX1_crackEnd 28 = .ok (.bipush 10, 2) := by decide +kernel
theorem dX1_crackEnd_30 : decode cX1_crackEnd 30 = .ok (.idiv, 1) := by decide +kernel
theorem dX1_crackEnd_31 : decode cX1_crackEnd 31 = .ok (.if_icmp .lt 5, 3) := by decide +kernel
theorem dX1_crackEnd_34 : decode cX1_crackEnd 34 = .ok (.aconst_null, 1) := by decide +kernel
theorem dX1_crackEnd_35 : decode cX1_crackEnd 35 = .ok (.areturn, 1) := by decide +kernel
theorem dX1_crackEnd_36 : decode cX1_crackEnd 36 = .ok (.aload_n 1, 1) := by decide +kernel
theorem dX1_crackEnd_37 : decode cX1_crackEnd 37 = .ok (.astore_n 2, 1) := by decide +kernel
theorem dX1_crackEnd_38 : decode cX1_crackEnd 38 = .ok (.iconst 1, 1) := by decide +kernel
theorem dX1_crackEnd_39 : decode cX1_crackEnd 39 = .ok (.istore_n 3, 1) := by decide +kernel
theorem dX1_crackEnd_40 : decode cX1_crackEnd 40 = .ok (.iload_n 3, 1) := by decide +kernel
theorem dX1_crackEnd_41 : decode cX1_crackEnd 41 = .ok (.aload_n 0, 1) := by decide +kernel
theorem dX1_crackEnd_42 : decode cX1_crackEnd 42 = .ok (.getfield 12, 3) := by decide +kernel
theorem dX1_crackEnd_45 : decode cX1_crackEnd 45 = .ok (.invokevirtual 62, 3) := by decide +kernel
theorem dX1_crackEnd_48 : decode cX1_crackEnd 48 = .ok (.if_icmp .ge 41, 3) := by decide +kernel
theorem dX1_crackEnd_51 : decode cX1_crackEnd 51 = .ok (.aload_n 0, 1) := by decide +kernel
theorem dX1_crackEnd_52 : decode cX1_crackEnd 52 = .ok (.getfield 12, 3) := by decide +kernel
theorem dX1_crackEnd_55 : decode cX1_crackEnd 55 = .ok (.iload_n 3, 1) := by decide +kernel
theorem dX1_crackEnd_56 : decode cX1_crackEnd 56 = .ok (.invokevirtual 66, 3) := by decide +kernel
theorem dX1_crackEnd_59 : decode cX1_crackEnd 59 = .ok (.checkcast 70, 3) := by decide +kernel
theorem dX1_crackEnd_62 : decode cX1_crackEnd 62 = .ok (.getfield 162, 3) := by decide +kernel
theorem dX1_crackEnd_65 : decode cX1_crackEnd 65 = .ok (.getstatic 177, 3) := by decide +kernel
theorem dX1_crackEnd_68 : decode cX1_crackEnd 68 = .ok (.if_acmp .ne 21, 3) := by decide +kernel
theorem dX1_crackEnd_71 : decode cX1_crackEnd 71 = .ok (.aload_n 0, 1) := by decide +kernel
theorem dX1_crackEnd_72 : decode cX1_crackEnd 72 = .ok (.getfield 12, 3) := by decide +kernel
theorem dX1_crackEnd_75 : decode cX1_crackEnd 75 = .ok (.iload_n 3, 1) := by decide +kernel
theorem dX1_crackEnd_76 : decode cX1_crackEnd 76 = .ok (.invokevirtual 66, 3) := by decide +kernel
theorem dX1_crackEnd_79 : decode cX1_crackEnd 79 = .ok (.checkcast 70, 3) := by decide +kernel
theorem dX1_crackEnd_82 : decode cX1_crackEnd 82 = .ok (.astore_n 2, 1) := by decide +kernel
theorem dX1_crackEnd_83 : decode cX1_crackEnd 83 = .ok (.iinc 3 1, 3) := by decide +kernel
theorem dX1_crackEnd_86 : decode cX1_crackEnd 86 = .ok (.goto (-46), 3) := by decide +kernel
theorem dX1_crackEnd_89 : decode cX1_crackEnd 89 = .ok (.aload_n 2, 1) := by decide +kernel
theorem dX1_crackEnd_90 : decode cX1_crackEnd 90 = .ok (.areturn, 1) := by decide +kernel
theorem dX1_crackBetween_0 : decode cX1_crackBetween 0 = .ok (.aload_n 0, 1) := by decide +kernel
theorem dX1_crackBetween_1 : decode cX1_crackBetween 1 = .ok (.getfield 180, 3) := by decide +kernel
theorem dX1_crackBetween_4 : decode cX1_crackBetween 4 = .ok (.aload_n 0, 1) := by decide +kernel
theorem dX1_crackBetween_5 : decode cX1_crackBetween 5 = .ok (.getfield 148, 3) := by decide +kernel
theorem dX1_crackBetween_8 : decode cX1_crackBetween 8 = .ok (.isub, 1) := by decide +kernel
theorem dX1_crackBetween_9 : decode cX1_crackBetween 9 = .ok (.iconst 4, 1) := by decide +kernel
theorem dX1_crackBetween_10 : decode cX1_crackBetween 10 = .ok (.idiv, 1) := by decide +kernel
theorem dX1_crackBetween_11 : decode cX1_crackBetween 11 = .ok (.aload_n 1, 1) := by decide +kernel
theorem dX1_crackBetween_12 : decode cX1_crackBetween 12 = .ok (.invokevirtual 171, 3) := by decide +kernel
theorem dX1_crackBetween_15 : decode cX1_crackBetween 15 = .ok (.invokestatic 174, 3) := by decide +kernel
theorem dX1_crackBetween_18 : decode cX1_crackBetween 18 = .ok (.ireturn, 1) := by decide +kernel
theorem dX1_crackCanTake_0 : decode cX1_crackCanTake 0 = .ok (.aload_n 0, 1) := by decide +kernel
theorem dX1_crackCanTake_1 : decode cX1_crackCanTake 1 = .ok (.invokevirtual 119, 3) := by decide +kernel
theorem dX1_crackCanTake_4 : decode cX1_crackCanTake 4 = .ok (.astore_n 1, 1) := by decide +kernel
theorem dX1_crackCanTake_5 : decode cX1_crackCanTake 5 = .ok (.aload_n 1, 1) := by decide +kernel
theorem dX1_crackCanTake_6 : decode cX1_crackCanTake 6 = .ok (.ifnonnull 7, 3) := by decide +kernel
theorem dX1_crackCanTake_9 : decode cX1_crackCanTake 9 = .ok (.aconst_null, 1) := by decide +kernel
theorem dX1_crackCanTake_10 : decode cX1_crackCanTake 10 = .ok (.goto 8, 3) := by decide +kernel
theorem dX1_crackCanTake_13 : decode cX1_crackCanTake 13 = .ok (.aload_n 0, 1) := by decide +kernel
theorem dX1_crackCanTake_14 : decode cX1_crackCanTake 14 = .ok (.aload_n 1, 1) := by decide +kernel
theorem dX1_crackCanTake_15 : decode cX1_crackCanTake 15 = .ok (.invokevirtual 154, 3) := by decide +kernel
theorem dX1_crackCanTake_18 : decode cX1_crackCanTake 18 = .ok (.astore_n 2, 1) := by decide +kernel
theorem dX1_crackCanTake_19 : decode cX1_crackCanTake 19 = .ok (.aload_n 2, 1) := by decide +kernel
theorem dX1_crackCanTake_20 : decode cX1_crackCanTake 20 = .ok (.ifnonnull 7, 3) := by decide +kernel
theorem dX1_crackCanTake_23 : decode cX1_crackCanTake 23 = .ok (.iconst 0, 1) := by decide +kernel
theorem dX1_crackCanTake_24 : decode cX1_crackCanTake 24 = .ok (.goto 8, 3) := by decide +kernel
theorem dX1_crackCanTake_27 : decode cX1_crackCanTake 27 = .ok (.aload_n 1, 1) := by decide +kernel
theorem dX1_crackCanTake_28 : decode cX1_crackCanTake 28 = .ok (.aload_n 2, 1) := by decide +kernel
theorem dX1_crackCanTake_29 : decode cX1_crackCanTake 29 = .ok (.invokestatic 158, 3) := by decide +kernel
theorem dX1_crackCanTake_32 : decode cX1_crackCanTake 32 = .ok (.ireturn, 1) := by decide +kernel
theorem dX1_letWaterSink_0 : decode cX1_letWaterSink 0 = .ok (.aload_n 0, 1) := by decide +kernel
theorem dX1_letWaterSink_1 : decode cX1_letWaterSink 1 = .ok (.getfield 12, 3) := by decide +kernel
theorem dX1_letWaterSink_4 : decode cX1_letWaterSink 4 = .ok (.invokevirtual 62, 3) := by decide +kernel
theorem dX1_letWaterSink_7 : decode cX1_letWaterSink 7 = .ok (.iconst 1, 1) := by decide +kernel
theorem dX1_letWaterSink_8 : decode cX1_letWaterSink 8 = .ok (.isub, 1) := by decide +kernel
theorem dX1_letWaterSink_9 : decode cX1_letWaterSink 9 = .ok (.istore_n 1, 1) := by decide +kernel
theorem dX1_letWaterSink_10 : decode cX1_letWaterSink 10 = .ok (.iload_n 1, 1) := by decide +kernel
theorem dX1_letWaterSink_11 : decode cX1_letWaterSink 11 = .ok (.ifCond .lt 146, 3) := by decide +kernel
theorem dX1_letWaterSink_14 : decode cX1_letWaterSink 14 = .ok (.aload_n 0, 1) := by decide +kernel
theorem dX1_letWaterSink_15 : decode cX1_letWaterSink 15 = .ok (.getfield 12, 3) := by decide +kernel
theorem dX1_letWaterSink_18 : decode cX1_letWaterSink 18 = .ok (.iload_n 1, 1) := by decide +kernel
theorem dX1_letWaterSink_19 : decode cX1_letWaterSink 19 = .ok (.invokevirtual 66, 3) := by decide +kernel
theorem dX1_letWaterSink_22 : decode cX1_letWaterSink 22 = .ok (.checkcast 70, 3) := by decide +kernel
theorem dX1_letWaterSink_25 : decode cX1_letWaterSink 25 = .ok (.astore_n 2, 1) := by decide +kernel
theorem dX1_letWaterSink_26 : decode cX1_letWaterSink 26 = .ok (.aload_n 2, 1) := by decide +kernel
theorem dX1_letWaterSink_27 : decode cX1_letWaterSink 27 = .ok (.aload_n 0, 1) := by decide +kernel
theorem dX1_letWaterSink_28 : decode cX1_letWaterSink 28 = .ok (.getfield 32, 3) := by decide +kernel
theorem dX1_letWaterSink_31 : decode cX1_letWaterSink 31 = .ok (.invokevirtual 183, 3) := by decide +kernel
theorem dX1_letWaterSink_34 : decode cX1_letWaterSink 34 = .ok (.istore_n 3, 1) := by decide +kernel
theorem dX1_letWaterSink_35 : decode cX1_letWaterSink 35 = .ok (.iload_n 1, 1) := by decide +kernel
theorem dX1_letWaterSink_36 : decode cX1_letWaterSink 36 = .ok (.iconst 1, 1) := by decide +kernel
theorem dX1_letWaterSink_37 : decode cX1_letWaterSink 37 = .ok (.iadd, 1) := by decide +kernel
theorem dX1_letWaterSink_38 : decode cX1_letWaterSink 38 = .ok (.aload_n 0, 1) := by decide +kernel
theorem dX1_letWaterSink_39 : decode cX1_letWaterSink 39 = .ok (.getfield 12, 3) := by decide +kernel
theorem dX1_letWaterSink_42 : decode cX1_letWaterSink 42 = .ok (.invokevirtual 62, 3) := by decide +kernel
theorem dX1_letWaterSink_45 : decode cX1_letWaterSink 45 = .ok (.if_icmp .ge 55, 3) := by decide +kernel
theorem dX1_letWaterSink_48 : decode cX1_letWaterSink 48 = .ok (.aload_n 0, 1) := by decide +kernel
theorem dX1_letWaterSink_49 : decode cX1_letWaterSink 49 = .ok (.getfield 12, 3) := by decide +kernel
theorem dX1_letWaterSink_52 : decode cX1_letWaterSink 52 = .ok (.iload_n 1, 1) := by decide +kernel
theorem dX1_letWaterSink_53 : decode cX1_letWaterSink 53 = .ok (.iconst 1, 1) := by decide +kernel
theorem dX1_letWaterSink_54 : decode cX1_letWaterSink 54 = .ok (.iadd, 1) := by decide +kernel
theorem dX1_letWaterSink_55 : decode cX1_letWaterSink 55 = .ok (.invokevirtual 66, 3) := by decide +kernel
theorem dX1_letWaterSink_58 : decode cX1_letWaterSink 58 = .ok (.checkcast 70, 3) := by decide +kernel
theorem dX1_letWaterSink_61 : decode cX1_letWaterSink 61 = .ok (.astore 4, 2) := by decide +kernel
theorem dX1_letWaterSink_63 : decode cX1_letWaterSink 63 = .ok (.iload_n 3, 1) := by decide +kernel
theorem dX1_letWaterSink_64 : decode cX1_letWaterSink 64 = .ok (.aload 4, 2) := by decide +kernel
theorem dX1_letWaterSink_66 : decode cX1_letWaterSink 66 = .ok (.invokevirtual 171, 3) := by decide +kernel
theorem dX1_letWaterSink_69 : decode cX1_letWaterSink 69 = .ok (.invokestatic 174, 3) := by decide +kernel
theorem dX1_letWaterSink_72 : decode cX1_letWaterSink 72 = .ok (.istore 5, 2) := by decide +kernel
theorem dX1_letWaterSink_74 : decode cX1_letWaterSink 74 = .ok (.aload_n 2, 1) := by decide +kernel
theorem dX1_letWaterSink_75 : decode cX1_letWaterSink 75 = .ok (.iload 5, 2) := by decide +kernel
theorem dX1_letWaterSink_77 : decode cX1_letWaterSink 77 = .ok (.aload 4, 2) := by decide +kernel
theorem dX1_letWaterSink_79 : decode cX1_letWaterSink 79 = .ok (.getfield 187, 3) := by decide +kernel
theorem dX1_letWaterSink_82 : decode cX1_letWaterSink 82 = .ok (.invokevirtual 191, 3) := by decide +kernel
theorem dX1_letWaterSink_85 : decode cX1_letWaterSink 85 = .ok (.aload 4, 2) := by decide +kernel
theorem dX1_letWaterSink_87 : decode cX1_letWaterSink 87 = .ok (.dup, 1) := by decide +kernel
theorem dX1_letWaterSink_88 : decode cX1_letWaterSink 88 = .ok (.getfield 148, 3) := by decide +kernel
theorem dX1_letWaterSink_91 : decode cX1_letWaterSink 91 = .ok (.iload 5, 2) := by decide +kernel
theorem dX1_letWaterSink_93 : decode cX1_letWaterSink 93 = .ok (.iadd, 1) := by decide +kernel
theorem dX1_letWaterSink_94 : decode cX1_letWaterSink 94 = .ok (.putfield 148, 3) := by decide +kernel
theorem dX1_letWaterSink_97 : decode cX1_letWaterSink 97 = .ok (.goto 54, 3) := by decide +kernel
theorem dX1_letWaterSink_100 : decode cX1_letWaterSink 100 = .ok (.aload_n 0, 1) := by decide +kernel
theorem dX1_letWaterSink_101 : decode cX1_letWaterSink 101 = .ok (.getfield 55, 3) := by decide +kernel
theorem dX1_letWaterSink_104 : decode cX1_letWaterSink 104 = .ok (.bipush 102, 2) := by decide +kernel
theorem dX1_letWaterSink_106 : decode cX1_letWaterSink 106 = .ok (.if_icmp .eq 19, 3) := by decide +kernel
theorem dX1_letWaterSink_109 : decode cX1_letWaterSink 109 = .ok (.aload_n 0, 1) := by decide +kernel
theorem dX1_letWaterSink_110 : decode cX1_letWaterSink 110 = .ok (.getfield 55, 3) := by decide +kernel
theorem dX1_letWaterSink_113 : decode cX1_letWaterSink 113 = .ok (.bipush 115, 2) := by decide +kernel
theorem dX1_letWaterSink_115 : decode cX1_letWaterSink 115 = .ok (.if_icmp .ne 36, 3) := by decide +kernel
theorem dX1_letWaterSink_118 : decode cX1_letWaterSink 118 = .ok (.aload_n 2, 1) := by decide +kernel
theorem dX1_letWaterSink_119 : decode cX1_letWaterSink 119 = .ok (.invokevirtual 195, 3) := by decide +kernel
theorem dX1_letWaterSink_122 : decode cX1_letWaterSink 122 = .ok (.ifCond .ne 29, 3) := by decide +kernel
theorem dX1_letWaterSink_125 : decode cX1_letWaterSink 125 = .ok (.aload_n 2, 1) := by decide +kernel
theorem dX1_letWaterSink_126 : decode cX1_letWaterSink 126 = .ok (.iload_n 3, 1) := by decide +kernel
theorem dX1_letWaterSink_127 : decode cX1_letWaterSink 127 = .ok (.aload_n 0, 1) := by decide +kernel
theorem dX1_letWaterSink_128 : decode cX1_letWaterSink 128 = .ok (.getfield 24, 3) := by decide +kernel
theorem dX1_letWaterSink_131 : decode cX1_letWaterSink 131 = .ok (.getfield 198, 3) := by decide +kernel
theorem dX1_letWaterSink_134 : decode cX1_letWaterSink 134 = .ok (.invokevirtual 191, 3) := by decide +kernel
theorem dX1_letWaterSink_137 : decode cX1_letWaterSink 137 = .ok (.aload_n 0, 1) := by decide +kernel
theorem dX1_letWaterSink_138 : decode cX1_letWaterSink 138 = .ok (.getfield 24, 3) := by decide +kernel
theorem dX1_letWaterSink_141 : decode cX1_letWaterSink 141 = .ok (.dup, 1) := by decide +kernel
theorem dX1_letWaterSink_142 : decode cX1_letWaterSink 142 = .ok (.getfield 201, 3) := by decide +kernel
theorem dX1_letWaterSink_145 : decode cX1_letWaterSink 145 = .ok (.iload_n 3, 1) := by decide +kernel
theorem dX1_letWaterSink_146 : decode cX1_letWaterSink 146 = .ok (.i2l, 1) := by decide +kernel
theorem dX1_letWaterSink_147 : decode cX1_letWaterSink 147 = .ok (.ladd, 1) := by decide +kernel
theorem dX1_letWaterSink_148 : decode cX1_letWaterSink 148 = .ok (.putfield 201, 3) := by decide +kernel
theorem dX1_letWaterSink_151 : decode cX1_letWaterSink 151 = .ok (.iinc 1 (-1), 3) := by decide +kernel
theorem dX1_letWaterSink_154 : decode cX1_letWaterSink 154 = .ok (.goto (-144), 3) := by decide +kernel
theorem dX1_letWaterSink_157 : decode cX1_letWaterSink 157 = .ok (.return_, 1) := by decide +kernel
theorem dX1_letDrink_0 : decode cX1_letDrink 0 = .ok (.iconst 0, 1) := by decide +kernel
theorem dX1_letDrink_1 : decode cX1_letDrink 1 = .ok (.istore_n 2, 1) := by decide +kernel
theorem dX1_letDrink_2 : decode cX1_letDrink 2 = .ok (.iconst 0, 1) := by decide +kernel
theorem dX1_letDrink_3 : decode cX1_letDrink 3 = .ok (.istore_n 3, 1) := by decide +kernel
theorem dX1_letDrink_4 : decode cX1_letDrink 4 = .ok (.iload_n 3, 1) := by decide +kernel
theorem dX1_letDrink_5 : decode cX1_letDrink 5 = .ok (.aload_n 0, 1) := by decide +kernel
theorem dX1_letDrink_6 : decode cX1_letDrink 6 = .ok (.getfield 12, 3) := by decide +kernel
theorem dX1_letDrink_9 : decode cX1_letDrink 9 = .ok (.invokevirtual 62, 3) := by decide +kernel
theorem dX1_letDrink_12 : decode cX1_letDrink 12 = .ok (.if_icmp .ge 34, 3) := by decide +kernel
theorem dX1_letDrink_15 : decode cX1_letDrink 15 = .ok (.iload_n 3, 1) := by decide +kernel
theorem dX1_letDrink_16 : decode cX1_letDrink 16 = .ok (.aload_n 1, 1) := by decide +kernel
theorem dX1_letDrink_17 : decode cX1_letDrink 17 = .ok (.getfield 204, 3) := by decide +kernel
theorem dX1_letDrink_20 : decode cX1_letDrink 20 = .ok (.if_icmp .ge 26, 3) := by decide +kernel
theorem dX1_letDrink_23 : decode cX1_letDrink 23 = .ok (.iload_n 2, 1) := by decide +kernel
theorem dX1_letDrink_24 : decode cX1_letDrink 24 = .ok (.aload_n 0, 1) := by decide +kernel
theorem dX1_letDrink_25 : decode cX1_letDrink 25 = .ok (.getfield 12, 3) := by decide +kernel
theorem dX1_letDrink_28 : decode cX1_letDrink 28 = .ok (.iload_n 3, 1) := by decide +kernel
theorem dX1_letDrink_29 : decode cX1_letDrink 29 = .ok (.invokevirtual 66, 3) := by decide +kernel
theorem dX1_letDrink_32 : decode cX1_letDrink 32 = .ok (.checkcast 70, 3) := by decide +kernel
theorem dX1_letDrink_35 : decode cX1_letDrink 35 = .ok (.invokevirtual 207, 3) := by decide +kernel
theorem dX1_letDrink_38 : decode cX1_letDrink 38 = .ok (.iadd, 1) := by decide +kernel
theorem dX1_letDrink_39 : decode cX1_letDrink 39 = .ok (.istore_n 2, 1) := by decide +kernel
theorem dX1_letDrink_40 : decode cX1_letDrink 40 = .ok (.iinc 3 1, 3) := by decide +kernel
theorem dX1_letDrink_43 : decode cX1_letDrink 43 = .ok (.goto (-39), 3) := by decide +kernel
theorem dX1_letDrink_46 : decode cX1_letDrink 46 = .ok (.aload_n 1, 1) := by decide +kernel
theorem dX1_letDrink_47 : decode cX1_letDrink 47 = .ok (.getfield 210, 3) := by decide +kernel
theorem dX1_letDrink_50 : decode cX1_letDrink 50 = .ok (.iload_n 2, 1) := by decide +kernel
theorem dX1_letDrink_51 : decode cX1_letDrink 51 = .ok (.invokestatic 174, 3) := by decide +kernel
theorem dX1_letDrink_54 : decode cX1_letDrink 54 = .ok (.istore_n 3, 1) := by decide +kernel
theorem dX1_letDrink_55 : decode cX1_letDrink 55 = .ok (.iload_n 3, 1) := by decide +kernel
theorem dX1_letDrink_56 : decode cX1_letDrink 56 = .ok (.istore 4, 2) := by decide +kernel
theorem dX1_letDrink_58 : decode cX1_letDrink 58 = .ok (.iconst 0, 1) := by decide +kernel
theorem dX1_letDrink_59 : decode cX1_letDrink 59 = .ok (.istore 5, 2) := by decide +kernel
theorem dX1_letDrink_61 : decode cX1_letDrink 61 = .ok (.iload_n 2, 1) := by decide +kernel
theorem dX1_letDrink_62 : decode cX1_letDrink 62 = .ok (.ifCond .le 74, 3) := by decide +kernel
theorem dX1_letDrink_65 : decode cX1_letDrink 65 = .ok (.iload 5, 2) := by decide +kernel
theorem dX1_letDrink_67 : decode cX1_letDrink 67 = .ok (.aload_n 0, 1) := by decide +kernel
theorem dX1_letDrink_68 : decode cX1_letDrink 68 = .ok (.getfield 12, 3) := by decide +kernel
theorem dX1_letDrink_71 : decode cX1_letDrink 71 = .ok (.invokevirtual 62, 3) := by decide +kernel
theorem dX1_letDrink_74 : decode cX1_letDrink 74 = .ok (.if_icmp .ge 62, 3) := by decide +kernel
theorem dX1_letDrink_77 : decode cX1_letDrink 77 = .ok (.iload 5, 2) := by decide +kernel
theorem dX1_letDrink_79 : decode cX1_letDrink 79 = .ok (.aload_n 1, 1) := by decide +kernel
theorem dX1_letDrink_80 : decode cX1_letDrink 80 = .ok (.getfield 204, 3) := by decide +kernel
theorem dX1_letDrink_83 : decode cX1_letDrink 83 = .ok (.if_icmp .ge 53, 3) := by decide +kernel
theorem dX1_letDrink_86 : decode cX1_letDrink 86 = .ok (.aload_n 0, 1) := by decide +kernel
theorem dX1_letDrink_87 : decode cX1_letDrink 87 = .ok (.getfield 12, 3) := by decide +kernel
theorem dX1_letDrink_90 : decode cX1_letDrink 90 = .ok (.iload 5, 2) := by decide +kernel
theorem dX1_letDrink_92 : decode cX1_letDrink 92 = .ok (.invokevirtual 66, 3) := by decide +kernel
theorem dX1_letDrink_95 : decode cX1_letDrink 95 = .ok (.checkcast 70, 3) := by decide +kernel
theorem dX1_letDrink_98 : decode cX1_letDrink 98 = .ok (.astore 6, 2) := by decide +kernel
theorem dX1_letDrink_100 : decode cX1_letDrink 100 = .ok (.iload_n 3, 1) := by decide +kernel
theorem dX1_letDrink_101 : decode cX1_letDrink 101 = .ok (.aload 6, 2) := by decide +kernel
theorem dX1_letDrink_103 : decode cX1_letDrink 103 = .ok (.invokevirtual 207, 3) := by decide +kernel
theorem dX1_letDrink_106 : decode cX1_letDrink 106 = .ok (.imul, 1) := by decide +kernel
theorem dX1_letDrink_107 : decode cX1_letDrink 107 = .ok (.iload_n 2, 1) := by decide +kernel
theorem dX1_letDrink_108 : decode cX1_letDrink 108 = .ok (.idiv, 1) := by decide +kernel
theorem dX1_letDrink_109 : decode cX1_letDrink 109 = .ok (.istore 7, 2) := by decide +kernel
theorem dX1_letDrink_111 : decode cX1_letDrink 111 = .ok (.aload 6, 2) := by decide +kernel
theorem dX1_letDrink_113 : decode cX1_letDrink 113 = .ok (.dup, 1) := by decide +kernel
theorem dX1_letDrink_114 : decode cX1_letDrink 114 = .ok (.getfield 148, 3) := by decide +kernel
theorem dX1_letDrink_117 : decode cX1_letDrink 117 = .ok (.iload 7, 2) := by decide +kernel
theorem dX1_letDrink_119 : decode cX1_letDrink 119 = .ok (.isub, 1) := by decide +kernel
theorem dX1_letDrink_120 : decode cX1_letDrink 120 = .ok (.putfield 148, 3) := by decide +kernel
theorem dX1_letDrink_123 : decode cX1_letDrink 123 = .ok (.iload 4, 2) := by decide +kernel
theorem dX1_letDrink_125 : decode cX1_letDrink 125 = .ok (.iload 7, 2) := by decide +kernel
theorem dX1_letDrink_127 : decode cX1_letDrink 127 = .ok (.isub, 1) := by decide +kernel
theorem dX1_letDrink_128 : decode cX1_letDrink 128 = .ok (.istore 4, 2) := by decide +kernel
theorem dX1_letDrink_130 : decode cX1_letDrink 130 = .ok (.iinc 5 1, 3) := by decide +kernel
theorem dX1_letDrink_133 : decode cX1_letDrink 133 = .ok (.goto (-72), 3) := by decide +kernel
theorem dX1_letDrink_136 : decode cX1_letDrink 136 = .ok (.iload 4, 2) := by decide +kernel
theorem dX1_letDrink_138 : decode cX1_letDrink 138 = .ok (.ifCond .le 35, 3) := by decide +kernel
theorem dX1_letDrink_141 : decode cX1_letDrink 141 = .ok (.aload_n 0, 1) := by decide +kernel
theorem dX1_letDrink_142 : decode cX1_letDrink 142 = .ok (.aload_n 1, 1) := by decide +kernel
theorem dX1_letDrink_143 : decode cX1_letDrink 143 = .ok (.getfield 204, 3) := by decide +kernel
theorem dX1_letDrink_146 : decode cX1_letDrink 146 = .ok (.invokevirtual 213, 3) := by decide +kernel
theorem dX1_letDrink_149 : decode cX1_letDrink 149 = .ok (.astore 5, 2) := by decide +kernel
theorem dX1_letDrink_151 : decode cX1_letDrink 151 = .ok (.aload 5, 2) := by decide +kernel
theorem dX1_letDrink_153 : decode cX1_letDrink 153 = .ok (.ifnull 14, 3) := by decide +kernel
theorem dX1_letDrink_156 : decode cX1_letDrink 156 = .ok (.aload 5, 2) := by decide +kernel
theorem dX1_letDrink_158 : decode cX1_letDrink 158 = .ok (.dup, 1) := by decide +kernel
theorem dX1_letDrink_159 : decode cX1_letDrink 159 = .ok (.getfield 148, 3) := by decide +kernel
theorem dX1_letDrink_162 : decode cX1_letDrink 162 = .ok (.iconst 1, 1) := by decide +kernel
theorem dX1_letDrink_163 : decode cX1_letDrink 163 = .ok (.isub, 1) := by decide +kernel
theorem dX1_letDrink_164 : decode cX1_letDrink 164 = .ok (.putfield 148, 3) := by decide +kernel
theorem dX1_letDrink_167 : decode cX1_letDrink 167 = .ok (.iinc 4 (-1), 3) := by decide +kernel
theorem dX1_letDrink_170 : decode cX1_letDrink 170 = .ok (.goto (-34), 3) := by decide +kernel
theorem dX1_letDrink_173 : decode cX1_letDrink 173 = .ok (.aload_n 1, 1) := by decide +kernel
theorem dX1_letDrink_174 : decode cX1_letDrink 174 = .ok (.dup, 1) := by decide +kernel
theorem dX1_letDrink_175 : decode cX1_letDrink 175 = .ok (.getfield 217, 3) := by decide +kernel
theorem dX1_letDrink_178 : decode cX1_letDrink 178 = .ok (.aload_n 1, 1) := by decide +kernel
theorem dX1_letDrink_179 : decode cX1_letDrink 179 = .ok (.getfield 210, 3) := by decide +kernel
theorem dX1_letDrink_182 : decode cX1_letDrink 182 = .ok (.iload_n 3, 1) := by decide +kernel
theorem dX1_letDrink_183 : decode cX1_letDrink 183 = .ok (.isub, 1) := by decide +kernel
theorem dX1_letDrink_184 : decode cX1_letDrink 184 = .ok (.i2l, 1) := by decide +kernel
theorem dX1_letDrink_185 : decode cX1_letDrink 185 = .ok (.ladd, 1) := by decide +kernel
theorem dX1_letDrink_186 : decode cX1_letDrink 186 = .ok (.putfield 217, 3) := by decide +kernel
theorem dX1_letDrink_189 : decode cX1_letDrink 189 = .ok (.aload_n 0, 1) := by decide +kernel
theorem dX1_letDrink_190 : decode cX1_letDrink 190 = .ok (.getfield 24, 3) := by decide +kernel
theorem dX1_letDrink_193 : decode cX1_letDrink 193 = .ok (.dup, 1) := by decide +kernel
theorem dX1_letDrink_194 : decode cX1_letDrink 194 = .ok (.getfield 220, 3) := by decide +kernel
theorem dX1_letDrink_197 : decode cX1_letDrink 197 = .ok (.iload_n 3, 1) := by decide +kernel
theorem dX1_letDrink_198 : decode cX1_letDrink 198 = .ok (.i2l, 1) := by decide +kernel
theorem dX1_letDrink_199 : decode cX1_letDrink 199 = .ok (.ladd, 1) := by decide +kernel
theorem dX1_letDrink_200 : decode cX1_letDrink 200 = .ok (.putfield 220, 3) := by decide +kernel
theorem dX1_letDrink_203 : decode cX1_letDrink 203 = .ok (.return_, 1) := by decide +kernel
theorem dX1_wettest_0 : decode cX1_wettest 0 = .ok (.aconst_null, 1) := by decide +kernel
theorem dX1_wettest_1 : decode cX1_wettest 1 = .ok (.astore_n 2, 1) := by decide +kernel
theorem dX1_wettest_2 : decode cX1_wettest 2 = .ok (.iconst 0, 1) := by decide +kernel
theorem dX1_wettest_3 : decode cX1_wettest 3 = .ok (.istore_n 3, 1) := by decide +kernel
theorem dX1_wettest_4 : decode cX1_wettest 4 = .ok (.iload_n 3, 1) := by decide +kernel
theorem dX1_wettest_5 : decode cX1_wettest 5 = .ok (.aload_n 0, 1) := by decide +kernel
theorem dX1_wettest_6 : decode cX1_wettest 6 = .ok (.getfield 12, 3) := by decide +kernel
theorem dX1_wettest_9 : decode cX1_wettest 9 = .ok (.invokevirtual 62, 3) := by decide +kernel
theorem dX1_wettest_12 : decode cX1_wettest 12 = .ok (.if_icmp .ge 54, 3) := by decide +kernel
theorem dX1_wettest_15 : decode cX1_wettest 15 = .ok (.iload_n 3, 1) := by decide +kernel
theorem dX1_wettest_16 : decode cX1_wettest 16 = .ok (.iload_n 1, 1) := by decide +kernel
theorem dX1_wettest_17 : decode cX1_wettest 17 = .ok (.if_icmp .ge 49, 3) := by decide +kernel
theorem dX1_wettest_20 : decode cX1_wettest 20 = .ok (.aload_n 0, 1) := by decide +kernel
theorem dX1_wettest_21 : decode cX1_wettest 21 = .ok (.getfield 12, 3) := by decide +kernel
theorem dX1_wettest_24 : decode cX1_wettest 24 = .ok (.iload_n 3, 1) := by decide +kernel
theorem dX1_wettest_25 : decode cX1_wettest 25 = .ok (.invokevirtual 66, 3) := by decide +kernel
theorem dX1_wettest_28 : decode cX1_wettest 28 = .ok (.checkcast 70, 3) := by decide +kernel
theorem dX1_wettest_31 : decode cX1_wettest 31 = .ok (.astore 4, 2) := by decide +kernel
theorem dX1_wettest_33 : decode cX1_wettest 33 = .ok (.aload 4, 2) := by decide +kernel
theorem dX1_wettest_35 : decode cX1_wettest 35 = .ok (.invokevirtual 207, 3) := by decide +kernel
theorem dX1_wettest_38 : decode cX1_wettest 38 = .ok (.ifCond .le 22, 3) := by decide +kernel
theorem dX1_wettest_41 : decode cX1_wettest 41 = .ok (.aload_n 2, 1) := by decide +kernel
theorem dX1_wettest_42 : decode cX1_wettest 42 = .ok (.ifnull 15, 3) := by decide +kernel
theorem dX1_wettest_45 : decode cX1_wettest 45 = .ok (.aload 4, 2) := by decide +kernel
theorem dX1_wettest_47 : decode cX1_wettest 47 = .ok (.invokevirtual 207, 3) := by decide +kernel
theorem dX1_wettest_50 : decode cX1_wettest 50 = .ok (.aload_n 2, 1) := by decide +kernel
theorem dX1_wettest_51 : decode cX1_wettest 51 = .ok (.invokevirtual 207, 3) := by decide +kernel
theorem dX1_wettest_54 : decode cX1_wettest 54 = .ok (.if_icmp .le 6, 3) := by decide +kernel
theorem dX1_wettest_57 : decode cX1_wettest 57 = .ok (.aload 4, 2) := by decide +kernel
theorem dX1_wettest_59 : decode cX1_wettest 59 = .ok (.astore_n 2, 1) := by decide +kernel
theorem dX1_wettest_60 : decode cX1_wettest 60 = .ok (.iinc 3 1, 3) := by decide +kernel
theorem dX1_wettest_63 : decode cX1_wettest 63 = .ok (.goto (-59), 3) := by decide +kernel
theorem dX1_wettest_66 : decode cX1_wettest 66 = .ok (.aload_n 2, 1) := by decide +kernel
theorem dX1_wettest_67 : decode cX1_wettest 67 = .ok (.areturn, 1) := by decide +kernel
theorem dX1_letWaterDry_0 : decode cX1_letWaterDry 0 = .ok (.iload_n 1, 1) := by decide +kernel
theorem dX1_letWaterDry_1 : decode cX1_letWaterDry 1 = .ok (.aload_n 0, 1) := by decide +kernel
theorem dX1_letWaterDry_2 : decode cX1_letWaterDry 2 = .ok (.getfield 45, 3) := by decide +kernel
theorem dX1_letWaterDry_5 : decode cX1_letWaterDry 5 = .ok (.invokestatic 174, 3) := by decide +kernel
theorem dX1_letWaterDry_8 : decode cX1_letWaterDry 8 = .ok (.istore_n 2, 1) := by decide +kernel
theorem dX1_letWaterDry_9 : decode cX1_letWaterDry 9 = .ok (.aload_n 0, 1) := by decide +kernel
theorem dX1_letWaterDry_10 : decode cX1_letWaterDry 10 = .ok (.dup, 1) := by decide +kernel
theorem dX1_letWaterDry_11 : decode cX1_letWaterDry 11 = .ok (.getfield 45, 3) := by decide +kernel
theorem dX1_letWaterDry_14 : decode cX1_letWaterDry 14 = .ok (.iload_n 2, 1) := by decide +kernel
theorem dX1_letWaterDry_15 : decode cX1_letWaterDry 15 = .ok (.isub, 1) := by decide +kernel
theorem dX1_letWaterDry_16 : decode cX1_letWaterDry 16 = .ok (.putfield 45, 3) := by decide +kernel
theorem dX1_letWaterDry_19 : decode cX1_letWaterDry 19 = .ok (.aload_n 0, 1) := by decide +kernel
theorem dX1_letWaterDry_20 : decode cX1_letWaterDry 20 = .ok (.getfield 24, 3) := by decide +kernel
theorem dX1_letWaterDry_23 : decode cX1_letWaterDry 23 = .ok (.dup, 1) := by decide +kernel
theorem dX1_letWaterDry_24 : decode cX1_letWaterDry 24 = .ok (.getfield 220, 3) := by decide +kernel
theorem dX1_letWaterDry_27 : decode cX1_letWaterDry 27 = .ok (.iload_n 2, 1) := by decide +kernel
theorem dX1_letWaterDry_28 : decode cX1_letWaterDry 28 = .ok (.i2l, 1) := by decide +kernel
theorem dX1_letWaterDry_29 : decode cX1_letWaterDry 29 = .ok (.ladd, 1) := by decide +kernel
theorem dX1_letWaterDry_30 : decode cX1_letWaterDry 30 = .ok (.putfield 220, 3) := by decide +kernel
theorem dX1_letWaterDry_33 : decode cX1_letWaterDry 33 = .ok (.aload_n 0, 1) := by decide +kernel
theorem dX1_letWaterDry_34 : decode cX1_letWaterDry 34 = .ok (.invokevirtual 119, 3) := by decide +kernel
theorem dX1_letWaterDry_37 : decode cX1_letWaterDry 37 = .ok (.astore_n 3, 1) := by decide +kernel
theorem dX1_letWaterDry_38 : decode cX1_letWaterDry 38 = .ok (.aload_n 3, 1) := by decide +kernel
theorem dX1_letWaterDry_39 : decode cX1_letWaterDry 39 = .ok (.ifnull 41, 3) := by decide +kernel
theorem dX1_letWaterDry_42 : decode cX1_letWaterDry 42 = .ok (.iload_n 1, 1) := by decide +kernel
theorem dX1_letWaterDry_43 : decode cX1_letWaterDry 43 = .ok (.iload_n 2, 1) := by decide +kernel
theorem dX1_letWaterDry_44 : decode cX1_letWaterDry 44 = .ok (.isub, 1) := by decide +kernel
theorem dX1_letWaterDry_45 : decode cX1_letWaterDry 45 = .ok (.aload_n 3, 1) := by decide +kernel
theorem dX1_letWaterDry_46 : decode cX1_letWaterDry 46 = .ok (.invokevirtual 223, 3) := by decide +kernel
theorem dX1_letWaterDry_49 : decode cX1_letWaterDry 49 = .ok (.invokestatic 174, 3) := by decide +kernel
theorem dX1_letWaterDry_52 : decode cX1_letWaterDry 52 = .ok (.istore 4, 2) := by decide +kernel
theorem dX1_letWaterDry_54 : decode cX1_letWaterDry 54 = .ok (.aload_n 3, 1) := by decide +kernel
theorem dX1_letWaterDry_55 : decode cX1_letWaterDry 55 = .ok (.dup, 1) := by decide +kernel
theorem dX1_letWaterDry_56 : decode cX1_letWaterDry 56 = .ok (.getfield 148, 3) := by decide +kernel
theorem dX1_letWaterDry_59 : decode cX1_letWaterDry 59 = .ok (.iload 4, 2) := by decide +kernel
theorem dX1_letWaterDry_61 : decode cX1_letWaterDry 61 = .ok (.isub, 1) := by decide +kernel
theorem dX1_letWaterDry_62 : decode cX1_letWaterDry 62 = .ok (.putfield 148, 3) := by decide +kernel
theorem dX1_letWaterDry_65 : decode cX1_letWaterDry 65 = .ok (.aload_n 0, 1) := by decide +kernel
theorem dX1_letWaterDry_66 : decode cX1_letWaterDry 66 = .ok (.getfield 24, 3) := by decide +kernel
theorem dX1_letWaterDry_69 : decode cX1_letWaterDry 69 = .ok (.dup, 1) := by decide +kernel
theorem dX1_letWaterDry_70 : decode cX1_letWaterDry 70 = .ok (.getfield 220, 3) := by decide +kernel
theorem dX1_letWaterDry_73 : decode cX1_letWaterDry 73 = .ok (.iload 4, 2) := by decide +kernel
theorem dX1_letWaterDry_75 : decode cX1_letWaterDry 75 = .ok (.i2l, 1) := by decide +kernel
theorem dX1_letWaterDry_76 : decode cX1_letWaterDry 76 = .ok (.ladd, 1) := by decide +kernel
theorem dX1_letWaterDry_77 : decode cX1_letWaterDry 77 = .ok (.putfield 220, 3) := by decide +kernel
theorem dX1_letWaterDry_80 : decode cX1_letWaterDry 80 = .ok (.return_, 1) := by decide +kernel
theorem dX1_makeNitrate_0 : decode cX1_makeNitrate 0 = .ok (.aload_n 0, 1) := by decide +kernel
theorem dX1_makeNitrate_1 : decode cX1_makeNitrate 1 = .ok (.invokevirtual 119, 3) := by decide +kernel
theorem dX1_makeNitrate_4 : decode cX1_makeNitrate 4 = .ok (.astore_n 2, 1) := by decide +kernel
theorem dX1_makeNitrate_5 : decode cX1_makeNitrate 5 = .ok (.aload_n 2, 1) := by decide +kernel
theorem dX1_makeNitrate_6 : decode cX1_makeNitrate 6 = .ok (.ifnull 14, 3) := by decide +kernel
theorem dX1_makeNitrate_9 : decode cX1_makeNitrate 9 = .ok (.aload_n 2, 1) := by decide +kernel
theorem dX1_makeNitrate_10 : decode cX1_makeNitrate 10 = .ok (.getfield 116, 3) := by decide +kernel
theorem dX1_makeNitrate_13 : decode cX1_makeNitrate 13 = .ok (.ifCond .ne 7, 3) := by decide +kernel
theorem dX1_makeNitrate_16 : decode cX1_makeNitrate 16 = .ok (.iload_n 1, 1) := by decide +kernel
theorem dX1_makeNitrate_17 : decode cX1_makeNitrate 17 = .ok (.ifCond .gt 4, 3) := by decide +kernel
theorem dX1_makeNitrate_20 : decode cX1_makeNitrate 20 = .ok (.return_, 1) := by decide +kernel
theorem dX1_makeNitrate_21 : decode cX1_makeNitrate 21 = .ok (.aload_n 0, 1) := by decide +kernel
theorem dX1_makeNitrate_22 : decode cX1_makeNitrate 22 = .ok (.getfield 52, 3) := by decide +kernel
theorem dX1_makeNitrate_25 : decode cX1_makeNitrate 25 = .ok (.iload_n 1, 1) := by decide +kernel
theorem dX1_makeNitrate_26 : decode cX1_makeNitrate 26 = .ok (.i2l, 1) := by decide +kernel
theorem dX1_makeNitrate_27 : decode cX1_makeNitrate 27 = .ok (.lmul, 1) := by decide +kernel
theorem dX1_makeNitrate_28 : decode cX1_makeNitrate 28 = .ok (.ldc2_w 226, 3) := by decide +kernel
theorem dX1_makeNitrate_31 : decode cX1_makeNitrate 31 = .ok (.ldiv, 1) := by decide +kernel
theorem dX1_makeNitrate_32 : decode cX1_makeNitrate 32 = .ok (.lstore_n 3, 1) := by decide +kernel
theorem dX1_makeNitrate_33 : decode cX1_makeNitrate 33 = .ok (.aload_n 0, 1) := by decide +kernel
theorem dX1_makeNitrate_34 : decode cX1_makeNitrate 34 = .ok (.dup, 1) := by decide +kernel
theorem dX1_makeNitrate_35 : decode cX1_makeNitrate 35 = .ok (.getfield 52, 3) := by decide +kernel
theorem dX1_makeNitrate_38 : decode cX1_makeNitrate 38 = .ok (.lload_n 3, 1) := by decide +kernel
theorem dX1_makeNitrate_39 : decode cX1_makeNitrate 39 = .ok (.lsub, 1) := by decide +kernel
theorem dX1_makeNitrate_40 : decode cX1_makeNitrate 40 = .ok (.putfield 52, 3) := by decide +kernel
theorem dX1_makeNitrate_43 : decode cX1_makeNitrate 43 = .ok (.aload_n 2, 1) := by decide +kernel
theorem dX1_makeNitrate_44 : decode cX1_makeNitrate 44 = .ok (.getfield 187, 3) := by decide +kernel
theorem dX1_makeNitrate_47 : decode cX1_makeNitrate 47 = .ok (.iconst 0, 1) := by decide +kernel
theorem dX1_makeNitrate_48 : decode cX1_makeNitrate 48 = .ok (.lload_n 3, 1) := by decide +kernel
theorem dX1_makeNitrate_49 : decode cX1_makeNitrate 49 = .ok (.invokevirtual 228, 3) := by decide +kernel
theorem dX1_makeNitrate_52 : decode cX1_makeNitrate 52 = .ok (.aload_n 0, 1) := by decide +kernel
theorem dX1_makeNitrate_53 : decode cX1_makeNitrate 53 = .ok (.getfield 24, 3) := by decide +kernel
theorem dX1_makeNitrate_56 : decode cX1_makeNitrate 56 = .ok (.getfield 234, 3) := by decide +kernel
theorem dX1_makeNitrate_59 : decode cX1_makeNitrate 59 = .ok (.iconst 0, 1) := by decide +kernel
theorem dX1_makeNitrate_60 : decode cX1_makeNitrate 60 = .ok (.lload_n 3, 1) := by decide +kernel
theorem dX1_makeNitrate_61 : decode cX1_makeNitrate 61 = .ok (.invokevirtual 228, 3) := by decide +kernel
theorem dX1_makeNitrate_64 : decode cX1_makeNitrate 64 = .ok (.return_, 1) := by decide +kernel
theorem dX1_eatNitrate_0 : decode cX1_eatNitrate 0 = .ok (.iload_n 1, 1) := by decide +kernel
theorem dX1_eatNitrate_1 : decode cX1_eatNitrate 1 = .ok (.iconst 5, 1) := by decide +kernel
theorem dX1_eatNitrate_2 : decode cX1_eatNitrate 2 = .ok (.if_icmp .gt 4, 3) := by decide +kernel
theorem dX1_eatNitrate_5 : decode cX1_eatNitrate 5 = .ok (.return_, 1) := by decide +kernel
theorem dX1_eatNitrate_6 : decode cX1_eatNitrate 6 = .ok (.iconst 0, 1) := by decide +kernel
theorem dX1_eatNitrate_7 : decode cX1_eatNitrate 7 = .ok (.istore_n 2, 1) := by decide +kernel
theorem dX1_eatNitrate_8 : decode cX1_eatNitrate 8 = .ok (.iload_n 2, 1) := by decide +kernel
theorem dX1_eatNitrate_9 : decode cX1_eatNitrate 9 = .ok (.aload_n 0, 1) := by decide +kernel
theorem dX1_eatNitrate_10 : decode cX1_eatNitrate 10 = .ok (.getfield 12, 3) := by decide +kernel
theorem dX1_eatNitrate_13 : decode cX1_eatNitrate 13 = .ok (.invokevirtual 62, 3) := by decide +kernel
theorem dX1_eatNitrate_16 : decode cX1_eatNitrate 16 = .ok (.if_icmp .ge 87, 3) := by decide +kernel
theorem dX1_eatNitrate_19 : decode cX1_eatNitrate 19 = .ok (.aload_n 0, 1) := by decide +kernel
theorem dX1_eatNitrate_20 : decode cX1_eatNitrate 20 = .ok (.getfield 12, 3) := by decide +kernel
theorem dX1_eatNitrate_23 : decode cX1_eatNitrate 23 = .ok (.iload_n 2, 1) := by decide +kernel
theorem dX1_eatNitrate_24 : decode cX1_eatNitrate 24 = .ok (.invokevirtual 66, 3) := by decide +kernel
theorem dX1_eatNitrate_27 : decode cX1_eatNitrate 27 = .ok (.checkcast 70, 3) := by decide +kernel
theorem dX1_eatNitrate_30 : decode cX1_eatNitrate 30 = .ok (.astore_n 3, 1) := by decide +kernel
theorem dX1_eatNitrate_31 : decode cX1_eatNitrate 31 = .ok (.aload_n 3, 1) := by decide +kernel
theorem dX1_eatNitrate_32 : decode cX1_eatNitrate 32 = .ok (.getfield 116, 3) := by decide +kernel
theorem dX1_eatNitrate_35 : decode cX1_eatNitrate 35 = .ok (.ifCond .ne 62, 3) := by decide +kernel
theorem dX1_eatNitrate_38 : decode cX1_eatNitrate 38 = .ok (.aload_n 3, 1) := by decide +kernel
theorem dX1_eatNitrate_39 : decode cX1_eatNitrate 39 = .ok (.getfield 148, 3) := by decide +kernel
theorem dX1_eatNitrate_42 : decode cX1_eatNitrate 42 = .ok (.aload_n 3, 1) := by decide +kernel
theorem dX1_eatNitrate_43 : decode cX1_eatNitrate 43 = .ok (.getfield 237, 3) := by decide +kernel
theorem dX1_eatNitrate_46 : decode cX1_eatNitrate 46 = .ok (.bipush 9, 2) := by decide +kernel
theorem dX1_eatNitrate_48 : decode cX1_eatNitrate 48 = .ok (.imul, 1) := by decide +kernel
theorem dX1_eatNitrate_49 : decode cX1_eatNitrate 49 = .ok (.bipush 10, 2) := by decide +kernel
theorem dX1_eatNitrate_51 : decode cX1_eatNitrate 51 = .ok (.idiv, 1) := by decide +kernel
theorem dX1_eatNitrate_52 : decode cX1_eatNitrate 52 = .ok (.if_icmp .lt 45, 3) := by decide +kernel
theorem dX1_eatNitrate_55 : decode cX1_eatNitrate 55 = .ok (.aload_n 3, 1) := by decide +kernel
theorem dX1_eatNitrate_56 : decode cX1_eatNitrate 56 = .ok (.getfield 187, 3) := by decide +kernel
theorem dX1_eatNitrate_59 : decode cX1_eatNitrate 59 = .ok (.iconst 0, 1) := by decide +kernel
theorem dX1_eatNitrate_60 : decode cX1_eatNitrate 60 = .ok (.invokevirtual 240, 3) := by decide +kernel
theorem dX1_eatNitrate_63 : decode cX1_eatNitrate 63 = .ok (.iload_n 1, 1) := by decide +kernel
theorem dX1_eatNitrate_64 : decode cX1_eatNitrate 64 = .ok (.i2l, 1) := by decide +kernel
theorem dX1_eatNitrate_65 : decode cX1_eatNitrate 65 = .ok (.lmul, 1) := by decide +kernel
theorem dX1_eatNitrate_66 : decode cX1_eatNitrate 66 = .ok (.ldc2_w 243, 3) := by decide +kernel
theorem dX1_eatNitrate_69 : decode cX1_eatNitrate 69 = .ok (.ldiv, 1) := by decide +kernel
theorem dX1_eatNitrate_70 : decode cX1_eatNitrate 70 = .ok (.lstore 4, 2) := by decide +kernel
theorem dX1_eatNitrate_72 : decode cX1_eatNitrate 72 = .ok (.aload_n 3, 1) := by decide +kernel
theorem dX1_eatNitrate_73 : decode cX1_eatNitrate 73 = .ok (.getfield 187, 3) := by decide +kernel
theorem dX1_eatNitrate_76 : decode cX1_eatNitrate 76 = .ok (.iconst 0, 1) := by decide +kernel
theorem dX1_eatNitrate_77 : decode cX1_eatNitrate 77 = .ok (.lload 4, 2) := by decide +kernel
theorem dX1_eatNitrate_79 : decode cX1_eatNitrate 79 = .ok (.lneg, 1) := by decide +kernel
theorem dX1_eatNitrate_80 : decode cX1_eatNitrate 80 = .ok (.invokevirtual 228, 3) := by decide +kernel
theorem dX1_eatNitrate_83 : decode cX1_eatNitrate 83 = .ok (.aload_n 0, 1) := by decide +kernel
theorem dX1_eatNitrate_84 : decode cX1_eatNitrate 84 = .ok (.getfield 24, 3) := by decide +kernel
theorem dX1_eatNitrate_87 : decode cX1_eatNitrate 87 = .ok (.dup, 1) := by decide +kernel
theorem dX1_eatNitrate_88 : decode cX1_eatNitrate 88 = .ok (.getfield 245, 3) := by decide +kernel
theorem dX1_eatNitrate_91 : decode cX1_eatNitrate 91 = .ok (.lload 4, 2) := by decide +kernel
theorem dX1_eatNitrate_93 : decode cX1_eatNitrate 93 = .ok (.ladd, 1) := by decide +kernel
theorem dX1_eatNitrate_94 : decode cX1_eatNitrate 94 = .ok (.putfield 245, 3) := by decide +kernel
theorem dX1_eatNitrate_97 : decode cX1_eatNitrate 97 = .ok (.iinc 2 1, 3) := by decide +kernel
theorem dX1_eatNitrate_100 : decode cX1_eatNitrate 100 = .ok (.goto (-92), 3) := by decide +kernel
theorem dX1_eatNitrate_103 : decode cX1_eatNitrate 103 = .ok (.return_, 1) := by decide +kernel
theorem dX1_waterOfLayers_0 : decode cX1_waterOfLayers 0 = .ok (.iconst 0, 1) := by decide +kernel
theorem dX1_waterOfLayers_1 : decode cX1_waterOfLayers 1 = .ok (.istore_n 1, 1) := by decide +kernel
theorem dX1_waterOfLayers_2 : decode cX1_waterOfLayers 2 = .ok (.iconst 0, 1) := by decide +kernel
theorem dX1_waterOfLayers_3 : decode cX1_waterOfLayers 3 = .ok (.istore_n 2, 1) := by decide +kernel
theorem dX1_waterOfLayers_4 : decode cX1_waterOfLayers 4 = .ok (.iload_n 2, 1) := by decide +kernel
theorem dX1_waterOfLayers_5 : decode cX1_waterOfLayers 5 = .ok (.aload_n 0, 1) := by decide +kernel
theorem dX1_waterOfLayers_6 : decode cX1_waterOfLayers 6 = .ok (.getfield 12, 3) := by decide +kernel
theorem dX1_waterOfLayers_9 : decode cX1_waterOfLayers 9 = .ok (.invokevirtual 62, 3) := by decide +kernel
theorem dX1_waterOfLayers_12 : decode cX1_waterOfLayers 12 = .ok (.if_icmp .ge 26, 3) := by decide +kernel
theorem dX1_waterOfLayers_15 : decode cX1_waterOfLayers 15 = .ok (.iload_n 1, 1) := by decide +kernel
theorem dX1_waterOfLayers_16 : decode cX1_waterOfLayers 16 = .ok (.aload_n 0, 1) := by decide +kernel
theorem dX1_waterOfLayers_17 : decode cX1_waterOfLayers 17 = .ok (.getfield 12, 3) := by decide +kernel
theorem dX1_waterOfLayers_20 : decode cX1_waterOfLayers 20 = .ok (.iload_n 2, 1) := by decide +kernel
theorem dX1_waterOfLayers_21 : decode cX1_waterOfLayers 21 = .ok (.invokevirtual 66, 3) := by decide +kernel
theorem dX1_waterOfLayers_24 : decode cX1_waterOfLayers 24 = .ok (.checkcast 70, 3) := by decide +kernel
theorem dX1_waterOfLayers_27 : decode cX1_waterOfLayers 27 = .ok (.getfield 148, 3) := by decide +kernel
theorem dX1_waterOfLayers_30 : decode cX1_waterOfLayers 30 = .ok (.iadd, 1) := by decide +kernel
theorem dX1_waterOfLayers_31 : decode cX1_waterOfLayers 31 = .ok (.istore_n 1, 1) := by decide +kernel
theorem dX1_waterOfLayers_32 : decode cX1_waterOfLayers 32 = .ok (.iinc 2 1, 3) := by decide +kernel
theorem dX1_waterOfLayers_35 : decode cX1_waterOfLayers 35 = .ok (.goto (-31), 3) := by decide +kernel
theorem dX1_waterOfLayers_38 : decode cX1_waterOfLayers 38 = .ok (.iload_n 1, 1) := by decide +kernel
theorem dX1_waterOfLayers_39 : decode cX1_waterOfLayers 39 = .ok (.ireturn, 1) := by decide +kernel
theorem dX1_frozenWater_0 : decode cX1_frozenWater 0 = .ok (.iconst 0, 1) := by decide +kernel
theorem dX1_frozenWater_1 : decode cX1_frozenWater 1 = .ok (.istore_n 1, 1) := by decide +kernel
theorem dX1_frozenWater_2 : decode cX1_frozenWater 2 = .ok (.iconst 0, 1) := by decide +kernel
theorem dX1_frozenWater_3 : decode cX1_frozenWater 3 = .ok (.istore_n 2, 1) := by decide +kernel
theorem dX1_frozenWater_4 : decode cX1_frozenWater 4 = .ok (.iload_n 2, 1) := by decide +kernel
theorem dX1_frozenWater_5 : decode cX1_frozenWater 5 = .ok (.aload_n 0, 1) := by decide +kernel
theorem dX1_frozenWater_6 : decode cX1_frozenWater 6 = .ok (.getfield 12, 3) := by decide +kernel
theorem dX1_frozenWater_9 : decode cX1_frozenWater 9 = .ok (.invokevirtual 62, 3) := by decide +kernel
theorem dX1_frozenWater_12 : decode cX1_frozenWater 12 = .ok (.if_icmp .ge 39, 3) := by decide +kernel
theorem dX1_frozenWater_15 : decode cX1_frozenWater 15 = .ok (.aload_n 0, 1) := by decide +kernel
theorem dX1_frozenWater_16 : decode cX1_frozenWater 16 = .ok (.getfield 12, 3) := by decide +kernel
theorem dX1_frozenWater_19 : decode cX1_frozenWater 19 = .ok (.iload_n 2, 1) := by decide +kernel
theorem dX1_frozenWater_20 : decode cX1_frozenWater 20 = .ok (.invokevirtual 66, 3) := by decide +kernel
theorem dX1_frozenWater_23 : decode cX1_frozenWater 23 = .ok (.checkcast 70, 3) := by decide +kernel
theorem dX1_frozenWater_26 : decode cX1_frozenWater 26 = .ok (.astore_n 3, 1) := by decide +kernel
theorem dX1_frozenWater_27 : decode cX1_frozenWater 27 = .ok (.iload_n 1, 1) := by decide +kernel
theorem dX1_frozenWater_28 : decode cX1_frozenWater 28 = .ok (.aload_n 3, 1) := by decide +kernel
theorem dX1_frozenWater_29 : decode cX1_frozenWater 29 = .ok (.getfield 116, 3) := by decide +kernel
theorem dX1_frozenWater_32 : decode cX1_frozenWater 32 = .ok (.ifCond .eq 10, 3) := by decide +kernel
theorem dX1_frozenWater_35 : decode cX1_frozenWater 35 = .ok (.aload_n 3, 1) := by decide +kernel
theorem dX1_frozenWater_36 : decode cX1_frozenWater 36 = .ok (.getfield 148, 3) := by decide +kernel
theorem dX1_frozenWater_39 : decode cX1_frozenWater 39 = .ok (.goto 4, 3) := by decide +kernel
theorem dX1_frozenWater_42 : decode cX1_frozenWater 42 = .ok (.iconst 0, 1) := by decide +kernel
theorem dX1_frozenWater_43 : decode cX1_frozenWater 43 = .ok (.iadd, 1) := by decide +kernel
theorem dX1_frozenWater_44 : decode cX1_frozenWater 44 = .ok (.istore_n 1, 1) := by decide +kernel
theorem dX1_frozenWater_45 : decode cX1_frozenWater 45 = .ok (.iinc 2 1, 3) := by decide +kernel
theorem dX1_frozenWater_48 : decode cX1_frozenWater 48 = .ok (.goto (-44), 3) := by decide +kernel
theorem dX1_frozenWater_51 : decode cX1_frozenWater 51 = .ok (.iload_n 1, 1) := by decide +kernel
theorem dX1_frozenWater_52 : decode cX1_frozenWater 52 = .ok (.ireturn, 1) := by decide +kernel
theorem dX1_frozenLayers_0 : decode cX1_frozenLayers 0 = .ok (.iconst 0, 1) := by decide +kernel
theorem dX1_frozenLayers_1 : decode cX1_frozenLayers 1 = .ok (.istore_n 1, 1) := by decide +kernel
theorem dX1_frozenLayers_2 : decode cX1_frozenLayers 2 = .ok (.iconst 0, 1) := by decide +kernel
theorem dX1_frozenLayers_3 : decode cX1_frozenLayers 3 = .ok (.istore_n 2, 1) := by decide +kernel
theorem dX1_frozenLayers_4 : decode cX1_frozenLayers 4 = .ok (.iload_n 2, 1) := by decide +kernel
theorem dX1_frozenLayers_5 : decode cX1_frozenLayers 5 = .ok (.aload_n 0, 1) := by decide +kernel
theorem dX1_frozenLayers_6 : decode cX1_frozenLayers 6 = .ok (.getfield 12, 3) := by decide +kernel
theorem dX1_frozenLayers_9 : decode cX1_frozenLayers 9 = .ok (.invokevirtual 62, 3) := by decide +kernel
theorem dX1_frozenLayers_12 : decode cX1_frozenLayers 12 = .ok (.if_icmp .ge 34, 3) := by decide +kernel
theorem dX1_frozenLayers_15 : decode cX1_frozenLayers 15 = .ok (.iload_n 1, 1) := by decide +kernel
theorem dX1_frozenLayers_16 : decode cX1_frozenLayers 16 = .ok (.aload_n 0, 1) := by decide +kernel
theorem dX1_frozenLayers_17 : decode cX1_frozenLayers 17 = .ok (.getfield 12, 3) := by decide +kernel
theorem dX1_frozenLayers_20 : decode cX1_frozenLayers 20 = .ok (.iload_n 2, 1) := by decide +kernel
theorem dX1_frozenLayers_21 : decode cX1_frozenLayers 21 = .ok (.invokevirtual 66, 3) := by decide +kernel
theorem dX1_frozenLayers_24 : decode cX1_frozenLayers 24 = .ok (.checkcast 70, 3) := by decide +kernel
theorem dX1_frozenLayers_27 : decode cX1_frozenLayers 27 = .ok (.getfield 116, 3) := by decide +kernel
theorem dX1_frozenLayers_30 : decode cX1_frozenLayers 30 = .ok (.ifCond .eq 7, 3) := by decide +kernel
theorem dX1_frozenLayers_33 : decode cX1_frozenLayers 33 = .ok (.iconst 1, 1) := by decide +kernel
theorem dX1_frozenLayers_34 : decode cX1_frozenLayers 34 = .ok (.goto 4, 3) := by decide +kernel
theorem dX1_frozenLayers_37 : decode cX1_frozenLayers 37 = .ok (.iconst 0, 1) := by decide +kernel
theorem dX1_frozenLayers_38 : decode cX1_frozenLayers 38 = .ok (.iadd, 1) := by decide +kernel
theorem dX1_frozenLayers_39 : decode cX1_frozenLayers 39 = .ok (.istore_n 1, 1) := by decide +kernel
theorem dX1_frozenLayers_40 : decode cX1_frozenLayers 40 = .ok (.iinc 2 1, 3) := by decide +kernel
theorem dX1_frozenLayers_43 : decode cX1_frozenLayers 43 = .ok (.goto (-39), 3) := by decide +kernel
theorem dX1_frozenLayers_46 : decode cX1_frozenLayers 46 = .ok (.iload_n 1, 1) := by decide +kernel
theorem dX1_frozenLayers_47 : decode cX1_frozenLayers 47 = .ok (.ireturn, 1) := by decide +kernel
theorem dX1_missingWater_0 : decode cX1_missingWater 0 = .ok (.aload_n 0, 1) := by decide +kernel
theorem dX1_missingWater_1 : decode cX1_missingWater 1 = .ok (.getfield 24, 3) := by decide +kernel
theorem dX1_missingWater_4 : decode cX1_missingWater 4 = .ok (.astore_n 1, 1) := by decide +kernel
theorem dX1_missingWater_5 : decode cX1_missingWater 5 = .ok (.aload_n 1, 1) := by decide +kernel
theorem dX1_missingWater_6 : decode cX1_missingWater 6 = .ok (.getfield 248, 3) := by decide +kernel
theorem dX1_missingWater_9 : decode cX1_missingWater 9 = .ok (.aload_n 1, 1) := by decide +kernel
theorem dX1_missingWater_10 : decode cX1_missingWater 10 = .ok (.getfield 145, 3) := by decide +kernel
theorem dX1_missingWater_13 : decode cX1_missingWater 13 = .ok (.ladd, 1) := by decide +kernel
theorem dX1_missingWater_14 : decode cX1_missingWater 14 = .ok (.aload_n 1, 1) := by decide +kernel
theorem dX1_missingWater_15 : decode cX1_missingWater 15 = .ok (.getfield 151, 3) := by decide +kernel
theorem dX1_missingWater_18 : decode cX1_missingWater 18 = .ok (.ladd, 1) := by decide +kernel
theorem dX1_missingWater_19 : decode cX1_missingWater 19 = .ok (.lstore_n 2, 1) := by decide +kernel
theorem dX1_missingWater_20 : decode cX1_missingWater 20 = .ok (.aload_n 0, 1) := by decide +kernel
theorem dX1_missingWater_21 : decode cX1_missingWater 21 = .ok (.invokevirtual 251, 3) := by decide +kernel
theorem dX1_missingWater_24 : decode cX1_missingWater 24 = .ok (.aload_n 0, 1) := by decide +kernel
theorem dX1_missingWater_25 : decode cX1_missingWater 25 = .ok (.getfield 45, 3) := by decide +kernel
theorem dX1_missingWater_28 : decode cX1_missingWater 28 = .ok (.iadd, 1) := by decide +kernel
theorem dX1_missingWater_29 : decode cX1_missingWater 29 = .ok (.i2l, 1) := by decide +kernel
theorem dX1_missingWater_30 : decode cX1_missingWater 30 = .ok (.aload_n 0, 1) := by decide +kernel
theorem dX1_missingWater_31 : decode cX1_missingWater 31 = .ok (.getfield 48, 3) := by decide +kernel
theorem dX1_missingWater_34 : decode cX1_missingWater 34 = .ok (.ladd, 1) := by decide +kernel
theorem dX1_missingWater_35 : decode cX1_missingWater 35 = .ok (.lstore 4, 2) := by decide +kernel
theorem dX1_missingWater_37 : decode cX1_missingWater 37 = .ok (.aload_n 1, 1) := by decide +kernel
theorem dX1_missingWater_38 : decode cX1_missingWater 38 = .ok (.getfield 201, 3) := by decide +kernel
theorem dX1_missingWater_41 : decode cX1_missingWater 41 = .ok (.aload_n 1, 1) := by decide +kernel
theorem dX1_missingWater_42 : decode cX1_missingWater 42 = .ok (.getfield 254, 3) := by decide +kernel
theorem dX1_missingWater_45 : decode cX1_missingWater 45 = .ok (.ladd, 1) := by decide +kernel
theorem dX1_missingWater_46 : decode cX1_missingWater 46 = .ok (.aload_n 1, 1) := by decide +kernel
theorem dX1_missingWater_47 : decode cX1_missingWater 47 = .ok (.getfield 220, 3) := by decide +kernel
theorem dX1_missingWater_50 : decode cX1_missingWater 50 = .ok (.ladd, 1) := by decide +kernel
theorem dX1_missingWater_51 : decode cX1_missingWater 51 = .ok (.lstore 6, 2) := by decide +kernel
theorem dX1_missingWater_53 : decode cX1_missingWater 53 = .ok (.lload_n 2, 1) := by decide +kernel
theorem dX1_missingWater_54 : decode cX1_missingWater 54 = .ok (.lload 4, 2) := by decide +kernel
theorem dX1_missingWater_56 : decode cX1_missingWater 56 = .ok (.lsub, 1) := by decide +kernel
theorem dX1_missingWater_57 : decode cX1_missingWater 57 = .ok (.lload 6, 2) := by decide +kernel
theorem dX1_missingWater_59 : decode cX1_missingWater 59 = .ok (.lsub, 1) := by decide +kernel
theorem dX1_missingWater_60 : decode cX1_missingWater 60 = .ok (.lreturn, 1) := by decide +kernel
theorem dX1_layersHold_0 : decode cX1_layersHold 0 = .ok (.iconst 0, 1) := by decide +kernel
theorem dX1_layersHold_1 : decode cX1_layersHold 1 = .ok (.istore_n 1, 1) := by decide +kernel
theorem dX1_layersHold_2 : decode cX1_layersHold 2 = .ok (.iload_n 1, 1) := by decide +kernel
theorem dX1_layersHold_3 : decode cX1_layersHold 3 = .ok (.aload_n 0, 1) := by decide +kernel
theorem dX1_layersHold_4 : decode cX1_layersHold 4 = .ok (.getfield 12, 3) := by decide +kernel
theorem dX1_layersHold_7 : decode cX1_layersHold 7 = .ok (.invokevirtual 62, 3) := by decide +kernel
theorem dX1_layersHold_10 : decode cX1_layersHold 10 = .ok (.if_icmp .ge 37, 3) := by decide +kernel
theorem dX1_layersHold_13 : decode cX1_layersHold 13 = .ok (.aload_n 0, 1) := by decide +kernel
theorem dX1_layersHold_14 : decode cX1_layersHold 14 = .ok (.getfield 12, 3) := by decide +kernel
theorem dX1_layersHold_17 : decode cX1_layersHold 17 = .ok (.iload_n 1, 1) := by decide +kernel
theorem dX1_layersHold_18 : decode cX1_layersHold 18 = .ok (.invokevirtual 66, 3) := by decide +kernel
theorem dX1_layersHold_21 : decode cX1_layersHold 21 = .ok (.checkcast 70, 3) := by decide +kernel
theorem dX1_layersHold_24 : decode cX1_layersHold 24 = .ok (.astore_n 2, 1) := by decide +kernel
theorem dX1_layersHold_25 : decode cX1_layersHold 25 = .ok (.aload_n 2, 1) := by decide +kernel
theorem dX1_layersHold_26 : decode cX1_layersHold 26 = .ok (.getfield 148, 3) := by decide +kernel
theorem dX1_layersHold_29 : decode cX1_layersHold 29 = .ok (.ifCond .lt 10, 3) := by decide +kernel
theorem dX1_layersHold_32 : decode cX1_layersHold 32 = .ok (.aload_n 2, 1) := by decide +kernel
theorem dX1_layersHold_33 : decode cX1_layersHold 33 = .ok (.invokevirtual 195, 3) := by decide +kernel
theorem dX1_layersHold_36 : decode cX1_layersHold 36 = .ok (.ifCond .ge 5, 3) := by decide +kernel
theorem dX1_layersHold_39 : decode cX1_layersHold 39 = .ok (.iconst 0, 1) := by decide +kernel
theorem dX1_layersHold_40 : decode cX1_layersHold 40 = .ok (.ireturn, 1) := by decide +kernel
theorem dX1_layersHold_41 : decode cX1_layersHold 41 = .ok (.iinc 1 1, 3) := by decide +kernel
theorem dX1_layersHold_44 : decode cX1_layersHold 44 = .ok (.goto (-42), 3) := by decide +kernel
theorem dX1_layersHold_47 : decode cX1_layersHold 47 = .ok (.iconst 1, 1) := by decide +kernel
theorem dX1_layersHold_48 : decode cX1_layersHold 48 = .ok (.ireturn, 1) := by decide +kernel
theorem dX1_solutesHold_0 : decode cX1_solutesHold 0 = .ok (.iconst 0, 1) := by decide +kernel
theorem dX1_solutesHold_1 : decode cX1_solutesHold 1 = .ok (.istore_n 1, 1) := by decide +kernel
theorem dX1_solutesHold_2 : decode cX1_solutesHold 2 = .ok (.iload_n 1, 1) := by decide +kernel
theorem dX1_solutesHold_3 : decode cX1_solutesHold 3 = .ok (.iconst 3, 1) := by decide +kernel
theorem dX1_solutesHold_4 : decode cX1_solutesHold 4 = .ok (.if_icmp .ge 98, 3) := by decide +kernel
theorem dX1_solutesHold_7 : decode cX1_solutesHold 7 = .ok (.aload_n 0, 1) := by decide +kernel
theorem dX1_solutesHold_8 : decode cX1_solutesHold 8 = .ok (.getfield 24, 3) := by decide +kernel
theorem dX1_solutesHold_11 : decode cX1_solutesHold 11 = .ok (.getfield 198, 3) := by decide +kernel
theorem dX1_solutesHold_14 : decode cX1_solutesHold 14 = .ok (.iload_n 1, 1) := by decide +kernel
theorem dX1_solutesHold_15 : decode cX1_solutesHold 15 = .ok (.invokevirtual 240, 3) := by decide +kernel
theorem dX1_solutesHold_18 : decode cX1_solutesHold 18 = .ok (.iload_n 1, 1) := by decide +kernel
theorem dX1_solutesHold_19 : decode cX1_solutesHold 19 = .ok (.ifCond .ne 13, 3) := by decide +kernel
theorem dX1_solutesHold_22 : decode cX1_solutesHold 22 = .ok (.aload_n 0, 1) := by decide +kernel
theorem dX1_solutesHold_23 : decode cX1_solutesHold 23 = .ok (.getfield 24, 3) := by decide +kernel
theorem dX1_solutesHold_26 : decode cX1_solutesHold 26 = .ok (.getfield 245, 3) := by decide +kernel
theorem dX1_solutesHold_29 : decode cX1_solutesHold 29 = .ok (.goto 4, 3) := by decide +kernel
theorem dX1_solutesHold_32 : decode cX1_solutesHold 32 = .ok (.lconst 0, 1) := by decide +kernel
theorem dX1_solutesHold_33 : decode cX1_solutesHold 33 = .ok (.ladd, 1) := by decide +kernel
theorem dX1_solutesHold_34 : decode cX1_solutesHold 34 = .ok (.lstore_n 2, 1) := by decide +kernel
theorem dX1_solutesHold_35 : decode cX1_solutesHold 35 = .ok (.iconst 0, 1) := by decide +kernel
theorem dX1_solutesHold_36 : decode cX1_solutesHold 36 = .ok (.istore 4, 2) := by decide +kernel
theorem dX1_solutesHold_38 : decode cX1_solutesHold 38 = .ok (.iload 4, 2) := by decide +kernel
theorem dX1_solutesHold_40 : decode cX1_solutesHold 40 = .ok (.aload_n 0, 1) := by decide +kernel
theorem dX1_solutesHold_41 : decode cX1_solutesHold 41 = .ok (.getfield 12, 3) := by decide +kernel
theorem dX1_solutesHold_44 : decode cX1_solutesHold 44 = .ok (.invokevirtual 62, 3) := by decide +kernel
theorem dX1_solutesHold_47 : decode cX1_solutesHold 47 = .ok (.if_icmp .ge 31, 3) := by decide +kernel
theorem dX1_solutesHold_50 : decode cX1_solutesHold 50 = .ok (.lload_n 2, 1) := by decide +kernel
theorem dX1_solutesHold_51 : decode cX1_solutesHold 51 = .ok (.aload_n 0, 1) := by decide +kernel
theorem dX1_solutesHold_52 : decode cX1_solutesHold 52 = .ok (.getfield 12, 3) := by decide +kernel
theorem dX1_solutesHold_55 : decode cX1_solutesHold 55 = .ok (.iload 4, 2) := by decide +kernel
theorem dX1_solutesHold_57 : decode cX1_solutesHold 57 = .ok (.invokevirtual 66, 3) := by decide +kernel
theorem dX1_solutesHold_60 : decode cX1_solutesHold 60 = .ok (.checkcast 70, 3) := by decide +kernel
theorem dX1_solutesHold_63 : decode cX1_solutesHold 63 = .ok (.getfield 187, 3) := by decide +kernel
theorem dX1_solutesHold_66 : decode cX1_solutesHold 66 = .ok (.iload_n 1, 1) := by decide +kernel
theorem dX1_solutesHold_67 : decode cX1_solutesHold 67 = .ok (.invokevirtual 240, 3) := by decide +kernel
theorem dX1_solutesHold_70 : decode cX1_solutesHold 70 = .ok (.ladd, 1) := by decide +kernel
theorem dX1_solutesHold_71 : decode cX1_solutesHold 71 = .ok (.lstore_n 2, 1) := by decide +kernel
theorem dX1_solutesHold_72 : decode cX1_solutesHold 72 = .ok (.iinc 4 1, 3) := by decide +kernel
theorem dX1_solutesHold_75 : decode cX1_solutesHold 75 = .ok (.goto (-37), 3) := by decide +kernel
theorem dX1_solutesHold_78 : decode cX1_solutesHold 78 = .ok (.lload_n 2, 1) := by decide +kernel
theorem dX1_solutesHold_79 : decode cX1_solutesHold 79 = .ok (.aload_n 0, 1) := by decide +kernel
theorem dX1_solutesHold_80 : decode cX1_solutesHold 80 = .ok (.getfield 24, 3) := by decide +kernel
theorem dX1_solutesHold_83 : decode cX1_solutesHold 83 = .ok (.getfield 234, 3) := by decide +kernel
theorem dX1_solutesHold_86 : decode cX1_solutesHold 86 = .ok (.iload_n 1, 1) := by decide +kernel
theorem dX1_solutesHold_87 : decode cX1_solutesHold 87 = .ok (.invokevirtual 240, 3) := by decide +kernel
theorem dX1_solutesHold_90 : decode cX1_solutesHold 90 = .ok (.lcmp, 1) := by decide +kernel
theorem dX1_solutesHold_91 : decode cX1_solutesHold 91 = .ok (.ifCond .eq 5, 3) := by decide +kernel
theorem dX1_solutesHold_94 : decode cX1_solutesHold 94 = .ok (.iconst 0, 1) := by decide +kernel
theorem dX1_solutesHold_95 : decode cX1_solutesHold 95 = .ok (.ireturn, 1) := by decide +kernel
theorem dX1_solutesHold_96 : decode cX1_solutesHold 96 = .ok (.iinc 1 1, 3) := by decide +kernel
theorem dX1_solutesHold_99 : decode cX1_solutesHold 99 = .ok (.goto (-97), 3) := by decide +kernel
theorem dX1_solutesHold_102 : decode cX1_solutesHold 102 = .ok (.iconst 1, 1) := by decide +kernel
theorem dX1_solutesHold_103 : decode cX1_solutesHold 103 = .ok (.ireturn, 1) := by decide +kernel
theorem dX2_init_0 : decode cX2_init 0 = .ok (.aload_n 0, 1) := by decide +kernel
theorem dX2_init_1 : decode cX2_init 1 = .ok (.invokespecial 1, 3) := by decide +kernel
theorem dX2_init_4 : decode cX2_init 4 = .ok (.aload_n 0, 1) := by decide +kernel
theorem dX2_init_5 : decode cX2_init 5 = .ok (.new 7, 3) := by decide +kernel
theorem dX2_init_8 : decode cX2_init 8 = .ok (.dup, 1) := by decide +kernel
theorem dX2_init_9 : decode cX2_init 9 = .ok (.invokespecial 9, 3) := by decide +kernel
theorem dX2_init_12 : decode cX2_init 12 = .ok (.putfield 10, 3) := by decide +kernel
theorem dX2_init_15 : decode cX2_init 15 = .ok (.aload_n 0, 1) := by decide +kernel
theorem dX2_init_16 : decode cX2_init 16 = .ok (.iconst 0, 1) := by decide +kernel
theorem dX2_init_17 : decode cX2_init 17 = .ok (.putfield 16, 3) := by decide +kernel
theorem dX2_init_20 : decode cX2_init 20 = .ok (.aload_n 0, 1) := by decide +kernel
theorem dX2_init_21 : decode cX2_init 21 = .ok (.iconst 0, 1) := by decide +kernel
theorem dX2_init_22 : decode cX2_init 22 = .ok (.putfield 20, 3) := by decide +kernel
theorem dX2_init_25 : decode cX2_init 25 = .ok (.aload_n 0, 1) := by decide +kernel
theorem dX2_init_26 : decode cX2_init 26 = .ok (.aload_n 1, 1) := by decide +kernel
theorem dX2_init_27 : decode cX2_init 27 = .ok (.putfield 24, 3) := by decide +kernel
theorem dX2_init_30 : decode cX2_init 30 = .ok (.aload_n 0, 1) := by decide +kernel
theorem dX2_init_31 : decode cX2_init 31 = .ok (.iload_n 2, 1) := by decide +kernel
theorem dX2_init_32 : decode cX2_init 32 = .ok (.putfield 28, 3) := by decide +kernel
theorem dX2_init_35 : decode cX2_init 35 = .ok (.aload_n 0, 1) := by decide +kernel
theorem dX2_init_36 : decode cX2_init 36 = .ok (.iload_n 2, 1) := by decide +kernel
theorem dX2_init_37 : decode cX2_init 37 = .ok (.aload_n 1, 1) := by decide +kernel
theorem dX2_init_38 : decode cX2_init 38 = .ok (.getfield 31, 3) := by decide +kernel
theorem dX2_init_41 : decode cX2_init 41 = .ok (.imul, 1) := by decide +kernel
theorem dX2_init_42 : decode cX2_init 42 = .ok (.bipush 10, 2) := by decide +kernel
theorem dX2_init_44 : decode cX2_init 44 = .ok (.idiv, 1) := by decide +kernel
theorem dX2_init_45 : decode cX2_init 45 = .ok (.putfield 36, 3) := by decide +kernel
theorem dX2_init_48 : decode cX2_init 48 = .ok (.aload_n 0, 1) := by decide +kernel
theorem dX2_init_49 : decode cX2_init 49 = .ok (.iload_n 2, 1) := by decide +kernel
theorem dX2_init_50 : decode cX2_init 50 = .ok (.aload_n 1, 1) := by decide +kernel
theorem dX2_init_51 : decode cX2_init 51 = .ok (.getfield 37, 3) := by decide +kernel
theorem dX2_init_54 : decode cX2_init 54 = .ok (.imul, 1) := by decide +kernel
theorem dX2_init_55 : decode cX2_init 55 = .ok (.bipush 10, 2) := by decide +kernel
theorem dX2_init_57 : decode cX2_init 57 = .ok (.idiv, 1) := by decide +kernel
theorem dX2_init_58 : decode cX2_init 58 = .ok (.putfield 40, 3) := by decide +kernel
theorem dX2_init_61 : decode cX2_init 61 = .ok (.aload_n 0, 1) := by decide +kernel
theorem dX2_init_62 : decode cX2_init 62 = .ok (.iload_n 2, 1) := by decide +kernel
theorem dX2_init_63 : decode cX2_init 63 = .ok (.aload_n 1, 1) := by decide +kernel
theorem dX2_init_64 : decode cX2_init 64 = .ok (.getfield 41, 3) := by decide +kernel
theorem dX2_init_67 : decode cX2_init 67 = .ok (.imul, 1) := by decide +kernel
theorem dX2_init_68 : decode cX2_init 68 = .ok (.bipush 10, 2) := by decide +kernel
theorem dX2_init_70 : decode cX2_init 70 = .ok (.idiv, 1) := by decide +kernel
theorem dX2_init_71 : decode cX2_init 71 = .ok (.putfield 44, 3) := by decide +kernel
theorem dX2_init_74 : decode cX2_init 74 = .ok (.aload_n 0, 1) := by decide +kernel
theorem dX2_init_75 : decode cX2_init 75 = .ok (.aload_n 0, 1) := by decide +kernel
theorem dX2_init_76 : decode cX2_init 76 = .ok (.getfield 40, 3) := by decide +kernel
theorem dX2_init_79 : decode cX2_init 79 = .ok (.putfield 45, 3) := by decide +kernel
theorem dX2_init_82 : decode cX2_init 82 = .ok (.return_, 1) := by decide +kernel
theorem dX2_room_0 : decode cX2_room 0 = .ok (.aload_n 0, 1) := by decide +kernel
theorem dX2_room_1 : decode cX2_room 1 = .ok (.getfield 36, 3) := by decide +kernel
theorem dX2_room_4 : decode cX2_room 4 = .ok (.aload_n 0, 1) := by decide +kernel
theorem dX2_room_5 : decode cX2_room 5 = .ok (.getfield 45, 3) := by decide +kernel
theorem dX2_room_8 : decode cX2_room 8 = .ok (.isub, 1) := by decide +kernel
theorem dX2_room_9 : decode cX2_room 9 = .ok (.ireturn, 1) := by decide +kernel
theorem dX2_canReceive_0 : decode cX2_canReceive 0 = .ok (.aload_n 0, 1) := by decide +kernel
theorem dX2_canReceive_1 : decode cX2_canReceive 1 = .ok (.getfield 20, 3) := by decide +kernel
theorem dX2_canReceive_4 : decode cX2_canReceive 4 = .ok (.ifCond .eq 7, 3) := by decide +kernel
theorem dX2_canReceive_7 : decode cX2_canReceive 7 = .ok (.iconst 0, 1) := by decide +kernel
theorem dX2_canReceive_8 : decode cX2_canReceive 8 = .ok (.goto 12, 3) := by decide +kernel
theorem dX2_canReceive_11 : decode cX2_canReceive 11 = .ok (.aload_n 0, 1) := by decide +kernel
theorem dX2_canReceive_12 : decode cX2_canReceive 12 = .ok (.getfield 36, 3) := by decide +kernel
theorem dX2_canReceive_15 : decode cX2_canReceive 15 = .ok (.aload_n 0, 1) := by decide +kernel
theorem dX2_canReceive_16 : decode cX2_canReceive 16 = .ok (.getfield 45, 3) := by decide +kernel
theorem dX2_canReceive_19 : decode cX2_canReceive 19 = .ok (.isub, 1) := by decide +kernel
theorem dX2_canReceive_20 : decode cX2_canReceive 20 = .ok (.ireturn, 1) := by decide +kernel
theorem dX2_canFeedRoots_0 : decode cX2_canFeedRoots 0 = .ok (.aload_n 0, 1) := by decide +kernel
theorem dX2_canFeedRoots_1 : decode cX2_canFeedRoots 1 = .ok (.getfield 20, 3) := by decide +kernel
theorem dX2_canFeedRoots_4 : decode cX2_canFeedRoots 4 = .ok (.ifCond .eq 7, 3) := by decide +kernel
theorem dX2_canFeedRoots_7 : decode cX2_canFeedRoots 7 = .ok (.iconst 0, 1) := by decide +kernel
theorem dX2_canFeedRoots_8 : decode cX2_canFeedRoots 8 = .ok (.goto 16, 3) := by decide +kernel
theorem dX2_canFeedRoots_11 : decode cX2_canFeedRoots 11 = .ok (.iconst 0, 1) := by decide +kernel
theorem dX2_canFeedRoots_12 : decode cX2_canFeedRoots 12 = .ok (.aload_n 0, 1) := by decide +kernel
theorem dX2_canFeedRoots_13 : decode cX2_canFeedRoots 13 = .ok (.getfield 45, 3) := by decide +kernel
theorem dX2_canFeedRoots_16 : decode cX2_canFeedRoots 16 = .ok (.aload_n 0, 1) := by decide +kernel
theorem dX2_canFeedRoots_17 : decode cX2_canFeedRoots 17 = .ok (.getfield 44, 3) := by decide +kernel
theorem dX2_canFeedRoots_20 : decode cX2_canFeedRoots 20 = .ok (.isub, 1) := by decide +kernel
theorem dX2_canFeedRoots_21 : decode cX2_canFeedRoots 21 = .ok (.invokestatic 48, 3) := by decide +kernel
theorem dX2_canFeedRoots_24 : decode cX2_canFeedRoots 24 = .ok (.ireturn, 1) := by decide +kernel
theorem dX2_canGiveToAir_0 : decode cX2_canGiveToAir 0 = .ok (.aload_n 0, 1) := by decide +kernel
theorem dX2_canGiveToAir_1 : decode cX2_canGiveToAir 1 = .ok (.getfield 20, 3) := by decide +kernel
theorem dX2_canGiveToAir_4 : decode cX2_canGiveToAir 4 = .ok (.ifCond .eq 7, 3) := by decide +kernel
theorem dX2_canGiveToAir_7 : decode cX2_canGiveToAir 7 = .ok (.iconst 0, 1) := by decide +kernel
theorem dX2_canGiveToAir_8 : decode cX2_canGiveToAir 8 = .ok (.goto 18, 3) := by decide +kernel
theorem dX2_canGiveToAir_11 : decode cX2_canGiveToAir 11 = .ok (.iconst 0, 1) := by decide +kernel
theorem dX2_canGiveToAir_12 : decode cX2_canGiveToAir 12 = .ok (.aload_n 0, 1) := by decide +kernel
theorem dX2_canGiveToAir_13 : decode cX2_canGiveToAir 13 = .ok (.getfield 45, 3) := by decide +kernel
theorem dX2_canGiveToAir_16 : decode cX2_canGiveToAir 16 = .ok (.aload_n 0, 1) := by decide +kernel
theorem dX2_canGiveToAir_17 : decode cX2_canGiveToAir 17 = .ok (.getfield 44, 3) := by decide +kernel
theorem dX2_canGiveToAir_20 : decode cX2_canGiveToAir 20 = .ok (.iconst 2, 1) := by decide +kernel
theorem dX2_canGiveToAir_21 : decode cX2_canGiveToAir 21 = .ok (.idiv, 1) := by decide +kernel
theorem dX2_canGiveToAir_22 : decode cX2_canGiveToAir 22 = .ok (.isub, 1) := by decide +kernel
theorem dX2_canGiveToAir_23 : decode cX2_canGiveToAir 23 = .ok (.invokestatic 48, 3) := by decide +kernel
theorem dX2_canGiveToAir_26 : decode cX2_canGiveToAir 26 = .ok (.ireturn, 1) := by decide +kernel
theorem dX2_canSink_0 : decode cX2_canSink 0 = .ok (.aload_n 0, 1) := by decide +kernel
theorem dX2_canSink_1 : decode cX2_canSink 1 = .ok (.getfield 20, 3) := by decide +kernel
theorem dX2_canSink_4 : decode cX2_canSink 4 = .ok (.ifCond .ne 14, 3) := by decide +kernel
theorem dX2_canSink_7 : decode cX2_canSink 7 = .ok (.aload_n 0, 1) := by decide +kernel
theorem dX2_canSink_8 : decode cX2_canSink 8 = .ok (.getfield 45, 3) := by decide +kernel
theorem dX2_canSink_11 : decode cX2_canSink 11 = .ok (.aload_n 0, 1) := by decide +kernel
theorem dX2_canSink_12 : decode cX2_canSink 12 = .ok (.getfield 40, 3) := by decide +kernel
theorem dX2_canSink_15 : decode cX2_canSink 15 = .ok (.if_icmp .gt 5, 3) := by decide +kernel
theorem dX2_canSink_18 : decode cX2_canSink 18 = .ok (.iconst 0, 1) := by decide +kernel
theorem dX2_canSink_19 : decode cX2_canSink 19 = .ok (.ireturn, 1) := by decide +kernel
theorem dX2_canSink_20 : decode cX2_canSink 20 = .ok (.aload_n 0, 1) := by decide +kernel
theorem dX2_canSink_21 : decode cX2_canSink 21 = .ok (.getfield 45, 3) := by decide +kernel
theorem dX2_canSink_24 : decode cX2_canSink 24 = .ok (.aload_n 0, 1) := by decide +kernel
theorem dX2_canSink_25 : decode cX2_canSink 25 = .ok (.getfield 40, 3) := by decide +kernel
theorem dX2_canSink_28 : decode cX2_canSink 28 = .ok (.isub, 1) := by decide +kernel
theorem dX2_canSink_29 : decode cX2_canSink 29 = .ok (.istore_n 2, 1) := by decide +kernel
theorem dX2_canSink_30 : decode cX2_canSink 30 = .ok (.iload_n 2, 1) := by decide +kernel
theorem dX2_canSink_31 : decode cX2_canSink 31 = .ok (.iload_n 2, 1) := by decide +kernel
theorem dX2_canSink_32 : decode cX2_canSink 32 = .ok (.aload_n 0, 1) := by decide +kernel
theorem dX2_canSink_33 : decode cX2_canSink 33 = .ok (.getfield 24, 3) := by decide +kernel
theorem dX2_canSink_36 : decode cX2_canSink 36 = .ok (.getfield 54, 3) := by decide +kernel
theorem dX2_canSink_39 : decode cX2_canSink 39 = .ok (.imul, 1) := by decide +kernel
theorem dX2_canSink_40 : decode cX2_canSink 40 = .ok (.iload_n 1, 1) := by decide +kernel
theorem dX2_canSink_41 : decode cX2_canSink 41 = .ok (.imul, 1) := by decide +kernel
theorem dX2_canSink_42 : decode cX2_canSink 42 = .ok (.sipush 10000, 3) := by decide +kernel
theorem dX2_canSink_45 : decode cX2_canSink 45 = .ok (.idiv, 1) := by decide +kernel
theorem dX2_canSink_46 : decode cX2_canSink 46 = .ok (.invokestatic 57, 3) := by decide +kernel
theorem dX2_canSink_49 : decode cX2_canSink 49 = .ok (.ireturn, 1) := by decide +kernel
theorem dX2_hundredthsOfWater_0 : decode cX2_hundredthsOfWater 0 = .ok (.aload_n 0, 1) := by decide +kernel
theorem dX2_hundredthsOfWater_1 : decode cX2_hundredthsOfWater 1 = .ok (.getfield 28, 3) := by decide +kernel
theorem dX2_hundredthsOfWater_4 : decode cX2_hundredthsOfWater 4 = .ok (.ifCond .le 18, 3) := by decide +kernel
theorem dX2_hundredthsOfWater_7 : decode cX2_hundredthsOfWater 7 = .ok (.aload_n 0, 1) := by decide +kernel
theorem dX2_hundredthsOfWater_8 : decode cX2_hundredthsOfWater 8 = .ok (.getfield 45, 3) := by decide +kernel
theorem dX2_hundredthsOfWater_11 : decode cX2_hundredthsOfWater 11 = .ok (.bipush 100, 2) := by decide +kernel
theorem dX2_hundredthsOfWater_13 : decode cX2_hundredthsOfWater 13 = .ok (.imul, 1) := by decide +kernel
theorem dX2_hundredthsOfWater_14 : decode cX2_hundredthsOfWater 14 = .ok (.aload_n 0, 1) := by decide +kernel
theorem dX2_hundredthsOfWater_15 : decode cX2_hundredthsOfWater 15 = .ok (.getfield 28, 3) := by decide +kernel
theorem dX2_hundredthsOfWater_18 : decode cX2_hundredthsOfWater 18 = .ok (.idiv, 1) := by decide +kernel
theorem dX2_hundredthsOfWater_19 : decode cX2_hundredthsOfWater 19 = .ok (.goto 4, 3) := by decide +kernel
theorem dX2_hundredthsOfWater_22 : decode cX2_hundredthsOfWater 22 = .ok (.iconst 0, 1) := by decide +kernel
theorem dX2_hundredthsOfWater_23 : decode cX2_hundredthsOfWater 23 = .ok (.ireturn, 1) := by decide +kernel
theorem dX2_freeze_0 : decode cX2_freeze 0 = .ok (.aload_n 0, 1) := by decide +kernel
theorem dX2_freeze_1 : decode cX2_freeze 1 = .ok (.dup, 1) := by decide +kernel
theorem dX2_freeze_2 : decode cX2_freeze 2 = .ok (.getfield 16, 3) := by decide +kernel
theorem dX2_freeze_5 : decode cX2_freeze 5 = .ok (.iload_n 1, 1) := by decide +kernel
theorem dX2_freeze_6 : decode cX2_freeze 6 = .ok (.iadd, 1) := by decide +kernel
theorem dX2_freeze_7 : decode cX2_freeze 7 = .ok (.putfield 16, 3) := by decide +kernel
theorem dX2_freeze_10 : decode cX2_freeze 10 = .ok (.aload_n 0, 1) := by decide +kernel
theorem dX2_freeze_11 : decode cX2_freeze 11 = .ok (.aload_n 0, 1) := by decide +kernel
theorem dX2_freeze_12 : decode cX2_freeze 12 = .ok (.getfield 16, 3) := by decide +kernel
theorem dX2_freeze_15 : decode cX2_freeze 15 = .ok (.aload_n 0, 1) := by decide +kernel
theorem dX2_freeze_16 : decode cX2_freeze 16 = .ok (.getfield 28, 3) := by decide +kernel
theorem dX2_freeze_19 : decode cX2_freeze 19 = .ok (.bipush 10, 2) := by decide +kernel
theorem dX2_freeze_21 : decode cX2_freeze 21 = .ok (.idiv, 1) := by decide +kernel
theorem dX2_freeze_22 : decode cX2_freeze 22 = .ok (.if_icmp .lt 7, 3) := by decide +kernel
theorem dX2_freeze_25 : decode cX2_freeze 25 = .ok (.iconst 1, 1) := by decide +kernel
theorem dX2_freeze_26 : decode cX2_freeze 26 = .ok (.goto 4, 3) := by decide +kernel
theorem dX2_freeze_29 : decode cX2_freeze 29 = .ok (.iconst 0, 1) := by decide +kernel
theorem dX2_freeze_30 : decode cX2_freeze 30 = .ok (.putfield 20, 3) := by decide +kernel
theorem dX2_freeze_33 : decode cX2_freeze 33 = .ok (.return_, 1) := by decide +kernel
theorem dX2_thaw_0 : decode cX2_thaw 0 = .ok (.aload_n 0, 1) := by decide +kernel
theorem dX2_thaw_1 : decode cX2_thaw 1 = .ok (.iconst 0, 1) := by decide +kernel
theorem dX2_thaw_2 : decode cX2_thaw 2 = .ok (.aload_n 0, 1) := by decide +kernel
theorem dX2_thaw_3 : decode cX2_thaw 3 = .ok (.getfield 16, 3) := by decide +kernel
theorem dX2_thaw_6 : decode cX2_thaw 6 = .ok (.iload_n 1, 1) := by decide +kernel
theorem dX2_thaw_7 : decode cX2_thaw 7 = .ok (.isub, 1) := by decide +kernel
theorem dX2_thaw_8 : decode cX2_thaw 8 = .ok (.invokestatic 48, 3) := by decide +kernel
theorem dX2_thaw_11 : decode cX2_thaw 11 = .ok (.putfield 16, 3) := by decide +kernel
theorem dX2_thaw_14 : decode cX2_thaw 14 = .ok (.aload_n 0, 1) := by decide +kernel
theorem dX2_thaw_15 : decode cX2_thaw 15 = .ok (.aload_n 0, 1) := by decide +kernel
theorem dX2_thaw_16 : decode cX2_thaw 16 = .ok (.getfield 16, 3) := by decide +kernel
theorem dX2_thaw_19 : decode cX2_thaw 19 = .ok (.ifCond .le 7, 3) := by decide +kernel
theorem dX2_thaw_22 : decode cX2_thaw 22 = .ok (.iconst 1, 1) := by decide +kernel
theorem dX2_thaw_23 : decode cX2_thaw 23 = .ok (.goto 4, 3) := by decide +kernel
theorem dX2_thaw_26 : decode cX2_thaw 26 = .ok (.iconst 0, 1) := by decide +kernel
theorem dX2_thaw_27 : decode cX2_thaw 27 = .ok (.putfield 20, 3) := by decide +kernel
theorem dX2_thaw_30 : decode cX2_thaw 30 = .ok (.return_, 1) := by decide +kernel
theorem dX2_sendWater_0 : decode cX2_sendWater 0 = .ok (.aload_n 0, 1) := by decide +kernel
theorem dX2_sendWater_1 : decode cX2_sendWater 1 = .ok (.getfield 10, 3) := by decide +kernel
theorem dX2_sendWater_4 : decode cX2_sendWater 4 = .ok (.iload_n 1, 1) := by decide +kernel
theorem dX2_sendWater_5 : decode cX2_sendWater 5 = .ok (.aload_n 0, 1) := by decide +kernel
theorem dX2_sendWater_6 : decode cX2_sendWater 6 = .ok (.getfield 45, 3) := by decide +kernel
theorem dX2_sendWater_9 : decode cX2_sendWater 9 = .ok (.aload_n 2, 1) := by decide +kernel
theorem dX2_sendWater_10 : decode cX2_sendWater 10 = .ok (.invokevirtual 60, 3) := by decide +kernel
theorem dX2_sendWater_13 : decode cX2_sendWater 13 = .ok (.aload_n 0, 1) := by decide +kernel
theorem dX2_sendWater_14 : decode cX2_sendWater 14 = .ok (.dup, 1) := by decide +kernel
theorem dX2_sendWater_15 : decode cX2_sendWater 15 = .ok (.getfield 45, 3) := by decide +kernel
theorem dX2_sendWater_18 : decode cX2_sendWater 18 = .ok (.iload_n 1, 1) := by decide +kernel
theorem dX2_sendWater_19 : decode cX2_sendWater 19 = .ok (.isub, 1) := by decide +kernel
theorem dX2_sendWater_20 : decode cX2_sendWater 20 = .ok (.putfield 45, 3) := by decide +kernel
theorem dX2_sendWater_23 : decode cX2_sendWater 23 = .ok (.return_, 1) := by decide +kernel
theorem dX2_becomeLike_0 : decode cX2_becomeLike 0 = .ok (.aload_n 0, 1) := by decide +kernel
theorem dX2_becomeLike_1 : decode cX2_becomeLike 1 = .ok (.aload_n 1, 1) := by decide +kernel
theorem dX2_becomeLike_2 : decode cX2_becomeLike 2 = .ok (.getfield 45, 3) := by decide +kernel
theorem dX2_becomeLike_5 : decode cX2_becomeLike 5 = .ok (.putfield 45, 3) := by decide +kernel
theorem dX2_becomeLike_8 : decode cX2_becomeLike 8 = .ok (.aload_n 0, 1) := by decide +kernel
theorem dX2_becomeLike_9 : decode cX2_becomeLike 9 = .ok (.aload_n 1, 1) := by decide +kernel
theorem dX2_becomeLike_10 : decode cX2_becomeLike 10 = .ok (.getfield 16, 3) := by decide +kernel
theorem dX2_becomeLike_13 : decode cX2_becomeLike 13 = .ok (.putfield 16, 3) := by decide +kernel
theorem dX2_becomeLike_16 : decode cX2_becomeLike 16 = .ok (.aload_n 0, 1) := by decide +kernel
theorem dX2_becomeLike_17 : decode cX2_becomeLike 17 = .ok (.aload_n 1, 1) := by decide +kernel
theorem dX2_becomeLike_18 : decode cX2_becomeLike 18 = .ok (.getfield 20, 3) := by decide +kernel
theorem dX2_becomeLike_21 : decode cX2_becomeLike 21 = .ok (.putfield 20, 3) := by decide +kernel
theorem dX2_becomeLike_24 : decode cX2_becomeLike 24 = .ok (.return_, 1) := by decide +kernel
theorem dX3_init_0 : decode cX3_init 0 = .ok (.aload_n 0, 1) := by decide +kernel
theorem dX3_init_1 : decode cX3_init 1 = .ok (.invokespecial 1, 3) := by decide +kernel
theorem dX3_init_4 : decode cX3_init 4 = .ok (.aload_n 0, 1) := by decide +kernel
theorem dX3_init_5 : decode cX3_init 5 = .ok (.lconst 0, 1) := by decide +kernel
theorem dX3_init_6 : decode cX3_init 6 = .ok (.putfield 7, 3) := by decide +kernel
theorem dX3_init_9 : decode cX3_init 9 = .ok (.aload_n 0, 1) := by decide +kernel
theorem dX3_init_10 : decode cX3_init 10 = .ok (.iload_n 1, 1) := by decide +kernel
theorem dX3_init_11 : decode cX3_init 11 = .ok (.putfield 13, 3) := by decide +kernel
theorem dX3_init_14 : decode cX3_init 14 = .ok (.aload_n 0, 1) := by decide +kernel
theorem dX3_init_15 : decode cX3_init 15 = .ok (.iload_n 2, 1) := by decide +kernel
theorem dX3_init_16 : decode cX3_init 16 = .ok (.putfield 17, 3) := by decide +kernel
theorem dX3_init_19 : decode cX3_init 19 = .ok (.return_, 1) := by decide +kernel
theorem dX5_init_0 : decode cX5_init 0 = .ok (.aload_n 0, 1) := by decide +kernel
theorem dX5_init_1 : decode cX5_init 1 = .ok (.invokespecial 3, 3) := by decide +kernel
theorem dX5_init_4 : decode cX5_init 4 = .ok (.aload_n 0, 1) := by decide +kernel
theorem dX5_init_5 : decode cX5_init 5 = .ok (.iconst 3, 1) := by decide +kernel
theorem dX5_init_6 : decode cX5_init 6 = .ok (.newarray .long, 2) := by decide +kernel
theorem dX5_init_8 : decode cX5_init 8 = .ok (.putfield 9, 3) := by decide +kernel
theorem dX5_init_11 : decode cX5_init 11 = .ok (.return_, 1) := by decide +kernel
theorem dX5_amountOf_0 : decode cX5_amountOf 0 = .ok (.iload_n 1, 1) := by decide +kernel
theorem dX5_amountOf_1 : decode cX5_amountOf 1 = .ok (.ifCond .lt 21, 3) := by decide +kernel
theorem dX5_amountOf_4 : decode cX5_amountOf 4 = .ok (.iload_n 1, 1) := by decide +kernel
theorem dX5_amountOf_5 : decode cX5_amountOf 5 = .ok (.aload_n 0, 1) := by decide +kernel
theorem dX5_amountOf_6 : decode cX5_amountOf 6 = .ok (.getfield 9, 3) := by decide +kernel
theorem dX5_amountOf_9 : decode cX5_amountOf 9 = .ok (.arraylength, 1) := by decide +kernel
theorem dX5_amountOf_10 : decode cX5_amountOf 10 = .ok (.if_icmp .ge 12, 3) := by decide +kernel
theorem dX5_amountOf_13 : decode cX5_amountOf 13 = .ok (.aload_n 0, 1) := by decide +kernel
theorem dX5_amountOf_14 : decode cX5_amountOf 14 = .ok (.getfield 9, 3) := by decide +kernel
theorem dX5_amountOf_17 : decode cX5_amountOf 17 = .ok (.iload_n 1, 1) := by decide +kernel
theorem dX5_amountOf_18 : decode cX5_amountOf 18 = .ok (.laload, 1) := by decide +kernel
theorem dX5_amountOf_19 : decode cX5_amountOf 19 = .ok (.goto 4, 3) := by decide +kernel
theorem dX5_amountOf_22 : decode cX5_amountOf 22 = .ok (.lconst 0, 1) := by decide +kernel
theorem dX5_amountOf_23 : decode cX5_amountOf 23 = .ok (.lreturn, 1) := by decide +kernel
theorem dX5_change_0 : decode cX5_change 0 = .ok (.iload_n 1, 1) := by decide +kernel
theorem dX5_change_1 : decode cX5_change 1 = .ok (.ifCond .lt 22, 3) := by decide +kernel
theorem dX5_change_4 : decode cX5_change 4 = .ok (.iload_n 1, 1) := by decide +kernel
theorem dX5_change_5 : decode cX5_change 5 = .ok (.aload_n 0, 1) := by decide +kernel
theorem dX5_change_6 : decode cX5_change 6 = .ok (.getfield 9, 3) := by decide +kernel
theorem dX5_change_9 : decode cX5_change 9 = .ok (.arraylength, 1) := by decide +kernel
theorem dX5_change_10 : decode cX5_change 10 = .ok (.if_icmp .ge 13, 3) := by decide +kernel
theorem dX5_change_13 : decode cX5_change 13 = .ok (.aload_n 0, 1) := by decide +kernel
theorem dX5_change_14 : decode cX5_change 14 = .ok (.getfield 9, 3) := by decide +kernel
theorem dX5_change_17 : decode cX5_change 17 = .ok (.iload_n 1, 1) := by decide +kernel
theorem dX5_change_18 : decode cX5_change 18 = .ok (.dup2, 1) := by decide +kernel
theorem dX5_change_19 : decode cX5_change 19 = .ok (.laload, 1) := by decide +kernel
theorem dX5_change_20 : decode cX5_change 20 = .ok (.lload_n 2, 1) := by decide +kernel
theorem dX5_change_21 : decode cX5_change 21 = .ok (.ladd, 1) := by decide +kernel
theorem dX5_change_22 : decode cX5_change 22 = .ok (.lastore, 1) := by decide +kernel
theorem dX5_change_23 : decode cX5_change 23 = .ok (.return_, 1) := by decide +kernel
theorem dX5_giveShare_0 : decode cX5_giveShare 0 = .ok (.iload_n 1, 1) := by decide +kernel
theorem dX5_giveShare_1 : decode cX5_giveShare 1 = .ok (.ifCond .le 7, 3) := by decide +kernel
theorem dX5_giveShare_4 : decode cX5_giveShare 4 = .ok (.iload_n 2, 1) := by decide +kernel
theorem dX5_giveShare_5 : decode cX5_giveShare 5 = .ok (.ifCond .gt 4, 3) := by decide +kernel
theorem dX5_giveShare_8 : decode cX5_giveShare 8 = .ok (.return_, 1) := by decide +kernel
theorem dX5_giveShare_9 : decode cX5_giveShare 9 = .ok (.iconst 0, 1) := by decide +kernel
theorem dX5_giveShare_10 : decode cX5_giveShare 10 = .ok (.istore 4, 2) := by decide +kernel
theorem dX5_giveShare_12 : decode cX5_giveShare 12 = .ok (.iload 4, 2) := by decide +kernel
theorem dX5_giveShare_14 : decode cX5_giveShare 14 = .ok (.aload_n 0, 1) := by decide +kernel
theorem dX5_giveShare_15 : decode cX5_giveShare 15 = .ok (.getfield 9, 3) := by decide +kernel
theorem dX5_giveShare_18 : decode cX5_giveShare 18 = .ok (.arraylength, 1) := by decide +kernel
theorem dX5_giveShare_19 : decode cX5_giveShare 19 = .ok (.if_icmp .ge 58, 3) := by decide +kernel
theorem dX5_giveShare_22 : decode cX5_giveShare 22 = .ok (.iload 4, 2) := by decide +kernel
theorem dX5_giveShare_24 : decode cX5_giveShare 24 = .ok (.aload_n 3, 1) := by decide +kernel
theorem dX5_giveShare_25 : decode cX5_giveShare 25 = .ok (.getfield 9, 3) := by decide +kernel
theorem dX5_giveShare_28 : decode cX5_giveShare 28 = .ok (.arraylength, 1) := by decide +kernel
theorem dX5_giveShare_29 : decode cX5_giveShare 29 = .ok (.if_icmp .ge 48, 3) := by decide +kernel
theorem dX5_giveShare_32 : decode cX5_giveShare 32 = .ok (.aload_n 0, 1) := by decide +kernel
theorem dX5_giveShare_33 : decode cX5_giveShare 33 = .ok (.getfield 9, 3) := by decide +kernel
theorem dX5_giveShare_36 : decode cX5_giveShare 36 = .ok (.iload 4, 2) := by decide +kernel
theorem dX5_giveShare_38 : decode cX5_giveShare 38 = .ok (.laload, 1) := by decide +kernel
theorem dX5_giveShare_39 : decode cX5_giveShare 39 = .ok (.iload_n 1, 1) := by decide +kernel
theorem dX5_giveShare_40 : decode cX5_giveShare 40 = .ok (.i2l, 1) := by decide +kernel
theorem dX5_giveShare_41 : decode cX5_giveShare 41 = .ok (.lmul, 1) := by decide +kernel
theorem dX5_giveShare_42 : decode cX5_giveShare 42 = .ok (.iload_n 2, 1) := by decide +kernel
theorem dX5_giveShare_43 : decode cX5_giveShare 43 = .ok (.i2l, 1) := by decide +kernel
theorem dX5_giveShare_44 : decode cX5_giveShare 44 = .ok (.ldiv, 1) := by decide +kernel
theorem dX5_giveShare_45 : decode cX5_giveShare 45 = .ok (.lstore 5, 2) := by decide +kernel
theorem dX5_giveShare_47 : decode cX5_giveShare 47 = .ok (.aload_n 0, 1) := by decide +kernel
theorem dX5_giveShare_48 : decode cX5_giveShare 48 = .ok (.getfield 9, 3) := by decide +kernel
theorem dX5_giveShare_51 : decode cX5_giveShare 51 = .ok (.iload 4, 2) := by decide +kernel
theorem dX5_giveShare_53 : decode cX5_giveShare 53 = .ok (.dup2, 1) := by decide +kernel
theorem dX5_giveShare_54 : decode cX5_giveShare 54 = .ok (.laload, 1) := by decide +kernel
theorem dX5_giveShare_55 : decode cX5_giveShare 55 = .ok (.lload 5, 2) := by decide +kernel
theorem dX5_giveShare_57 : decode cX5_giveShare 57 = .ok (.lsub, 1) := by decide +kernel
theorem dX5_giveShare_58 : decode cX5_giveShare 58 = .ok (.lastore, 1) := by decide +kernel
theorem dX5_giveShare_59 : decode cX5_giveShare 59 = .ok (.aload_n 3, 1) := by decide +kernel
theorem dX5_giveShare_60 : decode cX5_giveShare 60 = .ok (.getfield 9, 3) := by decide +kernel
theorem dX5_giveShare_63 : decode cX5_giveShare 63 = .ok (.iload 4, 2) := by decide +kernel
theorem dX5_giveShare_65 : decode cX5_giveShare 65 = .ok (.dup2, 1) := by decide +kernel
theorem dX5_giveShare_66 : decode cX5_giveShare 66 = .ok (.laload, 1) := by decide +kernel
theorem dX5_giveShare_67 : decode cX5_giveShare 67 = .ok (.lload 5, 2) := by decide +kernel
theorem dX5_giveShare_69 : decode cX5_giveShare 69 = .ok (.ladd, 1) := by decide +kernel
theorem dX5_giveShare_70 : decode cX5_giveShare 70 = .ok (.lastore, 1) := by decide +kernel
theorem dX5_giveShare_71 : decode cX5_giveShare 71 = .ok (.iinc 4 1, 3) := by decide +kernel
theorem dX5_giveShare_74 : decode cX5_giveShare 74 = .ok (.goto (-62), 3) := by decide +kernel
theorem dX5_giveShare_77 : decode cX5_giveShare 77 = .ok (.return_, 1) := by decide +kernel
theorem dX6_init_0 : decode cX6_init 0 = .ok (.aload_n 0, 1) := by decide +kernel
theorem dX6_init_1 : decode cX6_init 1 = .ok (.invokespecial 1, 3) := by decide +kernel
theorem dX6_init_4 : decode cX6_init 4 = .ok (.aload_n 0, 1) := by decide +kernel
theorem dX6_init_5 : decode cX6_init 5 = .ok (.bipush 10, 2) := by decide +kernel
theorem dX6_init_7 : decode cX6_init 7 = .ok (.putfield 7, 3) := by decide +kernel
theorem dX6_init_10 : decode cX6_init 10 = .ok (.aload_n 0, 1) := by decide +kernel
theorem dX6_init_11 : decode cX6_init 11 = .ok (.iconst 0, 1) := by decide +kernel
theorem dX6_init_12 : decode cX6_init 12 = .ok (.putfield 13, 3) := by decide +kernel
theorem dX6_init_15 : decode cX6_init 15 = .ok (.aload_n 0, 1) := by decide +kernel
theorem dX6_init_16 : decode cX6_init 16 = .ok (.iconst 0, 1) := by decide +kernel
theorem dX6_init_17 : decode cX6_init 17 = .ok (.putfield 16, 3) := by decide +kernel
theorem dX6_init_20 : decode cX6_init 20 = .ok (.return_, 1) := by decide +kernel
theorem dX7_init_0 : decode cX7_init 0 = .ok (.aload_n 0, 1) := by decide +kernel
theorem dX7_init_1 : decode cX7_init 1 = .ok (.invokespecial 1, 3) := by decide +kernel
theorem dX7_init_4 : decode cX7_init 4 = .ok (.aload_n 0, 1) := by decide +kernel
theorem dX7_init_5 : decode cX7_init 5 = .ok (.new 7, 3) := by decide +kernel
theorem dX7_init_8 : decode cX7_init 8 = .ok (.dup, 1) := by decide +kernel
theorem dX7_init_9 : decode cX7_init 9 = .ok (.invokespecial 9, 3) := by decide +kernel
theorem dX7_init_12 : decode cX7_init 12 = .ok (.putfield 10, 3) := by decide +kernel
theorem dX7_init_15 : decode cX7_init 15 = .ok (.aload_n 0, 1) := by decide +kernel
theorem dX7_init_16 : decode cX7_init 16 = .ok (.new 7, 3) := by decide +kernel
theorem dX7_init_19 : decode cX7_init 19 = .ok (.dup, 1) := by decide +kernel
theorem dX7_init_20 : decode cX7_init 20 = .ok (.invokespecial 9, 3) := by decide +kernel
theorem dX7_init_23 : decode cX7_init 23 = .ok (.putfield 16, 3) := by decide +kernel
theorem dX7_init_26 : decode cX7_init 26 = .ok (.aload_n 0, 1) := by decide +kernel
theorem dX7_init_27 : decode cX7_init 27 = .ok (.new 19, 3) := by decide +kernel
theorem dX7_init_30 : decode cX7_init 30 = .ok (.dup, 1) := by decide +kernel
theorem dX7_init_31 : decode cX7_init 31 = .ok (.invokespecial 21, 3) := by decide +kernel
theorem dX7_init_34 : decode cX7_init 34 = .ok (.putfield 22, 3) := by decide +kernel
theorem dX7_init_37 : decode cX7_init 37 = .ok (.aload_n 0, 1) := by decide +kernel
theorem dX7_init_38 : decode cX7_init 38 = .ok (.bipush 40, 2) := by decide +kernel
theorem dX7_init_40 : decode cX7_init 40 = .ok (.newarray .long, 2) := by decide +kernel
theorem dX7_init_42 : decode cX7_init 42 = .ok (.putfield 26, 3) := by decide +kernel
theorem dX7_init_45 : decode cX7_init 45 = .ok (.aload_n 0, 1) := by decide +kernel
theorem dX7_init_46 : decode cX7_init 46 = .ok (.sipush 9999, 3) := by decide +kernel
theorem dX7_init_49 : decode cX7_init 49 = .ok (.putfield 30, 3) := by decide +kernel
theorem dX7_init_52 : decode cX7_init 52 = .ok (.aload_n 0, 1) := by decide +kernel
theorem dX7_init_53 : decode cX7_init 53 = .ok (.iconst 0, 1) := by decide +kernel
theorem dX7_init_54 : decode cX7_init 54 = .ok (.putfield 34, 3) := by decide +kernel
theorem dX7_init_57 : decode cX7_init 57 = .ok (.aload_n 0, 1) := by decide +kernel
theorem dX7_init_58 : decode cX7_init 58 = .ok (.iconst 0, 1) := by decide +kernel
theorem dX7_init_59 : decode cX7_init 59 = .ok (.putfield 37, 3) := by decide +kernel
theorem dX7_init_62 : decode cX7_init 62 = .ok (.return_, 1) := by decide +kernel
theorem dX7_column_0 : decode cX7_column 0 = .ok (.iload_n 1, 1) := by decide +kernel
theorem dX7_column_1 : decode cX7_column 1 = .ok (.bipush 102, 2) := by decide +kernel
theorem dX7_column_3 : decode cX7_column 3 = .ok (.if_icmp .eq 25, 3) := by decide +kernel
theorem dX7_column_6 : decode cX7_column 6 = .ok (.iload_n 1, 1) := by decide +kernel
theorem dX7_column_7 : decode cX7_column 7 = .ok (.bipush 115, 2) := by decide +kernel
theorem dX7_column_9 : decode cX7_column 9 = .ok (.if_icmp .eq 19, 3) := by decide +kernel
theorem dX7_column_12 : decode cX7_column 12 = .ok (.iload_n 1, 1) := by decide +kernel
theorem dX7_column_13 : decode cX7_column 13 = .ok (.bipush 110, 2) := by decide +kernel
theorem dX7_column_15 : decode cX7_column 15 = .ok (.if_icmp .eq 13, 3) := by decide +kernel
theorem dX7_column_18 : decode cX7_column 18 = .ok (.new 40, 3) := by decide +kernel
theorem dX7_column_21 : decode cX7_column 21 = .ok (.dup, 1) := by decide +kernel
theorem dX7_column_22 : decode cX7_column 22 = .ok (.ldc 42, 2) := by decide +kernel
theorem dX7_column_24 : decode cX7_column 24 = .ok (.invokespecial 44, 3) := by decide +kernel
theorem dX7_column_27 : decode cX7_column 27 = .ok (.athrow, 1) := by decide +kernel
theorem dX7_column_28 : decode cX7_column 28 = .ok (.aload_n 0, 1) := by decide +kernel
theorem dX7_column_29 : decode cX7_column 29 = .ok (.getfield 10, 3) := by decide +kernel
theorem dX7_column_32 : decode cX7_column 32 = .ok (.invokevirtual 47, 3) := by decide +kernel
theorem dX7_column_35 : decode cX7_column 35 = .ok (.bipush 6, 2) := by decide +kernel
theorem dX7_column_37 : decode cX7_column 37 = .ok (.if_icmp .lt 13, 3) := by decide +kernel
theorem dX7_column_40 : decode cX7_column 40 = .ok (.new 51, 3) := by decide +kernel
theorem dX7_column_43 : decode cX7_column 43 = .ok (.dup, 1) := by decide +kernel
theorem dX7_column_44 : decode cX7_column 44 = .ok (.ldc 53, 2) := by decide +kernel
theorem dX7_column_46 : decode cX7_column 46 = .ok (.invokespecial 55, 3) := by decide +kernel
theorem dX7_column_49 : decode cX7_column 49 = .ok (.athrow, 1) := by decide +kernel
theorem dX7_column_50 : decode cX7_column 50 = .ok (.aload_n 0, 1) := by decide +kernel
theorem dX7_column_51 : decode cX7_column 51 = .ok (.getfield 10, 3) := by decide +kernel
theorem dX7_column_54 : decode cX7_column 54 = .ok (.new 56, 3) := by decide +kernel
theorem dX7_column_57 : decode cX7_column 57 = .ok (.dup, 1) := by decide +kernel
theorem dX7_column_58 : decode cX7_column 58 = .ok (.iload_n 1, 1) := by decide +kernel
theorem dX7_column_59 : decode cX7_column 59 = .ok (.aload_n 0, 1) := by decide +kernel
theorem dX7_column_60 : decode cX7_column 60 = .ok (.getfield 37, 3) := by decide +kernel
theorem dX7_column_63 : decode cX7_column 63 = .ok (.invokespecial 58, 3) := by decide +kernel
theorem dX7_column_66 : decode cX7_column 66 = .ok (.invokevirtual 61, 3) := by decide +kernel
theorem dX7_column_69 : decode cX7_column 69 = .ok (.pop, 1) := by decide +kernel
theorem dX7_column_70 : decode cX7_column 70 = .ok (.aload_n 0, 1) := by decide +kernel
theorem dX7_column_71 : decode cX7_column 71 = .ok (.getfield 16, 3) := by decide +kernel
theorem dX7_column_74 : decode cX7_column 74 = .ok (.new 56, 3) := by decide +kernel
theorem dX7_column_77 : decode cX7_column 77 = .ok (.dup, 1) := by decide +kernel
theorem dX7_column_78 : decode cX7_column 78 = .ok (.iload_n 1, 1) := by decide +kernel
theorem dX7_column_79 : decode cX7_column 79 = .ok (.aload_n 0, 1) := by decide +kernel
theorem dX7_column_80 : decode cX7_column 80 = .ok (.getfield 37, 3) := by decide +kernel
theorem dX7_column_83 : decode cX7_column 83 = .ok (.invokespecial 58, 3) := by decide +kernel
theorem dX7_column_86 : decode cX7_column 86 = .ok (.invokevirtual 61, 3) := by decide +kernel
theorem dX7_column_89 : decode cX7_column 89 = .ok (.pop, 1) := by decide +kernel
theorem dX7_column_90 : decode cX7_column 90 = .ok (.aload_n 0, 1) := by decide +kernel
theorem dX7_column_91 : decode cX7_column 91 = .ok (.getfield 10, 3) := by decide +kernel
theorem dX7_column_94 : decode cX7_column 94 = .ok (.invokevirtual 47, 3) := by decide +kernel
theorem dX7_column_97 : decode cX7_column 97 = .ok (.iconst 1, 1) := by decide +kernel
theorem dX7_column_98 : decode cX7_column 98 = .ok (.isub, 1) := by decide +kernel
theorem dX7_column_99 : decode cX7_column 99 = .ok (.ireturn, 1) := by decide +kernel
theorem dX7_layer_0 : decode cX7_layer 0 = .ok (.aload_n 0, 1) := by decide +kernel
theorem dX7_layer_1 : decode cX7_layer 1 = .ok (.iload_n 1, 1) := by decide +kernel
theorem dX7_layer_2 : decode cX7_layer 2 = .ok (.invokevirtual 65, 3) := by decide +kernel
theorem dX7_layer_5 : decode cX7_layer 5 = .ok (.astore 4, 2) := by decide +kernel
theorem dX7_layer_7 : decode cX7_layer 7 = .ok (.iload_n 2, 1) := by decide +kernel
theorem dX7_layer_8 : decode cX7_layer 8 = .ok (.invokestatic 69, 3) := by decide +kernel
theorem dX7_layer_11 : decode cX7_layer 11 = .ok (.astore 5, 2) := by decide +kernel
theorem dX7_layer_13 : decode cX7_layer 13 = .ok (.iload_n 3, 1) := by decide +kernel
theorem dX7_layer_14 : decode cX7_layer 14 = .ok (.bipush 50, 2) := by decide +kernel
theorem dX7_layer_16 : decode cX7_layer 16 = .ok (.sipush 500, 3) := by decide +kernel
theorem dX7_layer_19 : decode cX7_layer 19 = .ok (.invokestatic 73, 3) := by decide +kernel
theorem dX7_layer_22 : decode cX7_layer 22 = .ok (.aload 4, 2) := by decide +kernel
theorem dX7_layer_24 : decode cX7_layer 24 = .ok (.getfield 77, 3) := by decide +kernel
theorem dX7_layer_27 : decode cX7_layer 27 = .ok (.invokevirtual 47, 3) := by decide +kernel
theorem dX7_layer_30 : decode cX7_layer 30 = .ok (.bipush 8, 2) := by decide +kernel
theorem dX7_layer_32 : decode cX7_layer 32 = .ok (.if_icmp .lt 13, 3) := by decide +kernel
theorem dX7_layer_35 : decode cX7_layer 35 = .ok (.new 51, 3) := by decide +kernel
theorem dX7_layer_38 : decode cX7_layer 38 = .ok (.dup, 1) := by decide +kernel
theorem dX7_layer_39 : decode cX7_layer 39 = .ok (.ldc 80, 2) := by decide +kernel
theorem dX7_layer_41 : decode cX7_layer 41 = .ok (.invokespecial 55, 3) := by decide +kernel
theorem dX7_layer_44 : decode cX7_layer 44 = .ok (.athrow, 1) := by decide +kernel
theorem dX7_layer_45 : decode cX7_layer 45 = .ok (.new 82, 3) := by decide +kernel
theorem dX7_layer_48 : decode cX7_layer 48 = .ok (.dup, 1) := by decide +kernel
theorem dX7_layer_49 : decode cX7_layer 49 = .ok (.aload 5, 2) := by decide +kernel
theorem dX7_layer_51 : decode cX7_layer 51 = .ok (.iload_n 3, 1) := by decide +kernel
theorem dX7_layer_52 : decode cX7_layer 52 = .ok (.invokespecial 84, 3) := by decide +kernel
theorem dX7_layer_55 : decode cX7_layer 55 = .ok (.astore 6, 2) := by decide +kernel
theorem dX7_layer_57 : decode cX7_layer 57 = .ok (.aload 4, 2) := by decide +kernel
theorem dX7_layer_59 : decode cX7_layer 59 = .ok (.getfield 77, 3) := by decide +kernel
theorem dX7_layer_62 : decode cX7_layer 62 = .ok (.aload 6, 2) := by decide +kernel
theorem dX7_layer_64 : decode cX7_layer 64 = .ok (.invokevirtual 61, 3) := by decide +kernel
theorem dX7_layer_67 : decode cX7_layer 67 = .ok (.pop, 1) := by decide +kernel
theorem dX7_layer_68 : decode cX7_layer 68 = .ok (.aload 4, 2) := by decide +kernel
theorem dX7_layer_70 : decode cX7_layer 70 = .ok (.getfield 87, 3) := by decide +kernel
theorem dX7_layer_73 : decode cX7_layer 73 = .ok (.dup, 1) := by decide +kernel
theorem dX7_layer_74 : decode cX7_layer 74 = .ok (.getfield 91, 3) := by decide +kernel
theorem dX7_layer_77 : decode cX7_layer 77 = .ok (.aload 6, 2) := by decide +kernel
theorem dX7_layer_79 : decode cX7_layer 79 = .ok (.getfield 97, 3) := by decide +kernel
theorem dX7_layer_82 : decode cX7_layer 82 = .ok (.i2l, 1) := by decide +kernel
theorem dX7_layer_83 : decode cX7_layer 83 = .ok (.ladd, 1) := by decide +kernel
theorem dX7_layer_84 : decode cX7_layer 84 = .ok (.putfield 91, 3) := by decide +kernel
theorem dX7_layer_87 : decode cX7_layer 87 = .ok (.aload_n 0, 1) := by decide +kernel
theorem dX7_layer_88 : decode cX7_layer 88 = .ok (.iload_n 1, 1) := by decide +kernel
theorem dX7_layer_89 : decode cX7_layer 89 = .ok (.invokevirtual 100, 3) := by decide +kernel
theorem dX7_layer_92 : decode cX7_layer 92 = .ok (.getfield 77, 3) := by decide +kernel
theorem dX7_layer_95 : decode cX7_layer 95 = .ok (.new 82, 3) := by decide +kernel
theorem dX7_layer_98 : decode cX7_layer 98 = .ok (.dup, 1) := by decide +kernel
theorem dX7_layer_99 : decode cX7_layer 99 = .ok (.aload 5, 2) := by decide +kernel
theorem dX7_layer_101 : decode cX7_layer 101 = .ok (.iload_n 3, 1) := by decide +kernel
theorem dX7_layer_102 : decode cX7_layer 102 = .ok (.invokespecial 84, 3) := by decide +kernel
theorem dX7_layer_105 : decode cX7_layer 105 = .ok (.invokevirtual 61, 3) := by decide +kernel
theorem dX7_layer_108 : decode cX7_layer 108 = .ok (.pop, 1) := by decide +kernel
theorem dX7_layer_109 : decode cX7_layer 109 = .ok (.aload 4, 2) := by decide +kernel
theorem dX7_layer_111 : decode cX7_layer 111 = .ok (.getfield 77, 3) := by decide +kernel
theorem dX7_layer_114 : decode cX7_layer 114 = .ok (.invokevirtual 47, 3) := by decide +kernel
theorem dX7_layer_117 : decode cX7_layer 117 = .ok (.ireturn, 1) := by decide +kernel
theorem dX7_wet_0 : decode cX7_wet 0 = .ok (.aload_n 0, 1) := by decide +kernel
theorem dX7_wet_1 : decode cX7_wet 1 = .ok (.iload_n 1, 1) := by decide +kernel
theorem dX7_wet_2 : decode cX7_wet 2 = .ok (.iload_n 2, 1) := by decide +kernel
theorem dX7_wet_3 : decode cX7_wet 3 = .ok (.invokevirtual 103, 3) := by decide +kernel
theorem dX7_wet_6 : decode cX7_wet 6 = .ok (.astore 4, 2) := by decide +kernel
theorem dX7_wet_8 : decode cX7_wet 8 = .ok (.iload_n 3, 1) := by decide +kernel
theorem dX7_wet_9 : decode cX7_wet 9 = .ok (.iconst 0, 1) := by decide +kernel
theorem dX7_wet_10 : decode cX7_wet 10 = .ok (.aload 4, 2) := by decide +kernel
theorem dX7_wet_12 : decode cX7_wet 12 = .ok (.getfield 107, 3) := by decide +kernel
theorem dX7_wet_15 : decode cX7_wet 15 = .ok (.invokestatic 73, 3) := by decide +kernel
theorem dX7_wet_18 : decode cX7_wet 18 = .ok (.aload 4, 2) := by decide +kernel
theorem dX7_wet_20 : decode cX7_wet 20 = .ok (.getfield 97, 3) := by decide +kernel
theorem dX7_wet_23 : decode cX7_wet 23 = .ok (.istore 5, 2) := by decide +kernel
theorem dX7_wet_25 : decode cX7_wet 25 = .ok (.aload 4, 2) := by decide +kernel
theorem dX7_wet_27 : decode cX7_wet 27 = .ok (.iload_n 3, 1) := by decide +kernel
theorem dX7_wet_28 : decode cX7_wet 28 = .ok (.putfield 97, 3) := by decide +kernel
theorem dX7_wet_31 : decode cX7_wet 31 = .ok (.aload_n 0, 1) := by decide +kernel
theorem dX7_wet_32 : decode cX7_wet 32 = .ok (.iload_n 1, 1) := by decide +kernel
theorem dX7_wet_33 : decode cX7_wet 33 = .ok (.invokevirtual 65, 3) := by decide +kernel
theorem dX7_wet_36 : decode cX7_wet 36 = .ok (.getfield 87, 3) := by decide +kernel
theorem dX7_wet_39 : decode cX7_wet 39 = .ok (.dup, 1) := by decide +kernel
theorem dX7_wet_40 : decode cX7_wet 40 = .ok (.getfield 91, 3) := by decide +kernel
theorem dX7_wet_43 : decode cX7_wet 43 = .ok (.iload_n 3, 1) := by decide +kernel
theorem dX7_wet_44 : decode cX7_wet 44 = .ok (.iload 5, 2) := by decide +kernel
theorem dX7_wet_46 : decode cX7_wet 46 = .ok (.isub, 1) := by decide +kernel
theorem dX7_wet_47 : decode cX7_wet 47 = .ok (.i2l, 1) := by decide +kernel
theorem dX7_wet_48 : decode cX7_wet 48 = .ok (.ladd, 1) := by decide +kernel
theorem dX7_wet_49 : decode cX7_wet 49 = .ok (.putfield 91, 3) := by decide +kernel
theorem dX7_wet_52 : decode cX7_wet 52 = .ok (.iload 5, 2) := by decide +kernel
theorem dX7_wet_54 : decode cX7_wet 54 = .ok (.ireturn, 1) := by decide +kernel
theorem dX7_water_0 : decode cX7_water 0 = .ok (.aload_n 0, 1) := by decide +kernel
theorem dX7_water_1 : decode cX7_water 1 = .ok (.iload_n 1, 1) := by decide +kernel
theorem dX7_water_2 : decode cX7_water 2 = .ok (.iload_n 2, 1) := by decide +kernel
theorem dX7_water_3 : decode cX7_water 3 = .ok (.invokevirtual 103, 3) := by decide +kernel
theorem dX7_water_6 : decode cX7_water 6 = .ok (.getfield 97, 3) := by decide +kernel
theorem dX7_water_9 : decode cX7_water 9 = .ok (.ireturn, 1) := by decide +kernel
theorem dX7_capacity_0 : decode cX7_capacity 0 = .ok (.aload_n 0, 1) := by decide +kernel
theorem dX7_capacity_1 : decode cX7_capacity 1 = .ok (.iload_n 1, 1) := by decide +kernel
theorem dX7_capacity_2 : decode cX7_capacity 2 = .ok (.iload_n 2, 1) := by decide +kernel
theorem dX7_capacity_3 : decode cX7_capacity 3 = .ok (.invokevirtual 103, 3) := by decide +kernel
theorem dX7_capacity_6 : decode cX7_capacity 6 = .ok (.getfield 107, 3) := by decide +kernel
theorem dX7_capacity_9 : decode cX7_capacity 9 = .ok (.ireturn, 1) := by decide +kernel
theorem dX7_link_0 : decode cX7_link 0 = .ok (.aload_n 0, 1) := by decide +kernel
theorem dX7_link_1 : decode cX7_link 1 = .ok (.iload_n 1, 1) := by decide +kernel
theorem dX7_link_2 : decode cX7_link 2 = .ok (.invokevirtual 65, 3) := by decide +kernel
theorem dX7_link_5 : decode cX7_link 5 = .ok (.astore_n 3, 1) := by decide +kernel
theorem dX7_link_6 : decode cX7_link 6 = .ok (.iload_n 2, 1) := by decide +kernel
theorem dX7_link_7 : decode cX7_link 7 = .ok (.iconst (-1), 1) := by decide +kernel
theorem dX7_link_8 : decode cX7_link 8 = .ok (.if_icmp .lt 14, 3) := by decide +kernel
theorem dX7_link_11 : decode cX7_link 11 = .ok (.iload_n 2, 1) := by decide +kernel
theorem dX7_link_12 : decode cX7_link 12 = .ok (.aload_n 0, 1) := by decide +kernel
theorem dX7_link_13 : decode cX7_link 13 = .ok (.getfield 10, 3) := by decide +kernel
theorem dX7_link_16 : decode cX7_link 16 = .ok (.invokevirtual 47, 3) := by decide +kernel
theorem dX7_link_19 : decode cX7_link 19 = .ok (.if_icmp .lt 13, 3) := by decide +kernel
theorem dX7_link_22 : decode cX7_link 22 = .ok (.new 110, 3) := by decide +kernel
theorem dX7_link_25 : decode cX7_link 25 = .ok (.dup, 1) := by decide +kernel
theorem dX7_link_26 : decode cX7_link 26 = .ok (.ldc 112, 2) := by decide +kernel
theorem dX7_link_28 : decode cX7_link 28 = .ok (.invokespecial 114, 3) := by decide +kernel
theorem dX7_link_31 : decode cX7_link 31 = .ok (.athrow, 1) := by decide +kernel
theorem dX7_link_32 : decode cX7_link 32 = .ok (.iload_n 2, 1) := by decide +kernel
theorem dX7_link_33 : decode cX7_link 33 = .ok (.iload_n 1, 1) := by decide +kernel
theorem dX7_link_34 : decode cX7_link 34 = .ok (.if_icmp .ne 13, 3) := by decide +kernel
theorem dX7_link_37 : decode cX7_link 37 = .ok (.new 40, 3) := by decide +kernel
theorem dX7_link_40 : decode cX7_link 40 = .ok (.dup, 1) := by decide +kernel
theorem dX7_link_41 : decode cX7_link 41 = .ok (.ldc 115, 2) := by decide +kernel
theorem dX7_link_43 : decode cX7_link 43 = .ok (.invokespecial 44, 3) := by decide +kernel
theorem dX7_link_46 : decode cX7_link 46 = .ok (.athrow, 1) := by decide +kernel
theorem dX7_link_47 : decode cX7_link 47 = .ok (.aload_n 3, 1) := by decide +kernel
theorem dX7_link_48 : decode cX7_link 48 = .ok (.getfield 117, 3) := by decide +kernel
theorem dX7_link_51 : decode cX7_link 51 = .ok (.istore 4, 2) := by decide +kernel
theorem dX7_link_53 : decode cX7_link 53 = .ok (.aload_n 3, 1) := by decide +kernel
theorem dX7_link_54 : decode cX7_link 54 = .ok (.iload_n 2, 1) := by decide +kernel
theorem dX7_link_55 : decode cX7_link 55 = .ok (.putfield 117, 3) := by decide +kernel
theorem dX7_link_58 : decode cX7_link 58 = .ok (.iload 4, 2) := by decide +kernel
theorem dX7_link_60 : decode cX7_link 60 = .ok (.ireturn, 1) := by decide +kernel
theorem dX7_scale_0 : decode cX7_scale 0 = .ok (.aload_n 0, 1) := by decide +kernel
theorem dX7_scale_1 : decode cX7_scale 1 = .ok (.iload_n 1, 1) := by decide +kernel
theorem dX7_scale_2 : decode cX7_scale 2 = .ok (.invokevirtual 65, 3) := by decide +kernel
theorem dX7_scale_5 : decode cX7_scale 5 = .ok (.astore_n 3, 1) := by decide +kernel
theorem dX7_scale_6 : decode cX7_scale 6 = .ok (.iload_n 2, 1) := by decide +kernel
theorem dX7_scale_7 : decode cX7_scale 7 = .ok (.bipush 10, 2) := by decide +kernel
theorem dX7_scale_9 : decode cX7_scale 9 = .ok (.sipush 400, 3) := by decide +kernel
theorem dX7_scale_12 : decode cX7_scale 12 = .ok (.invokestatic 73, 3) := by decide +kernel
theorem dX7_scale_15 : decode cX7_scale 15 = .ok (.aload_n 3, 1) := by decide +kernel
theorem dX7_scale_16 : decode cX7_scale 16 = .ok (.getfield 120, 3) := by decide +kernel
theorem dX7_scale_19 : decode cX7_scale 19 = .ok (.istore 4, 2) := by decide +kernel
theorem dX7_scale_21 : decode cX7_scale 21 = .ok (.aload_n 3, 1) := by decide +kernel
theorem dX7_scale_22 : decode cX7_scale 22 = .ok (.iload_n 2, 1) := by decide +kernel
theorem dX7_scale_23 : decode cX7_scale 23 = .ok (.putfield 120, 3) := by decide +kernel
theorem dX7_scale_26 : decode cX7_scale 26 = .ok (.iload 4, 2) := by decide +kernel
theorem dX7_scale_28 : decode cX7_scale 28 = .ok (.ireturn, 1) := by decide +kernel
theorem dX7_plant_0 : decode cX7_plant 0 = .ok (.aload_n 0, 1) := by decide +kernel
theorem dX7_plant_1 : decode cX7_plant 1 = .ok (.iload_n 1, 1) := by decide +kernel
theorem dX7_plant_2 : decode cX7_plant 2 = .ok (.invokevirtual 65, 3) := by decide +kernel
theorem dX7_plant_5 : decode cX7_plant 5 = .ok (.astore 4, 2) := by decide +kernel
theorem dX7_plant_7 : decode cX7_plant 7 = .ok (.iload_n 2, 1) := by decide +kernel
theorem dX7_plant_8 : decode cX7_plant 8 = .ok (.iconst 1, 1) := by decide +kernel
theorem dX7_plant_9 : decode cX7_plant 9 = .ok (.bipush 8, 2) := by decide +kernel
theorem dX7_plant_11 : decode cX7_plant 11 = .ok (.invokestatic 73, 3) := by decide +kernel
theorem dX7_plant_14 : decode cX7_plant 14 = .ok (.iload_n 3, 1) := by decide +kernel
theorem dX7_plant_15 : decode cX7_plant 15 = .ok (.iconst 0, 1) := by decide +kernel
theorem dX7_plant_16 : decode cX7_plant 16 = .ok (.bipush 50, 2) := by decide +kernel
theorem dX7_plant_18 : decode cX7_plant 18 = .ok (.invokestatic 73, 3) := by decide +kernel
theorem dX7_plant_21 : decode cX7_plant 21 = .ok (.aload 4, 2) := by decide +kernel
theorem dX7_plant_23 : decode cX7_plant 23 = .ok (.getfield 123, 3) := by decide +kernel
theorem dX7_plant_26 : decode cX7_plant 26 = .ok (.invokevirtual 47, 3) := by decide +kernel
theorem dX7_plant_29 : decode cX7_plant 29 = .ok (.iconst 2, 1) := by decide +kernel
theorem dX7_plant_30 : decode cX7_plant 30 = .ok (.if_icmp .lt 13, 3) := by decide +kernel
theorem dX7_plant_33 : decode cX7_plant 33 = .ok (.new 51, 3) := by decide +kernel
theorem dX7_plant_36 : decode cX7_plant 36 = .ok (.dup, 1) := by decide +kernel
theorem dX7_plant_37 : decode cX7_plant 37 = .ok (.ldc 126, 2) := by decide +kernel
theorem dX7_plant_39 : decode cX7_plant 39 = .ok (.invokespecial 55, 3) := by decide +kernel
theorem dX7_plant_42 : decode cX7_plant 42 = .ok (.athrow, 1) := by decide +kernel
theorem dX7_plant_43 : decode cX7_plant 43 = .ok (.aload 4, 2) := by decide +kernel
theorem dX7_plant_45 : decode cX7_plant 45 = .ok (.getfield 123, 3) := by decide +kernel
theorem dX7_plant_48 : decode cX7_plant 48 = .ok (.new 128, 3) := by decide +kernel
theorem dX7_plant_51 : decode cX7_plant 51 = .ok (.dup, 1) := by decide +kernel
theorem dX7_plant_52 : decode cX7_plant 52 = .ok (.iload_n 2, 1) := by decide +kernel
theorem dX7_plant_53 : decode cX7_plant 53 = .ok (.iload_n 3, 1) := by decide +kernel
theorem dX7_plant_54 : decode cX7_plant 54 = .ok (.invokespecial 130, 3) := by decide +kernel
theorem dX7_plant_57 : decode cX7_plant 57 = .ok (.invokevirtual 61, 3) := by decide +kernel
theorem dX7_plant_60 : decode cX7_plant 60 = .ok (.pop, 1) := by decide +kernel
theorem dX7_plant_61 : decode cX7_plant 61 = .ok (.aload_n 0, 1) := by decide +kernel
theorem dX7_plant_62 : decode cX7_plant 62 = .ok (.iload_n 1, 1) := by decide +kernel
theorem dX7_plant_63 : decode cX7_plant 63 = .ok (.invokevirtual 100, 3) := by decide +kernel
theorem dX7_plant_66 : decode cX7_plant 66 = .ok (.getfield 123, 3) := by decide +kernel
theorem dX7_plant_69 : decode cX7_plant 69 = .ok (.new 128, 3) := by decide +kernel
theorem dX7_plant_72 : decode cX7_plant 72 = .ok (.dup, 1) := by decide +kernel
theorem dX7_plant_73 : decode cX7_plant 73 = .ok (.iload_n 2, 1) := by decide +kernel
theorem dX7_plant_74 : decode cX7_plant 74 = .ok (.iload_n 3, 1) := by decide +kernel
theorem dX7_plant_75 : decode cX7_plant 75 = .ok (.invokespecial 130, 3) := by decide +kernel
theorem dX7_plant_78 : decode cX7_plant 78 = .ok (.invokevirtual 61, 3) := by decide +kernel
theorem dX7_plant_81 : decode cX7_plant 81 = .ok (.pop, 1) := by decide +kernel
theorem dX7_plant_82 : decode cX7_plant 82 = .ok (.aload 4, 2) := by decide +kernel
theorem dX7_plant_84 : decode cX7_plant 84 = .ok (.getfield 123, 3) := by decide +kernel
theorem dX7_plant_87 : decode cX7_plant 87 = .ok (.invokevirtual 47, 3) := by decide +kernel
theorem dX7_plant_90 : decode cX7_plant 90 = .ok (.ireturn, 1) := by decide +kernel
theorem dX7_harvest_0 : decode cX7_harvest 0 = .ok (.aload_n 0, 1) := by decide +kernel
theorem dX7_harvest_1 : decode cX7_harvest 1 = .ok (.iload_n 1, 1) := by decide +kernel
theorem dX7_harvest_2 : decode cX7_harvest 2 = .ok (.invokevirtual 65, 3) := by decide +kernel
theorem dX7_harvest_5 : decode cX7_harvest 5 = .ok (.astore_n 2, 1) := by decide +kernel
theorem dX7_harvest_6 : decode cX7_harvest 6 = .ok (.aload_n 2, 1) := by decide +kernel
theorem dX7_harvest_7 : decode cX7_harvest 7 = .ok (.getfield 123, 3) := by decide +kernel
theorem dX7_harvest_10 : decode cX7_harvest 10 = .ok (.invokevirtual 47, 3) := by decide +kernel
theorem dX7_harvest_13 : decode cX7_harvest 13 = .ok (.istore_n 3, 1) := by decide +kernel
theorem dX7_harvest_14 : decode cX7_harvest 14 = .ok (.aload_n 2, 1) := by decide +kernel
theorem dX7_harvest_15 : decode cX7_harvest 15 = .ok (.getfield 123, 3) := by decide +kernel
theorem dX7_harvest_18 : decode cX7_harvest 18 = .ok (.invokevirtual 133, 3) := by decide +kernel
theorem dX7_harvest_21 : decode cX7_harvest 21 = .ok (.aload_n 0, 1) := by decide +kernel
theorem dX7_harvest_22 : decode cX7_harvest 22 = .ok (.iload_n 1, 1) := by decide +kernel
theorem dX7_harvest_23 : decode cX7_harvest 23 = .ok (.invokevirtual 100, 3) := by decide +kernel
theorem dX7_harvest_26 : decode cX7_harvest 26 = .ok (.getfield 123, 3) := by decide +kernel
theorem dX7_harvest_29 : decode cX7_harvest 29 = .ok (.invokevirtual 133, 3) := by decide +kernel
theorem dX7_harvest_32 : decode cX7_harvest 32 = .ok (.iload_n 3, 1) := by decide +kernel
theorem dX7_harvest_33 : decode cX7_harvest 33 = .ok (.ireturn, 1) := by decide +kernel
theorem dX7_stress_0 : decode cX7_stress 0 = .ok (.aload_n 0, 1) := by decide +kernel
theorem dX7_stress_1 : decode cX7_stress 1 = .ok (.iload_n 1, 1) := by decide +kernel
theorem dX7_stress_2 : decode cX7_stress 2 = .ok (.invokevirtual 65, 3) := by decide +kernel
theorem dX7_stress_5 : decode cX7_stress 5 = .ok (.astore_n 3, 1) := by decide +kernel
theorem dX7_stress_6 : decode cX7_stress 6 = .ok (.iload_n 2, 1) := by decide +kernel
theorem dX7_stress_7 : decode cX7_stress 7 = .ok (.ifCond .lt 14, 3) := by decide +kernel
theorem dX7_stress_10 : decode cX7_stress 10 = .ok (.iload_n 2, 1) := by decide +kernel
theorem dX7_stress_11 : decode cX7_stress 11 = .ok (.aload_n 3, 1) := by decide +kernel
theorem dX7_stress_12 : decode cX7_stress 12 = .ok (.getfield 123, 3) := by decide +kernel
theorem dX7_stress_15 : decode cX7_stress 15 = .ok (.invokevirtual 47, 3) := by decide +kernel
theorem dX7_stress_18 : decode cX7_stress 18 = .ok (.if_icmp .lt 13, 3) := by decide +kernel
theorem dX7_stress_21 : decode cX7_stress 21 = .ok (.new 136, 3) := by decide +kernel
theorem dX7_stress_24 : decode cX7_stress 24 = .ok (.dup, 1) := by decide +kernel
theorem dX7_stress_25 : decode cX7_stress 25 = .ok (.ldc 138, 2) := by decide +kernel
theorem dX7_stress_27 : decode cX7_stress 27 = .ok (.invokespecial 140, 3) := by decide +kernel
theorem dX7_stress_30 : decode cX7_stress 30 = .ok (.athrow, 1) := by decide +kernel
theorem dX7_stress_31 : decode cX7_stress 31 = .ok (.aload_n 3, 1) := by decide +kernel
theorem dX7_stress_32 : decode cX7_stress 32 = .ok (.getfield 123, 3) := by decide +kernel
theorem dX7_stress_35 : decode cX7_stress 35 = .ok (.iload_n 2, 1) := by decide +kernel
theorem dX7_stress_36 : decode cX7_stress 36 = .ok (.invokevirtual 141, 3) := by decide +kernel
theorem dX7_stress_39 : decode cX7_stress 39 = .ok (.checkcast 128, 3) := by decide +kernel
theorem dX7_stress_42 : decode cX7_stress 42 = .ok (.getfield 145, 3) := by decide +kernel
theorem dX7_stress_45 : decode cX7_stress 45 = .ok (.l2i, 1) := by decide +kernel
theorem dX7_stress_46 : decode cX7_stress 46 = .ok (.ireturn, 1) := by decide +kernel
theorem dX7_mulch_0 : decode cX7_mulch 0 = .ok (.aload_n 0, 1) := by decide +kernel
theorem dX7_mulch_1 : decode cX7_mulch 1 = .ok (.iload_n 1, 1) := by decide +kernel
theorem dX7_mulch_2 : decode cX7_mulch 2 = .ok (.invokevirtual 65, 3) := by decide +kernel
theorem dX7_mulch_5 : decode cX7_mulch 5 = .ok (.astore_n 3, 1) := by decide +kernel
theorem dX7_mulch_6 : decode cX7_mulch 6 = .ok (.aload_n 3, 1) := by decide +kernel
theorem dX7_mulch_7 : decode cX7_mulch 7 = .ok (.getfield 148, 3) := by decide +kernel
theorem dX7_mulch_10 : decode cX7_mulch 10 = .ok (.istore 4, 2) := by decide +kernel
theorem dX7_mulch_12 : decode cX7_mulch 12 = .ok (.aload_n 3, 1) := by decide +kernel
theorem dX7_mulch_13 : decode cX7_mulch 13 = .ok (.iload_n 2, 1) := by decide +kernel
theorem dX7_mulch_14 : decode cX7_mulch 14 = .ok (.putfield 148, 3) := by decide +kernel
theorem dX7_mulch_17 : decode cX7_mulch 17 = .ok (.iload 4, 2) := by decide +kernel
theorem dX7_mulch_19 : decode cX7_mulch 19 = .ok (.ireturn, 1) := by decide +kernel
theorem dX7_rule_0 : decode cX7_rule 0 = .ok (.aload_n 0, 1) := by decide +kernel
theorem dX7_rule_1 : decode cX7_rule 1 = .ok (.iload_n 1, 1) := by decide +kernel
theorem dX7_rule_2 : decode cX7_rule 2 = .ok (.invokevirtual 65, 3) := by decide +kernel
theorem dX7_rule_5 : decode cX7_rule 5 = .ok (.astore 4, 2) := by decide +kernel
theorem dX7_rule_7 : decode cX7_rule 7 = .ok (.iload_n 2, 1) := by decide +kernel
theorem dX7_rule_8 : decode cX7_rule 8 = .ok (.iconst 0, 1) := by decide +kernel
theorem dX7_rule_9 : decode cX7_rule 9 = .ok (.sipush 9999, 3) := by decide +kernel
theorem dX7_rule_12 : decode cX7_rule 12 = .ok (.invokestatic 73, 3) := by decide +kernel
theorem dX7_rule_15 : decode cX7_rule 15 = .ok (.iload_n 3, 1) := by decide +kernel
theorem dX7_rule_16 : decode cX7_rule 16 = .ok (.iconst 0, 1) := by decide +kernel
theorem dX7_rule_17 : decode cX7_rule 17 = .ok (.sipush 200, 3) := by decide +kernel
theorem dX7_rule_20 : decode cX7_rule 20 = .ok (.invokestatic 73, 3) := by decide +kernel
theorem dX7_rule_23 : decode cX7_rule 23 = .ok (.aload 4, 2) := by decide +kernel
theorem dX7_rule_25 : decode cX7_rule 25 = .ok (.getfield 152, 3) := by decide +kernel
theorem dX7_rule_28 : decode cX7_rule 28 = .ok (.istore 5, 2) := by decide +kernel
theorem dX7_rule_30 : decode cX7_rule 30 = .ok (.aload 4, 2) := by decide +kernel
theorem dX7_rule_32 : decode cX7_rule 32 = .ok (.iload_n 2, 1) := by decide +kernel
theorem dX7_rule_33 : decode cX7_rule 33 = .ok (.putfield 152, 3) := by decide +kernel
theorem dX7_rule_36 : decode cX7_rule 36 = .ok (.aload 4, 2) := by decide +kernel
theorem dX7_rule_38 : decode cX7_rule 38 = .ok (.iload_n 3, 1) := by decide +kernel
theorem dX7_rule_39 : decode cX7_rule 39 = .ok (.putfield 155, 3) := by decide +kernel
theorem dX7_rule_42 : decode cX7_rule 42 = .ok (.iload 5, 2) := by decide +kernel
theorem dX7_rule_44 : decode cX7_rule 44 = .ok (.ireturn, 1) := by decide +kernel
theorem dX7_spread_0 : decode cX7_spread 0 = .ok (.aload_n 0, 1) := by decide +kernel
theorem dX7_spread_1 : decode cX7_spread 1 = .ok (.iload_n 1, 1) := by decide +kernel
theorem dX7_spread_2 : decode cX7_spread 2 = .ok (.invokevirtual 65, 3) := by decide +kernel
theorem dX7_spread_5 : decode cX7_spread 5 = .ok (.astore 4, 2) := by decide +kernel
theorem dX7_spread_7 : decode cX7_spread 7 = .ok (.iload_n 2, 1) := by decide +kernel
theorem dX7_spread_8 : decode cX7_spread 8 = .ok (.invokestatic 158, 3) := by decide +kernel
theorem dX7_spread_11 : decode cX7_spread 11 = .ok (.istore 5, 2) := by decide +kernel
theorem dX7_spread_13 : decode cX7_spread 13 = .ok (.iload_n 3, 1) := by decide +kernel
theorem dX7_spread_14 : decode cX7_spread 14 = .ok (.iconst 1, 1) := by decide +kernel
theorem dX7_spread_15 : decode cX7_spread 15 = .ok (.ldc 162, 2) := by decide +kernel
theorem dX7_spread_17 : decode cX7_spread 17 = .ok (.invokestatic 73, 3) := by decide +kernel
theorem dX7_spread_20 : decode cX7_spread 20 = .ok (.aload 4, 2) := by decide +kernel
theorem dX7_spread_22 : decode cX7_spread 22 = .ok (.invokevirtual 163, 3) := by decide +kernel
theorem dX7_spread_25 : decode cX7_spread 25 = .ok (.astore 6, 2) := by decide +kernel
theorem dX7_spread_27 : decode cX7_spread 27 = .ok (.aload 6, 2) := by decide +kernel
theorem dX7_spread_29 : decode cX7_spread 29 = .ok (.ifnonnull 13, 3) := by decide +kernel
theorem dX7_spread_32 : decode cX7_spread 32 = .ok (.new 167, 3) := by decide +kernel
theorem dX7_spread_35 : decode cX7_spread 35 = .ok (.dup, 1) := by decide +kernel
theorem dX7_spread_36 : decode cX7_spread 36 = .ok (.ldc 169, 2) := by decide +kernel
theorem dX7_spread_38 : decode cX7_spread 38 = .ok (.invokespecial 171, 3) := by decide +kernel
theorem dX7_spread_41 : decode cX7_spread 41 = .ok (.athrow, 1) := by decide +kernel
theorem dX7_spread_42 : decode cX7_spread 42 = .ok (.aload 6, 2) := by decide +kernel
theorem dX7_spread_44 : decode cX7_spread 44 = .ok (.getfield 172, 3) := by decide +kernel
theorem dX7_spread_47 : decode cX7_spread 47 = .ok (.iload 5, 2) := by decide +kernel
theorem dX7_spread_49 : decode cX7_spread 49 = .ok (.iload_n 3, 1) := by decide +kernel
theorem dX7_spread_50 : decode cX7_spread 50 = .ok (.i2l, 1) := by decide +kernel
theorem dX7_spread_51 : decode cX7_spread 51 = .ok (.invokevirtual 176, 3) := by decide +kernel
theorem dX7_spread_54 : decode cX7_spread 54 = .ok (.aload 4, 2) := by decide +kernel
theorem dX7_spread_56 : decode cX7_spread 56 = .ok (.getfield 87, 3) := by decide +kernel
theorem dX7_spread_59 : decode cX7_spread 59 = .ok (.getfield 182, 3) := by decide +kernel
theorem dX7_spread_62 : decode cX7_spread 62 = .ok (.iload 5, 2) := by decide +kernel
theorem dX7_spread_64 : decode cX7_spread 64 = .ok (.iload_n 3, 1) := by decide +kernel
theorem dX7_spread_65 : decode cX7_spread 65 = .ok (.i2l, 1) := by decide +kernel
theorem dX7_spread_66 : decode cX7_spread 66 = .ok (.invokevirtual 176, 3) := by decide +kernel
theorem dX7_spread_69 : decode cX7_spread 69 = .ok (.aload 6, 2) := by decide +kernel
theorem dX7_spread_71 : decode cX7_spread 71 = .ok (.getfield 172, 3) := by decide +kernel
theorem dX7_spread_74 : decode cX7_spread 74 = .ok (.iload 5, 2) := by decide +kernel
theorem dX7_spread_76 : decode cX7_spread 76 = .ok (.invokevirtual 185, 3) := by decide +kernel
theorem dX7_spread_79 : decode cX7_spread 79 = .ok (.lreturn, 1) := by decide +kernel
theorem dX7_manure_0 : decode cX7_manure 0 = .ok (.aload_n 0, 1) := by decide +kernel
theorem dX7_manure_1 : decode cX7_manure 1 = .ok (.iload_n 1, 1) := by decide +kernel
theorem dX7_manure_2 : decode cX7_manure 2 = .ok (.invokevirtual 65, 3) := by decide +kernel
theorem dX7_manure_5 : decode cX7_manure 5 = .ok (.astore_n 3, 1) := by decide +kernel
theorem dX7_manure_6 : decode cX7_manure 6 = .ok (.iload_n 2, 1) := by decide +kernel
theorem dX7_manure_7 : decode cX7_manure 7 = .ok (.iconst 1, 1) := by decide +kernel
theorem dX7_manure_8 : decode cX7_manure 8 = .ok (.ldc 162, 2) := by decide +kernel
theorem dX7_manure_10 : decode cX7_manure 10 = .ok (.invokestatic 73, 3) := by decide +kernel
theorem dX7_manure_13 : decode cX7_manure 13 = .ok (.aload_n 3, 1) := by decide +kernel
theorem dX7_manure_14 : decode cX7_manure 14 = .ok (.dup, 1) := by decide +kernel
theorem dX7_manure_15 : decode cX7_manure 15 = .ok (.getfield 189, 3) := by decide +kernel
theorem dX7_manure_18 : decode cX7_manure 18 = .ok (.iload_n 2, 1) := by decide +kernel
theorem dX7_manure_19 : decode cX7_manure 19 = .ok (.i2l, 1) := by decide +kernel
theorem dX7_manure_20 : decode cX7_manure 20 = .ok (.ladd, 1) := by decide +kernel
theorem dX7_manure_21 : decode cX7_manure 21 = .ok (.putfield 189, 3) := by decide +kernel
theorem dX7_manure_24 : decode cX7_manure 24 = .ok (.aload_n 3, 1) := by decide +kernel
theorem dX7_manure_25 : decode cX7_manure 25 = .ok (.getfield 189, 3) := by decide +kernel
theorem dX7_manure_28 : decode cX7_manure 28 = .ok (.lreturn, 1) := by decide +kernel
theorem dX7_solute_0 : decode cX7_solute 0 = .ok (.aload_n 0, 1) := by decide +kernel
theorem dX7_solute_1 : decode cX7_solute 1 = .ok (.iload_n 1, 1) := by decide +kernel
theorem dX7_solute_2 : decode cX7_solute 2 = .ok (.iload_n 2, 1) := by decide +kernel
theorem dX7_solute_3 : decode cX7_solute 3 = .ok (.invokevirtual 103, 3) := by decide +kernel
theorem dX7_solute_6 : decode cX7_solute 6 = .ok (.astore 4, 2) := by decide +kernel
theorem dX7_solute_8 : decode cX7_solute 8 = .ok (.aload 4, 2) := by decide +kernel
theorem dX7_solute_10 : decode cX7_solute 10 = .ok (.getfield 172, 3) := by decide +kernel
theorem dX7_solute_13 : decode cX7_solute 13 = .ok (.iload_n 3, 1) := by decide +kernel
theorem dX7_solute_14 : decode cX7_solute 14 = .ok (.invokestatic 158, 3) := by decide +kernel
theorem dX7_solute_17 : decode cX7_solute 17 = .ok (.invokevirtual 185, 3) := by decide +kernel
theorem dX7_solute_20 : decode cX7_solute 20 = .ok (.lreturn, 1) := by decide +kernel
theorem dX7_out_0 : decode cX7_out 0 = .ok (.aload_n 0, 1) := by decide +kernel
theorem dX7_out_1 : decode cX7_out 1 = .ok (.iload_n 1, 1) := by decide +kernel
theorem dX7_out_2 : decode cX7_out 2 = .ok (.invokevirtual 65, 3) := by decide +kernel
theorem dX7_out_5 : decode cX7_out 5 = .ok (.astore_n 3, 1) := by decide +kernel
theorem dX7_out_6 : decode cX7_out 6 = .ok (.aload_n 3, 1) := by decide +kernel
theorem dX7_out_7 : decode cX7_out 7 = .ok (.getfield 87, 3) := by decide +kernel
theorem dX7_out_10 : decode cX7_out 10 = .ok (.getfield 192, 3) := by decide +kernel
theorem dX7_out_13 : decode cX7_out 13 = .ok (.iload_n 2, 1) := by decide +kernel
theorem dX7_out_14 : decode cX7_out 14 = .ok (.invokestatic 158, 3) := by decide +kernel
theorem dX7_out_17 : decode cX7_out 17 = .ok (.invokevirtual 185, 3) := by decide +kernel
theorem dX7_out_20 : decode cX7_out 20 = .ok (.lreturn, 1) := by decide +kernel
theorem dX7_eaten_0 : decode cX7_eaten 0 = .ok (.aload_n 0, 1) := by decide +kernel
theorem dX7_eaten_1 : decode cX7_eaten 1 = .ok (.iload_n 1, 1) := by decide +kernel
theorem dX7_eaten_2 : decode cX7_eaten 2 = .ok (.invokevirtual 65, 3) := by decide +kernel
theorem dX7_eaten_5 : decode cX7_eaten 5 = .ok (.getfield 87, 3) := by decide +kernel
theorem dX7_eaten_8 : decode cX7_eaten 8 = .ok (.getfield 195, 3) := by decide +kernel
theorem dX7_eaten_11 : decode cX7_eaten 11 = .ok (.lreturn, 1) := by decide +kernel
theorem dX7_weather_0 : decode cX7_weather 0 = .ok (.iload_n 1, 1) := by decide +kernel
theorem dX7_weather_1 : decode cX7_weather 1 = .ok (.bipush (-30), 2) := by decide +kernel
theorem dX7_weather_3 : decode cX7_weather 3 = .ok (.bipush 45, 2) := by decide +kernel
theorem dX7_weather_5 : decode cX7_weather 5 = .ok (.invokestatic 73, 3) := by decide +kernel
theorem dX7_weather_8 : decode cX7_weather 8 = .ok (.iload_n 2, 1) := by decide +kernel
theorem dX7_weather_9 : decode cX7_weather 9 = .ok (.iconst 0, 1) := by decide +kernel
theorem dX7_weather_10 : decode cX7_weather 10 = .ok (.sipush 999, 3) := by decide +kernel
theorem dX7_weather_13 : decode cX7_weather 13 = .ok (.invokestatic 73, 3) := by decide +kernel
theorem dX7_weather_16 : decode cX7_weather 16 = .ok (.iload_n 3, 1) := by decide +kernel
theorem dX7_weather_17 : decode cX7_weather 17 = .ok (.iconst 0, 1) := by decide +kernel
theorem dX7_weather_18 : decode cX7_weather 18 = .ok (.bipush 99, 2) := by decide +kernel
theorem dX7_weather_20 : decode cX7_weather 20 = .ok (.invokestatic 73, 3) := by decide +kernel
theorem dX7_weather_23 : decode cX7_weather 23 = .ok (.aload_n 0, 1) := by decide +kernel
theorem dX7_weather_24 : decode cX7_weather 24 = .ok (.getfield 22, 3) := by decide +kernel
theorem dX7_weather_27 : decode cX7_weather 27 = .ok (.getfield 198, 3) := by decide +kernel
theorem dX7_weather_30 : decode cX7_weather 30 = .ok (.istore 4, 2) := by decide +kernel
theorem dX7_weather_32 : decode cX7_weather 32 = .ok (.aload_n 0, 1) := by decide +kernel
theorem dX7_weather_33 : decode cX7_weather 33 = .ok (.getfield 22, 3) := by decide +kernel
theorem dX7_weather_36 : decode cX7_weather 36 = .ok (.iload_n 1, 1) := by decide +kernel
theorem dX7_weather_37 : decode cX7_weather 37 = .ok (.putfield 198, 3) := by decide +kernel
theorem dX7_weather_40 : decode cX7_weather 40 = .ok (.aload_n 0, 1) := by decide +kernel
theorem dX7_weather_41 : decode cX7_weather 41 = .ok (.getfield 22, 3) := by decide +kernel
theorem dX7_weather_44 : decode cX7_weather 44 = .ok (.iload_n 2, 1) := by decide +kernel
theorem dX7_weather_45 : decode cX7_weather 45 = .ok (.putfield 201, 3) := by decide +kernel
theorem dX7_weather_48 : decode cX7_weather 48 = .ok (.aload_n 0, 1) := by decide +kernel
theorem dX7_weather_49 : decode cX7_weather 49 = .ok (.getfield 22, 3) := by decide +kernel
theorem dX7_weather_52 : decode cX7_weather 52 = .ok (.iload_n 3, 1) := by decide +kernel
theorem dX7_weather_53 : decode cX7_weather 53 = .ok (.putfield 204, 3) := by decide +kernel
theorem dX7_weather_56 : decode cX7_weather 56 = .ok (.iload 4, 2) := by decide +kernel
theorem dX7_weather_58 : decode cX7_weather 58 = .ok (.ireturn, 1) := by decide +kernel
theorem dX7_law_0 : decode cX7_law 0 = .ok (.iload_n 1, 1) := by decide +kernel
theorem dX7_law_1 : decode cX7_law 1 = .ok (.iconst 0, 1) := by decide +kernel
theorem dX7_law_2 : decode cX7_law 2 = .ok (.sipush 9999, 3) := by decide +kernel
theorem dX7_law_5 : decode cX7_law 5 = .ok (.invokestatic 73, 3) := by decide +kernel
theorem dX7_law_8 : decode cX7_law 8 = .ok (.iload_n 2, 1) := by decide +kernel
theorem dX7_law_9 : decode cX7_law 9 = .ok (.iconst 0, 1) := by decide +kernel
theorem dX7_law_10 : decode cX7_law 10 = .ok (.sipush 999, 3) := by decide +kernel
theorem dX7_law_13 : decode cX7_law 13 = .ok (.invokestatic 73, 3) := by decide +kernel
theorem dX7_law_16 : decode cX7_law 16 = .ok (.aload_n 0, 1) := by decide +kernel
theorem dX7_law_17 : decode cX7_law 17 = .ok (.getfield 30, 3) := by decide +kernel
theorem dX7_law_20 : decode cX7_law 20 = .ok (.istore_n 3, 1) := by decide +kernel
theorem dX7_law_21 : decode cX7_law 21 = .ok (.aload_n 0, 1) := by decide +kernel
theorem dX7_law_22 : decode cX7_law 22 = .ok (.iload_n 1, 1) := by decide +kernel
theorem dX7_law_23 : decode cX7_law 23 = .ok (.putfield 30, 3) := by decide +kernel
theorem dX7_law_26 : decode cX7_law 26 = .ok (.aload_n 0, 1) := by decide +kernel
theorem dX7_law_27 : decode cX7_law 27 = .ok (.iload_n 2, 1) := by decide +kernel
theorem dX7_law_28 : decode cX7_law 28 = .ok (.putfield 34, 3) := by decide +kernel
theorem dX7_law_31 : decode cX7_law 31 = .ok (.iload_n 3, 1) := by decide +kernel
theorem dX7_law_32 : decode cX7_law 32 = .ok (.ireturn, 1) := by decide +kernel
theorem dX7_hours_0 : decode cX7_hours 0 = .ok (.iload_n 1, 1) := by decide +kernel
theorem dX7_hours_1 : decode cX7_hours 1 = .ok (.iconst 1, 1) := by decide +kernel
theorem dX7_hours_2 : decode cX7_hours 2 = .ok (.bipush 48, 2) := by decide +kernel
theorem dX7_hours_4 : decode cX7_hours 4 = .ok (.invokestatic 73, 3) := by decide +kernel
theorem dX7_hours_7 : decode cX7_hours 7 = .ok (.iconst 0, 1) := by decide +kernel
theorem dX7_hours_8 : decode cX7_hours 8 = .ok (.istore_n 2, 1) := by decide +kernel
theorem dX7_hours_9 : decode cX7_hours 9 = .ok (.iload_n 2, 1) := by decide +kernel
theorem dX7_hours_10 : decode cX7_hours 10 = .ok (.iload_n 1, 1) := by decide +kernel
theorem dX7_hours_11 : decode cX7_hours 11 = .ok (.if_icmp .ge 53, 3) := by decide +kernel
theorem dX7_hours_14 : decode cX7_hours 14 = .ok (.iconst 0, 1) := by decide +kernel
theorem dX7_hours_15 : decode cX7_hours 15 = .ok (.istore_n 3, 1) := by decide +kernel
theorem dX7_hours_16 : decode cX7_hours 16 = .ok (.iload_n 3, 1) := by decide +kernel
theorem dX7_hours_17 : decode cX7_hours 17 = .ok (.aload_n 0, 1) := by decide +kernel
theorem dX7_hours_18 : decode cX7_hours 18 = .ok (.getfield 10, 3) := by decide +kernel
theorem dX7_hours_21 : decode cX7_hours 21 = .ok (.invokevirtual 47, 3) := by decide +kernel
theorem dX7_hours_24 : decode cX7_hours 24 = .ok (.if_icmp .ge 24, 3) := by decide +kernel
theorem dX7_hours_27 : decode cX7_hours 27 = .ok (.aload_n 0, 1) := by decide +kernel
theorem dX7_hours_28 : decode cX7_hours 28 = .ok (.aload_n 0, 1) := by decide +kernel
theorem dX7_hours_29 : decode cX7_hours 29 = .ok (.getfield 10, 3) := by decide +kernel
theorem dX7_hours_32 : decode cX7_hours 32 = .ok (.iload_n 3, 1) := by decide +kernel
theorem dX7_hours_33 : decode cX7_hours 33 = .ok (.invokevirtual 141, 3) := by decide +kernel
theorem dX7_hours_36 : decode cX7_hours 36 = .ok (.checkcast 56, 3) := by decide +kernel
theorem dX7_hours_39 : decode cX7_hours 39 = .ok (.invokevirtual 207, 3) := by decide +kernel
theorem dX7_hours_42 : decode cX7_hours 42 = .ok (.iinc 3 1, 3) := by decide +kernel
theorem dX7_hours_45 : decode cX7_hours 45 = .ok (.goto (-29), 3) := by decide +kernel
theorem dX7_hours_48 : decode cX7_hours 48 = .ok (.aload_n 0, 1) := by decide +kernel
theorem dX7_hours_49 : decode cX7_hours 49 = .ok (.dup, 1) := by decide +kernel
theorem dX7_hours_50 : decode cX7_hours 50 = .ok (.getfield 37, 3) := by decide +kernel
theorem dX7_hours_53 : decode cX7_hours 53 = .ok (.iconst 1, 1) := by decide +kernel
theorem dX7_hours_54 : decode cX7_hours 54 = .ok (.iadd, 1) := by decide +kernel
theorem dX7_hours_55 : decode cX7_hours 55 = .ok (.putfield 37, 3) := by decide +kernel
theorem dX7_hours_58 : decode cX7_hours 58 = .ok (.iinc 2 1, 3) := by decide +kernel
theorem dX7_hours_61 : decode cX7_hours 61 = .ok (.goto (-52), 3) := by decide +kernel
theorem dX7_hours_64 : decode cX7_hours 64 = .ok (.aload_n 0, 1) := by decide +kernel
theorem dX7_hours_65 : decode cX7_hours 65 = .ok (.getfield 37, 3) := by decide +kernel
theorem dX7_hours_68 : decode cX7_hours 68 = .ok (.ireturn, 1) := by decide +kernel
theorem dX7_standing_0 : decode cX7_standing 0 = .ok (.aload_n 0, 1) := by decide +kernel
theorem dX7_standing_1 : decode cX7_standing 1 = .ok (.iload_n 1, 1) := by decide +kernel
theorem dX7_standing_2 : decode cX7_standing 2 = .ok (.invokevirtual 65, 3) := by decide +kernel
theorem dX7_standing_5 : decode cX7_standing 5 = .ok (.getfield 211, 3) := by decide +kernel
theorem dX7_standing_8 : decode cX7_standing 8 = .ok (.ireturn, 1) := by decide +kernel
theorem dX7_recharge_0 : decode cX7_recharge 0 = .ok (.aload_n 0, 1) := by decide +kernel
theorem dX7_recharge_1 : decode cX7_recharge 1 = .ok (.iload_n 1, 1) := by decide +kernel
theorem dX7_recharge_2 : decode cX7_recharge 2 = .ok (.invokevirtual 65, 3) := by decide +kernel
theorem dX7_recharge_5 : decode cX7_recharge 5 = .ok (.getfield 87, 3) := by decide +kernel
theorem dX7_recharge_8 : decode cX7_recharge 8 = .ok (.getfield 214, 3) := by decide +kernel
theorem dX7_recharge_11 : decode cX7_recharge 11 = .ok (.lreturn, 1) := by decide +kernel
theorem dX7_runoff_0 : decode cX7_runoff 0 = .ok (.aload_n 0, 1) := by decide +kernel
theorem dX7_runoff_1 : decode cX7_runoff 1 = .ok (.iload_n 1, 1) := by decide +kernel
theorem dX7_runoff_2 : decode cX7_runoff 2 = .ok (.invokevirtual 65, 3) := by decide +kernel
theorem dX7_runoff_5 : decode cX7_runoff 5 = .ok (.getfield 87, 3) := by decide +kernel
theorem dX7_runoff_8 : decode cX7_runoff 8 = .ok (.getfield 217, 3) := by decide +kernel
theorem dX7_runoff_11 : decode cX7_runoff 11 = .ok (.lreturn, 1) := by decide +kernel
theorem dX7_vapour_0 : decode cX7_vapour 0 = .ok (.aload_n 0, 1) := by decide +kernel
theorem dX7_vapour_1 : decode cX7_vapour 1 = .ok (.iload_n 1, 1) := by decide +kernel
theorem dX7_vapour_2 : decode cX7_vapour 2 = .ok (.invokevirtual 65, 3) := by decide +kernel
theorem dX7_vapour_5 : decode cX7_vapour 5 = .ok (.getfield 87, 3) := by decide +kernel
theorem dX7_vapour_8 : decode cX7_vapour 8 = .ok (.getfield 220, 3) := by decide +kernel
theorem dX7_vapour_11 : decode cX7_vapour 11 = .ok (.lreturn, 1) := by decide +kernel
theorem dX7_isFrozen_0 : decode cX7_isFrozen 0 = .ok (.aload_n 0, 1) := by decide +kernel
theorem dX7_isFrozen_1 : decode cX7_isFrozen 1 = .ok (.iload_n 1, 1) := by decide +kernel
theorem dX7_isFrozen_2 : decode cX7_isFrozen 2 = .ok (.iload_n 2, 1) := by decide +kernel
theorem dX7_isFrozen_3 : decode cX7_isFrozen 3 = .ok (.invokevirtual 103, 3) := by decide +kernel
theorem dX7_isFrozen_6 : decode cX7_isFrozen 6 = .ok (.getfield 223, 3) := by decide +kernel
theorem dX7_isFrozen_9 : decode cX7_isFrozen 9 = .ok (.ireturn, 1) := by decide +kernel
theorem dX7_frost_0 : decode cX7_frost 0 = .ok (.aload_n 0, 1) := by decide +kernel
theorem dX7_frost_1 : decode cX7_frost 1 = .ok (.iload_n 1, 1) := by decide +kernel
theorem dX7_frost_2 : decode cX7_frost 2 = .ok (.iload_n 2, 1) := by decide +kernel
theorem dX7_frost_3 : decode cX7_frost 3 = .ok (.invokevirtual 103, 3) := by decide +kernel
theorem dX7_frost_6 : decode cX7_frost 6 = .ok (.getfield 226, 3) := by decide +kernel
theorem dX7_frost_9 : decode cX7_frost 9 = .ok (.ireturn, 1) := by decide +kernel
theorem dX7_heave_0 : decode cX7_heave 0 = .ok (.aload_n 0, 1) := by decide +kernel
theorem dX7_heave_1 : decode cX7_heave 1 = .ok (.iload_n 1, 1) := by decide +kernel
theorem dX7_heave_2 : decode cX7_heave 2 = .ok (.invokevirtual 65, 3) := by decide +kernel
theorem dX7_heave_5 : decode cX7_heave 5 = .ok (.invokevirtual 229, 3) := by decide +kernel
theorem dX7_heave_8 : decode cX7_heave 8 = .ok (.bipush 10, 2) := by decide +kernel
theorem dX7_heave_10 : decode cX7_heave 10 = .ok (.idiv, 1) := by decide +kernel
theorem dX7_heave_11 : decode cX7_heave 11 = .ok (.ireturn, 1) := by decide +kernel
theorem dX7_crack_0 : decode cX7_crack 0 = .ok (.aload_n 0, 1) := by decide +kernel
theorem dX7_crack_1 : decode cX7_crack 1 = .ok (.iload_n 1, 1) := by decide +kernel
theorem dX7_crack_2 : decode cX7_crack 2 = .ok (.invokevirtual 65, 3) := by decide +kernel
theorem dX7_crack_5 : decode cX7_crack 5 = .ok (.invokevirtual 232, 3) := by decide +kernel
theorem dX7_crack_8 : decode cX7_crack 8 = .ok (.ireturn, 1) := by decide +kernel
theorem dX7_tension_0 : decode cX7_tension 0 = .ok (.aload_n 0, 1) := by decide +kernel
theorem dX7_tension_1 : decode cX7_tension 1 = .ok (.iload_n 1, 1) := by decide +kernel
theorem dX7_tension_2 : decode cX7_tension 2 = .ok (.iload_n 2, 1) := by decide +kernel
theorem dX7_tension_3 : decode cX7_tension 3 = .ok (.invokevirtual 103, 3) := by decide +kernel
theorem dX7_tension_6 : decode cX7_tension 6 = .ok (.astore_n 3, 1) := by decide +kernel
theorem dX7_tension_7 : decode cX7_tension 7 = .ok (.aload_n 3, 1) := by decide +kernel
theorem dX7_tension_8 : decode cX7_tension 8 = .ok (.getfield 107, 3) := by decide +kernel
theorem dX7_tension_11 : decode cX7_tension 11 = .ok (.aload_n 3, 1) := by decide +kernel
theorem dX7_tension_12 : decode cX7_tension 12 = .ok (.getfield 235, 3) := by decide +kernel
theorem dX7_tension_15 : decode cX7_tension 15 = .ok (.isub, 1) := by decide +kernel
theorem dX7_tension_16 : decode cX7_tension 16 = .ok (.istore 4, 2) := by decide +kernel
theorem dX7_tension_18 : decode cX7_tension 18 = .ok (.aload_n 3, 1) := by decide +kernel
theorem dX7_tension_19 : decode cX7_tension 19 = .ok (.getfield 223, 3) := by decide +kernel
theorem dX7_tension_22 : decode cX7_tension 22 = .ok (.ifCond .ne 25, 3) := by decide +kernel
theorem dX7_tension_25 : decode cX7_tension 25 = .ok (.iload 4, 2) := by decide +kernel
theorem dX7_tension_27 : decode cX7_tension 27 = .ok (.ifCond .le 20, 3) := by decide +kernel
theorem dX7_tension_30 : decode cX7_tension 30 = .ok (.aload_n 3, 1) := by decide +kernel
theorem dX7_tension_31 : decode cX7_tension 31 = .ok (.invokevirtual 238, 3) := by decide +kernel
theorem dX7_tension_34 : decode cX7_tension 34 = .ok (.sipush 900, 3) := by decide +kernel
theorem dX7_tension_37 : decode cX7_tension 37 = .ok (.imul, 1) := by decide +kernel
theorem dX7_tension_38 : decode cX7_tension 38 = .ok (.iload 4, 2) := by decide +kernel
theorem dX7_tension_40 : decode cX7_tension 40 = .ok (.idiv, 1) := by decide +kernel
theorem dX7_tension_41 : decode cX7_tension 41 = .ok (.sipush 800, 3) := by decide +kernel
theorem dX7_tension_44 : decode cX7_tension 44 = .ok (.if_icmp .le 13, 3) := by decide +kernel
theorem dX7_tension_47 : decode cX7_tension 47 = .ok (.new 136, 3) := by decide +kernel
theorem dX7_tension_50 : decode cX7_tension 50 = .ok (.dup, 1) := by decide +kernel
theorem dX7_tension_51 : decode cX7_tension 51 = .ok (.ldc 241, 2) := by decide +kernel
theorem dX7_tension_53 : decode cX7_tension 53 = .ok (.invokespecial 140, 3) := by decide +kernel
theorem dX7_tension_56 : decode cX7_tension 56 = .ok (.athrow, 1) := by decide +kernel
theorem dX7_tension_57 : decode cX7_tension 57 = .ok (.aload_n 3, 1) := by decide +kernel
theorem dX7_tension_58 : decode cX7_tension 58 = .ok (.invokevirtual 238, 3) := by decide +kernel
theorem dX7_tension_61 : decode cX7_tension 61 = .ok (.sipush 900, 3) := by decide +kernel
theorem dX7_tension_64 : decode cX7_tension 64 = .ok (.imul, 1) := by decide +kernel
theorem dX7_tension_65 : decode cX7_tension 65 = .ok (.iload 4, 2) := by decide +kernel
theorem dX7_tension_67 : decode cX7_tension 67 = .ok (.idiv, 1) := by decide +kernel
theorem dX7_tension_68 : decode cX7_tension 68 = .ok (.ireturn, 1) := by decide +kernel
theorem dX7_reflection_0 : decode cX7_reflection 0 = .ok (.aload_n 0, 1) := by decide +kernel
theorem dX7_reflection_1 : decode cX7_reflection 1 = .ok (.iload_n 1, 1) := by decide +kernel
theorem dX7_reflection_2 : decode cX7_reflection 2 = .ok (.iload_n 2, 1) := by decide +kernel
theorem dX7_reflection_3 : decode cX7_reflection 3 = .ok (.invokevirtual 103, 3) := by decide +kernel
theorem dX7_reflection_6 : decode cX7_reflection 6 = .ok (.astore_n 3, 1) := by decide +kernel
theorem dX7_reflection_7 : decode cX7_reflection 7 = .ok (.aload_n 3, 1) := by decide +kernel
theorem dX7_reflection_8 : decode cX7_reflection 8 = .ok (.invokevirtual 243, 3) := by decide +kernel
theorem dX7_reflection_11 : decode cX7_reflection 11 = .ok (.aload_n 0, 1) := by decide +kernel
theorem dX7_reflection_12 : decode cX7_reflection 12 = .ok (.aload_n 0, 1) := by decide +kernel
theorem dX7_reflection_13 : decode cX7_reflection 13 = .ok (.iload_n 1, 1) := by decide +kernel
theorem dX7_reflection_14 : decode cX7_reflection 14 = .ok (.invokevirtual 65, 3) := by decide +kernel
theorem dX7_reflection_17 : decode cX7_reflection 17 = .ok (.invokevirtual 246, 3) := by decide +kernel
theorem dX7_reflection_20 : decode cX7_reflection 20 = .ok (.iadd, 1) := by decide +kernel
theorem dX7_reflection_21 : decode cX7_reflection 21 = .ok (.istore 4, 2) := by decide +kernel
theorem dX7_reflection_23 : decode cX7_reflection 23 = .ok (.iload 4, 2) := by decide +kernel
theorem dX7_reflection_25 : decode cX7_reflection 25 = .ok (.sipush 500, 3) := by decide +kernel
theorem dX7_reflection_28 : decode cX7_reflection 28 = .ok (.if_icmp .le 13, 3) := by decide +kernel
theorem dX7_reflection_31 : decode cX7_reflection 31 = .ok (.new 136, 3) := by decide +kernel
theorem dX7_reflection_34 : decode cX7_reflection 34 = .ok (.dup, 1) := by decide +kernel
theorem dX7_reflection_35 : decode cX7_reflection 35 = .ok (.ldc 241, 2) := by decide +kernel
theorem dX7_reflection_37 : decode cX7_reflection 37 = .ok (.invokespecial 140, 3) := by decide +kernel
theorem dX7_reflection_40 : decode cX7_reflection 40 = .ok (.athrow, 1) := by decide +kernel
theorem dX7_reflection_41 : decode cX7_reflection 41 = .ok (.iload 4, 2) := by decide +kernel
theorem dX7_reflection_43 : decode cX7_reflection 43 = .ok (.ireturn, 1) := by decide +kernel
theorem dX7_setRight_0 : decode cX7_setRight 0 = .ok (.aload_n 0, 1) := by decide +kernel
theorem dX7_setRight_1 : decode cX7_setRight 1 = .ok (.iload_n 1, 1) := by decide +kernel
theorem dX7_setRight_2 : decode cX7_setRight 2 = .ok (.invokevirtual 65, 3) := by decide +kernel
theorem dX7_setRight_5 : decode cX7_setRight 5 = .ok (.astore_n 2, 1) := by decide +kernel
theorem dX7_setRight_6 : decode cX7_setRight 6 = .ok (.aload_n 0, 1) := by decide +kernel
theorem dX7_setRight_7 : decode cX7_setRight 7 = .ok (.aload_n 2, 1) := by decide +kernel
theorem dX7_setRight_8 : decode cX7_setRight 8 = .ok (.invokevirtual 246, 3) := by decide +kernel
theorem dX7_setRight_11 : decode cX7_setRight 11 = .ok (.istore_n 3, 1) := by decide +kernel
theorem dX7_setRight_12 : decode cX7_setRight 12 = .ok (.aload_n 2, 1) := by decide +kernel
theorem dX7_setRight_13 : decode cX7_setRight 13 = .ok (.aload_n 0, 1) := by decide +kernel
theorem dX7_setRight_14 : decode cX7_setRight 14 = .ok (.getfield 37, 3) := by decide +kernel
theorem dX7_setRight_17 : decode cX7_setRight 17 = .ok (.putfield 250, 3) := by decide +kernel
theorem dX7_setRight_20 : decode cX7_setRight 20 = .ok (.iload_n 3, 1) := by decide +kernel
theorem dX7_setRight_21 : decode cX7_setRight 21 = .ok (.ireturn, 1) := by decide +kernel
theorem dX7_weigh_0 : decode cX7_weigh 0 = .ok (.aload_n 0, 1) := by decide +kernel
theorem dX7_weigh_1 : decode cX7_weigh 1 = .ok (.iload_n 1, 1) := by decide +kernel
theorem dX7_weigh_2 : decode cX7_weigh 2 = .ok (.invokevirtual 65, 3) := by decide +kernel
theorem dX7_weigh_5 : decode cX7_weigh 5 = .ok (.astore_n 2, 1) := by decide +kernel
theorem dX7_weigh_6 : decode cX7_weigh 6 = .ok (.aload_n 2, 1) := by decide +kernel
theorem dX7_weigh_7 : decode cX7_weigh 7 = .ok (.invokevirtual 253, 3) := by decide +kernel
theorem dX7_weigh_10 : decode cX7_weigh 10 = .ok (.aload_n 2, 1) := by decide +kernel
theorem dX7_weigh_11 : decode cX7_weigh 11 = .ok (.getfield 211, 3) := by decide +kernel
theorem dX7_weigh_14 : decode cX7_weigh 14 = .ok (.iadd, 1) := by decide +kernel
theorem dX7_weigh_15 : decode cX7_weigh 15 = .ok (.istore_n 3, 1) := by decide +kernel
theorem dX7_weigh_16 : decode cX7_weigh 16 = .ok (.iload_n 3, 1) := by decide +kernel
theorem dX7_weigh_17 : decode cX7_weigh 17 = .ok (.iload_n 3, 1) := by decide +kernel
theorem dX7_weigh_18 : decode cX7_weigh 18 = .ok (.iconst 5, 1) := by decide +kernel
theorem dX7_weigh_19 : decode cX7_weigh 19 = .ok (.irem, 1) := by decide +kernel
theorem dX7_weigh_20 : decode cX7_weigh 20 = .ok (.isub, 1) := by decide +kernel
theorem dX7_weigh_21 : decode cX7_weigh 21 = .ok (.ireturn, 1) := by decide +kernel
theorem dX7_fines_0 : decode cX7_fines 0 = .ok (.aload_n 0, 1) := by decide +kernel
theorem dX7_fines_1 : decode cX7_fines 1 = .ok (.iload_n 1, 1) := by decide +kernel
theorem dX7_fines_2 : decode cX7_fines 2 = .ok (.invokevirtual 65, 3) := by decide +kernel
theorem dX7_fines_5 : decode cX7_fines 5 = .ok (.getfield 87, 3) := by decide +kernel
theorem dX7_fines_8 : decode cX7_fines 8 = .ok (.getfield 256, 3) := by decide +kernel
theorem dX7_fines_11 : decode cX7_fines 11 = .ok (.lreturn, 1) := by decide +kernel
theorem dX7_forecast_0 : decode cX7_forecast 0 = .ok (.aload_n 0, 1) := by decide +kernel
theorem dX7_forecast_1 : decode cX7_forecast 1 = .ok (.iload_n 1, 1) := by decide +kernel
theorem dX7_forecast_2 : decode cX7_forecast 2 = .ok (.invokevirtual 65, 3) := by decide +kernel
theorem dX7_forecast_5 : decode cX7_forecast 5 = .ok (.pop, 1) := by decide +kernel
theorem dX7_forecast_6 : decode cX7_forecast 6 = .ok (.iload_n 2, 1) := by decide +kernel
theorem dX7_forecast_7 : decode cX7_forecast 7 = .ok (.iconst 1, 1) := by decide +kernel
theorem dX7_forecast_8 : decode cX7_forecast 8 = .ok (.bipush 48, 2) := by decide +kernel
theorem dX7_forecast_10 : decode cX7_forecast 10 = .ok (.invokestatic 73, 3) := by decide +kernel
theorem dX7_forecast_13 : decode cX7_forecast 13 = .ok (.iload_n 3, 1) := by decide +kernel
theorem dX7_forecast_14 : decode cX7_forecast 14 = .ok (.bipush 10, 2) := by decide +kernel
theorem dX7_forecast_16 : decode cX7_forecast 16 = .ok (.sipush 400, 3) := by decide +kernel
theorem dX7_forecast_19 : decode cX7_forecast 19 = .ok (.invokestatic 73, 3) := by decide +kernel
theorem dX7_forecast_22 : decode cX7_forecast 22 = .ok (.aload_n 0, 1) := by decide +kernel
theorem dX7_forecast_23 : decode cX7_forecast 23 = .ok (.iload_n 1, 1) := by decide +kernel
theorem dX7_forecast_24 : decode cX7_forecast 24 = .ok (.iload_n 2, 1) := by decide +kernel
theorem dX7_forecast_25 : decode cX7_forecast 25 = .ok (.iload_n 3, 1) := by decide +kernel
theorem dX7_forecast_26 : decode cX7_forecast 26 = .ok (.invokevirtual 259, 3) := by decide +kernel
theorem dX7_forecast_29 : decode cX7_forecast 29 = .ok (.lreturn, 1) := by decide +kernel
theorem dX7_fits_0 : decode cX7_fits 0 = .ok (.aload_n 0, 1) := by decide +kernel
theorem dX7_fits_1 : decode cX7_fits 1 = .ok (.iload_n 1, 1) := by decide +kernel
theorem dX7_fits_2 : decode cX7_fits 2 = .ok (.iload_n 2, 1) := by decide +kernel
theorem dX7_fits_3 : decode cX7_fits 3 = .ok (.iload_n 3, 1) := by decide +kernel
theorem dX7_fits_4 : decode cX7_fits 4 = .ok (.invokevirtual 263, 3) := by decide +kernel
theorem dX7_fits_7 : decode cX7_fits 7 = .ok (.lstore 4, 2) := by decide +kernel
theorem dX7_fits_9 : decode cX7_fits 9 = .ok (.iconst 0, 1) := by decide +kernel
theorem dX7_fits_10 : decode cX7_fits 10 = .ok (.istore 6, 2) := by decide +kernel
theorem dX7_fits_12 : decode cX7_fits 12 = .ok (.iconst 0, 1) := by decide +kernel
theorem dX7_fits_13 : decode cX7_fits 13 = .ok (.istore 7, 2) := by decide +kernel
theorem dX7_fits_15 : decode cX7_fits 15 = .ok (.iload 7, 2) := by decide +kernel
theorem dX7_fits_17 : decode cX7_fits 17 = .ok (.aload_n 0, 1) := by decide +kernel
theorem dX7_fits_18 : decode cX7_fits 18 = .ok (.getfield 26, 3) := by decide +kernel
theorem dX7_fits_21 : decode cX7_fits 21 = .ok (.arraylength, 1) := by decide +kernel
theorem dX7_fits_22 : decode cX7_fits 22 = .ok (.if_icmp .ge 25, 3) := by decide +kernel
theorem dX7_fits_25 : decode cX7_fits 25 = .ok (.aload_n 0, 1) := by decide +kernel
theorem dX7_fits_26 : decode cX7_fits 26 = .ok (.getfield 26, 3) := by decide +kernel
theorem dX7_fits_29 : decode cX7_fits 29 = .ok (.iload 7, 2) := by decide +kernel
theorem dX7_fits_31 : decode cX7_fits 31 = .ok (.laload, 1) := by decide +kernel
theorem dX7_fits_32 : decode cX7_fits 32 = .ok (.lload 4, 2) := by decide +kernel
theorem dX7_fits_34 : decode cX7_fits 34 = .ok (.lcmp, 1) := by decide +kernel
theorem dX7_fits_35 : decode cX7_fits 35 = .ok (.ifCond .ne 6, 3) := by decide +kernel
theorem dX7_fits_38 : decode cX7_fits 38 = .ok (.iinc 6 1, 3) := by decide +kernel
theorem dX7_fits_41 : decode cX7_fits 41 = .ok (.iinc 7 1, 3) := by decide +kernel
theorem dX7_fits_44 : decode cX7_fits 44 = .ok (.goto (-29), 3) := by decide +kernel
theorem dX7_fits_47 : decode cX7_fits 47 = .ok (.iload 6, 2) := by decide +kernel
theorem dX7_fits_49 : decode cX7_fits 49 = .ok (.ireturn, 1) := by decide +kernel
theorem dX7_fit_0 : decode cX7_fit 0 = .ok (.aload_n 0, 1) := by decide +kernel
theorem dX7_fit_1 : decode cX7_fit 1 = .ok (.iload_n 1, 1) := by decide +kernel
theorem dX7_fit_2 : decode cX7_fit 2 = .ok (.iload_n 2, 1) := by decide +kernel
theorem dX7_fit_3 : decode cX7_fit 3 = .ok (.iload_n 3, 1) := by decide +kernel
theorem dX7_fit_4 : decode cX7_fit 4 = .ok (.invokevirtual 263, 3) := by decide +kernel
theorem dX7_fit_7 : decode cX7_fit 7 = .ok (.lstore 5, 2) := by decide +kernel
theorem dX7_fit_9 : decode cX7_fit 9 = .ok (.iconst 0, 1) := by decide +kernel
theorem dX7_fit_10 : decode cX7_fit 10 = .ok (.istore 7, 2) := by decide +kernel
theorem dX7_fit_12 : decode cX7_fit 12 = .ok (.iconst 0, 1) := by decide +kernel
theorem dX7_fit_13 : decode cX7_fit 13 = .ok (.istore 8, 2) := by decide +kernel
theorem dX7_fit_15 : decode cX7_fit 15 = .ok (.iload 8, 2) := by decide +kernel
theorem dX7_fit_17 : decode cX7_fit 17 = .ok (.aload_n 0, 1) := by decide +kernel
theorem dX7_fit_18 : decode cX7_fit 18 = .ok (.getfield 26, 3) := by decide +kernel
theorem dX7_fit_21 : decode cX7_fit 21 = .ok (.arraylength, 1) := by decide +kernel
theorem dX7_fit_22 : decode cX7_fit 22 = .ok (.if_icmp .ge 38, 3) := by decide +kernel
theorem dX7_fit_25 : decode cX7_fit 25 = .ok (.aload_n 0, 1) := by decide +kernel
theorem dX7_fit_26 : decode cX7_fit 26 = .ok (.getfield 26, 3) := by decide +kernel
theorem dX7_fit_29 : decode cX7_fit 29 = .ok (.iload 8, 2) := by decide +kernel
theorem dX7_fit_31 : decode cX7_fit 31 = .ok (.laload, 1) := by decide +kernel
theorem dX7_fit_32 : decode cX7_fit 32 = .ok (.lload 5, 2) := by decide +kernel
theorem dX7_fit_34 : decode cX7_fit 34 = .ok (.lcmp, 1) := by decide +kernel
theorem dX7_fit_35 : decode cX7_fit 35 = .ok (.ifCond .ne 19, 3) := by decide +kernel
theorem dX7_fit_38 : decode cX7_fit 38 = .ok (.iload 7, 2) := by decide +kernel
theorem dX7_fit_40 : decode cX7_fit 40 = .ok (.iload 4, 2) := by decide +kernel
theorem dX7_fit_42 : decode cX7_fit 42 = .ok (.if_icmp .ne 9, 3) := by decide +kernel
theorem dX7_fit_45 : decode cX7_fit 45 = .ok (.iload 8, 2) := by decide +kernel
theorem dX7_fit_47 : decode cX7_fit 47 = .ok (.invokestatic 266, 3) := by decide +kernel
theorem dX7_fit_50 : decode cX7_fit 50 = .ok (.ireturn, 1) := by decide +kernel
theorem dX7_fit_51 : decode cX7_fit 51 = .ok (.iinc 7 1, 3) := by decide +kernel
theorem dX7_fit_54 : decode cX7_fit 54 = .ok (.iinc 8 1, 3) := by decide +kernel
theorem dX7_fit_57 : decode cX7_fit 57 = .ok (.goto (-42), 3) := by decide +kernel
theorem dX7_fit_60 : decode cX7_fit 60 = .ok (.new 136, 3) := by decide +kernel
theorem dX7_fit_63 : decode cX7_fit 63 = .ok (.dup, 1) := by decide +kernel
theorem dX7_fit_64 : decode cX7_fit 64 = .ok (.ldc_w 270, 3) := by decide +kernel
theorem dX7_fit_67 : decode cX7_fit 67 = .ok (.invokespecial 140, 3) := by decide +kernel
theorem dX7_fit_70 : decode cX7_fit 70 = .ok (.athrow, 1) := by decide +kernel
theorem dX7_missing_0 : decode cX7_missing 0 = .ok (.lconst 0, 1) := by decide +kernel
theorem dX7_missing_1 : decode cX7_missing 1 = .ok (.lstore_n 1, 1) := by decide +kernel
theorem dX7_missing_2 : decode cX7_missing 2 = .ok (.iconst 0, 1) := by decide +kernel
theorem dX7_missing_3 : decode cX7_missing 3 = .ok (.istore_n 3, 1) := by decide +kernel
theorem dX7_missing_4 : decode cX7_missing 4 = .ok (.iload_n 3, 1) := by decide +kernel
theorem dX7_missing_5 : decode cX7_missing 5 = .ok (.aload_n 0, 1) := by decide +kernel
theorem dX7_missing_6 : decode cX7_missing 6 = .ok (.getfield 10, 3) := by decide +kernel
theorem dX7_missing_9 : decode cX7_missing 9 = .ok (.invokevirtual 47, 3) := by decide +kernel
theorem dX7_missing_12 : decode cX7_missing 12 = .ok (.if_icmp .ge 26, 3) := by decide +kernel
theorem dX7_missing_15 : decode cX7_missing 15 = .ok (.lload_n 1, 1) := by decide +kernel
theorem dX7_missing_16 : decode cX7_missing 16 = .ok (.aload_n 0, 1) := by decide +kernel
theorem dX7_missing_17 : decode cX7_missing 17 = .ok (.getfield 10, 3) := by decide +kernel
theorem dX7_missing_20 : decode cX7_missing 20 = .ok (.iload_n 3, 1) := by decide +kernel
theorem dX7_missing_21 : decode cX7_missing 21 = .ok (.invokevirtual 141, 3) := by decide +kernel
theorem dX7_missing_24 : decode cX7_missing 24 = .ok (.checkcast 56, 3) := by decide +kernel
theorem dX7_missing_27 : decode cX7_missing 27 = .ok (.invokevirtual 272, 3) := by decide +kernel
theorem dX7_missing_30 : decode cX7_missing 30 = .ok (.ladd, 1) := by decide +kernel
theorem dX7_missing_31 : decode cX7_missing 31 = .ok (.lstore_n 1, 1) := by decide +kernel
theorem dX7_missing_32 : decode cX7_missing 32 = .ok (.iinc 3 1, 3) := by decide +kernel
theorem dX7_missing_35 : decode cX7_missing 35 = .ok (.goto (-31), 3) := by decide +kernel
theorem dX7_missing_38 : decode cX7_missing 38 = .ok (.lload_n 1, 1) := by decide +kernel
theorem dX7_missing_39 : decode cX7_missing 39 = .ok (.lreturn, 1) := by decide +kernel
theorem dX7_frozenShare_0 : decode cX7_frozenShare 0 = .ok (.aload_n 0, 1) := by decide +kernel
theorem dX7_frozenShare_1 : decode cX7_frozenShare 1 = .ok (.invokevirtual 276, 3) := by decide +kernel
theorem dX7_frozenShare_4 : decode cX7_frozenShare 4 = .ok (.istore_n 1, 1) := by decide +kernel
theorem dX7_frozenShare_5 : decode cX7_frozenShare 5 = .ok (.iload_n 1, 1) := by decide +kernel
theorem dX7_frozenShare_6 : decode cX7_frozenShare 6 = .ok (.ifCond .ne 14, 3) := by decide +kernel
theorem dX7_frozenShare_9 : decode cX7_frozenShare 9 = .ok (.new 279, 3) := by decide +kernel
theorem dX7_frozenShare_12 : decode cX7_frozenShare 12 = .ok (.dup, 1) := by decide +kernel
theorem dX7_frozenShare_13 : decode cX7_frozenShare 13 = .ok (.ldc_w 281, 3) := by decide +kernel
theorem dX7_frozenShare_16 : decode cX7_frozenShare 16 = .ok (.invokespecial 283, 3) := by decide +kernel
theorem dX7_frozenShare_19 : decode cX7_frozenShare 19 = .ok (.athrow, 1) := by decide +kernel
theorem dX7_frozenShare_20 : decode cX7_frozenShare 20 = .ok (.iconst 0, 1) := by decide +kernel
theorem dX7_frozenShare_21 : decode cX7_frozenShare 21 = .ok (.istore_n 2, 1) := by decide +kernel
theorem dX7_frozenShare_22 : decode cX7_frozenShare 22 = .ok (.iconst 0, 1) := by decide +kernel
theorem dX7_frozenShare_23 : decode cX7_frozenShare 23 = .ok (.istore_n 3, 1) := by decide +kernel
theorem dX7_frozenShare_24 : decode cX7_frozenShare 24 = .ok (.iload_n 3, 1) := by decide +kernel
theorem dX7_frozenShare_25 : decode cX7_frozenShare 25 = .ok (.aload_n 0, 1) := by decide +kernel
theorem dX7_frozenShare_26 : decode cX7_frozenShare 26 = .ok (.getfield 10, 3) := by decide +kernel
theorem dX7_frozenShare_29 : decode cX7_frozenShare 29 = .ok (.invokevirtual 47, 3) := by decide +kernel
theorem dX7_frozenShare_32 : decode cX7_frozenShare 32 = .ok (.if_icmp .ge 26, 3) := by decide +kernel
theorem dX7_frozenShare_35 : decode cX7_frozenShare 35 = .ok (.iload_n 2, 1) := by decide +kernel
theorem dX7_frozenShare_36 : decode cX7_frozenShare 36 = .ok (.aload_n 0, 1) := by decide +kernel
theorem dX7_frozenShare_37 : decode cX7_frozenShare 37 = .ok (.getfield 10, 3) := by decide +kernel
theorem dX7_frozenShare_40 : decode cX7_frozenShare 40 = .ok (.iload_n 3, 1) := by decide +kernel
theorem dX7_frozenShare_41 : decode cX7_frozenShare 41 = .ok (.invokevirtual 141, 3) := by decide +kernel
theorem dX7_frozenShare_44 : decode cX7_frozenShare 44 = .ok (.checkcast 56, 3) := by decide +kernel
theorem dX7_frozenShare_47 : decode cX7_frozenShare 47 = .ok (.invokevirtual 284, 3) := by decide +kernel
theorem dX7_frozenShare_50 : decode cX7_frozenShare 50 = .ok (.iadd, 1) := by decide +kernel
theorem dX7_frozenShare_51 : decode cX7_frozenShare 51 = .ok (.istore_n 2, 1) := by decide +kernel
theorem dX7_frozenShare_52 : decode cX7_frozenShare 52 = .ok (.iinc 3 1, 3) := by decide +kernel
theorem dX7_frozenShare_55 : decode cX7_frozenShare 55 = .ok (.goto (-31), 3) := by decide +kernel
theorem dX7_frozenShare_58 : decode cX7_frozenShare 58 = .ok (.iload_n 2, 1) := by decide +kernel
theorem dX7_frozenShare_59 : decode cX7_frozenShare 59 = .ok (.i2f, 1) := by decide +kernel
theorem dX7_frozenShare_60 : decode cX7_frozenShare 60 = .ok (.iload_n 1, 1) := by decide +kernel
theorem dX7_frozenShare_61 : decode cX7_frozenShare 61 = .ok (.i2f, 1) := by decide +kernel
theorem dX7_frozenShare_62 : decode cX7_frozenShare 62 = .ok (.fdiv, 1) := by decide +kernel
theorem dX7_frozenShare_63 : decode cX7_frozenShare 63 = .ok (.freturn, 1) := by decide +kernel
theorem dX7_meanWater_0 : decode cX7_meanWater 0 = .ok (.aload_n 0, 1) := by decide +kernel
theorem dX7_meanWater_1 : decode cX7_meanWater 1 = .ok (.invokevirtual 276, 3) := by decide +kernel
theorem dX7_meanWater_4 : decode cX7_meanWater 4 = .ok (.istore_n 1, 1) := by decide +kernel
theorem dX7_meanWater_5 : decode cX7_meanWater 5 = .ok (.iload_n 1, 1) := by decide +kernel
theorem dX7_meanWater_6 : decode cX7_meanWater 6 = .ok (.ifCond .ne 14, 3) := by decide +kernel
theorem dX7_meanWater_9 : decode cX7_meanWater 9 = .ok (.new 279, 3) := by decide +kernel
theorem dX7_meanWater_12 : decode cX7_meanWater 12 = .ok (.dup, 1) := by decide +kernel
theorem dX7_meanWater_13 : decode cX7_meanWater 13 = .ok (.ldc_w 281, 3) := by decide +kernel
theorem dX7_meanWater_16 : decode cX7_meanWater 16 = .ok (.invokespecial 283, 3) := by decide +kernel
theorem dX7_meanWater_19 : decode cX7_meanWater 19 = .ok (.athrow, 1) := by decide +kernel
theorem dX7_meanWater_20 : decode cX7_meanWater 20 = .ok (.lconst 0, 1) := by decide +kernel
theorem dX7_meanWater_21 : decode cX7_meanWater 21 = .ok (.lstore_n 2, 1) := by decide +kernel
theorem dX7_meanWater_22 : decode cX7_meanWater 22 = .ok (.iconst 0, 1) := by decide +kernel
theorem dX7_meanWater_23 : decode cX7_meanWater 23 = .ok (.istore 4, 2) := by decide +kernel
theorem dX7_meanWater_25 : decode cX7_meanWater 25 = .ok (.iload 4, 2) := by decide +kernel
theorem dX7_meanWater_27 : decode cX7_meanWater 27 = .ok (.aload_n 0, 1) := by decide +kernel
theorem dX7_meanWater_28 : decode cX7_meanWater 28 = .ok (.getfield 10, 3) := by decide +kernel
theorem dX7_meanWater_31 : decode cX7_meanWater 31 = .ok (.invokevirtual 47, 3) := by decide +kernel
theorem dX7_meanWater_34 : decode cX7_meanWater 34 = .ok (.if_icmp .ge 28, 3) := by decide +kernel
theorem dX7_meanWater_37 : decode cX7_meanWater 37 = .ok (.lload_n 2, 1) := by decide +kernel
theorem dX7_meanWater_38 : decode cX7_meanWater 38 = .ok (.aload_n 0, 1) := by decide +kernel
theorem dX7_meanWater_39 : decode cX7_meanWater 39 = .ok (.getfield 10, 3) := by decide +kernel
theorem dX7_meanWater_42 : decode cX7_meanWater 42 = .ok (.iload 4, 2) := by decide +kernel
theorem dX7_meanWater_44 : decode cX7_meanWater 44 = .ok (.invokevirtual 141, 3) := by decide +kernel
theorem dX7_meanWater_47 : decode cX7_meanWater 47 = .ok (.checkcast 56, 3) := by decide +kernel
theorem dX7_meanWater_50 : decode cX7_meanWater 50 = .ok (.invokevirtual 253, 3) := by decide +kernel
theorem dX7_meanWater_53 : decode cX7_meanWater 53 = .ok (.i2l, 1) := by decide +kernel
theorem dX7_meanWater_54 : decode cX7_meanWater 54 = .ok (.ladd, 1) := by decide +kernel
theorem dX7_meanWater_55 : decode cX7_meanWater 55 = .ok (.lstore_n 2, 1) := by decide +kernel
theorem dX7_meanWater_56 : decode cX7_meanWater 56 = .ok (.iinc 4 1, 3) := by decide +kernel
theorem dX7_meanWater_59 : decode cX7_meanWater 59 = .ok (.goto (-34), 3) := by decide +kernel
theorem dX7_meanWater_62 : decode cX7_meanWater 62 = .ok (.lload_n 2, 1) := by decide +kernel
theorem dX7_meanWater_63 : decode cX7_meanWater 63 = .ok (.l2d, 1) := by decide +kernel
theorem dX7_meanWater_64 : decode cX7_meanWater 64 = .ok (.iload_n 1, 1) := by decide +kernel
theorem dX7_meanWater_65 : decode cX7_meanWater 65 = .ok (.i2d, 1) := by decide +kernel
theorem dX7_meanWater_66 : decode cX7_meanWater 66 = .ok (.ddiv, 1) := by decide +kernel
theorem dX7_meanWater_67 : decode cX7_meanWater 67 = .ok (.dreturn, 1) := by decide +kernel
theorem dX7_checksum_0 : decode cX7_checksum 0 = .ok (.ldc2_w 287, 3) := by decide +kernel
theorem dX7_checksum_3 : decode cX7_checksum 3 = .ok (.lstore_n 1, 1) := by decide +kernel
theorem dX7_checksum_4 : decode cX7_checksum 4 = .ok (.iconst 0, 1) := by decide +kernel
theorem dX7_checksum_5 : decode cX7_checksum 5 = .ok (.istore_n 3, 1) := by decide +kernel
theorem dX7_checksum_6 : decode cX7_checksum 6 = .ok (.iload_n 3, 1) := by decide +kernel
theorem dX7_checksum_7 : decode cX7_checksum 7 = .ok (.aload_n 0, 1) := by decide +kernel
theorem dX7_checksum_8 : decode cX7_checksum 8 = .ok (.getfield 10, 3) := by decide +kernel
theorem dX7_checksum_11 : decode cX7_checksum 11 = .ok (.invokevirtual 47, 3) := by decide +kernel
theorem dX7_checksum_14 : decode cX7_checksum 14 = .ok (.if_icmp .ge 129, 3) := by decide +kernel
theorem dX7_checksum_17 : decode cX7_checksum 17 = .ok (.aload_n 0, 1) := by decide +kernel
theorem dX7_checksum_18 : decode cX7_checksum 18 = .ok (.getfield 10, 3) := by decide +kernel
theorem dX7_checksum_21 : decode cX7_checksum 21 = .ok (.iload_n 3, 1) := by decide +kernel
theorem dX7_checksum_22 : decode cX7_checksum 22 = .ok (.invokevirtual 141, 3) := by decide +kernel
theorem dX7_checksum_25 : decode cX7_checksum 25 = .ok (.checkcast 56, 3) := by decide +kernel
theorem dX7_checksum_28 : decode cX7_checksum 28 = .ok (.astore 4, 2) := by decide +kernel
theorem dX7_checksum_30 : decode cX7_checksum 30 = .ok (.ldc2_w 289, 3) := by decide +kernel
theorem dX7_checksum_33 : decode cX7_checksum 33 = .ok (.lload_n 1, 1) := by decide +kernel
theorem dX7_checksum_34 : decode cX7_checksum 34 = .ok (.lmul, 1) := by decide +kernel
theorem dX7_checksum_35 : decode cX7_checksum 35 = .ok (.aload 4, 2) := by decide +kernel
theorem dX7_checksum_37 : decode cX7_checksum 37 = .ok (.getfield 211, 3) := by decide +kernel
theorem dX7_checksum_40 : decode cX7_checksum 40 = .ok (.i2l, 1) := by decide +kernel
theorem dX7_checksum_41 : decode cX7_checksum 41 = .ok (.ladd, 1) := by decide +kernel
theorem dX7_checksum_42 : decode cX7_checksum 42 = .ok (.lstore_n 1, 1) := by decide +kernel
theorem dX7_checksum_43 : decode cX7_checksum 43 = .ok (.ldc2_w 289, 3) := by decide +kernel
theorem dX7_checksum_46 : decode cX7_checksum 46 = .ok (.lload_n 1, 1) := by decide +kernel
theorem dX7_checksum_47 : decode cX7_checksum 47 = .ok (.lmul, 1) := by decide +kernel
theorem dX7_checksum_48 : decode cX7_checksum 48 = .ok (.aload 4, 2) := by decide +kernel
theorem dX7_checksum_50 : decode cX7_checksum 50 = .ok (.getfield 87, 3) := by decide +kernel
theorem dX7_checksum_53 : decode cX7_checksum 53 = .ok (.getfield 214, 3) := by decide +kernel
theorem dX7_checksum_56 : decode cX7_checksum 56 = .ok (.ladd, 1) := by decide +kernel
theorem dX7_checksum_57 : decode cX7_checksum 57 = .ok (.lstore_n 1, 1) := by decide +kernel
theorem dX7_checksum_58 : decode cX7_checksum 58 = .ok (.iconst 0, 1) := by decide +kernel
theorem dX7_checksum_59 : decode cX7_checksum 59 = .ok (.istore 5, 2) := by decide +kernel
theorem dX7_checksum_61 : decode cX7_checksum 61 = .ok (.iload 5, 2) := by decide +kernel
theorem dX7_checksum_63 : decode cX7_checksum 63 = .ok (.aload 4, 2) := by decide +kernel
theorem dX7_checksum_65 : decode cX7_checksum 65 = .ok (.getfield 77, 3) := by decide +kernel
theorem dX7_checksum_68 : decode cX7_checksum 68 = .ok (.invokevirtual 47, 3) := by decide +kernel
theorem dX7_checksum_71 : decode cX7_checksum 71 = .ok (.if_icmp .ge 66, 3) := by decide +kernel
theorem dX7_checksum_74 : decode cX7_checksum 74 = .ok (.aload 4, 2) := by decide +kernel
theorem dX7_checksum_76 : decode cX7_checksum 76 = .ok (.getfield 77, 3) := by decide +kernel
theorem dX7_checksum_79 : decode cX7_checksum 79 = .ok (.iload 5, 2) := by decide +kernel
theorem dX7_checksum_81 : decode cX7_checksum 81 = .ok (.invokevirtual 141, 3) := by decide +kernel
theorem dX7_checksum_84 : decode cX7_checksum 84 = .ok (.checkcast 82, 3) := by decide +kernel
theorem dX7_checksum_87 : decode cX7_checksum 87 = .ok (.astore 6, 2) := by decide +kernel
theorem dX7_checksum_89 : decode cX7_checksum 89 = .ok (.ldc2_w 289, 3) := by decide +kernel
theorem dX7_checksum_92 : decode cX7_checksum 92 = .ok (.lload_n 1, 1) := by decide +kernel
theorem dX7_checksum_93 : decode cX7_checksum 93 = .ok (.lmul, 1) := by decide +kernel
theorem dX7_checksum_94 : decode cX7_checksum 94 = .ok (.aload 6, 2) := by decide +kernel
theorem dX7_checksum_96 : decode cX7_checksum 96 = .ok (.getfield 97, 3) := by decide +kernel
theorem dX7_checksum_99 : decode cX7_checksum 99 = .ok (.i2l, 1) := by decide +kernel
theorem dX7_checksum_100 : decode cX7_checksum 100 = .ok (.ladd, 1) := by decide +kernel
theorem dX7_checksum_101 : decode cX7_checksum 101 = .ok (.lstore_n 1, 1) := by decide +kernel
theorem dX7_checksum_102 : decode cX7_checksum 102 = .ok (.ldc2_w 289, 3) := by decide +kernel
theorem dX7_checksum_105 : decode cX7_checksum 105 = .ok (.lload_n 1, 1) := by decide +kernel
theorem dX7_checksum_106 : decode cX7_checksum 106 = .ok (.lmul, 1) := by decide +kernel
theorem dX7_checksum_107 : decode cX7_checksum 107 = .ok (.aload 6, 2) := by decide +kernel
theorem dX7_checksum_109 : decode cX7_checksum 109 = .ok (.getfield 172, 3) := by decide +kernel
theorem dX7_checksum_112 : decode cX7_checksum 112 = .ok (.iconst 0, 1) := by decide +kernel
theorem dX7_checksum_113 : decode cX7_checksum 113 = .ok (.invokevirtual 185, 3) := by decide +kernel
theorem dX7_checksum_116 : decode cX7_checksum 116 = .ok (.ladd, 1) := by decide +kernel
theorem dX7_checksum_117 : decode cX7_checksum 117 = .ok (.lstore_n 1, 1) := by decide +kernel
theorem dX7_checksum_118 : decode cX7_checksum 118 = .ok (.ldc2_w 289, 3) := by decide +kernel
theorem dX7_checksum_121 : decode cX7_checksum 121 = .ok (.lload_n 1, 1) := by decide +kernel
theorem dX7_checksum_122 : decode cX7_checksum 122 = .ok (.lmul, 1) := by decide +kernel
theorem dX7_checksum_123 : decode cX7_checksum 123 = .ok (.aload 6, 2) := by decide +kernel
theorem dX7_checksum_125 : decode cX7_checksum 125 = .ok (.getfield 226, 3) := by decide +kernel
theorem dX7_checksum_128 : decode cX7_checksum 128 = .ok (.i2l, 1) := by decide +kernel
theorem dX7_checksum_129 : decode cX7_checksum 129 = .ok (.ladd, 1) := by decide +kernel
theorem dX7_checksum_130 : decode cX7_checksum 130 = .ok (.lstore_n 1, 1) := by decide +kernel
theorem dX7_checksum_131 : decode cX7_checksum 131 = .ok (.iinc 5 1, 3) := by decide +kernel
theorem dX7_checksum_134 : decode cX7_checksum 134 = .ok (.goto (-73), 3) := by decide +kernel
theorem dX7_checksum_137 : decode cX7_checksum 137 = .ok (.iinc 3 1, 3) := by decide +kernel
theorem dX7_checksum_140 : decode cX7_checksum 140 = .ok (.goto (-134), 3) := by decide +kernel
theorem dX7_checksum_143 : decode cX7_checksum 143 = .ok (.lload_n 1, 1) := by decide +kernel
theorem dX7_checksum_144 : decode cX7_checksum 144 = .ok (.lreturn, 1) := by decide +kernel
theorem dX7_isTrue_0 : decode cX7_isTrue 0 = .ok (.aload_n 0, 1) := by decide +kernel
theorem dX7_isTrue_1 : decode cX7_isTrue 1 = .ok (.invokevirtual 291, 3) := by decide +kernel
theorem dX7_isTrue_4 : decode cX7_isTrue 4 = .ok (.lconst 0, 1) := by decide +kernel
theorem dX7_isTrue_5 : decode cX7_isTrue 5 = .ok (.lcmp, 1) := by decide +kernel
theorem dX7_isTrue_6 : decode cX7_isTrue 6 = .ok (.ifCond .eq 5, 3) := by decide +kernel
theorem dX7_isTrue_9 : decode cX7_isTrue 9 = .ok (.iconst 0, 1) := by decide +kernel
theorem dX7_isTrue_10 : decode cX7_isTrue 10 = .ok (.ireturn, 1) := by decide +kernel
theorem dX7_isTrue_11 : decode cX7_isTrue 11 = .ok (.iconst 0, 1) := by decide +kernel
theorem dX7_isTrue_12 : decode cX7_isTrue 12 = .ok (.istore_n 1, 1) := by decide +kernel
theorem dX7_isTrue_13 : decode cX7_isTrue 13 = .ok (.iload_n 1, 1) := by decide +kernel
theorem dX7_isTrue_14 : decode cX7_isTrue 14 = .ok (.aload_n 0, 1) := by decide +kernel
theorem dX7_isTrue_15 : decode cX7_isTrue 15 = .ok (.getfield 10, 3) := by decide +kernel
theorem dX7_isTrue_18 : decode cX7_isTrue 18 = .ok (.invokevirtual 47, 3) := by decide +kernel
theorem dX7_isTrue_21 : decode cX7_isTrue 21 = .ok (.if_icmp .ge 45, 3) := by decide +kernel
theorem dX7_isTrue_24 : decode cX7_isTrue 24 = .ok (.aload_n 0, 1) := by decide +kernel
theorem dX7_isTrue_25 : decode cX7_isTrue 25 = .ok (.getfield 10, 3) := by decide +kernel
theorem dX7_isTrue_28 : decode cX7_isTrue 28 = .ok (.iload_n 1, 1) := by decide +kernel
theorem dX7_isTrue_29 : decode cX7_isTrue 29 = .ok (.invokevirtual 141, 3) := by decide +kernel
theorem dX7_isTrue_32 : decode cX7_isTrue 32 = .ok (.checkcast 56, 3) := by decide +kernel
theorem dX7_isTrue_35 : decode cX7_isTrue 35 = .ok (.astore_n 2, 1) := by decide +kernel
theorem dX7_isTrue_36 : decode cX7_isTrue 36 = .ok (.aload_n 2, 1) := by decide +kernel
theorem dX7_isTrue_37 : decode cX7_isTrue 37 = .ok (.invokevirtual 294, 3) := by decide +kernel
theorem dX7_isTrue_40 : decode cX7_isTrue 40 = .ok (.ifCond .eq 18, 3) := by decide +kernel
theorem dX7_isTrue_43 : decode cX7_isTrue 43 = .ok (.aload_n 2, 1) := by decide +kernel
theorem dX7_isTrue_44 : decode cX7_isTrue 44 = .ok (.invokevirtual 298, 3) := by decide +kernel
theorem dX7_isTrue_47 : decode cX7_isTrue 47 = .ok (.ifCond .eq 11, 3) := by decide +kernel
theorem dX7_isTrue_50 : decode cX7_isTrue 50 = .ok (.aload_n 0, 1) := by decide +kernel
theorem dX7_isTrue_51 : decode cX7_isTrue 51 = .ok (.iload_n 1, 1) := by decide +kernel
theorem dX7_isTrue_52 : decode cX7_isTrue 52 = .ok (.invokevirtual 301, 3) := by decide +kernel
theorem dX7_isTrue_55 : decode cX7_isTrue 55 = .ok (.ifCond .ne 5, 3) := by decide +kernel
theorem dX7_isTrue_58 : decode cX7_isTrue 58 = .ok (.iconst 0, 1) := by decide +kernel
theorem dX7_isTrue_59 : decode cX7_isTrue 59 = .ok (.ireturn, 1) := by decide +kernel
theorem dX7_isTrue_60 : decode cX7_isTrue 60 = .ok (.iinc 1 1, 3) := by decide +kernel
theorem dX7_isTrue_63 : decode cX7_isTrue 63 = .ok (.goto (-50), 3) := by decide +kernel
theorem dX7_isTrue_66 : decode cX7_isTrue 66 = .ok (.iconst 1, 1) := by decide +kernel
theorem dX7_isTrue_67 : decode cX7_isTrue 67 = .ok (.ireturn, 1) := by decide +kernel
theorem dX7_columnAt_0 : decode cX7_columnAt 0 = .ok (.iload_n 1, 1) := by decide +kernel
theorem dX7_columnAt_1 : decode cX7_columnAt 1 = .ok (.ifCond .lt 14, 3) := by decide +kernel
theorem dX7_columnAt_4 : decode cX7_columnAt 4 = .ok (.iload_n 1, 1) := by decide +kernel
theorem dX7_columnAt_5 : decode cX7_columnAt 5 = .ok (.aload_n 0, 1) := by decide +kernel
theorem dX7_columnAt_6 : decode cX7_columnAt 6 = .ok (.getfield 10, 3) := by decide +kernel
theorem dX7_columnAt_9 : decode cX7_columnAt 9 = .ok (.invokevirtual 47, 3) := by decide +kernel
theorem dX7_columnAt_12 : decode cX7_columnAt 12 = .ok (.if_icmp .lt 14, 3) := by decide +kernel
theorem dX7_columnAt_15 : decode cX7_columnAt 15 = .ok (.new 110, 3) := by decide +kernel
theorem dX7_columnAt_18 : decode cX7_columnAt 18 = .ok (.dup, 1) := by decide +kernel
theorem dX7_columnAt_19 : decode cX7_columnAt 19 = .ok (.ldc_w 305, 3) := by decide +kernel
theorem dX7_columnAt_22 : decode cX7_columnAt 22 = .ok (.invokespecial 114, 3) := by decide +kernel
theorem dX7_columnAt_25 : decode cX7_columnAt 25 = .ok (.athrow, 1) := by decide +kernel
theorem dX7_columnAt_26 : decode cX7_columnAt 26 = .ok (.aload_n 0, 1) := by decide +kernel
theorem dX7_columnAt_27 : decode cX7_columnAt 27 = .ok (.getfield 10, 3) := by decide +kernel
theorem dX7_columnAt_30 : decode cX7_columnAt 30 = .ok (.iload_n 1, 1) := by decide +kernel
theorem dX7_columnAt_31 : decode cX7_columnAt 31 = .ok (.invokevirtual 141, 3) := by decide +kernel
theorem dX7_columnAt_34 : decode cX7_columnAt 34 = .ok (.checkcast 56, 3) := by decide +kernel
theorem dX7_columnAt_37 : decode cX7_columnAt 37 = .ok (.areturn, 1) := by decide +kernel
theorem dX7_thoughtAt_0 : decode cX7_thoughtAt 0 = .ok (.iload_n 1, 1) := by decide +kernel
theorem dX7_thoughtAt_1 : decode cX7_thoughtAt 1 = .ok (.ifCond .lt 14, 3) := by decide +kernel
theorem dX7_thoughtAt_4 : decode cX7_thoughtAt 4 = .ok (.iload_n 1, 1) := by decide +kernel
theorem dX7_thoughtAt_5 : decode cX7_thoughtAt 5 = .ok (.aload_n 0, 1) := by decide +kernel
theorem dX7_thoughtAt_6 : decode cX7_thoughtAt 6 = .ok (.getfield 16, 3) := by decide +kernel
theorem dX7_thoughtAt_9 : decode cX7_thoughtAt 9 = .ok (.invokevirtual 47, 3) := by decide +kernel
theorem dX7_thoughtAt_12 : decode cX7_thoughtAt 12 = .ok (.if_icmp .lt 14, 3) := by decide +kernel
theorem dX7_thoughtAt_15 : decode cX7_thoughtAt 15 = .ok (.new 110, 3) := by decide +kernel
theorem dX7_thoughtAt_18 : decode cX7_thoughtAt 18 = .ok (.dup, 1) := by decide +kernel
theorem dX7_thoughtAt_19 : decode cX7_thoughtAt 19 = .ok (.ldc_w 305, 3) := by decide +kernel
theorem dX7_thoughtAt_22 : decode cX7_thoughtAt 22 = .ok (.invokespecial 114, 3) := by decide +kernel
theorem dX7_thoughtAt_25 : decode cX7_thoughtAt 25 = .ok (.athrow, 1) := by decide +kernel
theorem dX7_thoughtAt_26 : decode cX7_thoughtAt 26 = .ok (.aload_n 0, 1) := by decide +kernel
theorem dX7_thoughtAt_27 : decode cX7_thoughtAt 27 = .ok (.getfield 16, 3) := by decide +kernel
theorem dX7_thoughtAt_30 : decode cX7_thoughtAt 30 = .ok (.iload_n 1, 1) := by decide +kernel
theorem dX7_thoughtAt_31 : decode cX7_thoughtAt 31 = .ok (.invokevirtual 141, 3) := by decide +kernel
theorem dX7_thoughtAt_34 : decode cX7_thoughtAt 34 = .ok (.checkcast 56, 3) := by decide +kernel
theorem dX7_thoughtAt_37 : decode cX7_thoughtAt 37 = .ok (.areturn, 1) := by decide +kernel
theorem dX7_layerAt_0 : decode cX7_layerAt 0 = .ok (.aload_n 0, 1) := by decide +kernel
theorem dX7_layerAt_1 : decode cX7_layerAt 1 = .ok (.iload_n 1, 1) := by decide +kernel
theorem dX7_layerAt_2 : decode cX7_layerAt 2 = .ok (.invokevirtual 65, 3) := by decide +kernel
theorem dX7_layerAt_5 : decode cX7_layerAt 5 = .ok (.astore_n 3, 1) := by decide +kernel
theorem dX7_layerAt_6 : decode cX7_layerAt 6 = .ok (.iload_n 2, 1) := by decide +kernel
theorem dX7_layerAt_7 : decode cX7_layerAt 7 = .ok (.ifCond .lt 14, 3) := by decide +kernel
theorem dX7_layerAt_10 : decode cX7_layerAt 10 = .ok (.iload_n 2, 1) := by decide +kernel
theorem dX7_layerAt_11 : decode cX7_layerAt 11 = .ok (.aload_n 3, 1) := by decide +kernel
theorem dX7_layerAt_12 : decode cX7_layerAt 12 = .ok (.getfield 77, 3) := by decide +kernel
theorem dX7_layerAt_15 : decode cX7_layerAt 15 = .ok (.invokevirtual 47, 3) := by decide +kernel
theorem dX7_layerAt_18 : decode cX7_layerAt 18 = .ok (.if_icmp .lt 14, 3) := by decide +kernel
theorem dX7_layerAt_21 : decode cX7_layerAt 21 = .ok (.new 110, 3) := by decide +kernel
theorem dX7_layerAt_24 : decode cX7_layerAt 24 = .ok (.dup, 1) := by decide +kernel
theorem dX7_layerAt_25 : decode cX7_layerAt 25 = .ok (.ldc_w 307, 3) := by decide +kernel
theorem dX7_layerAt_28 : decode cX7_layerAt 28 = .ok (.invokespecial 114, 3) := by decide +kernel
theorem dX7_layerAt_31 : decode cX7_layerAt 31 = .ok (.athrow, 1) := by decide +kernel
theorem dX7_layerAt_32 : decode cX7_layerAt 32 = .ok (.aload_n 3, 1) := by decide +kernel
theorem dX7_layerAt_33 : decode cX7_layerAt 33 = .ok (.getfield 77, 3) := by decide +kernel
theorem dX7_layerAt_36 : decode cX7_layerAt 36 = .ok (.iload_n 2, 1) := by decide +kernel
theorem dX7_layerAt_37 : decode cX7_layerAt 37 = .ok (.invokevirtual 141, 3) := by decide +kernel
theorem dX7_layerAt_40 : decode cX7_layerAt 40 = .ok (.checkcast 82, 3) := by decide +kernel
theorem dX7_layerAt_43 : decode cX7_layerAt 43 = .ok (.areturn, 1) := by decide +kernel
theorem dX7_checkRange_0 : decode cX7_checkRange 0 = .ok (.iload_n 0, 1) := by decide +kernel
theorem dX7_checkRange_1 : decode cX7_checkRange 1 = .ok (.iload_n 1, 1) := by decide +kernel
theorem dX7_checkRange_2 : decode cX7_checkRange 2 = .ok (.if_icmp .lt 8, 3) := by decide +kernel
theorem dX7_checkRange_5 : decode cX7_checkRange 5 = .ok (.iload_n 0, 1) := by decide +kernel
theorem dX7_checkRange_6 : decode cX7_checkRange 6 = .ok (.iload_n 2, 1) := by decide +kernel
theorem dX7_checkRange_7 : decode cX7_checkRange 7 = .ok (.if_icmp .le 14, 3) := by decide +kernel
theorem dX7_checkRange_10 : decode cX7_checkRange 10 = .ok (.new 40, 3) := by decide +kernel
theorem dX7_checkRange_13 : decode cX7_checkRange 13 = .ok (.dup, 1) := by decide +kernel
theorem dX7_checkRange_14 : decode cX7_checkRange 14 = .ok (.ldc_w 309, 3) := by decide +kernel
theorem dX7_checkRange_17 : decode cX7_checkRange 17 = .ok (.invokespecial 44, 3) := by decide +kernel
theorem dX7_checkRange_20 : decode cX7_checkRange 20 = .ok (.athrow, 1) := by decide +kernel
theorem dX7_checkRange_21 : decode cX7_checkRange 21 = .ok (.return_, 1) := by decide +kernel
theorem dX7_soilOf_0 : decode cX7_soilOf 0 = .ok (.iload_n 0, 1) := by decide +kernel
theorem dX7_soilOf_1 : decode cX7_soilOf 1 = .ok (.bipush 115, 2) := by decide +kernel
theorem dX7_soilOf_3 : decode cX7_soilOf 3 = .ok (.if_icmp .ne 7, 3) := by decide +kernel
theorem dX7_soilOf_6 : decode cX7_soilOf 6 = .ok (.getstatic 311, 3) := by decide +kernel
theorem dX7_soilOf_9 : decode cX7_soilOf 9 = .ok (.areturn, 1) := by decide +kernel
theorem dX7_soilOf_10 : decode cX7_soilOf 10 = .ok (.iload_n 0, 1) := by decide +kernel
theorem dX7_soilOf_11 : decode cX7_soilOf 11 = .ok (.bipush 108, 2) := by decide +kernel
theorem dX7_soilOf_13 : decode cX7_soilOf 13 = .ok (.if_icmp .ne 7, 3) := by decide +kernel
theorem dX7_soilOf_16 : decode cX7_soilOf 16 = .ok (.getstatic 317, 3) := by decide +kernel
theorem dX7_soilOf_19 : decode cX7_soilOf 19 = .ok (.areturn, 1) := by decide +kernel
theorem dX7_soilOf_20 : decode cX7_soilOf 20 = .ok (.iload_n 0, 1) := by decide +kernel
theorem dX7_soilOf_21 : decode cX7_soilOf 21 = .ok (.bipush 99, 2) := by decide +kernel
theorem dX7_soilOf_23 : decode cX7_soilOf 23 = .ok (.if_icmp .ne 7, 3) := by decide +kernel
theorem dX7_soilOf_26 : decode cX7_soilOf 26 = .ok (.getstatic 320, 3) := by decide +kernel
theorem dX7_soilOf_29 : decode cX7_soilOf 29 = .ok (.areturn, 1) := by decide +kernel
theorem dX7_soilOf_30 : decode cX7_soilOf 30 = .ok (.new 40, 3) := by decide +kernel
theorem dX7_soilOf_33 : decode cX7_soilOf 33 = .ok (.dup, 1) := by decide +kernel
theorem dX7_soilOf_34 : decode cX7_soilOf 34 = .ok (.ldc_w 323, 3) := by decide +kernel
theorem dX7_soilOf_37 : decode cX7_soilOf 37 = .ok (.invokespecial 44, 3) := by decide +kernel
theorem dX7_soilOf_40 : decode cX7_soilOf 40 = .ok (.athrow, 1) := by decide +kernel
theorem dX7_kindOf_0 : decode cX7_kindOf 0 = .ok (.iload_n 0, 1) := by decide +kernel
theorem dX7_kindOf_1 : decode cX7_kindOf 1 = .ok (.bipush 110, 2) := by decide +kernel
theorem dX7_kindOf_3 : decode cX7_kindOf 3 = .ok (.if_icmp .ne 5, 3) := by decide +kernel
theorem dX7_kindOf_6 : decode cX7_kindOf 6 = .ok (.iconst 0, 1) := by decide +kernel
theorem dX7_kindOf_7 : decode cX7_kindOf 7 = .ok (.ireturn, 1) := by decide +kernel
theorem dX7_kindOf_8 : decode cX7_kindOf 8 = .ok (.iload_n 0, 1) := by decide +kernel
theorem dX7_kindOf_9 : decode cX7_kindOf 9 = .ok (.bipush 115, 2) := by decide +kernel
theorem dX7_kindOf_11 : decode cX7_kindOf 11 = .ok (.if_icmp .ne 5, 3) := by decide +kernel
theorem dX7_kindOf_14 : decode cX7_kindOf 14 = .ok (.iconst 1, 1) := by decide +kernel
theorem dX7_kindOf_15 : decode cX7_kindOf 15 = .ok (.ireturn, 1) := by decide +kernel
theorem dX7_kindOf_16 : decode cX7_kindOf 16 = .ok (.iload_n 0, 1) := by decide +kernel
theorem dX7_kindOf_17 : decode cX7_kindOf 17 = .ok (.bipush 116, 2) := by decide +kernel
theorem dX7_kindOf_19 : decode cX7_kindOf 19 = .ok (.if_icmp .ne 5, 3) := by decide +kernel
theorem dX7_kindOf_22 : decode cX7_kindOf 22 = .ok (.iconst 2, 1) := by decide +kernel
theorem dX7_kindOf_23 : decode cX7_kindOf 23 = .ok (.ireturn, 1) := by decide +kernel
theorem dX7_kindOf_24 : decode cX7_kindOf 24 = .ok (.new 40, 3) := by decide +kernel
theorem dX7_kindOf_27 : decode cX7_kindOf 27 = .ok (.dup, 1) := by decide +kernel
theorem dX7_kindOf_28 : decode cX7_kindOf 28 = .ok (.ldc_w 325, 3) := by decide +kernel
theorem dX7_kindOf_31 : decode cX7_kindOf 31 = .ok (.invokespecial 44, 3) := by decide +kernel
theorem dX7_kindOf_34 : decode cX7_kindOf 34 = .ok (.athrow, 1) := by decide +kernel
theorem dX7_letAnHourGoBy_0 : decode cX7_letAnHourGoBy 0 = .ok (.aload_n 1, 1) := by decide +kernel
theorem dX7_letAnHourGoBy_1 : decode cX7_letAnHourGoBy 1 = .ok (.getfield 87, 3) := by decide +kernel
theorem dX7_letAnHourGoBy_4 : decode cX7_letAnHourGoBy 4 = .ok (.getfield 214, 3) := by decide +kernel
theorem dX7_letAnHourGoBy_7 : decode cX7_letAnHourGoBy 7 = .ok (.lstore_n 2, 1) := by decide +kernel
theorem dX7_letAnHourGoBy_8 : decode cX7_letAnHourGoBy 8 = .ok (.aload_n 1, 1) := by decide +kernel
theorem dX7_letAnHourGoBy_9 : decode cX7_letAnHourGoBy 9 = .ok (.getfield 87, 3) := by decide +kernel
theorem dX7_letAnHourGoBy_12 : decode cX7_letAnHourGoBy 12 = .ok (.getfield 192, 3) := by decide +kernel
theorem dX7_letAnHourGoBy_15 : decode cX7_letAnHourGoBy 15 = .ok (.iconst 0, 1) := by decide +kernel
theorem dX7_letAnHourGoBy_16 : decode cX7_letAnHourGoBy 16 = .ok (.invokevirtual 185, 3) := by decide +kernel
theorem dX7_letAnHourGoBy_19 : decode cX7_letAnHourGoBy 19 = .ok (.lstore 4, 2) := by decide +kernel
theorem dX7_letAnHourGoBy_21 : decode cX7_letAnHourGoBy 21 = .ok (.aload_n 0, 1) := by decide +kernel
theorem dX7_letAnHourGoBy_22 : decode cX7_letAnHourGoBy 22 = .ok (.aload_n 1, 1) := by decide +kernel
theorem dX7_letAnHourGoBy_23 : decode cX7_letAnHourGoBy 23 = .ok (.aload_n 1, 1) := by decide +kernel
theorem dX7_letAnHourGoBy_24 : decode cX7_letAnHourGoBy 24 = .ok (.aload_n 0, 1) := by decide +kernel
theorem dX7_letAnHourGoBy_25 : decode cX7_letAnHourGoBy 25 = .ok (.getfield 22, 3) := by decide +kernel
theorem dX7_letAnHourGoBy_28 : decode cX7_letAnHourGoBy 28 = .ok (.getfield 198, 3) := by decide +kernel
theorem dX7_letAnHourGoBy_31 : decode cX7_letAnHourGoBy 31 = .ok (.aload_n 0, 1) := by decide +kernel
theorem dX7_letAnHourGoBy_32 : decode cX7_letAnHourGoBy 32 = .ok (.getfield 22, 3) := by decide +kernel
theorem dX7_letAnHourGoBy_35 : decode cX7_letAnHourGoBy 35 = .ok (.getfield 201, 3) := by decide +kernel
theorem dX7_letAnHourGoBy_38 : decode cX7_letAnHourGoBy 38 = .ok (.aload_n 0, 1) := by decide +kernel
theorem dX7_letAnHourGoBy_39 : decode cX7_letAnHourGoBy 39 = .ok (.getfield 22, 3) := by decide +kernel
theorem dX7_letAnHourGoBy_42 : decode cX7_letAnHourGoBy 42 = .ok (.getfield 204, 3) := by decide +kernel
theorem dX7_letAnHourGoBy_45 : decode cX7_letAnHourGoBy 45 = .ok (.invokevirtual 327, 3) := by decide +kernel
theorem dX7_letAnHourGoBy_48 : decode cX7_letAnHourGoBy 48 = .ok (.invokevirtual 330, 3) := by decide +kernel
theorem dX7_letAnHourGoBy_51 : decode cX7_letAnHourGoBy 51 = .ok (.aload_n 0, 1) := by decide +kernel
theorem dX7_letAnHourGoBy_52 : decode cX7_letAnHourGoBy 52 = .ok (.aload_n 1, 1) := by decide +kernel
theorem dX7_letAnHourGoBy_53 : decode cX7_letAnHourGoBy 53 = .ok (.aload_n 1, 1) := by decide +kernel
theorem dX7_letAnHourGoBy_54 : decode cX7_letAnHourGoBy 54 = .ok (.getfield 87, 3) := by decide +kernel
theorem dX7_letAnHourGoBy_57 : decode cX7_letAnHourGoBy 57 = .ok (.getfield 192, 3) := by decide +kernel
theorem dX7_letAnHourGoBy_60 : decode cX7_letAnHourGoBy 60 = .ok (.iconst 0, 1) := by decide +kernel
theorem dX7_letAnHourGoBy_61 : decode cX7_letAnHourGoBy 61 = .ok (.invokevirtual 185, 3) := by decide +kernel
theorem dX7_letAnHourGoBy_64 : decode cX7_letAnHourGoBy 64 = .ok (.lload 4, 2) := by decide +kernel
theorem dX7_letAnHourGoBy_66 : decode cX7_letAnHourGoBy 66 = .ok (.lsub, 1) := by decide +kernel
theorem dX7_letAnHourGoBy_67 : decode cX7_letAnHourGoBy 67 = .ok (.aload_n 1, 1) := by decide +kernel
theorem dX7_letAnHourGoBy_68 : decode cX7_letAnHourGoBy 68 = .ok (.getfield 87, 3) := by decide +kernel
theorem dX7_letAnHourGoBy_71 : decode cX7_letAnHourGoBy 71 = .ok (.getfield 214, 3) := by decide +kernel
theorem dX7_letAnHourGoBy_74 : decode cX7_letAnHourGoBy 74 = .ok (.lload_n 2, 1) := by decide +kernel
theorem dX7_letAnHourGoBy_75 : decode cX7_letAnHourGoBy 75 = .ok (.lsub, 1) := by decide +kernel
theorem dX7_letAnHourGoBy_76 : decode cX7_letAnHourGoBy 76 = .ok (.invokevirtual 334, 3) := by decide +kernel
theorem dX7_letAnHourGoBy_79 : decode cX7_letAnHourGoBy 79 = .ok (.return_, 1) := by decide +kernel
theorem dX7_runOn_0 : decode cX7_runOn 0 = .ok (.aload_n 1, 1) := by decide +kernel
theorem dX7_runOn_1 : decode cX7_runOn 1 = .ok (.getfield 87, 3) := by decide +kernel
theorem dX7_runOn_4 : decode cX7_runOn 4 = .ok (.dup, 1) := by decide +kernel
theorem dX7_runOn_5 : decode cX7_runOn 5 = .ok (.getfield 217, 3) := by decide +kernel
theorem dX7_runOn_8 : decode cX7_runOn 8 = .ok (.lload_n 2, 1) := by decide +kernel
theorem dX7_runOn_9 : decode cX7_runOn 9 = .ok (.ladd, 1) := by decide +kernel
theorem dX7_runOn_10 : decode cX7_runOn 10 = .ok (.putfield 217, 3) := by decide +kernel
theorem dX7_runOn_13 : decode cX7_runOn 13 = .ok (.aload_n 1, 1) := by decide +kernel
theorem dX7_runOn_14 : decode cX7_runOn 14 = .ok (.getfield 117, 3) := by decide +kernel
theorem dX7_runOn_17 : decode cX7_runOn 17 = .ok (.ifCond .lt 43, 3) := by decide +kernel
theorem dX7_runOn_20 : decode cX7_runOn 20 = .ok (.aload_n 1, 1) := by decide +kernel
theorem dX7_runOn_21 : decode cX7_runOn 21 = .ok (.getfield 117, 3) := by decide +kernel
theorem dX7_runOn_24 : decode cX7_runOn 24 = .ok (.aload_n 0, 1) := by decide +kernel
theorem dX7_runOn_25 : decode cX7_runOn 25 = .ok (.getfield 10, 3) := by decide +kernel
theorem dX7_runOn_28 : decode cX7_runOn 28 = .ok (.invokevirtual 47, 3) := by decide +kernel
theorem dX7_runOn_31 : decode cX7_runOn 31 = .ok (.if_icmp .ge 29, 3) := by decide +kernel
theorem dX7_runOn_34 : decode cX7_runOn 34 = .ok (.aload_n 0, 1) := by decide +kernel
theorem dX7_runOn_35 : decode cX7_runOn 35 = .ok (.getfield 10, 3) := by decide +kernel
theorem dX7_runOn_38 : decode cX7_runOn 38 = .ok (.aload_n 1, 1) := by decide +kernel
theorem dX7_runOn_39 : decode cX7_runOn 39 = .ok (.getfield 117, 3) := by decide +kernel
theorem dX7_runOn_42 : decode cX7_runOn 42 = .ok (.invokevirtual 141, 3) := by decide +kernel
theorem dX7_runOn_45 : decode cX7_runOn 45 = .ok (.checkcast 56, 3) := by decide +kernel
theorem dX7_runOn_48 : decode cX7_runOn 48 = .ok (.dup, 1) := by decide +kernel
theorem dX7_runOn_49 : decode cX7_runOn 49 = .ok (.getfield 338, 3) := by decide +kernel
theorem dX7_runOn_52 : decode cX7_runOn 52 = .ok (.lload_n 2, 1) := by decide +kernel
theorem dX7_runOn_53 : decode cX7_runOn 53 = .ok (.ladd, 1) := by decide +kernel
theorem dX7_runOn_54 : decode cX7_runOn 54 = .ok (.putfield 338, 3) := by decide +kernel
theorem dX7_runOn_57 : decode cX7_runOn 57 = .ok (.goto 16, 3) := by decide +kernel
theorem dX7_runOn_60 : decode cX7_runOn 60 = .ok (.aload_n 1, 1) := by decide +kernel
theorem dX7_runOn_61 : decode cX7_runOn 61 = .ok (.getfield 87, 3) := by decide +kernel
theorem dX7_runOn_64 : decode cX7_runOn 64 = .ok (.dup, 1) := by decide +kernel
theorem dX7_runOn_65 : decode cX7_runOn 65 = .ok (.getfield 341, 3) := by decide +kernel
theorem dX7_runOn_68 : decode cX7_runOn 68 = .ok (.lload_n 2, 1) := by decide +kernel
theorem dX7_runOn_69 : decode cX7_runOn 69 = .ok (.ladd, 1) := by decide +kernel
theorem dX7_runOn_70 : decode cX7_runOn 70 = .ok (.putfield 341, 3) := by decide +kernel
theorem dX7_runOn_73 : decode cX7_runOn 73 = .ok (.return_, 1) := by decide +kernel
theorem dX7_judge_0 : decode cX7_judge 0 = .ok (.lload_n 2, 1) := by decide +kernel
theorem dX7_judge_1 : decode cX7_judge 1 = .ok (.lconst 0, 1) := by decide +kernel
theorem dX7_judge_2 : decode cX7_judge 2 = .ok (.lcmp, 1) := by decide +kernel
theorem dX7_judge_3 : decode cX7_judge 3 = .ok (.ifCond .le 44, 3) := by decide +kernel
theorem dX7_judge_6 : decode cX7_judge 6 = .ok (.lload 4, 2) := by decide +kernel
theorem dX7_judge_8 : decode cX7_judge 8 = .ok (.lconst 0, 1) := by decide +kernel
theorem dX7_judge_9 : decode cX7_judge 9 = .ok (.lcmp, 1) := by decide +kernel
theorem dX7_judge_10 : decode cX7_judge 10 = .ok (.ifCond .le 37, 3) := by decide +kernel
theorem dX7_judge_13 : decode cX7_judge 13 = .ok (.lload_n 2, 1) := by decide +kernel
theorem dX7_judge_14 : decode cX7_judge 14 = .ok (.ldc2_w 344, 3) := by decide +kernel
theorem dX7_judge_17 : decode cX7_judge 17 = .ok (.lmul, 1) := by decide +kernel
theorem dX7_judge_18 : decode cX7_judge 18 = .ok (.lload 4, 2) := by decide +kernel
theorem dX7_judge_20 : decode cX7_judge 20 = .ok (.ldiv, 1) := by decide +kernel
theorem dX7_judge_21 : decode cX7_judge 21 = .ok (.aload_n 0, 1) := by decide +kernel
theorem dX7_judge_22 : decode cX7_judge 22 = .ok (.getfield 30, 3) := by decide +kernel
theorem dX7_judge_25 : decode cX7_judge 25 = .ok (.i2l, 1) := by decide +kernel
theorem dX7_judge_26 : decode cX7_judge 26 = .ok (.lcmp, 1) := by decide +kernel
theorem dX7_judge_27 : decode cX7_judge 27 = .ok (.ifCond .le 20, 3) := by decide +kernel
theorem dX7_judge_30 : decode cX7_judge 30 = .ok (.aload_n 1, 1) := by decide +kernel
theorem dX7_judge_31 : decode cX7_judge 31 = .ok (.getfield 87, 3) := by decide +kernel
theorem dX7_judge_34 : decode cX7_judge 34 = .ok (.dup, 1) := by decide +kernel
theorem dX7_judge_35 : decode cX7_judge 35 = .ok (.getfield 256, 3) := by decide +kernel
theorem dX7_judge_38 : decode cX7_judge 38 = .ok (.aload_n 0, 1) := by decide +kernel
theorem dX7_judge_39 : decode cX7_judge 39 = .ok (.getfield 34, 3) := by decide +kernel
theorem dX7_judge_42 : decode cX7_judge 42 = .ok (.i2l, 1) := by decide +kernel
theorem dX7_judge_43 : decode cX7_judge 43 = .ok (.ladd, 1) := by decide +kernel
theorem dX7_judge_44 : decode cX7_judge 44 = .ok (.putfield 256, 3) := by decide +kernel
theorem dX7_judge_47 : decode cX7_judge 47 = .ok (.return_, 1) := by decide +kernel
theorem dX7_driftOf_0 : decode cX7_driftOf 0 = .ok (.aload_n 0, 1) := by decide +kernel
theorem dX7_driftOf_1 : decode cX7_driftOf 1 = .ok (.getfield 37, 3) := by decide +kernel
theorem dX7_driftOf_4 : decode cX7_driftOf 4 = .ok (.aload_n 1, 1) := by decide +kernel
theorem dX7_driftOf_5 : decode cX7_driftOf 5 = .ok (.getfield 250, 3) := by decide +kernel
theorem dX7_driftOf_8 : decode cX7_driftOf 8 = .ok (.isub, 1) := by decide +kernel
theorem dX7_driftOf_9 : decode cX7_driftOf 9 = .ok (.bipush 24, 2) := by decide +kernel
theorem dX7_driftOf_11 : decode cX7_driftOf 11 = .ok (.idiv, 1) := by decide +kernel
theorem dX7_driftOf_12 : decode cX7_driftOf 12 = .ok (.ireturn, 1) := by decide +kernel
theorem dX7_thinkOf_0 : decode cX7_thinkOf 0 = .ok (.aload_n 0, 1) := by decide +kernel
theorem dX7_thinkOf_1 : decode cX7_thinkOf 1 = .ok (.iload_n 1, 1) := by decide +kernel
theorem dX7_thinkOf_2 : decode cX7_thinkOf 2 = .ok (.invokevirtual 100, 3) := by decide +kernel
theorem dX7_thinkOf_5 : decode cX7_thinkOf 5 = .ok (.astore_n 3, 1) := by decide +kernel
theorem dX7_thinkOf_6 : decode cX7_thinkOf 6 = .ok (.aload_n 3, 1) := by decide +kernel
theorem dX7_thinkOf_7 : decode cX7_thinkOf 7 = .ok (.aload_n 0, 1) := by decide +kernel
theorem dX7_thinkOf_8 : decode cX7_thinkOf 8 = .ok (.iload_n 1, 1) := by decide +kernel
theorem dX7_thinkOf_9 : decode cX7_thinkOf 9 = .ok (.invokevirtual 65, 3) := by decide +kernel
theorem dX7_thinkOf_12 : decode cX7_thinkOf 12 = .ok (.invokevirtual 346, 3) := by decide +kernel
theorem dX7_thinkOf_15 : decode cX7_thinkOf 15 = .ok (.aload_n 3, 1) := by decide +kernel
theorem dX7_thinkOf_16 : decode cX7_thinkOf 16 = .ok (.iload_n 2, 1) := by decide +kernel
theorem dX7_thinkOf_17 : decode cX7_thinkOf 17 = .ok (.putfield 120, 3) := by decide +kernel
theorem dX7_thinkOf_20 : decode cX7_thinkOf 20 = .ok (.aload_n 3, 1) := by decide +kernel
theorem dX7_thinkOf_21 : decode cX7_thinkOf 21 = .ok (.areturn, 1) := by decide +kernel
theorem dX7_foresee_0 : decode cX7_foresee 0 = .ok (.aload_n 0, 1) := by decide +kernel
theorem dX7_foresee_1 : decode cX7_foresee 1 = .ok (.iload_n 1, 1) := by decide +kernel
theorem dX7_foresee_2 : decode cX7_foresee 2 = .ok (.iload_n 3, 1) := by decide +kernel
theorem dX7_foresee_3 : decode cX7_foresee 3 = .ok (.invokevirtual 349, 3) := by decide +kernel
theorem dX7_foresee_6 : decode cX7_foresee 6 = .ok (.astore 4, 2) := by decide +kernel
theorem dX7_foresee_8 : decode cX7_foresee 8 = .ok (.aload 4, 2) := by decide +kernel
theorem dX7_foresee_10 : decode cX7_foresee 10 = .ok (.getfield 87, 3) := by decide +kernel
theorem dX7_foresee_13 : decode cX7_foresee 13 = .ok (.getfield 214, 3) := by decide +kernel
theorem dX7_foresee_16 : decode cX7_foresee 16 = .ok (.lstore 5, 2) := by decide +kernel
theorem dX7_foresee_18 : decode cX7_foresee 18 = .ok (.iconst 0, 1) := by decide +kernel
theorem dX7_foresee_19 : decode cX7_foresee 19 = .ok (.istore 7, 2) := by decide +kernel
theorem dX7_foresee_21 : decode cX7_foresee 21 = .ok (.iload 7, 2) := by decide +kernel
theorem dX7_foresee_23 : decode cX7_foresee 23 = .ok (.iload_n 2, 1) := by decide +kernel
theorem dX7_foresee_24 : decode cX7_foresee 24 = .ok (.if_icmp .ge 30, 3) := by decide +kernel
theorem dX7_foresee_27 : decode cX7_foresee 27 = .ok (.aload 4, 2) := by decide +kernel
theorem dX7_foresee_29 : decode cX7_foresee 29 = .ok (.aload_n 0, 1) := by decide +kernel
theorem dX7_foresee_30 : decode cX7_foresee 30 = .ok (.getfield 22, 3) := by decide +kernel
theorem dX7_foresee_33 : decode cX7_foresee 33 = .ok (.getfield 198, 3) := by decide +kernel
theorem dX7_foresee_36 : decode cX7_foresee 36 = .ok (.iconst 0, 1) := by decide +kernel
theorem dX7_foresee_37 : decode cX7_foresee 37 = .ok (.aload_n 0, 1) := by decide +kernel
theorem dX7_foresee_38 : decode cX7_foresee 38 = .ok (.getfield 22, 3) := by decide +kernel
theorem dX7_foresee_41 : decode cX7_foresee 41 = .ok (.getfield 204, 3) := by decide +kernel
theorem dX7_foresee_44 : decode cX7_foresee 44 = .ok (.invokevirtual 327, 3) := by decide +kernel
theorem dX7_foresee_47 : decode cX7_foresee 47 = .ok (.pop2, 1) := by decide +kernel
theorem dX7_foresee_48 : decode cX7_foresee 48 = .ok (.iinc 7 1, 3) := by decide +kernel
theorem dX7_foresee_51 : decode cX7_foresee 51 = .ok (.goto (-30), 3) := by decide +kernel
theorem dX7_foresee_54 : decode cX7_foresee 54 = .ok (.aload 4, 2) := by decide +kernel
theorem dX7_foresee_56 : decode cX7_foresee 56 = .ok (.getfield 87, 3) := by decide +kernel
theorem dX7_foresee_59 : decode cX7_foresee 59 = .ok (.getfield 214, 3) := by decide +kernel
theorem dX7_foresee_62 : decode cX7_foresee 62 = .ok (.lload 5, 2) := by decide +kernel
theorem dX7_foresee_64 : decode cX7_foresee 64 = .ok (.lsub, 1) := by decide +kernel
theorem dX7_foresee_65 : decode cX7_foresee 65 = .ok (.lreturn, 1) := by decide +kernel
end
section
theorem dX7_compareForecasts_0 : decode cX7_compareForecasts 0 = .ok (.aload_n 0, 1) := by decide +kernel
theorem dX7_compareForecasts_1 : decode cX7_compareForecasts 1 = .ok (.iload_n 1, 1) := by decide +kernel
theorem dX7_compareForecasts_2 : decode cX7_compareForecasts 2 = .ok (.invokevirtual 65, 3) := by decide +kernel
theorem dX7_compareForecasts_5 : decode cX7_compareForecasts 5 = .ok (.pop, 1) := by decide +kernel
theorem dX7_compareForecasts_6 : decode cX7_compareForecasts 6 = .ok (.iload_n 2, 1) := by decide +kernel
theorem dX7_compareForecasts_7 : decode cX7_compareForecasts 7 = .ok (.iconst 1, 1) := by decide +kernel
theorem dX7_compareForecasts_8 : decode cX7_compareForecasts 8 = .ok (.bipush 48, 2) := by decide +kernel
theorem dX7_compareForecasts_10 : decode cX7_compareForecasts 10 = .ok (.invokestatic 73, 3) := by decide +kernel
theorem dX7_compareForecasts_13 : decode cX7_compareForecasts 13 = .ok (.iload_n 3, 1) := by decide +kernel
theorem dX7_compareForecasts_14 : decode cX7_compareForecasts 14 = .ok (.iconst 0, 1) := by decide +kernel
theorem dX7_compareForecasts_15 : decode cX7_compareForecasts 15 = .ok (.ldc_w 353, 3) := by decide +kernel
theorem dX7_compareForecasts_18 : decode cX7_compareForecasts 18 = .ok (.invokestatic 73, 3) := by decide +kernel
theorem dX7_compareForecasts_21 : decode cX7_compareForecasts 21 = .ok (.ldc2_w 356, 3) := by decide +kernel
theorem dX7_compareForecasts_24 : decode cX7_compareForecasts 24 = .ok (.lstore 4, 2) := by decide +kernel
theorem dX7_compareForecasts_26 : decode cX7_compareForecasts 26 = .ok (.iconst 0, 1) := by decide +kernel
theorem dX7_compareForecasts_27 : decode cX7_compareForecasts 27 = .ok (.istore 6, 2) := by decide +kernel
theorem dX7_compareForecasts_29 : decode cX7_compareForecasts 29 = .ok (.iload 6, 2) := by decide +kernel
theorem dX7_compareForecasts_31 : decode cX7_compareForecasts 31 = .ok (.aload_n 0, 1) := by decide +kernel
theorem dX7_compareForecasts_32 : decode cX7_compareForecasts 32 = .ok (.getfield 26, 3) := by decide +kernel
theorem dX7_compareForecasts_35 : decode cX7_compareForecasts 35 = .ok (.arraylength, 1) := by decide +kernel
theorem dX7_compareForecasts_36 : decode cX7_compareForecasts 36 = .ok (.if_icmp .ge 47, 3) := by decide +kernel
theorem dX7_compareForecasts_39 : decode cX7_compareForecasts 39 = .ok (.aload_n 0, 1) := by decide +kernel
theorem dX7_compareForecasts_40 : decode cX7_compareForecasts 40 = .ok (.getfield 26, 3) := by decide +kernel
theorem dX7_compareForecasts_43 : decode cX7_compareForecasts 43 = .ok (.iload 6, 2) := by decide +kernel
theorem dX7_compareForecasts_45 : decode cX7_compareForecasts 45 = .ok (.aload_n 0, 1) := by decide +kernel
theorem dX7_compareForecasts_46 : decode cX7_compareForecasts 46 = .ok (.iload_n 1, 1) := by decide +kernel
theorem dX7_compareForecasts_47 : decode cX7_compareForecasts 47 = .ok (.iload_n 2, 1) := by decide +kernel
theorem dX7_compareForecasts_48 : decode cX7_compareForecasts 48 = .ok (.iload 6, 2) := by decide +kernel
theorem dX7_compareForecasts_50 : decode cX7_compareForecasts 50 = .ok (.invokestatic 266, 3) := by decide +kernel
theorem dX7_compareForecasts_53 : decode cX7_compareForecasts 53 = .ok (.invokevirtual 259, 3) := by decide +kernel
theorem dX7_compareForecasts_56 : decode cX7_compareForecasts 56 = .ok (.iload_n 3, 1) := by decide +kernel
theorem dX7_compareForecasts_57 : decode cX7_compareForecasts 57 = .ok (.i2l, 1) := by decide +kernel
theorem dX7_compareForecasts_58 : decode cX7_compareForecasts 58 = .ok (.lsub, 1) := by decide +kernel
theorem dX7_compareForecasts_59 : decode cX7_compareForecasts 59 = .ok (.invokestatic 358, 3) := by decide +kernel
theorem dX7_compareForecasts_62 : decode cX7_compareForecasts 62 = .ok (.lastore, 1) := by decide +kernel
theorem dX7_compareForecasts_63 : decode cX7_compareForecasts 63 = .ok (.lload 4, 2) := by decide +kernel
theorem dX7_compareForecasts_65 : decode cX7_compareForecasts 65 = .ok (.aload_n 0, 1) := by decide +kernel
theorem dX7_compareForecasts_66 : decode cX7_compareForecasts 66 = .ok (.getfield 26, 3) := by decide +kernel
theorem dX7_compareForecasts_69 : decode cX7_compareForecasts 69 = .ok (.iload 6, 2) := by decide +kernel
theorem dX7_compareForecasts_71 : decode cX7_compareForecasts 71 = .ok (.laload, 1) := by decide +kernel
theorem dX7_compareForecasts_72 : decode cX7_compareForecasts 72 = .ok (.invokestatic 364, 3) := by decide +kernel
theorem dX7_compareForecasts_75 : decode cX7_compareForecasts 75 = .ok (.lstore 4, 2) := by decide +kernel
theorem dX7_compareForecasts_77 : decode cX7_compareForecasts 77 = .ok (.iinc 6 1, 3) := by decide +kernel
theorem dX7_compareForecasts_80 : decode cX7_compareForecasts 80 = .ok (.goto (-51), 3) := by decide +kernel
theorem dX7_compareForecasts_83 : decode cX7_compareForecasts 83 = .ok (.lload 4, 2) := by decide +kernel
theorem dX7_compareForecasts_85 : decode cX7_compareForecasts 85 = .ok (.lreturn, 1) := by decide +kernel
theorem dX7_fittedScale_0 : decode cX7_fittedScale 0 = .ok (.bipush 10, 2) := by decide +kernel
theorem dX7_fittedScale_2 : decode cX7_fittedScale 2 = .ok (.iload_n 0, 1) := by decide +kernel
theorem dX7_fittedScale_3 : decode cX7_fittedScale 3 = .ok (.bipush 10, 2) := by decide +kernel
theorem dX7_fittedScale_5 : decode cX7_fittedScale 5 = .ok (.imul, 1) := by decide +kernel
theorem dX7_fittedScale_6 : decode cX7_fittedScale 6 = .ok (.iadd, 1) := by decide +kernel
theorem dX7_fittedScale_7 : decode cX7_fittedScale 7 = .ok (.ireturn, 1) := by decide +kernel
theorem dX7_layersInAll_0 : decode cX7_layersInAll 0 = .ok (.iconst 0, 1) := by decide +kernel
theorem dX7_layersInAll_1 : decode cX7_layersInAll 1 = .ok (.istore_n 1, 1) := by decide +kernel
theorem dX7_layersInAll_2 : decode cX7_layersInAll 2 = .ok (.iconst 0, 1) := by decide +kernel
theorem dX7_layersInAll_3 : decode cX7_layersInAll 3 = .ok (.istore_n 2, 1) := by decide +kernel
theorem dX7_layersInAll_4 : decode cX7_layersInAll 4 = .ok (.iload_n 2, 1) := by decide +kernel
theorem dX7_layersInAll_5 : decode cX7_layersInAll 5 = .ok (.aload_n 0, 1) := by decide +kernel
theorem dX7_layersInAll_6 : decode cX7_layersInAll 6 = .ok (.getfield 10, 3) := by decide +kernel
theorem dX7_layersInAll_9 : decode cX7_layersInAll 9 = .ok (.invokevirtual 47, 3) := by decide +kernel
theorem dX7_layersInAll_12 : decode cX7_layersInAll 12 = .ok (.if_icmp .ge 29, 3) := by decide +kernel
theorem dX7_layersInAll_15 : decode cX7_layersInAll 15 = .ok (.iload_n 1, 1) := by decide +kernel
theorem dX7_layersInAll_16 : decode cX7_layersInAll 16 = .ok (.aload_n 0, 1) := by decide +kernel
theorem dX7_layersInAll_17 : decode cX7_layersInAll 17 = .ok (.getfield 10, 3) := by decide +kernel
theorem dX7_layersInAll_20 : decode cX7_layersInAll 20 = .ok (.iload_n 2, 1) := by decide +kernel
theorem dX7_layersInAll_21 : decode cX7_layersInAll 21 = .ok (.invokevirtual 141, 3) := by decide +kernel
theorem dX7_layersInAll_24 : decode cX7_layersInAll 24 = .ok (.checkcast 56, 3) := by decide +kernel
theorem dX7_layersInAll_27 : decode cX7_layersInAll 27 = .ok (.getfield 77, 3) := by decide +kernel
theorem dX7_layersInAll_30 : decode cX7_layersInAll 30 = .ok (.invokevirtual 47, 3) := by decide +kernel
theorem dX7_layersInAll_33 : decode cX7_layersInAll 33 = .ok (.iadd, 1) := by decide +kernel
theorem dX7_layersInAll_34 : decode cX7_layersInAll 34 = .ok (.istore_n 1, 1) := by decide +kernel
theorem dX7_layersInAll_35 : decode cX7_layersInAll 35 = .ok (.iinc 2 1, 3) := by decide +kernel
theorem dX7_layersInAll_38 : decode cX7_layersInAll 38 = .ok (.goto (-34), 3) := by decide +kernel
theorem dX7_layersInAll_41 : decode cX7_layersInAll 41 = .ok (.iload_n 1, 1) := by decide +kernel
theorem dX7_layersInAll_42 : decode cX7_layersInAll 42 = .ok (.ireturn, 1) := by decide +kernel
theorem dX7_forecastHolds_0 : decode cX7_forecastHolds 0 = .ok (.aload_n 0, 1) := by decide +kernel
theorem dX7_forecastHolds_1 : decode cX7_forecastHolds 1 = .ok (.iload_n 1, 1) := by decide +kernel
theorem dX7_forecastHolds_2 : decode cX7_forecastHolds 2 = .ok (.invokevirtual 65, 3) := by decide +kernel
theorem dX7_forecastHolds_5 : decode cX7_forecastHolds 5 = .ok (.getfield 120, 3) := by decide +kernel
theorem dX7_forecastHolds_8 : decode cX7_forecastHolds 8 = .ok (.istore_n 2, 1) := by decide +kernel
theorem dX7_forecastHolds_9 : decode cX7_forecastHolds 9 = .ok (.aload_n 0, 1) := by decide +kernel
theorem dX7_forecastHolds_10 : decode cX7_forecastHolds 10 = .ok (.iload_n 1, 1) := by decide +kernel
theorem dX7_forecastHolds_11 : decode cX7_forecastHolds 11 = .ok (.bipush 48, 2) := by decide +kernel
theorem dX7_forecastHolds_13 : decode cX7_forecastHolds 13 = .ok (.iload_n 2, 1) := by decide +kernel
theorem dX7_forecastHolds_14 : decode cX7_forecastHolds 14 = .ok (.invokevirtual 259, 3) := by decide +kernel
theorem dX7_forecastHolds_17 : decode cX7_forecastHolds 17 = .ok (.lstore_n 3, 1) := by decide +kernel
theorem dX7_forecastHolds_18 : decode cX7_forecastHolds 18 = .ok (.aload_n 0, 1) := by decide +kernel
theorem dX7_forecastHolds_19 : decode cX7_forecastHolds 19 = .ok (.iload_n 1, 1) := by decide +kernel
theorem dX7_forecastHolds_20 : decode cX7_forecastHolds 20 = .ok (.iload_n 2, 1) := by decide +kernel
theorem dX7_forecastHolds_21 : decode cX7_forecastHolds 21 = .ok (.invokevirtual 349, 3) := by decide +kernel
theorem dX7_forecastHolds_24 : decode cX7_forecastHolds 24 = .ok (.astore 5, 2) := by decide +kernel
theorem dX7_forecastHolds_26 : decode cX7_forecastHolds 26 = .ok (.lconst 0, 1) := by decide +kernel
theorem dX7_forecastHolds_27 : decode cX7_forecastHolds 27 = .ok (.lstore 6, 2) := by decide +kernel
theorem dX7_forecastHolds_29 : decode cX7_forecastHolds 29 = .ok (.iconst 0, 1) := by decide +kernel
theorem dX7_forecastHolds_30 : decode cX7_forecastHolds 30 = .ok (.istore 8, 2) := by decide +kernel
theorem dX7_forecastHolds_32 : decode cX7_forecastHolds 32 = .ok (.iload 8, 2) := by decide +kernel
theorem dX7_forecastHolds_34 : decode cX7_forecastHolds 34 = .ok (.bipush 48, 2) := by decide +kernel
theorem dX7_forecastHolds_36 : decode cX7_forecastHolds 36 = .ok (.if_icmp .ge 56, 3) := by decide +kernel
theorem dX7_forecastHolds_39 : decode cX7_forecastHolds 39 = .ok (.aload 5, 2) := by decide +kernel
theorem dX7_forecastHolds_41 : decode cX7_forecastHolds 41 = .ok (.getfield 87, 3) := by decide +kernel
theorem dX7_forecastHolds_44 : decode cX7_forecastHolds 44 = .ok (.getfield 214, 3) := by decide +kernel
theorem dX7_forecastHolds_47 : decode cX7_forecastHolds 47 = .ok (.lstore 9, 2) := by decide +kernel
theorem dX7_forecastHolds_49 : decode cX7_forecastHolds 49 = .ok (.aload 5, 2) := by decide +kernel
theorem dX7_forecastHolds_51 : decode cX7_forecastHolds 51 = .ok (.aload_n 0, 1) := by decide +kernel
theorem dX7_forecastHolds_52 : decode cX7_forecastHolds 52 = .ok (.getfield 22, 3) := by decide +kernel
theorem dX7_forecastHolds_55 : decode cX7_forecastHolds 55 = .ok (.getfield 198, 3) := by decide +kernel
theorem dX7_forecastHolds_58 : decode cX7_forecastHolds 58 = .ok (.iconst 0, 1) := by decide +kernel
theorem dX7_forecastHolds_59 : decode cX7_forecastHolds 59 = .ok (.aload_n 0, 1) := by decide +kernel
theorem dX7_forecastHolds_60 : decode cX7_forecastHolds 60 = .ok (.getfield 22, 3) := by decide +kernel
theorem dX7_forecastHolds_63 : decode cX7_forecastHolds 63 = .ok (.getfield 204, 3) := by decide +kernel
theorem dX7_forecastHolds_66 : decode cX7_forecastHolds 66 = .ok (.invokevirtual 327, 3) := by decide +kernel
theorem dX7_forecastHolds_69 : decode cX7_forecastHolds 69 = .ok (.pop2, 1) := by decide +kernel
theorem dX7_forecastHolds_70 : decode cX7_forecastHolds 70 = .ok (.lload 6, 2) := by decide +kernel
theorem dX7_forecastHolds_72 : decode cX7_forecastHolds 72 = .ok (.aload 5, 2) := by decide +kernel
theorem dX7_forecastHolds_74 : decode cX7_forecastHolds 74 = .ok (.getfield 87, 3) := by decide +kernel
theorem dX7_forecastHolds_77 : decode cX7_forecastHolds 77 = .ok (.getfield 214, 3) := by decide +kernel
theorem dX7_forecastHolds_80 : decode cX7_forecastHolds 80 = .ok (.lload 9, 2) := by decide +kernel
theorem dX7_forecastHolds_82 : decode cX7_forecastHolds 82 = .ok (.lsub, 1) := by decide +kernel
theorem dX7_forecastHolds_83 : decode cX7_forecastHolds 83 = .ok (.ladd, 1) := by decide +kernel
theorem dX7_forecastHolds_84 : decode cX7_forecastHolds 84 = .ok (.lstore 6, 2) := by decide +kernel
theorem dX7_forecastHolds_86 : decode cX7_forecastHolds 86 = .ok (.iinc 8 1, 3) := by decide +kernel
theorem dX7_forecastHolds_89 : decode cX7_forecastHolds 89 = .ok (.goto (-57), 3) := by decide +kernel
theorem dX7_forecastHolds_92 : decode cX7_forecastHolds 92 = .ok (.lload_n 3, 1) := by decide +kernel
theorem dX7_forecastHolds_93 : decode cX7_forecastHolds 93 = .ok (.lload 6, 2) := by decide +kernel
theorem dX7_forecastHolds_95 : decode cX7_forecastHolds 95 = .ok (.lcmp, 1) := by decide +kernel
theorem dX7_forecastHolds_96 : decode cX7_forecastHolds 96 = .ok (.ifCond .ne 7, 3) := by decide +kernel
theorem dX7_forecastHolds_99 : decode cX7_forecastHolds 99 = .ok (.iconst 1, 1) := by decide +kernel
theorem dX7_forecastHolds_100 : decode cX7_forecastHolds 100 = .ok (.goto 4, 3) := by decide +kernel
theorem dX7_forecastHolds_103 : decode cX7_forecastHolds 103 = .ok (.iconst 0, 1) := by decide +kernel
theorem dX7_forecastHolds_104 : decode cX7_forecastHolds 104 = .ok (.ireturn, 1) := by decide +kernel
theorem dX8_init_0 : decode cX8_init 0 = .ok (.aload_n 0, 1) := by decide +kernel
theorem dX8_init_1 : decode cX8_init 1 = .ok (.invokespecial 3, 3) := by decide +kernel
theorem dX8_init_4 : decode cX8_init 4 = .ok (.aload_n 0, 1) := by decide +kernel
theorem dX8_init_5 : decode cX8_init 5 = .ok (.new 9, 3) := by decide +kernel
theorem dX8_init_8 : decode cX8_init 8 = .ok (.dup, 1) := by decide +kernel
theorem dX8_init_9 : decode cX8_init 9 = .ok (.invokespecial 11, 3) := by decide +kernel
theorem dX8_init_12 : decode cX8_init 12 = .ok (.putfield 12, 3) := by decide +kernel
theorem dX8_init_15 : decode cX8_init 15 = .ok (.aload_n 0, 1) := by decide +kernel
theorem dX8_init_16 : decode cX8_init 16 = .ok (.new 9, 3) := by decide +kernel
theorem dX8_init_19 : decode cX8_init 19 = .ok (.dup, 1) := by decide +kernel
theorem dX8_init_20 : decode cX8_init 20 = .ok (.invokespecial 11, 3) := by decide +kernel
theorem dX8_init_23 : decode cX8_init 23 = .ok (.putfield 18, 3) := by decide +kernel
theorem dX8_init_26 : decode cX8_init 26 = .ok (.aload_n 0, 1) := by decide +kernel
theorem dX8_init_27 : decode cX8_init 27 = .ok (.iconst (-1), 1) := by decide +kernel
theorem dX8_init_28 : decode cX8_init 28 = .ok (.putfield 21, 3) := by decide +kernel
theorem dX8_init_31 : decode cX8_init 31 = .ok (.aload_n 0, 1) := by decide +kernel
theorem dX8_init_32 : decode cX8_init 32 = .ok (.bipush 100, 2) := by decide +kernel
theorem dX8_init_34 : decode cX8_init 34 = .ok (.putfield 25, 3) := by decide +kernel
theorem dX8_init_37 : decode cX8_init 37 = .ok (.aload_n 0, 1) := by decide +kernel
theorem dX8_init_38 : decode cX8_init 38 = .ok (.iconst 3, 1) := by decide +kernel
theorem dX8_init_39 : decode cX8_init 39 = .ok (.newarray .long, 2) := by decide +kernel
theorem dX8_init_41 : decode cX8_init 41 = .ok (.putfield 28, 3) := by decide +kernel
theorem dX8_init_44 : decode cX8_init 44 = .ok (.aload_n 0, 1) := by decide +kernel
theorem dX8_init_45 : decode cX8_init 45 = .ok (.iload_n 1, 1) := by decide +kernel
theorem dX8_init_46 : decode cX8_init 46 = .ok (.putfield 32, 3) := by decide +kernel
theorem dX8_init_49 : decode cX8_init 49 = .ok (.return_, 1) := by decide +kernel
theorem dX8_copy_0 : decode cX8_copy 0 = .ok (.new 13, 3) := by decide +kernel
theorem dX8_copy_3 : decode cX8_copy 3 = .ok (.dup, 1) := by decide +kernel
theorem dX8_copy_4 : decode cX8_copy 4 = .ok (.aload_n 0, 1) := by decide +kernel
theorem dX8_copy_5 : decode cX8_copy 5 = .ok (.getfield 32, 3) := by decide +kernel
theorem dX8_copy_8 : decode cX8_copy 8 = .ok (.invokespecial 36, 3) := by decide +kernel
theorem dX8_copy_11 : decode cX8_copy 11 = .ok (.astore_n 1, 1) := by decide +kernel
theorem dX8_copy_12 : decode cX8_copy 12 = .ok (.aload_n 0, 1) := by decide +kernel
theorem dX8_copy_13 : decode cX8_copy 13 = .ok (.getfield 12, 3) := by decide +kernel
theorem dX8_copy_16 : decode cX8_copy 16 = .ok (.invokevirtual 39, 3) := by decide +kernel
theorem dX8_copy_19 : decode cX8_copy 19 = .ok (.astore_n 2, 1) := by decide +kernel
theorem dX8_copy_20 : decode cX8_copy 20 = .ok (.aload_n 2, 1) := by decide +kernel
theorem dX8_copy_21 : decode cX8_copy 21 = .ok (.invokeinterface 43 1, 5) := by decide +kernel
theorem dX8_copy_26 : decode cX8_copy 26 = .ok (.ifCond .eq 28, 3) := by decide +kernel
theorem dX8_copy_29 : decode cX8_copy 29 = .ok (.aload_n 2, 1) := by decide +kernel
theorem dX8_copy_30 : decode cX8_copy 30 = .ok (.invokeinterface 49 1, 5) := by decide +kernel
theorem dX8_copy_35 : decode cX8_copy 35 = .ok (.checkcast 53, 3) := by decide +kernel
theorem dX8_copy_38 : decode cX8_copy 38 = .ok (.astore_n 3, 1) := by decide +kernel
theorem dX8_copy_39 : decode cX8_copy 39 = .ok (.aload_n 1, 1) := by decide +kernel
theorem dX8_copy_40 : decode cX8_copy 40 = .ok (.getfield 12, 3) := by decide +kernel
theorem dX8_copy_43 : decode cX8_copy 43 = .ok (.aload_n 3, 1) := by decide +kernel
theorem dX8_copy_44 : decode cX8_copy 44 = .ok (.invokevirtual 55, 3) := by decide +kernel
theorem dX8_copy_47 : decode cX8_copy 47 = .ok (.invokevirtual 59, 3) := by decide +kernel
theorem dX8_copy_50 : decode cX8_copy 50 = .ok (.pop, 1) := by decide +kernel
theorem dX8_copy_51 : decode cX8_copy 51 = .ok (.goto (-31), 3) := by decide +kernel
theorem dX8_copy_54 : decode cX8_copy 54 = .ok (.aload_n 0, 1) := by decide +kernel
theorem dX8_copy_55 : decode cX8_copy 55 = .ok (.getfield 18, 3) := by decide +kernel
theorem dX8_copy_58 : decode cX8_copy 58 = .ok (.invokevirtual 39, 3) := by decide +kernel
theorem dX8_copy_61 : decode cX8_copy 61 = .ok (.astore_n 2, 1) := by decide +kernel
theorem dX8_copy_62 : decode cX8_copy 62 = .ok (.aload_n 2, 1) := by decide +kernel
theorem dX8_copy_63 : decode cX8_copy 63 = .ok (.invokeinterface 43 1, 5) := by decide +kernel
theorem dX8_copy_68 : decode cX8_copy 68 = .ok (.ifCond .eq 39, 3) := by decide +kernel
theorem dX8_copy_71 : decode cX8_copy 71 = .ok (.aload_n 2, 1) := by decide +kernel
theorem dX8_copy_72 : decode cX8_copy 72 = .ok (.invokeinterface 49 1, 5) := by decide +kernel
theorem dX8_copy_77 : decode cX8_copy 77 = .ok (.checkcast 63, 3) := by decide +kernel
theorem dX8_copy_80 : decode cX8_copy 80 = .ok (.astore_n 3, 1) := by decide +kernel
theorem dX8_copy_81 : decode cX8_copy 81 = .ok (.aload_n 1, 1) := by decide +kernel
theorem dX8_copy_82 : decode cX8_copy 82 = .ok (.getfield 18, 3) := by decide +kernel
theorem dX8_copy_85 : decode cX8_copy 85 = .ok (.new 63, 3) := by decide +kernel
theorem dX8_copy_88 : decode cX8_copy 88 = .ok (.dup, 1) := by decide +kernel
theorem dX8_copy_89 : decode cX8_copy 89 = .ok (.aload_n 3, 1) := by decide +kernel
theorem dX8_copy_90 : decode cX8_copy 90 = .ok (.getfield 65, 3) := by decide +kernel
theorem dX8_copy_93 : decode cX8_copy 93 = .ok (.aload_n 3, 1) := by decide +kernel
theorem dX8_copy_94 : decode cX8_copy 94 = .ok (.getfield 68, 3) := by decide +kernel
theorem dX8_copy_97 : decode cX8_copy 97 = .ok (.invokespecial 71, 3) := by decide +kernel
theorem dX8_copy_100 : decode cX8_copy 100 = .ok (.invokevirtual 59, 3) := by decide +kernel
theorem dX8_copy_103 : decode cX8_copy 103 = .ok (.pop, 1) := by decide +kernel
theorem dX8_copy_104 : decode cX8_copy 104 = .ok (.goto (-42), 3) := by decide +kernel
theorem dX8_copy_107 : decode cX8_copy 107 = .ok (.aload_n 1, 1) := by decide +kernel
theorem dX8_copy_108 : decode cX8_copy 108 = .ok (.aload_n 0, 1) := by decide +kernel
theorem dX8_copy_109 : decode cX8_copy 109 = .ok (.getfield 25, 3) := by decide +kernel
theorem dX8_copy_112 : decode cX8_copy 112 = .ok (.putfield 25, 3) := by decide +kernel
theorem dX8_copy_115 : decode cX8_copy 115 = .ok (.aload_n 1, 1) := by decide +kernel
theorem dX8_copy_116 : decode cX8_copy 116 = .ok (.aload_n 0, 1) := by decide +kernel
theorem dX8_copy_117 : decode cX8_copy 117 = .ok (.getfield 74, 3) := by decide +kernel
theorem dX8_copy_120 : decode cX8_copy 120 = .ok (.putfield 74, 3) := by decide +kernel
theorem dX8_copy_123 : decode cX8_copy 123 = .ok (.aload_n 1, 1) := by decide +kernel
theorem dX8_copy_124 : decode cX8_copy 124 = .ok (.aload_n 0, 1) := by decide +kernel
theorem dX8_copy_125 : decode cX8_copy 125 = .ok (.getfield 78, 3) := by decide +kernel
theorem dX8_copy_128 : decode cX8_copy 128 = .ok (.putfield 78, 3) := by decide +kernel
theorem dX8_copy_131 : decode cX8_copy 131 = .ok (.aload_n 1, 1) := by decide +kernel
theorem dX8_copy_132 : decode cX8_copy 132 = .ok (.aload_n 0, 1) := by decide +kernel
theorem dX8_copy_133 : decode cX8_copy 133 = .ok (.getfield 81, 3) := by decide +kernel
theorem dX8_copy_136 : decode cX8_copy 136 = .ok (.putfield 81, 3) := by decide +kernel
theorem dX8_copy_139 : decode cX8_copy 139 = .ok (.aload_n 1, 1) := by decide +kernel
theorem dX8_copy_140 : decode cX8_copy 140 = .ok (.areturn, 1) := by decide +kernel
theorem dX8_freezes_0 : decode cX8_freezes 0 = .ok (.iconst 0, 1) := by decide +kernel
theorem dX8_freezes_1 : decode cX8_freezes 1 = .ok (.istore_n 2, 1) := by decide +kernel
theorem dX8_freezes_2 : decode cX8_freezes 2 = .ok (.iload_n 2, 1) := by decide +kernel
theorem dX8_freezes_3 : decode cX8_freezes 3 = .ok (.aload_n 0, 1) := by decide +kernel
theorem dX8_freezes_4 : decode cX8_freezes 4 = .ok (.getfield 12, 3) := by decide +kernel
theorem dX8_freezes_7 : decode cX8_freezes 7 = .ok (.invokevirtual 85, 3) := by decide +kernel
theorem dX8_freezes_10 : decode cX8_freezes 10 = .ok (.if_icmp .ge 108, 3) := by decide +kernel
theorem dX8_freezes_13 : decode cX8_freezes 13 = .ok (.aload_n 0, 1) := by decide +kernel
theorem dX8_freezes_14 : decode cX8_freezes 14 = .ok (.getfield 12, 3) := by decide +kernel
theorem dX8_freezes_17 : decode cX8_freezes 17 = .ok (.iload_n 2, 1) := by decide +kernel
theorem dX8_freezes_18 : decode cX8_freezes 18 = .ok (.invokevirtual 89, 3) := by decide +kernel
theorem dX8_freezes_21 : decode cX8_freezes 21 = .ok (.checkcast 53, 3) := by decide +kernel
theorem dX8_freezes_24 : decode cX8_freezes 24 = .ok (.astore_n 3, 1) := by decide +kernel
theorem dX8_freezes_25 : decode cX8_freezes 25 = .ok (.iload_n 1, 1) := by decide +kernel
theorem dX8_freezes_26 : decode cX8_freezes 26 = .ok (.ifCond .ge 44, 3) := by decide +kernel
theorem dX8_freezes_29 : decode cX8_freezes 29 = .ok (.aload_n 3, 1) := by decide +kernel
theorem dX8_freezes_30 : decode cX8_freezes 30 = .ok (.getfield 93, 3) := by decide +kernel
theorem dX8_freezes_33 : decode cX8_freezes 33 = .ok (.ifCond .ne 37, 3) := by decide +kernel
theorem dX8_freezes_36 : decode cX8_freezes 36 = .ok (.aload_n 3, 1) := by decide +kernel
theorem dX8_freezes_37 : decode cX8_freezes 37 = .ok (.dup, 1) := by decide +kernel
theorem dX8_freezes_38 : decode cX8_freezes 38 = .ok (.getfield 96, 3) := by decide +kernel
theorem dX8_freezes_41 : decode cX8_freezes 41 = .ok (.iload_n 1, 1) := by decide +kernel
theorem dX8_freezes_42 : decode cX8_freezes 42 = .ok (.isub, 1) := by decide +kernel
theorem dX8_freezes_43 : decode cX8_freezes 43 = .ok (.putfield 96, 3) := by decide +kernel
theorem dX8_freezes_46 : decode cX8_freezes 46 = .ok (.aload_n 3, 1) := by decide +kernel
theorem dX8_freezes_47 : decode cX8_freezes 47 = .ok (.aload_n 3, 1) := by decide +kernel
theorem dX8_freezes_48 : decode cX8_freezes 48 = .ok (.getfield 96, 3) := by decide +kernel
theorem dX8_freezes_51 : decode cX8_freezes 51 = .ok (.aload_n 3, 1) := by decide +kernel
theorem dX8_freezes_52 : decode cX8_freezes 52 = .ok (.getfield 99, 3) := by decide +kernel
theorem dX8_freezes_55 : decode cX8_freezes 55 = .ok (.bipush 10, 2) := by decide +kernel
theorem dX8_freezes_57 : decode cX8_freezes 57 = .ok (.idiv, 1) := by decide +kernel
theorem dX8_freezes_58 : decode cX8_freezes 58 = .ok (.if_icmp .lt 7, 3) := by decide +kernel
theorem dX8_freezes_61 : decode cX8_freezes 61 = .ok (.iconst 1, 1) := by decide +kernel
theorem dX8_freezes_62 : decode cX8_freezes 62 = .ok (.goto 4, 3) := by decide +kernel
theorem dX8_freezes_65 : decode cX8_freezes 65 = .ok (.iconst 0, 1) := by decide +kernel
theorem dX8_freezes_66 : decode cX8_freezes 66 = .ok (.putfield 93, 3) := by decide +kernel
theorem dX8_freezes_69 : decode cX8_freezes 69 = .ok (.return_, 1) := by decide +kernel
theorem dX8_freezes_70 : decode cX8_freezes 70 = .ok (.iload_n 1, 1) := by decide +kernel
theorem dX8_freezes_71 : decode cX8_freezes 71 = .ok (.ifCond .le 41, 3) := by decide +kernel
theorem dX8_freezes_74 : decode cX8_freezes 74 = .ok (.aload_n 3, 1) := by decide +kernel
theorem dX8_freezes_75 : decode cX8_freezes 75 = .ok (.getfield 93, 3) := by decide +kernel
theorem dX8_freezes_78 : decode cX8_freezes 78 = .ok (.ifCond .eq 34, 3) := by decide +kernel
theorem dX8_freezes_81 : decode cX8_freezes 81 = .ok (.aload_n 3, 1) := by decide +kernel
theorem dX8_freezes_82 : decode cX8_freezes 82 = .ok (.iconst 0, 1) := by decide +kernel
theorem dX8_freezes_83 : decode cX8_freezes 83 = .ok (.aload_n 3, 1) := by decide +kernel
theorem dX8_freezes_84 : decode cX8_freezes 84 = .ok (.getfield 96, 3) := by decide +kernel
theorem dX8_freezes_87 : decode cX8_freezes 87 = .ok (.iload_n 1, 1) := by decide +kernel
theorem dX8_freezes_88 : decode cX8_freezes 88 = .ok (.isub, 1) := by decide +kernel
theorem dX8_freezes_89 : decode cX8_freezes 89 = .ok (.invokestatic 102, 3) := by decide +kernel
theorem dX8_freezes_92 : decode cX8_freezes 92 = .ok (.putfield 96, 3) := by decide +kernel
theorem dX8_freezes_95 : decode cX8_freezes 95 = .ok (.aload_n 3, 1) := by decide +kernel
theorem dX8_freezes_96 : decode cX8_freezes 96 = .ok (.aload_n 3, 1) := by decide +kernel
theorem dX8_freezes_97 : decode cX8_freezes 97 = .ok (.getfield 96, 3) := by decide +kernel
theorem dX8_freezes_100 : decode cX8_freezes 100 = .ok (.ifCond .le 7, 3) := by decide +kernel
theorem dX8_freezes_103 : decode cX8_freezes 103 = .ok (.iconst 1, 1) := by decide +kernel
theorem dX8_freezes_104 : decode cX8_freezes 104 = .ok (.goto 4, 3) := by decide +kernel
theorem dX8_freezes_107 : decode cX8_freezes 107 = .ok (.iconst 0, 1) := by decide +kernel
theorem dX8_freezes_108 : decode cX8_freezes 108 = .ok (.putfield 93, 3) := by decide +kernel
theorem dX8_freezes_111 : decode cX8_freezes 111 = .ok (.return_, 1) := by decide +kernel
theorem dX8_freezes_112 : decode cX8_freezes 112 = .ok (.iinc 2 1, 3) := by decide +kernel
theorem dX8_freezes_115 : decode cX8_freezes 115 = .ok (.goto (-113), 3) := by decide +kernel
theorem dX8_freezes_118 : decode cX8_freezes 118 = .ok (.return_, 1) := by decide +kernel
theorem dX8_crackEnd_0 : decode cX8_crackEnd 0 = .ok (.aconst_null, 1) := by decide +kernel
theorem dX8_crackEnd_1 : decode cX8_crackEnd 1 = .ok (.astore_n 1, 1) := by decide +kernel
theorem dX8_crackEnd_2 : decode cX8_crackEnd 2 = .ok (.iconst 0, 1) := by decide +kernel
theorem dX8_crackEnd_3 : decode cX8_crackEnd 3 = .ok (.istore_n 2, 1) := by decide +kernel
theorem dX8_crackEnd_4 : decode cX8_crackEnd 4 = .ok (.iload_n 2, 1) := by decide +kernel
theorem dX8_crackEnd_5 : decode cX8_crackEnd 5 = .ok (.aload_n 0, 1) := by decide +kernel
theorem dX8_crackEnd_6 : decode cX8_crackEnd 6 = .ok (.getfield 12, 3) := by decide +kernel
theorem dX8_crackEnd_9 : decode cX8_crackEnd 9 = .ok (.invokevirtual 85, 3) := by decide +kernel
theorem dX8_crackEnd_12 : decode cX8_crackEnd 12 = .ok (.if_icmp .ge 40, 3) := by decide +kernel
theorem dX8_crackEnd_15 : decode cX8_crackEnd 15 = .ok (.aload_n 0, 1) := by decide +kernel
theorem dX8_crackEnd_16 : decode cX8_crackEnd 16 = .ok (.getfield 12, 3) := by decide +kernel
theorem dX8_crackEnd_19 : decode cX8_crackEnd 19 = .ok (.iload_n 2, 1) := by decide +kernel
theorem dX8_crackEnd_20 : decode cX8_crackEnd 20 = .ok (.invokevirtual 89, 3) := by decide +kernel
theorem dX8_crackEnd_23 : decode cX8_crackEnd 23 = .ok (.checkcast 53, 3) := by decide +kernel
theorem dX8_crackEnd_26 : decode cX8_crackEnd 26 = .ok (.getfield 108, 3) := by decide +kernel
theorem dX8_crackEnd_29 : decode cX8_crackEnd 29 = .ok (.bipush 99, 2) := by decide +kernel
theorem dX8_crackEnd_31 : decode cX8_crackEnd 31 = .ok (.if_icmp .ne 21, 3) := by decide +kernel
theorem dX8_crackEnd_34 : decode cX8_crackEnd 34 = .ok (.aload_n 0, 1) := by decide +kernel
theorem dX8_crackEnd_35 : decode cX8_crackEnd 35 = .ok (.getfield 12, 3) := by decide +kernel
theorem dX8_crackEnd_38 : decode cX8_crackEnd 38 = .ok (.iload_n 2, 1) := by decide +kernel
theorem dX8_crackEnd_39 : decode cX8_crackEnd 39 = .ok (.invokevirtual 89, 3) := by decide +kernel
theorem dX8_crackEnd_42 : decode cX8_crackEnd 42 = .ok (.checkcast 53, 3) := by decide +kernel
theorem dX8_crackEnd_45 : decode cX8_crackEnd 45 = .ok (.astore_n 1, 1) := by decide +kernel
theorem dX8_crackEnd_46 : decode cX8_crackEnd 46 = .ok (.iinc 2 1, 3) := by decide +kernel
theorem dX8_crackEnd_49 : decode cX8_crackEnd 49 = .ok (.goto (-45), 3) := by decide +kernel
theorem dX8_crackEnd_52 : decode cX8_crackEnd 52 = .ok (.aload_n 1, 1) := by decide +kernel
theorem dX8_crackEnd_53 : decode cX8_crackEnd 53 = .ok (.areturn, 1) := by decide +kernel
theorem dX8_crack_0 : decode cX8_crack 0 = .ok (.aload_n 0, 1) := by decide +kernel
theorem dX8_crack_1 : decode cX8_crack 1 = .ok (.invokevirtual 111, 3) := by decide +kernel
theorem dX8_crack_4 : decode cX8_crack 4 = .ok (.astore_n 1, 1) := by decide +kernel
theorem dX8_crack_5 : decode cX8_crack 5 = .ok (.aload_n 1, 1) := by decide +kernel
theorem dX8_crack_6 : decode cX8_crack 6 = .ok (.ifnull 57, 3) := by decide +kernel
theorem dX8_crack_9 : decode cX8_crack 9 = .ok (.aload_n 0, 1) := by decide +kernel
theorem dX8_crack_10 : decode cX8_crack 10 = .ok (.getfield 12, 3) := by decide +kernel
theorem dX8_crack_13 : decode cX8_crack 13 = .ok (.iconst 0, 1) := by decide +kernel
theorem dX8_crack_14 : decode cX8_crack 14 = .ok (.invokevirtual 89, 3) := by decide +kernel
theorem dX8_crack_17 : decode cX8_crack 17 = .ok (.checkcast 53, 3) := by decide +kernel
theorem dX8_crack_20 : decode cX8_crack 20 = .ok (.getfield 93, 3) := by decide +kernel
theorem dX8_crack_23 : decode cX8_crack 23 = .ok (.ifCond .ne 40, 3) := by decide +kernel
theorem dX8_crack_26 : decode cX8_crack 26 = .ok (.aload_n 0, 1) := by decide +kernel
theorem dX8_crack_27 : decode cX8_crack 27 = .ok (.getfield 12, 3) := by decide +kernel
theorem dX8_crack_30 : decode cX8_crack 30 = .ok (.iconst 0, 1) := by decide +kernel
theorem dX8_crack_31 : decode cX8_crack 31 = .ok (.invokevirtual 89, 3) := by decide +kernel
theorem dX8_crack_34 : decode cX8_crack 34 = .ok (.checkcast 53, 3) := by decide +kernel
theorem dX8_crack_37 : decode cX8_crack 37 = .ok (.getfield 114, 3) := by decide +kernel
theorem dX8_crack_40 : decode cX8_crack 40 = .ok (.aload_n 0, 1) := by decide +kernel
theorem dX8_crack_41 : decode cX8_crack 41 = .ok (.getfield 12, 3) := by decide +kernel
theorem dX8_crack_44 : decode cX8_crack 44 = .ok (.iconst 0, 1) := by decide +kernel
theorem dX8_crack_45 : decode cX8_crack 45 = .ok (.invokevirtual 89, 3) := by decide +kernel
theorem dX8_crack_48 : decode cX8_crack 48 = .ok (.checkcast 53, 3) := by decide +kernel
theorem dX8_crack_51 : decode cX8_crack 51 = .ok (.getfield 117, 3) := by decide +kernel
theorem dX8_crack_54 : decode cX8_crack 54 = .ok (.bipush 8, 2) := by decide +kernel
theorem dX8_crack_56 : decode cX8_crack 56 = .ok (.imul, 1) := by decide +kernel
theorem dX8_crack_57 : decode cX8_crack 57 = .ok (.bipush 10, 2) := by decide +kernel
theorem dX8_crack_59 : decode cX8_crack 59 = .ok (.idiv, 1) := by decide +kernel
theorem dX8_crack_60 : decode cX8_crack 60 = .ok (.if_icmp .lt 5, 3) := by decide +kernel
theorem dX8_crack_63 : decode cX8_crack 63 = .ok (.iconst 0, 1) := by decide +kernel
theorem dX8_crack_64 : decode cX8_crack 64 = .ok (.ireturn, 1) := by decide +kernel
theorem dX8_crack_65 : decode cX8_crack 65 = .ok (.aload_n 1, 1) := by decide +kernel
theorem dX8_crack_66 : decode cX8_crack 66 = .ok (.invokevirtual 120, 3) := by decide +kernel
theorem dX8_crack_69 : decode cX8_crack 69 = .ok (.aload_n 0, 1) := by decide +kernel
theorem dX8_crack_70 : decode cX8_crack 70 = .ok (.getfield 12, 3) := by decide +kernel
theorem dX8_crack_73 : decode cX8_crack 73 = .ok (.iconst 0, 1) := by decide +kernel
theorem dX8_crack_74 : decode cX8_crack 74 = .ok (.invokevirtual 89, 3) := by decide +kernel
theorem dX8_crack_77 : decode cX8_crack 77 = .ok (.checkcast 53, 3) := by decide +kernel
theorem dX8_crack_80 : decode cX8_crack 80 = .ok (.getfield 117, 3) := by decide +kernel
theorem dX8_crack_83 : decode cX8_crack 83 = .ok (.aload_n 0, 1) := by decide +kernel
theorem dX8_crack_84 : decode cX8_crack 84 = .ok (.getfield 12, 3) := by decide +kernel
theorem dX8_crack_87 : decode cX8_crack 87 = .ok (.iconst 0, 1) := by decide +kernel
theorem dX8_crack_88 : decode cX8_crack 88 = .ok (.invokevirtual 89, 3) := by decide +kernel
theorem dX8_crack_91 : decode cX8_crack 91 = .ok (.checkcast 53, 3) := by decide +kernel
theorem dX8_crack_94 : decode cX8_crack 94 = .ok (.getfield 114, 3) := by decide +kernel
theorem dX8_crack_97 : decode cX8_crack 97 = .ok (.isub, 1) := by decide +kernel
theorem dX8_crack_98 : decode cX8_crack 98 = .ok (.iconst 4, 1) := by decide +kernel
theorem dX8_crack_99 : decode cX8_crack 99 = .ok (.idiv, 1) := by decide +kernel
theorem dX8_crack_100 : decode cX8_crack 100 = .ok (.invokestatic 123, 3) := by decide +kernel
theorem dX8_crack_103 : decode cX8_crack 103 = .ok (.ireturn, 1) := by decide +kernel
theorem dX8_takesIn_0 : decode cX8_takesIn 0 = .ok (.aload_n 0, 1) := by decide +kernel
theorem dX8_takesIn_1 : decode cX8_takesIn 1 = .ok (.getfield 78, 3) := by decide +kernel
theorem dX8_takesIn_4 : decode cX8_takesIn 4 = .ok (.iload_n 1, 1) := by decide +kernel
theorem dX8_takesIn_5 : decode cX8_takesIn 5 = .ok (.iadd, 1) := by decide +kernel
theorem dX8_takesIn_6 : decode cX8_takesIn 6 = .ok (.istore_n 2, 1) := by decide +kernel
theorem dX8_takesIn_7 : decode cX8_takesIn 7 = .ok (.iload_n 2, 1) := by decide +kernel
theorem dX8_takesIn_8 : decode cX8_takesIn 8 = .ok (.aload_n 0, 1) := by decide +kernel
theorem dX8_takesIn_9 : decode cX8_takesIn 9 = .ok (.invokevirtual 126, 3) := by decide +kernel
theorem dX8_takesIn_12 : decode cX8_takesIn 12 = .ok (.invokestatic 123, 3) := by decide +kernel
theorem dX8_takesIn_15 : decode cX8_takesIn 15 = .ok (.istore_n 3, 1) := by decide +kernel
theorem dX8_takesIn_16 : decode cX8_takesIn 16 = .ok (.iload_n 3, 1) := by decide +kernel
theorem dX8_takesIn_17 : decode cX8_takesIn 17 = .ok (.ifCond .le 20, 3) := by decide +kernel
theorem dX8_takesIn_20 : decode cX8_takesIn 20 = .ok (.aload_n 0, 1) := by decide +kernel
theorem dX8_takesIn_21 : decode cX8_takesIn 21 = .ok (.invokevirtual 111, 3) := by decide +kernel
theorem dX8_takesIn_24 : decode cX8_takesIn 24 = .ok (.dup, 1) := by decide +kernel
theorem dX8_takesIn_25 : decode cX8_takesIn 25 = .ok (.getfield 114, 3) := by decide +kernel
theorem dX8_takesIn_28 : decode cX8_takesIn 28 = .ok (.iload_n 3, 1) := by decide +kernel
theorem dX8_takesIn_29 : decode cX8_takesIn 29 = .ok (.iadd, 1) := by decide +kernel
theorem dX8_takesIn_30 : decode cX8_takesIn 30 = .ok (.putfield 114, 3) := by decide +kernel
theorem dX8_takesIn_33 : decode cX8_takesIn 33 = .ok (.iload_n 2, 1) := by decide +kernel
theorem dX8_takesIn_34 : decode cX8_takesIn 34 = .ok (.iload_n 3, 1) := by decide +kernel
theorem dX8_takesIn_35 : decode cX8_takesIn 35 = .ok (.isub, 1) := by decide +kernel
theorem dX8_takesIn_36 : decode cX8_takesIn 36 = .ok (.istore_n 2, 1) := by decide +kernel
theorem dX8_takesIn_37 : decode cX8_takesIn 37 = .ok (.aload_n 0, 1) := by decide +kernel
theorem dX8_takesIn_38 : decode cX8_takesIn 38 = .ok (.getfield 12, 3) := by decide +kernel
theorem dX8_takesIn_41 : decode cX8_takesIn 41 = .ok (.invokevirtual 129, 3) := by decide +kernel
theorem dX8_takesIn_44 : decode cX8_takesIn 44 = .ok (.ifCond .ne 52, 3) := by decide +kernel
theorem dX8_takesIn_47 : decode cX8_takesIn 47 = .ok (.aload_n 0, 1) := by decide +kernel
theorem dX8_takesIn_48 : decode cX8_takesIn 48 = .ok (.getfield 12, 3) := by decide +kernel
theorem dX8_takesIn_51 : decode cX8_takesIn 51 = .ok (.iconst 0, 1) := by decide +kernel
theorem dX8_takesIn_52 : decode cX8_takesIn 52 = .ok (.invokevirtual 89, 3) := by decide +kernel
theorem dX8_takesIn_55 : decode cX8_takesIn 55 = .ok (.checkcast 53, 3) := by decide +kernel
theorem dX8_takesIn_58 : decode cX8_takesIn 58 = .ok (.astore 4, 2) := by decide +kernel
theorem dX8_takesIn_60 : decode cX8_takesIn 60 = .ok (.iload_n 2, 1) := by decide +kernel
theorem dX8_takesIn_61 : decode cX8_takesIn 61 = .ok (.aload 4, 2) := by decide +kernel
theorem dX8_takesIn_63 : decode cX8_takesIn 63 = .ok (.invokevirtual 132, 3) := by decide +kernel
theorem dX8_takesIn_66 : decode cX8_takesIn 66 = .ok (.aload 4, 2) := by decide +kernel
theorem dX8_takesIn_68 : decode cX8_takesIn 68 = .ok (.invokevirtual 120, 3) := by decide +kernel
theorem dX8_takesIn_71 : decode cX8_takesIn 71 = .ok (.invokestatic 123, 3) := by decide +kernel
theorem dX8_takesIn_74 : decode cX8_takesIn 74 = .ok (.invokestatic 123, 3) := by decide +kernel
theorem dX8_takesIn_77 : decode cX8_takesIn 77 = .ok (.istore 5, 2) := by decide +kernel
theorem dX8_takesIn_79 : decode cX8_takesIn 79 = .ok (.aload 4, 2) := by decide +kernel
theorem dX8_takesIn_81 : decode cX8_takesIn 81 = .ok (.dup, 1) := by decide +kernel
theorem dX8_takesIn_82 : decode cX8_takesIn 82 = .ok (.getfield 114, 3) := by decide +kernel
theorem dX8_takesIn_85 : decode cX8_takesIn 85 = .ok (.iload 5, 2) := by decide +kernel
theorem dX8_takesIn_87 : decode cX8_takesIn 87 = .ok (.iadd, 1) := by decide +kernel
theorem dX8_takesIn_88 : decode cX8_takesIn 88 = .ok (.putfield 114, 3) := by decide +kernel
theorem dX8_takesIn_91 : decode cX8_takesIn 91 = .ok (.iload_n 2, 1) := by decide +kernel
theorem dX8_takesIn_92 : decode cX8_takesIn 92 = .ok (.iload 5, 2) := by decide +kernel
theorem dX8_takesIn_94 : decode cX8_takesIn 94 = .ok (.isub, 1) := by decide +kernel
theorem dX8_takesIn_95 : decode cX8_takesIn 95 = .ok (.istore_n 2, 1) := by decide +kernel
theorem dX8_takesIn_96 : decode cX8_takesIn 96 = .ok (.aload_n 0, 1) := by decide +kernel
theorem dX8_takesIn_97 : decode cX8_takesIn 97 = .ok (.bipush 50, 2) := by decide +kernel
theorem dX8_takesIn_99 : decode cX8_takesIn 99 = .ok (.iload_n 2, 1) := by decide +kernel
theorem dX8_takesIn_100 : decode cX8_takesIn 100 = .ok (.invokestatic 123, 3) := by decide +kernel
theorem dX8_takesIn_103 : decode cX8_takesIn 103 = .ok (.putfield 78, 3) := by decide +kernel
theorem dX8_takesIn_106 : decode cX8_takesIn 106 = .ok (.aload_n 0, 1) := by decide +kernel
theorem dX8_takesIn_107 : decode cX8_takesIn 107 = .ok (.dup, 1) := by decide +kernel
theorem dX8_takesIn_108 : decode cX8_takesIn 108 = .ok (.getfield 135, 3) := by decide +kernel
theorem dX8_takesIn_111 : decode cX8_takesIn 111 = .ok (.iload_n 2, 1) := by decide +kernel
theorem dX8_takesIn_112 : decode cX8_takesIn 112 = .ok (.aload_n 0, 1) := by decide +kernel
theorem dX8_takesIn_113 : decode cX8_takesIn 113 = .ok (.getfield 78, 3) := by decide +kernel
theorem dX8_takesIn_116 : decode cX8_takesIn 116 = .ok (.isub, 1) := by decide +kernel
theorem dX8_takesIn_117 : decode cX8_takesIn 117 = .ok (.i2l, 1) := by decide +kernel
theorem dX8_takesIn_118 : decode cX8_takesIn 118 = .ok (.ladd, 1) := by decide +kernel
theorem dX8_takesIn_119 : decode cX8_takesIn 119 = .ok (.putfield 135, 3) := by decide +kernel
theorem dX8_takesIn_122 : decode cX8_takesIn 122 = .ok (.iload_n 2, 1) := by decide +kernel
theorem dX8_takesIn_123 : decode cX8_takesIn 123 = .ok (.aload_n 0, 1) := by decide +kernel
theorem dX8_takesIn_124 : decode cX8_takesIn 124 = .ok (.getfield 78, 3) := by decide +kernel
theorem dX8_takesIn_127 : decode cX8_takesIn 127 = .ok (.isub, 1) := by decide +kernel
theorem dX8_takesIn_128 : decode cX8_takesIn 128 = .ok (.ireturn, 1) := by decide +kernel
theorem dX8_sinks_0 : decode cX8_sinks 0 = .ok (.iconst 0, 1) := by decide +kernel
theorem dX8_sinks_1 : decode cX8_sinks 1 = .ok (.istore_n 2, 1) := by decide +kernel
theorem dX8_sinks_2 : decode cX8_sinks 2 = .ok (.aload_n 0, 1) := by decide +kernel
theorem dX8_sinks_3 : decode cX8_sinks 3 = .ok (.getfield 12, 3) := by decide +kernel
theorem dX8_sinks_6 : decode cX8_sinks 6 = .ok (.invokevirtual 85, 3) := by decide +kernel
theorem dX8_sinks_9 : decode cX8_sinks 9 = .ok (.iconst 1, 1) := by decide +kernel
theorem dX8_sinks_10 : decode cX8_sinks 10 = .ok (.isub, 1) := by decide +kernel
theorem dX8_sinks_11 : decode cX8_sinks 11 = .ok (.istore_n 3, 1) := by decide +kernel
theorem dX8_sinks_12 : decode cX8_sinks 12 = .ok (.iload_n 3, 1) := by decide +kernel
theorem dX8_sinks_13 : decode cX8_sinks 13 = .ok (.ifCond .lt 327, 3) := by decide +kernel
theorem dX8_sinks_16 : decode cX8_sinks 16 = .ok (.aload_n 0, 1) := by decide +kernel
theorem dX8_sinks_17 : decode cX8_sinks 17 = .ok (.getfield 12, 3) := by decide +kernel
theorem dX8_sinks_20 : decode cX8_sinks 20 = .ok (.iload_n 3, 1) := by decide +kernel
theorem dX8_sinks_21 : decode cX8_sinks 21 = .ok (.invokevirtual 89, 3) := by decide +kernel
theorem dX8_sinks_24 : decode cX8_sinks 24 = .ok (.checkcast 53, 3) := by decide +kernel
theorem dX8_sinks_27 : decode cX8_sinks 27 = .ok (.astore 4, 2) := by decide +kernel
theorem dX8_sinks_29 : decode cX8_sinks 29 = .ok (.aload 4, 2) := by decide +kernel
theorem dX8_sinks_31 : decode cX8_sinks 31 = .ok (.getfield 93, 3) := by decide +kernel
theorem dX8_sinks_34 : decode cX8_sinks 34 = .ok (.ifCond .eq 7, 3) := by decide +kernel
theorem dX8_sinks_37 : decode cX8_sinks 37 = .ok (.iconst 0, 1) := by decide +kernel
theorem dX8_sinks_38 : decode cX8_sinks 38 = .ok (.goto 18, 3) := by decide +kernel
theorem dX8_sinks_41 : decode cX8_sinks 41 = .ok (.iconst 0, 1) := by decide +kernel
theorem dX8_sinks_42 : decode cX8_sinks 42 = .ok (.aload 4, 2) := by decide +kernel
theorem dX8_sinks_44 : decode cX8_sinks 44 = .ok (.getfield 114, 3) := by decide +kernel
theorem dX8_sinks_47 : decode cX8_sinks 47 = .ok (.aload 4, 2) := by decide +kernel
theorem dX8_sinks_49 : decode cX8_sinks 49 = .ok (.getfield 117, 3) := by decide +kernel
theorem dX8_sinks_52 : decode cX8_sinks 52 = .ok (.isub, 1) := by decide +kernel
theorem dX8_sinks_53 : decode cX8_sinks 53 = .ok (.invokestatic 102, 3) := by decide +kernel
theorem dX8_sinks_56 : decode cX8_sinks 56 = .ok (.istore 5, 2) := by decide +kernel
theorem dX8_sinks_58 : decode cX8_sinks 58 = .ok (.iload 5, 2) := by decide +kernel
theorem dX8_sinks_60 : decode cX8_sinks 60 = .ok (.iload 5, 2) := by decide +kernel
theorem dX8_sinks_62 : decode cX8_sinks 62 = .ok (.aload 4, 2) := by decide +kernel
theorem dX8_sinks_64 : decode cX8_sinks 64 = .ok (.invokevirtual 138, 3) := by decide +kernel
theorem dX8_sinks_67 : decode cX8_sinks 67 = .ok (.imul, 1) := by decide +kernel
theorem dX8_sinks_68 : decode cX8_sinks 68 = .ok (.aload_n 0, 1) := by decide +kernel
theorem dX8_sinks_69 : decode cX8_sinks 69 = .ok (.getfield 25, 3) := by decide +kernel
theorem dX8_sinks_72 : decode cX8_sinks 72 = .ok (.imul, 1) := by decide +kernel
theorem dX8_sinks_73 : decode cX8_sinks 73 = .ok (.sipush 10000, 3) := by decide +kernel
theorem dX8_sinks_76 : decode cX8_sinks 76 = .ok (.idiv, 1) := by decide +kernel
theorem dX8_sinks_77 : decode cX8_sinks 77 = .ok (.invokestatic 123, 3) := by decide +kernel
theorem dX8_sinks_80 : decode cX8_sinks 80 = .ok (.istore 6, 2) := by decide +kernel
theorem dX8_sinks_82 : decode cX8_sinks 82 = .ok (.iload_n 3, 1) := by decide +kernel
theorem dX8_sinks_83 : decode cX8_sinks 83 = .ok (.aload_n 0, 1) := by decide +kernel
theorem dX8_sinks_84 : decode cX8_sinks 84 = .ok (.getfield 12, 3) := by decide +kernel
theorem dX8_sinks_87 : decode cX8_sinks 87 = .ok (.invokevirtual 85, 3) := by decide +kernel
theorem dX8_sinks_90 : decode cX8_sinks 90 = .ok (.iconst 1, 1) := by decide +kernel
theorem dX8_sinks_91 : decode cX8_sinks 91 = .ok (.isub, 1) := by decide +kernel
theorem dX8_sinks_92 : decode cX8_sinks 92 = .ok (.if_icmp .ne 7, 3) := by decide +kernel
theorem dX8_sinks_95 : decode cX8_sinks 95 = .ok (.iconst 1, 1) := by decide +kernel
theorem dX8_sinks_96 : decode cX8_sinks 96 = .ok (.goto 4, 3) := by decide +kernel
theorem dX8_sinks_99 : decode cX8_sinks 99 = .ok (.iconst 0, 1) := by decide +kernel
theorem dX8_sinks_100 : decode cX8_sinks 100 = .ok (.istore 7, 2) := by decide +kernel
theorem dX8_sinks_102 : decode cX8_sinks 102 = .ok (.iload 7, 2) := by decide +kernel
theorem dX8_sinks_104 : decode cX8_sinks 104 = .ok (.ifCond .eq 60, 3) := by decide +kernel
theorem dX8_sinks_107 : decode cX8_sinks 107 = .ok (.aload_n 0, 1) := by decide +kernel
theorem dX8_sinks_108 : decode cX8_sinks 108 = .ok (.getfield 32, 3) := by decide +kernel
theorem dX8_sinks_111 : decode cX8_sinks 111 = .ok (.bipush 102, 2) := by decide +kernel
theorem dX8_sinks_113 : decode cX8_sinks 113 = .ok (.if_icmp .eq 25, 3) := by decide +kernel
theorem dX8_sinks_116 : decode cX8_sinks 116 = .ok (.aload_n 0, 1) := by decide +kernel
theorem dX8_sinks_117 : decode cX8_sinks 117 = .ok (.getfield 32, 3) := by decide +kernel
theorem dX8_sinks_120 : decode cX8_sinks 120 = .ok (.bipush 115, 2) := by decide +kernel
theorem dX8_sinks_122 : decode cX8_sinks 122 = .ok (.if_icmp .ne 20, 3) := by decide +kernel
theorem dX8_sinks_125 : decode cX8_sinks 125 = .ok (.aload 4, 2) := by decide +kernel
theorem dX8_sinks_127 : decode cX8_sinks 127 = .ok (.getfield 114, 3) := by decide +kernel
theorem dX8_sinks_130 : decode cX8_sinks 130 = .ok (.aload 4, 2) := by decide +kernel
theorem dX8_sinks_132 : decode cX8_sinks 132 = .ok (.getfield 141, 3) := by decide +kernel
theorem dX8_sinks_135 : decode cX8_sinks 135 = .ok (.if_icmp .ne 7, 3) := by decide +kernel
theorem dX8_sinks_138 : decode cX8_sinks 138 = .ok (.iconst 1, 1) := by decide +kernel
theorem dX8_sinks_139 : decode cX8_sinks 139 = .ok (.goto 4, 3) := by decide +kernel
theorem dX8_sinks_142 : decode cX8_sinks 142 = .ok (.iconst 0, 1) := by decide +kernel
theorem dX8_sinks_143 : decode cX8_sinks 143 = .ok (.istore 8, 2) := by decide +kernel
theorem dX8_sinks_145 : decode cX8_sinks 145 = .ok (.iload 8, 2) := by decide +kernel
theorem dX8_sinks_147 : decode cX8_sinks 147 = .ok (.ifCond .eq 8, 3) := by decide +kernel
theorem dX8_sinks_150 : decode cX8_sinks 150 = .ok (.iload 6, 2) := by decide +kernel
theorem dX8_sinks_152 : decode cX8_sinks 152 = .ok (.goto 4, 3) := by decide +kernel
theorem dX8_sinks_155 : decode cX8_sinks 155 = .ok (.iconst 0, 1) := by decide +kernel
theorem dX8_sinks_156 : decode cX8_sinks 156 = .ok (.istore 6, 2) := by decide +kernel
theorem dX8_sinks_158 : decode cX8_sinks 158 = .ok (.iload 6, 2) := by decide +kernel
theorem dX8_sinks_160 : decode cX8_sinks 160 = .ok (.istore_n 2, 1) := by decide +kernel
theorem dX8_sinks_161 : decode cX8_sinks 161 = .ok (.goto 26, 3) := by decide +kernel
theorem dX8_sinks_164 : decode cX8_sinks 164 = .ok (.iload 6, 2) := by decide +kernel
theorem dX8_sinks_166 : decode cX8_sinks 166 = .ok (.aload_n 0, 1) := by decide +kernel
theorem dX8_sinks_167 : decode cX8_sinks 167 = .ok (.getfield 12, 3) := by decide +kernel
theorem dX8_sinks_170 : decode cX8_sinks 170 = .ok (.iload_n 3, 1) := by decide +kernel
theorem dX8_sinks_171 : decode cX8_sinks 171 = .ok (.iconst 1, 1) := by decide +kernel
theorem dX8_sinks_172 : decode cX8_sinks 172 = .ok (.iadd, 1) := by decide +kernel
theorem dX8_sinks_173 : decode cX8_sinks 173 = .ok (.invokevirtual 89, 3) := by decide +kernel
theorem dX8_sinks_176 : decode cX8_sinks 176 = .ok (.checkcast 53, 3) := by decide +kernel
theorem dX8_sinks_179 : decode cX8_sinks 179 = .ok (.invokevirtual 120, 3) := by decide +kernel
theorem dX8_sinks_182 : decode cX8_sinks 182 = .ok (.invokestatic 123, 3) := by decide +kernel
theorem dX8_sinks_185 : decode cX8_sinks 185 = .ok (.istore 6, 2) := by decide +kernel
theorem dX8_sinks_187 : decode cX8_sinks 187 = .ok (.iconst 0, 1) := by decide +kernel
theorem dX8_sinks_188 : decode cX8_sinks 188 = .ok (.istore 8, 2) := by decide +kernel
theorem dX8_sinks_190 : decode cX8_sinks 190 = .ok (.iload 8, 2) := by decide +kernel
theorem dX8_sinks_192 : decode cX8_sinks 192 = .ok (.iconst 3, 1) := by decide +kernel
theorem dX8_sinks_193 : decode cX8_sinks 193 = .ok (.if_icmp .ge 101, 3) := by decide +kernel
theorem dX8_sinks_196 : decode cX8_sinks 196 = .ok (.iload 6, 2) := by decide +kernel
theorem dX8_sinks_198 : decode cX8_sinks 198 = .ok (.ifCond .le 96, 3) := by decide +kernel
theorem dX8_sinks_201 : decode cX8_sinks 201 = .ok (.aload 4, 2) := by decide +kernel
theorem dX8_sinks_203 : decode cX8_sinks 203 = .ok (.getfield 144, 3) := by decide +kernel
theorem dX8_sinks_206 : decode cX8_sinks 206 = .ok (.iload 8, 2) := by decide +kernel
theorem dX8_sinks_208 : decode cX8_sinks 208 = .ok (.laload, 1) := by decide +kernel
theorem dX8_sinks_209 : decode cX8_sinks 209 = .ok (.iload 6, 2) := by decide +kernel
theorem dX8_sinks_211 : decode cX8_sinks 211 = .ok (.i2l, 1) := by decide +kernel
theorem dX8_sinks_212 : decode cX8_sinks 212 = .ok (.lmul, 1) := by decide +kernel
theorem dX8_sinks_213 : decode cX8_sinks 213 = .ok (.aload 4, 2) := by decide +kernel
theorem dX8_sinks_215 : decode cX8_sinks 215 = .ok (.getfield 114, 3) := by decide +kernel
theorem dX8_sinks_218 : decode cX8_sinks 218 = .ok (.i2l, 1) := by decide +kernel
theorem dX8_sinks_219 : decode cX8_sinks 219 = .ok (.ldiv, 1) := by decide +kernel
theorem dX8_sinks_220 : decode cX8_sinks 220 = .ok (.lstore 9, 2) := by decide +kernel
theorem dX8_sinks_222 : decode cX8_sinks 222 = .ok (.aload 4, 2) := by decide +kernel
theorem dX8_sinks_224 : decode cX8_sinks 224 = .ok (.getfield 144, 3) := by decide +kernel
theorem dX8_sinks_227 : decode cX8_sinks 227 = .ok (.iload 8, 2) := by decide +kernel
theorem dX8_sinks_229 : decode cX8_sinks 229 = .ok (.dup2, 1) := by decide +kernel
theorem dX8_sinks_230 : decode cX8_sinks 230 = .ok (.laload, 1) := by decide +kernel
theorem dX8_sinks_231 : decode cX8_sinks 231 = .ok (.lload 9, 2) := by decide +kernel
theorem dX8_sinks_233 : decode cX8_sinks 233 = .ok (.lsub, 1) := by decide +kernel
theorem dX8_sinks_234 : decode cX8_sinks 234 = .ok (.lastore, 1) := by decide +kernel
theorem dX8_sinks_235 : decode cX8_sinks 235 = .ok (.iload 7, 2) := by decide +kernel
theorem dX8_sinks_237 : decode cX8_sinks 237 = .ok (.ifCond .eq 27, 3) := by decide +kernel
theorem dX8_sinks_240 : decode cX8_sinks 240 = .ok (.aload_n 1, 1) := by decide +kernel
theorem dX8_sinks_241 : decode cX8_sinks 241 = .ok (.iload 8, 2) := by decide +kernel
theorem dX8_sinks_243 : decode cX8_sinks 243 = .ok (.dup2, 1) := by decide +kernel
theorem dX8_sinks_244 : decode cX8_sinks 244 = .ok (.laload, 1) := by decide +kernel
theorem dX8_sinks_245 : decode cX8_sinks 245 = .ok (.lload 9, 2) := by decide +kernel
theorem dX8_sinks_247 : decode cX8_sinks 247 = .ok (.ladd, 1) := by decide +kernel
theorem dX8_sinks_248 : decode cX8_sinks 248 = .ok (.lastore, 1) := by decide +kernel
theorem dX8_sinks_249 : decode cX8_sinks 249 = .ok (.aload_n 0, 1) := by decide +kernel
theorem dX8_sinks_250 : decode cX8_sinks 250 = .ok (.getfield 28, 3) := by decide +kernel
theorem dX8_sinks_253 : decode cX8_sinks 253 = .ok (.iload 8, 2) := by decide +kernel
theorem dX8_sinks_255 : decode cX8_sinks 255 = .ok (.dup2, 1) := by decide +kernel
theorem dX8_sinks_256 : decode cX8_sinks 256 = .ok (.laload, 1) := by decide +kernel
theorem dX8_sinks_257 : decode cX8_sinks 257 = .ok (.lload 9, 2) := by decide +kernel
theorem dX8_sinks_259 : decode cX8_sinks 259 = .ok (.ladd, 1) := by decide +kernel
theorem dX8_sinks_260 : decode cX8_sinks 260 = .ok (.lastore, 1) := by decide +kernel
theorem dX8_sinks_261 : decode cX8_sinks 261 = .ok (.goto 27, 3) := by decide +kernel
theorem dX8_sinks_264 : decode cX8_sinks 264 = .ok (.aload_n 0, 1) := by decide +kernel
theorem dX8_sinks_265 : decode cX8_sinks 265 = .ok (.getfield 12, 3) := by decide +kernel
theorem dX8_sinks_268 : decode cX8_sinks 268 = .ok (.iload_n 3, 1) := by decide +kernel
theorem dX8_sinks_269 : decode cX8_sinks 269 = .ok (.iconst 1, 1) := by decide +kernel
theorem dX8_sinks_270 : decode cX8_sinks 270 = .ok (.iadd, 1) := by decide +kernel
theorem dX8_sinks_271 : decode cX8_sinks 271 = .ok (.invokevirtual 89, 3) := by decide +kernel
theorem dX8_sinks_274 : decode cX8_sinks 274 = .ok (.checkcast 53, 3) := by decide +kernel
theorem dX8_sinks_277 : decode cX8_sinks 277 = .ok (.getfield 144, 3) := by decide +kernel
theorem dX8_sinks_280 : decode cX8_sinks 280 = .ok (.iload 8, 2) := by decide +kernel
theorem dX8_sinks_282 : decode cX8_sinks 282 = .ok (.dup2, 1) := by decide +kernel
theorem dX8_sinks_283 : decode cX8_sinks 283 = .ok (.laload, 1) := by decide +kernel
theorem dX8_sinks_284 : decode cX8_sinks 284 = .ok (.lload 9, 2) := by decide +kernel
theorem dX8_sinks_286 : decode cX8_sinks 286 = .ok (.ladd, 1) := by decide +kernel
theorem dX8_sinks_287 : decode cX8_sinks 287 = .ok (.lastore, 1) := by decide +kernel
theorem dX8_sinks_288 : decode cX8_sinks 288 = .ok (.iinc 8 1, 3) := by decide +kernel
theorem dX8_sinks_291 : decode cX8_sinks 291 = .ok (.goto (-101), 3) := by decide +kernel
theorem dX8_sinks_294 : decode cX8_sinks 294 = .ok (.aload 4, 2) := by decide +kernel
theorem dX8_sinks_296 : decode cX8_sinks 296 = .ok (.dup, 1) := by decide +kernel
theorem dX8_sinks_297 : decode cX8_sinks 297 = .ok (.getfield 114, 3) := by decide +kernel
theorem dX8_sinks_300 : decode cX8_sinks 300 = .ok (.iload 6, 2) := by decide +kernel
theorem dX8_sinks_302 : decode cX8_sinks 302 = .ok (.isub, 1) := by decide +kernel
theorem dX8_sinks_303 : decode cX8_sinks 303 = .ok (.putfield 114, 3) := by decide +kernel
theorem dX8_sinks_306 : decode cX8_sinks 306 = .ok (.iload 7, 2) := by decide +kernel
theorem dX8_sinks_308 : decode cX8_sinks 308 = .ok (.ifCond .ne 26, 3) := by decide +kernel
theorem dX8_sinks_311 : decode cX8_sinks 311 = .ok (.aload_n 0, 1) := by decide +kernel
theorem dX8_sinks_312 : decode cX8_sinks 312 = .ok (.getfield 12, 3) := by decide +kernel
theorem dX8_sinks_315 : decode cX8_sinks 315 = .ok (.iload_n 3, 1) := by decide +kernel
theorem dX8_sinks_316 : decode cX8_sinks 316 = .ok (.iconst 1, 1) := by decide +kernel
theorem dX8_sinks_317 : decode cX8_sinks 317 = .ok (.iadd, 1) := by decide +kernel
theorem dX8_sinks_318 : decode cX8_sinks 318 = .ok (.invokevirtual 89, 3) := by decide +kernel
theorem dX8_sinks_321 : decode cX8_sinks 321 = .ok (.checkcast 53, 3) := by decide +kernel
theorem dX8_sinks_324 : decode cX8_sinks 324 = .ok (.dup, 1) := by decide +kernel
theorem dX8_sinks_325 : decode cX8_sinks 325 = .ok (.getfield 114, 3) := by decide +kernel
theorem dX8_sinks_328 : decode cX8_sinks 328 = .ok (.iload 6, 2) := by decide +kernel
theorem dX8_sinks_330 : decode cX8_sinks 330 = .ok (.iadd, 1) := by decide +kernel
theorem dX8_sinks_331 : decode cX8_sinks 331 = .ok (.putfield 114, 3) := by decide +kernel
theorem dX8_sinks_334 : decode cX8_sinks 334 = .ok (.iinc 3 (-1), 3) := by decide +kernel
theorem dX8_sinks_337 : decode cX8_sinks 337 = .ok (.goto (-325), 3) := by decide +kernel
theorem dX8_sinks_340 : decode cX8_sinks 340 = .ok (.aload_n 0, 1) := by decide +kernel
theorem dX8_sinks_341 : decode cX8_sinks 341 = .ok (.dup, 1) := by decide +kernel
theorem dX8_sinks_342 : decode cX8_sinks 342 = .ok (.getfield 147, 3) := by decide +kernel
theorem dX8_sinks_345 : decode cX8_sinks 345 = .ok (.iload_n 2, 1) := by decide +kernel
theorem dX8_sinks_346 : decode cX8_sinks 346 = .ok (.i2l, 1) := by decide +kernel
theorem dX8_sinks_347 : decode cX8_sinks 347 = .ok (.ladd, 1) := by decide +kernel
theorem dX8_sinks_348 : decode cX8_sinks 348 = .ok (.putfield 147, 3) := by decide +kernel
theorem dX8_sinks_351 : decode cX8_sinks 351 = .ok (.iload_n 2, 1) := by decide +kernel
theorem dX8_sinks_352 : decode cX8_sinks 352 = .ok (.ireturn, 1) := by decide +kernel
theorem dX8_drinks_0 : decode cX8_drinks 0 = .ok (.aload_n 1, 1) := by decide +kernel
theorem dX8_drinks_1 : decode cX8_drinks 1 = .ok (.getfield 65, 3) := by decide +kernel
theorem dX8_drinks_4 : decode cX8_drinks 4 = .ok (.aload_n 0, 1) := by decide +kernel
theorem dX8_drinks_5 : decode cX8_drinks 5 = .ok (.getfield 12, 3) := by decide +kernel
theorem dX8_drinks_8 : decode cX8_drinks 8 = .ok (.invokevirtual 85, 3) := by decide +kernel
theorem dX8_drinks_11 : decode cX8_drinks 11 = .ok (.invokestatic 123, 3) := by decide +kernel
theorem dX8_drinks_14 : decode cX8_drinks 14 = .ok (.istore_n 2, 1) := by decide +kernel
theorem dX8_drinks_15 : decode cX8_drinks 15 = .ok (.iconst 0, 1) := by decide +kernel
theorem dX8_drinks_16 : decode cX8_drinks 16 = .ok (.istore_n 3, 1) := by decide +kernel
theorem dX8_drinks_17 : decode cX8_drinks 17 = .ok (.iconst 0, 1) := by decide +kernel
theorem dX8_drinks_18 : decode cX8_drinks 18 = .ok (.istore 4, 2) := by decide +kernel
theorem dX8_drinks_20 : decode cX8_drinks 20 = .ok (.iload 4, 2) := by decide +kernel
theorem dX8_drinks_22 : decode cX8_drinks 22 = .ok (.iload_n 2, 1) := by decide +kernel
theorem dX8_drinks_23 : decode cX8_drinks 23 = .ok (.if_icmp .ge 27, 3) := by decide +kernel
theorem dX8_drinks_26 : decode cX8_drinks 26 = .ok (.iload_n 3, 1) := by decide +kernel
theorem dX8_drinks_27 : decode cX8_drinks 27 = .ok (.aload_n 0, 1) := by decide +kernel
theorem dX8_drinks_28 : decode cX8_drinks 28 = .ok (.getfield 12, 3) := by decide +kernel
theorem dX8_drinks_31 : decode cX8_drinks 31 = .ok (.iload 4, 2) := by decide +kernel
theorem dX8_drinks_33 : decode cX8_drinks 33 = .ok (.invokevirtual 89, 3) := by decide +kernel
theorem dX8_drinks_36 : decode cX8_drinks 36 = .ok (.checkcast 53, 3) := by decide +kernel
theorem dX8_drinks_39 : decode cX8_drinks 39 = .ok (.invokevirtual 150, 3) := by decide +kernel
theorem dX8_drinks_42 : decode cX8_drinks 42 = .ok (.iadd, 1) := by decide +kernel
theorem dX8_drinks_43 : decode cX8_drinks 43 = .ok (.istore_n 3, 1) := by decide +kernel
theorem dX8_drinks_44 : decode cX8_drinks 44 = .ok (.iinc 4 1, 3) := by decide +kernel
theorem dX8_drinks_47 : decode cX8_drinks 47 = .ok (.goto (-27), 3) := by decide +kernel
theorem dX8_drinks_50 : decode cX8_drinks 50 = .ok (.aload_n 1, 1) := by decide +kernel
theorem dX8_drinks_51 : decode cX8_drinks 51 = .ok (.getfield 68, 3) := by decide +kernel
theorem dX8_drinks_54 : decode cX8_drinks 54 = .ok (.iload_n 3, 1) := by decide +kernel
theorem dX8_drinks_55 : decode cX8_drinks 55 = .ok (.invokestatic 123, 3) := by decide +kernel
theorem dX8_drinks_58 : decode cX8_drinks 58 = .ok (.istore 4, 2) := by decide +kernel
theorem dX8_drinks_60 : decode cX8_drinks 60 = .ok (.iload 4, 2) := by decide +kernel
theorem dX8_drinks_62 : decode cX8_drinks 62 = .ok (.istore 5, 2) := by decide +kernel
theorem dX8_drinks_64 : decode cX8_drinks 64 = .ok (.iconst 0, 1) := by decide +kernel
theorem dX8_drinks_65 : decode cX8_drinks 65 = .ok (.istore 6, 2) := by decide +kernel
theorem dX8_drinks_67 : decode cX8_drinks 67 = .ok (.iload 6, 2) := by decide +kernel
theorem dX8_drinks_69 : decode cX8_drinks 69 = .ok (.iload_n 2, 1) := by decide +kernel
theorem dX8_drinks_70 : decode cX8_drinks 70 = .ok (.if_icmp .ge 65, 3) := by decide +kernel
theorem dX8_drinks_73 : decode cX8_drinks 73 = .ok (.iload 4, 2) := by decide +kernel
theorem dX8_drinks_75 : decode cX8_drinks 75 = .ok (.ifCond .le 60, 3) := by decide +kernel
theorem dX8_drinks_78 : decode cX8_drinks 78 = .ok (.iload 4, 2) := by decide +kernel
theorem dX8_drinks_80 : decode cX8_drinks 80 = .ok (.aload_n 0, 1) := by decide +kernel
theorem dX8_drinks_81 : decode cX8_drinks 81 = .ok (.getfield 12, 3) := by decide +kernel
theorem dX8_drinks_84 : decode cX8_drinks 84 = .ok (.iload 6, 2) := by decide +kernel
theorem dX8_drinks_86 : decode cX8_drinks 86 = .ok (.invokevirtual 89, 3) := by decide +kernel
theorem dX8_drinks_89 : decode cX8_drinks 89 = .ok (.checkcast 53, 3) := by decide +kernel
theorem dX8_drinks_92 : decode cX8_drinks 92 = .ok (.invokevirtual 150, 3) := by decide +kernel
theorem dX8_drinks_95 : decode cX8_drinks 95 = .ok (.imul, 1) := by decide +kernel
theorem dX8_drinks_96 : decode cX8_drinks 96 = .ok (.iload_n 3, 1) := by decide +kernel
theorem dX8_drinks_97 : decode cX8_drinks 97 = .ok (.idiv, 1) := by decide +kernel
theorem dX8_drinks_98 : decode cX8_drinks 98 = .ok (.istore 7, 2) := by decide +kernel
theorem dX8_drinks_100 : decode cX8_drinks 100 = .ok (.aload_n 0, 1) := by decide +kernel
theorem dX8_drinks_101 : decode cX8_drinks 101 = .ok (.getfield 12, 3) := by decide +kernel
theorem dX8_drinks_104 : decode cX8_drinks 104 = .ok (.iload 6, 2) := by decide +kernel
theorem dX8_drinks_106 : decode cX8_drinks 106 = .ok (.invokevirtual 89, 3) := by decide +kernel
theorem dX8_drinks_109 : decode cX8_drinks 109 = .ok (.checkcast 53, 3) := by decide +kernel
theorem dX8_drinks_112 : decode cX8_drinks 112 = .ok (.dup, 1) := by decide +kernel
theorem dX8_drinks_113 : decode cX8_drinks 113 = .ok (.getfield 114, 3) := by decide +kernel
theorem dX8_drinks_116 : decode cX8_drinks 116 = .ok (.iload 7, 2) := by decide +kernel
theorem dX8_drinks_118 : decode cX8_drinks 118 = .ok (.isub, 1) := by decide +kernel
theorem dX8_drinks_119 : decode cX8_drinks 119 = .ok (.putfield 114, 3) := by decide +kernel
theorem dX8_drinks_122 : decode cX8_drinks 122 = .ok (.iload 5, 2) := by decide +kernel
theorem dX8_drinks_124 : decode cX8_drinks 124 = .ok (.iload 7, 2) := by decide +kernel
theorem dX8_drinks_126 : decode cX8_drinks 126 = .ok (.isub, 1) := by decide +kernel
theorem dX8_drinks_127 : decode cX8_drinks 127 = .ok (.istore 5, 2) := by decide +kernel
theorem dX8_drinks_129 : decode cX8_drinks 129 = .ok (.iinc 6 1, 3) := by decide +kernel
theorem dX8_drinks_132 : decode cX8_drinks 132 = .ok (.goto (-65), 3) := by decide +kernel
theorem dX8_drinks_135 : decode cX8_drinks 135 = .ok (.iload 5, 2) := by decide +kernel
theorem dX8_drinks_137 : decode cX8_drinks 137 = .ok (.ifCond .le 90, 3) := by decide +kernel
theorem dX8_drinks_140 : decode cX8_drinks 140 = .ok (.aload_n 0, 1) := by decide +kernel
theorem dX8_drinks_141 : decode cX8_drinks 141 = .ok (.getfield 12, 3) := by decide +kernel
theorem dX8_drinks_144 : decode cX8_drinks 144 = .ok (.iconst 0, 1) := by decide +kernel
theorem dX8_drinks_145 : decode cX8_drinks 145 = .ok (.invokevirtual 89, 3) := by decide +kernel
theorem dX8_drinks_148 : decode cX8_drinks 148 = .ok (.checkcast 53, 3) := by decide +kernel
theorem dX8_drinks_151 : decode cX8_drinks 151 = .ok (.astore 6, 2) := by decide +kernel
theorem dX8_drinks_153 : decode cX8_drinks 153 = .ok (.iconst 1, 1) := by decide +kernel
theorem dX8_drinks_154 : decode cX8_drinks 154 = .ok (.istore 7, 2) := by decide +kernel
theorem dX8_drinks_156 : decode cX8_drinks 156 = .ok (.iload 7, 2) := by decide +kernel
theorem dX8_drinks_158 : decode cX8_drinks 158 = .ok (.iload_n 2, 1) := by decide +kernel
theorem dX8_drinks_159 : decode cX8_drinks 159 = .ok (.if_icmp .ge 51, 3) := by decide +kernel
theorem dX8_drinks_162 : decode cX8_drinks 162 = .ok (.aload_n 0, 1) := by decide +kernel
theorem dX8_drinks_163 : decode cX8_drinks 163 = .ok (.getfield 12, 3) := by decide +kernel
theorem dX8_drinks_166 : decode cX8_drinks 166 = .ok (.iload 7, 2) := by decide +kernel
theorem dX8_drinks_168 : decode cX8_drinks 168 = .ok (.invokevirtual 89, 3) := by decide +kernel
theorem dX8_drinks_171 : decode cX8_drinks 171 = .ok (.checkcast 53, 3) := by decide +kernel
theorem dX8_drinks_174 : decode cX8_drinks 174 = .ok (.invokevirtual 150, 3) := by decide +kernel
theorem dX8_drinks_177 : decode cX8_drinks 177 = .ok (.aload 6, 2) := by decide +kernel
theorem dX8_drinks_179 : decode cX8_drinks 179 = .ok (.invokevirtual 150, 3) := by decide +kernel
theorem dX8_drinks_182 : decode cX8_drinks 182 = .ok (.if_icmp .le 18, 3) := by decide +kernel
theorem dX8_drinks_185 : decode cX8_drinks 185 = .ok (.aload_n 0, 1) := by decide +kernel
theorem dX8_drinks_186 : decode cX8_drinks 186 = .ok (.getfield 12, 3) := by decide +kernel
theorem dX8_drinks_189 : decode cX8_drinks 189 = .ok (.iload 7, 2) := by decide +kernel
theorem dX8_drinks_191 : decode cX8_drinks 191 = .ok (.invokevirtual 89, 3) := by decide +kernel
theorem dX8_drinks_194 : decode cX8_drinks 194 = .ok (.checkcast 53, 3) := by decide +kernel
theorem dX8_drinks_197 : decode cX8_drinks 197 = .ok (.goto 5, 3) := by decide +kernel
theorem dX8_drinks_200 : decode cX8_drinks 200 = .ok (.aload 6, 2) := by decide +kernel
theorem dX8_drinks_202 : decode cX8_drinks 202 = .ok (.astore 6, 2) := by decide +kernel
theorem dX8_drinks_204 : decode cX8_drinks 204 = .ok (.iinc 7 1, 3) := by decide +kernel
theorem dX8_drinks_207 : decode cX8_drinks 207 = .ok (.goto (-51), 3) := by decide +kernel
theorem dX8_drinks_210 : decode cX8_drinks 210 = .ok (.aload 6, 2) := by decide +kernel
theorem dX8_drinks_212 : decode cX8_drinks 212 = .ok (.dup, 1) := by decide +kernel
theorem dX8_drinks_213 : decode cX8_drinks 213 = .ok (.getfield 114, 3) := by decide +kernel
theorem dX8_drinks_216 : decode cX8_drinks 216 = .ok (.iconst 1, 1) := by decide +kernel
theorem dX8_drinks_217 : decode cX8_drinks 217 = .ok (.isub, 1) := by decide +kernel
theorem dX8_drinks_218 : decode cX8_drinks 218 = .ok (.putfield 114, 3) := by decide +kernel
theorem dX8_drinks_221 : decode cX8_drinks 221 = .ok (.iinc 5 (-1), 3) := by decide +kernel
theorem dX8_drinks_224 : decode cX8_drinks 224 = .ok (.goto (-89), 3) := by decide +kernel
theorem dX8_drinks_227 : decode cX8_drinks 227 = .ok (.aload_n 0, 1) := by decide +kernel
theorem dX8_drinks_228 : decode cX8_drinks 228 = .ok (.dup, 1) := by decide +kernel
theorem dX8_drinks_229 : decode cX8_drinks 229 = .ok (.getfield 153, 3) := by decide +kernel
theorem dX8_drinks_232 : decode cX8_drinks 232 = .ok (.iload 4, 2) := by decide +kernel
theorem dX8_drinks_234 : decode cX8_drinks 234 = .ok (.i2l, 1) := by decide +kernel
theorem dX8_drinks_235 : decode cX8_drinks 235 = .ok (.ladd, 1) := by decide +kernel
theorem dX8_drinks_236 : decode cX8_drinks 236 = .ok (.putfield 153, 3) := by decide +kernel
theorem dX8_drinks_239 : decode cX8_drinks 239 = .ok (.aload_n 1, 1) := by decide +kernel
theorem dX8_drinks_240 : decode cX8_drinks 240 = .ok (.dup, 1) := by decide +kernel
theorem dX8_drinks_241 : decode cX8_drinks 241 = .ok (.getfield 156, 3) := by decide +kernel
theorem dX8_drinks_244 : decode cX8_drinks 244 = .ok (.aload_n 1, 1) := by decide +kernel
theorem dX8_drinks_245 : decode cX8_drinks 245 = .ok (.getfield 68, 3) := by decide +kernel
theorem dX8_drinks_248 : decode cX8_drinks 248 = .ok (.iload 4, 2) := by decide +kernel
theorem dX8_drinks_250 : decode cX8_drinks 250 = .ok (.isub, 1) := by decide +kernel
theorem dX8_drinks_251 : decode cX8_drinks 251 = .ok (.iadd, 1) := by decide +kernel
theorem dX8_drinks_252 : decode cX8_drinks 252 = .ok (.putfield 156, 3) := by decide +kernel
theorem dX8_drinks_255 : decode cX8_drinks 255 = .ok (.return_, 1) := by decide +kernel
theorem dX8_dries_0 : decode cX8_dries 0 = .ok (.aload_n 0, 1) := by decide +kernel
theorem dX8_dries_1 : decode cX8_dries 1 = .ok (.getfield 74, 3) := by decide +kernel
theorem dX8_dries_4 : decode cX8_dries 4 = .ok (.ifCond .eq 9, 3) := by decide +kernel
theorem dX8_dries_7 : decode cX8_dries 7 = .ok (.iload_n 1, 1) := by decide +kernel
theorem dX8_dries_8 : decode cX8_dries 8 = .ok (.iconst 2, 1) := by decide +kernel
theorem dX8_dries_9 : decode cX8_dries 9 = .ok (.idiv, 1) := by decide +kernel
theorem dX8_dries_10 : decode cX8_dries 10 = .ok (.goto 4, 3) := by decide +kernel
theorem dX8_dries_13 : decode cX8_dries 13 = .ok (.iload_n 1, 1) := by decide +kernel
theorem dX8_dries_14 : decode cX8_dries 14 = .ok (.istore_n 2, 1) := by decide +kernel
theorem dX8_dries_15 : decode cX8_dries 15 = .ok (.iload_n 2, 1) := by decide +kernel
theorem dX8_dries_16 : decode cX8_dries 16 = .ok (.aload_n 0, 1) := by decide +kernel
theorem dX8_dries_17 : decode cX8_dries 17 = .ok (.getfield 78, 3) := by decide +kernel
theorem dX8_dries_20 : decode cX8_dries 20 = .ok (.invokestatic 123, 3) := by decide +kernel
theorem dX8_dries_23 : decode cX8_dries 23 = .ok (.istore_n 3, 1) := by decide +kernel
theorem dX8_dries_24 : decode cX8_dries 24 = .ok (.aload_n 0, 1) := by decide +kernel
theorem dX8_dries_25 : decode cX8_dries 25 = .ok (.dup, 1) := by decide +kernel
theorem dX8_dries_26 : decode cX8_dries 26 = .ok (.getfield 78, 3) := by decide +kernel
theorem dX8_dries_29 : decode cX8_dries 29 = .ok (.iload_n 3, 1) := by decide +kernel
theorem dX8_dries_30 : decode cX8_dries 30 = .ok (.isub, 1) := by decide +kernel
theorem dX8_dries_31 : decode cX8_dries 31 = .ok (.putfield 78, 3) := by decide +kernel
theorem dX8_dries_34 : decode cX8_dries 34 = .ok (.iload_n 2, 1) := by decide +kernel
theorem dX8_dries_35 : decode cX8_dries 35 = .ok (.iload_n 3, 1) := by decide +kernel
theorem dX8_dries_36 : decode cX8_dries 36 = .ok (.isub, 1) := by decide +kernel
theorem dX8_dries_37 : decode cX8_dries 37 = .ok (.istore_n 2, 1) := by decide +kernel
theorem dX8_dries_38 : decode cX8_dries 38 = .ok (.aload_n 0, 1) := by decide +kernel
theorem dX8_dries_39 : decode cX8_dries 39 = .ok (.dup, 1) := by decide +kernel
theorem dX8_dries_40 : decode cX8_dries 40 = .ok (.getfield 153, 3) := by decide +kernel
theorem dX8_dries_43 : decode cX8_dries 43 = .ok (.iload_n 3, 1) := by decide +kernel
theorem dX8_dries_44 : decode cX8_dries 44 = .ok (.i2l, 1) := by decide +kernel
theorem dX8_dries_45 : decode cX8_dries 45 = .ok (.ladd, 1) := by decide +kernel
theorem dX8_dries_46 : decode cX8_dries 46 = .ok (.putfield 153, 3) := by decide +kernel
theorem dX8_dries_49 : decode cX8_dries 49 = .ok (.aload_n 0, 1) := by decide +kernel
theorem dX8_dries_50 : decode cX8_dries 50 = .ok (.getfield 12, 3) := by decide +kernel
theorem dX8_dries_53 : decode cX8_dries 53 = .ok (.invokevirtual 129, 3) := by decide +kernel
theorem dX8_dries_56 : decode cX8_dries 56 = .ok (.ifCond .ne 80, 3) := by decide +kernel
theorem dX8_dries_59 : decode cX8_dries 59 = .ok (.aload_n 0, 1) := by decide +kernel
theorem dX8_dries_60 : decode cX8_dries 60 = .ok (.getfield 12, 3) := by decide +kernel
theorem dX8_dries_63 : decode cX8_dries 63 = .ok (.iconst 0, 1) := by decide +kernel
theorem dX8_dries_64 : decode cX8_dries 64 = .ok (.invokevirtual 89, 3) := by decide +kernel
theorem dX8_dries_67 : decode cX8_dries 67 = .ok (.checkcast 53, 3) := by decide +kernel
theorem dX8_dries_70 : decode cX8_dries 70 = .ok (.getfield 93, 3) := by decide +kernel
theorem dX8_dries_73 : decode cX8_dries 73 = .ok (.ifCond .ne 63, 3) := by decide +kernel
theorem dX8_dries_76 : decode cX8_dries 76 = .ok (.aload_n 0, 1) := by decide +kernel
theorem dX8_dries_77 : decode cX8_dries 77 = .ok (.getfield 12, 3) := by decide +kernel
theorem dX8_dries_80 : decode cX8_dries 80 = .ok (.iconst 0, 1) := by decide +kernel
theorem dX8_dries_81 : decode cX8_dries 81 = .ok (.invokevirtual 89, 3) := by decide +kernel
theorem dX8_dries_84 : decode cX8_dries 84 = .ok (.checkcast 53, 3) := by decide +kernel
theorem dX8_dries_87 : decode cX8_dries 87 = .ok (.astore 4, 2) := by decide +kernel
theorem dX8_dries_89 : decode cX8_dries 89 = .ok (.iload_n 2, 1) := by decide +kernel
theorem dX8_dries_90 : decode cX8_dries 90 = .ok (.iconst 0, 1) := by decide +kernel
theorem dX8_dries_91 : decode cX8_dries 91 = .ok (.aload 4, 2) := by decide +kernel
theorem dX8_dries_93 : decode cX8_dries 93 = .ok (.getfield 114, 3) := by decide +kernel
theorem dX8_dries_96 : decode cX8_dries 96 = .ok (.aload 4, 2) := by decide +kernel
theorem dX8_dries_98 : decode cX8_dries 98 = .ok (.getfield 159, 3) := by decide +kernel
theorem dX8_dries_101 : decode cX8_dries 101 = .ok (.iconst 2, 1) := by decide +kernel
theorem dX8_dries_102 : decode cX8_dries 102 = .ok (.idiv, 1) := by decide +kernel
theorem dX8_dries_103 : decode cX8_dries 103 = .ok (.isub, 1) := by decide +kernel
theorem dX8_dries_104 : decode cX8_dries 104 = .ok (.invokestatic 102, 3) := by decide +kernel
theorem dX8_dries_107 : decode cX8_dries 107 = .ok (.invokestatic 123, 3) := by decide +kernel
theorem dX8_dries_110 : decode cX8_dries 110 = .ok (.istore 5, 2) := by decide +kernel
theorem dX8_dries_112 : decode cX8_dries 112 = .ok (.aload 4, 2) := by decide +kernel
theorem dX8_dries_114 : decode cX8_dries 114 = .ok (.dup, 1) := by decide +kernel
theorem dX8_dries_115 : decode cX8_dries 115 = .ok (.getfield 114, 3) := by decide +kernel
theorem dX8_dries_118 : decode cX8_dries 118 = .ok (.iload 5, 2) := by decide +kernel
theorem dX8_dries_120 : decode cX8_dries 120 = .ok (.isub, 1) := by decide +kernel
theorem dX8_dries_121 : decode cX8_dries 121 = .ok (.putfield 114, 3) := by decide +kernel
theorem dX8_dries_124 : decode cX8_dries 124 = .ok (.aload_n 0, 1) := by decide +kernel
theorem dX8_dries_125 : decode cX8_dries 125 = .ok (.dup, 1) := by decide +kernel
theorem dX8_dries_126 : decode cX8_dries 126 = .ok (.getfield 153, 3) := by decide +kernel
theorem dX8_dries_129 : decode cX8_dries 129 = .ok (.iload 5, 2) := by decide +kernel
theorem dX8_dries_131 : decode cX8_dries 131 = .ok (.i2l, 1) := by decide +kernel
theorem dX8_dries_132 : decode cX8_dries 132 = .ok (.ladd, 1) := by decide +kernel
theorem dX8_dries_133 : decode cX8_dries 133 = .ok (.putfield 153, 3) := by decide +kernel
theorem dX8_dries_136 : decode cX8_dries 136 = .ok (.return_, 1) := by decide +kernel
theorem dX8_nitrates_0 : decode cX8_nitrates 0 = .ok (.iload_n 1, 1) := by decide +kernel
theorem dX8_nitrates_1 : decode cX8_nitrates 1 = .ok (.ifCond .le 72, 3) := by decide +kernel
theorem dX8_nitrates_4 : decode cX8_nitrates 4 = .ok (.aload_n 0, 1) := by decide +kernel
theorem dX8_nitrates_5 : decode cX8_nitrates 5 = .ok (.getfield 12, 3) := by decide +kernel
theorem dX8_nitrates_8 : decode cX8_nitrates 8 = .ok (.invokevirtual 129, 3) := by decide +kernel
theorem dX8_nitrates_11 : decode cX8_nitrates 11 = .ok (.ifCond .ne 62, 3) := by decide +kernel
theorem dX8_nitrates_14 : decode cX8_nitrates 14 = .ok (.aload_n 0, 1) := by decide +kernel
theorem dX8_nitrates_15 : decode cX8_nitrates 15 = .ok (.getfield 12, 3) := by decide +kernel
theorem dX8_nitrates_18 : decode cX8_nitrates 18 = .ok (.iconst 0, 1) := by decide +kernel
theorem dX8_nitrates_19 : decode cX8_nitrates 19 = .ok (.invokevirtual 89, 3) := by decide +kernel
theorem dX8_nitrates_22 : decode cX8_nitrates 22 = .ok (.checkcast 53, 3) := by decide +kernel
theorem dX8_nitrates_25 : decode cX8_nitrates 25 = .ok (.getfield 93, 3) := by decide +kernel
theorem dX8_nitrates_28 : decode cX8_nitrates 28 = .ok (.ifCond .ne 45, 3) := by decide +kernel
theorem dX8_nitrates_31 : decode cX8_nitrates 31 = .ok (.aload_n 0, 1) := by decide +kernel
theorem dX8_nitrates_32 : decode cX8_nitrates 32 = .ok (.getfield 81, 3) := by decide +kernel
theorem dX8_nitrates_35 : decode cX8_nitrates 35 = .ok (.iload_n 1, 1) := by decide +kernel
theorem dX8_nitrates_36 : decode cX8_nitrates 36 = .ok (.i2l, 1) := by decide +kernel
theorem dX8_nitrates_37 : decode cX8_nitrates 37 = .ok (.lmul, 1) := by decide +kernel
theorem dX8_nitrates_38 : decode cX8_nitrates 38 = .ok (.ldc2_w 162, 3) := by decide +kernel
theorem dX8_nitrates_41 : decode cX8_nitrates 41 = .ok (.ldiv, 1) := by decide +kernel
theorem dX8_nitrates_42 : decode cX8_nitrates 42 = .ok (.lstore_n 2, 1) := by decide +kernel
theorem dX8_nitrates_43 : decode cX8_nitrates 43 = .ok (.aload_n 0, 1) := by decide +kernel
theorem dX8_nitrates_44 : decode cX8_nitrates 44 = .ok (.dup, 1) := by decide +kernel
theorem dX8_nitrates_45 : decode cX8_nitrates 45 = .ok (.getfield 81, 3) := by decide +kernel
theorem dX8_nitrates_48 : decode cX8_nitrates 48 = .ok (.lload_n 2, 1) := by decide +kernel
theorem dX8_nitrates_49 : decode cX8_nitrates 49 = .ok (.lsub, 1) := by decide +kernel
theorem dX8_nitrates_50 : decode cX8_nitrates 50 = .ok (.putfield 81, 3) := by decide +kernel
theorem dX8_nitrates_53 : decode cX8_nitrates 53 = .ok (.aload_n 0, 1) := by decide +kernel
theorem dX8_nitrates_54 : decode cX8_nitrates 54 = .ok (.getfield 12, 3) := by decide +kernel
theorem dX8_nitrates_57 : decode cX8_nitrates 57 = .ok (.iconst 0, 1) := by decide +kernel
theorem dX8_nitrates_58 : decode cX8_nitrates 58 = .ok (.invokevirtual 89, 3) := by decide +kernel
theorem dX8_nitrates_61 : decode cX8_nitrates 61 = .ok (.checkcast 53, 3) := by decide +kernel
theorem dX8_nitrates_64 : decode cX8_nitrates 64 = .ok (.getfield 144, 3) := by decide +kernel
theorem dX8_nitrates_67 : decode cX8_nitrates 67 = .ok (.iconst 0, 1) := by decide +kernel
theorem dX8_nitrates_68 : decode cX8_nitrates 68 = .ok (.dup2, 1) := by decide +kernel
theorem dX8_nitrates_69 : decode cX8_nitrates 69 = .ok (.laload, 1) := by decide +kernel
theorem dX8_nitrates_70 : decode cX8_nitrates 70 = .ok (.lload_n 2, 1) := by decide +kernel
theorem dX8_nitrates_71 : decode cX8_nitrates 71 = .ok (.ladd, 1) := by decide +kernel
theorem dX8_nitrates_72 : decode cX8_nitrates 72 = .ok (.lastore, 1) := by decide +kernel
theorem dX8_nitrates_73 : decode cX8_nitrates 73 = .ok (.iconst 0, 1) := by decide +kernel
theorem dX8_nitrates_74 : decode cX8_nitrates 74 = .ok (.istore_n 2, 1) := by decide +kernel
theorem dX8_nitrates_75 : decode cX8_nitrates 75 = .ok (.iload_n 2, 1) := by decide +kernel
theorem dX8_nitrates_76 : decode cX8_nitrates 76 = .ok (.aload_n 0, 1) := by decide +kernel
theorem dX8_nitrates_77 : decode cX8_nitrates 77 = .ok (.getfield 12, 3) := by decide +kernel
theorem dX8_nitrates_80 : decode cX8_nitrates 80 = .ok (.invokevirtual 85, 3) := by decide +kernel
theorem dX8_nitrates_83 : decode cX8_nitrates 83 = .ok (.if_icmp .ge 87, 3) := by decide +kernel
theorem dX8_nitrates_86 : decode cX8_nitrates 86 = .ok (.iload_n 1, 1) := by decide +kernel
theorem dX8_nitrates_87 : decode cX8_nitrates 87 = .ok (.iconst 5, 1) := by decide +kernel
theorem dX8_nitrates_88 : decode cX8_nitrates 88 = .ok (.if_icmp .le 82, 3) := by decide +kernel
theorem dX8_nitrates_91 : decode cX8_nitrates 91 = .ok (.aload_n 0, 1) := by decide +kernel
theorem dX8_nitrates_92 : decode cX8_nitrates 92 = .ok (.getfield 12, 3) := by decide +kernel
theorem dX8_nitrates_95 : decode cX8_nitrates 95 = .ok (.iload_n 2, 1) := by decide +kernel
theorem dX8_nitrates_96 : decode cX8_nitrates 96 = .ok (.invokevirtual 89, 3) := by decide +kernel
theorem dX8_nitrates_99 : decode cX8_nitrates 99 = .ok (.checkcast 53, 3) := by decide +kernel
theorem dX8_nitrates_102 : decode cX8_nitrates 102 = .ok (.astore_n 3, 1) := by decide +kernel
theorem dX8_nitrates_103 : decode cX8_nitrates 103 = .ok (.aload_n 3, 1) := by decide +kernel
theorem dX8_nitrates_104 : decode cX8_nitrates 104 = .ok (.getfield 93, 3) := by decide +kernel
theorem dX8_nitrates_107 : decode cX8_nitrates 107 = .ok (.ifCond .ne 57, 3) := by decide +kernel
theorem dX8_nitrates_110 : decode cX8_nitrates 110 = .ok (.aload_n 3, 1) := by decide +kernel
theorem dX8_nitrates_111 : decode cX8_nitrates 111 = .ok (.getfield 114, 3) := by decide +kernel
theorem dX8_nitrates_114 : decode cX8_nitrates 114 = .ok (.aload_n 3, 1) := by decide +kernel
theorem dX8_nitrates_115 : decode cX8_nitrates 115 = .ok (.getfield 141, 3) := by decide +kernel
theorem dX8_nitrates_118 : decode cX8_nitrates 118 = .ok (.bipush 9, 2) := by decide +kernel
theorem dX8_nitrates_120 : decode cX8_nitrates 120 = .ok (.imul, 1) := by decide +kernel
theorem dX8_nitrates_121 : decode cX8_nitrates 121 = .ok (.bipush 10, 2) := by decide +kernel
theorem dX8_nitrates_123 : decode cX8_nitrates 123 = .ok (.idiv, 1) := by decide +kernel
theorem dX8_nitrates_124 : decode cX8_nitrates 124 = .ok (.if_icmp .lt 40, 3) := by decide +kernel
theorem dX8_nitrates_127 : decode cX8_nitrates 127 = .ok (.aload_n 3, 1) := by decide +kernel
theorem dX8_nitrates_128 : decode cX8_nitrates 128 = .ok (.getfield 144, 3) := by decide +kernel
theorem dX8_nitrates_131 : decode cX8_nitrates 131 = .ok (.iconst 0, 1) := by decide +kernel
theorem dX8_nitrates_132 : decode cX8_nitrates 132 = .ok (.laload, 1) := by decide +kernel
theorem dX8_nitrates_133 : decode cX8_nitrates 133 = .ok (.iload_n 1, 1) := by decide +kernel
theorem dX8_nitrates_134 : decode cX8_nitrates 134 = .ok (.i2l, 1) := by decide +kernel
theorem dX8_nitrates_135 : decode cX8_nitrates 135 = .ok (.lmul, 1) := by decide +kernel
theorem dX8_nitrates_136 : decode cX8_nitrates 136 = .ok (.ldc2_w 164, 3) := by decide +kernel
theorem dX8_nitrates_139 : decode cX8_nitrates 139 = .ok (.ldiv, 1) := by decide +kernel
theorem dX8_nitrates_140 : decode cX8_nitrates 140 = .ok (.lstore 4, 2) := by decide +kernel
theorem dX8_nitrates_142 : decode cX8_nitrates 142 = .ok (.aload_n 3, 1) := by decide +kernel
theorem dX8_nitrates_143 : decode cX8_nitrates 143 = .ok (.getfield 144, 3) := by decide +kernel
theorem dX8_nitrates_146 : decode cX8_nitrates 146 = .ok (.iconst 0, 1) := by decide +kernel
theorem dX8_nitrates_147 : decode cX8_nitrates 147 = .ok (.dup2, 1) := by decide +kernel
theorem dX8_nitrates_148 : decode cX8_nitrates 148 = .ok (.laload, 1) := by decide +kernel
theorem dX8_nitrates_149 : decode cX8_nitrates 149 = .ok (.lload 4, 2) := by decide +kernel
theorem dX8_nitrates_151 : decode cX8_nitrates 151 = .ok (.lsub, 1) := by decide +kernel
theorem dX8_nitrates_152 : decode cX8_nitrates 152 = .ok (.lastore, 1) := by decide +kernel
theorem dX8_nitrates_153 : decode cX8_nitrates 153 = .ok (.aload_n 0, 1) := by decide +kernel
theorem dX8_nitrates_154 : decode cX8_nitrates 154 = .ok (.dup, 1) := by decide +kernel
theorem dX8_nitrates_155 : decode cX8_nitrates 155 = .ok (.getfield 166, 3) := by decide +kernel
theorem dX8_nitrates_158 : decode cX8_nitrates 158 = .ok (.lload 4, 2) := by decide +kernel
theorem dX8_nitrates_160 : decode cX8_nitrates 160 = .ok (.ladd, 1) := by decide +kernel
theorem dX8_nitrates_161 : decode cX8_nitrates 161 = .ok (.putfield 166, 3) := by decide +kernel
theorem dX8_nitrates_164 : decode cX8_nitrates 164 = .ok (.iinc 2 1, 3) := by decide +kernel
theorem dX8_nitrates_167 : decode cX8_nitrates 167 = .ok (.goto (-92), 3) := by decide +kernel
theorem dX8_nitrates_170 : decode cX8_nitrates 170 = .ok (.return_, 1) := by decide +kernel
theorem dX8_goes_0 : decode cX8_goes 0 = .ok (.aload_n 0, 1) := by decide +kernel
theorem dX8_goes_1 : decode cX8_goes 1 = .ok (.aload_n 1, 1) := by decide +kernel
theorem dX8_goes_2 : decode cX8_goes 2 = .ok (.getfield 169, 3) := by decide +kernel
theorem dX8_goes_5 : decode cX8_goes 5 = .ok (.invokevirtual 174, 3) := by decide +kernel
theorem dX8_goes_8 : decode cX8_goes 8 = .ok (.aload_n 0, 1) := by decide +kernel
theorem dX8_goes_9 : decode cX8_goes 9 = .ok (.iload_n 2, 1) := by decide +kernel
theorem dX8_goes_10 : decode cX8_goes 10 = .ok (.invokevirtual 178, 3) := by decide +kernel
theorem dX8_goes_13 : decode cX8_goes 13 = .ok (.istore_n 3, 1) := by decide +kernel
theorem dX8_goes_14 : decode cX8_goes 14 = .ok (.iconst 3, 1) := by decide +kernel
theorem dX8_goes_15 : decode cX8_goes 15 = .ok (.newarray .long, 2) := by decide +kernel
theorem dX8_goes_17 : decode cX8_goes 17 = .ok (.astore 4, 2) := by decide +kernel
theorem dX8_goes_19 : decode cX8_goes 19 = .ok (.aload_n 0, 1) := by decide +kernel
theorem dX8_goes_20 : decode cX8_goes 20 = .ok (.aload 4, 2) := by decide +kernel
theorem dX8_goes_22 : decode cX8_goes 22 = .ok (.invokevirtual 182, 3) := by decide +kernel
theorem dX8_goes_25 : decode cX8_goes 25 = .ok (.istore 5, 2) := by decide +kernel
theorem dX8_goes_27 : decode cX8_goes 27 = .ok (.aload_n 0, 1) := by decide +kernel
theorem dX8_goes_28 : decode cX8_goes 28 = .ok (.getfield 18, 3) := by decide +kernel
theorem dX8_goes_31 : decode cX8_goes 31 = .ok (.invokevirtual 39, 3) := by decide +kernel
theorem dX8_goes_34 : decode cX8_goes 34 = .ok (.astore 6, 2) := by decide +kernel
theorem dX8_goes_36 : decode cX8_goes 36 = .ok (.aload 6, 2) := by decide +kernel
theorem dX8_goes_38 : decode cX8_goes 38 = .ok (.invokeinterface 43 1, 5) := by decide +kernel
theorem dX8_goes_43 : decode cX8_goes 43 = .ok (.ifCond .eq 24, 3) := by decide +kernel
theorem dX8_goes_46 : decode cX8_goes 46 = .ok (.aload 6, 2) := by decide +kernel
theorem dX8_goes_48 : decode cX8_goes 48 = .ok (.invokeinterface 49 1, 5) := by decide +kernel
theorem dX8_goes_53 : decode cX8_goes 53 = .ok (.checkcast 63, 3) := by decide +kernel
theorem dX8_goes_56 : decode cX8_goes 56 = .ok (.astore 7, 2) := by decide +kernel
theorem dX8_goes_58 : decode cX8_goes 58 = .ok (.aload_n 0, 1) := by decide +kernel
theorem dX8_goes_59 : decode cX8_goes 59 = .ok (.aload 7, 2) := by decide +kernel
theorem dX8_goes_61 : decode cX8_goes 61 = .ok (.invokevirtual 186, 3) := by decide +kernel
theorem dX8_goes_64 : decode cX8_goes 64 = .ok (.goto (-28), 3) := by decide +kernel
theorem dX8_goes_67 : decode cX8_goes 67 = .ok (.aload_n 0, 1) := by decide +kernel
theorem dX8_goes_68 : decode cX8_goes 68 = .ok (.aload_n 1, 1) := by decide +kernel
theorem dX8_goes_69 : decode cX8_goes 69 = .ok (.getfield 190, 3) := by decide +kernel
theorem dX8_goes_72 : decode cX8_goes 72 = .ok (.invokevirtual 191, 3) := by decide +kernel
theorem dX8_goes_75 : decode cX8_goes 75 = .ok (.aload_n 0, 1) := by decide +kernel
theorem dX8_goes_76 : decode cX8_goes 76 = .ok (.aload_n 1, 1) := by decide +kernel
theorem dX8_goes_77 : decode cX8_goes 77 = .ok (.getfield 169, 3) := by decide +kernel
theorem dX8_goes_80 : decode cX8_goes 80 = .ok (.invokevirtual 194, 3) := by decide +kernel
theorem dX8_goes_83 : decode cX8_goes 83 = .ok (.aload 4, 2) := by decide +kernel
theorem dX8_goes_85 : decode cX8_goes 85 = .ok (.iconst 0, 1) := by decide +kernel
theorem dX8_goes_86 : decode cX8_goes 86 = .ok (.laload, 1) := by decide +kernel
theorem dX8_goes_87 : decode cX8_goes 87 = .ok (.lconst 0, 1) := by decide +kernel
theorem dX8_goes_88 : decode cX8_goes 88 = .ok (.lcmp, 1) := by decide +kernel
theorem dX8_goes_89 : decode cX8_goes 89 = .ok (.ifCond .le 38, 3) := by decide +kernel
theorem dX8_goes_92 : decode cX8_goes 92 = .ok (.aload 4, 2) := by decide +kernel
theorem dX8_goes_94 : decode cX8_goes 94 = .ok (.iconst 0, 1) := by decide +kernel
theorem dX8_goes_95 : decode cX8_goes 95 = .ok (.laload, 1) := by decide +kernel
theorem dX8_goes_96 : decode cX8_goes 96 = .ok (.ldc2_w 162, 3) := by decide +kernel
theorem dX8_goes_99 : decode cX8_goes 99 = .ok (.lmul, 1) := by decide +kernel
theorem dX8_goes_100 : decode cX8_goes 100 = .ok (.iload 5, 2) := by decide +kernel
theorem dX8_goes_102 : decode cX8_goes 102 = .ok (.i2l, 1) := by decide +kernel
theorem dX8_goes_103 : decode cX8_goes 103 = .ok (.ldiv, 1) := by decide +kernel
theorem dX8_goes_104 : decode cX8_goes 104 = .ok (.aload_n 1, 1) := by decide +kernel
theorem dX8_goes_105 : decode cX8_goes 105 = .ok (.getfield 197, 3) := by decide +kernel
theorem dX8_goes_108 : decode cX8_goes 108 = .ok (.i2l, 1) := by decide +kernel
theorem dX8_goes_109 : decode cX8_goes 109 = .ok (.lcmp, 1) := by decide +kernel
theorem dX8_goes_110 : decode cX8_goes 110 = .ok (.ifCond .le 17, 3) := by decide +kernel
theorem dX8_goes_113 : decode cX8_goes 113 = .ok (.aload_n 0, 1) := by decide +kernel
theorem dX8_goes_114 : decode cX8_goes 114 = .ok (.dup, 1) := by decide +kernel
theorem dX8_goes_115 : decode cX8_goes 115 = .ok (.getfield 200, 3) := by decide +kernel
theorem dX8_goes_118 : decode cX8_goes 118 = .ok (.aload_n 1, 1) := by decide +kernel
theorem dX8_goes_119 : decode cX8_goes 119 = .ok (.getfield 203, 3) := by decide +kernel
theorem dX8_goes_122 : decode cX8_goes 122 = .ok (.i2l, 1) := by decide +kernel
theorem dX8_goes_123 : decode cX8_goes 123 = .ok (.ladd, 1) := by decide +kernel
theorem dX8_goes_124 : decode cX8_goes 124 = .ok (.putfield 200, 3) := by decide +kernel
theorem dX8_goes_127 : decode cX8_goes 127 = .ok (.aload_n 0, 1) := by decide +kernel
theorem dX8_goes_128 : decode cX8_goes 128 = .ok (.dup, 1) := by decide +kernel
theorem dX8_goes_129 : decode cX8_goes 129 = .ok (.getfield 206, 3) := by decide +kernel
theorem dX8_goes_132 : decode cX8_goes 132 = .ok (.iconst 1, 1) := by decide +kernel
theorem dX8_goes_133 : decode cX8_goes 133 = .ok (.iadd, 1) := by decide +kernel
theorem dX8_goes_134 : decode cX8_goes 134 = .ok (.putfield 206, 3) := by decide +kernel
theorem dX8_goes_137 : decode cX8_goes 137 = .ok (.iload_n 3, 1) := by decide +kernel
theorem dX8_goes_138 : decode cX8_goes 138 = .ok (.ireturn, 1) := by decide +kernel
theorem dX8_waters_0 : decode cX8_waters 0 = .ok (.aload_n 0, 1) := by decide +kernel
theorem dX8_waters_1 : decode cX8_waters 1 = .ok (.getfield 12, 3) := by decide +kernel
theorem dX8_waters_4 : decode cX8_waters 4 = .ok (.invokevirtual 129, 3) := by decide +kernel
theorem dX8_waters_7 : decode cX8_waters 7 = .ok (.ifCond .ne 31, 3) := by decide +kernel
theorem dX8_waters_10 : decode cX8_waters 10 = .ok (.aload_n 0, 1) := by decide +kernel
theorem dX8_waters_11 : decode cX8_waters 11 = .ok (.getfield 12, 3) := by decide +kernel
theorem dX8_waters_14 : decode cX8_waters 14 = .ok (.iconst 0, 1) := by decide +kernel
theorem dX8_waters_15 : decode cX8_waters 15 = .ok (.invokevirtual 89, 3) := by decide +kernel
theorem dX8_waters_18 : decode cX8_waters 18 = .ok (.checkcast 53, 3) := by decide +kernel
theorem dX8_waters_21 : decode cX8_waters 21 = .ok (.getfield 114, 3) := by decide +kernel
theorem dX8_waters_24 : decode cX8_waters 24 = .ok (.aload_n 0, 1) := by decide +kernel
theorem dX8_waters_25 : decode cX8_waters 25 = .ok (.getfield 209, 3) := by decide +kernel
theorem dX8_waters_28 : decode cX8_waters 28 = .ok (.if_icmp .ge 10, 3) := by decide +kernel
theorem dX8_waters_31 : decode cX8_waters 31 = .ok (.aload_n 0, 1) := by decide +kernel
theorem dX8_waters_32 : decode cX8_waters 32 = .ok (.getfield 212, 3) := by decide +kernel
theorem dX8_waters_35 : decode cX8_waters 35 = .ok (.goto 4, 3) := by decide +kernel
theorem dX8_waters_38 : decode cX8_waters 38 = .ok (.iconst 0, 1) := by decide +kernel
theorem dX8_waters_39 : decode cX8_waters 39 = .ok (.ireturn, 1) := by decide +kernel
theorem dX9_init_0 : decode cX9_init 0 = .ok (.aload_n 0, 1) := by decide +kernel
theorem dX9_init_1 : decode cX9_init 1 = .ok (.invokespecial 3, 3) := by decide +kernel
theorem dX9_init_4 : decode cX9_init 4 = .ok (.aload_n 0, 1) := by decide +kernel
theorem dX9_init_5 : decode cX9_init 5 = .ok (.iconst 3, 1) := by decide +kernel
theorem dX9_init_6 : decode cX9_init 6 = .ok (.newarray .long, 2) := by decide +kernel
theorem dX9_init_8 : decode cX9_init 8 = .ok (.putfield 9, 3) := by decide +kernel
theorem dX9_init_11 : decode cX9_init 11 = .ok (.aload_n 0, 1) := by decide +kernel
theorem dX9_init_12 : decode cX9_init 12 = .ok (.iload_n 1, 1) := by decide +kernel
theorem dX9_init_13 : decode cX9_init 13 = .ok (.putfield 15, 3) := by decide +kernel
theorem dX9_init_16 : decode cX9_init 16 = .ok (.aload_n 0, 1) := by decide +kernel
theorem dX9_init_17 : decode cX9_init 17 = .ok (.iload_n 2, 1) := by decide +kernel
theorem dX9_init_18 : decode cX9_init 18 = .ok (.putfield 19, 3) := by decide +kernel
theorem dX9_init_21 : decode cX9_init 21 = .ok (.aload_n 0, 1) := by decide +kernel
theorem dX9_init_22 : decode cX9_init 22 = .ok (.iload_n 2, 1) := by decide +kernel
theorem dX9_init_23 : decode cX9_init 23 = .ok (.iload_n 1, 1) := by decide +kernel
theorem dX9_init_24 : decode cX9_init 24 = .ok (.bipush 115, 2) := by decide +kernel
theorem dX9_init_26 : decode cX9_init 26 = .ok (.if_icmp .ne 8, 3) := by decide +kernel
theorem dX9_init_29 : decode cX9_init 29 = .ok (.bipush 35, 2) := by decide +kernel
theorem dX9_init_31 : decode cX9_init 31 = .ok (.goto 16, 3) := by decide +kernel
theorem dX9_init_34 : decode cX9_init 34 = .ok (.iload_n 1, 1) := by decide +kernel
theorem dX9_init_35 : decode cX9_init 35 = .ok (.bipush 108, 2) := by decide +kernel
theorem dX9_init_37 : decode cX9_init 37 = .ok (.if_icmp .ne 8, 3) := by decide +kernel
theorem dX9_init_40 : decode cX9_init 40 = .ok (.bipush 45, 2) := by decide +kernel
theorem dX9_init_42 : decode cX9_init 42 = .ok (.goto 5, 3) := by decide +kernel
theorem dX9_init_45 : decode cX9_init 45 = .ok (.bipush 50, 2) := by decide +kernel
theorem dX9_init_47 : decode cX9_init 47 = .ok (.imul, 1) := by decide +kernel
theorem dX9_init_48 : decode cX9_init 48 = .ok (.bipush 10, 2) := by decide +kernel
theorem dX9_init_50 : decode cX9_init 50 = .ok (.idiv, 1) := by decide +kernel
theorem dX9_init_51 : decode cX9_init 51 = .ok (.putfield 23, 3) := by decide +kernel
theorem dX9_init_54 : decode cX9_init 54 = .ok (.aload_n 0, 1) := by decide +kernel
theorem dX9_init_55 : decode cX9_init 55 = .ok (.iload_n 2, 1) := by decide +kernel
theorem dX9_init_56 : decode cX9_init 56 = .ok (.iload_n 1, 1) := by decide +kernel
theorem dX9_init_57 : decode cX9_init 57 = .ok (.bipush 115, 2) := by decide +kernel
theorem dX9_init_59 : decode cX9_init 59 = .ok (.if_icmp .ne 8, 3) := by decide +kernel
theorem dX9_init_62 : decode cX9_init 62 = .ok (.bipush 10, 2) := by decide +kernel
theorem dX9_init_64 : decode cX9_init 64 = .ok (.goto 16, 3) := by decide +kernel
theorem dX9_init_67 : decode cX9_init 67 = .ok (.iload_n 1, 1) := by decide +kernel
theorem dX9_init_68 : decode cX9_init 68 = .ok (.bipush 108, 2) := by decide +kernel
theorem dX9_init_70 : decode cX9_init 70 = .ok (.if_icmp .ne 8, 3) := by decide +kernel
theorem dX9_init_73 : decode cX9_init 73 = .ok (.bipush 25, 2) := by decide +kernel
theorem dX9_init_75 : decode cX9_init 75 = .ok (.goto 5, 3) := by decide +kernel
theorem dX9_init_78 : decode cX9_init 78 = .ok (.bipush 38, 2) := by decide +kernel
theorem dX9_init_80 : decode cX9_init 80 = .ok (.imul, 1) := by decide +kernel
theorem dX9_init_81 : decode cX9_init 81 = .ok (.bipush 10, 2) := by decide +kernel
theorem dX9_init_83 : decode cX9_init 83 = .ok (.idiv, 1) := by decide +kernel
theorem dX9_init_84 : decode cX9_init 84 = .ok (.putfield 26, 3) := by decide +kernel
theorem dX9_init_87 : decode cX9_init 87 = .ok (.aload_n 0, 1) := by decide +kernel
theorem dX9_init_88 : decode cX9_init 88 = .ok (.iload_n 2, 1) := by decide +kernel
theorem dX9_init_89 : decode cX9_init 89 = .ok (.iload_n 1, 1) := by decide +kernel
theorem dX9_init_90 : decode cX9_init 90 = .ok (.bipush 115, 2) := by decide +kernel
theorem dX9_init_92 : decode cX9_init 92 = .ok (.if_icmp .ne 7, 3) := by decide +kernel
theorem dX9_init_95 : decode cX9_init 95 = .ok (.iconst 4, 1) := by decide +kernel
theorem dX9_init_96 : decode cX9_init 96 = .ok (.goto 16, 3) := by decide +kernel
theorem dX9_init_99 : decode cX9_init 99 = .ok (.iload_n 1, 1) := by decide +kernel
theorem dX9_init_100 : decode cX9_init 100 = .ok (.bipush 108, 2) := by decide +kernel
theorem dX9_init_102 : decode cX9_init 102 = .ok (.if_icmp .ne 8, 3) := by decide +kernel
theorem dX9_init_105 : decode cX9_init 105 = .ok (.bipush 10, 2) := by decide +kernel
theorem dX9_init_107 : decode cX9_init 107 = .ok (.goto 5, 3) := by decide +kernel
theorem dX9_init_110 : decode cX9_init 110 = .ok (.bipush 22, 2) := by decide +kernel
theorem dX9_init_112 : decode cX9_init 112 = .ok (.imul, 1) := by decide +kernel
theorem dX9_init_113 : decode cX9_init 113 = .ok (.bipush 10, 2) := by decide +kernel
theorem dX9_init_115 : decode cX9_init 115 = .ok (.idiv, 1) := by decide +kernel
theorem dX9_init_116 : decode cX9_init 116 = .ok (.putfield 29, 3) := by decide +kernel
theorem dX9_init_119 : decode cX9_init 119 = .ok (.aload_n 0, 1) := by decide +kernel
theorem dX9_init_120 : decode cX9_init 120 = .ok (.aload_n 0, 1) := by decide +kernel
theorem dX9_init_121 : decode cX9_init 121 = .ok (.getfield 26, 3) := by decide +kernel
theorem dX9_init_124 : decode cX9_init 124 = .ok (.putfield 32, 3) := by decide +kernel
theorem dX9_init_127 : decode cX9_init 127 = .ok (.return_, 1) := by decide +kernel
theorem dX9_copy_0 : decode cX9_copy 0 = .ok (.new 10, 3) := by decide +kernel
theorem dX9_copy_3 : decode cX9_copy 3 = .ok (.dup, 1) := by decide +kernel
theorem dX9_copy_4 : decode cX9_copy 4 = .ok (.aload_n 0, 1) := by decide +kernel
theorem dX9_copy_5 : decode cX9_copy 5 = .ok (.getfield 15, 3) := by decide +kernel
theorem dX9_copy_8 : decode cX9_copy 8 = .ok (.aload_n 0, 1) := by decide +kernel
theorem dX9_copy_9 : decode cX9_copy 9 = .ok (.getfield 19, 3) := by decide +kernel
theorem dX9_copy_12 : decode cX9_copy 12 = .ok (.invokespecial 35, 3) := by decide +kernel
theorem dX9_copy_15 : decode cX9_copy 15 = .ok (.astore_n 1, 1) := by decide +kernel
theorem dX9_copy_16 : decode cX9_copy 16 = .ok (.aload_n 1, 1) := by decide +kernel
theorem dX9_copy_17 : decode cX9_copy 17 = .ok (.aload_n 0, 1) := by decide +kernel
theorem dX9_copy_18 : decode cX9_copy 18 = .ok (.getfield 32, 3) := by decide +kernel
theorem dX9_copy_21 : decode cX9_copy 21 = .ok (.putfield 32, 3) := by decide +kernel
theorem dX9_copy_24 : decode cX9_copy 24 = .ok (.aload_n 1, 1) := by decide +kernel
theorem dX9_copy_25 : decode cX9_copy 25 = .ok (.aload_n 0, 1) := by decide +kernel
theorem dX9_copy_26 : decode cX9_copy 26 = .ok (.getfield 38, 3) := by decide +kernel
theorem dX9_copy_29 : decode cX9_copy 29 = .ok (.putfield 38, 3) := by decide +kernel
theorem dX9_copy_32 : decode cX9_copy 32 = .ok (.aload_n 1, 1) := by decide +kernel
theorem dX9_copy_33 : decode cX9_copy 33 = .ok (.aload_n 0, 1) := by decide +kernel
theorem dX9_copy_34 : decode cX9_copy 34 = .ok (.getfield 41, 3) := by decide +kernel
theorem dX9_copy_37 : decode cX9_copy 37 = .ok (.putfield 41, 3) := by decide +kernel
theorem dX9_copy_40 : decode cX9_copy 40 = .ok (.iconst 0, 1) := by decide +kernel
theorem dX9_copy_41 : decode cX9_copy 41 = .ok (.istore_n 2, 1) := by decide +kernel
theorem dX9_copy_42 : decode cX9_copy 42 = .ok (.iload_n 2, 1) := by decide +kernel
theorem dX9_copy_43 : decode cX9_copy 43 = .ok (.iconst 3, 1) := by decide +kernel
theorem dX9_copy_44 : decode cX9_copy 44 = .ok (.if_icmp .ge 21, 3) := by decide +kernel
theorem dX9_copy_47 : decode cX9_copy 47 = .ok (.aload_n 1, 1) := by decide +kernel
theorem dX9_copy_48 : decode cX9_copy 48 = .ok (.getfield 9, 3) := by decide +kernel
theorem dX9_copy_51 : decode cX9_copy 51 = .ok (.iload_n 2, 1) := by decide +kernel
theorem dX9_copy_52 : decode cX9_copy 52 = .ok (.aload_n 0, 1) := by decide +kernel
theorem dX9_copy_53 : decode cX9_copy 53 = .ok (.getfield 9, 3) := by decide +kernel
theorem dX9_copy_56 : decode cX9_copy 56 = .ok (.iload_n 2, 1) := by decide +kernel
theorem dX9_copy_57 : decode cX9_copy 57 = .ok (.laload, 1) := by decide +kernel
theorem dX9_copy_58 : decode cX9_copy 58 = .ok (.lastore, 1) := by decide +kernel
theorem dX9_copy_59 : decode cX9_copy 59 = .ok (.iinc 2 1, 3) := by decide +kernel
theorem dX9_copy_62 : decode cX9_copy 62 = .ok (.goto (-20), 3) := by decide +kernel
theorem dX9_copy_65 : decode cX9_copy 65 = .ok (.aload_n 1, 1) := by decide +kernel
theorem dX9_copy_66 : decode cX9_copy 66 = .ok (.areturn, 1) := by decide +kernel
theorem dX9_takes_0 : decode cX9_takes 0 = .ok (.aload_n 0, 1) := by decide +kernel
theorem dX9_takes_1 : decode cX9_takes 1 = .ok (.getfield 15, 3) := by decide +kernel
theorem dX9_takes_4 : decode cX9_takes 4 = .ok (.bipush 115, 2) := by decide +kernel
theorem dX9_takes_6 : decode cX9_takes 6 = .ok (.if_icmp .ne 9, 3) := by decide +kernel
theorem dX9_takes_9 : decode cX9_takes 9 = .ok (.sipush 200, 3) := by decide +kernel
theorem dX9_takes_12 : decode cX9_takes 12 = .ok (.goto 18, 3) := by decide +kernel
theorem dX9_takes_15 : decode cX9_takes 15 = .ok (.aload_n 0, 1) := by decide +kernel
theorem dX9_takes_16 : decode cX9_takes 16 = .ok (.getfield 15, 3) := by decide +kernel
theorem dX9_takes_19 : decode cX9_takes 19 = .ok (.bipush 108, 2) := by decide +kernel
theorem dX9_takes_21 : decode cX9_takes 21 = .ok (.if_icmp .ne 8, 3) := by decide +kernel
theorem dX9_takes_24 : decode cX9_takes 24 = .ok (.bipush 50, 2) := by decide +kernel
theorem dX9_takes_26 : decode cX9_takes 26 = .ok (.goto 4, 3) := by decide +kernel
theorem dX9_takes_29 : decode cX9_takes 29 = .ok (.iconst 5, 1) := by decide +kernel
theorem dX9_takes_30 : decode cX9_takes 30 = .ok (.ireturn, 1) := by decide +kernel
theorem dX9_drains_0 : decode cX9_drains 0 = .ok (.aload_n 0, 1) := by decide +kernel
theorem dX9_drains_1 : decode cX9_drains 1 = .ok (.getfield 15, 3) := by decide +kernel
theorem dX9_drains_4 : decode cX9_drains 4 = .ok (.bipush 115, 2) := by decide +kernel
theorem dX9_drains_6 : decode cX9_drains 6 = .ok (.if_icmp .ne 8, 3) := by decide +kernel
theorem dX9_drains_9 : decode cX9_drains 9 = .ok (.bipush 50, 2) := by decide +kernel
theorem dX9_drains_11 : decode cX9_drains 11 = .ok (.goto 19, 3) := by decide +kernel
theorem dX9_drains_14 : decode cX9_drains 14 = .ok (.aload_n 0, 1) := by decide +kernel
theorem dX9_drains_15 : decode cX9_drains 15 = .ok (.getfield 15, 3) := by decide +kernel
theorem dX9_drains_18 : decode cX9_drains 18 = .ok (.bipush 108, 2) := by decide +kernel
theorem dX9_drains_20 : decode cX9_drains 20 = .ok (.if_icmp .ne 8, 3) := by decide +kernel
theorem dX9_drains_23 : decode cX9_drains 23 = .ok (.bipush 25, 2) := by decide +kernel
theorem dX9_drains_25 : decode cX9_drains 25 = .ok (.goto 5, 3) := by decide +kernel
theorem dX9_drains_28 : decode cX9_drains 28 = .ok (.bipush 10, 2) := by decide +kernel
theorem dX9_drains_30 : decode cX9_drains 30 = .ok (.ireturn, 1) := by decide +kernel
theorem dX9_room_0 : decode cX9_room 0 = .ok (.aload_n 0, 1) := by decide +kernel
theorem dX9_room_1 : decode cX9_room 1 = .ok (.getfield 41, 3) := by decide +kernel
theorem dX9_room_4 : decode cX9_room 4 = .ok (.ifCond .eq 7, 3) := by decide +kernel
theorem dX9_room_7 : decode cX9_room 7 = .ok (.iconst 0, 1) := by decide +kernel
theorem dX9_room_8 : decode cX9_room 8 = .ok (.goto 12, 3) := by decide +kernel
theorem dX9_room_11 : decode cX9_room 11 = .ok (.aload_n 0, 1) := by decide +kernel
theorem dX9_room_12 : decode cX9_room 12 = .ok (.getfield 23, 3) := by decide +kernel
theorem dX9_room_15 : decode cX9_room 15 = .ok (.aload_n 0, 1) := by decide +kernel
theorem dX9_room_16 : decode cX9_room 16 = .ok (.getfield 32, 3) := by decide +kernel
theorem dX9_room_19 : decode cX9_room 19 = .ok (.isub, 1) := by decide +kernel
theorem dX9_room_20 : decode cX9_room 20 = .ok (.ireturn, 1) := by decide +kernel
theorem dX9_above_0 : decode cX9_above 0 = .ok (.aload_n 0, 1) := by decide +kernel
theorem dX9_above_1 : decode cX9_above 1 = .ok (.getfield 41, 3) := by decide +kernel
theorem dX9_above_4 : decode cX9_above 4 = .ok (.ifCond .ne 14, 3) := by decide +kernel
theorem dX9_above_7 : decode cX9_above 7 = .ok (.aload_n 0, 1) := by decide +kernel
theorem dX9_above_8 : decode cX9_above 8 = .ok (.getfield 32, 3) := by decide +kernel
theorem dX9_above_11 : decode cX9_above 11 = .ok (.aload_n 0, 1) := by decide +kernel
theorem dX9_above_12 : decode cX9_above 12 = .ok (.getfield 29, 3) := by decide +kernel
theorem dX9_above_15 : decode cX9_above 15 = .ok (.if_icmp .gt 7, 3) := by decide +kernel
theorem dX9_above_18 : decode cX9_above 18 = .ok (.iconst 0, 1) := by decide +kernel
theorem dX9_above_19 : decode cX9_above 19 = .ok (.goto 12, 3) := by decide +kernel
theorem dX9_above_22 : decode cX9_above 22 = .ok (.aload_n 0, 1) := by decide +kernel
theorem dX9_above_23 : decode cX9_above 23 = .ok (.getfield 32, 3) := by decide +kernel
theorem dX9_above_26 : decode cX9_above 26 = .ok (.aload_n 0, 1) := by decide +kernel
theorem dX9_above_27 : decode cX9_above 27 = .ok (.getfield 29, 3) := by decide +kernel
theorem dX9_above_30 : decode cX9_above 30 = .ok (.isub, 1) := by decide +kernel
theorem dX9_above_31 : decode cX9_above 31 = .ok (.ireturn, 1) := by decide +kernel
theorem dX10_init_0 : decode cX10_init 0 = .ok (.aload_n 0, 1) := by decide +kernel
theorem dX10_init_1 : decode cX10_init 1 = .ok (.invokespecial 1, 3) := by decide +kernel
theorem dX10_init_4 : decode cX10_init 4 = .ok (.aload_n 0, 1) := by decide +kernel
theorem dX10_init_5 : decode cX10_init 5 = .ok (.iload_n 1, 1) := by decide +kernel
theorem dX10_init_6 : decode cX10_init 6 = .ok (.putfield 7, 3) := by decide +kernel
theorem dX10_init_9 : decode cX10_init 9 = .ok (.aload_n 0, 1) := by decide +kernel
theorem dX10_init_10 : decode cX10_init 10 = .ok (.iload_n 2, 1) := by decide +kernel
theorem dX10_init_11 : decode cX10_init 11 = .ok (.putfield 13, 3) := by decide +kernel
theorem dX10_init_14 : decode cX10_init 14 = .ok (.return_, 1) := by decide +kernel
theorem dX11_init_0 : decode cX11_init 0 = .ok (.aload_n 0, 1) := by decide +kernel
theorem dX11_init_1 : decode cX11_init 1 = .ok (.invokespecial 1, 3) := by decide +kernel
theorem dX11_init_4 : decode cX11_init 4 = .ok (.aload_n 0, 1) := by decide +kernel
theorem dX11_init_5 : decode cX11_init 5 = .ok (.bipush 10, 2) := by decide +kernel
theorem dX11_init_7 : decode cX11_init 7 = .ok (.putfield 7, 3) := by decide +kernel
theorem dX11_init_10 : decode cX11_init 10 = .ok (.aload_n 0, 1) := by decide +kernel
theorem dX11_init_11 : decode cX11_init 11 = .ok (.sipush 9999, 3) := by decide +kernel
theorem dX11_init_14 : decode cX11_init 14 = .ok (.putfield 13, 3) := by decide +kernel
theorem dX11_init_17 : decode cX11_init 17 = .ok (.return_, 1) := by decide +kernel
theorem dX12_in_0 : decode cX12_in 0 = .ok (.lload_n 0, 1) := by decide +kernel
theorem dX12_in_1 : decode cX12_in 1 = .ok (.lload_n 2, 1) := by decide +kernel
theorem dX12_in_2 : decode cX12_in 2 = .ok (.lcmp, 1) := by decide +kernel
theorem dX12_in_3 : decode cX12_in 3 = .ok (.ifCond .lt 14, 3) := by decide +kernel
theorem dX12_in_6 : decode cX12_in 6 = .ok (.lload_n 0, 1) := by decide +kernel
theorem dX12_in_7 : decode cX12_in 7 = .ok (.lload 4, 2) := by decide +kernel
theorem dX12_in_9 : decode cX12_in 9 = .ok (.lcmp, 1) := by decide +kernel
theorem dX12_in_10 : decode cX12_in 10 = .ok (.ifCond .gt 7, 3) := by decide +kernel
theorem dX12_in_13 : decode cX12_in 13 = .ok (.iconst 1, 1) := by decide +kernel
theorem dX12_in_14 : decode cX12_in 14 = .ok (.goto 4, 3) := by decide +kernel
theorem dX12_in_17 : decode cX12_in 17 = .ok (.iconst 0, 1) := by decide +kernel
theorem dX12_in_18 : decode cX12_in 18 = .ok (.ireturn, 1) := by decide +kernel
theorem dX12_kindOf_0 : decode cX12_kindOf 0 = .ok (.ldc 1, 2) := by decide +kernel
theorem dX12_kindOf_2 : decode cX12_kindOf 2 = .ok (.iload_n 0, 1) := by decide +kernel
theorem dX12_kindOf_3 : decode cX12_kindOf 3 = .ok (.invokevirtual 3, 3) := by decide +kernel
theorem dX12_kindOf_6 : decode cX12_kindOf 6 = .ok (.ireturn, 1) := by decide +kernel
theorem dX12_init_0 : decode cX12_init 0 = .ok (.aload_n 0, 1) := by decide +kernel
theorem dX12_init_1 : decode cX12_init 1 = .ok (.invokespecial 9, 3) := by decide +kernel
theorem dX12_init_4 : decode cX12_init 4 = .ok (.aload_n 0, 1) := by decide +kernel
theorem dX12_init_5 : decode cX12_init 5 = .ok (.new 15, 3) := by decide +kernel
theorem dX12_init_8 : decode cX12_init 8 = .ok (.dup, 1) := by decide +kernel
theorem dX12_init_9 : decode cX12_init 9 = .ok (.invokespecial 17, 3) := by decide +kernel
theorem dX12_init_12 : decode cX12_init 12 = .ok (.putfield 18, 3) := by decide +kernel
theorem dX12_init_15 : decode cX12_init 15 = .ok (.aload_n 0, 1) := by decide +kernel
theorem dX12_init_16 : decode cX12_init 16 = .ok (.new 24, 3) := by decide +kernel
theorem dX12_init_19 : decode cX12_init 19 = .ok (.dup, 1) := by decide +kernel
theorem dX12_init_20 : decode cX12_init 20 = .ok (.invokespecial 26, 3) := by decide +kernel
theorem dX12_init_23 : decode cX12_init 23 = .ok (.putfield 27, 3) := by decide +kernel
theorem dX12_init_26 : decode cX12_init 26 = .ok (.aload_n 0, 1) := by decide +kernel
theorem dX12_init_27 : decode cX12_init 27 = .ok (.iconst 0, 1) := by decide +kernel
theorem dX12_init_28 : decode cX12_init 28 = .ok (.putfield 31, 3) := by decide +kernel
theorem dX12_init_31 : decode cX12_init 31 = .ok (.return_, 1) := by decide +kernel
theorem dX12_thrown_0 : decode cX12_thrown 0 = .ok (.aload_n 0, 1) := by decide +kernel
theorem dX12_thrown_1 : decode cX12_thrown 1 = .ok (.getfield 31, 3) := by decide +kernel
theorem dX12_thrown_4 : decode cX12_thrown 4 = .ok (.ireturn, 1) := by decide +kernel
theorem dX12_isColumn_0 : decode cX12_isColumn 0 = .ok (.iload_n 1, 1) := by decide +kernel
theorem dX12_isColumn_1 : decode cX12_isColumn 1 = .ok (.i2l, 1) := by decide +kernel
theorem dX12_isColumn_2 : decode cX12_isColumn 2 = .ok (.lconst 0, 1) := by decide +kernel
theorem dX12_isColumn_3 : decode cX12_isColumn 3 = .ok (.aload_n 0, 1) := by decide +kernel
theorem dX12_isColumn_4 : decode cX12_isColumn 4 = .ok (.getfield 18, 3) := by decide +kernel
theorem dX12_isColumn_7 : decode cX12_isColumn 7 = .ok (.invokevirtual 35, 3) := by decide +kernel
theorem dX12_isColumn_10 : decode cX12_isColumn 10 = .ok (.iconst 1, 1) := by decide +kernel
theorem dX12_isColumn_11 : decode cX12_isColumn 11 = .ok (.isub, 1) := by decide +kernel
theorem dX12_isColumn_12 : decode cX12_isColumn 12 = .ok (.i2l, 1) := by decide +kernel
theorem dX12_isColumn_13 : decode cX12_isColumn 13 = .ok (.invokestatic 39, 3) := by decide +kernel
theorem dX12_isColumn_16 : decode cX12_isColumn 16 = .ok (.ireturn, 1) := by decide +kernel
theorem dX12_noColumn_0 : decode cX12_noColumn 0 = .ok (.aload_n 0, 1) := by decide +kernel
theorem dX12_noColumn_1 : decode cX12_noColumn 1 = .ok (.aload_n 0, 1) := by decide +kernel
theorem dX12_noColumn_2 : decode cX12_noColumn 2 = .ok (.iload_n 1, 1) := by decide +kernel
theorem dX12_noColumn_3 : decode cX12_noColumn 3 = .ok (.invokevirtual 43, 3) := by decide +kernel
theorem dX12_noColumn_6 : decode cX12_noColumn 6 = .ok (.ifCond .eq 7, 3) := by decide +kernel
theorem dX12_noColumn_9 : decode cX12_noColumn 9 = .ok (.iconst 0, 1) := by decide +kernel
theorem dX12_noColumn_10 : decode cX12_noColumn 10 = .ok (.goto 4, 3) := by decide +kernel
theorem dX12_noColumn_13 : decode cX12_noColumn 13 = .ok (.iconst 1, 1) := by decide +kernel
theorem dX12_noColumn_14 : decode cX12_noColumn 14 = .ok (.putfield 31, 3) := by decide +kernel
theorem dX12_noColumn_17 : decode cX12_noColumn 17 = .ok (.aload_n 0, 1) := by decide +kernel
theorem dX12_noColumn_18 : decode cX12_noColumn 18 = .ok (.getfield 31, 3) := by decide +kernel
theorem dX12_noColumn_21 : decode cX12_noColumn 21 = .ok (.ifCond .le 7, 3) := by decide +kernel
theorem dX12_noColumn_24 : decode cX12_noColumn 24 = .ok (.iconst 1, 1) := by decide +kernel
theorem dX12_noColumn_25 : decode cX12_noColumn 25 = .ok (.goto 4, 3) := by decide +kernel
theorem dX12_noColumn_28 : decode cX12_noColumn 28 = .ok (.iconst 0, 1) := by decide +kernel
theorem dX12_noColumn_29 : decode cX12_noColumn 29 = .ok (.ireturn, 1) := by decide +kernel
theorem dX12_noLayer_0 : decode cX12_noLayer 0 = .ok (.aload_n 0, 1) := by decide +kernel
theorem dX12_noLayer_1 : decode cX12_noLayer 1 = .ok (.aload_n 0, 1) := by decide +kernel
theorem dX12_noLayer_2 : decode cX12_noLayer 2 = .ok (.iload_n 1, 1) := by decide +kernel
theorem dX12_noLayer_3 : decode cX12_noLayer 3 = .ok (.invokevirtual 43, 3) := by decide +kernel
theorem dX12_noLayer_6 : decode cX12_noLayer 6 = .ok (.ifCond .eq 36, 3) := by decide +kernel
theorem dX12_noLayer_9 : decode cX12_noLayer 9 = .ok (.iload_n 2, 1) := by decide +kernel
theorem dX12_noLayer_10 : decode cX12_noLayer 10 = .ok (.i2l, 1) := by decide +kernel
theorem dX12_noLayer_11 : decode cX12_noLayer 11 = .ok (.lconst 0, 1) := by decide +kernel
theorem dX12_noLayer_12 : decode cX12_noLayer 12 = .ok (.aload_n 0, 1) := by decide +kernel
theorem dX12_noLayer_13 : decode cX12_noLayer 13 = .ok (.getfield 18, 3) := by decide +kernel
theorem dX12_noLayer_16 : decode cX12_noLayer 16 = .ok (.iload_n 1, 1) := by decide +kernel
theorem dX12_noLayer_17 : decode cX12_noLayer 17 = .ok (.invokevirtual 47, 3) := by decide +kernel
theorem dX12_noLayer_20 : decode cX12_noLayer 20 = .ok (.checkcast 51, 3) := by decide +kernel
theorem dX12_noLayer_23 : decode cX12_noLayer 23 = .ok (.getfield 53, 3) := by decide +kernel
theorem dX12_noLayer_26 : decode cX12_noLayer 26 = .ok (.invokevirtual 35, 3) := by decide +kernel
theorem dX12_noLayer_29 : decode cX12_noLayer 29 = .ok (.iconst 1, 1) := by decide +kernel
theorem dX12_noLayer_30 : decode cX12_noLayer 30 = .ok (.isub, 1) := by decide +kernel
theorem dX12_noLayer_31 : decode cX12_noLayer 31 = .ok (.i2l, 1) := by decide +kernel
theorem dX12_noLayer_32 : decode cX12_noLayer 32 = .ok (.invokestatic 39, 3) := by decide +kernel
theorem dX12_noLayer_35 : decode cX12_noLayer 35 = .ok (.ifCond .eq 7, 3) := by decide +kernel
theorem dX12_noLayer_38 : decode cX12_noLayer 38 = .ok (.iconst 0, 1) := by decide +kernel
theorem dX12_noLayer_39 : decode cX12_noLayer 39 = .ok (.goto 4, 3) := by decide +kernel
theorem dX12_noLayer_42 : decode cX12_noLayer 42 = .ok (.iconst 1, 1) := by decide +kernel
theorem dX12_noLayer_43 : decode cX12_noLayer 43 = .ok (.putfield 31, 3) := by decide +kernel
theorem dX12_noLayer_46 : decode cX12_noLayer 46 = .ok (.aload_n 0, 1) := by decide +kernel
theorem dX12_noLayer_47 : decode cX12_noLayer 47 = .ok (.getfield 31, 3) := by decide +kernel
theorem dX12_noLayer_50 : decode cX12_noLayer 50 = .ok (.ifCond .le 7, 3) := by decide +kernel
theorem dX12_noLayer_53 : decode cX12_noLayer 53 = .ok (.iconst 1, 1) := by decide +kernel
theorem dX12_noLayer_54 : decode cX12_noLayer 54 = .ok (.goto 4, 3) := by decide +kernel
theorem dX12_noLayer_57 : decode cX12_noLayer 57 = .ok (.iconst 0, 1) := by decide +kernel
theorem dX12_noLayer_58 : decode cX12_noLayer 58 = .ok (.ireturn, 1) := by decide +kernel
theorem dX12_layerOf_0 : decode cX12_layerOf 0 = .ok (.aload_n 0, 1) := by decide +kernel
theorem dX12_layerOf_1 : decode cX12_layerOf 1 = .ok (.getfield 18, 3) := by decide +kernel
theorem dX12_layerOf_4 : decode cX12_layerOf 4 = .ok (.iload_n 1, 1) := by decide +kernel
theorem dX12_layerOf_5 : decode cX12_layerOf 5 = .ok (.invokevirtual 47, 3) := by decide +kernel
theorem dX12_layerOf_8 : decode cX12_layerOf 8 = .ok (.checkcast 51, 3) := by decide +kernel
theorem dX12_layerOf_11 : decode cX12_layerOf 11 = .ok (.getfield 53, 3) := by decide +kernel
theorem dX12_layerOf_14 : decode cX12_layerOf 14 = .ok (.iload_n 2, 1) := by decide +kernel
theorem dX12_layerOf_15 : decode cX12_layerOf 15 = .ok (.invokevirtual 47, 3) := by decide +kernel
theorem dX12_layerOf_18 : decode cX12_layerOf 18 = .ok (.checkcast 56, 3) := by decide +kernel
theorem dX12_layerOf_21 : decode cX12_layerOf 21 = .ok (.areturn, 1) := by decide +kernel
theorem dX12_column_0 : decode cX12_column 0 = .ok (.aload_n 0, 1) := by decide +kernel
theorem dX12_column_1 : decode cX12_column 1 = .ok (.ldc 58, 2) := by decide +kernel
theorem dX12_column_3 : decode cX12_column 3 = .ok (.iload_n 1, 1) := by decide +kernel
theorem dX12_column_4 : decode cX12_column 4 = .ok (.invokevirtual 3, 3) := by decide +kernel
theorem dX12_column_7 : decode cX12_column 7 = .ok (.ifCond .ge 7, 3) := by decide +kernel
theorem dX12_column_10 : decode cX12_column 10 = .ok (.iconst 1, 1) := by decide +kernel
theorem dX12_column_11 : decode cX12_column 11 = .ok (.goto 20, 3) := by decide +kernel
theorem dX12_column_14 : decode cX12_column 14 = .ok (.aload_n 0, 1) := by decide +kernel
theorem dX12_column_15 : decode cX12_column 15 = .ok (.getfield 18, 3) := by decide +kernel
theorem dX12_column_18 : decode cX12_column 18 = .ok (.invokevirtual 35, 3) := by decide +kernel
theorem dX12_column_21 : decode cX12_column 21 = .ok (.bipush 6, 2) := by decide +kernel
theorem dX12_column_23 : decode cX12_column 23 = .ok (.if_icmp .ne 7, 3) := by decide +kernel
theorem dX12_column_26 : decode cX12_column 26 = .ok (.iconst 2, 1) := by decide +kernel
theorem dX12_column_27 : decode cX12_column 27 = .ok (.goto 4, 3) := by decide +kernel
theorem dX12_column_30 : decode cX12_column 30 = .ok (.iconst 0, 1) := by decide +kernel
theorem dX12_column_31 : decode cX12_column 31 = .ok (.putfield 31, 3) := by decide +kernel
theorem dX12_column_34 : decode cX12_column 34 = .ok (.aload_n 0, 1) := by decide +kernel
theorem dX12_column_35 : decode cX12_column 35 = .ok (.getfield 31, 3) := by decide +kernel
theorem dX12_column_38 : decode cX12_column 38 = .ok (.ifCond .le 5, 3) := by decide +kernel
theorem dX12_column_41 : decode cX12_column 41 = .ok (.iconst 0, 1) := by decide +kernel
theorem dX12_column_42 : decode cX12_column 42 = .ok (.ireturn, 1) := by decide +kernel
theorem dX12_column_43 : decode cX12_column 43 = .ok (.aload_n 0, 1) := by decide +kernel
theorem dX12_column_44 : decode cX12_column 44 = .ok (.getfield 18, 3) := by decide +kernel
theorem dX12_column_47 : decode cX12_column 47 = .ok (.new 51, 3) := by decide +kernel
theorem dX12_column_50 : decode cX12_column 50 = .ok (.dup, 1) := by decide +kernel
theorem dX12_column_51 : decode cX12_column 51 = .ok (.iload_n 1, 1) := by decide +kernel
theorem dX12_column_52 : decode cX12_column 52 = .ok (.invokespecial 60, 3) := by decide +kernel
theorem dX12_column_55 : decode cX12_column 55 = .ok (.invokevirtual 63, 3) := by decide +kernel
theorem dX12_column_58 : decode cX12_column 58 = .ok (.pop, 1) := by decide +kernel
theorem dX12_column_59 : decode cX12_column 59 = .ok (.aload_n 0, 1) := by decide +kernel
theorem dX12_column_60 : decode cX12_column 60 = .ok (.getfield 18, 3) := by decide +kernel
theorem dX12_column_63 : decode cX12_column 63 = .ok (.invokevirtual 35, 3) := by decide +kernel
theorem dX12_column_66 : decode cX12_column 66 = .ok (.iconst 1, 1) := by decide +kernel
theorem dX12_column_67 : decode cX12_column 67 = .ok (.isub, 1) := by decide +kernel
theorem dX12_column_68 : decode cX12_column 68 = .ok (.ireturn, 1) := by decide +kernel
theorem dX12_layer_0 : decode cX12_layer 0 = .ok (.aload_n 0, 1) := by decide +kernel
theorem dX12_layer_1 : decode cX12_layer 1 = .ok (.iload_n 1, 1) := by decide +kernel
theorem dX12_layer_2 : decode cX12_layer 2 = .ok (.invokevirtual 67, 3) := by decide +kernel
theorem dX12_layer_5 : decode cX12_layer 5 = .ok (.ifCond .eq 5, 3) := by decide +kernel
theorem dX12_layer_8 : decode cX12_layer 8 = .ok (.iconst 0, 1) := by decide +kernel
theorem dX12_layer_9 : decode cX12_layer 9 = .ok (.ireturn, 1) := by decide +kernel
theorem dX12_layer_10 : decode cX12_layer 10 = .ok (.aload_n 0, 1) := by decide +kernel
theorem dX12_layer_11 : decode cX12_layer 11 = .ok (.getfield 18, 3) := by decide +kernel
theorem dX12_layer_14 : decode cX12_layer 14 = .ok (.iload_n 1, 1) := by decide +kernel
theorem dX12_layer_15 : decode cX12_layer 15 = .ok (.invokevirtual 47, 3) := by decide +kernel
theorem dX12_layer_18 : decode cX12_layer 18 = .ok (.checkcast 51, 3) := by decide +kernel
theorem dX12_layer_21 : decode cX12_layer 21 = .ok (.astore 4, 2) := by decide +kernel
theorem dX12_layer_23 : decode cX12_layer 23 = .ok (.ldc 70, 2) := by decide +kernel
theorem dX12_layer_25 : decode cX12_layer 25 = .ok (.iload_n 2, 1) := by decide +kernel
theorem dX12_layer_26 : decode cX12_layer 26 = .ok (.invokevirtual 3, 3) := by decide +kernel
theorem dX12_layer_29 : decode cX12_layer 29 = .ok (.ifCond .lt 21, 3) := by decide +kernel
theorem dX12_layer_32 : decode cX12_layer 32 = .ok (.iload_n 3, 1) := by decide +kernel
theorem dX12_layer_33 : decode cX12_layer 33 = .ok (.i2l, 1) := by decide +kernel
theorem dX12_layer_34 : decode cX12_layer 34 = .ok (.ldc2_w 72, 3) := by decide +kernel
theorem dX12_layer_37 : decode cX12_layer 37 = .ok (.ldc2_w 74, 3) := by decide +kernel
theorem dX12_layer_40 : decode cX12_layer 40 = .ok (.invokestatic 39, 3) := by decide +kernel
theorem dX12_layer_43 : decode cX12_layer 43 = .ok (.ifCond .eq 7, 3) := by decide +kernel
theorem dX12_layer_46 : decode cX12_layer 46 = .ok (.iconst 1, 1) := by decide +kernel
theorem dX12_layer_47 : decode cX12_layer 47 = .ok (.goto 4, 3) := by decide +kernel
theorem dX12_layer_50 : decode cX12_layer 50 = .ok (.iconst 0, 1) := by decide +kernel
theorem dX12_layer_51 : decode cX12_layer 51 = .ok (.istore 5, 2) := by decide +kernel
theorem dX12_layer_53 : decode cX12_layer 53 = .ok (.aload_n 0, 1) := by decide +kernel
theorem dX12_layer_54 : decode cX12_layer 54 = .ok (.iload 5, 2) := by decide +kernel
theorem dX12_layer_56 : decode cX12_layer 56 = .ok (.ifCond .ne 7, 3) := by decide +kernel
theorem dX12_layer_59 : decode cX12_layer 59 = .ok (.iconst 2, 1) := by decide +kernel
theorem dX12_layer_60 : decode cX12_layer 60 = .ok (.goto 21, 3) := by decide +kernel
theorem dX12_layer_63 : decode cX12_layer 63 = .ok (.aload 4, 2) := by decide +kernel
theorem dX12_layer_65 : decode cX12_layer 65 = .ok (.getfield 53, 3) := by decide +kernel
theorem dX12_layer_68 : decode cX12_layer 68 = .ok (.invokevirtual 35, 3) := by decide +kernel
theorem dX12_layer_71 : decode cX12_layer 71 = .ok (.bipush 8, 2) := by decide +kernel
theorem dX12_layer_73 : decode cX12_layer 73 = .ok (.if_icmp .ne 7, 3) := by decide +kernel
theorem dX12_layer_76 : decode cX12_layer 76 = .ok (.iconst 3, 1) := by decide +kernel
theorem dX12_layer_77 : decode cX12_layer 77 = .ok (.goto 4, 3) := by decide +kernel
theorem dX12_layer_80 : decode cX12_layer 80 = .ok (.iconst 0, 1) := by decide +kernel
theorem dX12_layer_81 : decode cX12_layer 81 = .ok (.putfield 31, 3) := by decide +kernel
theorem dX12_layer_84 : decode cX12_layer 84 = .ok (.aload_n 0, 1) := by decide +kernel
theorem dX12_layer_85 : decode cX12_layer 85 = .ok (.getfield 31, 3) := by decide +kernel
theorem dX12_layer_88 : decode cX12_layer 88 = .ok (.ifCond .le 5, 3) := by decide +kernel
theorem dX12_layer_91 : decode cX12_layer 91 = .ok (.iconst 0, 1) := by decide +kernel
theorem dX12_layer_92 : decode cX12_layer 92 = .ok (.ireturn, 1) := by decide +kernel
theorem dX12_layer_93 : decode cX12_layer 93 = .ok (.aload 4, 2) := by decide +kernel
theorem dX12_layer_95 : decode cX12_layer 95 = .ok (.getfield 53, 3) := by decide +kernel
theorem dX12_layer_98 : decode cX12_layer 98 = .ok (.new 56, 3) := by decide +kernel
theorem dX12_layer_101 : decode cX12_layer 101 = .ok (.dup, 1) := by decide +kernel
theorem dX12_layer_102 : decode cX12_layer 102 = .ok (.iload_n 2, 1) := by decide +kernel
theorem dX12_layer_103 : decode cX12_layer 103 = .ok (.iload_n 3, 1) := by decide +kernel
theorem dX12_layer_104 : decode cX12_layer 104 = .ok (.invokespecial 76, 3) := by decide +kernel
theorem dX12_layer_107 : decode cX12_layer 107 = .ok (.invokevirtual 63, 3) := by decide +kernel
theorem dX12_layer_110 : decode cX12_layer 110 = .ok (.pop, 1) := by decide +kernel
theorem dX12_layer_111 : decode cX12_layer 111 = .ok (.aload 4, 2) := by decide +kernel
theorem dX12_layer_113 : decode cX12_layer 113 = .ok (.getfield 53, 3) := by decide +kernel
theorem dX12_layer_116 : decode cX12_layer 116 = .ok (.invokevirtual 35, 3) := by decide +kernel
theorem dX12_layer_119 : decode cX12_layer 119 = .ok (.ireturn, 1) := by decide +kernel
theorem dX12_wet_0 : decode cX12_wet 0 = .ok (.aload_n 0, 1) := by decide +kernel
theorem dX12_wet_1 : decode cX12_wet 1 = .ok (.iload_n 1, 1) := by decide +kernel
theorem dX12_wet_2 : decode cX12_wet 2 = .ok (.iload_n 2, 1) := by decide +kernel
theorem dX12_wet_3 : decode cX12_wet 3 = .ok (.invokevirtual 79, 3) := by decide +kernel
theorem dX12_wet_6 : decode cX12_wet 6 = .ok (.ifCond .eq 5, 3) := by decide +kernel
theorem dX12_wet_9 : decode cX12_wet 9 = .ok (.iconst 0, 1) := by decide +kernel
theorem dX12_wet_10 : decode cX12_wet 10 = .ok (.ireturn, 1) := by decide +kernel
theorem dX12_wet_11 : decode cX12_wet 11 = .ok (.aload_n 0, 1) := by decide +kernel
theorem dX12_wet_12 : decode cX12_wet 12 = .ok (.iload_n 1, 1) := by decide +kernel
theorem dX12_wet_13 : decode cX12_wet 13 = .ok (.iload_n 2, 1) := by decide +kernel
theorem dX12_wet_14 : decode cX12_wet 14 = .ok (.invokevirtual 83, 3) := by decide +kernel
theorem dX12_wet_17 : decode cX12_wet 17 = .ok (.astore 4, 2) := by decide +kernel
theorem dX12_wet_19 : decode cX12_wet 19 = .ok (.aload_n 0, 1) := by decide +kernel
theorem dX12_wet_20 : decode cX12_wet 20 = .ok (.iload_n 3, 1) := by decide +kernel
theorem dX12_wet_21 : decode cX12_wet 21 = .ok (.i2l, 1) := by decide +kernel
theorem dX12_wet_22 : decode cX12_wet 22 = .ok (.lconst 0, 1) := by decide +kernel
theorem dX12_wet_23 : decode cX12_wet 23 = .ok (.aload 4, 2) := by decide +kernel
theorem dX12_wet_25 : decode cX12_wet 25 = .ok (.getfield 87, 3) := by decide +kernel
theorem dX12_wet_28 : decode cX12_wet 28 = .ok (.i2l, 1) := by decide +kernel
theorem dX12_wet_29 : decode cX12_wet 29 = .ok (.invokestatic 39, 3) := by decide +kernel
theorem dX12_wet_32 : decode cX12_wet 32 = .ok (.ifCond .eq 7, 3) := by decide +kernel
theorem dX12_wet_35 : decode cX12_wet 35 = .ok (.iconst 0, 1) := by decide +kernel
theorem dX12_wet_36 : decode cX12_wet 36 = .ok (.goto 4, 3) := by decide +kernel
theorem dX12_wet_39 : decode cX12_wet 39 = .ok (.iconst 2, 1) := by decide +kernel
theorem dX12_wet_40 : decode cX12_wet 40 = .ok (.putfield 31, 3) := by decide +kernel
theorem dX12_wet_43 : decode cX12_wet 43 = .ok (.aload_n 0, 1) := by decide +kernel
theorem dX12_wet_44 : decode cX12_wet 44 = .ok (.getfield 31, 3) := by decide +kernel
theorem dX12_wet_47 : decode cX12_wet 47 = .ok (.ifCond .le 5, 3) := by decide +kernel
theorem dX12_wet_50 : decode cX12_wet 50 = .ok (.iconst 0, 1) := by decide +kernel
theorem dX12_wet_51 : decode cX12_wet 51 = .ok (.ireturn, 1) := by decide +kernel
theorem dX12_wet_52 : decode cX12_wet 52 = .ok (.aload 4, 2) := by decide +kernel
theorem dX12_wet_54 : decode cX12_wet 54 = .ok (.getfield 90, 3) := by decide +kernel
theorem dX12_wet_57 : decode cX12_wet 57 = .ok (.istore 5, 2) := by decide +kernel
theorem dX12_wet_59 : decode cX12_wet 59 = .ok (.aload 4, 2) := by decide +kernel
theorem dX12_wet_61 : decode cX12_wet 61 = .ok (.iload_n 3, 1) := by decide +kernel
theorem dX12_wet_62 : decode cX12_wet 62 = .ok (.putfield 90, 3) := by decide +kernel
theorem dX12_wet_65 : decode cX12_wet 65 = .ok (.iload 5, 2) := by decide +kernel
theorem dX12_wet_67 : decode cX12_wet 67 = .ok (.ireturn, 1) := by decide +kernel
theorem dX12_water_0 : decode cX12_water 0 = .ok (.aload_n 0, 1) := by decide +kernel
theorem dX12_water_1 : decode cX12_water 1 = .ok (.iload_n 1, 1) := by decide +kernel
theorem dX12_water_2 : decode cX12_water 2 = .ok (.iload_n 2, 1) := by decide +kernel
theorem dX12_water_3 : decode cX12_water 3 = .ok (.invokevirtual 79, 3) := by decide +kernel
theorem dX12_water_6 : decode cX12_water 6 = .ok (.ifCond .eq 7, 3) := by decide +kernel
theorem dX12_water_9 : decode cX12_water 9 = .ok (.iconst 0, 1) := by decide +kernel
theorem dX12_water_10 : decode cX12_water 10 = .ok (.goto 12, 3) := by decide +kernel
theorem dX12_water_13 : decode cX12_water 13 = .ok (.aload_n 0, 1) := by decide +kernel
theorem dX12_water_14 : decode cX12_water 14 = .ok (.iload_n 1, 1) := by decide +kernel
theorem dX12_water_15 : decode cX12_water 15 = .ok (.iload_n 2, 1) := by decide +kernel
theorem dX12_water_16 : decode cX12_water 16 = .ok (.invokevirtual 83, 3) := by decide +kernel
theorem dX12_water_19 : decode cX12_water 19 = .ok (.getfield 90, 3) := by decide +kernel
theorem dX12_water_22 : decode cX12_water 22 = .ok (.ireturn, 1) := by decide +kernel
theorem dX12_capacity_0 : decode cX12_capacity 0 = .ok (.aload_n 0, 1) := by decide +kernel
theorem dX12_capacity_1 : decode cX12_capacity 1 = .ok (.iload_n 1, 1) := by decide +kernel
theorem dX12_capacity_2 : decode cX12_capacity 2 = .ok (.iload_n 2, 1) := by decide +kernel
theorem dX12_capacity_3 : decode cX12_capacity 3 = .ok (.invokevirtual 79, 3) := by decide +kernel
theorem dX12_capacity_6 : decode cX12_capacity 6 = .ok (.ifCond .eq 7, 3) := by decide +kernel
theorem dX12_capacity_9 : decode cX12_capacity 9 = .ok (.iconst 0, 1) := by decide +kernel
theorem dX12_capacity_10 : decode cX12_capacity 10 = .ok (.goto 12, 3) := by decide +kernel
theorem dX12_capacity_13 : decode cX12_capacity 13 = .ok (.aload_n 0, 1) := by decide +kernel
theorem dX12_capacity_14 : decode cX12_capacity 14 = .ok (.iload_n 1, 1) := by decide +kernel
theorem dX12_capacity_15 : decode cX12_capacity 15 = .ok (.iload_n 2, 1) := by decide +kernel
theorem dX12_capacity_16 : decode cX12_capacity 16 = .ok (.invokevirtual 83, 3) := by decide +kernel
theorem dX12_capacity_19 : decode cX12_capacity 19 = .ok (.getfield 87, 3) := by decide +kernel
theorem dX12_capacity_22 : decode cX12_capacity 22 = .ok (.ireturn, 1) := by decide +kernel
theorem dX12_link_0 : decode cX12_link 0 = .ok (.aload_n 0, 1) := by decide +kernel
theorem dX12_link_1 : decode cX12_link 1 = .ok (.aload_n 0, 1) := by decide +kernel
theorem dX12_link_2 : decode cX12_link 2 = .ok (.iload_n 1, 1) := by decide +kernel
theorem dX12_link_3 : decode cX12_link 3 = .ok (.invokevirtual 43, 3) := by decide +kernel
theorem dX12_link_6 : decode cX12_link 6 = .ok (.ifCond .eq 16, 3) := by decide +kernel
theorem dX12_link_9 : decode cX12_link 9 = .ok (.iload_n 2, 1) := by decide +kernel
theorem dX12_link_10 : decode cX12_link 10 = .ok (.iconst (-1), 1) := by decide +kernel
theorem dX12_link_11 : decode cX12_link 11 = .ok (.if_icmp .eq 15, 3) := by decide +kernel
theorem dX12_link_14 : decode cX12_link 14 = .ok (.aload_n 0, 1) := by decide +kernel
theorem dX12_link_15 : decode cX12_link 15 = .ok (.iload_n 2, 1) := by decide +kernel
theorem dX12_link_16 : decode cX12_link 16 = .ok (.invokevirtual 43, 3) := by decide +kernel
theorem dX12_link_19 : decode cX12_link 19 = .ok (.ifCond .ne 7, 3) := by decide +kernel
theorem dX12_link_22 : decode cX12_link 22 = .ok (.iconst 1, 1) := by decide +kernel
theorem dX12_link_23 : decode cX12_link 23 = .ok (.goto 13, 3) := by decide +kernel
theorem dX12_link_26 : decode cX12_link 26 = .ok (.iload_n 1, 1) := by decide +kernel
theorem dX12_link_27 : decode cX12_link 27 = .ok (.iload_n 2, 1) := by decide +kernel
theorem dX12_link_28 : decode cX12_link 28 = .ok (.if_icmp .ne 7, 3) := by decide +kernel
theorem dX12_link_31 : decode cX12_link 31 = .ok (.iconst 2, 1) := by decide +kernel
theorem dX12_link_32 : decode cX12_link 32 = .ok (.goto 4, 3) := by decide +kernel
theorem dX12_link_35 : decode cX12_link 35 = .ok (.iconst 0, 1) := by decide +kernel
theorem dX12_link_36 : decode cX12_link 36 = .ok (.putfield 31, 3) := by decide +kernel
theorem dX12_link_39 : decode cX12_link 39 = .ok (.aload_n 0, 1) := by decide +kernel
theorem dX12_link_40 : decode cX12_link 40 = .ok (.getfield 31, 3) := by decide +kernel
theorem dX12_link_43 : decode cX12_link 43 = .ok (.ifCond .le 5, 3) := by decide +kernel
theorem dX12_link_46 : decode cX12_link 46 = .ok (.iconst 0, 1) := by decide +kernel
theorem dX12_link_47 : decode cX12_link 47 = .ok (.ireturn, 1) := by decide +kernel
theorem dX12_link_48 : decode cX12_link 48 = .ok (.aload_n 0, 1) := by decide +kernel
theorem dX12_link_49 : decode cX12_link 49 = .ok (.getfield 18, 3) := by decide +kernel
theorem dX12_link_52 : decode cX12_link 52 = .ok (.iload_n 1, 1) := by decide +kernel
theorem dX12_link_53 : decode cX12_link 53 = .ok (.invokevirtual 47, 3) := by decide +kernel
theorem dX12_link_56 : decode cX12_link 56 = .ok (.checkcast 51, 3) := by decide +kernel
theorem dX12_link_59 : decode cX12_link 59 = .ok (.getfield 93, 3) := by decide +kernel
theorem dX12_link_62 : decode cX12_link 62 = .ok (.istore_n 3, 1) := by decide +kernel
theorem dX12_link_63 : decode cX12_link 63 = .ok (.aload_n 0, 1) := by decide +kernel
theorem dX12_link_64 : decode cX12_link 64 = .ok (.getfield 18, 3) := by decide +kernel
theorem dX12_link_67 : decode cX12_link 67 = .ok (.iload_n 1, 1) := by decide +kernel
theorem dX12_link_68 : decode cX12_link 68 = .ok (.invokevirtual 47, 3) := by decide +kernel
theorem dX12_link_71 : decode cX12_link 71 = .ok (.checkcast 51, 3) := by decide +kernel
theorem dX12_link_74 : decode cX12_link 74 = .ok (.iload_n 2, 1) := by decide +kernel
theorem dX12_link_75 : decode cX12_link 75 = .ok (.putfield 93, 3) := by decide +kernel
theorem dX12_link_78 : decode cX12_link 78 = .ok (.iload_n 3, 1) := by decide +kernel
theorem dX12_link_79 : decode cX12_link 79 = .ok (.ireturn, 1) := by decide +kernel
theorem dX12_scale_0 : decode cX12_scale 0 = .ok (.aload_n 0, 1) := by decide +kernel
theorem dX12_scale_1 : decode cX12_scale 1 = .ok (.iload_n 1, 1) := by decide +kernel
theorem dX12_scale_2 : decode cX12_scale 2 = .ok (.invokevirtual 67, 3) := by decide +kernel
theorem dX12_scale_5 : decode cX12_scale 5 = .ok (.ifCond .eq 5, 3) := by decide +kernel
theorem dX12_scale_8 : decode cX12_scale 8 = .ok (.iconst 0, 1) := by decide +kernel
theorem dX12_scale_9 : decode cX12_scale 9 = .ok (.ireturn, 1) := by decide +kernel
theorem dX12_scale_10 : decode cX12_scale 10 = .ok (.aload_n 0, 1) := by decide +kernel
theorem dX12_scale_11 : decode cX12_scale 11 = .ok (.iload_n 2, 1) := by decide +kernel
theorem dX12_scale_12 : decode cX12_scale 12 = .ok (.i2l, 1) := by decide +kernel
theorem dX12_scale_13 : decode cX12_scale 13 = .ok (.ldc2_w 96, 3) := by decide +kernel
theorem dX12_scale_16 : decode cX12_scale 16 = .ok (.ldc2_w 98, 3) := by decide +kernel
theorem dX12_scale_19 : decode cX12_scale 19 = .ok (.invokestatic 39, 3) := by decide +kernel
theorem dX12_scale_22 : decode cX12_scale 22 = .ok (.ifCond .eq 7, 3) := by decide +kernel
theorem dX12_scale_25 : decode cX12_scale 25 = .ok (.iconst 0, 1) := by decide +kernel
theorem dX12_scale_26 : decode cX12_scale 26 = .ok (.goto 4, 3) := by decide +kernel
theorem dX12_scale_29 : decode cX12_scale 29 = .ok (.iconst 2, 1) := by decide +kernel
theorem dX12_scale_30 : decode cX12_scale 30 = .ok (.putfield 31, 3) := by decide +kernel
theorem dX12_scale_33 : decode cX12_scale 33 = .ok (.aload_n 0, 1) := by decide +kernel
theorem dX12_scale_34 : decode cX12_scale 34 = .ok (.getfield 31, 3) := by decide +kernel
theorem dX12_scale_37 : decode cX12_scale 37 = .ok (.ifCond .le 5, 3) := by decide +kernel
theorem dX12_scale_40 : decode cX12_scale 40 = .ok (.iconst 0, 1) := by decide +kernel
theorem dX12_scale_41 : decode cX12_scale 41 = .ok (.ireturn, 1) := by decide +kernel
theorem dX12_scale_42 : decode cX12_scale 42 = .ok (.aload_n 0, 1) := by decide +kernel
theorem dX12_scale_43 : decode cX12_scale 43 = .ok (.getfield 18, 3) := by decide +kernel
theorem dX12_scale_46 : decode cX12_scale 46 = .ok (.iload_n 1, 1) := by decide +kernel
theorem dX12_scale_47 : decode cX12_scale 47 = .ok (.invokevirtual 47, 3) := by decide +kernel
theorem dX12_scale_50 : decode cX12_scale 50 = .ok (.checkcast 51, 3) := by decide +kernel
theorem dX12_scale_53 : decode cX12_scale 53 = .ok (.getfield 100, 3) := by decide +kernel
theorem dX12_scale_56 : decode cX12_scale 56 = .ok (.istore_n 3, 1) := by decide +kernel
theorem dX12_scale_57 : decode cX12_scale 57 = .ok (.aload_n 0, 1) := by decide +kernel
theorem dX12_scale_58 : decode cX12_scale 58 = .ok (.getfield 18, 3) := by decide +kernel
theorem dX12_scale_61 : decode cX12_scale 61 = .ok (.iload_n 1, 1) := by decide +kernel
theorem dX12_scale_62 : decode cX12_scale 62 = .ok (.invokevirtual 47, 3) := by decide +kernel
theorem dX12_scale_65 : decode cX12_scale 65 = .ok (.checkcast 51, 3) := by decide +kernel
theorem dX12_scale_68 : decode cX12_scale 68 = .ok (.iload_n 2, 1) := by decide +kernel
theorem dX12_scale_69 : decode cX12_scale 69 = .ok (.putfield 100, 3) := by decide +kernel
theorem dX12_scale_72 : decode cX12_scale 72 = .ok (.iload_n 3, 1) := by decide +kernel
theorem dX12_scale_73 : decode cX12_scale 73 = .ok (.ireturn, 1) := by decide +kernel
theorem dX12_plant_0 : decode cX12_plant 0 = .ok (.aload_n 0, 1) := by decide +kernel
theorem dX12_plant_1 : decode cX12_plant 1 = .ok (.iload_n 1, 1) := by decide +kernel
theorem dX12_plant_2 : decode cX12_plant 2 = .ok (.invokevirtual 67, 3) := by decide +kernel
theorem dX12_plant_5 : decode cX12_plant 5 = .ok (.ifCond .eq 5, 3) := by decide +kernel
theorem dX12_plant_8 : decode cX12_plant 8 = .ok (.iconst 0, 1) := by decide +kernel
theorem dX12_plant_9 : decode cX12_plant 9 = .ok (.ireturn, 1) := by decide +kernel
theorem dX12_plant_10 : decode cX12_plant 10 = .ok (.aload_n 0, 1) := by decide +kernel
theorem dX12_plant_11 : decode cX12_plant 11 = .ok (.getfield 18, 3) := by decide +kernel
theorem dX12_plant_14 : decode cX12_plant 14 = .ok (.iload_n 1, 1) := by decide +kernel
theorem dX12_plant_15 : decode cX12_plant 15 = .ok (.invokevirtual 47, 3) := by decide +kernel
theorem dX12_plant_18 : decode cX12_plant 18 = .ok (.checkcast 51, 3) := by decide +kernel
theorem dX12_plant_21 : decode cX12_plant 21 = .ok (.getfield 103, 3) := by decide +kernel
theorem dX12_plant_24 : decode cX12_plant 24 = .ok (.astore 4, 2) := by decide +kernel
theorem dX12_plant_26 : decode cX12_plant 26 = .ok (.aload_n 0, 1) := by decide +kernel
theorem dX12_plant_27 : decode cX12_plant 27 = .ok (.iload_n 2, 1) := by decide +kernel
theorem dX12_plant_28 : decode cX12_plant 28 = .ok (.i2l, 1) := by decide +kernel
theorem dX12_plant_29 : decode cX12_plant 29 = .ok (.lconst 1, 1) := by decide +kernel
theorem dX12_plant_30 : decode cX12_plant 30 = .ok (.ldc2_w 106, 3) := by decide +kernel
theorem dX12_plant_33 : decode cX12_plant 33 = .ok (.invokestatic 39, 3) := by decide +kernel
theorem dX12_plant_36 : decode cX12_plant 36 = .ok (.ifCond .eq 15, 3) := by decide +kernel
theorem dX12_plant_39 : decode cX12_plant 39 = .ok (.iload_n 3, 1) := by decide +kernel
theorem dX12_plant_40 : decode cX12_plant 40 = .ok (.i2l, 1) := by decide +kernel
theorem dX12_plant_41 : decode cX12_plant 41 = .ok (.lconst 0, 1) := by decide +kernel
theorem dX12_plant_42 : decode cX12_plant 42 = .ok (.ldc2_w 72, 3) := by decide +kernel
theorem dX12_plant_45 : decode cX12_plant 45 = .ok (.invokestatic 39, 3) := by decide +kernel
theorem dX12_plant_48 : decode cX12_plant 48 = .ok (.ifCond .ne 7, 3) := by decide +kernel
theorem dX12_plant_51 : decode cX12_plant 51 = .ok (.iconst 2, 1) := by decide +kernel
theorem dX12_plant_52 : decode cX12_plant 52 = .ok (.goto 17, 3) := by decide +kernel
theorem dX12_plant_55 : decode cX12_plant 55 = .ok (.aload 4, 2) := by decide +kernel
theorem dX12_plant_57 : decode cX12_plant 57 = .ok (.invokevirtual 35, 3) := by decide +kernel
theorem dX12_plant_60 : decode cX12_plant 60 = .ok (.iconst 2, 1) := by decide +kernel
theorem dX12_plant_61 : decode cX12_plant 61 = .ok (.if_icmp .ne 7, 3) := by decide +kernel
theorem dX12_plant_64 : decode cX12_plant 64 = .ok (.iconst 3, 1) := by decide +kernel
theorem dX12_plant_65 : decode cX12_plant 65 = .ok (.goto 4, 3) := by decide +kernel
theorem dX12_plant_68 : decode cX12_plant 68 = .ok (.iconst 0, 1) := by decide +kernel
theorem dX12_plant_69 : decode cX12_plant 69 = .ok (.putfield 31, 3) := by decide +kernel
theorem dX12_plant_72 : decode cX12_plant 72 = .ok (.aload_n 0, 1) := by decide +kernel
theorem dX12_plant_73 : decode cX12_plant 73 = .ok (.getfield 31, 3) := by decide +kernel
theorem dX12_plant_76 : decode cX12_plant 76 = .ok (.ifCond .le 5, 3) := by decide +kernel
theorem dX12_plant_79 : decode cX12_plant 79 = .ok (.iconst 0, 1) := by decide +kernel
theorem dX12_plant_80 : decode cX12_plant 80 = .ok (.ireturn, 1) := by decide +kernel
theorem dX12_plant_81 : decode cX12_plant 81 = .ok (.aload 4, 2) := by decide +kernel
theorem dX12_plant_83 : decode cX12_plant 83 = .ok (.new 108, 3) := by decide +kernel
theorem dX12_plant_86 : decode cX12_plant 86 = .ok (.dup, 1) := by decide +kernel
theorem dX12_plant_87 : decode cX12_plant 87 = .ok (.iload_n 2, 1) := by decide +kernel
theorem dX12_plant_88 : decode cX12_plant 88 = .ok (.iload_n 3, 1) := by decide +kernel
theorem dX12_plant_89 : decode cX12_plant 89 = .ok (.invokespecial 110, 3) := by decide +kernel
theorem dX12_plant_92 : decode cX12_plant 92 = .ok (.invokevirtual 63, 3) := by decide +kernel
theorem dX12_plant_95 : decode cX12_plant 95 = .ok (.pop, 1) := by decide +kernel
theorem dX12_plant_96 : decode cX12_plant 96 = .ok (.aload 4, 2) := by decide +kernel
theorem dX12_plant_98 : decode cX12_plant 98 = .ok (.invokevirtual 35, 3) := by decide +kernel
theorem dX12_plant_101 : decode cX12_plant 101 = .ok (.ireturn, 1) := by decide +kernel
theorem dX12_harvest_0 : decode cX12_harvest 0 = .ok (.aload_n 0, 1) := by decide +kernel
theorem dX12_harvest_1 : decode cX12_harvest 1 = .ok (.iload_n 1, 1) := by decide +kernel
theorem dX12_harvest_2 : decode cX12_harvest 2 = .ok (.invokevirtual 67, 3) := by decide +kernel
theorem dX12_harvest_5 : decode cX12_harvest 5 = .ok (.ifCond .eq 5, 3) := by decide +kernel
theorem dX12_harvest_8 : decode cX12_harvest 8 = .ok (.iconst 0, 1) := by decide +kernel
theorem dX12_harvest_9 : decode cX12_harvest 9 = .ok (.ireturn, 1) := by decide +kernel
theorem dX12_harvest_10 : decode cX12_harvest 10 = .ok (.aload_n 0, 1) := by decide +kernel
theorem dX12_harvest_11 : decode cX12_harvest 11 = .ok (.getfield 18, 3) := by decide +kernel
theorem dX12_harvest_14 : decode cX12_harvest 14 = .ok (.iload_n 1, 1) := by decide +kernel
theorem dX12_harvest_15 : decode cX12_harvest 15 = .ok (.invokevirtual 47, 3) := by decide +kernel
theorem dX12_harvest_18 : decode cX12_harvest 18 = .ok (.checkcast 51, 3) := by decide +kernel
theorem dX12_harvest_21 : decode cX12_harvest 21 = .ok (.getfield 103, 3) := by decide +kernel
theorem dX12_harvest_24 : decode cX12_harvest 24 = .ok (.invokevirtual 35, 3) := by decide +kernel
theorem dX12_harvest_27 : decode cX12_harvest 27 = .ok (.istore_n 2, 1) := by decide +kernel
theorem dX12_harvest_28 : decode cX12_harvest 28 = .ok (.aload_n 0, 1) := by decide +kernel
theorem dX12_harvest_29 : decode cX12_harvest 29 = .ok (.getfield 18, 3) := by decide +kernel
theorem dX12_harvest_32 : decode cX12_harvest 32 = .ok (.iload_n 1, 1) := by decide +kernel
theorem dX12_harvest_33 : decode cX12_harvest 33 = .ok (.invokevirtual 47, 3) := by decide +kernel
theorem dX12_harvest_36 : decode cX12_harvest 36 = .ok (.checkcast 51, 3) := by decide +kernel
theorem dX12_harvest_39 : decode cX12_harvest 39 = .ok (.getfield 103, 3) := by decide +kernel
theorem dX12_harvest_42 : decode cX12_harvest 42 = .ok (.invokevirtual 113, 3) := by decide +kernel
theorem dX12_harvest_45 : decode cX12_harvest 45 = .ok (.iload_n 2, 1) := by decide +kernel
theorem dX12_harvest_46 : decode cX12_harvest 46 = .ok (.ireturn, 1) := by decide +kernel
theorem dX12_stress_0 : decode cX12_stress 0 = .ok (.aload_n 0, 1) := by decide +kernel
theorem dX12_stress_1 : decode cX12_stress 1 = .ok (.iload_n 1, 1) := by decide +kernel
theorem dX12_stress_2 : decode cX12_stress 2 = .ok (.invokevirtual 67, 3) := by decide +kernel
theorem dX12_stress_5 : decode cX12_stress 5 = .ok (.ifCond .eq 5, 3) := by decide +kernel
theorem dX12_stress_8 : decode cX12_stress 8 = .ok (.iconst 0, 1) := by decide +kernel
theorem dX12_stress_9 : decode cX12_stress 9 = .ok (.ireturn, 1) := by decide +kernel
theorem dX12_stress_10 : decode cX12_stress 10 = .ok (.aload_n 0, 1) := by decide +kernel
theorem dX12_stress_11 : decode cX12_stress 11 = .ok (.iload_n 2, 1) := by decide +kernel
theorem dX12_stress_12 : decode cX12_stress 12 = .ok (.i2l, 1) := by decide +kernel
theorem dX12_stress_13 : decode cX12_stress 13 = .ok (.lconst 0, 1) := by decide +kernel
theorem dX12_stress_14 : decode cX12_stress 14 = .ok (.aload_n 0, 1) := by decide +kernel
theorem dX12_stress_15 : decode cX12_stress 15 = .ok (.getfield 18, 3) := by decide +kernel
theorem dX12_stress_18 : decode cX12_stress 18 = .ok (.iload_n 1, 1) := by decide +kernel
theorem dX12_stress_19 : decode cX12_stress 19 = .ok (.invokevirtual 47, 3) := by decide +kernel
theorem dX12_stress_22 : decode cX12_stress 22 = .ok (.checkcast 51, 3) := by decide +kernel
theorem dX12_stress_25 : decode cX12_stress 25 = .ok (.getfield 103, 3) := by decide +kernel
theorem dX12_stress_28 : decode cX12_stress 28 = .ok (.invokevirtual 35, 3) := by decide +kernel
theorem dX12_stress_31 : decode cX12_stress 31 = .ok (.iconst 1, 1) := by decide +kernel
theorem dX12_stress_32 : decode cX12_stress 32 = .ok (.isub, 1) := by decide +kernel
theorem dX12_stress_33 : decode cX12_stress 33 = .ok (.i2l, 1) := by decide +kernel
theorem dX12_stress_34 : decode cX12_stress 34 = .ok (.invokestatic 39, 3) := by decide +kernel
theorem dX12_stress_37 : decode cX12_stress 37 = .ok (.ifCond .eq 7, 3) := by decide +kernel
theorem dX12_stress_40 : decode cX12_stress 40 = .ok (.iconst 0, 1) := by decide +kernel
theorem dX12_stress_41 : decode cX12_stress 41 = .ok (.goto 4, 3) := by decide +kernel
theorem dX12_stress_44 : decode cX12_stress 44 = .ok (.iconst 2, 1) := by decide +kernel
theorem dX12_stress_45 : decode cX12_stress 45 = .ok (.putfield 31, 3) := by decide +kernel
theorem dX12_stress_48 : decode cX12_stress 48 = .ok (.aload_n 0, 1) := by decide +kernel
theorem dX12_stress_49 : decode cX12_stress 49 = .ok (.getfield 31, 3) := by decide +kernel
theorem dX12_stress_52 : decode cX12_stress 52 = .ok (.ifCond .le 7, 3) := by decide +kernel
theorem dX12_stress_55 : decode cX12_stress 55 = .ok (.iconst 0, 1) := by decide +kernel
theorem dX12_stress_56 : decode cX12_stress 56 = .ok (.goto 27, 3) := by decide +kernel
theorem dX12_stress_59 : decode cX12_stress 59 = .ok (.aload_n 0, 1) := by decide +kernel
theorem dX12_stress_60 : decode cX12_stress 60 = .ok (.getfield 18, 3) := by decide +kernel
theorem dX12_stress_63 : decode cX12_stress 63 = .ok (.iload_n 1, 1) := by decide +kernel
theorem dX12_stress_64 : decode cX12_stress 64 = .ok (.invokevirtual 47, 3) := by decide +kernel
theorem dX12_stress_67 : decode cX12_stress 67 = .ok (.checkcast 51, 3) := by decide +kernel
theorem dX12_stress_70 : decode cX12_stress 70 = .ok (.getfield 103, 3) := by decide +kernel
theorem dX12_stress_73 : decode cX12_stress 73 = .ok (.iload_n 2, 1) := by decide +kernel
theorem dX12_stress_74 : decode cX12_stress 74 = .ok (.invokevirtual 47, 3) := by decide +kernel
theorem dX12_stress_77 : decode cX12_stress 77 = .ok (.checkcast 108, 3) := by decide +kernel
theorem dX12_stress_80 : decode cX12_stress 80 = .ok (.getfield 116, 3) := by decide +kernel
theorem dX12_stress_83 : decode cX12_stress 83 = .ok (.ireturn, 1) := by decide +kernel
theorem dX12_mulch_0 : decode cX12_mulch 0 = .ok (.aload_n 0, 1) := by decide +kernel
theorem dX12_mulch_1 : decode cX12_mulch 1 = .ok (.iload_n 1, 1) := by decide +kernel
theorem dX12_mulch_2 : decode cX12_mulch 2 = .ok (.invokevirtual 67, 3) := by decide +kernel
theorem dX12_mulch_5 : decode cX12_mulch 5 = .ok (.ifCond .eq 5, 3) := by decide +kernel
theorem dX12_mulch_8 : decode cX12_mulch 8 = .ok (.iconst 0, 1) := by decide +kernel
theorem dX12_mulch_9 : decode cX12_mulch 9 = .ok (.ireturn, 1) := by decide +kernel
theorem dX12_mulch_10 : decode cX12_mulch 10 = .ok (.aload_n 0, 1) := by decide +kernel
theorem dX12_mulch_11 : decode cX12_mulch 11 = .ok (.getfield 18, 3) := by decide +kernel
theorem dX12_mulch_14 : decode cX12_mulch 14 = .ok (.iload_n 1, 1) := by decide +kernel
theorem dX12_mulch_15 : decode cX12_mulch 15 = .ok (.invokevirtual 47, 3) := by decide +kernel
theorem dX12_mulch_18 : decode cX12_mulch 18 = .ok (.checkcast 51, 3) := by decide +kernel
theorem dX12_mulch_21 : decode cX12_mulch 21 = .ok (.getfield 119, 3) := by decide +kernel
theorem dX12_mulch_24 : decode cX12_mulch 24 = .ok (.istore_n 3, 1) := by decide +kernel
theorem dX12_mulch_25 : decode cX12_mulch 25 = .ok (.aload_n 0, 1) := by decide +kernel
theorem dX12_mulch_26 : decode cX12_mulch 26 = .ok (.getfield 18, 3) := by decide +kernel
theorem dX12_mulch_29 : decode cX12_mulch 29 = .ok (.iload_n 1, 1) := by decide +kernel
theorem dX12_mulch_30 : decode cX12_mulch 30 = .ok (.invokevirtual 47, 3) := by decide +kernel
theorem dX12_mulch_33 : decode cX12_mulch 33 = .ok (.checkcast 51, 3) := by decide +kernel
theorem dX12_mulch_36 : decode cX12_mulch 36 = .ok (.iload_n 2, 1) := by decide +kernel
theorem dX12_mulch_37 : decode cX12_mulch 37 = .ok (.putfield 119, 3) := by decide +kernel
theorem dX12_mulch_40 : decode cX12_mulch 40 = .ok (.iload_n 3, 1) := by decide +kernel
theorem dX12_mulch_41 : decode cX12_mulch 41 = .ok (.ireturn, 1) := by decide +kernel
theorem dX12_rule_0 : decode cX12_rule 0 = .ok (.aload_n 0, 1) := by decide +kernel
theorem dX12_rule_1 : decode cX12_rule 1 = .ok (.iload_n 1, 1) := by decide +kernel
theorem dX12_rule_2 : decode cX12_rule 2 = .ok (.invokevirtual 67, 3) := by decide +kernel
theorem dX12_rule_5 : decode cX12_rule 5 = .ok (.ifCond .eq 5, 3) := by decide +kernel
theorem dX12_rule_8 : decode cX12_rule 8 = .ok (.iconst 0, 1) := by decide +kernel
theorem dX12_rule_9 : decode cX12_rule 9 = .ok (.ireturn, 1) := by decide +kernel
theorem dX12_rule_10 : decode cX12_rule 10 = .ok (.aload_n 0, 1) := by decide +kernel
theorem dX12_rule_11 : decode cX12_rule 11 = .ok (.iload_n 2, 1) := by decide +kernel
theorem dX12_rule_12 : decode cX12_rule 12 = .ok (.i2l, 1) := by decide +kernel
theorem dX12_rule_13 : decode cX12_rule 13 = .ok (.lconst 0, 1) := by decide +kernel
theorem dX12_rule_14 : decode cX12_rule 14 = .ok (.ldc2_w 123, 3) := by decide +kernel
theorem dX12_rule_17 : decode cX12_rule 17 = .ok (.invokestatic 39, 3) := by decide +kernel
theorem dX12_rule_20 : decode cX12_rule 20 = .ok (.ifCond .eq 19, 3) := by decide +kernel
theorem dX12_rule_23 : decode cX12_rule 23 = .ok (.iload_n 3, 1) := by decide +kernel
theorem dX12_rule_24 : decode cX12_rule 24 = .ok (.i2l, 1) := by decide +kernel
theorem dX12_rule_25 : decode cX12_rule 25 = .ok (.lconst 0, 1) := by decide +kernel
theorem dX12_rule_26 : decode cX12_rule 26 = .ok (.ldc2_w 125, 3) := by decide +kernel
theorem dX12_rule_29 : decode cX12_rule 29 = .ok (.invokestatic 39, 3) := by decide +kernel
theorem dX12_rule_32 : decode cX12_rule 32 = .ok (.ifCond .eq 7, 3) := by decide +kernel
theorem dX12_rule_35 : decode cX12_rule 35 = .ok (.iconst 0, 1) := by decide +kernel
theorem dX12_rule_36 : decode cX12_rule 36 = .ok (.goto 4, 3) := by decide +kernel
theorem dX12_rule_39 : decode cX12_rule 39 = .ok (.iconst 2, 1) := by decide +kernel
theorem dX12_rule_40 : decode cX12_rule 40 = .ok (.putfield 31, 3) := by decide +kernel
theorem dX12_rule_43 : decode cX12_rule 43 = .ok (.aload_n 0, 1) := by decide +kernel
theorem dX12_rule_44 : decode cX12_rule 44 = .ok (.getfield 31, 3) := by decide +kernel
theorem dX12_rule_47 : decode cX12_rule 47 = .ok (.ifCond .le 5, 3) := by decide +kernel
theorem dX12_rule_50 : decode cX12_rule 50 = .ok (.iconst 0, 1) := by decide +kernel
theorem dX12_rule_51 : decode cX12_rule 51 = .ok (.ireturn, 1) := by decide +kernel
theorem dX12_rule_52 : decode cX12_rule 52 = .ok (.aload_n 0, 1) := by decide +kernel
theorem dX12_rule_53 : decode cX12_rule 53 = .ok (.getfield 18, 3) := by decide +kernel
theorem dX12_rule_56 : decode cX12_rule 56 = .ok (.iload_n 1, 1) := by decide +kernel
theorem dX12_rule_57 : decode cX12_rule 57 = .ok (.invokevirtual 47, 3) := by decide +kernel
theorem dX12_rule_60 : decode cX12_rule 60 = .ok (.checkcast 51, 3) := by decide +kernel
theorem dX12_rule_63 : decode cX12_rule 63 = .ok (.getfield 127, 3) := by decide +kernel
theorem dX12_rule_66 : decode cX12_rule 66 = .ok (.istore 4, 2) := by decide +kernel
theorem dX12_rule_68 : decode cX12_rule 68 = .ok (.aload_n 0, 1) := by decide +kernel
theorem dX12_rule_69 : decode cX12_rule 69 = .ok (.getfield 18, 3) := by decide +kernel
theorem dX12_rule_72 : decode cX12_rule 72 = .ok (.iload_n 1, 1) := by decide +kernel
theorem dX12_rule_73 : decode cX12_rule 73 = .ok (.invokevirtual 47, 3) := by decide +kernel
theorem dX12_rule_76 : decode cX12_rule 76 = .ok (.checkcast 51, 3) := by decide +kernel
theorem dX12_rule_79 : decode cX12_rule 79 = .ok (.iload_n 2, 1) := by decide +kernel
theorem dX12_rule_80 : decode cX12_rule 80 = .ok (.putfield 127, 3) := by decide +kernel
theorem dX12_rule_83 : decode cX12_rule 83 = .ok (.aload_n 0, 1) := by decide +kernel
theorem dX12_rule_84 : decode cX12_rule 84 = .ok (.getfield 18, 3) := by decide +kernel
theorem dX12_rule_87 : decode cX12_rule 87 = .ok (.iload_n 1, 1) := by decide +kernel
theorem dX12_rule_88 : decode cX12_rule 88 = .ok (.invokevirtual 47, 3) := by decide +kernel
theorem dX12_rule_91 : decode cX12_rule 91 = .ok (.checkcast 51, 3) := by decide +kernel
theorem dX12_rule_94 : decode cX12_rule 94 = .ok (.iload_n 3, 1) := by decide +kernel
theorem dX12_rule_95 : decode cX12_rule 95 = .ok (.putfield 130, 3) := by decide +kernel
theorem dX12_rule_98 : decode cX12_rule 98 = .ok (.iload 4, 2) := by decide +kernel
theorem dX12_rule_100 : decode cX12_rule 100 = .ok (.ireturn, 1) := by decide +kernel
theorem dX12_spread_0 : decode cX12_spread 0 = .ok (.aload_n 0, 1) := by decide +kernel
theorem dX12_spread_1 : decode cX12_spread 1 = .ok (.iload_n 1, 1) := by decide +kernel
theorem dX12_spread_2 : decode cX12_spread 2 = .ok (.invokevirtual 67, 3) := by decide +kernel
theorem dX12_spread_5 : decode cX12_spread 5 = .ok (.ifCond .eq 5, 3) := by decide +kernel
theorem dX12_spread_8 : decode cX12_spread 8 = .ok (.lconst 0, 1) := by decide +kernel
theorem dX12_spread_9 : decode cX12_spread 9 = .ok (.lreturn, 1) := by decide +kernel
theorem dX12_spread_10 : decode cX12_spread 10 = .ok (.aload_n 0, 1) := by decide +kernel
theorem dX12_spread_11 : decode cX12_spread 11 = .ok (.getfield 18, 3) := by decide +kernel
theorem dX12_spread_14 : decode cX12_spread 14 = .ok (.iload_n 1, 1) := by decide +kernel
theorem dX12_spread_15 : decode cX12_spread 15 = .ok (.invokevirtual 47, 3) := by decide +kernel
theorem dX12_spread_18 : decode cX12_spread 18 = .ok (.checkcast 51, 3) := by decide +kernel
theorem dX12_spread_21 : decode cX12_spread 21 = .ok (.astore 4, 2) := by decide +kernel
theorem dX12_spread_23 : decode cX12_spread 23 = .ok (.aload_n 0, 1) := by decide +kernel
theorem dX12_spread_24 : decode cX12_spread 24 = .ok (.iload_n 2, 1) := by decide +kernel
theorem dX12_spread_25 : decode cX12_spread 25 = .ok (.invokestatic 133, 3) := by decide +kernel
theorem dX12_spread_28 : decode cX12_spread 28 = .ok (.ifCond .lt 15, 3) := by decide +kernel
theorem dX12_spread_31 : decode cX12_spread 31 = .ok (.iload_n 3, 1) := by decide +kernel
theorem dX12_spread_32 : decode cX12_spread 32 = .ok (.i2l, 1) := by decide +kernel
theorem dX12_spread_33 : decode cX12_spread 33 = .ok (.lconst 1, 1) := by decide +kernel
theorem dX12_spread_34 : decode cX12_spread 34 = .ok (.ldc2_w 137, 3) := by decide +kernel
theorem dX12_spread_37 : decode cX12_spread 37 = .ok (.invokestatic 39, 3) := by decide +kernel
theorem dX12_spread_40 : decode cX12_spread 40 = .ok (.ifCond .ne 7, 3) := by decide +kernel
theorem dX12_spread_43 : decode cX12_spread 43 = .ok (.iconst 2, 1) := by decide +kernel
theorem dX12_spread_44 : decode cX12_spread 44 = .ok (.goto 19, 3) := by decide +kernel
theorem dX12_spread_47 : decode cX12_spread 47 = .ok (.aload 4, 2) := by decide +kernel
theorem dX12_spread_49 : decode cX12_spread 49 = .ok (.getfield 53, 3) := by decide +kernel
theorem dX12_spread_52 : decode cX12_spread 52 = .ok (.invokevirtual 139, 3) := by decide +kernel
theorem dX12_spread_55 : decode cX12_spread 55 = .ok (.ifCond .eq 7, 3) := by decide +kernel
theorem dX12_spread_58 : decode cX12_spread 58 = .ok (.iconst 3, 1) := by decide +kernel
theorem dX12_spread_59 : decode cX12_spread 59 = .ok (.goto 4, 3) := by decide +kernel
theorem dX12_spread_62 : decode cX12_spread 62 = .ok (.iconst 0, 1) := by decide +kernel
theorem dX12_spread_63 : decode cX12_spread 63 = .ok (.putfield 31, 3) := by decide +kernel
theorem dX12_spread_66 : decode cX12_spread 66 = .ok (.aload_n 0, 1) := by decide +kernel
theorem dX12_spread_67 : decode cX12_spread 67 = .ok (.getfield 31, 3) := by decide +kernel
theorem dX12_spread_70 : decode cX12_spread 70 = .ok (.ifCond .le 5, 3) := by decide +kernel
theorem dX12_spread_73 : decode cX12_spread 73 = .ok (.lconst 0, 1) := by decide +kernel
theorem dX12_spread_74 : decode cX12_spread 74 = .ok (.lreturn, 1) := by decide +kernel
theorem dX12_spread_75 : decode cX12_spread 75 = .ok (.aload 4, 2) := by decide +kernel
theorem dX12_spread_77 : decode cX12_spread 77 = .ok (.getfield 53, 3) := by decide +kernel
theorem dX12_spread_80 : decode cX12_spread 80 = .ok (.iconst 0, 1) := by decide +kernel
theorem dX12_spread_81 : decode cX12_spread 81 = .ok (.invokevirtual 47, 3) := by decide +kernel
theorem dX12_spread_84 : decode cX12_spread 84 = .ok (.checkcast 56, 3) := by decide +kernel
theorem dX12_spread_87 : decode cX12_spread 87 = .ok (.getfield 143, 3) := by decide +kernel
theorem dX12_spread_90 : decode cX12_spread 90 = .ok (.iload_n 2, 1) := by decide +kernel
theorem dX12_spread_91 : decode cX12_spread 91 = .ok (.invokestatic 133, 3) := by decide +kernel
theorem dX12_spread_94 : decode cX12_spread 94 = .ok (.dup2, 1) := by decide +kernel
theorem dX12_spread_95 : decode cX12_spread 95 = .ok (.laload, 1) := by decide +kernel
theorem dX12_spread_96 : decode cX12_spread 96 = .ok (.iload_n 3, 1) := by decide +kernel
theorem dX12_spread_97 : decode cX12_spread 97 = .ok (.i2l, 1) := by decide +kernel
theorem dX12_spread_98 : decode cX12_spread 98 = .ok (.ladd, 1) := by decide +kernel
theorem dX12_spread_99 : decode cX12_spread 99 = .ok (.lastore, 1) := by decide +kernel
theorem dX12_spread_100 : decode cX12_spread 100 = .ok (.aload 4, 2) := by decide +kernel
theorem dX12_spread_102 : decode cX12_spread 102 = .ok (.getfield 53, 3) := by decide +kernel
theorem dX12_spread_105 : decode cX12_spread 105 = .ok (.iconst 0, 1) := by decide +kernel
theorem dX12_spread_106 : decode cX12_spread 106 = .ok (.invokevirtual 47, 3) := by decide +kernel
theorem dX12_spread_109 : decode cX12_spread 109 = .ok (.checkcast 56, 3) := by decide +kernel
theorem dX12_spread_112 : decode cX12_spread 112 = .ok (.getfield 143, 3) := by decide +kernel
theorem dX12_spread_115 : decode cX12_spread 115 = .ok (.iload_n 2, 1) := by decide +kernel
theorem dX12_spread_116 : decode cX12_spread 116 = .ok (.invokestatic 133, 3) := by decide +kernel
theorem dX12_spread_119 : decode cX12_spread 119 = .ok (.laload, 1) := by decide +kernel
theorem dX12_spread_120 : decode cX12_spread 120 = .ok (.lreturn, 1) := by decide +kernel
theorem dX12_manure_0 : decode cX12_manure 0 = .ok (.aload_n 0, 1) := by decide +kernel
theorem dX12_manure_1 : decode cX12_manure 1 = .ok (.iload_n 1, 1) := by decide +kernel
theorem dX12_manure_2 : decode cX12_manure 2 = .ok (.invokevirtual 67, 3) := by decide +kernel
theorem dX12_manure_5 : decode cX12_manure 5 = .ok (.ifCond .eq 5, 3) := by decide +kernel
theorem dX12_manure_8 : decode cX12_manure 8 = .ok (.lconst 0, 1) := by decide +kernel
theorem dX12_manure_9 : decode cX12_manure 9 = .ok (.lreturn, 1) := by decide +kernel
theorem dX12_manure_10 : decode cX12_manure 10 = .ok (.aload_n 0, 1) := by decide +kernel
theorem dX12_manure_11 : decode cX12_manure 11 = .ok (.iload_n 2, 1) := by decide +kernel
theorem dX12_manure_12 : decode cX12_manure 12 = .ok (.i2l, 1) := by decide +kernel
theorem dX12_manure_13 : decode cX12_manure 13 = .ok (.lconst 1, 1) := by decide +kernel
theorem dX12_manure_14 : decode cX12_manure 14 = .ok (.ldc2_w 137, 3) := by decide +kernel
theorem dX12_manure_17 : decode cX12_manure 17 = .ok (.invokestatic 39, 3) := by decide +kernel
theorem dX12_manure_20 : decode cX12_manure 20 = .ok (.ifCond .eq 7, 3) := by decide +kernel
theorem dX12_manure_23 : decode cX12_manure 23 = .ok (.iconst 0, 1) := by decide +kernel
theorem dX12_manure_24 : decode cX12_manure 24 = .ok (.goto 4, 3) := by decide +kernel
theorem dX12_manure_27 : decode cX12_manure 27 = .ok (.iconst 2, 1) := by decide +kernel
theorem dX12_manure_28 : decode cX12_manure 28 = .ok (.putfield 31, 3) := by decide +kernel
theorem dX12_manure_31 : decode cX12_manure 31 = .ok (.aload_n 0, 1) := by decide +kernel
theorem dX12_manure_32 : decode cX12_manure 32 = .ok (.getfield 31, 3) := by decide +kernel
theorem dX12_manure_35 : decode cX12_manure 35 = .ok (.ifCond .le 5, 3) := by decide +kernel
theorem dX12_manure_38 : decode cX12_manure 38 = .ok (.lconst 0, 1) := by decide +kernel
theorem dX12_manure_39 : decode cX12_manure 39 = .ok (.lreturn, 1) := by decide +kernel
theorem dX12_manure_40 : decode cX12_manure 40 = .ok (.aload_n 0, 1) := by decide +kernel
theorem dX12_manure_41 : decode cX12_manure 41 = .ok (.getfield 18, 3) := by decide +kernel
theorem dX12_manure_44 : decode cX12_manure 44 = .ok (.iload_n 1, 1) := by decide +kernel
theorem dX12_manure_45 : decode cX12_manure 45 = .ok (.invokevirtual 47, 3) := by decide +kernel
theorem dX12_manure_48 : decode cX12_manure 48 = .ok (.checkcast 51, 3) := by decide +kernel
theorem dX12_manure_51 : decode cX12_manure 51 = .ok (.dup, 1) := by decide +kernel
theorem dX12_manure_52 : decode cX12_manure 52 = .ok (.getfield 147, 3) := by decide +kernel
theorem dX12_manure_55 : decode cX12_manure 55 = .ok (.iload_n 2, 1) := by decide +kernel
theorem dX12_manure_56 : decode cX12_manure 56 = .ok (.i2l, 1) := by decide +kernel
theorem dX12_manure_57 : decode cX12_manure 57 = .ok (.ladd, 1) := by decide +kernel
theorem dX12_manure_58 : decode cX12_manure 58 = .ok (.putfield 147, 3) := by decide +kernel
theorem dX12_manure_61 : decode cX12_manure 61 = .ok (.aload_n 0, 1) := by decide +kernel
theorem dX12_manure_62 : decode cX12_manure 62 = .ok (.getfield 18, 3) := by decide +kernel
theorem dX12_manure_65 : decode cX12_manure 65 = .ok (.iload_n 1, 1) := by decide +kernel
theorem dX12_manure_66 : decode cX12_manure 66 = .ok (.invokevirtual 47, 3) := by decide +kernel
theorem dX12_manure_69 : decode cX12_manure 69 = .ok (.checkcast 51, 3) := by decide +kernel
theorem dX12_manure_72 : decode cX12_manure 72 = .ok (.getfield 147, 3) := by decide +kernel
theorem dX12_manure_75 : decode cX12_manure 75 = .ok (.lreturn, 1) := by decide +kernel
theorem dX12_solute_0 : decode cX12_solute 0 = .ok (.aload_n 0, 1) := by decide +kernel
theorem dX12_solute_1 : decode cX12_solute 1 = .ok (.iload_n 1, 1) := by decide +kernel
theorem dX12_solute_2 : decode cX12_solute 2 = .ok (.iload_n 2, 1) := by decide +kernel
theorem dX12_solute_3 : decode cX12_solute 3 = .ok (.invokevirtual 79, 3) := by decide +kernel
theorem dX12_solute_6 : decode cX12_solute 6 = .ok (.ifCond .eq 5, 3) := by decide +kernel
theorem dX12_solute_9 : decode cX12_solute 9 = .ok (.lconst 0, 1) := by decide +kernel
theorem dX12_solute_10 : decode cX12_solute 10 = .ok (.lreturn, 1) := by decide +kernel
theorem dX12_solute_11 : decode cX12_solute 11 = .ok (.aload_n 0, 1) := by decide +kernel
theorem dX12_solute_12 : decode cX12_solute 12 = .ok (.iload_n 3, 1) := by decide +kernel
theorem dX12_solute_13 : decode cX12_solute 13 = .ok (.invokestatic 133, 3) := by decide +kernel
theorem dX12_solute_16 : decode cX12_solute 16 = .ok (.ifCond .ge 7, 3) := by decide +kernel
theorem dX12_solute_19 : decode cX12_solute 19 = .ok (.iconst 2, 1) := by decide +kernel
theorem dX12_solute_20 : decode cX12_solute 20 = .ok (.goto 4, 3) := by decide +kernel
theorem dX12_solute_23 : decode cX12_solute 23 = .ok (.iconst 0, 1) := by decide +kernel
theorem dX12_solute_24 : decode cX12_solute 24 = .ok (.putfield 31, 3) := by decide +kernel
theorem dX12_solute_27 : decode cX12_solute 27 = .ok (.aload_n 0, 1) := by decide +kernel
theorem dX12_solute_28 : decode cX12_solute 28 = .ok (.getfield 31, 3) := by decide +kernel
theorem dX12_solute_31 : decode cX12_solute 31 = .ok (.ifCond .le 7, 3) := by decide +kernel
theorem dX12_solute_34 : decode cX12_solute 34 = .ok (.lconst 0, 1) := by decide +kernel
theorem dX12_solute_35 : decode cX12_solute 35 = .ok (.goto 17, 3) := by decide +kernel
theorem dX12_solute_38 : decode cX12_solute 38 = .ok (.aload_n 0, 1) := by decide +kernel
theorem dX12_solute_39 : decode cX12_solute 39 = .ok (.iload_n 1, 1) := by decide +kernel
theorem dX12_solute_40 : decode cX12_solute 40 = .ok (.iload_n 2, 1) := by decide +kernel
theorem dX12_solute_41 : decode cX12_solute 41 = .ok (.invokevirtual 83, 3) := by decide +kernel
theorem dX12_solute_44 : decode cX12_solute 44 = .ok (.getfield 143, 3) := by decide +kernel
theorem dX12_solute_47 : decode cX12_solute 47 = .ok (.iload_n 3, 1) := by decide +kernel
theorem dX12_solute_48 : decode cX12_solute 48 = .ok (.invokestatic 133, 3) := by decide +kernel
theorem dX12_solute_51 : decode cX12_solute 51 = .ok (.laload, 1) := by decide +kernel
theorem dX12_solute_52 : decode cX12_solute 52 = .ok (.lreturn, 1) := by decide +kernel
theorem dX12_out_0 : decode cX12_out 0 = .ok (.aload_n 0, 1) := by decide +kernel
theorem dX12_out_1 : decode cX12_out 1 = .ok (.iload_n 1, 1) := by decide +kernel
theorem dX12_out_2 : decode cX12_out 2 = .ok (.invokevirtual 67, 3) := by decide +kernel
theorem dX12_out_5 : decode cX12_out 5 = .ok (.ifCond .eq 5, 3) := by decide +kernel
theorem dX12_out_8 : decode cX12_out 8 = .ok (.lconst 0, 1) := by decide +kernel
theorem dX12_out_9 : decode cX12_out 9 = .ok (.lreturn, 1) := by decide +kernel
theorem dX12_out_10 : decode cX12_out 10 = .ok (.aload_n 0, 1) := by decide +kernel
theorem dX12_out_11 : decode cX12_out 11 = .ok (.iload_n 2, 1) := by decide +kernel
theorem dX12_out_12 : decode cX12_out 12 = .ok (.invokestatic 133, 3) := by decide +kernel
theorem dX12_out_15 : decode cX12_out 15 = .ok (.ifCond .ge 7, 3) := by decide +kernel
theorem dX12_out_18 : decode cX12_out 18 = .ok (.iconst 2, 1) := by decide +kernel
theorem dX12_out_19 : decode cX12_out 19 = .ok (.goto 4, 3) := by decide +kernel
theorem dX12_out_22 : decode cX12_out 22 = .ok (.iconst 0, 1) := by decide +kernel
theorem dX12_out_23 : decode cX12_out 23 = .ok (.putfield 31, 3) := by decide +kernel
theorem dX12_out_26 : decode cX12_out 26 = .ok (.aload_n 0, 1) := by decide +kernel
theorem dX12_out_27 : decode cX12_out 27 = .ok (.getfield 31, 3) := by decide +kernel
theorem dX12_out_30 : decode cX12_out 30 = .ok (.ifCond .le 7, 3) := by decide +kernel
theorem dX12_out_33 : decode cX12_out 33 = .ok (.lconst 0, 1) := by decide +kernel
theorem dX12_out_34 : decode cX12_out 34 = .ok (.goto 22, 3) := by decide +kernel
theorem dX12_out_37 : decode cX12_out 37 = .ok (.aload_n 0, 1) := by decide +kernel
theorem dX12_out_38 : decode cX12_out 38 = .ok (.getfield 18, 3) := by decide +kernel
theorem dX12_out_41 : decode cX12_out 41 = .ok (.iload_n 1, 1) := by decide +kernel
theorem dX12_out_42 : decode cX12_out 42 = .ok (.invokevirtual 47, 3) := by decide +kernel
theorem dX12_out_45 : decode cX12_out 45 = .ok (.checkcast 51, 3) := by decide +kernel
theorem dX12_out_48 : decode cX12_out 48 = .ok (.getfield 151, 3) := by decide +kernel
theorem dX12_out_51 : decode cX12_out 51 = .ok (.iload_n 2, 1) := by decide +kernel
theorem dX12_out_52 : decode cX12_out 52 = .ok (.invokestatic 133, 3) := by decide +kernel
theorem dX12_out_55 : decode cX12_out 55 = .ok (.laload, 1) := by decide +kernel
theorem dX12_out_56 : decode cX12_out 56 = .ok (.lreturn, 1) := by decide +kernel
theorem dX12_eaten_0 : decode cX12_eaten 0 = .ok (.aload_n 0, 1) := by decide +kernel
theorem dX12_eaten_1 : decode cX12_eaten 1 = .ok (.iload_n 1, 1) := by decide +kernel
theorem dX12_eaten_2 : decode cX12_eaten 2 = .ok (.invokevirtual 67, 3) := by decide +kernel
theorem dX12_eaten_5 : decode cX12_eaten 5 = .ok (.ifCond .eq 7, 3) := by decide +kernel
theorem dX12_eaten_8 : decode cX12_eaten 8 = .ok (.lconst 0, 1) := by decide +kernel
theorem dX12_eaten_9 : decode cX12_eaten 9 = .ok (.goto 17, 3) := by decide +kernel
theorem dX12_eaten_12 : decode cX12_eaten 12 = .ok (.aload_n 0, 1) := by decide +kernel
theorem dX12_eaten_13 : decode cX12_eaten 13 = .ok (.getfield 18, 3) := by decide +kernel
theorem dX12_eaten_16 : decode cX12_eaten 16 = .ok (.iload_n 1, 1) := by decide +kernel
theorem dX12_eaten_17 : decode cX12_eaten 17 = .ok (.invokevirtual 47, 3) := by decide +kernel
theorem dX12_eaten_20 : decode cX12_eaten 20 = .ok (.checkcast 51, 3) := by decide +kernel
theorem dX12_eaten_23 : decode cX12_eaten 23 = .ok (.getfield 154, 3) := by decide +kernel
theorem dX12_eaten_26 : decode cX12_eaten 26 = .ok (.lreturn, 1) := by decide +kernel
theorem dX12_weather_0 : decode cX12_weather 0 = .ok (.aload_n 0, 1) := by decide +kernel
theorem dX12_weather_1 : decode cX12_weather 1 = .ok (.iload_n 1, 1) := by decide +kernel
theorem dX12_weather_2 : decode cX12_weather 2 = .ok (.i2l, 1) := by decide +kernel
theorem dX12_weather_3 : decode cX12_weather 3 = .ok (.ldc2_w 157, 3) := by decide +kernel
theorem dX12_weather_6 : decode cX12_weather 6 = .ok (.ldc2_w 159, 3) := by decide +kernel
theorem dX12_weather_9 : decode cX12_weather 9 = .ok (.invokestatic 39, 3) := by decide +kernel
theorem dX12_weather_12 : decode cX12_weather 12 = .ok (.ifCond .eq 31, 3) := by decide +kernel
theorem dX12_weather_15 : decode cX12_weather 15 = .ok (.iload_n 2, 1) := by decide +kernel
theorem dX12_weather_16 : decode cX12_weather 16 = .ok (.i2l, 1) := by decide +kernel
theorem dX12_weather_17 : decode cX12_weather 17 = .ok (.lconst 0, 1) := by decide +kernel
theorem dX12_weather_18 : decode cX12_weather 18 = .ok (.ldc2_w 161, 3) := by decide +kernel
theorem dX12_weather_21 : decode cX12_weather 21 = .ok (.invokestatic 39, 3) := by decide +kernel
theorem dX12_weather_24 : decode cX12_weather 24 = .ok (.ifCond .eq 19, 3) := by decide +kernel
theorem dX12_weather_27 : decode cX12_weather 27 = .ok (.iload_n 3, 1) := by decide +kernel
theorem dX12_weather_28 : decode cX12_weather 28 = .ok (.i2l, 1) := by decide +kernel
theorem dX12_weather_29 : decode cX12_weather 29 = .ok (.lconst 0, 1) := by decide +kernel
theorem dX12_weather_30 : decode cX12_weather 30 = .ok (.ldc2_w 163, 3) := by decide +kernel
theorem dX12_weather_33 : decode cX12_weather 33 = .ok (.invokestatic 39, 3) := by decide +kernel
theorem dX12_weather_36 : decode cX12_weather 36 = .ok (.ifCond .eq 7, 3) := by decide +kernel
theorem dX12_weather_39 : decode cX12_weather 39 = .ok (.iconst 0, 1) := by decide +kernel
theorem dX12_weather_40 : decode cX12_weather 40 = .ok (.goto 4, 3) := by decide +kernel
theorem dX12_weather_43 : decode cX12_weather 43 = .ok (.iconst 1, 1) := by decide +kernel
theorem dX12_weather_44 : decode cX12_weather 44 = .ok (.putfield 31, 3) := by decide +kernel
theorem dX12_weather_47 : decode cX12_weather 47 = .ok (.aload_n 0, 1) := by decide +kernel
theorem dX12_weather_48 : decode cX12_weather 48 = .ok (.getfield 31, 3) := by decide +kernel
theorem dX12_weather_51 : decode cX12_weather 51 = .ok (.ifCond .le 5, 3) := by decide +kernel
theorem dX12_weather_54 : decode cX12_weather 54 = .ok (.iconst 0, 1) := by decide +kernel
theorem dX12_weather_55 : decode cX12_weather 55 = .ok (.ireturn, 1) := by decide +kernel
theorem dX12_weather_56 : decode cX12_weather 56 = .ok (.aload_n 0, 1) := by decide +kernel
theorem dX12_weather_57 : decode cX12_weather 57 = .ok (.getfield 27, 3) := by decide +kernel
theorem dX12_weather_60 : decode cX12_weather 60 = .ok (.getfield 165, 3) := by decide +kernel
theorem dX12_weather_63 : decode cX12_weather 63 = .ok (.istore 4, 2) := by decide +kernel
theorem dX12_weather_65 : decode cX12_weather 65 = .ok (.aload_n 0, 1) := by decide +kernel
theorem dX12_weather_66 : decode cX12_weather 66 = .ok (.getfield 27, 3) := by decide +kernel
theorem dX12_weather_69 : decode cX12_weather 69 = .ok (.iload_n 1, 1) := by decide +kernel
theorem dX12_weather_70 : decode cX12_weather 70 = .ok (.putfield 165, 3) := by decide +kernel
theorem dX12_weather_73 : decode cX12_weather 73 = .ok (.aload_n 0, 1) := by decide +kernel
theorem dX12_weather_74 : decode cX12_weather 74 = .ok (.getfield 27, 3) := by decide +kernel
theorem dX12_weather_77 : decode cX12_weather 77 = .ok (.iload_n 2, 1) := by decide +kernel
theorem dX12_weather_78 : decode cX12_weather 78 = .ok (.putfield 168, 3) := by decide +kernel
theorem dX12_weather_81 : decode cX12_weather 81 = .ok (.aload_n 0, 1) := by decide +kernel
theorem dX12_weather_82 : decode cX12_weather 82 = .ok (.getfield 27, 3) := by decide +kernel
theorem dX12_weather_85 : decode cX12_weather 85 = .ok (.iload_n 3, 1) := by decide +kernel
theorem dX12_weather_86 : decode cX12_weather 86 = .ok (.putfield 171, 3) := by decide +kernel
theorem dX12_weather_89 : decode cX12_weather 89 = .ok (.iload 4, 2) := by decide +kernel
theorem dX12_weather_91 : decode cX12_weather 91 = .ok (.ireturn, 1) := by decide +kernel
theorem dX12_law_0 : decode cX12_law 0 = .ok (.aload_n 0, 1) := by decide +kernel
theorem dX12_law_1 : decode cX12_law 1 = .ok (.iload_n 1, 1) := by decide +kernel
theorem dX12_law_2 : decode cX12_law 2 = .ok (.i2l, 1) := by decide +kernel
theorem dX12_law_3 : decode cX12_law 3 = .ok (.lconst 0, 1) := by decide +kernel
theorem dX12_law_4 : decode cX12_law 4 = .ok (.ldc2_w 123, 3) := by decide +kernel
theorem dX12_law_7 : decode cX12_law 7 = .ok (.invokestatic 39, 3) := by decide +kernel
theorem dX12_law_10 : decode cX12_law 10 = .ok (.ifCond .eq 19, 3) := by decide +kernel
theorem dX12_law_13 : decode cX12_law 13 = .ok (.iload_n 2, 1) := by decide +kernel
theorem dX12_law_14 : decode cX12_law 14 = .ok (.i2l, 1) := by decide +kernel
theorem dX12_law_15 : decode cX12_law 15 = .ok (.lconst 0, 1) := by decide +kernel
theorem dX12_law_16 : decode cX12_law 16 = .ok (.ldc2_w 161, 3) := by decide +kernel
theorem dX12_law_19 : decode cX12_law 19 = .ok (.invokestatic 39, 3) := by decide +kernel
theorem dX12_law_22 : decode cX12_law 22 = .ok (.ifCond .eq 7, 3) := by decide +kernel
theorem dX12_law_25 : decode cX12_law 25 = .ok (.iconst 0, 1) := by decide +kernel
theorem dX12_law_26 : decode cX12_law 26 = .ok (.goto 4, 3) := by decide +kernel
theorem dX12_law_29 : decode cX12_law 29 = .ok (.iconst 1, 1) := by decide +kernel
theorem dX12_law_30 : decode cX12_law 30 = .ok (.putfield 31, 3) := by decide +kernel
theorem dX12_law_33 : decode cX12_law 33 = .ok (.aload_n 0, 1) := by decide +kernel
theorem dX12_law_34 : decode cX12_law 34 = .ok (.getfield 31, 3) := by decide +kernel
theorem dX12_law_37 : decode cX12_law 37 = .ok (.ifCond .le 5, 3) := by decide +kernel
theorem dX12_law_40 : decode cX12_law 40 = .ok (.iconst 0, 1) := by decide +kernel
theorem dX12_law_41 : decode cX12_law 41 = .ok (.ireturn, 1) := by decide +kernel
theorem dX12_law_42 : decode cX12_law 42 = .ok (.aload_n 0, 1) := by decide +kernel
theorem dX12_law_43 : decode cX12_law 43 = .ok (.getfield 27, 3) := by decide +kernel
theorem dX12_law_46 : decode cX12_law 46 = .ok (.getfield 174, 3) := by decide +kernel
theorem dX12_law_49 : decode cX12_law 49 = .ok (.istore_n 3, 1) := by decide +kernel
theorem dX12_law_50 : decode cX12_law 50 = .ok (.aload_n 0, 1) := by decide +kernel
theorem dX12_law_51 : decode cX12_law 51 = .ok (.getfield 27, 3) := by decide +kernel
theorem dX12_law_54 : decode cX12_law 54 = .ok (.iload_n 1, 1) := by decide +kernel
theorem dX12_law_55 : decode cX12_law 55 = .ok (.putfield 174, 3) := by decide +kernel
theorem dX12_law_58 : decode cX12_law 58 = .ok (.aload_n 0, 1) := by decide +kernel
theorem dX12_law_59 : decode cX12_law 59 = .ok (.getfield 27, 3) := by decide +kernel
theorem dX12_law_62 : decode cX12_law 62 = .ok (.iload_n 2, 1) := by decide +kernel
theorem dX12_law_63 : decode cX12_law 63 = .ok (.putfield 177, 3) := by decide +kernel
theorem dX12_law_66 : decode cX12_law 66 = .ok (.iload_n 3, 1) := by decide +kernel
theorem dX12_law_67 : decode cX12_law 67 = .ok (.ireturn, 1) := by decide +kernel
theorem dX12_hours_0 : decode cX12_hours 0 = .ok (.aload_n 0, 1) := by decide +kernel
theorem dX12_hours_1 : decode cX12_hours 1 = .ok (.iload_n 1, 1) := by decide +kernel
theorem dX12_hours_2 : decode cX12_hours 2 = .ok (.i2l, 1) := by decide +kernel
theorem dX12_hours_3 : decode cX12_hours 3 = .ok (.lconst 1, 1) := by decide +kernel
theorem dX12_hours_4 : decode cX12_hours 4 = .ok (.ldc2_w 180, 3) := by decide +kernel
theorem dX12_hours_7 : decode cX12_hours 7 = .ok (.invokestatic 39, 3) := by decide +kernel
theorem dX12_hours_10 : decode cX12_hours 10 = .ok (.ifCond .eq 7, 3) := by decide +kernel
theorem dX12_hours_13 : decode cX12_hours 13 = .ok (.iconst 0, 1) := by decide +kernel
theorem dX12_hours_14 : decode cX12_hours 14 = .ok (.goto 4, 3) := by decide +kernel
theorem dX12_hours_17 : decode cX12_hours 17 = .ok (.iconst 1, 1) := by decide +kernel
theorem dX12_hours_18 : decode cX12_hours 18 = .ok (.putfield 31, 3) := by decide +kernel
theorem dX12_hours_21 : decode cX12_hours 21 = .ok (.iconst 0, 1) := by decide +kernel
theorem dX12_hours_22 : decode cX12_hours 22 = .ok (.istore_n 2, 1) := by decide +kernel
theorem dX12_hours_23 : decode cX12_hours 23 = .ok (.iload_n 2, 1) := by decide +kernel
theorem dX12_hours_24 : decode cX12_hours 24 = .ok (.iload_n 1, 1) := by decide +kernel
theorem dX12_hours_25 : decode cX12_hours 25 = .ok (.if_icmp .ge 131, 3) := by decide +kernel
theorem dX12_hours_28 : decode cX12_hours 28 = .ok (.aload_n 0, 1) := by decide +kernel
theorem dX12_hours_29 : decode cX12_hours 29 = .ok (.getfield 31, 3) := by decide +kernel
theorem dX12_hours_32 : decode cX12_hours 32 = .ok (.ifCond .ne 124, 3) := by decide +kernel
theorem dX12_hours_35 : decode cX12_hours 35 = .ok (.aload_n 0, 1) := by decide +kernel
theorem dX12_hours_36 : decode cX12_hours 36 = .ok (.getfield 18, 3) := by decide +kernel
theorem dX12_hours_39 : decode cX12_hours 39 = .ok (.invokevirtual 182, 3) := by decide +kernel
theorem dX12_hours_42 : decode cX12_hours 42 = .ok (.astore_n 3, 1) := by decide +kernel
theorem dX12_hours_43 : decode cX12_hours 43 = .ok (.aload_n 3, 1) := by decide +kernel
theorem dX12_hours_44 : decode cX12_hours 44 = .ok (.invokeinterface 186 1, 5) := by decide +kernel
theorem dX12_hours_49 : decode cX12_hours 49 = .ok (.ifCond .eq 91, 3) := by decide +kernel
theorem dX12_hours_52 : decode cX12_hours 52 = .ok (.aload_n 3, 1) := by decide +kernel
theorem dX12_hours_53 : decode cX12_hours 53 = .ok (.invokeinterface 191 1, 5) := by decide +kernel
theorem dX12_hours_58 : decode cX12_hours 58 = .ok (.checkcast 51, 3) := by decide +kernel
theorem dX12_hours_61 : decode cX12_hours 61 = .ok (.astore 4, 2) := by decide +kernel
theorem dX12_hours_63 : decode cX12_hours 63 = .ok (.aload_n 0, 1) := by decide +kernel
theorem dX12_hours_64 : decode cX12_hours 64 = .ok (.getfield 27, 3) := by decide +kernel
theorem dX12_hours_67 : decode cX12_hours 67 = .ok (.getfield 168, 3) := by decide +kernel
theorem dX12_hours_70 : decode cX12_hours 70 = .ok (.aload 4, 2) := by decide +kernel
theorem dX12_hours_72 : decode cX12_hours 72 = .ok (.getfield 195, 3) := by decide +kernel
theorem dX12_hours_75 : decode cX12_hours 75 = .ok (.iadd, 1) := by decide +kernel
theorem dX12_hours_76 : decode cX12_hours 76 = .ok (.aload 4, 2) := by decide +kernel
theorem dX12_hours_78 : decode cX12_hours 78 = .ok (.invokevirtual 198, 3) := by decide +kernel
theorem dX12_hours_81 : decode cX12_hours 81 = .ok (.iadd, 1) := by decide +kernel
theorem dX12_hours_82 : decode cX12_hours 82 = .ok (.istore 5, 2) := by decide +kernel
theorem dX12_hours_84 : decode cX12_hours 84 = .ok (.aload 4, 2) := by decide +kernel
theorem dX12_hours_86 : decode cX12_hours 86 = .ok (.iconst 0, 1) := by decide +kernel
theorem dX12_hours_87 : decode cX12_hours 87 = .ok (.putfield 195, 3) := by decide +kernel
theorem dX12_hours_90 : decode cX12_hours 90 = .ok (.aload 4, 2) := by decide +kernel
theorem dX12_hours_92 : decode cX12_hours 92 = .ok (.aload_n 0, 1) := by decide +kernel
theorem dX12_hours_93 : decode cX12_hours 93 = .ok (.getfield 27, 3) := by decide +kernel
theorem dX12_hours_96 : decode cX12_hours 96 = .ok (.iload 5, 2) := by decide +kernel
theorem dX12_hours_98 : decode cX12_hours 98 = .ok (.invokevirtual 201, 3) := by decide +kernel
theorem dX12_hours_101 : decode cX12_hours 101 = .ok (.istore 6, 2) := by decide +kernel
theorem dX12_hours_103 : decode cX12_hours 103 = .ok (.aload 4, 2) := by decide +kernel
theorem dX12_hours_105 : decode cX12_hours 105 = .ok (.getfield 93, 3) := by decide +kernel
theorem dX12_hours_108 : decode cX12_hours 108 = .ok (.iconst (-1), 1) := by decide +kernel
theorem dX12_hours_109 : decode cX12_hours 109 = .ok (.if_icmp .eq 28, 3) := by decide +kernel
theorem dX12_hours_112 : decode cX12_hours 112 = .ok (.aload_n 0, 1) := by decide +kernel
theorem dX12_hours_113 : decode cX12_hours 113 = .ok (.getfield 18, 3) := by decide +kernel
theorem dX12_hours_116 : decode cX12_hours 116 = .ok (.aload 4, 2) := by decide +kernel
theorem dX12_hours_118 : decode cX12_hours 118 = .ok (.getfield 93, 3) := by decide +kernel
theorem dX12_hours_121 : decode cX12_hours 121 = .ok (.invokevirtual 47, 3) := by decide +kernel
theorem dX12_hours_124 : decode cX12_hours 124 = .ok (.checkcast 51, 3) := by decide +kernel
theorem dX12_hours_127 : decode cX12_hours 127 = .ok (.dup, 1) := by decide +kernel
theorem dX12_hours_128 : decode cX12_hours 128 = .ok (.getfield 195, 3) := by decide +kernel
theorem dX12_hours_131 : decode cX12_hours 131 = .ok (.iload 6, 2) := by decide +kernel
theorem dX12_hours_133 : decode cX12_hours 133 = .ok (.iadd, 1) := by decide +kernel
theorem dX12_hours_134 : decode cX12_hours 134 = .ok (.putfield 195, 3) := by decide +kernel
theorem dX12_hours_137 : decode cX12_hours 137 = .ok (.goto (-94), 3) := by decide +kernel
theorem dX12_hours_140 : decode cX12_hours 140 = .ok (.aload_n 0, 1) := by decide +kernel
theorem dX12_hours_141 : decode cX12_hours 141 = .ok (.dup, 1) := by decide +kernel
theorem dX12_hours_142 : decode cX12_hours 142 = .ok (.getfield 205, 3) := by decide +kernel
theorem dX12_hours_145 : decode cX12_hours 145 = .ok (.iconst 1, 1) := by decide +kernel
theorem dX12_hours_146 : decode cX12_hours 146 = .ok (.iadd, 1) := by decide +kernel
theorem dX12_hours_147 : decode cX12_hours 147 = .ok (.putfield 205, 3) := by decide +kernel
theorem dX12_hours_150 : decode cX12_hours 150 = .ok (.iinc 2 1, 3) := by decide +kernel
theorem dX12_hours_153 : decode cX12_hours 153 = .ok (.goto (-130), 3) := by decide +kernel
theorem dX12_hours_156 : decode cX12_hours 156 = .ok (.aload_n 0, 1) := by decide +kernel
theorem dX12_hours_157 : decode cX12_hours 157 = .ok (.getfield 31, 3) := by decide +kernel
theorem dX12_hours_160 : decode cX12_hours 160 = .ok (.ifCond .le 7, 3) := by decide +kernel
theorem dX12_hours_163 : decode cX12_hours 163 = .ok (.iconst 0, 1) := by decide +kernel
theorem dX12_hours_164 : decode cX12_hours 164 = .ok (.goto 7, 3) := by decide +kernel
theorem dX12_hours_167 : decode cX12_hours 167 = .ok (.aload_n 0, 1) := by decide +kernel
theorem dX12_hours_168 : decode cX12_hours 168 = .ok (.getfield 205, 3) := by decide +kernel
theorem dX12_hours_171 : decode cX12_hours 171 = .ok (.ireturn, 1) := by decide +kernel
theorem dX12_standing_0 : decode cX12_standing 0 = .ok (.aload_n 0, 1) := by decide +kernel
theorem dX12_standing_1 : decode cX12_standing 1 = .ok (.iload_n 1, 1) := by decide +kernel
theorem dX12_standing_2 : decode cX12_standing 2 = .ok (.invokevirtual 67, 3) := by decide +kernel
theorem dX12_standing_5 : decode cX12_standing 5 = .ok (.ifCond .eq 7, 3) := by decide +kernel
theorem dX12_standing_8 : decode cX12_standing 8 = .ok (.iconst 0, 1) := by decide +kernel
theorem dX12_standing_9 : decode cX12_standing 9 = .ok (.goto 17, 3) := by decide +kernel
theorem dX12_standing_12 : decode cX12_standing 12 = .ok (.aload_n 0, 1) := by decide +kernel
theorem dX12_standing_13 : decode cX12_standing 13 = .ok (.getfield 18, 3) := by decide +kernel
theorem dX12_standing_16 : decode cX12_standing 16 = .ok (.iload_n 1, 1) := by decide +kernel
theorem dX12_standing_17 : decode cX12_standing 17 = .ok (.invokevirtual 47, 3) := by decide +kernel
theorem dX12_standing_20 : decode cX12_standing 20 = .ok (.checkcast 51, 3) := by decide +kernel
theorem dX12_standing_23 : decode cX12_standing 23 = .ok (.getfield 208, 3) := by decide +kernel
theorem dX12_standing_26 : decode cX12_standing 26 = .ok (.ireturn, 1) := by decide +kernel
theorem dX12_recharge_0 : decode cX12_recharge 0 = .ok (.aload_n 0, 1) := by decide +kernel
theorem dX12_recharge_1 : decode cX12_recharge 1 = .ok (.iload_n 1, 1) := by decide +kernel
theorem dX12_recharge_2 : decode cX12_recharge 2 = .ok (.invokevirtual 67, 3) := by decide +kernel
theorem dX12_recharge_5 : decode cX12_recharge 5 = .ok (.ifCond .eq 7, 3) := by decide +kernel
theorem dX12_recharge_8 : decode cX12_recharge 8 = .ok (.lconst 0, 1) := by decide +kernel
theorem dX12_recharge_9 : decode cX12_recharge 9 = .ok (.goto 17, 3) := by decide +kernel
theorem dX12_recharge_12 : decode cX12_recharge 12 = .ok (.aload_n 0, 1) := by decide +kernel
theorem dX12_recharge_13 : decode cX12_recharge 13 = .ok (.getfield 18, 3) := by decide +kernel
theorem dX12_recharge_16 : decode cX12_recharge 16 = .ok (.iload_n 1, 1) := by decide +kernel
theorem dX12_recharge_17 : decode cX12_recharge 17 = .ok (.invokevirtual 47, 3) := by decide +kernel
theorem dX12_recharge_20 : decode cX12_recharge 20 = .ok (.checkcast 51, 3) := by decide +kernel
theorem dX12_recharge_23 : decode cX12_recharge 23 = .ok (.getfield 211, 3) := by decide +kernel
theorem dX12_recharge_26 : decode cX12_recharge 26 = .ok (.lreturn, 1) := by decide +kernel
theorem dX12_runoff_0 : decode cX12_runoff 0 = .ok (.aload_n 0, 1) := by decide +kernel
theorem dX12_runoff_1 : decode cX12_runoff 1 = .ok (.iload_n 1, 1) := by decide +kernel
theorem dX12_runoff_2 : decode cX12_runoff 2 = .ok (.invokevirtual 67, 3) := by decide +kernel
theorem dX12_runoff_5 : decode cX12_runoff 5 = .ok (.ifCond .eq 7, 3) := by decide +kernel
theorem dX12_runoff_8 : decode cX12_runoff 8 = .ok (.lconst 0, 1) := by decide +kernel
theorem dX12_runoff_9 : decode cX12_runoff 9 = .ok (.goto 17, 3) := by decide +kernel
theorem dX12_runoff_12 : decode cX12_runoff 12 = .ok (.aload_n 0, 1) := by decide +kernel
theorem dX12_runoff_13 : decode cX12_runoff 13 = .ok (.getfield 18, 3) := by decide +kernel
theorem dX12_runoff_16 : decode cX12_runoff 16 = .ok (.iload_n 1, 1) := by decide +kernel
theorem dX12_runoff_17 : decode cX12_runoff 17 = .ok (.invokevirtual 47, 3) := by decide +kernel
theorem dX12_runoff_20 : decode cX12_runoff 20 = .ok (.checkcast 51, 3) := by decide +kernel
theorem dX12_runoff_23 : decode cX12_runoff 23 = .ok (.getfield 214, 3) := by decide +kernel
theorem dX12_runoff_26 : decode cX12_runoff 26 = .ok (.lreturn, 1) := by decide +kernel
theorem dX12_vapour_0 : decode cX12_vapour 0 = .ok (.aload_n 0, 1) := by decide +kernel
theorem dX12_vapour_1 : decode cX12_vapour 1 = .ok (.iload_n 1, 1) := by decide +kernel
theorem dX12_vapour_2 : decode cX12_vapour 2 = .ok (.invokevirtual 67, 3) := by decide +kernel
theorem dX12_vapour_5 : decode cX12_vapour 5 = .ok (.ifCond .eq 7, 3) := by decide +kernel
theorem dX12_vapour_8 : decode cX12_vapour 8 = .ok (.lconst 0, 1) := by decide +kernel
theorem dX12_vapour_9 : decode cX12_vapour 9 = .ok (.goto 17, 3) := by decide +kernel
theorem dX12_vapour_12 : decode cX12_vapour 12 = .ok (.aload_n 0, 1) := by decide +kernel
theorem dX12_vapour_13 : decode cX12_vapour 13 = .ok (.getfield 18, 3) := by decide +kernel
theorem dX12_vapour_16 : decode cX12_vapour 16 = .ok (.iload_n 1, 1) := by decide +kernel
theorem dX12_vapour_17 : decode cX12_vapour 17 = .ok (.invokevirtual 47, 3) := by decide +kernel
theorem dX12_vapour_20 : decode cX12_vapour 20 = .ok (.checkcast 51, 3) := by decide +kernel
theorem dX12_vapour_23 : decode cX12_vapour 23 = .ok (.getfield 217, 3) := by decide +kernel
theorem dX12_vapour_26 : decode cX12_vapour 26 = .ok (.lreturn, 1) := by decide +kernel
theorem dX12_isFrozen_0 : decode cX12_isFrozen 0 = .ok (.aload_n 0, 1) := by decide +kernel
theorem dX12_isFrozen_1 : decode cX12_isFrozen 1 = .ok (.iload_n 1, 1) := by decide +kernel
theorem dX12_isFrozen_2 : decode cX12_isFrozen 2 = .ok (.iload_n 2, 1) := by decide +kernel
theorem dX12_isFrozen_3 : decode cX12_isFrozen 3 = .ok (.invokevirtual 79, 3) := by decide +kernel
theorem dX12_isFrozen_6 : decode cX12_isFrozen 6 = .ok (.ifCond .ne 19, 3) := by decide +kernel
theorem dX12_isFrozen_9 : decode cX12_isFrozen 9 = .ok (.aload_n 0, 1) := by decide +kernel
theorem dX12_isFrozen_10 : decode cX12_isFrozen 10 = .ok (.iload_n 1, 1) := by decide +kernel
theorem dX12_isFrozen_11 : decode cX12_isFrozen 11 = .ok (.iload_n 2, 1) := by decide +kernel
theorem dX12_isFrozen_12 : decode cX12_isFrozen 12 = .ok (.invokevirtual 83, 3) := by decide +kernel
theorem dX12_isFrozen_15 : decode cX12_isFrozen 15 = .ok (.getfield 220, 3) := by decide +kernel
theorem dX12_isFrozen_18 : decode cX12_isFrozen 18 = .ok (.ifCond .eq 7, 3) := by decide +kernel
theorem dX12_isFrozen_21 : decode cX12_isFrozen 21 = .ok (.iconst 1, 1) := by decide +kernel
theorem dX12_isFrozen_22 : decode cX12_isFrozen 22 = .ok (.goto 4, 3) := by decide +kernel
theorem dX12_isFrozen_25 : decode cX12_isFrozen 25 = .ok (.iconst 0, 1) := by decide +kernel
theorem dX12_isFrozen_26 : decode cX12_isFrozen 26 = .ok (.ireturn, 1) := by decide +kernel
theorem dX12_frost_0 : decode cX12_frost 0 = .ok (.aload_n 0, 1) := by decide +kernel
theorem dX12_frost_1 : decode cX12_frost 1 = .ok (.iload_n 1, 1) := by decide +kernel
theorem dX12_frost_2 : decode cX12_frost 2 = .ok (.iload_n 2, 1) := by decide +kernel
theorem dX12_frost_3 : decode cX12_frost 3 = .ok (.invokevirtual 79, 3) := by decide +kernel
theorem dX12_frost_6 : decode cX12_frost 6 = .ok (.ifCond .eq 7, 3) := by decide +kernel
theorem dX12_frost_9 : decode cX12_frost 9 = .ok (.iconst 0, 1) := by decide +kernel
theorem dX12_frost_10 : decode cX12_frost 10 = .ok (.goto 12, 3) := by decide +kernel
theorem dX12_frost_13 : decode cX12_frost 13 = .ok (.aload_n 0, 1) := by decide +kernel
theorem dX12_frost_14 : decode cX12_frost 14 = .ok (.iload_n 1, 1) := by decide +kernel
theorem dX12_frost_15 : decode cX12_frost 15 = .ok (.iload_n 2, 1) := by decide +kernel
theorem dX12_frost_16 : decode cX12_frost 16 = .ok (.invokevirtual 83, 3) := by decide +kernel
theorem dX12_frost_19 : decode cX12_frost 19 = .ok (.getfield 223, 3) := by decide +kernel
theorem dX12_frost_22 : decode cX12_frost 22 = .ok (.ireturn, 1) := by decide +kernel
theorem dX12_heave_0 : decode cX12_heave 0 = .ok (.aload_n 0, 1) := by decide +kernel
theorem dX12_heave_1 : decode cX12_heave 1 = .ok (.iload_n 1, 1) := by decide +kernel
theorem dX12_heave_2 : decode cX12_heave 2 = .ok (.invokevirtual 67, 3) := by decide +kernel
theorem dX12_heave_5 : decode cX12_heave 5 = .ok (.ifCond .eq 5, 3) := by decide +kernel
theorem dX12_heave_8 : decode cX12_heave 8 = .ok (.iconst 0, 1) := by decide +kernel
theorem dX12_heave_9 : decode cX12_heave 9 = .ok (.ireturn, 1) := by decide +kernel
theorem dX12_heave_10 : decode cX12_heave 10 = .ok (.iconst 0, 1) := by decide +kernel
theorem dX12_heave_11 : decode cX12_heave 11 = .ok (.istore_n 2, 1) := by decide +kernel
theorem dX12_heave_12 : decode cX12_heave 12 = .ok (.aload_n 0, 1) := by decide +kernel
theorem dX12_heave_13 : decode cX12_heave 13 = .ok (.getfield 18, 3) := by decide +kernel
theorem dX12_heave_16 : decode cX12_heave 16 = .ok (.iload_n 1, 1) := by decide +kernel
theorem dX12_heave_17 : decode cX12_heave 17 = .ok (.invokevirtual 47, 3) := by decide +kernel
theorem dX12_heave_20 : decode cX12_heave 20 = .ok (.checkcast 51, 3) := by decide +kernel
theorem dX12_heave_23 : decode cX12_heave 23 = .ok (.getfield 53, 3) := by decide +kernel
theorem dX12_heave_26 : decode cX12_heave 26 = .ok (.invokevirtual 182, 3) := by decide +kernel
theorem dX12_heave_29 : decode cX12_heave 29 = .ok (.astore_n 3, 1) := by decide +kernel
theorem dX12_heave_30 : decode cX12_heave 30 = .ok (.aload_n 3, 1) := by decide +kernel
theorem dX12_heave_31 : decode cX12_heave 31 = .ok (.invokeinterface 186 1, 5) := by decide +kernel
theorem dX12_heave_36 : decode cX12_heave 36 = .ok (.ifCond .eq 37, 3) := by decide +kernel
theorem dX12_heave_39 : decode cX12_heave 39 = .ok (.aload_n 3, 1) := by decide +kernel
theorem dX12_heave_40 : decode cX12_heave 40 = .ok (.invokeinterface 191 1, 5) := by decide +kernel
theorem dX12_heave_45 : decode cX12_heave 45 = .ok (.checkcast 56, 3) := by decide +kernel
theorem dX12_heave_48 : decode cX12_heave 48 = .ok (.astore 4, 2) := by decide +kernel
theorem dX12_heave_50 : decode cX12_heave 50 = .ok (.iload_n 2, 1) := by decide +kernel
theorem dX12_heave_51 : decode cX12_heave 51 = .ok (.aload 4, 2) := by decide +kernel
theorem dX12_heave_53 : decode cX12_heave 53 = .ok (.getfield 220, 3) := by decide +kernel
theorem dX12_heave_56 : decode cX12_heave 56 = .ok (.ifCond .eq 11, 3) := by decide +kernel
theorem dX12_heave_59 : decode cX12_heave 59 = .ok (.aload 4, 2) := by decide +kernel
theorem dX12_heave_61 : decode cX12_heave 61 = .ok (.getfield 90, 3) := by decide +kernel
theorem dX12_heave_64 : decode cX12_heave 64 = .ok (.goto 4, 3) := by decide +kernel
theorem dX12_heave_67 : decode cX12_heave 67 = .ok (.iconst 0, 1) := by decide +kernel
theorem dX12_heave_68 : decode cX12_heave 68 = .ok (.iadd, 1) := by decide +kernel
theorem dX12_heave_69 : decode cX12_heave 69 = .ok (.istore_n 2, 1) := by decide +kernel
theorem dX12_heave_70 : decode cX12_heave 70 = .ok (.goto (-40), 3) := by decide +kernel
theorem dX12_heave_73 : decode cX12_heave 73 = .ok (.iload_n 2, 1) := by decide +kernel
theorem dX12_heave_74 : decode cX12_heave 74 = .ok (.bipush 10, 2) := by decide +kernel
theorem dX12_heave_76 : decode cX12_heave 76 = .ok (.idiv, 1) := by decide +kernel
theorem dX12_heave_77 : decode cX12_heave 77 = .ok (.ireturn, 1) := by decide +kernel
theorem dX12_crack_0 : decode cX12_crack 0 = .ok (.aload_n 0, 1) := by decide +kernel
theorem dX12_crack_1 : decode cX12_crack 1 = .ok (.iload_n 1, 1) := by decide +kernel
theorem dX12_crack_2 : decode cX12_crack 2 = .ok (.invokevirtual 67, 3) := by decide +kernel
theorem dX12_crack_5 : decode cX12_crack 5 = .ok (.ifCond .eq 7, 3) := by decide +kernel
theorem dX12_crack_8 : decode cX12_crack 8 = .ok (.iconst 0, 1) := by decide +kernel
theorem dX12_crack_9 : decode cX12_crack 9 = .ok (.goto 17, 3) := by decide +kernel
theorem dX12_crack_12 : decode cX12_crack 12 = .ok (.aload_n 0, 1) := by decide +kernel
theorem dX12_crack_13 : decode cX12_crack 13 = .ok (.getfield 18, 3) := by decide +kernel
theorem dX12_crack_16 : decode cX12_crack 16 = .ok (.iload_n 1, 1) := by decide +kernel
theorem dX12_crack_17 : decode cX12_crack 17 = .ok (.invokevirtual 47, 3) := by decide +kernel
theorem dX12_crack_20 : decode cX12_crack 20 = .ok (.checkcast 51, 3) := by decide +kernel
theorem dX12_crack_23 : decode cX12_crack 23 = .ok (.invokevirtual 226, 3) := by decide +kernel
theorem dX12_crack_26 : decode cX12_crack 26 = .ok (.ireturn, 1) := by decide +kernel
theorem dX12_tension_0 : decode cX12_tension 0 = .ok (.aload_n 0, 1) := by decide +kernel
theorem dX12_tension_1 : decode cX12_tension 1 = .ok (.iload_n 1, 1) := by decide +kernel
theorem dX12_tension_2 : decode cX12_tension 2 = .ok (.iload_n 2, 1) := by decide +kernel
theorem dX12_tension_3 : decode cX12_tension 3 = .ok (.invokevirtual 79, 3) := by decide +kernel
theorem dX12_tension_6 : decode cX12_tension 6 = .ok (.ifCond .eq 5, 3) := by decide +kernel
theorem dX12_tension_9 : decode cX12_tension 9 = .ok (.iconst 0, 1) := by decide +kernel
theorem dX12_tension_10 : decode cX12_tension 10 = .ok (.ireturn, 1) := by decide +kernel
theorem dX12_tension_11 : decode cX12_tension 11 = .ok (.aload_n 0, 1) := by decide +kernel
theorem dX12_tension_12 : decode cX12_tension 12 = .ok (.iload_n 1, 1) := by decide +kernel
theorem dX12_tension_13 : decode cX12_tension 13 = .ok (.iload_n 2, 1) := by decide +kernel
theorem dX12_tension_14 : decode cX12_tension 14 = .ok (.invokevirtual 83, 3) := by decide +kernel
theorem dX12_tension_17 : decode cX12_tension 17 = .ok (.astore_n 3, 1) := by decide +kernel
theorem dX12_tension_18 : decode cX12_tension 18 = .ok (.aload_n 3, 1) := by decide +kernel
theorem dX12_tension_19 : decode cX12_tension 19 = .ok (.getfield 87, 3) := by decide +kernel
theorem dX12_tension_22 : decode cX12_tension 22 = .ok (.aload_n 3, 1) := by decide +kernel
theorem dX12_tension_23 : decode cX12_tension 23 = .ok (.getfield 90, 3) := by decide +kernel
theorem dX12_tension_26 : decode cX12_tension 26 = .ok (.isub, 1) := by decide +kernel
theorem dX12_tension_27 : decode cX12_tension 27 = .ok (.sipush 900, 3) := by decide +kernel
theorem dX12_tension_30 : decode cX12_tension 30 = .ok (.imul, 1) := by decide +kernel
theorem dX12_tension_31 : decode cX12_tension 31 = .ok (.aload_n 3, 1) := by decide +kernel
theorem dX12_tension_32 : decode cX12_tension 32 = .ok (.getfield 87, 3) := by decide +kernel
theorem dX12_tension_35 : decode cX12_tension 35 = .ok (.aload_n 3, 1) := by decide +kernel
theorem dX12_tension_36 : decode cX12_tension 36 = .ok (.getfield 229, 3) := by decide +kernel
theorem dX12_tension_39 : decode cX12_tension 39 = .ok (.isub, 1) := by decide +kernel
theorem dX12_tension_40 : decode cX12_tension 40 = .ok (.idiv, 1) := by decide +kernel
theorem dX12_tension_41 : decode cX12_tension 41 = .ok (.istore 4, 2) := by decide +kernel
theorem dX12_tension_43 : decode cX12_tension 43 = .ok (.aload_n 0, 1) := by decide +kernel
theorem dX12_tension_44 : decode cX12_tension 44 = .ok (.iload 4, 2) := by decide +kernel
theorem dX12_tension_46 : decode cX12_tension 46 = .ok (.sipush 800, 3) := by decide +kernel
theorem dX12_tension_49 : decode cX12_tension 49 = .ok (.if_icmp .gt 10, 3) := by decide +kernel
theorem dX12_tension_52 : decode cX12_tension 52 = .ok (.aload_n 3, 1) := by decide +kernel
theorem dX12_tension_53 : decode cX12_tension 53 = .ok (.getfield 220, 3) := by decide +kernel
theorem dX12_tension_56 : decode cX12_tension 56 = .ok (.ifCond .eq 7, 3) := by decide +kernel
theorem dX12_tension_59 : decode cX12_tension 59 = .ok (.iconst 2, 1) := by decide +kernel
theorem dX12_tension_60 : decode cX12_tension 60 = .ok (.goto 4, 3) := by decide +kernel
theorem dX12_tension_63 : decode cX12_tension 63 = .ok (.iconst 0, 1) := by decide +kernel
theorem dX12_tension_64 : decode cX12_tension 64 = .ok (.putfield 31, 3) := by decide +kernel
theorem dX12_tension_67 : decode cX12_tension 67 = .ok (.aload_n 0, 1) := by decide +kernel
theorem dX12_tension_68 : decode cX12_tension 68 = .ok (.getfield 31, 3) := by decide +kernel
theorem dX12_tension_71 : decode cX12_tension 71 = .ok (.ifCond .le 7, 3) := by decide +kernel
theorem dX12_tension_74 : decode cX12_tension 74 = .ok (.iconst 0, 1) := by decide +kernel
theorem dX12_tension_75 : decode cX12_tension 75 = .ok (.goto 5, 3) := by decide +kernel
theorem dX12_tension_78 : decode cX12_tension 78 = .ok (.iload 4, 2) := by decide +kernel
theorem dX12_tension_80 : decode cX12_tension 80 = .ok (.ireturn, 1) := by decide +kernel
theorem dX12_reflection_0 : decode cX12_reflection 0 = .ok (.aload_n 0, 1) := by decide +kernel
theorem dX12_reflection_1 : decode cX12_reflection 1 = .ok (.iload_n 1, 1) := by decide +kernel
theorem dX12_reflection_2 : decode cX12_reflection 2 = .ok (.iload_n 2, 1) := by decide +kernel
theorem dX12_reflection_3 : decode cX12_reflection 3 = .ok (.invokevirtual 79, 3) := by decide +kernel
theorem dX12_reflection_6 : decode cX12_reflection 6 = .ok (.ifCond .eq 5, 3) := by decide +kernel
theorem dX12_reflection_9 : decode cX12_reflection 9 = .ok (.iconst 0, 1) := by decide +kernel
theorem dX12_reflection_10 : decode cX12_reflection 10 = .ok (.ireturn, 1) := by decide +kernel
theorem dX12_reflection_11 : decode cX12_reflection 11 = .ok (.aload_n 0, 1) := by decide +kernel
theorem dX12_reflection_12 : decode cX12_reflection 12 = .ok (.iload_n 1, 1) := by decide +kernel
theorem dX12_reflection_13 : decode cX12_reflection 13 = .ok (.iload_n 2, 1) := by decide +kernel
theorem dX12_reflection_14 : decode cX12_reflection 14 = .ok (.invokevirtual 83, 3) := by decide +kernel
theorem dX12_reflection_17 : decode cX12_reflection 17 = .ok (.astore_n 3, 1) := by decide +kernel
theorem dX12_reflection_18 : decode cX12_reflection 18 = .ok (.aload_n 3, 1) := by decide +kernel
theorem dX12_reflection_19 : decode cX12_reflection 19 = .ok (.getfield 90, 3) := by decide +kernel
theorem dX12_reflection_22 : decode cX12_reflection 22 = .ok (.bipush 100, 2) := by decide +kernel
theorem dX12_reflection_24 : decode cX12_reflection 24 = .ok (.imul, 1) := by decide +kernel
theorem dX12_reflection_25 : decode cX12_reflection 25 = .ok (.aload_n 3, 1) := by decide +kernel
theorem dX12_reflection_26 : decode cX12_reflection 26 = .ok (.getfield 232, 3) := by decide +kernel
theorem dX12_reflection_29 : decode cX12_reflection 29 = .ok (.idiv, 1) := by decide +kernel
theorem dX12_reflection_30 : decode cX12_reflection 30 = .ok (.aload_n 0, 1) := by decide +kernel
theorem dX12_reflection_31 : decode cX12_reflection 31 = .ok (.getfield 18, 3) := by decide +kernel
theorem dX12_reflection_34 : decode cX12_reflection 34 = .ok (.iload_n 1, 1) := by decide +kernel
theorem dX12_reflection_35 : decode cX12_reflection 35 = .ok (.invokevirtual 47, 3) := by decide +kernel
theorem dX12_reflection_38 : decode cX12_reflection 38 = .ok (.checkcast 51, 3) := by decide +kernel
theorem dX12_reflection_41 : decode cX12_reflection 41 = .ok (.getfield 235, 3) := by decide +kernel
theorem dX12_reflection_44 : decode cX12_reflection 44 = .ok (.bipush 24, 2) := by decide +kernel
theorem dX12_reflection_46 : decode cX12_reflection 46 = .ok (.idiv, 1) := by decide +kernel
theorem dX12_reflection_47 : decode cX12_reflection 47 = .ok (.iadd, 1) := by decide +kernel
theorem dX12_reflection_48 : decode cX12_reflection 48 = .ok (.istore 4, 2) := by decide +kernel
theorem dX12_reflection_50 : decode cX12_reflection 50 = .ok (.aload_n 0, 1) := by decide +kernel
theorem dX12_reflection_51 : decode cX12_reflection 51 = .ok (.iload 4, 2) := by decide +kernel
theorem dX12_reflection_53 : decode cX12_reflection 53 = .ok (.sipush 500, 3) := by decide +kernel
theorem dX12_reflection_56 : decode cX12_reflection 56 = .ok (.if_icmp .le 7, 3) := by decide +kernel
theorem dX12_reflection_59 : decode cX12_reflection 59 = .ok (.iconst 2, 1) := by decide +kernel
theorem dX12_reflection_60 : decode cX12_reflection 60 = .ok (.goto 4, 3) := by decide +kernel
theorem dX12_reflection_63 : decode cX12_reflection 63 = .ok (.iconst 0, 1) := by decide +kernel
theorem dX12_reflection_64 : decode cX12_reflection 64 = .ok (.putfield 31, 3) := by decide +kernel
theorem dX12_reflection_67 : decode cX12_reflection 67 = .ok (.aload_n 0, 1) := by decide +kernel
theorem dX12_reflection_68 : decode cX12_reflection 68 = .ok (.getfield 31, 3) := by decide +kernel
theorem dX12_reflection_71 : decode cX12_reflection 71 = .ok (.ifCond .le 7, 3) := by decide +kernel
theorem dX12_reflection_74 : decode cX12_reflection 74 = .ok (.iconst 0, 1) := by decide +kernel
theorem dX12_reflection_75 : decode cX12_reflection 75 = .ok (.goto 5, 3) := by decide +kernel
theorem dX12_reflection_78 : decode cX12_reflection 78 = .ok (.iload 4, 2) := by decide +kernel
theorem dX12_reflection_80 : decode cX12_reflection 80 = .ok (.ireturn, 1) := by decide +kernel
theorem dX12_setRight_0 : decode cX12_setRight 0 = .ok (.aload_n 0, 1) := by decide +kernel
theorem dX12_setRight_1 : decode cX12_setRight 1 = .ok (.iload_n 1, 1) := by decide +kernel
theorem dX12_setRight_2 : decode cX12_setRight 2 = .ok (.invokevirtual 67, 3) := by decide +kernel
theorem dX12_setRight_5 : decode cX12_setRight 5 = .ok (.ifCond .eq 5, 3) := by decide +kernel
theorem dX12_setRight_8 : decode cX12_setRight 8 = .ok (.iconst 0, 1) := by decide +kernel
theorem dX12_setRight_9 : decode cX12_setRight 9 = .ok (.ireturn, 1) := by decide +kernel
theorem dX12_setRight_10 : decode cX12_setRight 10 = .ok (.aload_n 0, 1) := by decide +kernel
theorem dX12_setRight_11 : decode cX12_setRight 11 = .ok (.getfield 18, 3) := by decide +kernel
theorem dX12_setRight_14 : decode cX12_setRight 14 = .ok (.iload_n 1, 1) := by decide +kernel
theorem dX12_setRight_15 : decode cX12_setRight 15 = .ok (.invokevirtual 47, 3) := by decide +kernel
theorem dX12_setRight_18 : decode cX12_setRight 18 = .ok (.checkcast 51, 3) := by decide +kernel
theorem dX12_setRight_21 : decode cX12_setRight 21 = .ok (.getfield 235, 3) := by decide +kernel
theorem dX12_setRight_24 : decode cX12_setRight 24 = .ok (.bipush 24, 2) := by decide +kernel
theorem dX12_setRight_26 : decode cX12_setRight 26 = .ok (.idiv, 1) := by decide +kernel
theorem dX12_setRight_27 : decode cX12_setRight 27 = .ok (.istore_n 2, 1) := by decide +kernel
theorem dX12_setRight_28 : decode cX12_setRight 28 = .ok (.aload_n 0, 1) := by decide +kernel
theorem dX12_setRight_29 : decode cX12_setRight 29 = .ok (.getfield 18, 3) := by decide +kernel
theorem dX12_setRight_32 : decode cX12_setRight 32 = .ok (.iload_n 1, 1) := by decide +kernel
theorem dX12_setRight_33 : decode cX12_setRight 33 = .ok (.invokevirtual 47, 3) := by decide +kernel
theorem dX12_setRight_36 : decode cX12_setRight 36 = .ok (.checkcast 51, 3) := by decide +kernel
theorem dX12_setRight_39 : decode cX12_setRight 39 = .ok (.iconst 0, 1) := by decide +kernel
theorem dX12_setRight_40 : decode cX12_setRight 40 = .ok (.putfield 235, 3) := by decide +kernel
theorem dX12_setRight_43 : decode cX12_setRight 43 = .ok (.iload_n 2, 1) := by decide +kernel
theorem dX12_setRight_44 : decode cX12_setRight 44 = .ok (.ireturn, 1) := by decide +kernel
theorem dX12_weigh_0 : decode cX12_weigh 0 = .ok (.aload_n 0, 1) := by decide +kernel
theorem dX12_weigh_1 : decode cX12_weigh 1 = .ok (.iload_n 1, 1) := by decide +kernel
theorem dX12_weigh_2 : decode cX12_weigh 2 = .ok (.invokevirtual 67, 3) := by decide +kernel
theorem dX12_weigh_5 : decode cX12_weigh 5 = .ok (.ifCond .eq 5, 3) := by decide +kernel
theorem dX12_weigh_8 : decode cX12_weigh 8 = .ok (.iconst 0, 1) := by decide +kernel
theorem dX12_weigh_9 : decode cX12_weigh 9 = .ok (.ireturn, 1) := by decide +kernel
theorem dX12_weigh_10 : decode cX12_weigh 10 = .ok (.aload_n 0, 1) := by decide +kernel
theorem dX12_weigh_11 : decode cX12_weigh 11 = .ok (.getfield 18, 3) := by decide +kernel
theorem dX12_weigh_14 : decode cX12_weigh 14 = .ok (.iload_n 1, 1) := by decide +kernel
theorem dX12_weigh_15 : decode cX12_weigh 15 = .ok (.invokevirtual 47, 3) := by decide +kernel
theorem dX12_weigh_18 : decode cX12_weigh 18 = .ok (.checkcast 51, 3) := by decide +kernel
theorem dX12_weigh_21 : decode cX12_weigh 21 = .ok (.getfield 208, 3) := by decide +kernel
theorem dX12_weigh_24 : decode cX12_weigh 24 = .ok (.istore_n 2, 1) := by decide +kernel
theorem dX12_weigh_25 : decode cX12_weigh 25 = .ok (.aload_n 0, 1) := by decide +kernel
theorem dX12_weigh_26 : decode cX12_weigh 26 = .ok (.getfield 18, 3) := by decide +kernel
theorem dX12_weigh_29 : decode cX12_weigh 29 = .ok (.iload_n 1, 1) := by decide +kernel
theorem dX12_weigh_30 : decode cX12_weigh 30 = .ok (.invokevirtual 47, 3) := by decide +kernel
theorem dX12_weigh_33 : decode cX12_weigh 33 = .ok (.checkcast 51, 3) := by decide +kernel
theorem dX12_weigh_36 : decode cX12_weigh 36 = .ok (.getfield 53, 3) := by decide +kernel
theorem dX12_weigh_39 : decode cX12_weigh 39 = .ok (.invokevirtual 182, 3) := by decide +kernel
theorem dX12_weigh_42 : decode cX12_weigh 42 = .ok (.astore_n 3, 1) := by decide +kernel
theorem dX12_weigh_43 : decode cX12_weigh 43 = .ok (.aload_n 3, 1) := by decide +kernel
theorem dX12_weigh_44 : decode cX12_weigh 44 = .ok (.invokeinterface 186 1, 5) := by decide +kernel
theorem dX12_weigh_49 : decode cX12_weigh 49 = .ok (.ifCond .eq 25, 3) := by decide +kernel
theorem dX12_weigh_52 : decode cX12_weigh 52 = .ok (.aload_n 3, 1) := by decide +kernel
theorem dX12_weigh_53 : decode cX12_weigh 53 = .ok (.invokeinterface 191 1, 5) := by decide +kernel
theorem dX12_weigh_58 : decode cX12_weigh 58 = .ok (.checkcast 56, 3) := by decide +kernel
theorem dX12_weigh_61 : decode cX12_weigh 61 = .ok (.astore 4, 2) := by decide +kernel
theorem dX12_weigh_63 : decode cX12_weigh 63 = .ok (.iload_n 2, 1) := by decide +kernel
theorem dX12_weigh_64 : decode cX12_weigh 64 = .ok (.aload 4, 2) := by decide +kernel
theorem dX12_weigh_66 : decode cX12_weigh 66 = .ok (.getfield 90, 3) := by decide +kernel
theorem dX12_weigh_69 : decode cX12_weigh 69 = .ok (.iadd, 1) := by decide +kernel
theorem dX12_weigh_70 : decode cX12_weigh 70 = .ok (.istore_n 2, 1) := by decide +kernel
theorem dX12_weigh_71 : decode cX12_weigh 71 = .ok (.goto (-28), 3) := by decide +kernel
theorem dX12_weigh_74 : decode cX12_weigh 74 = .ok (.iload_n 2, 1) := by decide +kernel
theorem dX12_weigh_75 : decode cX12_weigh 75 = .ok (.iconst 5, 1) := by decide +kernel
theorem dX12_weigh_76 : decode cX12_weigh 76 = .ok (.idiv, 1) := by decide +kernel
theorem dX12_weigh_77 : decode cX12_weigh 77 = .ok (.iconst 5, 1) := by decide +kernel
theorem dX12_weigh_78 : decode cX12_weigh 78 = .ok (.imul, 1) := by decide +kernel
theorem dX12_weigh_79 : decode cX12_weigh 79 = .ok (.ireturn, 1) := by decide +kernel
theorem dX12_fines_0 : decode cX12_fines 0 = .ok (.aload_n 0, 1) := by decide +kernel
theorem dX12_fines_1 : decode cX12_fines 1 = .ok (.iload_n 1, 1) := by decide +kernel
theorem dX12_fines_2 : decode cX12_fines 2 = .ok (.invokevirtual 67, 3) := by decide +kernel
theorem dX12_fines_5 : decode cX12_fines 5 = .ok (.ifCond .eq 7, 3) := by decide +kernel
theorem dX12_fines_8 : decode cX12_fines 8 = .ok (.lconst 0, 1) := by decide +kernel
theorem dX12_fines_9 : decode cX12_fines 9 = .ok (.goto 17, 3) := by decide +kernel
theorem dX12_fines_12 : decode cX12_fines 12 = .ok (.aload_n 0, 1) := by decide +kernel
theorem dX12_fines_13 : decode cX12_fines 13 = .ok (.getfield 18, 3) := by decide +kernel
theorem dX12_fines_16 : decode cX12_fines 16 = .ok (.iload_n 1, 1) := by decide +kernel
theorem dX12_fines_17 : decode cX12_fines 17 = .ok (.invokevirtual 47, 3) := by decide +kernel
theorem dX12_fines_20 : decode cX12_fines 20 = .ok (.checkcast 51, 3) := by decide +kernel
theorem dX12_fines_23 : decode cX12_fines 23 = .ok (.getfield 238, 3) := by decide +kernel
theorem dX12_fines_26 : decode cX12_fines 26 = .ok (.lreturn, 1) := by decide +kernel
theorem dX12_forecastOf_0 : decode cX12_forecastOf 0 = .ok (.aload_n 0, 1) := by decide +kernel
theorem dX12_forecastOf_1 : decode cX12_forecastOf 1 = .ok (.getfield 18, 3) := by decide +kernel
theorem dX12_forecastOf_4 : decode cX12_forecastOf 4 = .ok (.iload_n 1, 1) := by decide +kernel
theorem dX12_forecastOf_5 : decode cX12_forecastOf 5 = .ok (.invokevirtual 47, 3) := by decide +kernel
theorem dX12_forecastOf_8 : decode cX12_forecastOf 8 = .ok (.checkcast 51, 3) := by decide +kernel
theorem dX12_forecastOf_11 : decode cX12_forecastOf 11 = .ok (.invokevirtual 241, 3) := by decide +kernel
theorem dX12_forecastOf_14 : decode cX12_forecastOf 14 = .ok (.astore 4, 2) := by decide +kernel
theorem dX12_forecastOf_16 : decode cX12_forecastOf 16 = .ok (.aload 4, 2) := by decide +kernel
theorem dX12_forecastOf_18 : decode cX12_forecastOf 18 = .ok (.iload_n 3, 1) := by decide +kernel
theorem dX12_forecastOf_19 : decode cX12_forecastOf 19 = .ok (.putfield 100, 3) := by decide +kernel
theorem dX12_forecastOf_22 : decode cX12_forecastOf 22 = .ok (.iconst 0, 1) := by decide +kernel
theorem dX12_forecastOf_23 : decode cX12_forecastOf 23 = .ok (.istore 5, 2) := by decide +kernel
theorem dX12_forecastOf_25 : decode cX12_forecastOf 25 = .ok (.iload 5, 2) := by decide +kernel
theorem dX12_forecastOf_27 : decode cX12_forecastOf 27 = .ok (.iload_n 2, 1) := by decide +kernel
theorem dX12_forecastOf_28 : decode cX12_forecastOf 28 = .ok (.if_icmp .ge 21, 3) := by decide +kernel
theorem dX12_forecastOf_31 : decode cX12_forecastOf 31 = .ok (.aload 4, 2) := by decide +kernel
theorem dX12_forecastOf_33 : decode cX12_forecastOf 33 = .ok (.aload_n 0, 1) := by decide +kernel
theorem dX12_forecastOf_34 : decode cX12_forecastOf 34 = .ok (.getfield 27, 3) := by decide +kernel
theorem dX12_forecastOf_37 : decode cX12_forecastOf 37 = .ok (.iconst 0, 1) := by decide +kernel
theorem dX12_forecastOf_38 : decode cX12_forecastOf 38 = .ok (.invokevirtual 201, 3) := by decide +kernel
theorem dX12_forecastOf_41 : decode cX12_forecastOf 41 = .ok (.istore 6, 2) := by decide +kernel
theorem dX12_forecastOf_43 : decode cX12_forecastOf 43 = .ok (.iinc 5 1, 3) := by decide +kernel
theorem dX12_forecastOf_46 : decode cX12_forecastOf 46 = .ok (.goto (-21), 3) := by decide +kernel
theorem dX12_forecastOf_49 : decode cX12_forecastOf 49 = .ok (.aload 4, 2) := by decide +kernel
theorem dX12_forecastOf_51 : decode cX12_forecastOf 51 = .ok (.getfield 211, 3) := by decide +kernel
theorem dX12_forecastOf_54 : decode cX12_forecastOf 54 = .ok (.lreturn, 1) := by decide +kernel
theorem dX12_forecast_0 : decode cX12_forecast 0 = .ok (.aload_n 0, 1) := by decide +kernel
theorem dX12_forecast_1 : decode cX12_forecast 1 = .ok (.iload_n 1, 1) := by decide +kernel
theorem dX12_forecast_2 : decode cX12_forecast 2 = .ok (.invokevirtual 67, 3) := by decide +kernel
theorem dX12_forecast_5 : decode cX12_forecast 5 = .ok (.ifCond .eq 5, 3) := by decide +kernel
theorem dX12_forecast_8 : decode cX12_forecast 8 = .ok (.lconst 0, 1) := by decide +kernel
theorem dX12_forecast_9 : decode cX12_forecast 9 = .ok (.lreturn, 1) := by decide +kernel
theorem dX12_forecast_10 : decode cX12_forecast 10 = .ok (.aload_n 0, 1) := by decide +kernel
theorem dX12_forecast_11 : decode cX12_forecast 11 = .ok (.iload_n 2, 1) := by decide +kernel
theorem dX12_forecast_12 : decode cX12_forecast 12 = .ok (.i2l, 1) := by decide +kernel
theorem dX12_forecast_13 : decode cX12_forecast 13 = .ok (.lconst 1, 1) := by decide +kernel
theorem dX12_forecast_14 : decode cX12_forecast 14 = .ok (.ldc2_w 180, 3) := by decide +kernel
theorem dX12_forecast_17 : decode cX12_forecast 17 = .ok (.invokestatic 39, 3) := by decide +kernel
theorem dX12_forecast_20 : decode cX12_forecast 20 = .ok (.ifCond .eq 21, 3) := by decide +kernel
theorem dX12_forecast_23 : decode cX12_forecast 23 = .ok (.iload_n 3, 1) := by decide +kernel
theorem dX12_forecast_24 : decode cX12_forecast 24 = .ok (.i2l, 1) := by decide +kernel
theorem dX12_forecast_25 : decode cX12_forecast 25 = .ok (.ldc2_w 96, 3) := by decide +kernel
theorem dX12_forecast_28 : decode cX12_forecast 28 = .ok (.ldc2_w 98, 3) := by decide +kernel
theorem dX12_forecast_31 : decode cX12_forecast 31 = .ok (.invokestatic 39, 3) := by decide +kernel
theorem dX12_forecast_34 : decode cX12_forecast 34 = .ok (.ifCond .eq 7, 3) := by decide +kernel
theorem dX12_forecast_37 : decode cX12_forecast 37 = .ok (.iconst 0, 1) := by decide +kernel
theorem dX12_forecast_38 : decode cX12_forecast 38 = .ok (.goto 4, 3) := by decide +kernel
theorem dX12_forecast_41 : decode cX12_forecast 41 = .ok (.iconst 2, 1) := by decide +kernel
theorem dX12_forecast_42 : decode cX12_forecast 42 = .ok (.putfield 31, 3) := by decide +kernel
theorem dX12_forecast_45 : decode cX12_forecast 45 = .ok (.aload_n 0, 1) := by decide +kernel
theorem dX12_forecast_46 : decode cX12_forecast 46 = .ok (.getfield 31, 3) := by decide +kernel
theorem dX12_forecast_49 : decode cX12_forecast 49 = .ok (.ifCond .le 7, 3) := by decide +kernel
theorem dX12_forecast_52 : decode cX12_forecast 52 = .ok (.lconst 0, 1) := by decide +kernel
theorem dX12_forecast_53 : decode cX12_forecast 53 = .ok (.goto 10, 3) := by decide +kernel
theorem dX12_forecast_56 : decode cX12_forecast 56 = .ok (.aload_n 0, 1) := by decide +kernel
theorem dX12_forecast_57 : decode cX12_forecast 57 = .ok (.iload_n 1, 1) := by decide +kernel
theorem dX12_forecast_58 : decode cX12_forecast 58 = .ok (.iload_n 2, 1) := by decide +kernel
theorem dX12_forecast_59 : decode cX12_forecast 59 = .ok (.iload_n 3, 1) := by decide +kernel
theorem dX12_forecast_60 : decode cX12_forecast 60 = .ok (.invokevirtual 245, 3) := by decide +kernel
theorem dX12_forecast_63 : decode cX12_forecast 63 = .ok (.lreturn, 1) := by decide +kernel
theorem dX12_fitting_0 : decode cX12_fitting 0 = .ok (.new 15, 3) := by decide +kernel
theorem dX12_fitting_3 : decode cX12_fitting 3 = .ok (.dup, 1) := by decide +kernel
theorem dX12_fitting_4 : decode cX12_fitting 4 = .ok (.invokespecial 17, 3) := by decide +kernel
theorem dX12_fitting_7 : decode cX12_fitting 7 = .ok (.astore 4, 2) := by decide +kernel
theorem dX12_fitting_9 : decode cX12_fitting 9 = .ok (.ldc2_w 251, 3) := by decide +kernel
theorem dX12_fitting_12 : decode cX12_fitting 12 = .ok (.lstore 5, 2) := by decide +kernel
theorem dX12_fitting_14 : decode cX12_fitting 14 = .ok (.bipush 10, 2) := by decide +kernel
theorem dX12_fitting_16 : decode cX12_fitting 16 = .ok (.istore 7, 2) := by decide +kernel
theorem dX12_fitting_18 : decode cX12_fitting 18 = .ok (.iload 7, 2) := by decide +kernel
theorem dX12_fitting_20 : decode cX12_fitting 20 = .ok (.sipush 400, 3) := by decide +kernel
theorem dX12_fitting_23 : decode cX12_fitting 23 = .ok (.if_icmp .gt 61, 3) := by decide +kernel
theorem dX12_fitting_26 : decode cX12_fitting 26 = .ok (.aload_n 0, 1) := by decide +kernel
theorem dX12_fitting_27 : decode cX12_fitting 27 = .ok (.iload_n 1, 1) := by decide +kernel
theorem dX12_fitting_28 : decode cX12_fitting 28 = .ok (.iload_n 2, 1) := by decide +kernel
theorem dX12_fitting_29 : decode cX12_fitting 29 = .ok (.iload 7, 2) := by decide +kernel
theorem dX12_fitting_31 : decode cX12_fitting 31 = .ok (.invokevirtual 245, 3) := by decide +kernel
theorem dX12_fitting_34 : decode cX12_fitting 34 = .ok (.iload_n 3, 1) := by decide +kernel
theorem dX12_fitting_35 : decode cX12_fitting 35 = .ok (.i2l, 1) := by decide +kernel
theorem dX12_fitting_36 : decode cX12_fitting 36 = .ok (.lsub, 1) := by decide +kernel
theorem dX12_fitting_37 : decode cX12_fitting 37 = .ok (.invokestatic 253, 3) := by decide +kernel
theorem dX12_fitting_40 : decode cX12_fitting 40 = .ok (.lstore 8, 2) := by decide +kernel
theorem dX12_fitting_42 : decode cX12_fitting 42 = .ok (.lload 8, 2) := by decide +kernel
theorem dX12_fitting_44 : decode cX12_fitting 44 = .ok (.lload 5, 2) := by decide +kernel
theorem dX12_fitting_46 : decode cX12_fitting 46 = .ok (.lcmp, 1) := by decide +kernel
theorem dX12_fitting_47 : decode cX12_fitting 47 = .ok (.ifCond .ge 12, 3) := by decide +kernel
theorem dX12_fitting_50 : decode cX12_fitting 50 = .ok (.aload 4, 2) := by decide +kernel
theorem dX12_fitting_52 : decode cX12_fitting 52 = .ok (.invokevirtual 113, 3) := by decide +kernel
theorem dX12_fitting_55 : decode cX12_fitting 55 = .ok (.lload 8, 2) := by decide +kernel
theorem dX12_fitting_57 : decode cX12_fitting 57 = .ok (.lstore 5, 2) := by decide +kernel
theorem dX12_fitting_59 : decode cX12_fitting 59 = .ok (.lload 8, 2) := by decide +kernel
theorem dX12_fitting_61 : decode cX12_fitting 61 = .ok (.lload 5, 2) := by decide +kernel
theorem dX12_fitting_63 : decode cX12_fitting 63 = .ok (.lcmp, 1) := by decide +kernel
theorem dX12_fitting_64 : decode cX12_fitting 64 = .ok (.ifCond .ne 14, 3) := by decide +kernel
theorem dX12_fitting_67 : decode cX12_fitting 67 = .ok (.aload 4, 2) := by decide +kernel
theorem dX12_fitting_69 : decode cX12_fitting 69 = .ok (.iload 7, 2) := by decide +kernel
theorem dX12_fitting_71 : decode cX12_fitting 71 = .ok (.invokestatic 259, 3) := by decide +kernel
theorem dX12_fitting_74 : decode cX12_fitting 74 = .ok (.invokevirtual 63, 3) := by decide +kernel
theorem dX12_fitting_77 : decode cX12_fitting 77 = .ok (.pop, 1) := by decide +kernel
theorem dX12_fitting_78 : decode cX12_fitting 78 = .ok (.iinc 7 10, 3) := by decide +kernel
theorem dX12_fitting_81 : decode cX12_fitting 81 = .ok (.goto (-63), 3) := by decide +kernel
theorem dX12_fitting_84 : decode cX12_fitting 84 = .ok (.aload 4, 2) := by decide +kernel
theorem dX12_fitting_86 : decode cX12_fitting 86 = .ok (.areturn, 1) := by decide +kernel
theorem dX12_noFit_0 : decode cX12_noFit 0 = .ok (.aload_n 0, 1) := by decide +kernel
theorem dX12_noFit_1 : decode cX12_noFit 1 = .ok (.iload_n 1, 1) := by decide +kernel
theorem dX12_noFit_2 : decode cX12_noFit 2 = .ok (.invokevirtual 67, 3) := by decide +kernel
theorem dX12_noFit_5 : decode cX12_noFit 5 = .ok (.ifCond .ne 36, 3) := by decide +kernel
theorem dX12_noFit_8 : decode cX12_noFit 8 = .ok (.aload_n 0, 1) := by decide +kernel
theorem dX12_noFit_9 : decode cX12_noFit 9 = .ok (.iload_n 2, 1) := by decide +kernel
theorem dX12_noFit_10 : decode cX12_noFit 10 = .ok (.i2l, 1) := by decide +kernel
theorem dX12_noFit_11 : decode cX12_noFit 11 = .ok (.lconst 1, 1) := by decide +kernel
theorem dX12_noFit_12 : decode cX12_noFit 12 = .ok (.ldc2_w 180, 3) := by decide +kernel
theorem dX12_noFit_15 : decode cX12_noFit 15 = .ok (.invokestatic 39, 3) := by decide +kernel
theorem dX12_noFit_18 : decode cX12_noFit 18 = .ok (.ifCond .eq 19, 3) := by decide +kernel
theorem dX12_noFit_21 : decode cX12_noFit 21 = .ok (.iload_n 3, 1) := by decide +kernel
theorem dX12_noFit_22 : decode cX12_noFit 22 = .ok (.i2l, 1) := by decide +kernel
theorem dX12_noFit_23 : decode cX12_noFit 23 = .ok (.lconst 0, 1) := by decide +kernel
theorem dX12_noFit_24 : decode cX12_noFit 24 = .ok (.ldc2_w 265, 3) := by decide +kernel
theorem dX12_noFit_27 : decode cX12_noFit 27 = .ok (.invokestatic 39, 3) := by decide +kernel
theorem dX12_noFit_30 : decode cX12_noFit 30 = .ok (.ifCond .eq 7, 3) := by decide +kernel
theorem dX12_noFit_33 : decode cX12_noFit 33 = .ok (.iconst 0, 1) := by decide +kernel
theorem dX12_noFit_34 : decode cX12_noFit 34 = .ok (.goto 4, 3) := by decide +kernel
theorem dX12_noFit_37 : decode cX12_noFit 37 = .ok (.iconst 2, 1) := by decide +kernel
theorem dX12_noFit_38 : decode cX12_noFit 38 = .ok (.putfield 31, 3) := by decide +kernel
theorem dX12_noFit_41 : decode cX12_noFit 41 = .ok (.aload_n 0, 1) := by decide +kernel
theorem dX12_noFit_42 : decode cX12_noFit 42 = .ok (.getfield 31, 3) := by decide +kernel
theorem dX12_noFit_45 : decode cX12_noFit 45 = .ok (.ifCond .le 7, 3) := by decide +kernel
theorem dX12_noFit_48 : decode cX12_noFit 48 = .ok (.iconst 1, 1) := by decide +kernel
theorem dX12_noFit_49 : decode cX12_noFit 49 = .ok (.goto 4, 3) := by decide +kernel
theorem dX12_noFit_52 : decode cX12_noFit 52 = .ok (.iconst 0, 1) := by decide +kernel
theorem dX12_noFit_53 : decode cX12_noFit 53 = .ok (.ireturn, 1) := by decide +kernel
theorem dX12_fits_0 : decode cX12_fits 0 = .ok (.aload_n 0, 1) := by decide +kernel
theorem dX12_fits_1 : decode cX12_fits 1 = .ok (.iload_n 1, 1) := by decide +kernel
theorem dX12_fits_2 : decode cX12_fits 2 = .ok (.iload_n 2, 1) := by decide +kernel
theorem dX12_fits_3 : decode cX12_fits 3 = .ok (.iload_n 3, 1) := by decide +kernel
theorem dX12_fits_4 : decode cX12_fits 4 = .ok (.invokevirtual 267, 3) := by decide +kernel
theorem dX12_fits_7 : decode cX12_fits 7 = .ok (.ifCond .eq 7, 3) := by decide +kernel
theorem dX12_fits_10 : decode cX12_fits 10 = .ok (.iconst 0, 1) := by decide +kernel
theorem dX12_fits_11 : decode cX12_fits 11 = .ok (.goto 13, 3) := by decide +kernel
theorem dX12_fits_14 : decode cX12_fits 14 = .ok (.aload_n 0, 1) := by decide +kernel
theorem dX12_fits_15 : decode cX12_fits 15 = .ok (.iload_n 1, 1) := by decide +kernel
theorem dX12_fits_16 : decode cX12_fits 16 = .ok (.iload_n 2, 1) := by decide +kernel
theorem dX12_fits_17 : decode cX12_fits 17 = .ok (.iload_n 3, 1) := by decide +kernel
theorem dX12_fits_18 : decode cX12_fits 18 = .ok (.invokevirtual 271, 3) := by decide +kernel
theorem dX12_fits_21 : decode cX12_fits 21 = .ok (.invokevirtual 35, 3) := by decide +kernel
theorem dX12_fits_24 : decode cX12_fits 24 = .ok (.ireturn, 1) := by decide +kernel
theorem dX12_fit_0 : decode cX12_fit 0 = .ok (.aload_n 0, 1) := by decide +kernel
theorem dX12_fit_1 : decode cX12_fit 1 = .ok (.iload_n 1, 1) := by decide +kernel
theorem dX12_fit_2 : decode cX12_fit 2 = .ok (.iload_n 2, 1) := by decide +kernel
theorem dX12_fit_3 : decode cX12_fit 3 = .ok (.iload_n 3, 1) := by decide +kernel
theorem dX12_fit_4 : decode cX12_fit 4 = .ok (.invokevirtual 267, 3) := by decide +kernel
theorem dX12_fit_7 : decode cX12_fit 7 = .ok (.ifCond .eq 5, 3) := by decide +kernel
theorem dX12_fit_10 : decode cX12_fit 10 = .ok (.iconst 0, 1) := by decide +kernel
theorem dX12_fit_11 : decode cX12_fit 11 = .ok (.ireturn, 1) := by decide +kernel
theorem dX12_fit_12 : decode cX12_fit 12 = .ok (.aload_n 0, 1) := by decide +kernel
theorem dX12_fit_13 : decode cX12_fit 13 = .ok (.iload_n 1, 1) := by decide +kernel
theorem dX12_fit_14 : decode cX12_fit 14 = .ok (.iload_n 2, 1) := by decide +kernel
theorem dX12_fit_15 : decode cX12_fit 15 = .ok (.iload_n 3, 1) := by decide +kernel
theorem dX12_fit_16 : decode cX12_fit 16 = .ok (.invokevirtual 271, 3) := by decide +kernel
theorem dX12_fit_19 : decode cX12_fit 19 = .ok (.astore 5, 2) := by decide +kernel
theorem dX12_fit_21 : decode cX12_fit 21 = .ok (.aload_n 0, 1) := by decide +kernel
theorem dX12_fit_22 : decode cX12_fit 22 = .ok (.iload 4, 2) := by decide +kernel
theorem dX12_fit_24 : decode cX12_fit 24 = .ok (.i2l, 1) := by decide +kernel
theorem dX12_fit_25 : decode cX12_fit 25 = .ok (.lconst 0, 1) := by decide +kernel
theorem dX12_fit_26 : decode cX12_fit 26 = .ok (.aload 5, 2) := by decide +kernel
theorem dX12_fit_28 : decode cX12_fit 28 = .ok (.invokevirtual 35, 3) := by decide +kernel
end
section
theorem dX12_fit_31 : decode cX12_fit 31 = .ok (.iconst 1, 1) := by decide +kernel
theorem dX12_fit_32 : decode cX12_fit 32 = .ok (.isub, 1) := by decide +kernel
theorem dX12_fit_33 : decode cX12_fit 33 = .ok (.i2l, 1) := by decide +kernel
theorem dX12_fit_34 : decode cX12_fit 34 = .ok (.invokestatic 39, 3) := by decide +kernel
theorem dX12_fit_37 : decode cX12_fit 37 = .ok (.ifCond .eq 7, 3) := by decide +kernel
theorem dX12_fit_40 : decode cX12_fit 40 = .ok (.iconst 0, 1) := by decide +kernel
theorem dX12_fit_41 : decode cX12_fit 41 = .ok (.goto 4, 3) := by decide +kernel
theorem dX12_fit_44 : decode cX12_fit 44 = .ok (.iconst 3, 1) := by decide +kernel
theorem dX12_fit_45 : decode cX12_fit 45 = .ok (.putfield 31, 3) := by decide +kernel
theorem dX12_fit_48 : decode cX12_fit 48 = .ok (.aload_n 0, 1) := by decide +kernel
theorem dX12_fit_49 : decode cX12_fit 49 = .ok (.getfield 31, 3) := by decide +kernel
theorem dX12_fit_52 : decode cX12_fit 52 = .ok (.ifCond .le 7, 3) := by decide +kernel
theorem dX12_fit_55 : decode cX12_fit 55 = .ok (.iconst 0, 1) := by decide +kernel
theorem dX12_fit_56 : decode cX12_fit 56 = .ok (.goto 16, 3) := by decide +kernel
theorem dX12_fit_59 : decode cX12_fit 59 = .ok (.aload 5, 2) := by decide +kernel
theorem dX12_fit_61 : decode cX12_fit 61 = .ok (.iload 4, 2) := by decide +kernel
theorem dX12_fit_63 : decode cX12_fit 63 = .ok (.invokevirtual 47, 3) := by decide +kernel
theorem dX12_fit_66 : decode cX12_fit 66 = .ok (.checkcast 260, 3) := by decide +kernel
theorem dX12_fit_69 : decode cX12_fit 69 = .ok (.invokevirtual 275, 3) := by decide +kernel
theorem dX12_fit_72 : decode cX12_fit 72 = .ok (.ireturn, 1) := by decide +kernel
theorem dX12_missing_0 : decode cX12_missing 0 = .ok (.aload_n 0, 1) := by decide +kernel
theorem dX12_missing_1 : decode cX12_missing 1 = .ok (.iconst 0, 1) := by decide +kernel
theorem dX12_missing_2 : decode cX12_missing 2 = .ok (.putfield 31, 3) := by decide +kernel
theorem dX12_missing_5 : decode cX12_missing 5 = .ok (.lconst 0, 1) := by decide +kernel
theorem dX12_missing_6 : decode cX12_missing 6 = .ok (.lreturn, 1) := by decide +kernel
theorem dX12_frozenShare_0 : decode cX12_frozenShare 0 = .ok (.iconst 0, 1) := by decide +kernel
theorem dX12_frozenShare_1 : decode cX12_frozenShare 1 = .ok (.istore_n 1, 1) := by decide +kernel
theorem dX12_frozenShare_2 : decode cX12_frozenShare 2 = .ok (.iconst 0, 1) := by decide +kernel
theorem dX12_frozenShare_3 : decode cX12_frozenShare 3 = .ok (.istore_n 2, 1) := by decide +kernel
theorem dX12_frozenShare_4 : decode cX12_frozenShare 4 = .ok (.aload_n 0, 1) := by decide +kernel
theorem dX12_frozenShare_5 : decode cX12_frozenShare 5 = .ok (.getfield 18, 3) := by decide +kernel
theorem dX12_frozenShare_8 : decode cX12_frozenShare 8 = .ok (.invokevirtual 182, 3) := by decide +kernel
theorem dX12_frozenShare_11 : decode cX12_frozenShare 11 = .ok (.astore_n 3, 1) := by decide +kernel
theorem dX12_frozenShare_12 : decode cX12_frozenShare 12 = .ok (.aload_n 3, 1) := by decide +kernel
theorem dX12_frozenShare_13 : decode cX12_frozenShare 13 = .ok (.invokeinterface 186 1, 5) := by decide +kernel
theorem dX12_frozenShare_18 : decode cX12_frozenShare 18 = .ok (.ifCond .eq 71, 3) := by decide +kernel
theorem dX12_frozenShare_21 : decode cX12_frozenShare 21 = .ok (.aload_n 3, 1) := by decide +kernel
theorem dX12_frozenShare_22 : decode cX12_frozenShare 22 = .ok (.invokeinterface 191 1, 5) := by decide +kernel
theorem dX12_frozenShare_27 : decode cX12_frozenShare 27 = .ok (.checkcast 51, 3) := by decide +kernel
theorem dX12_frozenShare_30 : decode cX12_frozenShare 30 = .ok (.astore 4, 2) := by decide +kernel
theorem dX12_frozenShare_32 : decode cX12_frozenShare 32 = .ok (.aload 4, 2) := by decide +kernel
theorem dX12_frozenShare_34 : decode cX12_frozenShare 34 = .ok (.getfield 53, 3) := by decide +kernel
theorem dX12_frozenShare_37 : decode cX12_frozenShare 37 = .ok (.invokevirtual 182, 3) := by decide +kernel
theorem dX12_frozenShare_40 : decode cX12_frozenShare 40 = .ok (.astore 5, 2) := by decide +kernel
theorem dX12_frozenShare_42 : decode cX12_frozenShare 42 = .ok (.aload 5, 2) := by decide +kernel
theorem dX12_frozenShare_44 : decode cX12_frozenShare 44 = .ok (.invokeinterface 186 1, 5) := by decide +kernel
theorem dX12_frozenShare_49 : decode cX12_frozenShare 49 = .ok (.ifCond .eq 37, 3) := by decide +kernel
theorem dX12_frozenShare_52 : decode cX12_frozenShare 52 = .ok (.aload 5, 2) := by decide +kernel
theorem dX12_frozenShare_54 : decode cX12_frozenShare 54 = .ok (.invokeinterface 191 1, 5) := by decide +kernel
theorem dX12_frozenShare_59 : decode cX12_frozenShare 59 = .ok (.checkcast 56, 3) := by decide +kernel
theorem dX12_frozenShare_62 : decode cX12_frozenShare 62 = .ok (.astore 6, 2) := by decide +kernel
theorem dX12_frozenShare_64 : decode cX12_frozenShare 64 = .ok (.iinc 1 1, 3) := by decide +kernel
theorem dX12_frozenShare_67 : decode cX12_frozenShare 67 = .ok (.iload_n 2, 1) := by decide +kernel
theorem dX12_frozenShare_68 : decode cX12_frozenShare 68 = .ok (.aload 6, 2) := by decide +kernel
theorem dX12_frozenShare_70 : decode cX12_frozenShare 70 = .ok (.getfield 220, 3) := by decide +kernel
theorem dX12_frozenShare_73 : decode cX12_frozenShare 73 = .ok (.ifCond .eq 7, 3) := by decide +kernel
theorem dX12_frozenShare_76 : decode cX12_frozenShare 76 = .ok (.iconst 1, 1) := by decide +kernel
theorem dX12_frozenShare_77 : decode cX12_frozenShare 77 = .ok (.goto 4, 3) := by decide +kernel
theorem dX12_frozenShare_80 : decode cX12_frozenShare 80 = .ok (.iconst 0, 1) := by decide +kernel
theorem dX12_frozenShare_81 : decode cX12_frozenShare 81 = .ok (.iadd, 1) := by decide +kernel
theorem dX12_frozenShare_82 : decode cX12_frozenShare 82 = .ok (.istore_n 2, 1) := by decide +kernel
theorem dX12_frozenShare_83 : decode cX12_frozenShare 83 = .ok (.goto (-41), 3) := by decide +kernel
theorem dX12_frozenShare_86 : decode cX12_frozenShare 86 = .ok (.goto (-74), 3) := by decide +kernel
theorem dX12_frozenShare_89 : decode cX12_frozenShare 89 = .ok (.aload_n 0, 1) := by decide +kernel
theorem dX12_frozenShare_90 : decode cX12_frozenShare 90 = .ok (.iload_n 1, 1) := by decide +kernel
theorem dX12_frozenShare_91 : decode cX12_frozenShare 91 = .ok (.ifCond .ne 7, 3) := by decide +kernel
theorem dX12_frozenShare_94 : decode cX12_frozenShare 94 = .ok (.iconst 1, 1) := by decide +kernel
theorem dX12_frozenShare_95 : decode cX12_frozenShare 95 = .ok (.goto 4, 3) := by decide +kernel
theorem dX12_frozenShare_98 : decode cX12_frozenShare 98 = .ok (.iconst 0, 1) := by decide +kernel
theorem dX12_frozenShare_99 : decode cX12_frozenShare 99 = .ok (.putfield 31, 3) := by decide +kernel
theorem dX12_frozenShare_102 : decode cX12_frozenShare 102 = .ok (.aload_n 0, 1) := by decide +kernel
theorem dX12_frozenShare_103 : decode cX12_frozenShare 103 = .ok (.getfield 31, 3) := by decide +kernel
theorem dX12_frozenShare_106 : decode cX12_frozenShare 106 = .ok (.ifCond .le 7, 3) := by decide +kernel
theorem dX12_frozenShare_109 : decode cX12_frozenShare 109 = .ok (.fconst 0, 1) := by decide +kernel
theorem dX12_frozenShare_110 : decode cX12_frozenShare 110 = .ok (.goto 8, 3) := by decide +kernel
theorem dX12_frozenShare_113 : decode cX12_frozenShare 113 = .ok (.iload_n 2, 1) := by decide +kernel
theorem dX12_frozenShare_114 : decode cX12_frozenShare 114 = .ok (.i2f, 1) := by decide +kernel
theorem dX12_frozenShare_115 : decode cX12_frozenShare 115 = .ok (.iload_n 1, 1) := by decide +kernel
theorem dX12_frozenShare_116 : decode cX12_frozenShare 116 = .ok (.i2f, 1) := by decide +kernel
theorem dX12_frozenShare_117 : decode cX12_frozenShare 117 = .ok (.fdiv, 1) := by decide +kernel
theorem dX12_frozenShare_118 : decode cX12_frozenShare 118 = .ok (.freturn, 1) := by decide +kernel
theorem dX12_meanWater_0 : decode cX12_meanWater 0 = .ok (.iconst 0, 1) := by decide +kernel
theorem dX12_meanWater_1 : decode cX12_meanWater 1 = .ok (.istore_n 1, 1) := by decide +kernel
theorem dX12_meanWater_2 : decode cX12_meanWater 2 = .ok (.iconst 0, 1) := by decide +kernel
theorem dX12_meanWater_3 : decode cX12_meanWater 3 = .ok (.istore_n 2, 1) := by decide +kernel
theorem dX12_meanWater_4 : decode cX12_meanWater 4 = .ok (.aload_n 0, 1) := by decide +kernel
theorem dX12_meanWater_5 : decode cX12_meanWater 5 = .ok (.getfield 18, 3) := by decide +kernel
theorem dX12_meanWater_8 : decode cX12_meanWater 8 = .ok (.invokevirtual 182, 3) := by decide +kernel
theorem dX12_meanWater_11 : decode cX12_meanWater 11 = .ok (.astore_n 3, 1) := by decide +kernel
theorem dX12_meanWater_12 : decode cX12_meanWater 12 = .ok (.aload_n 3, 1) := by decide +kernel
theorem dX12_meanWater_13 : decode cX12_meanWater 13 = .ok (.invokeinterface 186 1, 5) := by decide +kernel
theorem dX12_meanWater_18 : decode cX12_meanWater 18 = .ok (.ifCond .eq 63, 3) := by decide +kernel
theorem dX12_meanWater_21 : decode cX12_meanWater 21 = .ok (.aload_n 3, 1) := by decide +kernel
theorem dX12_meanWater_22 : decode cX12_meanWater 22 = .ok (.invokeinterface 191 1, 5) := by decide +kernel
theorem dX12_meanWater_27 : decode cX12_meanWater 27 = .ok (.checkcast 51, 3) := by decide +kernel
theorem dX12_meanWater_30 : decode cX12_meanWater 30 = .ok (.astore 4, 2) := by decide +kernel
theorem dX12_meanWater_32 : decode cX12_meanWater 32 = .ok (.aload 4, 2) := by decide +kernel
theorem dX12_meanWater_34 : decode cX12_meanWater 34 = .ok (.getfield 53, 3) := by decide +kernel
theorem dX12_meanWater_37 : decode cX12_meanWater 37 = .ok (.invokevirtual 182, 3) := by decide +kernel
theorem dX12_meanWater_40 : decode cX12_meanWater 40 = .ok (.astore 5, 2) := by decide +kernel
theorem dX12_meanWater_42 : decode cX12_meanWater 42 = .ok (.aload 5, 2) := by decide +kernel
theorem dX12_meanWater_44 : decode cX12_meanWater 44 = .ok (.invokeinterface 186 1, 5) := by decide +kernel
theorem dX12_meanWater_49 : decode cX12_meanWater 49 = .ok (.ifCond .eq 29, 3) := by decide +kernel
theorem dX12_meanWater_52 : decode cX12_meanWater 52 = .ok (.aload 5, 2) := by decide +kernel
theorem dX12_meanWater_54 : decode cX12_meanWater 54 = .ok (.invokeinterface 191 1, 5) := by decide +kernel
theorem dX12_meanWater_59 : decode cX12_meanWater 59 = .ok (.checkcast 56, 3) := by decide +kernel
theorem dX12_meanWater_62 : decode cX12_meanWater 62 = .ok (.astore 6, 2) := by decide +kernel
theorem dX12_meanWater_64 : decode cX12_meanWater 64 = .ok (.iinc 1 1, 3) := by decide +kernel
theorem dX12_meanWater_67 : decode cX12_meanWater 67 = .ok (.iload_n 2, 1) := by decide +kernel
theorem dX12_meanWater_68 : decode cX12_meanWater 68 = .ok (.aload 6, 2) := by decide +kernel
theorem dX12_meanWater_70 : decode cX12_meanWater 70 = .ok (.getfield 90, 3) := by decide +kernel
theorem dX12_meanWater_73 : decode cX12_meanWater 73 = .ok (.iadd, 1) := by decide +kernel
theorem dX12_meanWater_74 : decode cX12_meanWater 74 = .ok (.istore_n 2, 1) := by decide +kernel
theorem dX12_meanWater_75 : decode cX12_meanWater 75 = .ok (.goto (-33), 3) := by decide +kernel
theorem dX12_meanWater_78 : decode cX12_meanWater 78 = .ok (.goto (-66), 3) := by decide +kernel
theorem dX12_meanWater_81 : decode cX12_meanWater 81 = .ok (.aload_n 0, 1) := by decide +kernel
theorem dX12_meanWater_82 : decode cX12_meanWater 82 = .ok (.iload_n 1, 1) := by decide +kernel
theorem dX12_meanWater_83 : decode cX12_meanWater 83 = .ok (.ifCond .ne 7, 3) := by decide +kernel
theorem dX12_meanWater_86 : decode cX12_meanWater 86 = .ok (.iconst 1, 1) := by decide +kernel
theorem dX12_meanWater_87 : decode cX12_meanWater 87 = .ok (.goto 4, 3) := by decide +kernel
theorem dX12_meanWater_90 : decode cX12_meanWater 90 = .ok (.iconst 0, 1) := by decide +kernel
theorem dX12_meanWater_91 : decode cX12_meanWater 91 = .ok (.putfield 31, 3) := by decide +kernel
theorem dX12_meanWater_94 : decode cX12_meanWater 94 = .ok (.aload_n 0, 1) := by decide +kernel
theorem dX12_meanWater_95 : decode cX12_meanWater 95 = .ok (.getfield 31, 3) := by decide +kernel
theorem dX12_meanWater_98 : decode cX12_meanWater 98 = .ok (.ifCond .le 7, 3) := by decide +kernel
theorem dX12_meanWater_101 : decode cX12_meanWater 101 = .ok (.dconst 0, 1) := by decide +kernel
theorem dX12_meanWater_102 : decode cX12_meanWater 102 = .ok (.goto 8, 3) := by decide +kernel
theorem dX12_meanWater_105 : decode cX12_meanWater 105 = .ok (.iload_n 2, 1) := by decide +kernel
theorem dX12_meanWater_106 : decode cX12_meanWater 106 = .ok (.i2d, 1) := by decide +kernel
theorem dX12_meanWater_107 : decode cX12_meanWater 107 = .ok (.iload_n 1, 1) := by decide +kernel
theorem dX12_meanWater_108 : decode cX12_meanWater 108 = .ok (.i2d, 1) := by decide +kernel
theorem dX12_meanWater_109 : decode cX12_meanWater 109 = .ok (.ddiv, 1) := by decide +kernel
theorem dX12_meanWater_110 : decode cX12_meanWater 110 = .ok (.dreturn, 1) := by decide +kernel
theorem dX12_checksum_0 : decode cX12_checksum 0 = .ok (.aload_n 0, 1) := by decide +kernel
theorem dX12_checksum_1 : decode cX12_checksum 1 = .ok (.iconst 0, 1) := by decide +kernel
theorem dX12_checksum_2 : decode cX12_checksum 2 = .ok (.putfield 31, 3) := by decide +kernel
theorem dX12_checksum_5 : decode cX12_checksum 5 = .ok (.ldc2_w 278, 3) := by decide +kernel
theorem dX12_checksum_8 : decode cX12_checksum 8 = .ok (.lstore_n 1, 1) := by decide +kernel
theorem dX12_checksum_9 : decode cX12_checksum 9 = .ok (.aload_n 0, 1) := by decide +kernel
theorem dX12_checksum_10 : decode cX12_checksum 10 = .ok (.getfield 18, 3) := by decide +kernel
theorem dX12_checksum_13 : decode cX12_checksum 13 = .ok (.invokevirtual 182, 3) := by decide +kernel
theorem dX12_checksum_16 : decode cX12_checksum 16 = .ok (.astore_n 3, 1) := by decide +kernel
theorem dX12_checksum_17 : decode cX12_checksum 17 = .ok (.aload_n 3, 1) := by decide +kernel
theorem dX12_checksum_18 : decode cX12_checksum 18 = .ok (.invokeinterface 186 1, 5) := by decide +kernel
theorem dX12_checksum_23 : decode cX12_checksum 23 = .ok (.ifCond .eq 117, 3) := by decide +kernel
theorem dX12_checksum_26 : decode cX12_checksum 26 = .ok (.aload_n 3, 1) := by decide +kernel
theorem dX12_checksum_27 : decode cX12_checksum 27 = .ok (.invokeinterface 191 1, 5) := by decide +kernel
theorem dX12_checksum_32 : decode cX12_checksum 32 = .ok (.checkcast 51, 3) := by decide +kernel
theorem dX12_checksum_35 : decode cX12_checksum 35 = .ok (.astore 4, 2) := by decide +kernel
theorem dX12_checksum_37 : decode cX12_checksum 37 = .ok (.ldc2_w 280, 3) := by decide +kernel
theorem dX12_checksum_40 : decode cX12_checksum 40 = .ok (.lload_n 1, 1) := by decide +kernel
theorem dX12_checksum_41 : decode cX12_checksum 41 = .ok (.lmul, 1) := by decide +kernel
theorem dX12_checksum_42 : decode cX12_checksum 42 = .ok (.aload 4, 2) := by decide +kernel
theorem dX12_checksum_44 : decode cX12_checksum 44 = .ok (.getfield 208, 3) := by decide +kernel
theorem dX12_checksum_47 : decode cX12_checksum 47 = .ok (.i2l, 1) := by decide +kernel
theorem dX12_checksum_48 : decode cX12_checksum 48 = .ok (.ladd, 1) := by decide +kernel
theorem dX12_checksum_49 : decode cX12_checksum 49 = .ok (.lstore_n 1, 1) := by decide +kernel
theorem dX12_checksum_50 : decode cX12_checksum 50 = .ok (.ldc2_w 280, 3) := by decide +kernel
theorem dX12_checksum_53 : decode cX12_checksum 53 = .ok (.lload_n 1, 1) := by decide +kernel
theorem dX12_checksum_54 : decode cX12_checksum 54 = .ok (.lmul, 1) := by decide +kernel
theorem dX12_checksum_55 : decode cX12_checksum 55 = .ok (.aload 4, 2) := by decide +kernel
theorem dX12_checksum_57 : decode cX12_checksum 57 = .ok (.getfield 211, 3) := by decide +kernel
theorem dX12_checksum_60 : decode cX12_checksum 60 = .ok (.ladd, 1) := by decide +kernel
theorem dX12_checksum_61 : decode cX12_checksum 61 = .ok (.lstore_n 1, 1) := by decide +kernel
theorem dX12_checksum_62 : decode cX12_checksum 62 = .ok (.aload 4, 2) := by decide +kernel
theorem dX12_checksum_64 : decode cX12_checksum 64 = .ok (.getfield 53, 3) := by decide +kernel
theorem dX12_checksum_67 : decode cX12_checksum 67 = .ok (.invokevirtual 182, 3) := by decide +kernel
theorem dX12_checksum_70 : decode cX12_checksum 70 = .ok (.astore 5, 2) := by decide +kernel
theorem dX12_checksum_72 : decode cX12_checksum 72 = .ok (.aload 5, 2) := by decide +kernel
theorem dX12_checksum_74 : decode cX12_checksum 74 = .ok (.invokeinterface 186 1, 5) := by decide +kernel
theorem dX12_checksum_79 : decode cX12_checksum 79 = .ok (.ifCond .eq 58, 3) := by decide +kernel
theorem dX12_checksum_82 : decode cX12_checksum 82 = .ok (.aload 5, 2) := by decide +kernel
theorem dX12_checksum_84 : decode cX12_checksum 84 = .ok (.invokeinterface 191 1, 5) := by decide +kernel
theorem dX12_checksum_89 : decode cX12_checksum 89 = .ok (.checkcast 56, 3) := by decide +kernel
theorem dX12_checksum_92 : decode cX12_checksum 92 = .ok (.astore 6, 2) := by decide +kernel
theorem dX12_checksum_94 : decode cX12_checksum 94 = .ok (.ldc2_w 280, 3) := by decide +kernel
theorem dX12_checksum_97 : decode cX12_checksum 97 = .ok (.lload_n 1, 1) := by decide +kernel
theorem dX12_checksum_98 : decode cX12_checksum 98 = .ok (.lmul, 1) := by decide +kernel
theorem dX12_checksum_99 : decode cX12_checksum 99 = .ok (.aload 6, 2) := by decide +kernel
theorem dX12_checksum_101 : decode cX12_checksum 101 = .ok (.getfield 90, 3) := by decide +kernel
theorem dX12_checksum_104 : decode cX12_checksum 104 = .ok (.i2l, 1) := by decide +kernel
theorem dX12_checksum_105 : decode cX12_checksum 105 = .ok (.ladd, 1) := by decide +kernel
theorem dX12_checksum_106 : decode cX12_checksum 106 = .ok (.lstore_n 1, 1) := by decide +kernel
theorem dX12_checksum_107 : decode cX12_checksum 107 = .ok (.ldc2_w 280, 3) := by decide +kernel
theorem dX12_checksum_110 : decode cX12_checksum 110 = .ok (.lload_n 1, 1) := by decide +kernel
theorem dX12_checksum_111 : decode cX12_checksum 111 = .ok (.lmul, 1) := by decide +kernel
theorem dX12_checksum_112 : decode cX12_checksum 112 = .ok (.aload 6, 2) := by decide +kernel
theorem dX12_checksum_114 : decode cX12_checksum 114 = .ok (.getfield 143, 3) := by decide +kernel
theorem dX12_checksum_117 : decode cX12_checksum 117 = .ok (.iconst 0, 1) := by decide +kernel
theorem dX12_checksum_118 : decode cX12_checksum 118 = .ok (.laload, 1) := by decide +kernel
theorem dX12_checksum_119 : decode cX12_checksum 119 = .ok (.ladd, 1) := by decide +kernel
theorem dX12_checksum_120 : decode cX12_checksum 120 = .ok (.lstore_n 1, 1) := by decide +kernel
theorem dX12_checksum_121 : decode cX12_checksum 121 = .ok (.ldc2_w 280, 3) := by decide +kernel
theorem dX12_checksum_124 : decode cX12_checksum 124 = .ok (.lload_n 1, 1) := by decide +kernel
theorem dX12_checksum_125 : decode cX12_checksum 125 = .ok (.lmul, 1) := by decide +kernel
theorem dX12_checksum_126 : decode cX12_checksum 126 = .ok (.aload 6, 2) := by decide +kernel
theorem dX12_checksum_128 : decode cX12_checksum 128 = .ok (.getfield 223, 3) := by decide +kernel
theorem dX12_checksum_131 : decode cX12_checksum 131 = .ok (.i2l, 1) := by decide +kernel
theorem dX12_checksum_132 : decode cX12_checksum 132 = .ok (.ladd, 1) := by decide +kernel
theorem dX12_checksum_133 : decode cX12_checksum 133 = .ok (.lstore_n 1, 1) := by decide +kernel
theorem dX12_checksum_134 : decode cX12_checksum 134 = .ok (.goto (-62), 3) := by decide +kernel
theorem dX12_checksum_137 : decode cX12_checksum 137 = .ok (.goto (-120), 3) := by decide +kernel
theorem dX12_checksum_140 : decode cX12_checksum 140 = .ok (.lload_n 1, 1) := by decide +kernel
theorem dX12_checksum_141 : decode cX12_checksum 141 = .ok (.lreturn, 1) := by decide +kernel
theorem dX12_isTrue_0 : decode cX12_isTrue 0 = .ok (.aload_n 0, 1) := by decide +kernel
theorem dX12_isTrue_1 : decode cX12_isTrue 1 = .ok (.iconst 0, 1) := by decide +kernel
theorem dX12_isTrue_2 : decode cX12_isTrue 2 = .ok (.putfield 31, 3) := by decide +kernel
theorem dX12_isTrue_5 : decode cX12_isTrue 5 = .ok (.iconst 1, 1) := by decide +kernel
theorem dX12_isTrue_6 : decode cX12_isTrue 6 = .ok (.ireturn, 1) := by decide +kernel
theorem dJx00060_init_a7421_0 : decode cJx00060_init_a7421 0 = .ok (.aload_n 0, 1) := by decide +kernel
theorem dJx00060_init_a7421_1 : decode cJx00060_init_a7421 1 = .ok (.aload_n 1, 1) := by decide +kernel
theorem dJx00060_init_a7421_2 : decode cJx00060_init_a7421 2 = .ok (.invokespecial 7, 3) := by decide +kernel
theorem dJx00060_init_a7421_5 : decode cJx00060_init_a7421 5 = .ok (.return_, 1) := by decide +kernel
theorem dJ11_isValidCodePoint_9a6ad_0 : decode cJ11_isValidCodePoint_9a6ad 0 = .ok (.iload_n 0, 1) := by decide +kernel
theorem dJ11_isValidCodePoint_9a6ad_1 : decode cJ11_isValidCodePoint_9a6ad 1 = .ok (.bipush 16, 2) := by decide +kernel
theorem dJ11_isValidCodePoint_9a6ad_3 : decode cJ11_isValidCodePoint_9a6ad 3 = .ok (.iushr, 1) := by decide +kernel
theorem dJ11_isValidCodePoint_9a6ad_4 : decode cJ11_isValidCodePoint_9a6ad 4 = .ok (.istore_n 1, 1) := by decide +kernel
theorem dJ11_isValidCodePoint_9a6ad_5 : decode cJ11_isValidCodePoint_9a6ad 5 = .ok (.iload_n 1, 1) := by decide +kernel
theorem dJ11_isValidCodePoint_9a6ad_6 : decode cJ11_isValidCodePoint_9a6ad 6 = .ok (.bipush 17, 2) := by decide +kernel
theorem dJ11_isValidCodePoint_9a6ad_8 : decode cJ11_isValidCodePoint_9a6ad 8 = .ok (.if_icmp .ge 7, 3) := by decide +kernel
theorem dJ11_isValidCodePoint_9a6ad_11 : decode cJ11_isValidCodePoint_9a6ad 11 = .ok (.iconst 1, 1) := by decide +kernel
theorem dJ11_isValidCodePoint_9a6ad_12 : decode cJ11_isValidCodePoint_9a6ad 12 = .ok (.goto 4, 3) := by decide +kernel
theorem dJ11_isValidCodePoint_9a6ad_15 : decode cJ11_isValidCodePoint_9a6ad 15 = .ok (.iconst 0, 1) := by decide +kernel
theorem dJ11_isValidCodePoint_9a6ad_16 : decode cJ11_isValidCodePoint_9a6ad 16 = .ok (.ireturn, 1) := by decide +kernel
theorem dJ11_highSurrogate_5068e_0 : decode cJ11_highSurrogate_5068e 0 = .ok (.iload_n 0, 1) := by decide +kernel
theorem dJ11_highSurrogate_5068e_1 : decode cJ11_highSurrogate_5068e 1 = .ok (.bipush 10, 2) := by decide +kernel
theorem dJ11_highSurrogate_5068e_3 : decode cJ11_highSurrogate_5068e 3 = .ok (.iushr, 1) := by decide +kernel
theorem dJ11_highSurrogate_5068e_4 : decode cJ11_highSurrogate_5068e 4 = .ok (.ldc 110, 2) := by decide +kernel
theorem dJ11_highSurrogate_5068e_6 : decode cJ11_highSurrogate_5068e 6 = .ok (.iadd, 1) := by decide +kernel
theorem dJ11_highSurrogate_5068e_7 : decode cJ11_highSurrogate_5068e 7 = .ok (.i2c, 1) := by decide +kernel
theorem dJ11_highSurrogate_5068e_8 : decode cJ11_highSurrogate_5068e 8 = .ok (.ireturn, 1) := by decide +kernel
theorem dJ11_lowSurrogate_5068e_0 : decode cJ11_lowSurrogate_5068e 0 = .ok (.iload_n 0, 1) := by decide +kernel
theorem dJ11_lowSurrogate_5068e_1 : decode cJ11_lowSurrogate_5068e 1 = .ok (.sipush 1023, 3) := by decide +kernel
theorem dJ11_lowSurrogate_5068e_4 : decode cJ11_lowSurrogate_5068e 4 = .ok (.iand, 1) := by decide +kernel
theorem dJ11_lowSurrogate_5068e_5 : decode cJ11_lowSurrogate_5068e 5 = .ok (.ldc 76, 2) := by decide +kernel
theorem dJ11_lowSurrogate_5068e_7 : decode cJ11_lowSurrogate_5068e 7 = .ok (.iadd, 1) := by decide +kernel
theorem dJ11_lowSurrogate_5068e_8 : decode cJ11_lowSurrogate_5068e 8 = .ok (.i2c, 1) := by decide +kernel
theorem dJ11_lowSurrogate_5068e_9 : decode cJ11_lowSurrogate_5068e 9 = .ok (.ireturn, 1) := by decide +kernel
theorem dJ6_valueOf_2dffe_0 : decode cJ6_valueOf_2dffe 0 = .ok (.iload_n 0, 1) := by decide +kernel
theorem dJ6_valueOf_2dffe_1 : decode cJ6_valueOf_2dffe 1 = .ok (.bipush (-128), 2) := by decide +kernel
theorem dJ6_valueOf_2dffe_3 : decode cJ6_valueOf_2dffe 3 = .ok (.if_icmp .lt 20, 3) := by decide +kernel
theorem dJ6_valueOf_2dffe_6 : decode cJ6_valueOf_2dffe 6 = .ok (.iload_n 0, 1) := by decide +kernel
theorem dJ6_valueOf_2dffe_7 : decode cJ6_valueOf_2dffe 7 = .ok (.getstatic 191, 3) := by decide +kernel
theorem dJ6_valueOf_2dffe_10 : decode cJ6_valueOf_2dffe 10 = .ok (.if_icmp .gt 13, 3) := by decide +kernel
theorem dJ6_valueOf_2dffe_13 : decode cJ6_valueOf_2dffe 13 = .ok (.getstatic 195, 3) := by decide +kernel
theorem dJ6_valueOf_2dffe_16 : decode cJ6_valueOf_2dffe 16 = .ok (.iload_n 0, 1) := by decide +kernel
theorem dJ6_valueOf_2dffe_17 : decode cJ6_valueOf_2dffe 17 = .ok (.sipush 128, 3) := by decide +kernel
theorem dJ6_valueOf_2dffe_20 : decode cJ6_valueOf_2dffe 20 = .ok (.iadd, 1) := by decide +kernel
theorem dJ6_valueOf_2dffe_21 : decode cJ6_valueOf_2dffe 21 = .ok (.aaload, 1) := by decide +kernel
theorem dJ6_valueOf_2dffe_22 : decode cJ6_valueOf_2dffe 22 = .ok (.areturn, 1) := by decide +kernel
theorem dJ6_valueOf_2dffe_23 : decode cJ6_valueOf_2dffe 23 = .ok (.new 1, 3) := by decide +kernel
theorem dJ6_valueOf_2dffe_26 : decode cJ6_valueOf_2dffe 26 = .ok (.dup, 1) := by decide +kernel
theorem dJ6_valueOf_2dffe_27 : decode cJ6_valueOf_2dffe 27 = .ok (.iload_n 0, 1) := by decide +kernel
theorem dJ6_valueOf_2dffe_28 : decode cJ6_valueOf_2dffe 28 = .ok (.invokespecial 199, 3) := by decide +kernel
theorem dJ6_valueOf_2dffe_31 : decode cJ6_valueOf_2dffe 31 = .ok (.areturn, 1) := by decide +kernel
theorem dJ6_init_d00df_0 : decode cJ6_init_d00df 0 = .ok (.aload_n 0, 1) := by decide +kernel
theorem dJ6_init_d00df_1 : decode cJ6_init_d00df 1 = .ok (.invokespecial 202, 3) := by decide +kernel
theorem dJ6_init_d00df_4 : decode cJ6_init_d00df 4 = .ok (.aload_n 0, 1) := by decide +kernel
theorem dJ6_init_d00df_5 : decode cJ6_init_d00df 5 = .ok (.iload_n 1, 1) := by decide +kernel
theorem dJ6_init_d00df_6 : decode cJ6_init_d00df 6 = .ok (.putfield 205, 3) := by decide +kernel
theorem dJ6_init_d00df_9 : decode cJ6_init_d00df 9 = .ok (.return_, 1) := by decide +kernel
theorem dJ6_intValue_8abf5_0 : decode cJ6_intValue_8abf5 0 = .ok (.aload_n 0, 1) := by decide +kernel
theorem dJ6_intValue_8abf5_1 : decode cJ6_intValue_8abf5 1 = .ok (.getfield 205, 3) := by decide +kernel
theorem dJ6_intValue_8abf5_4 : decode cJ6_intValue_8abf5 4 = .ok (.ireturn, 1) := by decide +kernel
theorem dJ9_abs_067f4_0 : decode cJ9_abs_067f4 0 = .ok (.lload_n 0, 1) := by decide +kernel
theorem dJ9_abs_067f4_1 : decode cJ9_abs_067f4 1 = .ok (.lconst 0, 1) := by decide +kernel
theorem dJ9_abs_067f4_2 : decode cJ9_abs_067f4 2 = .ok (.lcmp, 1) := by decide +kernel
theorem dJ9_abs_067f4_3 : decode cJ9_abs_067f4 3 = .ok (.ifCond .ge 8, 3) := by decide +kernel
theorem dJ9_abs_067f4_6 : decode cJ9_abs_067f4 6 = .ok (.lload_n 0, 1) := by decide +kernel
theorem dJ9_abs_067f4_7 : decode cJ9_abs_067f4 7 = .ok (.lneg, 1) := by decide +kernel
theorem dJ9_abs_067f4_8 : decode cJ9_abs_067f4 8 = .ok (.goto 4, 3) := by decide +kernel
theorem dJ9_abs_067f4_11 : decode cJ9_abs_067f4 11 = .ok (.lload_n 0, 1) := by decide +kernel
theorem dJ9_abs_067f4_12 : decode cJ9_abs_067f4 12 = .ok (.lreturn, 1) := by decide +kernel
theorem dJ9_max_7cf53_0 : decode cJ9_max_7cf53 0 = .ok (.iload_n 0, 1) := by decide +kernel
theorem dJ9_max_7cf53_1 : decode cJ9_max_7cf53 1 = .ok (.iload_n 1, 1) := by decide +kernel
theorem dJ9_max_7cf53_2 : decode cJ9_max_7cf53 2 = .ok (.if_icmp .lt 7, 3) := by decide +kernel
theorem dJ9_max_7cf53_5 : decode cJ9_max_7cf53 5 = .ok (.iload_n 0, 1) := by decide +kernel
theorem dJ9_max_7cf53_6 : decode cJ9_max_7cf53 6 = .ok (.goto 4, 3) := by decide +kernel
theorem dJ9_max_7cf53_9 : decode cJ9_max_7cf53 9 = .ok (.iload_n 1, 1) := by decide +kernel
theorem dJ9_max_7cf53_10 : decode cJ9_max_7cf53 10 = .ok (.ireturn, 1) := by decide +kernel
theorem dJ9_min_7cf53_0 : decode cJ9_min_7cf53 0 = .ok (.iload_n 0, 1) := by decide +kernel
theorem dJ9_min_7cf53_1 : decode cJ9_min_7cf53 1 = .ok (.iload_n 1, 1) := by decide +kernel
theorem dJ9_min_7cf53_2 : decode cJ9_min_7cf53 2 = .ok (.if_icmp .gt 7, 3) := by decide +kernel
theorem dJ9_min_7cf53_5 : decode cJ9_min_7cf53 5 = .ok (.iload_n 0, 1) := by decide +kernel
theorem dJ9_min_7cf53_6 : decode cJ9_min_7cf53 6 = .ok (.goto 4, 3) := by decide +kernel
theorem dJ9_min_7cf53_9 : decode cJ9_min_7cf53 9 = .ok (.iload_n 1, 1) := by decide +kernel
theorem dJ9_min_7cf53_10 : decode cJ9_min_7cf53 10 = .ok (.ireturn, 1) := by decide +kernel
theorem dJ9_min_f86c9_0 : decode cJ9_min_f86c9 0 = .ok (.lload_n 0, 1) := by decide +kernel
theorem dJ9_min_f86c9_1 : decode cJ9_min_f86c9 1 = .ok (.lload_n 2, 1) := by decide +kernel
theorem dJ9_min_f86c9_2 : decode cJ9_min_f86c9 2 = .ok (.lcmp, 1) := by decide +kernel
theorem dJ9_min_f86c9_3 : decode cJ9_min_f86c9 3 = .ok (.ifCond .gt 7, 3) := by decide +kernel
theorem dJ9_min_f86c9_6 : decode cJ9_min_f86c9 6 = .ok (.lload_n 0, 1) := by decide +kernel
theorem dJ9_min_f86c9_7 : decode cJ9_min_f86c9 7 = .ok (.goto 4, 3) := by decide +kernel
theorem dJ9_min_f86c9_10 : decode cJ9_min_f86c9 10 = .ok (.lload_n 2, 1) := by decide +kernel
theorem dJ9_min_f86c9_11 : decode cJ9_min_f86c9 11 = .ok (.lreturn, 1) := by decide +kernel
theorem dJxd2413_init_da8c8_0 : decode cJxd2413_init_da8c8 0 = .ok (.aload_n 0, 1) := by decide +kernel
theorem dJxd2413_init_da8c8_1 : decode cJxd2413_init_da8c8 1 = .ok (.invokespecial 1, 3) := by decide +kernel
theorem dJxd2413_init_da8c8_4 : decode cJxd2413_init_da8c8 4 = .ok (.return_, 1) := by decide +kernel
theorem dJ0_length_8abf5_0 : decode cJ0_length_8abf5 0 = .ok (.aload_n 0, 1) := by decide +kernel
theorem dJ0_length_8abf5_1 : decode cJ0_length_8abf5 1 = .ok (.getfield 9, 3) := by decide +kernel
theorem dJ0_length_8abf5_4 : decode cJ0_length_8abf5 4 = .ok (.arraylength, 1) := by decide +kernel
theorem dJ0_length_8abf5_5 : decode cJ0_length_8abf5 5 = .ok (.aload_n 0, 1) := by decide +kernel
theorem dJ0_length_8abf5_6 : decode cJ0_length_8abf5 6 = .ok (.invokevirtual 335, 3) := by decide +kernel
theorem dJ0_length_8abf5_9 : decode cJ0_length_8abf5 9 = .ok (.ishr, 1) := by decide +kernel
theorem dJ0_length_8abf5_10 : decode cJ0_length_8abf5 10 = .ok (.ireturn, 1) := by decide +kernel
theorem dJ0_indexOf_0f7a4_0 : decode cJ0_indexOf_0f7a4 0 = .ok (.aload_n 0, 1) := by decide +kernel
theorem dJ0_indexOf_0f7a4_1 : decode cJ0_indexOf_0f7a4 1 = .ok (.iload_n 1, 1) := by decide +kernel
theorem dJ0_indexOf_0f7a4_2 : decode cJ0_indexOf_0f7a4 2 = .ok (.iconst 0, 1) := by decide +kernel
theorem dJ0_indexOf_0f7a4_3 : decode cJ0_indexOf_0f7a4 3 = .ok (.invokevirtual 633, 3) := by decide +kernel
theorem dJ0_indexOf_0f7a4_6 : decode cJ0_indexOf_0f7a4 6 = .ok (.ireturn, 1) := by decide +kernel
theorem dJ0_indexOf_7cf53_0 : decode cJ0_indexOf_7cf53 0 = .ok (.aload_n 0, 1) := by decide +kernel
theorem dJ0_indexOf_7cf53_1 : decode cJ0_indexOf_7cf53 1 = .ok (.invokevirtual 492, 3) := by decide +kernel
theorem dJ0_indexOf_7cf53_4 : decode cJ0_indexOf_7cf53 4 = .ok (.ifCond .eq 19, 3) := by decide +kernel
theorem dJ0_indexOf_7cf53_7 : decode cJ0_indexOf_7cf53 7 = .ok (.aload_n 0, 1) := by decide +kernel
theorem dJ0_indexOf_7cf53_8 : decode cJ0_indexOf_7cf53 8 = .ok (.getfield 9, 3) := by decide +kernel
theorem dJ0_indexOf_7cf53_11 : decode cJ0_indexOf_7cf53 11 = .ok (.iload_n 1, 1) := by decide +kernel
theorem dJ0_indexOf_7cf53_12 : decode cJ0_indexOf_7cf53 12 = .ok (.iload_n 2, 1) := by decide +kernel
theorem dJ0_indexOf_7cf53_13 : decode cJ0_indexOf_7cf53 13 = .ok (.aload_n 0, 1) := by decide +kernel
theorem dJ0_indexOf_7cf53_14 : decode cJ0_indexOf_7cf53 14 = .ok (.invokevirtual 505, 3) := by decide +kernel
theorem dJ0_indexOf_7cf53_17 : decode cJ0_indexOf_7cf53 17 = .ok (.invokestatic 637, 3) := by decide +kernel
theorem dJ0_indexOf_7cf53_20 : decode cJ0_indexOf_7cf53 20 = .ok (.goto 16, 3) := by decide +kernel
theorem dJ0_indexOf_7cf53_23 : decode cJ0_indexOf_7cf53 23 = .ok (.aload_n 0, 1) := by decide +kernel
theorem dJ0_indexOf_7cf53_24 : decode cJ0_indexOf_7cf53 24 = .ok (.getfield 9, 3) := by decide +kernel
theorem dJ0_indexOf_7cf53_27 : decode cJ0_indexOf_7cf53 27 = .ok (.iload_n 1, 1) := by decide +kernel
theorem dJ0_indexOf_7cf53_28 : decode cJ0_indexOf_7cf53 28 = .ok (.iload_n 2, 1) := by decide +kernel
theorem dJ0_indexOf_7cf53_29 : decode cJ0_indexOf_7cf53 29 = .ok (.aload_n 0, 1) := by decide +kernel
theorem dJ0_indexOf_7cf53_30 : decode cJ0_indexOf_7cf53 30 = .ok (.invokevirtual 505, 3) := by decide +kernel
theorem dJ0_indexOf_7cf53_33 : decode cJ0_indexOf_7cf53 33 = .ok (.invokestatic 640, 3) := by decide +kernel
theorem dJ0_indexOf_7cf53_36 : decode cJ0_indexOf_7cf53 36 = .ok (.ireturn, 1) := by decide +kernel
theorem dJ0_coder_7d493_0 : decode cJ0_coder_7d493 0 = .ok (.getstatic 38, 3) := by decide +kernel
theorem dJ0_coder_7d493_3 : decode cJ0_coder_7d493 3 = .ok (.ifCond .eq 10, 3) := by decide +kernel
theorem dJ0_coder_7d493_6 : decode cJ0_coder_7d493 6 = .ok (.aload_n 0, 1) := by decide +kernel
theorem dJ0_coder_7d493_7 : decode cJ0_coder_7d493 7 = .ok (.getfield 15, 3) := by decide +kernel
theorem dJ0_coder_7d493_10 : decode cJ0_coder_7d493 10 = .ok (.goto 4, 3) := by decide +kernel
theorem dJ0_coder_7d493_13 : decode cJ0_coder_7d493 13 = .ok (.iconst 1, 1) := by decide +kernel
theorem dJ0_coder_7d493_14 : decode cJ0_coder_7d493 14 = .ok (.ireturn, 1) := by decide +kernel
theorem dJ0_isLatin1_aae02_0 : decode cJ0_isLatin1_aae02 0 = .ok (.getstatic 38, 3) := by decide +kernel
theorem dJ0_isLatin1_aae02_3 : decode cJ0_isLatin1_aae02 3 = .ok (.ifCond .eq 14, 3) := by decide +kernel
theorem dJ0_isLatin1_aae02_6 : decode cJ0_isLatin1_aae02 6 = .ok (.aload_n 0, 1) := by decide +kernel
theorem dJ0_isLatin1_aae02_7 : decode cJ0_isLatin1_aae02 7 = .ok (.getfield 15, 3) := by decide +kernel
theorem dJ0_isLatin1_aae02_10 : decode cJ0_isLatin1_aae02 10 = .ok (.ifCond .ne 7, 3) := by decide +kernel
theorem dJ0_isLatin1_aae02_13 : decode cJ0_isLatin1_aae02 13 = .ok (.iconst 1, 1) := by decide +kernel
theorem dJ0_isLatin1_aae02_14 : decode cJ0_isLatin1_aae02 14 = .ok (.goto 4, 3) := by decide +kernel
theorem dJ0_isLatin1_aae02_17 : decode cJ0_isLatin1_aae02 17 = .ok (.iconst 0, 1) := by decide +kernel
theorem dJ0_isLatin1_aae02_18 : decode cJ0_isLatin1_aae02 18 = .ok (.ireturn, 1) := by decide +kernel
theorem dJ0_checkBoundsBeginEnd_23922_0 : decode cJ0_checkBoundsBeginEnd_23922 0 = .ok (.iload_n 0, 1) := by decide +kernel
theorem dJ0_checkBoundsBeginEnd_23922_1 : decode cJ0_checkBoundsBeginEnd_23922 1 = .ok (.iload_n 1, 1) := by decide +kernel
theorem dJ0_checkBoundsBeginEnd_23922_2 : decode cJ0_checkBoundsBeginEnd_23922 2 = .ok (.iload_n 2, 1) := by decide +kernel
theorem dJ0_checkBoundsBeginEnd_23922_3 : decode cJ0_checkBoundsBeginEnd_23922 3 = .ok (.getstatic 1053, 3) := by decide +kernel
theorem dJ0_checkBoundsBeginEnd_23922_6 : decode cJ0_checkBoundsBeginEnd_23922 6 = .ok (.invokestatic 1062, 3) := by decide +kernel
theorem dJ0_checkBoundsBeginEnd_23922_9 : decode cJ0_checkBoundsBeginEnd_23922 9 = .ok (.pop, 1) := by decide +kernel
theorem dJ0_checkBoundsBeginEnd_23922_10 : decode cJ0_checkBoundsBeginEnd_23922 10 = .ok (.return_, 1) := by decide +kernel
theorem dJ1_canEncode_9a6ad_0 : decode cJ1_canEncode_9a6ad 0 = .ok (.iload_n 0, 1) := by decide +kernel
theorem dJ1_canEncode_9a6ad_1 : decode cJ1_canEncode_9a6ad 1 = .ok (.ifCond .lt 14, 3) := by decide +kernel
theorem dJ1_canEncode_9a6ad_4 : decode cJ1_canEncode_9a6ad 4 = .ok (.iload_n 0, 1) := by decide +kernel
theorem dJ1_canEncode_9a6ad_5 : decode cJ1_canEncode_9a6ad 5 = .ok (.sipush 255, 3) := by decide +kernel
theorem dJ1_canEncode_9a6ad_8 : decode cJ1_canEncode_9a6ad 8 = .ok (.if_icmp .gt 7, 3) := by decide +kernel
theorem dJ1_canEncode_9a6ad_11 : decode cJ1_canEncode_9a6ad 11 = .ok (.iconst 1, 1) := by decide +kernel
theorem dJ1_canEncode_9a6ad_12 : decode cJ1_canEncode_9a6ad 12 = .ok (.goto 4, 3) := by decide +kernel
theorem dJ1_canEncode_9a6ad_15 : decode cJ1_canEncode_9a6ad 15 = .ok (.iconst 0, 1) := by decide +kernel
theorem dJ1_canEncode_9a6ad_16 : decode cJ1_canEncode_9a6ad 16 = .ok (.ireturn, 1) := by decide +kernel
theorem dJ1_indexOf_4cfef_0 : decode cJ1_indexOf_4cfef 0 = .ok (.iload_n 1, 1) := by decide +kernel
theorem dJ1_indexOf_4cfef_1 : decode cJ1_indexOf_4cfef 1 = .ok (.invokestatic 88, 3) := by decide +kernel
theorem dJ1_indexOf_4cfef_4 : decode cJ1_indexOf_4cfef 4 = .ok (.ifCond .ne 5, 3) := by decide +kernel
theorem dJ1_indexOf_4cfef_7 : decode cJ1_indexOf_4cfef 7 = .ok (.iconst (-1), 1) := by decide +kernel
theorem dJ1_indexOf_4cfef_8 : decode cJ1_indexOf_4cfef 8 = .ok (.ireturn, 1) := by decide +kernel
theorem dJ1_indexOf_4cfef_9 : decode cJ1_indexOf_4cfef 9 = .ok (.iload_n 2, 1) := by decide +kernel
theorem dJ1_indexOf_4cfef_10 : decode cJ1_indexOf_4cfef 10 = .ok (.iconst 0, 1) := by decide +kernel
theorem dJ1_indexOf_4cfef_11 : decode cJ1_indexOf_4cfef 11 = .ok (.invokestatic 92, 3) := by decide +kernel
theorem dJ1_indexOf_4cfef_14 : decode cJ1_indexOf_4cfef 14 = .ok (.istore_n 2, 1) := by decide +kernel
theorem dJ1_indexOf_4cfef_15 : decode cJ1_indexOf_4cfef 15 = .ok (.iload_n 3, 1) := by decide +kernel
theorem dJ1_indexOf_4cfef_16 : decode cJ1_indexOf_4cfef 16 = .ok (.aload_n 0, 1) := by decide +kernel
theorem dJ1_indexOf_4cfef_17 : decode cJ1_indexOf_4cfef 17 = .ok (.arraylength, 1) := by decide +kernel
theorem dJ1_indexOf_4cfef_18 : decode cJ1_indexOf_4cfef 18 = .ok (.invokestatic 38, 3) := by decide +kernel
theorem dJ1_indexOf_4cfef_21 : decode cJ1_indexOf_4cfef 21 = .ok (.istore_n 3, 1) := by decide +kernel
theorem dJ1_indexOf_4cfef_22 : decode cJ1_indexOf_4cfef 22 = .ok (.iload_n 2, 1) := by decide +kernel
theorem dJ1_indexOf_4cfef_23 : decode cJ1_indexOf_4cfef 23 = .ok (.iload_n 3, 1) := by decide +kernel
theorem dJ1_indexOf_4cfef_24 : decode cJ1_indexOf_4cfef 24 = .ok (.if_icmp .lt 5, 3) := by decide +kernel
theorem dJ1_indexOf_4cfef_27 : decode cJ1_indexOf_4cfef 27 = .ok (.iconst (-1), 1) := by decide +kernel
theorem dJ1_indexOf_4cfef_28 : decode cJ1_indexOf_4cfef 28 = .ok (.ireturn, 1) := by decide +kernel
theorem dJ1_indexOf_4cfef_29 : decode cJ1_indexOf_4cfef 29 = .ok (.aload_n 0, 1) := by decide +kernel
theorem dJ1_indexOf_4cfef_30 : decode cJ1_indexOf_4cfef 30 = .ok (.iload_n 1, 1) := by decide +kernel
theorem dJ1_indexOf_4cfef_31 : decode cJ1_indexOf_4cfef 31 = .ok (.iload_n 2, 1) := by decide +kernel
theorem dJ1_indexOf_4cfef_32 : decode cJ1_indexOf_4cfef 32 = .ok (.iload_n 3, 1) := by decide +kernel
theorem dJ1_indexOf_4cfef_33 : decode cJ1_indexOf_4cfef 33 = .ok (.invokestatic 95, 3) := by decide +kernel
theorem dJ1_indexOf_4cfef_36 : decode cJ1_indexOf_4cfef 36 = .ok (.ireturn, 1) := by decide +kernel
theorem dJ1_indexOfChar_4cfef_0 : decode cJ1_indexOfChar_4cfef 0 = .ok (.iload_n 1, 1) := by decide +kernel
theorem dJ1_indexOfChar_4cfef_1 : decode cJ1_indexOfChar_4cfef 1 = .ok (.i2b, 1) := by decide +kernel
theorem dJ1_indexOfChar_4cfef_2 : decode cJ1_indexOfChar_4cfef 2 = .ok (.istore 4, 2) := by decide +kernel
theorem dJ1_indexOfChar_4cfef_4 : decode cJ1_indexOfChar_4cfef 4 = .ok (.iload_n 2, 1) := by decide +kernel
theorem dJ1_indexOfChar_4cfef_5 : decode cJ1_indexOfChar_4cfef 5 = .ok (.istore 5, 2) := by decide +kernel
theorem dJ1_indexOfChar_4cfef_7 : decode cJ1_indexOfChar_4cfef 7 = .ok (.iload 5, 2) := by decide +kernel
theorem dJ1_indexOfChar_4cfef_9 : decode cJ1_indexOfChar_4cfef 9 = .ok (.iload_n 3, 1) := by decide +kernel
theorem dJ1_indexOfChar_4cfef_10 : decode cJ1_indexOfChar_4cfef 10 = .ok (.if_icmp .ge 21, 3) := by decide +kernel
theorem dJ1_indexOfChar_4cfef_13 : decode cJ1_indexOfChar_4cfef 13 = .ok (.aload_n 0, 1) := by decide +kernel
theorem dJ1_indexOfChar_4cfef_14 : decode cJ1_indexOfChar_4cfef 14 = .ok (.iload 5, 2) := by decide +kernel
theorem dJ1_indexOfChar_4cfef_16 : decode cJ1_indexOfChar_4cfef 16 = .ok (.baload, 1) := by decide +kernel
theorem dJ1_indexOfChar_4cfef_17 : decode cJ1_indexOfChar_4cfef 17 = .ok (.iload 4, 2) := by decide +kernel
theorem dJ1_indexOfChar_4cfef_19 : decode cJ1_indexOfChar_4cfef 19 = .ok (.if_icmp .ne 6, 3) := by decide +kernel
theorem dJ1_indexOfChar_4cfef_22 : decode cJ1_indexOfChar_4cfef 22 = .ok (.iload 5, 2) := by decide +kernel
theorem dJ1_indexOfChar_4cfef_24 : decode cJ1_indexOfChar_4cfef 24 = .ok (.ireturn, 1) := by decide +kernel
theorem dJ1_indexOfChar_4cfef_25 : decode cJ1_indexOfChar_4cfef 25 = .ok (.iinc 5 1, 3) := by decide +kernel
theorem dJ1_indexOfChar_4cfef_28 : decode cJ1_indexOfChar_4cfef 28 = .ok (.goto (-21), 3) := by decide +kernel
theorem dJ1_indexOfChar_4cfef_31 : decode cJ1_indexOfChar_4cfef 31 = .ok (.iconst (-1), 1) := by decide +kernel
theorem dJ1_indexOfChar_4cfef_32 : decode cJ1_indexOfChar_4cfef 32 = .ok (.ireturn, 1) := by decide +kernel
theorem dJ2_getChar_3b067_0 : decode cJ2_getChar_3b067 0 = .ok (.getstatic 44, 3) := by decide +kernel
theorem dJ2_getChar_3b067_3 : decode cJ2_getChar_3b067 3 = .ok (.ifCond .ne 25, 3) := by decide +kernel
theorem dJ2_getChar_3b067_6 : decode cJ2_getChar_3b067 6 = .ok (.iload_n 1, 1) := by decide +kernel
theorem dJ2_getChar_3b067_7 : decode cJ2_getChar_3b067 7 = .ok (.ifCond .lt 11, 3) := by decide +kernel
theorem dJ2_getChar_3b067_10 : decode cJ2_getChar_3b067 10 = .ok (.iload_n 1, 1) := by decide +kernel
theorem dJ2_getChar_3b067_11 : decode cJ2_getChar_3b067 11 = .ok (.aload_n 0, 1) := by decide +kernel
theorem dJ2_getChar_3b067_12 : decode cJ2_getChar_3b067 12 = .ok (.invokestatic 48, 3) := by decide +kernel
theorem dJ2_getChar_3b067_15 : decode cJ2_getChar_3b067 15 = .ok (.if_icmp .lt 13, 3) := by decide +kernel
theorem dJ2_getChar_3b067_18 : decode cJ2_getChar_3b067 18 = .ok (.new 52, 3) := by decide +kernel
theorem dJ2_getChar_3b067_21 : decode cJ2_getChar_3b067 21 = .ok (.dup, 1) := by decide +kernel
theorem dJ2_getChar_3b067_22 : decode cJ2_getChar_3b067 22 = .ok (.ldc 54, 2) := by decide +kernel
theorem dJ2_getChar_3b067_24 : decode cJ2_getChar_3b067 24 = .ok (.invokespecial 56, 3) := by decide +kernel
theorem dJ2_getChar_3b067_27 : decode cJ2_getChar_3b067 27 = .ok (.athrow, 1) := by decide +kernel
theorem dJ2_getChar_3b067_28 : decode cJ2_getChar_3b067 28 = .ok (.iload_n 1, 1) := by decide +kernel
theorem dJ2_getChar_3b067_29 : decode cJ2_getChar_3b067 29 = .ok (.iconst 1, 1) := by decide +kernel
theorem dJ2_getChar_3b067_30 : decode cJ2_getChar_3b067 30 = .ok (.ishl, 1) := by decide +kernel
theorem dJ2_getChar_3b067_31 : decode cJ2_getChar_3b067 31 = .ok (.istore_n 1, 1) := by decide +kernel
theorem dJ2_getChar_3b067_32 : decode cJ2_getChar_3b067 32 = .ok (.aload_n 0, 1) := by decide +kernel
theorem dJ2_getChar_3b067_33 : decode cJ2_getChar_3b067 33 = .ok (.iload_n 1, 1) := by decide +kernel
theorem dJ2_getChar_3b067_34 : decode cJ2_getChar_3b067 34 = .ok (.iinc 1 1, 3) := by decide +kernel
theorem dJ2_getChar_3b067_37 : decode cJ2_getChar_3b067 37 = .ok (.baload, 1) := by decide +kernel
theorem dJ2_getChar_3b067_38 : decode cJ2_getChar_3b067 38 = .ok (.sipush 255, 3) := by decide +kernel
theorem dJ2_getChar_3b067_41 : decode cJ2_getChar_3b067 41 = .ok (.iand, 1) := by decide +kernel
theorem dJ2_getChar_3b067_42 : decode cJ2_getChar_3b067 42 = .ok (.getstatic 59, 3) := by decide +kernel
theorem dJ2_getChar_3b067_45 : decode cJ2_getChar_3b067 45 = .ok (.ishl, 1) := by decide +kernel
theorem dJ2_getChar_3b067_46 : decode cJ2_getChar_3b067 46 = .ok (.aload_n 0, 1) := by decide +kernel
theorem dJ2_getChar_3b067_47 : decode cJ2_getChar_3b067 47 = .ok (.iload_n 1, 1) := by decide +kernel
theorem dJ2_getChar_3b067_48 : decode cJ2_getChar_3b067 48 = .ok (.baload, 1) := by decide +kernel
theorem dJ2_getChar_3b067_49 : decode cJ2_getChar_3b067 49 = .ok (.sipush 255, 3) := by decide +kernel
theorem dJ2_getChar_3b067_52 : decode cJ2_getChar_3b067 52 = .ok (.iand, 1) := by decide +kernel
theorem dJ2_getChar_3b067_53 : decode cJ2_getChar_3b067 53 = .ok (.getstatic 63, 3) := by decide +kernel
theorem dJ2_getChar_3b067_56 : decode cJ2_getChar_3b067 56 = .ok (.ishl, 1) := by decide +kernel
theorem dJ2_getChar_3b067_57 : decode cJ2_getChar_3b067 57 = .ok (.ior, 1) := by decide +kernel
theorem dJ2_getChar_3b067_58 : decode cJ2_getChar_3b067 58 = .ok (.i2c, 1) := by decide +kernel
theorem dJ2_getChar_3b067_59 : decode cJ2_getChar_3b067 59 = .ok (.ireturn, 1) := by decide +kernel
theorem dJ2_length_9d52b_0 : decode cJ2_length_9d52b 0 = .ok (.aload_n 0, 1) := by decide +kernel
theorem dJ2_length_9d52b_1 : decode cJ2_length_9d52b 1 = .ok (.arraylength, 1) := by decide +kernel
theorem dJ2_length_9d52b_2 : decode cJ2_length_9d52b 2 = .ok (.iconst 1, 1) := by decide +kernel
theorem dJ2_length_9d52b_3 : decode cJ2_length_9d52b 3 = .ok (.ishr, 1) := by decide +kernel
theorem dJ2_length_9d52b_4 : decode cJ2_length_9d52b 4 = .ok (.ireturn, 1) := by decide +kernel
theorem dJ2_indexOf_4cfef_0 : decode cJ2_indexOf_4cfef 0 = .ok (.iload_n 2, 1) := by decide +kernel
theorem dJ2_indexOf_4cfef_1 : decode cJ2_indexOf_4cfef 1 = .ok (.iconst 0, 1) := by decide +kernel
theorem dJ2_indexOf_4cfef_2 : decode cJ2_indexOf_4cfef 2 = .ok (.invokestatic 224, 3) := by decide +kernel
theorem dJ2_indexOf_4cfef_5 : decode cJ2_indexOf_4cfef 5 = .ok (.istore_n 2, 1) := by decide +kernel
theorem dJ2_indexOf_4cfef_6 : decode cJ2_indexOf_4cfef 6 = .ok (.iload_n 3, 1) := by decide +kernel
theorem dJ2_indexOf_4cfef_7 : decode cJ2_indexOf_4cfef 7 = .ok (.aload_n 0, 1) := by decide +kernel
theorem dJ2_indexOf_4cfef_8 : decode cJ2_indexOf_4cfef 8 = .ok (.arraylength, 1) := by decide +kernel
theorem dJ2_indexOf_4cfef_9 : decode cJ2_indexOf_4cfef 9 = .ok (.iconst 1, 1) := by decide +kernel
theorem dJ2_indexOf_4cfef_10 : decode cJ2_indexOf_4cfef 10 = .ok (.ishr, 1) := by decide +kernel
theorem dJ2_indexOf_4cfef_11 : decode cJ2_indexOf_4cfef 11 = .ok (.invokestatic 183, 3) := by decide +kernel
theorem dJ2_indexOf_4cfef_14 : decode cJ2_indexOf_4cfef 14 = .ok (.istore_n 3, 1) := by decide +kernel
theorem dJ2_indexOf_4cfef_15 : decode cJ2_indexOf_4cfef 15 = .ok (.iload_n 2, 1) := by decide +kernel
theorem dJ2_indexOf_4cfef_16 : decode cJ2_indexOf_4cfef 16 = .ok (.iload_n 3, 1) := by decide +kernel
theorem dJ2_indexOf_4cfef_17 : decode cJ2_indexOf_4cfef 17 = .ok (.if_icmp .lt 5, 3) := by decide +kernel
theorem dJ2_indexOf_4cfef_20 : decode cJ2_indexOf_4cfef 20 = .ok (.iconst (-1), 1) := by decide +kernel
theorem dJ2_indexOf_4cfef_21 : decode cJ2_indexOf_4cfef 21 = .ok (.ireturn, 1) := by decide +kernel
theorem dJ2_indexOf_4cfef_22 : decode cJ2_indexOf_4cfef 22 = .ok (.iload_n 1, 1) := by decide +kernel
theorem dJ2_indexOf_4cfef_23 : decode cJ2_indexOf_4cfef 23 = .ok (.ldc 227, 2) := by decide +kernel
theorem dJ2_indexOf_4cfef_25 : decode cJ2_indexOf_4cfef 25 = .ok (.if_icmp .ge 11, 3) := by decide +kernel
theorem dJ2_indexOf_4cfef_28 : decode cJ2_indexOf_4cfef 28 = .ok (.aload_n 0, 1) := by decide +kernel
theorem dJ2_indexOf_4cfef_29 : decode cJ2_indexOf_4cfef 29 = .ok (.iload_n 1, 1) := by decide +kernel
theorem dJ2_indexOf_4cfef_30 : decode cJ2_indexOf_4cfef 30 = .ok (.iload_n 2, 1) := by decide +kernel
theorem dJ2_indexOf_4cfef_31 : decode cJ2_indexOf_4cfef 31 = .ok (.iload_n 3, 1) := by decide +kernel
theorem dJ2_indexOf_4cfef_32 : decode cJ2_indexOf_4cfef 32 = .ok (.invokestatic 228, 3) := by decide +kernel
theorem dJ2_indexOf_4cfef_35 : decode cJ2_indexOf_4cfef 35 = .ok (.ireturn, 1) := by decide +kernel
theorem dJ2_indexOf_4cfef_36 : decode cJ2_indexOf_4cfef 36 = .ok (.aload_n 0, 1) := by decide +kernel
theorem dJ2_indexOf_4cfef_37 : decode cJ2_indexOf_4cfef 37 = .ok (.iload_n 1, 1) := by decide +kernel
theorem dJ2_indexOf_4cfef_38 : decode cJ2_indexOf_4cfef 38 = .ok (.iload_n 2, 1) := by decide +kernel
theorem dJ2_indexOf_4cfef_39 : decode cJ2_indexOf_4cfef 39 = .ok (.iload_n 3, 1) := by decide +kernel
theorem dJ2_indexOf_4cfef_40 : decode cJ2_indexOf_4cfef 40 = .ok (.invokestatic 232, 3) := by decide +kernel
theorem dJ2_indexOf_4cfef_43 : decode cJ2_indexOf_4cfef 43 = .ok (.ireturn, 1) := by decide +kernel
theorem dJ2_indexOfChar_4cfef_0 : decode cJ2_indexOfChar_4cfef 0 = .ok (.iload_n 2, 1) := by decide +kernel
theorem dJ2_indexOfChar_4cfef_1 : decode cJ2_indexOfChar_4cfef 1 = .ok (.iload_n 3, 1) := by decide +kernel
theorem dJ2_indexOfChar_4cfef_2 : decode cJ2_indexOfChar_4cfef 2 = .ok (.aload_n 0, 1) := by decide +kernel
theorem dJ2_indexOfChar_4cfef_3 : decode cJ2_indexOfChar_4cfef 3 = .ok (.invokestatic 96, 3) := by decide +kernel
theorem dJ2_indexOfChar_4cfef_6 : decode cJ2_indexOfChar_4cfef 6 = .ok (.aload_n 0, 1) := by decide +kernel
theorem dJ2_indexOfChar_4cfef_7 : decode cJ2_indexOfChar_4cfef 7 = .ok (.iload_n 1, 1) := by decide +kernel
theorem dJ2_indexOfChar_4cfef_8 : decode cJ2_indexOfChar_4cfef 8 = .ok (.iload_n 2, 1) := by decide +kernel
theorem dJ2_indexOfChar_4cfef_9 : decode cJ2_indexOfChar_4cfef 9 = .ok (.iload_n 3, 1) := by decide +kernel
theorem dJ2_indexOfChar_4cfef_10 : decode cJ2_indexOfChar_4cfef 10 = .ok (.invokestatic 244, 3) := by decide +kernel
theorem dJ2_indexOfChar_4cfef_13 : decode cJ2_indexOfChar_4cfef 13 = .ok (.ireturn, 1) := by decide +kernel
theorem dJ2_indexOfCharUnsafe_4cfef_0 : decode cJ2_indexOfCharUnsafe_4cfef 0 = .ok (.iload_n 2, 1) := by decide +kernel
theorem dJ2_indexOfCharUnsafe_4cfef_1 : decode cJ2_indexOfCharUnsafe_4cfef 1 = .ok (.istore 4, 2) := by decide +kernel
theorem dJ2_indexOfCharUnsafe_4cfef_3 : decode cJ2_indexOfCharUnsafe_4cfef 3 = .ok (.iload 4, 2) := by decide +kernel
theorem dJ2_indexOfCharUnsafe_4cfef_5 : decode cJ2_indexOfCharUnsafe_4cfef 5 = .ok (.iload_n 3, 1) := by decide +kernel
theorem dJ2_indexOfCharUnsafe_4cfef_6 : decode cJ2_indexOfCharUnsafe_4cfef 6 = .ok (.if_icmp .ge 22, 3) := by decide +kernel
theorem dJ2_indexOfCharUnsafe_4cfef_9 : decode cJ2_indexOfCharUnsafe_4cfef 9 = .ok (.aload_n 0, 1) := by decide +kernel
theorem dJ2_indexOfCharUnsafe_4cfef_10 : decode cJ2_indexOfCharUnsafe_4cfef 10 = .ok (.iload 4, 2) := by decide +kernel
theorem dJ2_indexOfCharUnsafe_4cfef_12 : decode cJ2_indexOfCharUnsafe_4cfef 12 = .ok (.invokestatic 71, 3) := by decide +kernel
theorem dJ2_indexOfCharUnsafe_4cfef_15 : decode cJ2_indexOfCharUnsafe_4cfef 15 = .ok (.iload_n 1, 1) := by decide +kernel
theorem dJ2_indexOfCharUnsafe_4cfef_16 : decode cJ2_indexOfCharUnsafe_4cfef 16 = .ok (.if_icmp .ne 6, 3) := by decide +kernel
theorem dJ2_indexOfCharUnsafe_4cfef_19 : decode cJ2_indexOfCharUnsafe_4cfef 19 = .ok (.iload 4, 2) := by decide +kernel
theorem dJ2_indexOfCharUnsafe_4cfef_21 : decode cJ2_indexOfCharUnsafe_4cfef 21 = .ok (.ireturn, 1) := by decide +kernel
theorem dJ2_indexOfCharUnsafe_4cfef_22 : decode cJ2_indexOfCharUnsafe_4cfef 22 = .ok (.iinc 4 1, 3) := by decide +kernel
theorem dJ2_indexOfCharUnsafe_4cfef_25 : decode cJ2_indexOfCharUnsafe_4cfef 25 = .ok (.goto (-22), 3) := by decide +kernel
theorem dJ2_indexOfCharUnsafe_4cfef_28 : decode cJ2_indexOfCharUnsafe_4cfef 28 = .ok (.iconst (-1), 1) := by decide +kernel
theorem dJ2_indexOfCharUnsafe_4cfef_29 : decode cJ2_indexOfCharUnsafe_4cfef 29 = .ok (.ireturn, 1) := by decide +kernel
theorem dJ2_indexOfSupplementary_4cfef_0 : decode cJ2_indexOfSupplementary_4cfef 0 = .ok (.iload_n 1, 1) := by decide +kernel
theorem dJ2_indexOfSupplementary_4cfef_1 : decode cJ2_indexOfSupplementary_4cfef 1 = .ok (.invokestatic 164, 3) := by decide +kernel
theorem dJ2_indexOfSupplementary_4cfef_4 : decode cJ2_indexOfSupplementary_4cfef 4 = .ok (.ifCond .eq 65, 3) := by decide +kernel
theorem dJ2_indexOfSupplementary_4cfef_7 : decode cJ2_indexOfSupplementary_4cfef 7 = .ok (.iload_n 1, 1) := by decide +kernel
theorem dJ2_indexOfSupplementary_4cfef_8 : decode cJ2_indexOfSupplementary_4cfef 8 = .ok (.invokestatic 157, 3) := by decide +kernel
theorem dJ2_indexOfSupplementary_4cfef_11 : decode cJ2_indexOfSupplementary_4cfef 11 = .ok (.istore 4, 2) := by decide +kernel
theorem dJ2_indexOfSupplementary_4cfef_13 : decode cJ2_indexOfSupplementary_4cfef 13 = .ok (.iload_n 1, 1) := by decide +kernel
theorem dJ2_indexOfSupplementary_4cfef_14 : decode cJ2_indexOfSupplementary_4cfef 14 = .ok (.invokestatic 161, 3) := by decide +kernel
theorem dJ2_indexOfSupplementary_4cfef_17 : decode cJ2_indexOfSupplementary_4cfef 17 = .ok (.istore 5, 2) := by decide +kernel
theorem dJ2_indexOfSupplementary_4cfef_19 : decode cJ2_indexOfSupplementary_4cfef 19 = .ok (.iload_n 2, 1) := by decide +kernel
theorem dJ2_indexOfSupplementary_4cfef_20 : decode cJ2_indexOfSupplementary_4cfef 20 = .ok (.iload_n 3, 1) := by decide +kernel
theorem dJ2_indexOfSupplementary_4cfef_21 : decode cJ2_indexOfSupplementary_4cfef 21 = .ok (.aload_n 0, 1) := by decide +kernel
theorem dJ2_indexOfSupplementary_4cfef_22 : decode cJ2_indexOfSupplementary_4cfef 22 = .ok (.invokestatic 96, 3) := by decide +kernel
theorem dJ2_indexOfSupplementary_4cfef_25 : decode cJ2_indexOfSupplementary_4cfef 25 = .ok (.iload_n 2, 1) := by decide +kernel
theorem dJ2_indexOfSupplementary_4cfef_26 : decode cJ2_indexOfSupplementary_4cfef 26 = .ok (.istore 6, 2) := by decide +kernel
theorem dJ2_indexOfSupplementary_4cfef_28 : decode cJ2_indexOfSupplementary_4cfef 28 = .ok (.iload 6, 2) := by decide +kernel
theorem dJ2_indexOfSupplementary_4cfef_30 : decode cJ2_indexOfSupplementary_4cfef 30 = .ok (.iload_n 3, 1) := by decide +kernel
theorem dJ2_indexOfSupplementary_4cfef_31 : decode cJ2_indexOfSupplementary_4cfef 31 = .ok (.iconst 1, 1) := by decide +kernel
theorem dJ2_indexOfSupplementary_4cfef_32 : decode cJ2_indexOfSupplementary_4cfef 32 = .ok (.isub, 1) := by decide +kernel
theorem dJ2_indexOfSupplementary_4cfef_33 : decode cJ2_indexOfSupplementary_4cfef 33 = .ok (.if_icmp .ge 36, 3) := by decide +kernel
theorem dJ2_indexOfSupplementary_4cfef_36 : decode cJ2_indexOfSupplementary_4cfef 36 = .ok (.aload_n 0, 1) := by decide +kernel
theorem dJ2_indexOfSupplementary_4cfef_37 : decode cJ2_indexOfSupplementary_4cfef 37 = .ok (.iload 6, 2) := by decide +kernel
theorem dJ2_indexOfSupplementary_4cfef_39 : decode cJ2_indexOfSupplementary_4cfef 39 = .ok (.invokestatic 71, 3) := by decide +kernel
theorem dJ2_indexOfSupplementary_4cfef_42 : decode cJ2_indexOfSupplementary_4cfef 42 = .ok (.iload 4, 2) := by decide +kernel
theorem dJ2_indexOfSupplementary_4cfef_44 : decode cJ2_indexOfSupplementary_4cfef 44 = .ok (.if_icmp .ne 19, 3) := by decide +kernel
theorem dJ2_indexOfSupplementary_4cfef_47 : decode cJ2_indexOfSupplementary_4cfef 47 = .ok (.aload_n 0, 1) := by decide +kernel
theorem dJ2_indexOfSupplementary_4cfef_48 : decode cJ2_indexOfSupplementary_4cfef 48 = .ok (.iload 6, 2) := by decide +kernel
theorem dJ2_indexOfSupplementary_4cfef_50 : decode cJ2_indexOfSupplementary_4cfef 50 = .ok (.iconst 1, 1) := by decide +kernel
theorem dJ2_indexOfSupplementary_4cfef_51 : decode cJ2_indexOfSupplementary_4cfef 51 = .ok (.iadd, 1) := by decide +kernel
theorem dJ2_indexOfSupplementary_4cfef_52 : decode cJ2_indexOfSupplementary_4cfef 52 = .ok (.invokestatic 71, 3) := by decide +kernel
theorem dJ2_indexOfSupplementary_4cfef_55 : decode cJ2_indexOfSupplementary_4cfef 55 = .ok (.iload 5, 2) := by decide +kernel
theorem dJ2_indexOfSupplementary_4cfef_57 : decode cJ2_indexOfSupplementary_4cfef 57 = .ok (.if_icmp .ne 6, 3) := by decide +kernel
theorem dJ2_indexOfSupplementary_4cfef_60 : decode cJ2_indexOfSupplementary_4cfef 60 = .ok (.iload 6, 2) := by decide +kernel
theorem dJ2_indexOfSupplementary_4cfef_62 : decode cJ2_indexOfSupplementary_4cfef 62 = .ok (.ireturn, 1) := by decide +kernel
theorem dJ2_indexOfSupplementary_4cfef_63 : decode cJ2_indexOfSupplementary_4cfef 63 = .ok (.iinc 6 1, 3) := by decide +kernel
theorem dJ2_indexOfSupplementary_4cfef_66 : decode cJ2_indexOfSupplementary_4cfef 66 = .ok (.goto (-38), 3) := by decide +kernel
theorem dJ2_indexOfSupplementary_4cfef_69 : decode cJ2_indexOfSupplementary_4cfef 69 = .ok (.iconst (-1), 1) := by decide +kernel
theorem dJ2_indexOfSupplementary_4cfef_70 : decode cJ2_indexOfSupplementary_4cfef 70 = .ok (.ireturn, 1) := by decide +kernel
theorem dJ2_checkBoundsBeginEnd_d044e_0 : decode cJ2_checkBoundsBeginEnd_d044e 0 = .ok (.iload_n 0, 1) := by decide +kernel
theorem dJ2_checkBoundsBeginEnd_d044e_1 : decode cJ2_checkBoundsBeginEnd_d044e 1 = .ok (.iload_n 1, 1) := by decide +kernel
theorem dJ2_checkBoundsBeginEnd_d044e_2 : decode cJ2_checkBoundsBeginEnd_d044e 2 = .ok (.aload_n 2, 1) := by decide +kernel
theorem dJ2_checkBoundsBeginEnd_d044e_3 : decode cJ2_checkBoundsBeginEnd_d044e 3 = .ok (.invokestatic 48, 3) := by decide +kernel
theorem dJ2_checkBoundsBeginEnd_d044e_6 : decode cJ2_checkBoundsBeginEnd_d044e 6 = .ok (.invokestatic 241, 3) := by decide +kernel
theorem dJ2_checkBoundsBeginEnd_d044e_9 : decode cJ2_checkBoundsBeginEnd_d044e 9 = .ok (.return_, 1) := by decide +kernel
theorem dJxa1e45_init_da8c8_0 : decode cJxa1e45_init_da8c8 0 = .ok (.aload_n 0, 1) := by decide +kernel
theorem dJxa1e45_init_da8c8_1 : decode cJxa1e45_init_da8c8 1 = .ok (.invokespecial 1, 3) := by decide +kernel
theorem dJxa1e45_init_da8c8_4 : decode cJxa1e45_init_da8c8 4 = .ok (.return_, 1) := by decide +kernel
theorem dJxc12de_init_da8c8_0 : decode cJxc12de_init_da8c8 0 = .ok (.aload_n 0, 1) := by decide +kernel
theorem dJxc12de_init_da8c8_1 : decode cJxc12de_init_da8c8 1 = .ok (.invokespecial 1, 3) := by decide +kernel
theorem dJxc12de_init_da8c8_4 : decode cJxc12de_init_da8c8 4 = .ok (.aload_n 0, 1) := by decide +kernel
theorem dJxc12de_init_da8c8_5 : decode cJxc12de_init_da8c8 5 = .ok (.iconst 0, 1) := by decide +kernel
theorem dJxc12de_init_da8c8_6 : decode cJxc12de_init_da8c8 6 = .ok (.putfield 7, 3) := by decide +kernel
theorem dJxc12de_init_da8c8_9 : decode cJxc12de_init_da8c8 9 = .ok (.return_, 1) := by decide +kernel
theorem dJx35411_init_45d68_0 : decode cJx35411_init_45d68 0 = .ok (.aload_n 0, 1) := by decide +kernel
theorem dJx35411_init_45d68_1 : decode cJx35411_init_45d68 1 = .ok (.aload_n 1, 1) := by decide +kernel
theorem dJx35411_init_45d68_2 : decode cJx35411_init_45d68 2 = .ok (.putfield 1, 3) := by decide +kernel
theorem dJx35411_init_45d68_5 : decode cJx35411_init_45d68 5 = .ok (.aload_n 0, 1) := by decide +kernel
theorem dJx35411_init_45d68_6 : decode cJx35411_init_45d68 6 = .ok (.invokespecial 7, 3) := by decide +kernel
theorem dJx35411_init_45d68_9 : decode cJx35411_init_45d68 9 = .ok (.aload_n 0, 1) := by decide +kernel
theorem dJx35411_init_45d68_10 : decode cJx35411_init_45d68 10 = .ok (.iconst (-1), 1) := by decide +kernel
theorem dJx35411_init_45d68_11 : decode cJx35411_init_45d68 11 = .ok (.putfield 13, 3) := by decide +kernel
theorem dJx35411_init_45d68_14 : decode cJx35411_init_45d68 14 = .ok (.aload_n 0, 1) := by decide +kernel
theorem dJx35411_init_45d68_15 : decode cJx35411_init_45d68 15 = .ok (.aload_n 0, 1) := by decide +kernel
theorem dJx35411_init_45d68_16 : decode cJx35411_init_45d68 16 = .ok (.getfield 1, 3) := by decide +kernel
theorem dJx35411_init_45d68_19 : decode cJx35411_init_45d68 19 = .ok (.getfield 17, 3) := by decide +kernel
theorem dJx35411_init_45d68_22 : decode cJx35411_init_45d68 22 = .ok (.putfield 22, 3) := by decide +kernel
theorem dJx35411_init_45d68_25 : decode cJx35411_init_45d68 25 = .ok (.return_, 1) := by decide +kernel
theorem dJx35411_hasNext_aae02_0 : decode cJx35411_hasNext_aae02 0 = .ok (.aload_n 0, 1) := by decide +kernel
theorem dJx35411_hasNext_aae02_1 : decode cJx35411_hasNext_aae02 1 = .ok (.getfield 25, 3) := by decide +kernel
theorem dJx35411_hasNext_aae02_4 : decode cJx35411_hasNext_aae02 4 = .ok (.aload_n 0, 1) := by decide +kernel
theorem dJx35411_hasNext_aae02_5 : decode cJx35411_hasNext_aae02 5 = .ok (.getfield 1, 3) := by decide +kernel
theorem dJx35411_hasNext_aae02_8 : decode cJx35411_hasNext_aae02 8 = .ok (.getfield 28, 3) := by decide +kernel
theorem dJx35411_hasNext_aae02_11 : decode cJx35411_hasNext_aae02 11 = .ok (.if_icmp .eq 7, 3) := by decide +kernel
theorem dJx35411_hasNext_aae02_14 : decode cJx35411_hasNext_aae02 14 = .ok (.iconst 1, 1) := by decide +kernel
theorem dJx35411_hasNext_aae02_15 : decode cJx35411_hasNext_aae02 15 = .ok (.goto 4, 3) := by decide +kernel
theorem dJx35411_hasNext_aae02_18 : decode cJx35411_hasNext_aae02 18 = .ok (.iconst 0, 1) := by decide +kernel
theorem dJx35411_hasNext_aae02_19 : decode cJx35411_hasNext_aae02 19 = .ok (.ireturn, 1) := by decide +kernel
theorem dJx35411_next_0502b_0 : decode cJx35411_next_0502b 0 = .ok (.aload_n 0, 1) := by decide +kernel
theorem dJx35411_next_0502b_1 : decode cJx35411_next_0502b 1 = .ok (.invokevirtual 31, 3) := by decide +kernel
theorem dJx35411_next_0502b_4 : decode cJx35411_next_0502b 4 = .ok (.aload_n 0, 1) := by decide +kernel
theorem dJx35411_next_0502b_5 : decode cJx35411_next_0502b 5 = .ok (.getfield 25, 3) := by decide +kernel
theorem dJx35411_next_0502b_8 : decode cJx35411_next_0502b 8 = .ok (.istore_n 1, 1) := by decide +kernel
theorem dJx35411_next_0502b_9 : decode cJx35411_next_0502b 9 = .ok (.iload_n 1, 1) := by decide +kernel
theorem dJx35411_next_0502b_10 : decode cJx35411_next_0502b 10 = .ok (.aload_n 0, 1) := by decide +kernel
theorem dJx35411_next_0502b_11 : decode cJx35411_next_0502b 11 = .ok (.getfield 1, 3) := by decide +kernel
theorem dJx35411_next_0502b_14 : decode cJx35411_next_0502b 14 = .ok (.getfield 28, 3) := by decide +kernel
theorem dJx35411_next_0502b_17 : decode cJx35411_next_0502b 17 = .ok (.if_icmp .lt 11, 3) := by decide +kernel
theorem dJx35411_next_0502b_20 : decode cJx35411_next_0502b 20 = .ok (.new 34, 3) := by decide +kernel
theorem dJx35411_next_0502b_23 : decode cJx35411_next_0502b 23 = .ok (.dup, 1) := by decide +kernel
theorem dJx35411_next_0502b_24 : decode cJx35411_next_0502b 24 = .ok (.invokespecial 36, 3) := by decide +kernel
theorem dJx35411_next_0502b_27 : decode cJx35411_next_0502b 27 = .ok (.athrow, 1) := by decide +kernel
theorem dJx35411_next_0502b_28 : decode cJx35411_next_0502b 28 = .ok (.aload_n 0, 1) := by decide +kernel
theorem dJx35411_next_0502b_29 : decode cJx35411_next_0502b 29 = .ok (.getfield 1, 3) := by decide +kernel
theorem dJx35411_next_0502b_32 : decode cJx35411_next_0502b 32 = .ok (.getfield 37, 3) := by decide +kernel
theorem dJx35411_next_0502b_35 : decode cJx35411_next_0502b 35 = .ok (.astore_n 2, 1) := by decide +kernel
theorem dJx35411_next_0502b_36 : decode cJx35411_next_0502b 36 = .ok (.iload_n 1, 1) := by decide +kernel
theorem dJx35411_next_0502b_37 : decode cJx35411_next_0502b 37 = .ok (.aload_n 2, 1) := by decide +kernel
theorem dJx35411_next_0502b_38 : decode cJx35411_next_0502b 38 = .ok (.arraylength, 1) := by decide +kernel
theorem dJx35411_next_0502b_39 : decode cJx35411_next_0502b 39 = .ok (.if_icmp .lt 11, 3) := by decide +kernel
theorem dJx35411_next_0502b_42 : decode cJx35411_next_0502b 42 = .ok (.new 41, 3) := by decide +kernel
theorem dJx35411_next_0502b_45 : decode cJx35411_next_0502b 45 = .ok (.dup, 1) := by decide +kernel
theorem dJx35411_next_0502b_46 : decode cJx35411_next_0502b 46 = .ok (.invokespecial 43, 3) := by decide +kernel
theorem dJx35411_next_0502b_49 : decode cJx35411_next_0502b 49 = .ok (.athrow, 1) := by decide +kernel
theorem dJx35411_next_0502b_50 : decode cJx35411_next_0502b 50 = .ok (.aload_n 0, 1) := by decide +kernel
theorem dJx35411_next_0502b_51 : decode cJx35411_next_0502b 51 = .ok (.iload_n 1, 1) := by decide +kernel
theorem dJx35411_next_0502b_52 : decode cJx35411_next_0502b 52 = .ok (.iconst 1, 1) := by decide +kernel
theorem dJx35411_next_0502b_53 : decode cJx35411_next_0502b 53 = .ok (.iadd, 1) := by decide +kernel
theorem dJx35411_next_0502b_54 : decode cJx35411_next_0502b 54 = .ok (.putfield 25, 3) := by decide +kernel
theorem dJx35411_next_0502b_57 : decode cJx35411_next_0502b 57 = .ok (.aload_n 2, 1) := by decide +kernel
theorem dJx35411_next_0502b_58 : decode cJx35411_next_0502b 58 = .ok (.aload_n 0, 1) := by decide +kernel
theorem dJx35411_next_0502b_59 : decode cJx35411_next_0502b 59 = .ok (.iload_n 1, 1) := by decide +kernel
theorem dJx35411_next_0502b_60 : decode cJx35411_next_0502b 60 = .ok (.dup_x1, 1) := by decide +kernel
theorem dJx35411_next_0502b_61 : decode cJx35411_next_0502b 61 = .ok (.putfield 13, 3) := by decide +kernel
theorem dJx35411_next_0502b_64 : decode cJx35411_next_0502b 64 = .ok (.aaload, 1) := by decide +kernel
theorem dJx35411_next_0502b_65 : decode cJx35411_next_0502b 65 = .ok (.areturn, 1) := by decide +kernel
theorem dJx35411_checkForComodification_da8c8_0 : decode cJx35411_checkForComodification_da8c8 0 = .ok (.aload_n 0, 1) := by decide +kernel
theorem dJx35411_checkForComodification_da8c8_1 : decode cJx35411_checkForComodification_da8c8 1 = .ok (.getfield 1, 3) := by decide +kernel
theorem dJx35411_checkForComodification_da8c8_4 : decode cJx35411_checkForComodification_da8c8 4 = .ok (.getfield 17, 3) := by decide +kernel
theorem dJx35411_checkForComodification_da8c8_7 : decode cJx35411_checkForComodification_da8c8 7 = .ok (.aload_n 0, 1) := by decide +kernel
theorem dJx35411_checkForComodification_da8c8_8 : decode cJx35411_checkForComodification_da8c8 8 = .ok (.getfield 22, 3) := by decide +kernel
theorem dJx35411_checkForComodification_da8c8_11 : decode cJx35411_checkForComodification_da8c8 11 = .ok (.if_icmp .eq 11, 3) := by decide +kernel
theorem dJx35411_checkForComodification_da8c8_14 : decode cJx35411_checkForComodification_da8c8 14 = .ok (.new 41, 3) := by decide +kernel
theorem dJx35411_checkForComodification_da8c8_17 : decode cJx35411_checkForComodification_da8c8 17 = .ok (.dup, 1) := by decide +kernel
theorem dJx35411_checkForComodification_da8c8_18 : decode cJx35411_checkForComodification_da8c8 18 = .ok (.invokespecial 43, 3) := by decide +kernel
theorem dJx35411_checkForComodification_da8c8_21 : decode cJx35411_checkForComodification_da8c8 21 = .ok (.athrow, 1) := by decide +kernel
theorem dJx35411_checkForComodification_da8c8_22 : decode cJx35411_checkForComodification_da8c8 22 = .ok (.return_, 1) := by decide +kernel
theorem dJx4a65c_init_da8c8_0 : decode cJx4a65c_init_da8c8 0 = .ok (.aload_n 0, 1) := by decide +kernel
theorem dJx4a65c_init_da8c8_1 : decode cJx4a65c_init_da8c8 1 = .ok (.invokespecial 1, 3) := by decide +kernel
theorem dJx4a65c_init_da8c8_4 : decode cJx4a65c_init_da8c8 4 = .ok (.aload_n 0, 1) := by decide +kernel
theorem dJx4a65c_init_da8c8_5 : decode cJx4a65c_init_da8c8 5 = .ok (.getstatic 39, 3) := by decide +kernel
theorem dJx4a65c_init_da8c8_8 : decode cJx4a65c_init_da8c8 8 = .ok (.putfield 9, 3) := by decide +kernel
theorem dJx4a65c_init_da8c8_11 : decode cJx4a65c_init_da8c8 11 = .ok (.return_, 1) := by decide +kernel
theorem dJx4a65c_grow_92f84_0 : decode cJx4a65c_grow_92f84 0 = .ok (.aload_n 0, 1) := by decide +kernel
theorem dJx4a65c_grow_92f84_1 : decode cJx4a65c_grow_92f84 1 = .ok (.getfield 9, 3) := by decide +kernel
theorem dJx4a65c_grow_92f84_4 : decode cJx4a65c_grow_92f84 4 = .ok (.arraylength, 1) := by decide +kernel
theorem dJx4a65c_grow_92f84_5 : decode cJx4a65c_grow_92f84 5 = .ok (.istore_n 2, 1) := by decide +kernel
theorem dJx4a65c_grow_92f84_6 : decode cJx4a65c_grow_92f84 6 = .ok (.iload_n 2, 1) := by decide +kernel
theorem dJx4a65c_grow_92f84_7 : decode cJx4a65c_grow_92f84 7 = .ok (.ifCond .gt 13, 3) := by decide +kernel
theorem dJx4a65c_grow_92f84_10 : decode cJx4a65c_grow_92f84 10 = .ok (.aload_n 0, 1) := by decide +kernel
theorem dJx4a65c_grow_92f84_11 : decode cJx4a65c_grow_92f84 11 = .ok (.getfield 9, 3) := by decide +kernel
theorem dJx4a65c_grow_92f84_14 : decode cJx4a65c_grow_92f84 14 = .ok (.getstatic 39, 3) := by decide +kernel
theorem dJx4a65c_grow_92f84_17 : decode cJx4a65c_grow_92f84 17 = .ok (.if_acmp .eq 28, 3) := by decide +kernel
theorem dJx4a65c_grow_92f84_20 : decode cJx4a65c_grow_92f84 20 = .ok (.iload_n 2, 1) := by decide +kernel
theorem dJx4a65c_grow_92f84_21 : decode cJx4a65c_grow_92f84 21 = .ok (.iload_n 1, 1) := by decide +kernel
theorem dJx4a65c_grow_92f84_22 : decode cJx4a65c_grow_92f84 22 = .ok (.iload_n 2, 1) := by decide +kernel
theorem dJx4a65c_grow_92f84_23 : decode cJx4a65c_grow_92f84 23 = .ok (.isub, 1) := by decide +kernel
theorem dJx4a65c_grow_92f84_24 : decode cJx4a65c_grow_92f84 24 = .ok (.iload_n 2, 1) := by decide +kernel
theorem dJx4a65c_grow_92f84_25 : decode cJx4a65c_grow_92f84 25 = .ok (.iconst 1, 1) := by decide +kernel
theorem dJx4a65c_grow_92f84_26 : decode cJx4a65c_grow_92f84 26 = .ok (.ishr, 1) := by decide +kernel
theorem dJx4a65c_grow_92f84_27 : decode cJx4a65c_grow_92f84 27 = .ok (.invokestatic 73, 3) := by decide +kernel
theorem dJx4a65c_grow_92f84_30 : decode cJx4a65c_grow_92f84 30 = .ok (.istore_n 3, 1) := by decide +kernel
theorem dJx4a65c_grow_92f84_31 : decode cJx4a65c_grow_92f84 31 = .ok (.aload_n 0, 1) := by decide +kernel
theorem dJx4a65c_grow_92f84_32 : decode cJx4a65c_grow_92f84 32 = .ok (.aload_n 0, 1) := by decide +kernel
theorem dJx4a65c_grow_92f84_33 : decode cJx4a65c_grow_92f84 33 = .ok (.getfield 9, 3) := by decide +kernel
theorem dJx4a65c_grow_92f84_36 : decode cJx4a65c_grow_92f84 36 = .ok (.iload_n 3, 1) := by decide +kernel
theorem dJx4a65c_grow_92f84_37 : decode cJx4a65c_grow_92f84 37 = .ok (.invokestatic 66, 3) := by decide +kernel
theorem dJx4a65c_grow_92f84_40 : decode cJx4a65c_grow_92f84 40 = .ok (.dup_x1, 1) := by decide +kernel
theorem dJx4a65c_grow_92f84_41 : decode cJx4a65c_grow_92f84 41 = .ok (.putfield 9, 3) := by decide +kernel
theorem dJx4a65c_grow_92f84_44 : decode cJx4a65c_grow_92f84 44 = .ok (.areturn, 1) := by decide +kernel
theorem dJx4a65c_grow_92f84_45 : decode cJx4a65c_grow_92f84 45 = .ok (.aload_n 0, 1) := by decide +kernel
theorem dJx4a65c_grow_92f84_46 : decode cJx4a65c_grow_92f84 46 = .ok (.bipush 10, 2) := by decide +kernel
theorem dJx4a65c_grow_92f84_48 : decode cJx4a65c_grow_92f84 48 = .ok (.iload_n 1, 1) := by decide +kernel
theorem dJx4a65c_grow_92f84_49 : decode cJx4a65c_grow_92f84 49 = .ok (.invokestatic 79, 3) := by decide +kernel
theorem dJx4a65c_grow_92f84_52 : decode cJx4a65c_grow_92f84 52 = .ok (.anewarray 7, 3) := by decide +kernel
theorem dJx4a65c_grow_92f84_55 : decode cJx4a65c_grow_92f84 55 = .ok (.dup_x1, 1) := by decide +kernel
theorem dJx4a65c_grow_92f84_56 : decode cJx4a65c_grow_92f84 56 = .ok (.putfield 9, 3) := by decide +kernel
theorem dJx4a65c_grow_92f84_59 : decode cJx4a65c_grow_92f84 59 = .ok (.areturn, 1) := by decide +kernel
theorem dJx4a65c_grow_d5877_0 : decode cJx4a65c_grow_d5877 0 = .ok (.aload_n 0, 1) := by decide +kernel
theorem dJx4a65c_grow_d5877_1 : decode cJx4a65c_grow_d5877 1 = .ok (.aload_n 0, 1) := by decide +kernel
theorem dJx4a65c_grow_d5877_2 : decode cJx4a65c_grow_d5877 2 = .ok (.getfield 48, 3) := by decide +kernel
theorem dJx4a65c_grow_d5877_5 : decode cJx4a65c_grow_d5877 5 = .ok (.iconst 1, 1) := by decide +kernel
theorem dJx4a65c_grow_d5877_6 : decode cJx4a65c_grow_d5877 6 = .ok (.iadd, 1) := by decide +kernel
theorem dJx4a65c_grow_d5877_7 : decode cJx4a65c_grow_d5877 7 = .ok (.invokevirtual 69, 3) := by decide +kernel
theorem dJx4a65c_grow_d5877_10 : decode cJx4a65c_grow_d5877 10 = .ok (.areturn, 1) := by decide +kernel
theorem dJx4a65c_size_8abf5_0 : decode cJx4a65c_size_8abf5 0 = .ok (.aload_n 0, 1) := by decide +kernel
theorem dJx4a65c_size_8abf5_1 : decode cJx4a65c_size_8abf5 1 = .ok (.getfield 48, 3) := by decide +kernel
theorem dJx4a65c_size_8abf5_4 : decode cJx4a65c_size_8abf5 4 = .ok (.ireturn, 1) := by decide +kernel
theorem dJx4a65c_isEmpty_aae02_0 : decode cJx4a65c_isEmpty_aae02 0 = .ok (.aload_n 0, 1) := by decide +kernel
theorem dJx4a65c_isEmpty_aae02_1 : decode cJx4a65c_isEmpty_aae02 1 = .ok (.getfield 48, 3) := by decide +kernel
theorem dJx4a65c_isEmpty_aae02_4 : decode cJx4a65c_isEmpty_aae02 4 = .ok (.ifCond .ne 7, 3) := by decide +kernel
theorem dJx4a65c_isEmpty_aae02_7 : decode cJx4a65c_isEmpty_aae02 7 = .ok (.iconst 1, 1) := by decide +kernel
theorem dJx4a65c_isEmpty_aae02_8 : decode cJx4a65c_isEmpty_aae02 8 = .ok (.goto 4, 3) := by decide +kernel
theorem dJx4a65c_isEmpty_aae02_11 : decode cJx4a65c_isEmpty_aae02 11 = .ok (.iconst 0, 1) := by decide +kernel
theorem dJx4a65c_isEmpty_aae02_12 : decode cJx4a65c_isEmpty_aae02 12 = .ok (.ireturn, 1) := by decide +kernel
theorem dJx4a65c_elementData_915e3_0 : decode cJx4a65c_elementData_915e3 0 = .ok (.aload_n 0, 1) := by decide +kernel
theorem dJx4a65c_elementData_915e3_1 : decode cJx4a65c_elementData_915e3 1 = .ok (.getfield 9, 3) := by decide +kernel
theorem dJx4a65c_elementData_915e3_4 : decode cJx4a65c_elementData_915e3 4 = .ok (.iload_n 1, 1) := by decide +kernel
theorem dJx4a65c_elementData_915e3_5 : decode cJx4a65c_elementData_915e3 5 = .ok (.aaload, 1) := by decide +kernel
theorem dJx4a65c_elementData_915e3_6 : decode cJx4a65c_elementData_915e3 6 = .ok (.areturn, 1) := by decide +kernel
theorem dJx4a65c_get_915e3_0 : decode cJx4a65c_get_915e3 0 = .ok (.iload_n 1, 1) := by decide +kernel
theorem dJx4a65c_get_915e3_1 : decode cJx4a65c_get_915e3 1 = .ok (.aload_n 0, 1) := by decide +kernel
theorem dJx4a65c_get_915e3_2 : decode cJx4a65c_get_915e3 2 = .ok (.getfield 48, 3) := by decide +kernel
theorem dJx4a65c_get_915e3_5 : decode cJx4a65c_get_915e3 5 = .ok (.invokestatic 118, 3) := by decide +kernel
theorem dJx4a65c_get_915e3_8 : decode cJx4a65c_get_915e3 8 = .ok (.pop, 1) := by decide +kernel
theorem dJx4a65c_get_915e3_9 : decode cJx4a65c_get_915e3 9 = .ok (.aload_n 0, 1) := by decide +kernel
theorem dJx4a65c_get_915e3_10 : decode cJx4a65c_get_915e3 10 = .ok (.iload_n 1, 1) := by decide +kernel
theorem dJx4a65c_get_915e3_11 : decode cJx4a65c_get_915e3 11 = .ok (.invokevirtual 123, 3) := by decide +kernel
theorem dJx4a65c_get_915e3_14 : decode cJx4a65c_get_915e3 14 = .ok (.areturn, 1) := by decide +kernel
theorem dJx4a65c_add_72be8_0 : decode cJx4a65c_add_72be8 0 = .ok (.iload_n 3, 1) := by decide +kernel
theorem dJx4a65c_add_72be8_1 : decode cJx4a65c_add_72be8 1 = .ok (.aload_n 2, 1) := by decide +kernel
theorem dJx4a65c_add_72be8_2 : decode cJx4a65c_add_72be8 2 = .ok (.arraylength, 1) := by decide +kernel
theorem dJx4a65c_add_72be8_3 : decode cJx4a65c_add_72be8 3 = .ok (.if_icmp .ne 8, 3) := by decide +kernel
theorem dJx4a65c_add_72be8_6 : decode cJx4a65c_add_72be8 6 = .ok (.aload_n 0, 1) := by decide +kernel
theorem dJx4a65c_add_72be8_7 : decode cJx4a65c_add_72be8 7 = .ok (.invokevirtual 129, 3) := by decide +kernel
theorem dJx4a65c_add_72be8_10 : decode cJx4a65c_add_72be8 10 = .ok (.astore_n 2, 1) := by decide +kernel
theorem dJx4a65c_add_72be8_11 : decode cJx4a65c_add_72be8 11 = .ok (.aload_n 2, 1) := by decide +kernel
theorem dJx4a65c_add_72be8_12 : decode cJx4a65c_add_72be8 12 = .ok (.iload_n 3, 1) := by decide +kernel
theorem dJx4a65c_add_72be8_13 : decode cJx4a65c_add_72be8 13 = .ok (.aload_n 1, 1) := by decide +kernel
theorem dJx4a65c_add_72be8_14 : decode cJx4a65c_add_72be8 14 = .ok (.aastore, 1) := by decide +kernel
theorem dJx4a65c_add_72be8_15 : decode cJx4a65c_add_72be8 15 = .ok (.aload_n 0, 1) := by decide +kernel
theorem dJx4a65c_add_72be8_16 : decode cJx4a65c_add_72be8 16 = .ok (.iload_n 3, 1) := by decide +kernel
theorem dJx4a65c_add_72be8_17 : decode cJx4a65c_add_72be8 17 = .ok (.iconst 1, 1) := by decide +kernel
theorem dJx4a65c_add_72be8_18 : decode cJx4a65c_add_72be8 18 = .ok (.iadd, 1) := by decide +kernel
theorem dJx4a65c_add_72be8_19 : decode cJx4a65c_add_72be8 19 = .ok (.putfield 48, 3) := by decide +kernel
theorem dJx4a65c_add_72be8_22 : decode cJx4a65c_add_72be8 22 = .ok (.return_, 1) := by decide +kernel
theorem dJx4a65c_add_9ea2d_0 : decode cJx4a65c_add_9ea2d 0 = .ok (.aload_n 0, 1) := by decide +kernel
theorem dJx4a65c_add_9ea2d_1 : decode cJx4a65c_add_9ea2d 1 = .ok (.dup, 1) := by decide +kernel
theorem dJx4a65c_add_9ea2d_2 : decode cJx4a65c_add_9ea2d 2 = .ok (.getfield 63, 3) := by decide +kernel
theorem dJx4a65c_add_9ea2d_5 : decode cJx4a65c_add_9ea2d 5 = .ok (.iconst 1, 1) := by decide +kernel
theorem dJx4a65c_add_9ea2d_6 : decode cJx4a65c_add_9ea2d 6 = .ok (.iadd, 1) := by decide +kernel
theorem dJx4a65c_add_9ea2d_7 : decode cJx4a65c_add_9ea2d 7 = .ok (.putfield 63, 3) := by decide +kernel
theorem dJx4a65c_add_9ea2d_10 : decode cJx4a65c_add_9ea2d 10 = .ok (.aload_n 0, 1) := by decide +kernel
theorem dJx4a65c_add_9ea2d_11 : decode cJx4a65c_add_9ea2d 11 = .ok (.aload_n 1, 1) := by decide +kernel
theorem dJx4a65c_add_9ea2d_12 : decode cJx4a65c_add_9ea2d 12 = .ok (.aload_n 0, 1) := by decide +kernel
theorem dJx4a65c_add_9ea2d_13 : decode cJx4a65c_add_9ea2d 13 = .ok (.getfield 9, 3) := by decide +kernel
theorem dJx4a65c_add_9ea2d_16 : decode cJx4a65c_add_9ea2d 16 = .ok (.aload_n 0, 1) := by decide +kernel
theorem dJx4a65c_add_9ea2d_17 : decode cJx4a65c_add_9ea2d 17 = .ok (.getfield 48, 3) := by decide +kernel
theorem dJx4a65c_add_9ea2d_20 : decode cJx4a65c_add_9ea2d 20 = .ok (.invokevirtual 131, 3) := by decide +kernel
theorem dJx4a65c_add_9ea2d_23 : decode cJx4a65c_add_9ea2d 23 = .ok (.iconst 1, 1) := by decide +kernel
theorem dJx4a65c_add_9ea2d_24 : decode cJx4a65c_add_9ea2d 24 = .ok (.ireturn, 1) := by decide +kernel
theorem dJx4a65c_clear_da8c8_0 : decode cJx4a65c_clear_da8c8 0 = .ok (.aload_n 0, 1) := by decide +kernel
theorem dJx4a65c_clear_da8c8_1 : decode cJx4a65c_clear_da8c8 1 = .ok (.dup, 1) := by decide +kernel
theorem dJx4a65c_clear_da8c8_2 : decode cJx4a65c_clear_da8c8 2 = .ok (.getfield 63, 3) := by decide +kernel
theorem dJx4a65c_clear_da8c8_5 : decode cJx4a65c_clear_da8c8 5 = .ok (.iconst 1, 1) := by decide +kernel
theorem dJx4a65c_clear_da8c8_6 : decode cJx4a65c_clear_da8c8 6 = .ok (.iadd, 1) := by decide +kernel
theorem dJx4a65c_clear_da8c8_7 : decode cJx4a65c_clear_da8c8 7 = .ok (.putfield 63, 3) := by decide +kernel
theorem dJx4a65c_clear_da8c8_10 : decode cJx4a65c_clear_da8c8 10 = .ok (.aload_n 0, 1) := by decide +kernel
theorem dJx4a65c_clear_da8c8_11 : decode cJx4a65c_clear_da8c8 11 = .ok (.getfield 9, 3) := by decide +kernel
theorem dJx4a65c_clear_da8c8_14 : decode cJx4a65c_clear_da8c8 14 = .ok (.astore_n 1, 1) := by decide +kernel
theorem dJx4a65c_clear_da8c8_15 : decode cJx4a65c_clear_da8c8 15 = .ok (.aload_n 0, 1) := by decide +kernel
theorem dJx4a65c_clear_da8c8_16 : decode cJx4a65c_clear_da8c8 16 = .ok (.getfield 48, 3) := by decide +kernel
theorem dJx4a65c_clear_da8c8_19 : decode cJx4a65c_clear_da8c8 19 = .ok (.istore_n 2, 1) := by decide +kernel
theorem dJx4a65c_clear_da8c8_20 : decode cJx4a65c_clear_da8c8 20 = .ok (.aload_n 0, 1) := by decide +kernel
theorem dJx4a65c_clear_da8c8_21 : decode cJx4a65c_clear_da8c8 21 = .ok (.iconst 0, 1) := by decide +kernel
theorem dJx4a65c_clear_da8c8_22 : decode cJx4a65c_clear_da8c8 22 = .ok (.dup_x1, 1) := by decide +kernel
theorem dJx4a65c_clear_da8c8_23 : decode cJx4a65c_clear_da8c8 23 = .ok (.putfield 48, 3) := by decide +kernel
theorem dJx4a65c_clear_da8c8_26 : decode cJx4a65c_clear_da8c8 26 = .ok (.istore_n 3, 1) := by decide +kernel
theorem dJx4a65c_clear_da8c8_27 : decode cJx4a65c_clear_da8c8 27 = .ok (.iload_n 3, 1) := by decide +kernel
theorem dJx4a65c_clear_da8c8_28 : decode cJx4a65c_clear_da8c8 28 = .ok (.iload_n 2, 1) := by decide +kernel
theorem dJx4a65c_clear_da8c8_29 : decode cJx4a65c_clear_da8c8 29 = .ok (.if_icmp .ge 13, 3) := by decide +kernel
theorem dJx4a65c_clear_da8c8_32 : decode cJx4a65c_clear_da8c8 32 = .ok (.aload_n 1, 1) := by decide +kernel
theorem dJx4a65c_clear_da8c8_33 : decode cJx4a65c_clear_da8c8 33 = .ok (.iload_n 3, 1) := by decide +kernel
theorem dJx4a65c_clear_da8c8_34 : decode cJx4a65c_clear_da8c8 34 = .ok (.aconst_null, 1) := by decide +kernel
theorem dJx4a65c_clear_da8c8_35 : decode cJx4a65c_clear_da8c8 35 = .ok (.aastore, 1) := by decide +kernel
theorem dJx4a65c_clear_da8c8_36 : decode cJx4a65c_clear_da8c8 36 = .ok (.iinc 3 1, 3) := by decide +kernel
theorem dJx4a65c_clear_da8c8_39 : decode cJx4a65c_clear_da8c8 39 = .ok (.goto (-12), 3) := by decide +kernel
theorem dJx4a65c_clear_da8c8_42 : decode cJx4a65c_clear_da8c8 42 = .ok (.return_, 1) := by decide +kernel
theorem dJx4a65c_iterator_32c93_0 : decode cJx4a65c_iterator_32c93 0 = .ok (.new 267, 3) := by decide +kernel
theorem dJx4a65c_iterator_32c93_3 : decode cJx4a65c_iterator_32c93 3 = .ok (.dup, 1) := by decide +kernel
theorem dJx4a65c_iterator_32c93_4 : decode cJx4a65c_iterator_32c93 4 = .ok (.aload_n 0, 1) := by decide +kernel
theorem dJx4a65c_iterator_32c93_5 : decode cJx4a65c_iterator_32c93 5 = .ok (.invokespecial 269, 3) := by decide +kernel
theorem dJx4a65c_iterator_32c93_8 : decode cJx4a65c_iterator_32c93 8 = .ok (.areturn, 1) := by decide +kernel
theorem dJ7_copyOf_1904c_0 : decode cJ7_copyOf_1904c 0 = .ok (.aload_n 0, 1) := by decide +kernel
theorem dJ7_copyOf_1904c_1 : decode cJ7_copyOf_1904c 1 = .ok (.iload_n 1, 1) := by decide +kernel
theorem dJ7_copyOf_1904c_2 : decode cJ7_copyOf_1904c 2 = .ok (.aload_n 0, 1) := by decide +kernel
theorem dJ7_copyOf_1904c_3 : decode cJ7_copyOf_1904c 3 = .ok (.invokevirtual 86, 3) := by decide +kernel
theorem dJ7_copyOf_1904c_6 : decode cJ7_copyOf_1904c 6 = .ok (.invokestatic 300, 3) := by decide +kernel
theorem dJ7_copyOf_1904c_9 : decode cJ7_copyOf_1904c 9 = .ok (.areturn, 1) := by decide +kernel
theorem dJ7_copyOf_6403c_0 : decode cJ7_copyOf_6403c 0 = .ok (.aload_n 2, 1) := by decide +kernel
theorem dJ7_copyOf_6403c_1 : decode cJ7_copyOf_6403c 1 = .ok (.ldc 110, 2) := by decide +kernel
theorem dJ7_copyOf_6403c_3 : decode cJ7_copyOf_6403c 3 = .ok (.if_acmp .ne 10, 3) := by decide +kernel
theorem dJ7_copyOf_6403c_6 : decode cJ7_copyOf_6403c 6 = .ok (.iload_n 1, 1) := by decide +kernel
theorem dJ7_copyOf_6403c_7 : decode cJ7_copyOf_6403c 7 = .ok (.anewarray 2, 3) := by decide +kernel
theorem dJ7_copyOf_6403c_10 : decode cJ7_copyOf_6403c 10 = .ok (.goto 14, 3) := by decide +kernel
theorem dJ7_copyOf_6403c_13 : decode cJ7_copyOf_6403c 13 = .ok (.aload_n 2, 1) := by decide +kernel
theorem dJ7_copyOf_6403c_14 : decode cJ7_copyOf_6403c 14 = .ok (.invokevirtual 90, 3) := by decide +kernel
theorem dJ7_copyOf_6403c_17 : decode cJ7_copyOf_6403c 17 = .ok (.iload_n 1, 1) := by decide +kernel
theorem dJ7_copyOf_6403c_18 : decode cJ7_copyOf_6403c 18 = .ok (.invokestatic 95, 3) := by decide +kernel
theorem dJ7_copyOf_6403c_21 : decode cJ7_copyOf_6403c 21 = .ok (.checkcast 110, 3) := by decide +kernel
theorem dJ7_copyOf_6403c_24 : decode cJ7_copyOf_6403c 24 = .ok (.astore_n 3, 1) := by decide +kernel
theorem dJ7_copyOf_6403c_25 : decode cJ7_copyOf_6403c 25 = .ok (.aload_n 0, 1) := by decide +kernel
theorem dJ7_copyOf_6403c_26 : decode cJ7_copyOf_6403c 26 = .ok (.iconst 0, 1) := by decide +kernel
theorem dJ7_copyOf_6403c_27 : decode cJ7_copyOf_6403c 27 = .ok (.aload_n 3, 1) := by decide +kernel
theorem dJ7_copyOf_6403c_28 : decode cJ7_copyOf_6403c 28 = .ok (.iconst 0, 1) := by decide +kernel
theorem dJ7_copyOf_6403c_29 : decode cJ7_copyOf_6403c 29 = .ok (.aload_n 0, 1) := by decide +kernel
theorem dJ7_copyOf_6403c_30 : decode cJ7_copyOf_6403c 30 = .ok (.arraylength, 1) := by decide +kernel
theorem dJ7_copyOf_6403c_31 : decode cJ7_copyOf_6403c 31 = .ok (.iload_n 1, 1) := by decide +kernel
theorem dJ7_copyOf_6403c_32 : decode cJ7_copyOf_6403c 32 = .ok (.invokestatic 304, 3) := by decide +kernel
theorem dJ7_copyOf_6403c_35 : decode cJ7_copyOf_6403c 35 = .ok (.invokestatic 150, 3) := by decide +kernel
theorem dJ7_copyOf_6403c_38 : decode cJ7_copyOf_6403c 38 = .ok (.aload_n 3, 1) := by decide +kernel
theorem dJ7_copyOf_6403c_39 : decode cJ7_copyOf_6403c 39 = .ok (.areturn, 1) := by decide +kernel
theorem dJ15_checkIndex_7cf53_0 : decode cJ15_checkIndex_7cf53 0 = .ok (.iload_n 0, 1) := by decide +kernel
theorem dJ15_checkIndex_7cf53_1 : decode cJ15_checkIndex_7cf53 1 = .ok (.iload_n 1, 1) := by decide +kernel
theorem dJ15_checkIndex_7cf53_2 : decode cJ15_checkIndex_7cf53 2 = .ok (.aconst_null, 1) := by decide +kernel
theorem dJ15_checkIndex_7cf53_3 : decode cJ15_checkIndex_7cf53 3 = .ok (.invokestatic 105, 3) := by decide +kernel
theorem dJ15_checkIndex_7cf53_6 : decode cJ15_checkIndex_7cf53 6 = .ok (.ireturn, 1) := by decide +kernel
theorem dJ8_newLength_cabcc_0 : decode cJ8_newLength_cabcc 0 = .ok (.iload_n 0, 1) := by decide +kernel
theorem dJ8_newLength_cabcc_1 : decode cJ8_newLength_cabcc 1 = .ok (.iload_n 1, 1) := by decide +kernel
theorem dJ8_newLength_cabcc_2 : decode cJ8_newLength_cabcc 2 = .ok (.iload_n 2, 1) := by decide +kernel
theorem dJ8_newLength_cabcc_3 : decode cJ8_newLength_cabcc 3 = .ok (.invokestatic 194, 3) := by decide +kernel
theorem dJ8_newLength_cabcc_6 : decode cJ8_newLength_cabcc 6 = .ok (.iadd, 1) := by decide +kernel
theorem dJ8_newLength_cabcc_7 : decode cJ8_newLength_cabcc 7 = .ok (.istore_n 3, 1) := by decide +kernel
theorem dJ8_newLength_cabcc_8 : decode cJ8_newLength_cabcc 8 = .ok (.iconst 0, 1) := by decide +kernel
theorem dJ8_newLength_cabcc_9 : decode cJ8_newLength_cabcc 9 = .ok (.iload_n 3, 1) := by decide +kernel
theorem dJ8_newLength_cabcc_10 : decode cJ8_newLength_cabcc 10 = .ok (.if_icmp .ge 11, 3) := by decide +kernel
theorem dJ8_newLength_cabcc_13 : decode cJ8_newLength_cabcc 13 = .ok (.iload_n 3, 1) := by decide +kernel
theorem dJ8_newLength_cabcc_14 : decode cJ8_newLength_cabcc 14 = .ok (.ldc 200, 2) := by decide +kernel
theorem dJ8_newLength_cabcc_16 : decode cJ8_newLength_cabcc 16 = .ok (.if_icmp .gt 5, 3) := by decide +kernel
theorem dJ8_newLength_cabcc_19 : decode cJ8_newLength_cabcc 19 = .ok (.iload_n 3, 1) := by decide +kernel
theorem dJ8_newLength_cabcc_20 : decode cJ8_newLength_cabcc 20 = .ok (.ireturn, 1) := by decide +kernel
theorem dJ8_newLength_cabcc_21 : decode cJ8_newLength_cabcc 21 = .ok (.iload_n 0, 1) := by decide +kernel
theorem dJ8_newLength_cabcc_22 : decode cJ8_newLength_cabcc 22 = .ok (.iload_n 1, 1) := by decide +kernel
theorem dJ8_newLength_cabcc_23 : decode cJ8_newLength_cabcc 23 = .ok (.invokestatic 201, 3) := by decide +kernel
theorem dJ8_newLength_cabcc_26 : decode cJ8_newLength_cabcc 26 = .ok (.ireturn, 1) := by decide +kernel
theorem dJ8_hugeLength_7cf53_0 : decode cJ8_hugeLength_7cf53 0 = .ok (.iload_n 0, 1) := by decide +kernel
theorem dJ8_hugeLength_7cf53_1 : decode cJ8_hugeLength_7cf53 1 = .ok (.iload_n 1, 1) := by decide +kernel
theorem dJ8_hugeLength_7cf53_2 : decode cJ8_hugeLength_7cf53 2 = .ok (.iadd, 1) := by decide +kernel
theorem dJ8_hugeLength_7cf53_3 : decode cJ8_hugeLength_7cf53 3 = .ok (.istore_n 2, 1) := by decide +kernel
theorem dJ8_hugeLength_7cf53_4 : decode cJ8_hugeLength_7cf53 4 = .ok (.iload_n 2, 1) := by decide +kernel
theorem dJ8_hugeLength_7cf53_5 : decode cJ8_hugeLength_7cf53 5 = .ok (.ifCond .ge 44, 3) := by decide +kernel
theorem dJ8_hugeLength_7cf53_8 : decode cJ8_hugeLength_7cf53 8 = .ok (.new 204, 3) := by decide +kernel
theorem dJ8_hugeLength_7cf53_11 : decode cJ8_hugeLength_7cf53 11 = .ok (.dup, 1) := by decide +kernel
theorem dJ8_hugeLength_7cf53_12 : decode cJ8_hugeLength_7cf53 12 = .ok (.new 89, 3) := by decide +kernel
theorem dJ8_hugeLength_7cf53_15 : decode cJ8_hugeLength_7cf53 15 = .ok (.dup, 1) := by decide +kernel
theorem dJ8_hugeLength_7cf53_16 : decode cJ8_hugeLength_7cf53 16 = .ok (.invokespecial 91, 3) := by decide +kernel
theorem dJ8_hugeLength_7cf53_19 : decode cJ8_hugeLength_7cf53 19 = .ok (.ldc 206, 2) := by decide +kernel
theorem dJ8_hugeLength_7cf53_21 : decode cJ8_hugeLength_7cf53 21 = .ok (.invokevirtual 94, 3) := by decide +kernel
theorem dJ8_hugeLength_7cf53_24 : decode cJ8_hugeLength_7cf53 24 = .ok (.iload_n 0, 1) := by decide +kernel
theorem dJ8_hugeLength_7cf53_25 : decode cJ8_hugeLength_7cf53 25 = .ok (.invokevirtual 98, 3) := by decide +kernel
theorem dJ8_hugeLength_7cf53_28 : decode cJ8_hugeLength_7cf53 28 = .ok (.ldc 208, 2) := by decide +kernel
theorem dJ8_hugeLength_7cf53_30 : decode cJ8_hugeLength_7cf53 30 = .ok (.invokevirtual 94, 3) := by decide +kernel
theorem dJ8_hugeLength_7cf53_33 : decode cJ8_hugeLength_7cf53 33 = .ok (.iload_n 1, 1) := by decide +kernel
theorem dJ8_hugeLength_7cf53_34 : decode cJ8_hugeLength_7cf53 34 = .ok (.invokevirtual 98, 3) := by decide +kernel
theorem dJ8_hugeLength_7cf53_37 : decode cJ8_hugeLength_7cf53 37 = .ok (.ldc 210, 2) := by decide +kernel
theorem dJ8_hugeLength_7cf53_39 : decode cJ8_hugeLength_7cf53 39 = .ok (.invokevirtual 94, 3) := by decide +kernel
theorem dJ8_hugeLength_7cf53_42 : decode cJ8_hugeLength_7cf53 42 = .ok (.invokevirtual 101, 3) := by decide +kernel
theorem dJ8_hugeLength_7cf53_45 : decode cJ8_hugeLength_7cf53 45 = .ok (.invokespecial 212, 3) := by decide +kernel
theorem dJ8_hugeLength_7cf53_48 : decode cJ8_hugeLength_7cf53 48 = .ok (.athrow, 1) := by decide +kernel
theorem dJ8_hugeLength_7cf53_49 : decode cJ8_hugeLength_7cf53 49 = .ok (.iload_n 2, 1) := by decide +kernel
theorem dJ8_hugeLength_7cf53_50 : decode cJ8_hugeLength_7cf53 50 = .ok (.ldc 200, 2) := by decide +kernel
theorem dJ8_hugeLength_7cf53_52 : decode cJ8_hugeLength_7cf53 52 = .ok (.if_icmp .gt 6, 3) := by decide +kernel
theorem dJ8_hugeLength_7cf53_55 : decode cJ8_hugeLength_7cf53 55 = .ok (.ldc 200, 2) := by decide +kernel
theorem dJ8_hugeLength_7cf53_57 : decode cJ8_hugeLength_7cf53 57 = .ok (.ireturn, 1) := by decide +kernel
theorem dJ8_hugeLength_7cf53_58 : decode cJ8_hugeLength_7cf53 58 = .ok (.iload_n 2, 1) := by decide +kernel
theorem dJ8_hugeLength_7cf53_59 : decode cJ8_hugeLength_7cf53 59 = .ok (.ireturn, 1) := by decide +kernel
theorem dJ3_checkIndex_8e157_0 : decode cJ3_checkIndex_8e157 0 = .ok (.iload_n 0, 1) := by decide +kernel
theorem dJ3_checkIndex_8e157_1 : decode cJ3_checkIndex_8e157 1 = .ok (.ifCond .lt 8, 3) := by decide +kernel
theorem dJ3_checkIndex_8e157_4 : decode cJ3_checkIndex_8e157 4 = .ok (.iload_n 0, 1) := by decide +kernel
theorem dJ3_checkIndex_8e157_5 : decode cJ3_checkIndex_8e157 5 = .ok (.iload_n 1, 1) := by decide +kernel
theorem dJ3_checkIndex_8e157_6 : decode cJ3_checkIndex_8e157 6 = .ok (.if_icmp .lt 10, 3) := by decide +kernel
theorem dJ3_checkIndex_8e157_9 : decode cJ3_checkIndex_8e157 9 = .ok (.aload_n 2, 1) := by decide +kernel
theorem dJ3_checkIndex_8e157_10 : decode cJ3_checkIndex_8e157 10 = .ok (.iload_n 0, 1) := by decide +kernel
theorem dJ3_checkIndex_8e157_11 : decode cJ3_checkIndex_8e157 11 = .ok (.iload_n 1, 1) := by decide +kernel
theorem dJ3_checkIndex_8e157_12 : decode cJ3_checkIndex_8e157 12 = .ok (.invokestatic 95, 3) := by decide +kernel
theorem dJ3_checkIndex_8e157_15 : decode cJ3_checkIndex_8e157 15 = .ok (.athrow, 1) := by decide +kernel
theorem dJ3_checkIndex_8e157_16 : decode cJ3_checkIndex_8e157 16 = .ok (.iload_n 0, 1) := by decide +kernel
theorem dJ3_checkIndex_8e157_17 : decode cJ3_checkIndex_8e157 17 = .ok (.ireturn, 1) := by decide +kernel
theorem dJ3_checkFromToIndex_8c36e_0 : decode cJ3_checkFromToIndex_8c36e 0 = .ok (.iload_n 0, 1) := by decide +kernel
theorem dJ3_checkFromToIndex_8c36e_1 : decode cJ3_checkFromToIndex_8c36e 1 = .ok (.ifCond .lt 13, 3) := by decide +kernel
theorem dJ3_checkFromToIndex_8c36e_4 : decode cJ3_checkFromToIndex_8c36e 4 = .ok (.iload_n 0, 1) := by decide +kernel
theorem dJ3_checkFromToIndex_8c36e_5 : decode cJ3_checkFromToIndex_8c36e 5 = .ok (.iload_n 1, 1) := by decide +kernel
theorem dJ3_checkFromToIndex_8c36e_6 : decode cJ3_checkFromToIndex_8c36e 6 = .ok (.if_icmp .gt 8, 3) := by decide +kernel
theorem dJ3_checkFromToIndex_8c36e_9 : decode cJ3_checkFromToIndex_8c36e 9 = .ok (.iload_n 1, 1) := by decide +kernel
theorem dJ3_checkFromToIndex_8c36e_10 : decode cJ3_checkFromToIndex_8c36e 10 = .ok (.iload_n 2, 1) := by decide +kernel
theorem dJ3_checkFromToIndex_8c36e_11 : decode cJ3_checkFromToIndex_8c36e 11 = .ok (.if_icmp .le 11, 3) := by decide +kernel
theorem dJ3_checkFromToIndex_8c36e_14 : decode cJ3_checkFromToIndex_8c36e 14 = .ok (.aload_n 3, 1) := by decide +kernel
theorem dJ3_checkFromToIndex_8c36e_15 : decode cJ3_checkFromToIndex_8c36e 15 = .ok (.iload_n 0, 1) := by decide +kernel
theorem dJ3_checkFromToIndex_8c36e_16 : decode cJ3_checkFromToIndex_8c36e 16 = .ok (.iload_n 1, 1) := by decide +kernel
theorem dJ3_checkFromToIndex_8c36e_17 : decode cJ3_checkFromToIndex_8c36e 17 = .ok (.iload_n 2, 1) := by decide +kernel
theorem dJ3_checkFromToIndex_8c36e_18 : decode cJ3_checkFromToIndex_8c36e 18 = .ok (.invokestatic 99, 3) := by decide +kernel
theorem dJ3_checkFromToIndex_8c36e_21 : decode cJ3_checkFromToIndex_8c36e 21 = .ok (.athrow, 1) := by decide +kernel
theorem dJ3_checkFromToIndex_8c36e_22 : decode cJ3_checkFromToIndex_8c36e 22 = .ok (.iload_n 0, 1) := by decide +kernel
theorem dJ3_checkFromToIndex_8c36e_23 : decode cJ3_checkFromToIndex_8c36e 23 = .ok (.ireturn, 1) := by decide +kernel
theorem dL_column_0 : decode cL_column 0 = .ok (.aload_n 2, 1) := by decide +kernel
theorem dL_column_1 : decode cL_column 1 = .ok (.iconst 0, 1) := by decide +kernel
theorem dL_column_2 : decode cL_column 2 = .ok (.aload_n 0, 1) := by decide +kernel
theorem dL_column_3 : decode cL_column 3 = .ok (.iload_n 1, 1) := by decide +kernel
theorem dL_column_4 : decode cL_column 4 = .ok (.invokevirtual 7, 3) := by decide +kernel
theorem dL_column_7 : decode cL_column 7 = .ok (.i2l, 1) := by decide +kernel
theorem dL_column_8 : decode cL_column 8 = .ok (.lastore, 1) := by decide +kernel
theorem dL_column_9 : decode cL_column 9 = .ok (.goto 9, 3) := by decide +kernel
theorem dL_column_12 : decode cL_column 12 = .ok (.astore_n 3, 1) := by decide +kernel
theorem dL_column_13 : decode cL_column 13 = .ok (.iconst 1, 1) := by decide +kernel
theorem dL_column_14 : decode cL_column 14 = .ok (.ireturn, 1) := by decide +kernel
theorem dL_column_15 : decode cL_column 15 = .ok (.astore_n 3, 1) := by decide +kernel
theorem dL_column_16 : decode cL_column 16 = .ok (.iconst 2, 1) := by decide +kernel
theorem dL_column_17 : decode cL_column 17 = .ok (.ireturn, 1) := by decide +kernel
theorem dL_column_18 : decode cL_column 18 = .ok (.iconst 0, 1) := by decide +kernel
theorem dL_column_19 : decode cL_column 19 = .ok (.ireturn, 1) := by decide +kernel
theorem dL_layer_0 : decode cL_layer 0 = .ok (.aload 4, 2) := by decide +kernel
theorem dL_layer_2 : decode cL_layer 2 = .ok (.iconst 0, 1) := by decide +kernel
theorem dL_layer_3 : decode cL_layer 3 = .ok (.aload_n 0, 1) := by decide +kernel
theorem dL_layer_4 : decode cL_layer 4 = .ok (.iload_n 1, 1) := by decide +kernel
theorem dL_layer_5 : decode cL_layer 5 = .ok (.iload_n 2, 1) := by decide +kernel
theorem dL_layer_6 : decode cL_layer 6 = .ok (.iload_n 3, 1) := by decide +kernel
theorem dL_layer_7 : decode cL_layer 7 = .ok (.invokevirtual 17, 3) := by decide +kernel
theorem dL_layer_10 : decode cL_layer 10 = .ok (.i2l, 1) := by decide +kernel
theorem dL_layer_11 : decode cL_layer 11 = .ok (.lastore, 1) := by decide +kernel
theorem dL_layer_12 : decode cL_layer 12 = .ok (.goto 15, 3) := by decide +kernel
theorem dL_layer_15 : decode cL_layer 15 = .ok (.astore 5, 2) := by decide +kernel
theorem dL_layer_17 : decode cL_layer 17 = .ok (.iconst 1, 1) := by decide +kernel
theorem dL_layer_18 : decode cL_layer 18 = .ok (.ireturn, 1) := by decide +kernel
theorem dL_layer_19 : decode cL_layer 19 = .ok (.astore 5, 2) := by decide +kernel
theorem dL_layer_21 : decode cL_layer 21 = .ok (.iconst 2, 1) := by decide +kernel
theorem dL_layer_22 : decode cL_layer 22 = .ok (.ireturn, 1) := by decide +kernel
theorem dL_layer_23 : decode cL_layer 23 = .ok (.astore 5, 2) := by decide +kernel
theorem dL_layer_25 : decode cL_layer 25 = .ok (.iconst 3, 1) := by decide +kernel
theorem dL_layer_26 : decode cL_layer 26 = .ok (.ireturn, 1) := by decide +kernel
theorem dL_layer_27 : decode cL_layer 27 = .ok (.iconst 0, 1) := by decide +kernel
theorem dL_layer_28 : decode cL_layer 28 = .ok (.ireturn, 1) := by decide +kernel
theorem dL_wet_0 : decode cL_wet 0 = .ok (.aload 4, 2) := by decide +kernel
theorem dL_wet_2 : decode cL_wet 2 = .ok (.iconst 0, 1) := by decide +kernel
theorem dL_wet_3 : decode cL_wet 3 = .ok (.aload_n 0, 1) := by decide +kernel
theorem dL_wet_4 : decode cL_wet 4 = .ok (.iload_n 1, 1) := by decide +kernel
theorem dL_wet_5 : decode cL_wet 5 = .ok (.iload_n 2, 1) := by decide +kernel
theorem dL_wet_6 : decode cL_wet 6 = .ok (.iload_n 3, 1) := by decide +kernel
theorem dL_wet_7 : decode cL_wet 7 = .ok (.invokevirtual 23, 3) := by decide +kernel
theorem dL_wet_10 : decode cL_wet 10 = .ok (.i2l, 1) := by decide +kernel
theorem dL_wet_11 : decode cL_wet 11 = .ok (.lastore, 1) := by decide +kernel
theorem dL_wet_12 : decode cL_wet 12 = .ok (.goto 11, 3) := by decide +kernel
theorem dL_wet_15 : decode cL_wet 15 = .ok (.astore 5, 2) := by decide +kernel
theorem dL_wet_17 : decode cL_wet 17 = .ok (.iconst 1, 1) := by decide +kernel
theorem dL_wet_18 : decode cL_wet 18 = .ok (.ireturn, 1) := by decide +kernel
theorem dL_wet_19 : decode cL_wet 19 = .ok (.astore 5, 2) := by decide +kernel
theorem dL_wet_21 : decode cL_wet 21 = .ok (.iconst 2, 1) := by decide +kernel
theorem dL_wet_22 : decode cL_wet 22 = .ok (.ireturn, 1) := by decide +kernel
theorem dL_wet_23 : decode cL_wet 23 = .ok (.iconst 0, 1) := by decide +kernel
theorem dL_wet_24 : decode cL_wet 24 = .ok (.ireturn, 1) := by decide +kernel
theorem dL_water_0 : decode cL_water 0 = .ok (.aload_n 3, 1) := by decide +kernel
theorem dL_water_1 : decode cL_water 1 = .ok (.iconst 0, 1) := by decide +kernel
theorem dL_water_2 : decode cL_water 2 = .ok (.aload_n 0, 1) := by decide +kernel
theorem dL_water_3 : decode cL_water 3 = .ok (.iload_n 1, 1) := by decide +kernel
theorem dL_water_4 : decode cL_water 4 = .ok (.iload_n 2, 1) := by decide +kernel
theorem dL_water_5 : decode cL_water 5 = .ok (.invokevirtual 27, 3) := by decide +kernel
theorem dL_water_8 : decode cL_water 8 = .ok (.i2l, 1) := by decide +kernel
theorem dL_water_9 : decode cL_water 9 = .ok (.lastore, 1) := by decide +kernel
theorem dL_water_10 : decode cL_water 10 = .ok (.goto 7, 3) := by decide +kernel
theorem dL_water_13 : decode cL_water 13 = .ok (.astore 4, 2) := by decide +kernel
theorem dL_water_15 : decode cL_water 15 = .ok (.iconst 1, 1) := by decide +kernel
theorem dL_water_16 : decode cL_water 16 = .ok (.ireturn, 1) := by decide +kernel
theorem dL_water_17 : decode cL_water 17 = .ok (.iconst 0, 1) := by decide +kernel
theorem dL_water_18 : decode cL_water 18 = .ok (.ireturn, 1) := by decide +kernel
theorem dL_capacity_0 : decode cL_capacity 0 = .ok (.aload_n 3, 1) := by decide +kernel
theorem dL_capacity_1 : decode cL_capacity 1 = .ok (.iconst 0, 1) := by decide +kernel
theorem dL_capacity_2 : decode cL_capacity 2 = .ok (.aload_n 0, 1) := by decide +kernel
theorem dL_capacity_3 : decode cL_capacity 3 = .ok (.iload_n 1, 1) := by decide +kernel
theorem dL_capacity_4 : decode cL_capacity 4 = .ok (.iload_n 2, 1) := by decide +kernel
theorem dL_capacity_5 : decode cL_capacity 5 = .ok (.invokevirtual 31, 3) := by decide +kernel
theorem dL_capacity_8 : decode cL_capacity 8 = .ok (.i2l, 1) := by decide +kernel
theorem dL_capacity_9 : decode cL_capacity 9 = .ok (.lastore, 1) := by decide +kernel
theorem dL_capacity_10 : decode cL_capacity 10 = .ok (.goto 7, 3) := by decide +kernel
theorem dL_capacity_13 : decode cL_capacity 13 = .ok (.astore 4, 2) := by decide +kernel
theorem dL_capacity_15 : decode cL_capacity 15 = .ok (.iconst 1, 1) := by decide +kernel
theorem dL_capacity_16 : decode cL_capacity 16 = .ok (.ireturn, 1) := by decide +kernel
theorem dL_capacity_17 : decode cL_capacity 17 = .ok (.iconst 0, 1) := by decide +kernel
theorem dL_capacity_18 : decode cL_capacity 18 = .ok (.ireturn, 1) := by decide +kernel
theorem dL_link_0 : decode cL_link 0 = .ok (.aload_n 3, 1) := by decide +kernel
theorem dL_link_1 : decode cL_link 1 = .ok (.iconst 0, 1) := by decide +kernel
theorem dL_link_2 : decode cL_link 2 = .ok (.aload_n 0, 1) := by decide +kernel
theorem dL_link_3 : decode cL_link 3 = .ok (.iload_n 1, 1) := by decide +kernel
theorem dL_link_4 : decode cL_link 4 = .ok (.iload_n 2, 1) := by decide +kernel
theorem dL_link_5 : decode cL_link 5 = .ok (.invokevirtual 34, 3) := by decide +kernel
theorem dL_link_8 : decode cL_link 8 = .ok (.i2l, 1) := by decide +kernel
theorem dL_link_9 : decode cL_link 9 = .ok (.lastore, 1) := by decide +kernel
theorem dL_link_10 : decode cL_link 10 = .ok (.goto 11, 3) := by decide +kernel
theorem dL_link_13 : decode cL_link 13 = .ok (.astore 4, 2) := by decide +kernel
theorem dL_link_15 : decode cL_link 15 = .ok (.iconst 1, 1) := by decide +kernel
theorem dL_link_16 : decode cL_link 16 = .ok (.ireturn, 1) := by decide +kernel
theorem dL_link_17 : decode cL_link 17 = .ok (.astore 4, 2) := by decide +kernel
theorem dL_link_19 : decode cL_link 19 = .ok (.iconst 2, 1) := by decide +kernel
theorem dL_link_20 : decode cL_link 20 = .ok (.ireturn, 1) := by decide +kernel
theorem dL_link_21 : decode cL_link 21 = .ok (.iconst 0, 1) := by decide +kernel
theorem dL_link_22 : decode cL_link 22 = .ok (.ireturn, 1) := by decide +kernel
theorem dL_scale_0 : decode cL_scale 0 = .ok (.aload_n 3, 1) := by decide +kernel
theorem dL_scale_1 : decode cL_scale 1 = .ok (.iconst 0, 1) := by decide +kernel
theorem dL_scale_2 : decode cL_scale 2 = .ok (.aload_n 0, 1) := by decide +kernel
theorem dL_scale_3 : decode cL_scale 3 = .ok (.iload_n 1, 1) := by decide +kernel
theorem dL_scale_4 : decode cL_scale 4 = .ok (.iload_n 2, 1) := by decide +kernel
theorem dL_scale_5 : decode cL_scale 5 = .ok (.invokevirtual 37, 3) := by decide +kernel
theorem dL_scale_8 : decode cL_scale 8 = .ok (.i2l, 1) := by decide +kernel
theorem dL_scale_9 : decode cL_scale 9 = .ok (.lastore, 1) := by decide +kernel
theorem dL_scale_10 : decode cL_scale 10 = .ok (.goto 11, 3) := by decide +kernel
theorem dL_scale_13 : decode cL_scale 13 = .ok (.astore 4, 2) := by decide +kernel
theorem dL_scale_15 : decode cL_scale 15 = .ok (.iconst 1, 1) := by decide +kernel
theorem dL_scale_16 : decode cL_scale 16 = .ok (.ireturn, 1) := by decide +kernel
theorem dL_scale_17 : decode cL_scale 17 = .ok (.astore 4, 2) := by decide +kernel
theorem dL_scale_19 : decode cL_scale 19 = .ok (.iconst 2, 1) := by decide +kernel
theorem dL_scale_20 : decode cL_scale 20 = .ok (.ireturn, 1) := by decide +kernel
theorem dL_scale_21 : decode cL_scale 21 = .ok (.iconst 0, 1) := by decide +kernel
theorem dL_scale_22 : decode cL_scale 22 = .ok (.ireturn, 1) := by decide +kernel
theorem dL_plant_0 : decode cL_plant 0 = .ok (.aload 4, 2) := by decide +kernel
theorem dL_plant_2 : decode cL_plant 2 = .ok (.iconst 0, 1) := by decide +kernel
theorem dL_plant_3 : decode cL_plant 3 = .ok (.aload_n 0, 1) := by decide +kernel
theorem dL_plant_4 : decode cL_plant 4 = .ok (.iload_n 1, 1) := by decide +kernel
theorem dL_plant_5 : decode cL_plant 5 = .ok (.iload_n 2, 1) := by decide +kernel
theorem dL_plant_6 : decode cL_plant 6 = .ok (.iload_n 3, 1) := by decide +kernel
theorem dL_plant_7 : decode cL_plant 7 = .ok (.invokevirtual 40, 3) := by decide +kernel
theorem dL_plant_10 : decode cL_plant 10 = .ok (.i2l, 1) := by decide +kernel
theorem dL_plant_11 : decode cL_plant 11 = .ok (.lastore, 1) := by decide +kernel
theorem dL_plant_12 : decode cL_plant 12 = .ok (.goto 15, 3) := by decide +kernel
theorem dL_plant_15 : decode cL_plant 15 = .ok (.astore 5, 2) := by decide +kernel
theorem dL_plant_17 : decode cL_plant 17 = .ok (.iconst 1, 1) := by decide +kernel
theorem dL_plant_18 : decode cL_plant 18 = .ok (.ireturn, 1) := by decide +kernel
theorem dL_plant_19 : decode cL_plant 19 = .ok (.astore 5, 2) := by decide +kernel
theorem dL_plant_21 : decode cL_plant 21 = .ok (.iconst 2, 1) := by decide +kernel
theorem dL_plant_22 : decode cL_plant 22 = .ok (.ireturn, 1) := by decide +kernel
theorem dL_plant_23 : decode cL_plant 23 = .ok (.astore 5, 2) := by decide +kernel
theorem dL_plant_25 : decode cL_plant 25 = .ok (.iconst 3, 1) := by decide +kernel
theorem dL_plant_26 : decode cL_plant 26 = .ok (.ireturn, 1) := by decide +kernel
theorem dL_plant_27 : decode cL_plant 27 = .ok (.iconst 0, 1) := by decide +kernel
theorem dL_plant_28 : decode cL_plant 28 = .ok (.ireturn, 1) := by decide +kernel
theorem dL_harvest_0 : decode cL_harvest 0 = .ok (.aload_n 2, 1) := by decide +kernel
theorem dL_harvest_1 : decode cL_harvest 1 = .ok (.iconst 0, 1) := by decide +kernel
theorem dL_harvest_2 : decode cL_harvest 2 = .ok (.aload_n 0, 1) := by decide +kernel
theorem dL_harvest_3 : decode cL_harvest 3 = .ok (.iload_n 1, 1) := by decide +kernel
theorem dL_harvest_4 : decode cL_harvest 4 = .ok (.invokevirtual 43, 3) := by decide +kernel
theorem dL_harvest_7 : decode cL_harvest 7 = .ok (.i2l, 1) := by decide +kernel
theorem dL_harvest_8 : decode cL_harvest 8 = .ok (.lastore, 1) := by decide +kernel
theorem dL_harvest_9 : decode cL_harvest 9 = .ok (.goto 6, 3) := by decide +kernel
theorem dL_harvest_12 : decode cL_harvest 12 = .ok (.astore_n 3, 1) := by decide +kernel
theorem dL_harvest_13 : decode cL_harvest 13 = .ok (.iconst 1, 1) := by decide +kernel
theorem dL_harvest_14 : decode cL_harvest 14 = .ok (.ireturn, 1) := by decide +kernel
theorem dL_harvest_15 : decode cL_harvest 15 = .ok (.iconst 0, 1) := by decide +kernel
theorem dL_harvest_16 : decode cL_harvest 16 = .ok (.ireturn, 1) := by decide +kernel
theorem dL_stress_0 : decode cL_stress 0 = .ok (.aload_n 3, 1) := by decide +kernel
theorem dL_stress_1 : decode cL_stress 1 = .ok (.iconst 0, 1) := by decide +kernel
theorem dL_stress_2 : decode cL_stress 2 = .ok (.aload_n 0, 1) := by decide +kernel
theorem dL_stress_3 : decode cL_stress 3 = .ok (.iload_n 1, 1) := by decide +kernel
theorem dL_stress_4 : decode cL_stress 4 = .ok (.iload_n 2, 1) := by decide +kernel
theorem dL_stress_5 : decode cL_stress 5 = .ok (.invokevirtual 47, 3) := by decide +kernel
theorem dL_stress_8 : decode cL_stress 8 = .ok (.i2l, 1) := by decide +kernel
theorem dL_stress_9 : decode cL_stress 9 = .ok (.lastore, 1) := by decide +kernel
theorem dL_stress_10 : decode cL_stress 10 = .ok (.goto 11, 3) := by decide +kernel
theorem dL_stress_13 : decode cL_stress 13 = .ok (.astore 4, 2) := by decide +kernel
theorem dL_stress_15 : decode cL_stress 15 = .ok (.iconst 1, 1) := by decide +kernel
theorem dL_stress_16 : decode cL_stress 16 = .ok (.ireturn, 1) := by decide +kernel
theorem dL_stress_17 : decode cL_stress 17 = .ok (.astore 4, 2) := by decide +kernel
theorem dL_stress_19 : decode cL_stress 19 = .ok (.iconst 2, 1) := by decide +kernel
theorem dL_stress_20 : decode cL_stress 20 = .ok (.ireturn, 1) := by decide +kernel
theorem dL_stress_21 : decode cL_stress 21 = .ok (.iconst 0, 1) := by decide +kernel
theorem dL_stress_22 : decode cL_stress 22 = .ok (.ireturn, 1) := by decide +kernel
theorem dL_mulch_0 : decode cL_mulch 0 = .ok (.aload_n 3, 1) := by decide +kernel
theorem dL_mulch_1 : decode cL_mulch 1 = .ok (.iconst 0, 1) := by decide +kernel
theorem dL_mulch_2 : decode cL_mulch 2 = .ok (.aload_n 0, 1) := by decide +kernel
theorem dL_mulch_3 : decode cL_mulch 3 = .ok (.iload_n 1, 1) := by decide +kernel
theorem dL_mulch_4 : decode cL_mulch 4 = .ok (.iload_n 2, 1) := by decide +kernel
theorem dL_mulch_5 : decode cL_mulch 5 = .ok (.invokevirtual 52, 3) := by decide +kernel
theorem dL_mulch_8 : decode cL_mulch 8 = .ok (.ifCond .eq 7, 3) := by decide +kernel
theorem dL_mulch_11 : decode cL_mulch 11 = .ok (.lconst 1, 1) := by decide +kernel
theorem dL_mulch_12 : decode cL_mulch 12 = .ok (.goto 4, 3) := by decide +kernel
theorem dL_mulch_15 : decode cL_mulch 15 = .ok (.lconst 0, 1) := by decide +kernel
theorem dL_mulch_16 : decode cL_mulch 16 = .ok (.lastore, 1) := by decide +kernel
theorem dL_mulch_17 : decode cL_mulch 17 = .ok (.goto 7, 3) := by decide +kernel
theorem dL_mulch_20 : decode cL_mulch 20 = .ok (.astore 4, 2) := by decide +kernel
theorem dL_mulch_22 : decode cL_mulch 22 = .ok (.iconst 1, 1) := by decide +kernel
theorem dL_mulch_23 : decode cL_mulch 23 = .ok (.ireturn, 1) := by decide +kernel
theorem dL_mulch_24 : decode cL_mulch 24 = .ok (.iconst 0, 1) := by decide +kernel
theorem dL_mulch_25 : decode cL_mulch 25 = .ok (.ireturn, 1) := by decide +kernel
theorem dL_rule_0 : decode cL_rule 0 = .ok (.aload 4, 2) := by decide +kernel
theorem dL_rule_2 : decode cL_rule 2 = .ok (.iconst 0, 1) := by decide +kernel
theorem dL_rule_3 : decode cL_rule 3 = .ok (.aload_n 0, 1) := by decide +kernel
theorem dL_rule_4 : decode cL_rule 4 = .ok (.iload_n 1, 1) := by decide +kernel
theorem dL_rule_5 : decode cL_rule 5 = .ok (.iload_n 2, 1) := by decide +kernel
theorem dL_rule_6 : decode cL_rule 6 = .ok (.iload_n 3, 1) := by decide +kernel
theorem dL_rule_7 : decode cL_rule 7 = .ok (.invokevirtual 56, 3) := by decide +kernel
theorem dL_rule_10 : decode cL_rule 10 = .ok (.i2l, 1) := by decide +kernel
theorem dL_rule_11 : decode cL_rule 11 = .ok (.lastore, 1) := by decide +kernel
theorem dL_rule_12 : decode cL_rule 12 = .ok (.goto 11, 3) := by decide +kernel
theorem dL_rule_15 : decode cL_rule 15 = .ok (.astore 5, 2) := by decide +kernel
theorem dL_rule_17 : decode cL_rule 17 = .ok (.iconst 1, 1) := by decide +kernel
theorem dL_rule_18 : decode cL_rule 18 = .ok (.ireturn, 1) := by decide +kernel
theorem dL_rule_19 : decode cL_rule 19 = .ok (.astore 5, 2) := by decide +kernel
theorem dL_rule_21 : decode cL_rule 21 = .ok (.iconst 2, 1) := by decide +kernel
theorem dL_rule_22 : decode cL_rule 22 = .ok (.ireturn, 1) := by decide +kernel
theorem dL_rule_23 : decode cL_rule 23 = .ok (.iconst 0, 1) := by decide +kernel
theorem dL_rule_24 : decode cL_rule 24 = .ok (.ireturn, 1) := by decide +kernel
theorem dL_spread_0 : decode cL_spread 0 = .ok (.aload 4, 2) := by decide +kernel
theorem dL_spread_2 : decode cL_spread 2 = .ok (.iconst 0, 1) := by decide +kernel
theorem dL_spread_3 : decode cL_spread 3 = .ok (.aload_n 0, 1) := by decide +kernel
theorem dL_spread_4 : decode cL_spread 4 = .ok (.iload_n 1, 1) := by decide +kernel
theorem dL_spread_5 : decode cL_spread 5 = .ok (.iload_n 2, 1) := by decide +kernel
theorem dL_spread_6 : decode cL_spread 6 = .ok (.iload_n 3, 1) := by decide +kernel
theorem dL_spread_7 : decode cL_spread 7 = .ok (.invokevirtual 59, 3) := by decide +kernel
theorem dL_spread_10 : decode cL_spread 10 = .ok (.lastore, 1) := by decide +kernel
theorem dL_spread_11 : decode cL_spread 11 = .ok (.goto 15, 3) := by decide +kernel
theorem dL_spread_14 : decode cL_spread 14 = .ok (.astore 5, 2) := by decide +kernel
theorem dL_spread_16 : decode cL_spread 16 = .ok (.iconst 1, 1) := by decide +kernel
theorem dL_spread_17 : decode cL_spread 17 = .ok (.ireturn, 1) := by decide +kernel
theorem dL_spread_18 : decode cL_spread 18 = .ok (.astore 5, 2) := by decide +kernel
theorem dL_spread_20 : decode cL_spread 20 = .ok (.iconst 2, 1) := by decide +kernel
theorem dL_spread_21 : decode cL_spread 21 = .ok (.ireturn, 1) := by decide +kernel
theorem dL_spread_22 : decode cL_spread 22 = .ok (.astore 5, 2) := by decide +kernel
theorem dL_spread_24 : decode cL_spread 24 = .ok (.iconst 3, 1) := by decide +kernel
theorem dL_spread_25 : decode cL_spread 25 = .ok (.ireturn, 1) := by decide +kernel
theorem dL_spread_26 : decode cL_spread 26 = .ok (.iconst 0, 1) := by decide +kernel
theorem dL_spread_27 : decode cL_spread 27 = .ok (.ireturn, 1) := by decide +kernel
theorem dL_manure_0 : decode cL_manure 0 = .ok (.aload_n 3, 1) := by decide +kernel
theorem dL_manure_1 : decode cL_manure 1 = .ok (.iconst 0, 1) := by decide +kernel
theorem dL_manure_2 : decode cL_manure 2 = .ok (.aload_n 0, 1) := by decide +kernel
theorem dL_manure_3 : decode cL_manure 3 = .ok (.iload_n 1, 1) := by decide +kernel
theorem dL_manure_4 : decode cL_manure 4 = .ok (.iload_n 2, 1) := by decide +kernel
theorem dL_manure_5 : decode cL_manure 5 = .ok (.invokevirtual 65, 3) := by decide +kernel
theorem dL_manure_8 : decode cL_manure 8 = .ok (.lastore, 1) := by decide +kernel
theorem dL_manure_9 : decode cL_manure 9 = .ok (.goto 11, 3) := by decide +kernel
theorem dL_manure_12 : decode cL_manure 12 = .ok (.astore 4, 2) := by decide +kernel
theorem dL_manure_14 : decode cL_manure 14 = .ok (.iconst 1, 1) := by decide +kernel
theorem dL_manure_15 : decode cL_manure 15 = .ok (.ireturn, 1) := by decide +kernel
theorem dL_manure_16 : decode cL_manure 16 = .ok (.astore 4, 2) := by decide +kernel
theorem dL_manure_18 : decode cL_manure 18 = .ok (.iconst 2, 1) := by decide +kernel
theorem dL_manure_19 : decode cL_manure 19 = .ok (.ireturn, 1) := by decide +kernel
theorem dL_manure_20 : decode cL_manure 20 = .ok (.iconst 0, 1) := by decide +kernel
theorem dL_manure_21 : decode cL_manure 21 = .ok (.ireturn, 1) := by decide +kernel
theorem dL_solute_0 : decode cL_solute 0 = .ok (.aload 4, 2) := by decide +kernel
theorem dL_solute_2 : decode cL_solute 2 = .ok (.iconst 0, 1) := by decide +kernel
theorem dL_solute_3 : decode cL_solute 3 = .ok (.aload_n 0, 1) := by decide +kernel
theorem dL_solute_4 : decode cL_solute 4 = .ok (.iload_n 1, 1) := by decide +kernel
theorem dL_solute_5 : decode cL_solute 5 = .ok (.iload_n 2, 1) := by decide +kernel
theorem dL_solute_6 : decode cL_solute 6 = .ok (.iload_n 3, 1) := by decide +kernel
theorem dL_solute_7 : decode cL_solute 7 = .ok (.invokevirtual 69, 3) := by decide +kernel
theorem dL_solute_10 : decode cL_solute 10 = .ok (.lastore, 1) := by decide +kernel
theorem dL_solute_11 : decode cL_solute 11 = .ok (.goto 11, 3) := by decide +kernel
theorem dL_solute_14 : decode cL_solute 14 = .ok (.astore 5, 2) := by decide +kernel
theorem dL_solute_16 : decode cL_solute 16 = .ok (.iconst 1, 1) := by decide +kernel
theorem dL_solute_17 : decode cL_solute 17 = .ok (.ireturn, 1) := by decide +kernel
theorem dL_solute_18 : decode cL_solute 18 = .ok (.astore 5, 2) := by decide +kernel
theorem dL_solute_20 : decode cL_solute 20 = .ok (.iconst 2, 1) := by decide +kernel
theorem dL_solute_21 : decode cL_solute 21 = .ok (.ireturn, 1) := by decide +kernel
theorem dL_solute_22 : decode cL_solute 22 = .ok (.iconst 0, 1) := by decide +kernel
theorem dL_solute_23 : decode cL_solute 23 = .ok (.ireturn, 1) := by decide +kernel
theorem dL_out_0 : decode cL_out 0 = .ok (.aload_n 3, 1) := by decide +kernel
theorem dL_out_1 : decode cL_out 1 = .ok (.iconst 0, 1) := by decide +kernel
theorem dL_out_2 : decode cL_out 2 = .ok (.aload_n 0, 1) := by decide +kernel
theorem dL_out_3 : decode cL_out 3 = .ok (.iload_n 1, 1) := by decide +kernel
theorem dL_out_4 : decode cL_out 4 = .ok (.iload_n 2, 1) := by decide +kernel
theorem dL_out_5 : decode cL_out 5 = .ok (.invokevirtual 73, 3) := by decide +kernel
theorem dL_out_8 : decode cL_out 8 = .ok (.lastore, 1) := by decide +kernel
theorem dL_out_9 : decode cL_out 9 = .ok (.goto 11, 3) := by decide +kernel
theorem dL_out_12 : decode cL_out 12 = .ok (.astore 4, 2) := by decide +kernel
theorem dL_out_14 : decode cL_out 14 = .ok (.iconst 1, 1) := by decide +kernel
theorem dL_out_15 : decode cL_out 15 = .ok (.ireturn, 1) := by decide +kernel
theorem dL_out_16 : decode cL_out 16 = .ok (.astore 4, 2) := by decide +kernel
theorem dL_out_18 : decode cL_out 18 = .ok (.iconst 2, 1) := by decide +kernel
theorem dL_out_19 : decode cL_out 19 = .ok (.ireturn, 1) := by decide +kernel
theorem dL_out_20 : decode cL_out 20 = .ok (.iconst 0, 1) := by decide +kernel
theorem dL_out_21 : decode cL_out 21 = .ok (.ireturn, 1) := by decide +kernel
theorem dL_eaten_0 : decode cL_eaten 0 = .ok (.aload_n 2, 1) := by decide +kernel
theorem dL_eaten_1 : decode cL_eaten 1 = .ok (.iconst 0, 1) := by decide +kernel
theorem dL_eaten_2 : decode cL_eaten 2 = .ok (.aload_n 0, 1) := by decide +kernel
theorem dL_eaten_3 : decode cL_eaten 3 = .ok (.iload_n 1, 1) := by decide +kernel
theorem dL_eaten_4 : decode cL_eaten 4 = .ok (.invokevirtual 77, 3) := by decide +kernel
theorem dL_eaten_7 : decode cL_eaten 7 = .ok (.lastore, 1) := by decide +kernel
theorem dL_eaten_8 : decode cL_eaten 8 = .ok (.goto 6, 3) := by decide +kernel
theorem dL_eaten_11 : decode cL_eaten 11 = .ok (.astore_n 3, 1) := by decide +kernel
theorem dL_eaten_12 : decode cL_eaten 12 = .ok (.iconst 1, 1) := by decide +kernel
theorem dL_eaten_13 : decode cL_eaten 13 = .ok (.ireturn, 1) := by decide +kernel
theorem dL_eaten_14 : decode cL_eaten 14 = .ok (.iconst 0, 1) := by decide +kernel
theorem dL_eaten_15 : decode cL_eaten 15 = .ok (.ireturn, 1) := by decide +kernel
theorem dL_weather_0 : decode cL_weather 0 = .ok (.aload 4, 2) := by decide +kernel
theorem dL_weather_2 : decode cL_weather 2 = .ok (.iconst 0, 1) := by decide +kernel
theorem dL_weather_3 : decode cL_weather 3 = .ok (.aload_n 0, 1) := by decide +kernel
theorem dL_weather_4 : decode cL_weather 4 = .ok (.iload_n 1, 1) := by decide +kernel
theorem dL_weather_5 : decode cL_weather 5 = .ok (.iload_n 2, 1) := by decide +kernel
theorem dL_weather_6 : decode cL_weather 6 = .ok (.iload_n 3, 1) := by decide +kernel
theorem dL_weather_7 : decode cL_weather 7 = .ok (.invokevirtual 81, 3) := by decide +kernel
theorem dL_weather_10 : decode cL_weather 10 = .ok (.i2l, 1) := by decide +kernel
theorem dL_weather_11 : decode cL_weather 11 = .ok (.lastore, 1) := by decide +kernel
theorem dL_weather_12 : decode cL_weather 12 = .ok (.goto 7, 3) := by decide +kernel
theorem dL_weather_15 : decode cL_weather 15 = .ok (.astore 5, 2) := by decide +kernel
theorem dL_weather_17 : decode cL_weather 17 = .ok (.iconst 1, 1) := by decide +kernel
theorem dL_weather_18 : decode cL_weather 18 = .ok (.ireturn, 1) := by decide +kernel
theorem dL_weather_19 : decode cL_weather 19 = .ok (.iconst 0, 1) := by decide +kernel
theorem dL_weather_20 : decode cL_weather 20 = .ok (.ireturn, 1) := by decide +kernel
theorem dL_law_0 : decode cL_law 0 = .ok (.aload_n 3, 1) := by decide +kernel
theorem dL_law_1 : decode cL_law 1 = .ok (.iconst 0, 1) := by decide +kernel
theorem dL_law_2 : decode cL_law 2 = .ok (.aload_n 0, 1) := by decide +kernel
theorem dL_law_3 : decode cL_law 3 = .ok (.iload_n 1, 1) := by decide +kernel
theorem dL_law_4 : decode cL_law 4 = .ok (.iload_n 2, 1) := by decide +kernel
theorem dL_law_5 : decode cL_law 5 = .ok (.invokevirtual 84, 3) := by decide +kernel
theorem dL_law_8 : decode cL_law 8 = .ok (.i2l, 1) := by decide +kernel
theorem dL_law_9 : decode cL_law 9 = .ok (.lastore, 1) := by decide +kernel
theorem dL_law_10 : decode cL_law 10 = .ok (.goto 7, 3) := by decide +kernel
theorem dL_law_13 : decode cL_law 13 = .ok (.astore 4, 2) := by decide +kernel
theorem dL_law_15 : decode cL_law 15 = .ok (.iconst 1, 1) := by decide +kernel
theorem dL_law_16 : decode cL_law 16 = .ok (.ireturn, 1) := by decide +kernel
theorem dL_law_17 : decode cL_law 17 = .ok (.iconst 0, 1) := by decide +kernel
theorem dL_law_18 : decode cL_law 18 = .ok (.ireturn, 1) := by decide +kernel
theorem dL_hours_0 : decode cL_hours 0 = .ok (.aload_n 2, 1) := by decide +kernel
theorem dL_hours_1 : decode cL_hours 1 = .ok (.iconst 0, 1) := by decide +kernel
theorem dL_hours_2 : decode cL_hours 2 = .ok (.aload_n 0, 1) := by decide +kernel
theorem dL_hours_3 : decode cL_hours 3 = .ok (.iload_n 1, 1) := by decide +kernel
theorem dL_hours_4 : decode cL_hours 4 = .ok (.invokevirtual 87, 3) := by decide +kernel
theorem dL_hours_7 : decode cL_hours 7 = .ok (.i2l, 1) := by decide +kernel
theorem dL_hours_8 : decode cL_hours 8 = .ok (.lastore, 1) := by decide +kernel
theorem dL_hours_9 : decode cL_hours 9 = .ok (.goto 6, 3) := by decide +kernel
theorem dL_hours_12 : decode cL_hours 12 = .ok (.astore_n 3, 1) := by decide +kernel
theorem dL_hours_13 : decode cL_hours 13 = .ok (.iconst 1, 1) := by decide +kernel
theorem dL_hours_14 : decode cL_hours 14 = .ok (.ireturn, 1) := by decide +kernel
theorem dL_hours_15 : decode cL_hours 15 = .ok (.iconst 0, 1) := by decide +kernel
theorem dL_hours_16 : decode cL_hours 16 = .ok (.ireturn, 1) := by decide +kernel
theorem dL_standing_0 : decode cL_standing 0 = .ok (.aload_n 2, 1) := by decide +kernel
theorem dL_standing_1 : decode cL_standing 1 = .ok (.iconst 0, 1) := by decide +kernel
theorem dL_standing_2 : decode cL_standing 2 = .ok (.aload_n 0, 1) := by decide +kernel
theorem dL_standing_3 : decode cL_standing 3 = .ok (.iload_n 1, 1) := by decide +kernel
theorem dL_standing_4 : decode cL_standing 4 = .ok (.invokevirtual 90, 3) := by decide +kernel
theorem dL_standing_7 : decode cL_standing 7 = .ok (.i2l, 1) := by decide +kernel
theorem dL_standing_8 : decode cL_standing 8 = .ok (.lastore, 1) := by decide +kernel
theorem dL_standing_9 : decode cL_standing 9 = .ok (.goto 6, 3) := by decide +kernel
theorem dL_standing_12 : decode cL_standing 12 = .ok (.astore_n 3, 1) := by decide +kernel
theorem dL_standing_13 : decode cL_standing 13 = .ok (.iconst 1, 1) := by decide +kernel
theorem dL_standing_14 : decode cL_standing 14 = .ok (.ireturn, 1) := by decide +kernel
theorem dL_standing_15 : decode cL_standing 15 = .ok (.iconst 0, 1) := by decide +kernel
theorem dL_standing_16 : decode cL_standing 16 = .ok (.ireturn, 1) := by decide +kernel
theorem dL_recharge_0 : decode cL_recharge 0 = .ok (.aload_n 2, 1) := by decide +kernel
theorem dL_recharge_1 : decode cL_recharge 1 = .ok (.iconst 0, 1) := by decide +kernel
theorem dL_recharge_2 : decode cL_recharge 2 = .ok (.aload_n 0, 1) := by decide +kernel
theorem dL_recharge_3 : decode cL_recharge 3 = .ok (.iload_n 1, 1) := by decide +kernel
theorem dL_recharge_4 : decode cL_recharge 4 = .ok (.invokevirtual 93, 3) := by decide +kernel
theorem dL_recharge_7 : decode cL_recharge 7 = .ok (.lastore, 1) := by decide +kernel
theorem dL_recharge_8 : decode cL_recharge 8 = .ok (.goto 6, 3) := by decide +kernel
theorem dL_recharge_11 : decode cL_recharge 11 = .ok (.astore_n 3, 1) := by decide +kernel
theorem dL_recharge_12 : decode cL_recharge 12 = .ok (.iconst 1, 1) := by decide +kernel
theorem dL_recharge_13 : decode cL_recharge 13 = .ok (.ireturn, 1) := by decide +kernel
theorem dL_recharge_14 : decode cL_recharge 14 = .ok (.iconst 0, 1) := by decide +kernel
theorem dL_recharge_15 : decode cL_recharge 15 = .ok (.ireturn, 1) := by decide +kernel
theorem dL_runoff_0 : decode cL_runoff 0 = .ok (.aload_n 2, 1) := by decide +kernel
theorem dL_runoff_1 : decode cL_runoff 1 = .ok (.iconst 0, 1) := by decide +kernel
theorem dL_runoff_2 : decode cL_runoff 2 = .ok (.aload_n 0, 1) := by decide +kernel
theorem dL_runoff_3 : decode cL_runoff 3 = .ok (.iload_n 1, 1) := by decide +kernel
theorem dL_runoff_4 : decode cL_runoff 4 = .ok (.invokevirtual 96, 3) := by decide +kernel
theorem dL_runoff_7 : decode cL_runoff 7 = .ok (.lastore, 1) := by decide +kernel
theorem dL_runoff_8 : decode cL_runoff 8 = .ok (.goto 6, 3) := by decide +kernel
theorem dL_runoff_11 : decode cL_runoff 11 = .ok (.astore_n 3, 1) := by decide +kernel
theorem dL_runoff_12 : decode cL_runoff 12 = .ok (.iconst 1, 1) := by decide +kernel
theorem dL_runoff_13 : decode cL_runoff 13 = .ok (.ireturn, 1) := by decide +kernel
theorem dL_runoff_14 : decode cL_runoff 14 = .ok (.iconst 0, 1) := by decide +kernel
theorem dL_runoff_15 : decode cL_runoff 15 = .ok (.ireturn, 1) := by decide +kernel
theorem dL_vapour_0 : decode cL_vapour 0 = .ok (.aload_n 2, 1) := by decide +kernel
theorem dL_vapour_1 : decode cL_vapour 1 = .ok (.iconst 0, 1) := by decide +kernel
theorem dL_vapour_2 : decode cL_vapour 2 = .ok (.aload_n 0, 1) := by decide +kernel
theorem dL_vapour_3 : decode cL_vapour 3 = .ok (.iload_n 1, 1) := by decide +kernel
theorem dL_vapour_4 : decode cL_vapour 4 = .ok (.invokevirtual 99, 3) := by decide +kernel
theorem dL_vapour_7 : decode cL_vapour 7 = .ok (.lastore, 1) := by decide +kernel
theorem dL_vapour_8 : decode cL_vapour 8 = .ok (.goto 6, 3) := by decide +kernel
theorem dL_vapour_11 : decode cL_vapour 11 = .ok (.astore_n 3, 1) := by decide +kernel
theorem dL_vapour_12 : decode cL_vapour 12 = .ok (.iconst 1, 1) := by decide +kernel
theorem dL_vapour_13 : decode cL_vapour 13 = .ok (.ireturn, 1) := by decide +kernel
theorem dL_vapour_14 : decode cL_vapour 14 = .ok (.iconst 0, 1) := by decide +kernel
theorem dL_vapour_15 : decode cL_vapour 15 = .ok (.ireturn, 1) := by decide +kernel
theorem dL_isFrozen_0 : decode cL_isFrozen 0 = .ok (.aload_n 3, 1) := by decide +kernel
theorem dL_isFrozen_1 : decode cL_isFrozen 1 = .ok (.iconst 0, 1) := by decide +kernel
theorem dL_isFrozen_2 : decode cL_isFrozen 2 = .ok (.aload_n 0, 1) := by decide +kernel
theorem dL_isFrozen_3 : decode cL_isFrozen 3 = .ok (.iload_n 1, 1) := by decide +kernel
theorem dL_isFrozen_4 : decode cL_isFrozen 4 = .ok (.iload_n 2, 1) := by decide +kernel
theorem dL_isFrozen_5 : decode cL_isFrozen 5 = .ok (.invokevirtual 102, 3) := by decide +kernel
theorem dL_isFrozen_8 : decode cL_isFrozen 8 = .ok (.ifCond .eq 7, 3) := by decide +kernel
theorem dL_isFrozen_11 : decode cL_isFrozen 11 = .ok (.lconst 1, 1) := by decide +kernel
theorem dL_isFrozen_12 : decode cL_isFrozen 12 = .ok (.goto 4, 3) := by decide +kernel
theorem dL_isFrozen_15 : decode cL_isFrozen 15 = .ok (.lconst 0, 1) := by decide +kernel
theorem dL_isFrozen_16 : decode cL_isFrozen 16 = .ok (.lastore, 1) := by decide +kernel
theorem dL_isFrozen_17 : decode cL_isFrozen 17 = .ok (.goto 7, 3) := by decide +kernel
theorem dL_isFrozen_20 : decode cL_isFrozen 20 = .ok (.astore 4, 2) := by decide +kernel
theorem dL_isFrozen_22 : decode cL_isFrozen 22 = .ok (.iconst 1, 1) := by decide +kernel
theorem dL_isFrozen_23 : decode cL_isFrozen 23 = .ok (.ireturn, 1) := by decide +kernel
theorem dL_isFrozen_24 : decode cL_isFrozen 24 = .ok (.iconst 0, 1) := by decide +kernel
theorem dL_isFrozen_25 : decode cL_isFrozen 25 = .ok (.ireturn, 1) := by decide +kernel
theorem dL_frost_0 : decode cL_frost 0 = .ok (.aload_n 3, 1) := by decide +kernel
theorem dL_frost_1 : decode cL_frost 1 = .ok (.iconst 0, 1) := by decide +kernel
theorem dL_frost_2 : decode cL_frost 2 = .ok (.aload_n 0, 1) := by decide +kernel
theorem dL_frost_3 : decode cL_frost 3 = .ok (.iload_n 1, 1) := by decide +kernel
theorem dL_frost_4 : decode cL_frost 4 = .ok (.iload_n 2, 1) := by decide +kernel
theorem dL_frost_5 : decode cL_frost 5 = .ok (.invokevirtual 106, 3) := by decide +kernel
theorem dL_frost_8 : decode cL_frost 8 = .ok (.i2l, 1) := by decide +kernel
theorem dL_frost_9 : decode cL_frost 9 = .ok (.lastore, 1) := by decide +kernel
theorem dL_frost_10 : decode cL_frost 10 = .ok (.goto 7, 3) := by decide +kernel
theorem dL_frost_13 : decode cL_frost 13 = .ok (.astore 4, 2) := by decide +kernel
theorem dL_frost_15 : decode cL_frost 15 = .ok (.iconst 1, 1) := by decide +kernel
theorem dL_frost_16 : decode cL_frost 16 = .ok (.ireturn, 1) := by decide +kernel
theorem dL_frost_17 : decode cL_frost 17 = .ok (.iconst 0, 1) := by decide +kernel
theorem dL_frost_18 : decode cL_frost 18 = .ok (.ireturn, 1) := by decide +kernel
theorem dL_heave_0 : decode cL_heave 0 = .ok (.aload_n 2, 1) := by decide +kernel
theorem dL_heave_1 : decode cL_heave 1 = .ok (.iconst 0, 1) := by decide +kernel
theorem dL_heave_2 : decode cL_heave 2 = .ok (.aload_n 0, 1) := by decide +kernel
theorem dL_heave_3 : decode cL_heave 3 = .ok (.iload_n 1, 1) := by decide +kernel
theorem dL_heave_4 : decode cL_heave 4 = .ok (.invokevirtual 109, 3) := by decide +kernel
theorem dL_heave_7 : decode cL_heave 7 = .ok (.i2l, 1) := by decide +kernel
theorem dL_heave_8 : decode cL_heave 8 = .ok (.lastore, 1) := by decide +kernel
theorem dL_heave_9 : decode cL_heave 9 = .ok (.goto 6, 3) := by decide +kernel
theorem dL_heave_12 : decode cL_heave 12 = .ok (.astore_n 3, 1) := by decide +kernel
theorem dL_heave_13 : decode cL_heave 13 = .ok (.iconst 1, 1) := by decide +kernel
theorem dL_heave_14 : decode cL_heave 14 = .ok (.ireturn, 1) := by decide +kernel
theorem dL_heave_15 : decode cL_heave 15 = .ok (.iconst 0, 1) := by decide +kernel
theorem dL_heave_16 : decode cL_heave 16 = .ok (.ireturn, 1) := by decide +kernel
theorem dL_crack_0 : decode cL_crack 0 = .ok (.aload_n 2, 1) := by decide +kernel
theorem dL_crack_1 : decode cL_crack 1 = .ok (.iconst 0, 1) := by decide +kernel
theorem dL_crack_2 : decode cL_crack 2 = .ok (.aload_n 0, 1) := by decide +kernel
theorem dL_crack_3 : decode cL_crack 3 = .ok (.iload_n 1, 1) := by decide +kernel
theorem dL_crack_4 : decode cL_crack 4 = .ok (.invokevirtual 112, 3) := by decide +kernel
theorem dL_crack_7 : decode cL_crack 7 = .ok (.i2l, 1) := by decide +kernel
theorem dL_crack_8 : decode cL_crack 8 = .ok (.lastore, 1) := by decide +kernel
theorem dL_crack_9 : decode cL_crack 9 = .ok (.goto 6, 3) := by decide +kernel
theorem dL_crack_12 : decode cL_crack 12 = .ok (.astore_n 3, 1) := by decide +kernel
theorem dL_crack_13 : decode cL_crack 13 = .ok (.iconst 1, 1) := by decide +kernel
theorem dL_crack_14 : decode cL_crack 14 = .ok (.ireturn, 1) := by decide +kernel
theorem dL_crack_15 : decode cL_crack 15 = .ok (.iconst 0, 1) := by decide +kernel
theorem dL_crack_16 : decode cL_crack 16 = .ok (.ireturn, 1) := by decide +kernel
theorem dL_tension_0 : decode cL_tension 0 = .ok (.aload_n 3, 1) := by decide +kernel
theorem dL_tension_1 : decode cL_tension 1 = .ok (.iconst 0, 1) := by decide +kernel
theorem dL_tension_2 : decode cL_tension 2 = .ok (.aload_n 0, 1) := by decide +kernel
theorem dL_tension_3 : decode cL_tension 3 = .ok (.iload_n 1, 1) := by decide +kernel
theorem dL_tension_4 : decode cL_tension 4 = .ok (.iload_n 2, 1) := by decide +kernel
theorem dL_tension_5 : decode cL_tension 5 = .ok (.invokevirtual 115, 3) := by decide +kernel
theorem dL_tension_8 : decode cL_tension 8 = .ok (.i2l, 1) := by decide +kernel
theorem dL_tension_9 : decode cL_tension 9 = .ok (.lastore, 1) := by decide +kernel
theorem dL_tension_10 : decode cL_tension 10 = .ok (.goto 11, 3) := by decide +kernel
theorem dL_tension_13 : decode cL_tension 13 = .ok (.astore 4, 2) := by decide +kernel
theorem dL_tension_15 : decode cL_tension 15 = .ok (.iconst 1, 1) := by decide +kernel
theorem dL_tension_16 : decode cL_tension 16 = .ok (.ireturn, 1) := by decide +kernel
theorem dL_tension_17 : decode cL_tension 17 = .ok (.astore 4, 2) := by decide +kernel
theorem dL_tension_19 : decode cL_tension 19 = .ok (.iconst 2, 1) := by decide +kernel
theorem dL_tension_20 : decode cL_tension 20 = .ok (.ireturn, 1) := by decide +kernel
theorem dL_tension_21 : decode cL_tension 21 = .ok (.iconst 0, 1) := by decide +kernel
theorem dL_tension_22 : decode cL_tension 22 = .ok (.ireturn, 1) := by decide +kernel
theorem dL_reflection_0 : decode cL_reflection 0 = .ok (.aload_n 3, 1) := by decide +kernel
theorem dL_reflection_1 : decode cL_reflection 1 = .ok (.iconst 0, 1) := by decide +kernel
theorem dL_reflection_2 : decode cL_reflection 2 = .ok (.aload_n 0, 1) := by decide +kernel
theorem dL_reflection_3 : decode cL_reflection 3 = .ok (.iload_n 1, 1) := by decide +kernel
theorem dL_reflection_4 : decode cL_reflection 4 = .ok (.iload_n 2, 1) := by decide +kernel
theorem dL_reflection_5 : decode cL_reflection 5 = .ok (.invokevirtual 118, 3) := by decide +kernel
theorem dL_reflection_8 : decode cL_reflection 8 = .ok (.i2l, 1) := by decide +kernel
theorem dL_reflection_9 : decode cL_reflection 9 = .ok (.lastore, 1) := by decide +kernel
theorem dL_reflection_10 : decode cL_reflection 10 = .ok (.goto 11, 3) := by decide +kernel
theorem dL_reflection_13 : decode cL_reflection 13 = .ok (.astore 4, 2) := by decide +kernel
theorem dL_reflection_15 : decode cL_reflection 15 = .ok (.iconst 1, 1) := by decide +kernel
theorem dL_reflection_16 : decode cL_reflection 16 = .ok (.ireturn, 1) := by decide +kernel
theorem dL_reflection_17 : decode cL_reflection 17 = .ok (.astore 4, 2) := by decide +kernel
theorem dL_reflection_19 : decode cL_reflection 19 = .ok (.iconst 2, 1) := by decide +kernel
theorem dL_reflection_20 : decode cL_reflection 20 = .ok (.ireturn, 1) := by decide +kernel
theorem dL_reflection_21 : decode cL_reflection 21 = .ok (.iconst 0, 1) := by decide +kernel
theorem dL_reflection_22 : decode cL_reflection 22 = .ok (.ireturn, 1) := by decide +kernel
theorem dL_setRight_0 : decode cL_setRight 0 = .ok (.aload_n 2, 1) := by decide +kernel
theorem dL_setRight_1 : decode cL_setRight 1 = .ok (.iconst 0, 1) := by decide +kernel
theorem dL_setRight_2 : decode cL_setRight 2 = .ok (.aload_n 0, 1) := by decide +kernel
theorem dL_setRight_3 : decode cL_setRight 3 = .ok (.iload_n 1, 1) := by decide +kernel
theorem dL_setRight_4 : decode cL_setRight 4 = .ok (.invokevirtual 121, 3) := by decide +kernel
theorem dL_setRight_7 : decode cL_setRight 7 = .ok (.i2l, 1) := by decide +kernel
theorem dL_setRight_8 : decode cL_setRight 8 = .ok (.lastore, 1) := by decide +kernel
theorem dL_setRight_9 : decode cL_setRight 9 = .ok (.goto 6, 3) := by decide +kernel
theorem dL_setRight_12 : decode cL_setRight 12 = .ok (.astore_n 3, 1) := by decide +kernel
theorem dL_setRight_13 : decode cL_setRight 13 = .ok (.iconst 1, 1) := by decide +kernel
theorem dL_setRight_14 : decode cL_setRight 14 = .ok (.ireturn, 1) := by decide +kernel
theorem dL_setRight_15 : decode cL_setRight 15 = .ok (.iconst 0, 1) := by decide +kernel
theorem dL_setRight_16 : decode cL_setRight 16 = .ok (.ireturn, 1) := by decide +kernel
theorem dL_weigh_0 : decode cL_weigh 0 = .ok (.aload_n 2, 1) := by decide +kernel
theorem dL_weigh_1 : decode cL_weigh 1 = .ok (.iconst 0, 1) := by decide +kernel
theorem dL_weigh_2 : decode cL_weigh 2 = .ok (.aload_n 0, 1) := by decide +kernel
theorem dL_weigh_3 : decode cL_weigh 3 = .ok (.iload_n 1, 1) := by decide +kernel
theorem dL_weigh_4 : decode cL_weigh 4 = .ok (.invokevirtual 124, 3) := by decide +kernel
theorem dL_weigh_7 : decode cL_weigh 7 = .ok (.i2l, 1) := by decide +kernel
theorem dL_weigh_8 : decode cL_weigh 8 = .ok (.lastore, 1) := by decide +kernel
theorem dL_weigh_9 : decode cL_weigh 9 = .ok (.goto 6, 3) := by decide +kernel
theorem dL_weigh_12 : decode cL_weigh 12 = .ok (.astore_n 3, 1) := by decide +kernel
theorem dL_weigh_13 : decode cL_weigh 13 = .ok (.iconst 1, 1) := by decide +kernel
theorem dL_weigh_14 : decode cL_weigh 14 = .ok (.ireturn, 1) := by decide +kernel
theorem dL_weigh_15 : decode cL_weigh 15 = .ok (.iconst 0, 1) := by decide +kernel
theorem dL_weigh_16 : decode cL_weigh 16 = .ok (.ireturn, 1) := by decide +kernel
theorem dL_fines_0 : decode cL_fines 0 = .ok (.aload_n 2, 1) := by decide +kernel
theorem dL_fines_1 : decode cL_fines 1 = .ok (.iconst 0, 1) := by decide +kernel
theorem dL_fines_2 : decode cL_fines 2 = .ok (.aload_n 0, 1) := by decide +kernel
theorem dL_fines_3 : decode cL_fines 3 = .ok (.iload_n 1, 1) := by decide +kernel
theorem dL_fines_4 : decode cL_fines 4 = .ok (.invokevirtual 127, 3) := by decide +kernel
theorem dL_fines_7 : decode cL_fines 7 = .ok (.lastore, 1) := by decide +kernel
theorem dL_fines_8 : decode cL_fines 8 = .ok (.goto 6, 3) := by decide +kernel
theorem dL_fines_11 : decode cL_fines 11 = .ok (.astore_n 3, 1) := by decide +kernel
theorem dL_fines_12 : decode cL_fines 12 = .ok (.iconst 1, 1) := by decide +kernel
theorem dL_fines_13 : decode cL_fines 13 = .ok (.ireturn, 1) := by decide +kernel
theorem dL_fines_14 : decode cL_fines 14 = .ok (.iconst 0, 1) := by decide +kernel
theorem dL_fines_15 : decode cL_fines 15 = .ok (.ireturn, 1) := by decide +kernel
theorem dL_forecast_0 : decode cL_forecast 0 = .ok (.aload 4, 2) := by decide +kernel
theorem dL_forecast_2 : decode cL_forecast 2 = .ok (.iconst 0, 1) := by decide +kernel
theorem dL_forecast_3 : decode cL_forecast 3 = .ok (.aload_n 0, 1) := by decide +kernel
theorem dL_forecast_4 : decode cL_forecast 4 = .ok (.iload_n 1, 1) := by decide +kernel
theorem dL_forecast_5 : decode cL_forecast 5 = .ok (.iload_n 2, 1) := by decide +kernel
theorem dL_forecast_6 : decode cL_forecast 6 = .ok (.iload_n 3, 1) := by decide +kernel
theorem dL_forecast_7 : decode cL_forecast 7 = .ok (.invokevirtual 130, 3) := by decide +kernel
theorem dL_forecast_10 : decode cL_forecast 10 = .ok (.lastore, 1) := by decide +kernel
theorem dL_forecast_11 : decode cL_forecast 11 = .ok (.goto 11, 3) := by decide +kernel
theorem dL_forecast_14 : decode cL_forecast 14 = .ok (.astore 5, 2) := by decide +kernel
theorem dL_forecast_16 : decode cL_forecast 16 = .ok (.iconst 1, 1) := by decide +kernel
theorem dL_forecast_17 : decode cL_forecast 17 = .ok (.ireturn, 1) := by decide +kernel
theorem dL_forecast_18 : decode cL_forecast 18 = .ok (.astore 5, 2) := by decide +kernel
theorem dL_forecast_20 : decode cL_forecast 20 = .ok (.iconst 2, 1) := by decide +kernel
theorem dL_forecast_21 : decode cL_forecast 21 = .ok (.ireturn, 1) := by decide +kernel
theorem dL_forecast_22 : decode cL_forecast 22 = .ok (.iconst 0, 1) := by decide +kernel
theorem dL_forecast_23 : decode cL_forecast 23 = .ok (.ireturn, 1) := by decide +kernel
theorem dL_fits_0 : decode cL_fits 0 = .ok (.aload 4, 2) := by decide +kernel
theorem dL_fits_2 : decode cL_fits 2 = .ok (.iconst 0, 1) := by decide +kernel
theorem dL_fits_3 : decode cL_fits 3 = .ok (.aload_n 0, 1) := by decide +kernel
theorem dL_fits_4 : decode cL_fits 4 = .ok (.iload_n 1, 1) := by decide +kernel
theorem dL_fits_5 : decode cL_fits 5 = .ok (.iload_n 2, 1) := by decide +kernel
theorem dL_fits_6 : decode cL_fits 6 = .ok (.iload_n 3, 1) := by decide +kernel
theorem dL_fits_7 : decode cL_fits 7 = .ok (.invokevirtual 134, 3) := by decide +kernel
theorem dL_fits_10 : decode cL_fits 10 = .ok (.i2l, 1) := by decide +kernel
theorem dL_fits_11 : decode cL_fits 11 = .ok (.lastore, 1) := by decide +kernel
theorem dL_fits_12 : decode cL_fits 12 = .ok (.goto 11, 3) := by decide +kernel
theorem dL_fits_15 : decode cL_fits 15 = .ok (.astore 5, 2) := by decide +kernel
theorem dL_fits_17 : decode cL_fits 17 = .ok (.iconst 1, 1) := by decide +kernel
theorem dL_fits_18 : decode cL_fits 18 = .ok (.ireturn, 1) := by decide +kernel
theorem dL_fits_19 : decode cL_fits 19 = .ok (.astore 5, 2) := by decide +kernel
theorem dL_fits_21 : decode cL_fits 21 = .ok (.iconst 2, 1) := by decide +kernel
theorem dL_fits_22 : decode cL_fits 22 = .ok (.ireturn, 1) := by decide +kernel
theorem dL_fits_23 : decode cL_fits 23 = .ok (.iconst 0, 1) := by decide +kernel
theorem dL_fits_24 : decode cL_fits 24 = .ok (.ireturn, 1) := by decide +kernel
theorem dL_fit_0 : decode cL_fit 0 = .ok (.aload 5, 2) := by decide +kernel
theorem dL_fit_2 : decode cL_fit 2 = .ok (.iconst 0, 1) := by decide +kernel
theorem dL_fit_3 : decode cL_fit 3 = .ok (.aload_n 0, 1) := by decide +kernel
theorem dL_fit_4 : decode cL_fit 4 = .ok (.iload_n 1, 1) := by decide +kernel
theorem dL_fit_5 : decode cL_fit 5 = .ok (.iload_n 2, 1) := by decide +kernel
theorem dL_fit_6 : decode cL_fit 6 = .ok (.iload_n 3, 1) := by decide +kernel
theorem dL_fit_7 : decode cL_fit 7 = .ok (.iload 4, 2) := by decide +kernel
theorem dL_fit_9 : decode cL_fit 9 = .ok (.invokevirtual 137, 3) := by decide +kernel
theorem dL_fit_12 : decode cL_fit 12 = .ok (.i2l, 1) := by decide +kernel
theorem dL_fit_13 : decode cL_fit 13 = .ok (.lastore, 1) := by decide +kernel
theorem dL_fit_14 : decode cL_fit 14 = .ok (.goto 15, 3) := by decide +kernel
theorem dL_fit_17 : decode cL_fit 17 = .ok (.astore 6, 2) := by decide +kernel
theorem dL_fit_19 : decode cL_fit 19 = .ok (.iconst 1, 1) := by decide +kernel
theorem dL_fit_20 : decode cL_fit 20 = .ok (.ireturn, 1) := by decide +kernel
theorem dL_fit_21 : decode cL_fit 21 = .ok (.astore 6, 2) := by decide +kernel
theorem dL_fit_23 : decode cL_fit 23 = .ok (.iconst 2, 1) := by decide +kernel
theorem dL_fit_24 : decode cL_fit 24 = .ok (.ireturn, 1) := by decide +kernel
theorem dL_fit_25 : decode cL_fit 25 = .ok (.astore 6, 2) := by decide +kernel
theorem dL_fit_27 : decode cL_fit 27 = .ok (.iconst 3, 1) := by decide +kernel
theorem dL_fit_28 : decode cL_fit 28 = .ok (.ireturn, 1) := by decide +kernel
theorem dL_fit_29 : decode cL_fit 29 = .ok (.iconst 0, 1) := by decide +kernel
theorem dL_fit_30 : decode cL_fit 30 = .ok (.ireturn, 1) := by decide +kernel
theorem dL_frozenShare_0 : decode cL_frozenShare 0 = .ok (.aload_n 1, 1) := by decide +kernel
theorem dL_frozenShare_1 : decode cL_frozenShare 1 = .ok (.iconst 0, 1) := by decide +kernel
theorem dL_frozenShare_2 : decode cL_frozenShare 2 = .ok (.aload_n 0, 1) := by decide +kernel
theorem dL_frozenShare_3 : decode cL_frozenShare 3 = .ok (.invokevirtual 141, 3) := by decide +kernel
theorem dL_frozenShare_6 : decode cL_frozenShare 6 = .ok (.f2d, 1) := by decide +kernel
theorem dL_frozenShare_7 : decode cL_frozenShare 7 = .ok (.dastore, 1) := by decide +kernel
theorem dL_frozenShare_8 : decode cL_frozenShare 8 = .ok (.goto 6, 3) := by decide +kernel
theorem dL_frozenShare_11 : decode cL_frozenShare 11 = .ok (.astore_n 2, 1) := by decide +kernel
theorem dL_frozenShare_12 : decode cL_frozenShare 12 = .ok (.iconst 1, 1) := by decide +kernel
theorem dL_frozenShare_13 : decode cL_frozenShare 13 = .ok (.ireturn, 1) := by decide +kernel
theorem dL_frozenShare_14 : decode cL_frozenShare 14 = .ok (.iconst 0, 1) := by decide +kernel
theorem dL_frozenShare_15 : decode cL_frozenShare 15 = .ok (.ireturn, 1) := by decide +kernel
theorem dL_meanWater_0 : decode cL_meanWater 0 = .ok (.aload_n 1, 1) := by decide +kernel
theorem dL_meanWater_1 : decode cL_meanWater 1 = .ok (.iconst 0, 1) := by decide +kernel
theorem dL_meanWater_2 : decode cL_meanWater 2 = .ok (.aload_n 0, 1) := by decide +kernel
theorem dL_meanWater_3 : decode cL_meanWater 3 = .ok (.invokevirtual 147, 3) := by decide +kernel
theorem dL_meanWater_6 : decode cL_meanWater 6 = .ok (.dastore, 1) := by decide +kernel
theorem dL_meanWater_7 : decode cL_meanWater 7 = .ok (.goto 6, 3) := by decide +kernel
theorem dL_meanWater_10 : decode cL_meanWater 10 = .ok (.astore_n 2, 1) := by decide +kernel
theorem dL_meanWater_11 : decode cL_meanWater 11 = .ok (.iconst 1, 1) := by decide +kernel
theorem dL_meanWater_12 : decode cL_meanWater 12 = .ok (.ireturn, 1) := by decide +kernel
theorem dL_meanWater_13 : decode cL_meanWater 13 = .ok (.iconst 0, 1) := by decide +kernel
theorem dL_meanWater_14 : decode cL_meanWater 14 = .ok (.ireturn, 1) := by decide +kernel
end
section
/-! ===== one list of words for all methods; the words of nests and String constants apart ===== -/
def lw_all : List Cond := lw_tbl.filter goodWord
theorem al_hts {args : Array Value} {s : State} (h : ∀ w ∈ lw_tbl, w.before args s = true) : ∀ w ∈ lw_all, w.before args s = true := fun w hw => h w (List.mem_filter.mp hw).1
theorem al_in {i : Nat} {w : Cond} (h : tables_1[i]? = some w) (g : goodWord w = true) : w ∈ lw_all := List.mem_filter.mpr ⟨List.mem_append_right _ (List.mem_of_getElem? h), g⟩
theorem al_sel {i : Nat} {w : Cond} (h : (k2_sels lw_privs)[i]? = some w) (g : goodWord w = true) : w ∈ lw_all := List.mem_filter.mpr ⟨List.mem_append_left _ (List.mem_of_getElem? h), g⟩
theorem al_ok {w : Cond} (h : w ∈ lw_all) : (w.onTables && w.keeps) = true ∨ ∃ ty, w = .arrayClass ty := good_of_word (List.mem_filter.mp h).2
def wsA (y : MethodName) (b : ByteArray) (n : Nat) (r : Option FieldType) : List Cond := .code y b n r :: lw_all
def wsH (y : MethodName) (b : ByteArray) (n : Nat) (r : Option FieldType) (hh : List (Nat × Nat × Nat × Nat)) : List Cond := .codeWith y b n r hh :: lw_all
theorem gA {y : MethodName} {b : ByteArray} {n : Nat} {r : Option FieldType} (h : Cond.code y b n r ∈ lw_all) : GoodIn lw_all (wsA y b n r) := fun w hw => by
  have hm : w ∈ lw_all := (List.mem_cons.mp hw).elim (fun e => by rw [e]; exact h) (fun z => z)
  exact ⟨hm, al_ok hm⟩
theorem gH {y : MethodName} {b : ByteArray} {n : Nat} {r : Option FieldType} {hh : List (Nat × Nat × Nat × Nat)} (h : Cond.codeWith y b n r hh ∈ lw_all) : GoodIn lw_all (wsH y b n r hh) := fun w hw => by
  have hm : w ∈ lw_all := (List.mem_cons.mp hw).elim (fun e => by rw [e]; exact h) (fun z => z)
  exact ⟨hm, al_ok hm⟩
theorem gL {a : List Cond} {ws : List Cond} (ha : ∀ w ∈ a, w ∈ lw_all) (h : GoodIn lw_all ws) : GoodIn lw_all (a ++ ws) := fun w hw => (List.mem_append.mp hw).elim (fun z => ⟨ha w z, al_ok (ha w z)⟩) (h w)
theorem m3 {a b c : Cond} (h1 : a ∈ lw_all) (h2 : b ∈ lw_all) (h3 : c ∈ lw_all) : ∀ w ∈ [a, b, c], w ∈ lw_all := fun w h => by
  rcases List.mem_cons.mp h with e | h
  · rw [e]; exact h1
  rcases List.mem_cons.mp h with e | h
  · rw [e]; exact h2
  rcases List.mem_cons.mp h with e | h
  · rw [e]; exact h3
  exact absurd h List.not_mem_nil
theorem m4 {a b c d : Cond} (h1 : a ∈ lw_all) (h2 : b ∈ lw_all) (h3 : c ∈ lw_all) (h4 : d ∈ lw_all) : ∀ w ∈ [a, b, c, d], w ∈ lw_all := fun w h => by
  rcases List.mem_cons.mp h with e | h
  · rw [e]; exact h1
  exact m3 h2 h3 h4 w h
theorem gV {own C : String} {idx : Nat} {y : MethodName} {ws : List Cond} (h1 : Cond.methodLink own idx y ∈ lw_all) (h2 : Cond.instanceMethod y ∈ lw_all) (h3 : Cond.selects C y y ∈ lw_all) (h4 : Cond.initialized C ∈ lw_all) (h5 : GoodIn lw_all ws) : GoodIn lw_all (wsV own idx C y ws) := gL (m4 h1 h2 h3 h4) h5
theorem gS {own : String} {idx : Nat} {y : MethodName} {ws : List Cond} (h1 : Cond.methodLink own idx y ∈ lw_all) (h2 : Cond.static y ∈ lw_all) (h3 : Cond.initialized y.cls ∈ lw_all) (h5 : GoodIn lw_all ws) : GoodIn lw_all (va_wsS own idx y ws) := gL (m3 h1 h2 h3) h5
/-- words that a contract's words can't hold: links within a nest, String constants -/
def al_st : Cond → Bool
  | .fieldLinkNest _ _ _ _ _ _ => true
  | .methodLinkNest _ _ _ _ => true
  | .stringRef _ _ _ => true
  | .declares _ => true
  | .castable _ _ => true
  | .publicMethod _ => true
  | .unhidden _ _ _ => true
  | _ => false
def lw_st : List Cond := tables_1.filter al_st
theorem al_stin {i : Nat} {w : Cond} (h : tables_1[i]? = some w) (g : al_st w = true) : w ∈ lw_st := List.mem_filter.mpr ⟨List.mem_of_getElem? h, g⟩
/-- they hold -/
def GE (U : State) : Prop := ∀ w ∈ lw_st, w.before #[] U = true
theorem al_stT {w : Cond} (g : al_st w = true) : w.onTables = true ∨ ∃ o k t, w = .stringRef o k t := by cases w <;> first | exact Or.inl rfl | exact Or.inr ⟨_, _, _, rfl⟩ | (simp [al_st] at g)
theorem al_stV {w : Cond} (g : al_st w = true) {A A' : Array Value} {u U : State} (hv : u.vm = U.vm) (h : w.before A u = true) : w.before A' U = true := by
  rcases al_stT g with g | ⟨o, k, t, rfl⟩
  · exact va_tabs g hv h
  · have h1 := h
    simp only [Cond.before, Cond.holds, Cond.value, State.names, State.poolOf?, State.resolvedAt?, hv] at h1 ⊢
    exact h1
theorem GE.same {u U : State} (hv : u.vm = U.vm) (h : GE u) : GE U := fun w hw => al_stV (List.mem_filter.mp hw).2 hv (h w hw)
theorem GE.warm {s U : State} (hW : s.WarmedH U.vm) (h : GE s) : GE U := fun w hw => by
  have g := (List.mem_filter.mp hw).2
  have hb := h w hw
  cases w <;> first
    | exact va_Nw.warmF hW hb
    | exact va_Nw.warmM hW hb
    | exact al_stV rfl (rfl : (s.setVm U.vm).vm = U.vm) (Cond.stringRef_warmed hW hb)
    | exact va_tabs rfl (rfl : (s.setVm U.vm).vm = U.vm) (Cond.before_shiftedFace (State.Shifted.of_warmed hW) _ rfl hb)
    | (simp [al_st] at g)
theorem GE.of {args : Array Value} {s : State} (h : ∀ w ∈ lw_tbl, w.before args s = true) : GE s := fun w hw => al_stV (List.mem_filter.mp hw).2 rfl (h w (List.mem_append_right _ (List.mem_filter.mp hw).1))
theorem GE.nw {s : State} {w : Cond} (h : GE s) (hw : w ∈ lw_st) : va_Nw w s := h w hw
theorem GE.use {s : State} {w : Cond} {args : Array Value} (h : GE s) (hw : w ∈ lw_st) : w.before args s = true := al_stV (List.mem_filter.mp hw).2 rfl (h w hw)
theorem GE.str {s : State} {own tx : String} {k : Nat} (h : GE s) (hw : Cond.stringRef own k tx ∈ lw_st) {m : ClassId} (hown : s.vm.findClass own = some m) : ∃ a, vk_R own k tx a s := by
  obtain ⟨-, -, -, a, -, -, -, -, -, h6⟩ := Cond.stringRef_spec (args := #[]) (first := s) (o := none) (idx := []) hown (h _ hw)
  exact ⟨a, h _ hw, h6⟩
/-- the two statics that a throw reads -/
def ZZ (A : Nat → Prop) (U : State) (H : Heap) : Prop := vx_Zq Bundle.tN "UNASSIGNED_STACK" Bundle.steD A U H ∧ vx_Zq Bundle.tN "SUPPRESSED_SENTINEL" Bundle.listD A U H
theorem ZZ.moved {A : Nat → Prop} {u U : State} {H : Heap} (hvm : u.vm.Alike U.vm) (h : ZZ A u H) : ZZ A U H := ⟨h.1.moved hvm, h.2.moved hvm⟩
theorem ZZ.kept {A : Nat → Prop} {U : State} {H H1 : Heap} (h : ZZ A U H) (hq : ∀ a : Nat, a < H.size → ¬ A a → H1[a]? = H[a]?) : ZZ A U H1 := ⟨h.1.kept hq, h.2.kept hq⟩
theorem ZZ.narrow {A B : Nat → Prop} {U : State} {H : Heap} (h : ZZ A U H) (hAB : ∀ q, B q → A q) : ZZ B U H := ⟨h.1.narrow hAB, h.2.narrow hAB⟩
abbrev NoA : Nat → Prop := fun _ => False
theorem ZZ.no {A : Nat → Prop} {s : State} {H : Heap} {locs : List Loc} (h : ZZ A s s.heap) (hS : va_S A s.heap H locs) : ZZ NoA s H := (h.kept hS.2.1).narrow (fun _ q => q.elim)
theorem at_not {D : va_G} {cl : List vw_C} {q : Nat × va_E} {H : Heap} (h : va_at D cl q H) {cell : Cell} (hc : H[q.1]? = some cell) : cell.vm.isStatics = false := by
  obtain ⟨a, e⟩ := q
  cases e with
  | inl x =>
    have h1 : H[a]? = some (vp_cell x.1 x.2) := h
    have h2 : cell = vp_cell x.1 x.2 := Option.some.inj (hc.symm.trans h1)
    rw [h2]
    obtain ⟨c, n, f⟩ := x
    rcases f with f | f | f | f | f <;> rfl
  | inr o =>
    obtain ⟨r, h1, cell2, h2, -, h4, -⟩ := h
    have h5 : cell = cell2 := Option.some.inj (hc.symm.trans h2)
    rw [h5, h4]
    rfl
theorem at_notA {D : va_G} {cl : List vw_C} {Wd : va_W} {U : State} (hP : va_P D cl Wd U.heap) {a : Nat} {cell : Cell} (hc : U.heap[a]? = some cell) (hs : cell.vm.isStatics = true) : ¬ va_A Wd U.heap.size a := by
  rintro (⟨k, e, h⟩ | h)
  · have := at_not (hP k _ h) hc
    rw [hs] at this
    cases this
  · exact absurd (Array.getElem?_eq_some_iff.mp hc).1 (by omega)
theorem Z_wide {C n d : String} {v : Value} {D : va_G} {cl : List vw_C} {Wd : va_W} {U : State} (hP : va_P D cl Wd U.heap) (h : va_Z C n d v NoA U U.heap) : va_Z C n d v (va_A Wd U.heap.size) U U.heap := by
  obtain ⟨cf, kf, fi, f, a, cell, h1, h2, h3, h4, h5, h6, h7, -⟩ := h
  exact ⟨cf, kf, fi, f, a, cell, h1, h2, h3, h4, h5, h6, h7, at_notA hP h5 h6⟩
theorem Zq_wide {C n d : String} {D : va_G} {cl : List vw_C} {Wd : va_W} {U : State} (hP : va_P D cl Wd U.heap) (h : va_Zq C n d NoA U U.heap) : va_Zq C n d (va_A Wd U.heap.size) U U.heap := by
  rcases h with h | ⟨t, h⟩
  · exact Or.inl (Z_wide hP h)
  · exact Or.inr ⟨t, Z_wide hP h⟩
theorem L_wide {C n d : String} {D : va_G} {cl : List vw_C} {Wd : va_W} {U : State} (hP : va_P D cl Wd U.heap) (h : vx_L C n d NoA U U.heap) : vx_L C n d (va_A Wd U.heap.size) U U.heap := by
  obtain ⟨c, k, i, f, a, cell, h1, h2, h3, h4, h5, h6, h7, h8, h9, -⟩ := h
  exact ⟨c, k, i, f, a, cell, h1, h2, h3, h4, h5, h6, h7, h8, h9, at_notA hP h5 h6⟩
theorem ZZ.wide {D : va_G} {cl : List vw_C} {Wd : va_W} {U : State} (hP : va_P D cl Wd U.heap) (h : ZZ NoA U U.heap) : ZZ (va_A Wd U.heap.size) U U.heap := ⟨⟨Zq_wide hP h.1.1, L_wide hP h.1.2⟩, ⟨Zq_wide hP h.2.1, L_wide hP h.2.2⟩⟩
/-- what a method of ours asks of its start: the world Wd, the tables, the words of nests and Strings, the statics -/
def EV (D : va_G) (tys : List (ClassId × FieldType)) (Wd : va_W) (sz : Nat) (U : State) : Prop := U.heap.size = sz ∧ va_P D vwCl Wd U.heap ∧ va_K D vwCl tys U ∧ va_D (fun _ => True) Wd ∧ GE U ∧ ZZ NoA U U.heap
theorem EV.blind {D : va_G} {tys : List (ClassId × FieldType)} {Wd : va_W} {sz : Nat} {U : State} {g : JFrame} {mk : MethodId} {a : Array Value} (h : EV D tys Wd sz U) : EV D tys Wd sz (U.calling g mk a) := by
  obtain ⟨h1, h2, h3, h4, h5, h6⟩ := h
  exact ⟨h1, h2, va_K.moved (u := U) (U := U.calling g mk a) (Vm.Alike.refl U.vm) h3, h4, GE.same (u := U) (U := U.calling g mk a) rfl h5, ZZ.moved (u := U) (U := U.calling g mk a) (Vm.Alike.refl U.vm) h6⟩
theorem EV.fb {D : va_G} {tys : List (ClassId × FieldType)} {Wd : va_W} {sz : Nat} {av : List Value} : FrameBlind (va_Pc av (EV D tys Wd sz)) := fun _ _ _ _ q => ⟨q.1, q.2.blind⟩
theorem EV.at {D : va_G} {tys : List (ClassId × FieldType)} {Wd : va_W} {A : Nat → Prop} {s : State} {H : Heap} (hP : va_P D vwCl Wd H) (hK : va_K D vwCl tys s) (hD : va_D A Wd) (hG : GE s) (hZ : ZZ NoA s H) (U : State) (hU : U.heap = H) (hW : s.WarmedH U.vm) : EV D tys Wd H.size U :=
  ⟨by rw [hU], by rw [hU]; exact hP, va_K.moved hW.alike hK, hD.weaken (fun _ _ _ _ => trivial), GE.warm hW hG, by rw [hU]; exact ZZ.moved hW.alike hZ⟩
/-- a list of words, each a good one or one of those apart -/
def al_both (L : List Cond) : Bool := L.all (fun w => (decide (w ∈ tables_1) && al_st w) || (decide (w ∈ lw_tbl) && goodWord w))
theorem al_use {L : List Cond} (h : al_both L = true) {args : Array Value} {s : State} (hts : ∀ w ∈ lw_all, w.before args s = true) (hG : GE s) : ∀ w ∈ L, w.before args s = true := fun w hw => by
  have h1 := List.all_eq_true.mp h w hw
  simp only [Bool.or_eq_true, Bool.and_eq_true, decide_eq_true_eq] at h1
  rcases h1 with ⟨a, b⟩ | ⟨a, b⟩
  · exact hG.use (List.mem_filter.mpr ⟨a, b⟩)
  · exact hts w (List.mem_filter.mpr ⟨a, b⟩)
theorem al_all {L : List Cond} (h : L.all (fun w => decide (w ∈ lw_tbl) && goodWord w) = true) : ∀ w ∈ L, w ∈ lw_all := fun w hw => by
  have h1 := List.all_eq_true.mp h w hw
  simp only [Bool.and_eq_true, decide_eq_true_eq] at h1
  exact List.mem_filter.mpr h1
def xnR : List String := ["java/lang/RuntimeException", "java/lang/Exception"]
theorem F_of {A : Nat → Prop} {s t : State} {H : Heap} {locs : List Loc} (hS : va_S A s.heap H locs) (hz : H.size ≤ t.heap.size) (hk : ∀ q : Nat, q < H.size → t.heap[q]? = H[q]?) : va_F A s t := ⟨Nat.le_trans hS.1 hz, fun q h1 h2 => (hk q (Nat.lt_of_lt_of_le h1 hS.1)).trans (hS.2.1 q h1 h2)⟩
/-- a method that always throws, writes nothing old: what its contract says -/
abbrev QX : Array Value → State → Outcome → State → Prop := va_Qi (fun (_ : Int32) (_ : Unit) => False) (fun _ _ => True) NoA
abbrev XX (E : String) : String → State → State → Prop := vx_X (fun _ : Unit => True) (fun E2 _ _ => E2 = E) NoA
theorem P_kept {D : va_G} {cl : List vw_C} {ws : va_W} {H H1 : Heap} (hP : va_P D cl ws H) (hk : ∀ q : Nat, q < H.size → ¬ NoA q → H1[q]? = H[q]?) : va_P D cl ws H1 := va_P.kept hP (fun k q h => hk q.1 ((hP k q h).lt) id)
end
section
theorem iwJx4a65c : ∀ w ∈ wsJx4a65c0, w ∈ lw_all := al_all (by decide +kernel)
theorem iwX7 : ∀ w ∈ wsX70, w ∈ lw_all := al_all (by decide +kernel)
theorem q1 : Cond.initialized RX7 ∈ lw_all := al_in (i := 1) (by decide +kernel) (by decide +kernel)
theorem q4 : Cond.initialized RJx4a65c ∈ lw_all := al_in (i := 4) (by decide +kernel) (by decide +kernel)
theorem q26 : Cond.initialized "java/lang/IndexOutOfBoundsException" ∈ lw_all := al_in (i := 26) (by decide +kernel) (by decide +kernel)
theorem q67 : Cond.fieldLink RJx4a65c 48 "java/util/ArrayList" "size" "I" ∈ lw_all := al_in (i := 67) (by decide +kernel) (by decide +kernel)
theorem q98 : Cond.fieldLink RX7 10 "LysimeterField" "columns" "Ljava/util/ArrayList;" ∈ lw_all := al_in (i := 98) (by decide +kernel) (by decide +kernel)
theorem q125 : Cond.methodLink RX7 47 yJx4a65c_size_8abf5 ∈ lw_all := al_in (i := 125) (by decide +kernel) (by decide +kernel)
theorem q126 : Cond.instanceMethod yJx4a65c_size_8abf5 ∈ lw_all := al_in (i := 126) (by decide +kernel) (by decide +kernel)
theorem q127 : Cond.selects RJx4a65c yJx4a65c_size_8abf5 yJx4a65c_size_8abf5 ∈ lw_all := al_in (i := 127) (by decide +kernel) (by decide +kernel)
theorem q128 : Cond.code yJx4a65c_size_8abf5 cJx4a65c_size_8abf5 1 (some .int) ∈ lw_all := al_in (i := 128) (by decide +kernel) (by decide +kernel)
theorem q188 : Cond.methodLink RX7 65 yX7_columnAt ∈ lw_all := al_in (i := 188) (by decide +kernel) (by decide +kernel)
theorem q190 : Cond.instanceMethod yX7_columnAt ∈ lw_all := al_in (i := 190) (by decide +kernel) (by decide +kernel)
theorem q191 : Cond.code yX7_columnAt cX7_columnAt 2 (some (.object "LysimeterField$Column")) ∈ lw_all := al_in (i := 191) (by decide +kernel) (by decide +kernel)
theorem q192 : Cond.classLink RX7 110 "java/lang/IndexOutOfBoundsException" ∈ lw_all := al_in (i := 192) (by decide +kernel) (by decide +kernel)
theorem q736 : Cond.methodLink RX7 103 yX7_layerAt ∈ lw_all := al_in (i := 736) (by decide +kernel) (by decide +kernel)
theorem q738 : Cond.instanceMethod yX7_layerAt ∈ lw_all := al_in (i := 738) (by decide +kernel) (by decide +kernel)
theorem q739 : Cond.code yX7_layerAt cX7_layerAt 4 (some (.object "LysimeterField$Layer")) ∈ lw_all := al_in (i := 739) (by decide +kernel) (by decide +kernel)
theorem qs1 : Cond.selects RX7 yX7_columnAt yX7_columnAt ∈ lw_all := al_sel (i := 1) (by decide +kernel) (by decide +kernel)
theorem qs22 : Cond.selects RX7 yX7_layerAt yX7_layerAt ∈ lw_all := al_sel (i := 22) (by decide +kernel) (by decide +kernel)
theorem t237 : Cond.stringRef RX7 305 "no such column" ∈ lw_st := al_stin (i := 237) (by decide +kernel) (by decide +kernel)
theorem xa_X7_114 : al_both (vx_atS RX7 114 "java/lang/IndexOutOfBoundsException" xnR) = true := by decide +kernel
theorem xa_X7_114_g : ∀ w ∈ Cond.classLink RX7 110 "java/lang/IndexOutOfBoundsException" :: Cond.initialized "java/lang/IndexOutOfBoundsException" :: vx_atS RX7 114 "java/lang/IndexOutOfBoundsException" xnR, vx_ot w = true := by decide +kernel
end
section
set_option maxHeartbeats 4000000 in
set_option maxRecDepth 100000 in
/-- ArrayList.size(): the field -/
theorem k_AL_size (l : Launch) (D : va_G) (q : Nat) (md : Int32) (ed : Value) (n : Int32) (sz : Nat) : Met l yJx4a65c_size_8abf5 (wsA yJx4a65c_size_8abf5 cJx4a65c_size_8abf5 1 (some .int)) ({ frames := 0, cells := 0, slots := 0, locals := 0 }) (va_Pc [.ref q] (EV D [] [(q, .inr (4, [.int md, ed, .int n]))] sz)) (va_Qi (fun (r : Int32) (_ : Unit) => r = n) (fun _ _ => True) NoA) 0 0 NoA := by
  refine Met.ofW (cc := cJx4a65c_size_8abf5) (maxL := 1) (ret := (some .int)) (by decide) rfl ?_
  intro p e s m args below meth c s₁ B hml hv
  obtain ⟨rfl, hsz, hP, hK, hD0, hG, hZ0⟩ := hv
  have hx := B.exec
  have hb := B.bytes
  have hr := B.returns
  have hts0 := atoms_spec (ws := wsA yJx4a65c_size_8abf5 cJx4a65c_size_8abf5 1 (some .int)) B.pre
  have hts : ∀ w ∈ lw_all, w.before _ s = true := fun w h => hts0 w (List.mem_cons_of_mem _ h)
  have hown : s.vm.findClass RJx4a65c = some m.cls := findClass_of_methodNamed B.named
  have hlocks := B.notSynchronized
  subst hsz
  have hD : va_D (fun _ => True) [(q, .inr (4, [.int md, ed, .int n]))] := hD0
  have hZ : ZZ NoA s s.heap := hZ0
  have hS : va_S NoA s.heap s.heap [] := va_S.rf
  have hP : va_P D vwCl [(q, .inr (4, [.int md, ed, .int n]))] s.heap := hP
  have hl := lv_entry ([.ref q]) (n := 1) (Nat.le_of_ble_eq_true rfl)
  rw [lg_entry_eq]
  generalize (lg_sl ([.ref q]) ++ List.replicate (1 - (lg_sl ([.ref q])).length) Slot.unset).toArray = ls at hl ⊢
  have hl : lv_has ls 1 [(0, .ref q)] := hl
  refine lv_aload_n hx hb dJx4a65c_size_8abf5_0 rfl (lv_at hl 0 rfl) ?_
  refine va_get (D := D) (ci := 4) (v := .int n) (C := RJx4a65c) (T := TJx4a65c) (N := 3) hx hb hts iwJx4a65c hown hK hP 0 rfl rfl 2 (by decide) (hts _ q67) (fun _ h9 => h9) rfl dJx4a65c_size_8abf5_1 ?_
  exact W.iret (v := n) hx hb hr (fun t ht hW => ⟨⟨n, (), rfl, rfl, trivial⟩, hS.F ht⟩) hS.2.2 dJx4a65c_size_8abf5_4
set_option maxHeartbeats 4000000 in
set_option maxRecDepth 100000 in
/-- columnAt on the fresh object: always IndexOutOfBoundsException -/
theorem k_LF_columnAt (l : Launch) (hst : l.stackTraces = false) (D : va_G) (h : Nat) (cs : Nat) (f1 f2 f3 f4 f5 f6 : Value) (md : Int32) (ed : Value) (p0 : Int32) (sz : Nat) : vx_Met l yX7_columnAt (wsA yX7_columnAt cX7_columnAt 2 (some (.object "LysimeterField$Column"))) ({ frames := 6, cells := 1, slots := 6, locals := 82 }) (va_Pc [.ref h, .int p0] (EV D [] [(h, .inr (11, [.ref cs, f1, f2, f3, f4, f5, f6])), (cs, .inr (4, [.int md, ed, .int 0]))] sz)) QX (XX "java/lang/IndexOutOfBoundsException") 1 6 NoA := by
  refine vx_ofW (cc := cX7_columnAt) (maxL := 2) (ret := (some (.object "LysimeterField$Column"))) (ws' := lw_all) (by decide) rfl ?_
  intro p e s m args below meth c s₁ B hml hnt hv
  obtain ⟨rfl, hsz, hP, hK, hD0, hG, hZ0⟩ := hv
  have hx := B.exec
  have hb := B.bytes
  have hr := B.returns
  have hts0 := atoms_spec (ws := wsA yX7_columnAt cX7_columnAt 2 (some (.object "LysimeterField$Column"))) B.pre
  have hts : ∀ w ∈ lw_all, w.before _ s = true := fun w h => hts0 w (List.mem_cons_of_mem _ h)
  have hown : s.vm.findClass RX7 = some m.cls := findClass_of_methodNamed B.named
  have hlocks := B.notSynchronized
  subst hsz
  have hD : va_D (fun _ => True) [(h, .inr (11, [.ref cs, f1, f2, f3, f4, f5, f6])), (cs, .inr (4, [.int md, ed, .int 0]))] := hD0
  have hZ : ZZ NoA s s.heap := hZ0
  have hS : va_S NoA s.heap s.heap [] := va_S.rf
  have hP : va_P D vwCl [(h, .inr (11, [.ref cs, f1, f2, f3, f4, f5, f6])), (cs, .inr (4, [.int md, ed, .int 0]))] s.heap := hP
  have hl := lv_entry ([.ref h, .int p0]) (n := 2) (Nat.le_of_ble_eq_true rfl)
  rw [lg_entry_eq]
  generalize (lg_sl ([.ref h, .int p0]) ++ List.replicate (2 - (lg_sl ([.ref h, .int p0])).length) Slot.unset).toArray = ls at hl ⊢
  have hl : lv_has ls 2 [(0, .ref h), (1, .int p0)] := hl
  refine lv_iload_n hx hb dX7_columnAt_0 rfl (lv_at hl 1 rfl) ?_
  refine lv_if_lt (tgt := 15) hx hb dX7_columnAt_1 (by decide) (fun c_1 => ?_) (fun c_1 => ?_)
  · obtain ⟨sa, hstr⟩ := hG.str t237 hown
    exact vx_throwSW (own := RX7) (cls := "java/lang/IndexOutOfBoundsException") (text := "no such column") (names := xnR) (ik := 110) (is := 305) (ic := 114) (sa := sa) hx hb hst hown (by decide +kernel) (by decide +kernel) (hts _ q192) (hts _ q26) hstr (al_use xa_X7_114 hts hG) xa_X7_114_g hZ.1 hZ.2 hS (by rw [hml]; exact hl.1) dX7_columnAt_15 dX7_columnAt_18 dX7_columnAt_19 dX7_columnAt_22 dX7_columnAt_25 (fun x hx => (hnt x hx).elim) (Nat.le_of_ble_eq_true rfl) (Nat.le_of_ble_eq_true rfl) (Nat.le_of_ble_eq_true rfl) (Nat.le_of_ble_eq_true rfl) hlocks (fun t _ hz hk => ⟨(), trivial, rfl, F_of hS hz hk⟩) (fun z hz => hS.2.2 z hz) (Nat.le_of_ble_eq_true rfl) (Nat.le_of_ble_eq_true rfl)
  · refine lv_iload_n hx hb dX7_columnAt_4 rfl (lv_at hl 1 rfl) ?_
    refine lv_aload_n hx hb dX7_columnAt_5 rfl (lv_at hl 0 rfl) ?_
    refine va_get (D := D) (ci := 11) (v := .ref cs) (C := RX7) (T := TX7) (N := 7) hx hb hts iwX7 hown hK hP 0 rfl rfl 0 (by decide) (hts _ q98) (fun _ h9 => h9) rfl dX7_columnAt_6 ?_
    have hPc := hP.sub (ws' := [(cs, .inr (4, [.int md, ed, .int 0]))]) [1] rfl
    have hDc := hD.sub (ws' := [(cs, .inr (4, [.int md, ed, .int 0]))]) [1] (by decide) rfl
    have hKc := hK.sub (tys' := []) [] rfl
    refine va_calli (va_runV (As := []) (rest := [.int p0]) ⟨hx, hb, hml, hown, hts⟩ (k_AL_size l D cs md (ed) 0 s.heap.size) (cwV 0 hts (gV q125 q126 q127 q4 (gA q128)) rfl rfl rfl (by decide +kernel) ⟨Nat.le_of_ble_eq_true rfl, Nat.le_of_ble_eq_true rfl⟩) ⟨EV.fb, va_recv hKc hPc (ci := 4) (q0 := 0) rfl rfl, fun U hU hW => ⟨rfl, EV.at hPc hKc hDc hG (hZ.no hS) U hU hW⟩⟩ rfl rfl hl.1 rfl (lv_room (Nat.le_of_ble_eq_true rfl)) dX7_columnAt_9 ⟨Nat.le_of_ble_eq_true rfl, Nat.le_of_ble_eq_true rfl⟩) hS (fun q _ h => h.elim) (fun q h => h.elim) (fun r_2 u t H1 locs ht hvm hw hB hz1 hk1 hS => ?_)
    have hP := P_kept hP hk1
    generalize H1 = H at hP hS ⊢
    have hP : va_P D vwCl [(h, .inr (11, [.ref cs, f1, f2, f3, f4, f5, f6])), (cs, .inr (4, [.int md, ed, .int 0]))] H := hP
    subst hw
    refine lv_icmp_lt (tgt := 26) hx hb dX7_columnAt_12 (by decide) (fun c_3 => ?_) (fun c_3 => ?_)
    · exact absurd c_3 c_1
    · obtain ⟨sa, hstr⟩ := hG.str t237 hown
      exact vx_throwSW (own := RX7) (cls := "java/lang/IndexOutOfBoundsException") (text := "no such column") (names := xnR) (ik := 110) (is := 305) (ic := 114) (sa := sa) hx hb hst hown (by decide +kernel) (by decide +kernel) (hts _ q192) (hts _ q26) hstr (al_use xa_X7_114 hts hG) xa_X7_114_g hZ.1 hZ.2 hS (by rw [hml]; exact hl.1) dX7_columnAt_15 dX7_columnAt_18 dX7_columnAt_19 dX7_columnAt_22 dX7_columnAt_25 (fun x hx => (hnt x hx).elim) (Nat.le_of_ble_eq_true rfl) (Nat.le_of_ble_eq_true rfl) (Nat.le_of_ble_eq_true rfl) (Nat.le_of_ble_eq_true rfl) hlocks (fun t _ hz hk => ⟨(), trivial, rfl, F_of hS hz hk⟩) (fun z hz => hS.2.2 z hz) (Nat.le_of_ble_eq_true rfl) (Nat.le_of_ble_eq_true rfl)
set_option maxHeartbeats 4000000 in
set_option maxRecDepth 100000 in
/-- layerAt on the fresh object: always IndexOutOfBoundsException -/
theorem k_LF_layerAt (l : Launch) (hst : l.stackTraces = false) (D : va_G) (h : Nat) (cs : Nat) (f1 f2 f3 f4 f5 f6 : Value) (md : Int32) (ed : Value) (p0 : Int32) (p1 : Int32) (sz : Nat) : vx_Met l yX7_layerAt (wsA yX7_layerAt cX7_layerAt 4 (some (.object "LysimeterField$Layer"))) ({ frames := 7, cells := 1, slots := 6, locals := 103 }) (va_Pc [.ref h, .int p0, .int p1] (EV D [] [(h, .inr (11, [.ref cs, f1, f2, f3, f4, f5, f6])), (cs, .inr (4, [.int md, ed, .int 0]))] sz)) QX (XX "java/lang/IndexOutOfBoundsException") 1 6 NoA := by
  refine vx_ofW (cc := cX7_layerAt) (maxL := 4) (ret := (some (.object "LysimeterField$Layer"))) (ws' := lw_all) (by decide) rfl ?_
  intro p e s m args below meth c s₁ B hml hnt hv
  obtain ⟨rfl, hsz, hP, hK, hD0, hG, hZ0⟩ := hv
  have hx := B.exec
  have hb := B.bytes
  have hr := B.returns
  have hts0 := atoms_spec (ws := wsA yX7_layerAt cX7_layerAt 4 (some (.object "LysimeterField$Layer"))) B.pre
  have hts : ∀ w ∈ lw_all, w.before _ s = true := fun w h => hts0 w (List.mem_cons_of_mem _ h)
  have hown : s.vm.findClass RX7 = some m.cls := findClass_of_methodNamed B.named
  have hlocks := B.notSynchronized
  subst hsz
  have hD : va_D (fun _ => True) [(h, .inr (11, [.ref cs, f1, f2, f3, f4, f5, f6])), (cs, .inr (4, [.int md, ed, .int 0]))] := hD0
  have hZ : ZZ NoA s s.heap := hZ0
  have hS : va_S NoA s.heap s.heap [] := va_S.rf
  have hP : va_P D vwCl [(h, .inr (11, [.ref cs, f1, f2, f3, f4, f5, f6])), (cs, .inr (4, [.int md, ed, .int 0]))] s.heap := hP
  have hl := lv_entry ([.ref h, .int p0, .int p1]) (n := 4) (Nat.le_of_ble_eq_true rfl)
  rw [lg_entry_eq]
  generalize (lg_sl ([.ref h, .int p0, .int p1]) ++ List.replicate (4 - (lg_sl ([.ref h, .int p0, .int p1])).length) Slot.unset).toArray = ls at hl ⊢
  have hl : lv_has ls 4 [(0, .ref h), (1, .int p0), (2, .int p1)] := hl
  refine lv_aload_n hx hb dX7_layerAt_0 rfl (lv_at hl 0 rfl) ?_
  refine lv_iload_n hx hb dX7_layerAt_1 rfl (lv_at hl 1 rfl) ?_
  have hPc := hP.sub (ws' := [(h, .inr (11, [.ref cs, f1, f2, f3, f4, f5, f6])), (cs, .inr (4, [.int md, ed, .int 0]))]) [0, 1] rfl
  have hDc := hD.sub (ws' := [(h, .inr (11, [.ref cs, f1, f2, f3, f4, f5, f6])), (cs, .inr (4, [.int md, ed, .int 0]))]) [0, 1] (by decide) rfl
  have hKc := hK.sub (tys' := []) [] rfl
  refine vx_calli (vx_runV (As := [.int p0]) (rest := []) ⟨hx, hb, hml, hown, hts⟩ (k_LF_columnAt l hst D h cs f1 f2 f3 f4 f5 f6 md (ed) p0 s.heap.size) (cwV 1 hts (gV q188 q190 qs1 q1 (gA q191)) rfl rfl rfl (by decide +kernel) ⟨Nat.le_of_ble_eq_true rfl, Nat.le_of_ble_eq_true rfl⟩) ⟨EV.fb, va_recv hKc hPc (ci := 11) (q0 := 0) rfl rfl, fun U hU hW => ⟨rfl, EV.at hPc hKc hDc hG (hZ.no hS) U hU hW⟩⟩ rfl rfl hl.1 rfl (lv_room (Nat.le_of_ble_eq_true rfl)) dX7_layerAt_2 ⟨Nat.le_of_ble_eq_true rfl, Nat.le_of_ble_eq_true rfl⟩) hS (fun q _ h => h.elim) (fun q h => h.elim) (fun q _ h => h.elim) (fun E ce q9 u t H1 locs1 ht hvm hpx hBX hz1 hk1 hS hcell hcv hcl => ?_) (fun r u t H1 locs1 ht hvm hw hB hz1 hk1 hS => hw.elim)
  have hP := P_kept hP hk1
  exact vx_out (fun x hx => (hnt x hx).elim) hlocks hcell hcv hcl (fun t ht _ => ⟨(), trivial, hBX, hS.F ht⟩) (fun z hz => hS.2.2 z hz) (Nat.le_of_ble_eq_true rfl) (Nat.le_of_ble_eq_true rfl)
set_option maxHeartbeats 4000000 in
set_option maxRecDepth 100000 in
/-- water on the fresh object: always IndexOutOfBoundsException -/
theorem k_LF_water (l : Launch) (hst : l.stackTraces = false) (D : va_G) (h : Nat) (cs : Nat) (f1 f2 f3 f4 f5 f6 : Value) (md : Int32) (ed : Value) (p0 : Int32) (p1 : Int32) (sz : Nat) : vx_Met l yX7_water (wsA yX7_water cX7_water 3 (some .int)) ({ frames := 8, cells := 1, slots := 6, locals := 126 }) (va_Pc [.ref h, .int p0, .int p1] (EV D [] [(h, .inr (11, [.ref cs, f1, f2, f3, f4, f5, f6])), (cs, .inr (4, [.int md, ed, .int 0]))] sz)) QX (XX "java/lang/IndexOutOfBoundsException") 1 6 NoA := by
  refine vx_ofW (cc := cX7_water) (maxL := 3) (ret := (some .int)) (ws' := lw_all) (by decide) rfl ?_
  intro p e s m args below meth c s₁ B hml hnt hv
  obtain ⟨rfl, hsz, hP, hK, hD0, hG, hZ0⟩ := hv
  have hx := B.exec
  have hb := B.bytes
  have hr := B.returns
  have hts0 := atoms_spec (ws := wsA yX7_water cX7_water 3 (some .int)) B.pre
  have hts : ∀ w ∈ lw_all, w.before _ s = true := fun w h => hts0 w (List.mem_cons_of_mem _ h)
  have hown : s.vm.findClass RX7 = some m.cls := findClass_of_methodNamed B.named
  have hlocks := B.notSynchronized
  subst hsz
  have hD : va_D (fun _ => True) [(h, .inr (11, [.ref cs, f1, f2, f3, f4, f5, f6])), (cs, .inr (4, [.int md, ed, .int 0]))] := hD0
  have hZ : ZZ NoA s s.heap := hZ0
  have hS : va_S NoA s.heap s.heap [] := va_S.rf
  have hP : va_P D vwCl [(h, .inr (11, [.ref cs, f1, f2, f3, f4, f5, f6])), (cs, .inr (4, [.int md, ed, .int 0]))] s.heap := hP
  have hl := lv_entry ([.ref h, .int p0, .int p1]) (n := 3) (Nat.le_of_ble_eq_true rfl)
  rw [lg_entry_eq]
  generalize (lg_sl ([.ref h, .int p0, .int p1]) ++ List.replicate (3 - (lg_sl ([.ref h, .int p0, .int p1])).length) Slot.unset).toArray = ls at hl ⊢
  have hl : lv_has ls 3 [(0, .ref h), (1, .int p0), (2, .int p1)] := hl
  refine lv_aload_n hx hb dX7_water_0 rfl (lv_at hl 0 rfl) ?_
  refine lv_iload_n hx hb dX7_water_1 rfl (lv_at hl 1 rfl) ?_
  refine lv_iload_n hx hb dX7_water_2 rfl (lv_at hl 2 rfl) ?_
  have hPc := hP.sub (ws' := [(h, .inr (11, [.ref cs, f1, f2, f3, f4, f5, f6])), (cs, .inr (4, [.int md, ed, .int 0]))]) [0, 1] rfl
  have hDc := hD.sub (ws' := [(h, .inr (11, [.ref cs, f1, f2, f3, f4, f5, f6])), (cs, .inr (4, [.int md, ed, .int 0]))]) [0, 1] (by decide) rfl
  have hKc := hK.sub (tys' := []) [] rfl
  refine vx_calli (vx_runV (As := [.int p0, .int p1]) (rest := []) ⟨hx, hb, hml, hown, hts⟩ (k_LF_layerAt l hst D h cs f1 f2 f3 f4 f5 f6 md (ed) p0 p1 s.heap.size) (cwV 2 hts (gV q736 q738 qs22 q1 (gA q739)) rfl rfl rfl (by decide +kernel) ⟨Nat.le_of_ble_eq_true rfl, Nat.le_of_ble_eq_true rfl⟩) ⟨EV.fb, va_recv hKc hPc (ci := 11) (q0 := 0) rfl rfl, fun U hU hW => ⟨rfl, EV.at hPc hKc hDc hG (hZ.no hS) U hU hW⟩⟩ rfl rfl hl.1 rfl (lv_room (Nat.le_of_ble_eq_true rfl)) dX7_water_3 ⟨Nat.le_of_ble_eq_true rfl, Nat.le_of_ble_eq_true rfl⟩) hS (fun q _ h => h.elim) (fun q h => h.elim) (fun q _ h => h.elim) (fun E ce q9 u t H1 locs1 ht hvm hpx hBX hz1 hk1 hS hcell hcv hcl => ?_) (fun r u t H1 locs1 ht hvm hw hB hz1 hk1 hS => hw.elim)
  have hP := P_kept hP hk1
  exact vx_out (fun x hx => (hnt x hx).elim) hlocks hcell hcv hcl (fun t ht _ => ⟨(), trivial, hBX, hS.F ht⟩) (fun z hz => hS.2.2 z hz) (Nat.le_of_ble_eq_true rfl) (Nat.le_of_ble_eq_true rfl)
set_option maxHeartbeats 4000000 in
set_option maxRecDepth 100000 in
/-- standing on the fresh object: always IndexOutOfBoundsException -/
theorem k_LF_standing (l : Launch) (hst : l.stackTraces = false) (D : va_G) (h : Nat) (cs : Nat) (f1 f2 f3 f4 f5 f6 : Value) (md : Int32) (ed : Value) (p0 : Int32) (sz : Nat) : vx_Met l yX7_standing (wsA yX7_standing cX7_standing 2 (some .int)) ({ frames := 7, cells := 1, slots := 6, locals := 103 }) (va_Pc [.ref h, .int p0] (EV D [] [(h, .inr (11, [.ref cs, f1, f2, f3, f4, f5, f6])), (cs, .inr (4, [.int md, ed, .int 0]))] sz)) QX (XX "java/lang/IndexOutOfBoundsException") 1 6 NoA := by
  refine vx_ofW (cc := cX7_standing) (maxL := 2) (ret := (some .int)) (ws' := lw_all) (by decide) rfl ?_
  intro p e s m args below meth c s₁ B hml hnt hv
  obtain ⟨rfl, hsz, hP, hK, hD0, hG, hZ0⟩ := hv
  have hx := B.exec
  have hb := B.bytes
  have hr := B.returns
  have hts0 := atoms_spec (ws := wsA yX7_standing cX7_standing 2 (some .int)) B.pre
  have hts : ∀ w ∈ lw_all, w.before _ s = true := fun w h => hts0 w (List.mem_cons_of_mem _ h)
  have hown : s.vm.findClass RX7 = some m.cls := findClass_of_methodNamed B.named
  have hlocks := B.notSynchronized
  subst hsz
  have hD : va_D (fun _ => True) [(h, .inr (11, [.ref cs, f1, f2, f3, f4, f5, f6])), (cs, .inr (4, [.int md, ed, .int 0]))] := hD0
  have hZ : ZZ NoA s s.heap := hZ0
  have hS : va_S NoA s.heap s.heap [] := va_S.rf
  have hP : va_P D vwCl [(h, .inr (11, [.ref cs, f1, f2, f3, f4, f5, f6])), (cs, .inr (4, [.int md, ed, .int 0]))] s.heap := hP
  have hl := lv_entry ([.ref h, .int p0]) (n := 2) (Nat.le_of_ble_eq_true rfl)
  rw [lg_entry_eq]
  generalize (lg_sl ([.ref h, .int p0]) ++ List.replicate (2 - (lg_sl ([.ref h, .int p0])).length) Slot.unset).toArray = ls at hl ⊢
  have hl : lv_has ls 2 [(0, .ref h), (1, .int p0)] := hl
  refine lv_aload_n hx hb dX7_standing_0 rfl (lv_at hl 0 rfl) ?_
  refine lv_iload_n hx hb dX7_standing_1 rfl (lv_at hl 1 rfl) ?_
  have hPc := hP.sub (ws' := [(h, .inr (11, [.ref cs, f1, f2, f3, f4, f5, f6])), (cs, .inr (4, [.int md, ed, .int 0]))]) [0, 1] rfl
  have hDc := hD.sub (ws' := [(h, .inr (11, [.ref cs, f1, f2, f3, f4, f5, f6])), (cs, .inr (4, [.int md, ed, .int 0]))]) [0, 1] (by decide) rfl
  have hKc := hK.sub (tys' := []) [] rfl
  refine vx_calli (vx_runV (As := [.int p0]) (rest := []) ⟨hx, hb, hml, hown, hts⟩ (k_LF_columnAt l hst D h cs f1 f2 f3 f4 f5 f6 md (ed) p0 s.heap.size) (cwV 1 hts (gV q188 q190 qs1 q1 (gA q191)) rfl rfl rfl (by decide +kernel) ⟨Nat.le_of_ble_eq_true rfl, Nat.le_of_ble_eq_true rfl⟩) ⟨EV.fb, va_recv hKc hPc (ci := 11) (q0 := 0) rfl rfl, fun U hU hW => ⟨rfl, EV.at hPc hKc hDc hG (hZ.no hS) U hU hW⟩⟩ rfl rfl hl.1 rfl (lv_room (Nat.le_of_ble_eq_true rfl)) dX7_standing_2 ⟨Nat.le_of_ble_eq_true rfl, Nat.le_of_ble_eq_true rfl⟩) hS (fun q _ h => h.elim) (fun q h => h.elim) (fun q _ h => h.elim) (fun E ce q9 u t H1 locs1 ht hvm hpx hBX hz1 hk1 hS hcell hcv hcl => ?_) (fun r u t H1 locs1 ht hvm hw hB hz1 hk1 hS => hw.elim)
  have hP := P_kept hP hk1
  exact vx_out (fun x hx => (hnt x hx).elim) hlocks hcell hcv hcl (fun t ht _ => ⟨(), trivial, hBX, hS.F ht⟩) (fun z hz => hS.2.2 z hz) (Nat.le_of_ble_eq_true rfl) (Nat.le_of_ble_eq_true rfl)
end
