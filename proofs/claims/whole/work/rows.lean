section
-- ===== PART A: goes FIRST, ahead of the names: the tables' words, and 'selects' of the private methods out of them =====
/-- a private method of a class that the tables say can be made, by its rows of tables_1 -/
def lw_okq (q : MethodName × Nat) : Prop := (q.1.cls ≠ "java/lang/invoke/MethodHandle" ∧ q.1.cls ≠ "java/lang/invoke/VarHandle") ∧ Cond.instantiable q.1.cls q.2 ∈ tables_1 ∧ Cond.privateMethod q.1 ∈ tables_1 ∧ Cond.instanceMethod q.1 ∈ tables_1
theorem lw_p0 : lw_okq (⟨"PinCylinder", "readBuffer", "()I"⟩, 10) := ⟨⟨by decide +kernel, by decide +kernel⟩, List.mem_of_getElem? (i := 15) (by decide +kernel), List.mem_of_getElem? (i := 156) (by decide +kernel), List.mem_of_getElem? (i := 157) (by decide +kernel)⟩
theorem lw_p1 : lw_okq (⟨"PinCylinder$PinReader", "acceptsTune", "(C)Z"⟩, 5) := ⟨⟨by decide +kernel, by decide +kernel⟩, List.mem_of_getElem? (i := 91) (by decide +kernel), List.mem_of_getElem? (i := 168) (by decide +kernel), List.mem_of_getElem? (i := 169) (by decide +kernel)⟩
theorem lw_p2 : lw_okq (⟨"PinCylinder$PinReader", "goTo", "(I)Z"⟩, 5) := ⟨⟨by decide +kernel, by decide +kernel⟩, List.mem_of_getElem? (i := 91) (by decide +kernel), List.mem_of_getElem? (i := 175) (by decide +kernel), List.mem_of_getElem? (i := 176) (by decide +kernel)⟩
theorem lw_p3 : lw_okq (⟨"PinCylinder$PinReader", "acceptsToothDigit", "(C)Z"⟩, 5) := ⟨⟨by decide +kernel, by decide +kernel⟩, List.mem_of_getElem? (i := 91) (by decide +kernel), List.mem_of_getElem? (i := 179) (by decide +kernel), List.mem_of_getElem? (i := 180) (by decide +kernel)⟩
theorem lw_p4 : lw_okq (⟨"PinCylinder$PinReader", "acceptsToothEnd", "(C)Z"⟩, 5) := ⟨⟨by decide +kernel, by decide +kernel⟩, List.mem_of_getElem? (i := 91) (by decide +kernel), List.mem_of_getElem? (i := 183) (by decide +kernel), List.mem_of_getElem? (i := 184) (by decide +kernel)⟩
theorem lw_p5 : lw_okq (⟨"PinCylinder$PinReader", "acceptsStepDigit", "(C)Z"⟩, 5) := ⟨⟨by decide +kernel, by decide +kernel⟩, List.mem_of_getElem? (i := 91) (by decide +kernel), List.mem_of_getElem? (i := 190) (by decide +kernel), List.mem_of_getElem? (i := 191) (by decide +kernel)⟩
theorem lw_p6 : lw_okq (⟨"PinCylinder$PinReader", "acceptsBehindStep", "(C)Z"⟩, 5) := ⟨⟨by decide +kernel, by decide +kernel⟩, List.mem_of_getElem? (i := 91) (by decide +kernel), List.mem_of_getElem? (i := 194) (by decide +kernel), List.mem_of_getElem? (i := 195) (by decide +kernel)⟩
theorem lw_p7 : lw_okq (⟨"PinCylinder$PinReader", "acceptsSeparator", "(C)Z"⟩, 5) := ⟨⟨by decide +kernel, by decide +kernel⟩, List.mem_of_getElem? (i := 91) (by decide +kernel), List.mem_of_getElem? (i := 201) (by decide +kernel), List.mem_of_getElem? (i := 202) (by decide +kernel)⟩
theorem lw_p8 : lw_okq (⟨"PinCylinder$PinReader", "acceptsRange", "()Z"⟩, 5) := ⟨⟨by decide +kernel, by decide +kernel⟩, List.mem_of_getElem? (i := 91) (by decide +kernel), List.mem_of_getElem? (i := 205) (by decide +kernel), List.mem_of_getElem? (i := 206) (by decide +kernel)⟩
theorem lw_p9 : lw_okq (⟨"PinCylinder$PinReader", "acceptsRangeEndDigit", "(C)Z"⟩, 5) := ⟨⟨by decide +kernel, by decide +kernel⟩, List.mem_of_getElem? (i := 91) (by decide +kernel), List.mem_of_getElem? (i := 209) (by decide +kernel), List.mem_of_getElem? (i := 210) (by decide +kernel)⟩
theorem lw_p10 : lw_okq (⟨"PinCylinder$PinReader", "acceptsBehindRangeEnd", "(C)Z"⟩, 5) := ⟨⟨by decide +kernel, by decide +kernel⟩, List.mem_of_getElem? (i := 91) (by decide +kernel), List.mem_of_getElem? (i := 219) (by decide +kernel), List.mem_of_getElem? (i := 220) (by decide +kernel)⟩
theorem lw_p11 : lw_okq (⟨"PinCylinder", "fewestQuietVanes", "()I"⟩, 10) := ⟨⟨by decide +kernel, by decide +kernel⟩, List.mem_of_getElem? (i := 15) (by decide +kernel), List.mem_of_getElem? (i := 256) (by decide +kernel), List.mem_of_getElem? (i := 257) (by decide +kernel)⟩
theorem lw_p12 : lw_okq (⟨"PinCylinder", "tryOut", "(II)V"⟩, 10) := ⟨⟨by decide +kernel, by decide +kernel⟩, List.mem_of_getElem? (i := 15) (by decide +kernel), List.mem_of_getElem? (i := 260) (by decide +kernel), List.mem_of_getElem? (i := 261) (by decide +kernel)⟩
theorem lw_p13 : lw_okq (⟨"PinCylinder$State", "goOn", "()Z"⟩, 17) := ⟨⟨by decide +kernel, by decide +kernel⟩, List.mem_of_getElem? (i := 23) (by decide +kernel), List.mem_of_getElem? (i := 268) (by decide +kernel), List.mem_of_getElem? (i := 269) (by decide +kernel)⟩
theorem lw_p14 : lw_okq (⟨"PinCylinder$State", "tuneComing", "(II)I"⟩, 17) := ⟨⟨by decide +kernel, by decide +kernel⟩, List.mem_of_getElem? (i := 23) (by decide +kernel), List.mem_of_getElem? (i := 278) (by decide +kernel), List.mem_of_getElem? (i := 279) (by decide +kernel)⟩
theorem lw_p15 : lw_okq (⟨"PinCylinder$State", "windOfStep", "(II)I"⟩, 17) := ⟨⟨by decide +kernel, by decide +kernel⟩, List.mem_of_getElem? (i := 23) (by decide +kernel), List.mem_of_getElem? (i := 282) (by decide +kernel), List.mem_of_getElem? (i := 283) (by decide +kernel)⟩
def lw_privs_1 : List (MethodName × Nat) := [(⟨"PinCylinder", "readBuffer", "()I"⟩, 10), (⟨"PinCylinder$PinReader", "acceptsTune", "(C)Z"⟩, 5), (⟨"PinCylinder$PinReader", "goTo", "(I)Z"⟩, 5), (⟨"PinCylinder$PinReader", "acceptsToothDigit", "(C)Z"⟩, 5), (⟨"PinCylinder$PinReader", "acceptsToothEnd", "(C)Z"⟩, 5), (⟨"PinCylinder$PinReader", "acceptsStepDigit", "(C)Z"⟩, 5), (⟨"PinCylinder$PinReader", "acceptsBehindStep", "(C)Z"⟩, 5), (⟨"PinCylinder$PinReader", "acceptsSeparator", "(C)Z"⟩, 5), (⟨"PinCylinder$PinReader", "acceptsRange", "()Z"⟩, 5), (⟨"PinCylinder$PinReader", "acceptsRangeEndDigit", "(C)Z"⟩, 5), (⟨"PinCylinder$PinReader", "acceptsBehindRangeEnd", "(C)Z"⟩, 5), (⟨"PinCylinder", "fewestQuietVanes", "()I"⟩, 10), (⟨"PinCylinder", "tryOut", "(II)V"⟩, 10), (⟨"PinCylinder$State", "goOn", "()Z"⟩, 17), (⟨"PinCylinder$State", "tuneComing", "(II)I"⟩, 17), (⟨"PinCylinder$State", "windOfStep", "(II)I"⟩, 17)]
theorem lw_r1 : ∀ q ∈ lw_privs_1, lw_okq q := List.forall_mem_cons.mpr ⟨lw_p0, List.forall_mem_cons.mpr ⟨lw_p1, List.forall_mem_cons.mpr ⟨lw_p2, List.forall_mem_cons.mpr ⟨lw_p3, List.forall_mem_cons.mpr ⟨lw_p4, List.forall_mem_cons.mpr ⟨lw_p5, List.forall_mem_cons.mpr ⟨lw_p6, List.forall_mem_cons.mpr ⟨lw_p7, List.forall_mem_cons.mpr ⟨lw_p8, List.forall_mem_cons.mpr ⟨lw_p9, List.forall_mem_cons.mpr ⟨lw_p10, List.forall_mem_cons.mpr ⟨lw_p11, List.forall_mem_cons.mpr ⟨lw_p12, List.forall_mem_cons.mpr ⟨lw_p13, List.forall_mem_cons.mpr ⟨lw_p14, List.forall_mem_cons.mpr ⟨lw_p15, fun _ h => absurd h List.not_mem_nil⟩⟩⟩⟩⟩⟩⟩⟩⟩⟩⟩⟩⟩⟩⟩⟩
theorem lw_p16 : lw_okq (⟨"PinCylinder$State", "strike", "(II)V"⟩, 17) := ⟨⟨by decide +kernel, by decide +kernel⟩, List.mem_of_getElem? (i := 23) (by decide +kernel), List.mem_of_getElem? (i := 289) (by decide +kernel), List.mem_of_getElem? (i := 290) (by decide +kernel)⟩
theorem lw_p17 : lw_okq (⟨"PinCylinder$State", "ringsFor", "(I)I"⟩, 17) := ⟨⟨by decide +kernel, by decide +kernel⟩, List.mem_of_getElem? (i := 23) (by decide +kernel), List.mem_of_getElem? (i := 293) (by decide +kernel), List.mem_of_getElem? (i := 294) (by decide +kernel)⟩
theorem lw_p18 : lw_okq (⟨"PinCylinder$State", "squeak", "(I)V"⟩, 17) := ⟨⟨by decide +kernel, by decide +kernel⟩, List.mem_of_getElem? (i := 23) (by decide +kernel), List.mem_of_getElem? (i := 297) (by decide +kernel), List.mem_of_getElem? (i := 298) (by decide +kernel)⟩
theorem lw_p19 : lw_okq (⟨"PinCylinder$State", "isBroken", "(I)Z"⟩, 17) := ⟨⟨by decide +kernel, by decide +kernel⟩, List.mem_of_getElem? (i := 23) (by decide +kernel), List.mem_of_getElem? (i := 301) (by decide +kernel), List.mem_of_getElem? (i := 302) (by decide +kernel)⟩
theorem lw_p20 : lw_okq (⟨"PinCylinder$State", "pluck", "(I)V"⟩, 17) := ⟨⟨by decide +kernel, by decide +kernel⟩, List.mem_of_getElem? (i := 23) (by decide +kernel), List.mem_of_getElem? (i := 305) (by decide +kernel), List.mem_of_getElem? (i := 306) (by decide +kernel)⟩
theorem lw_p21 : lw_okq (⟨"PinCylinder", "cleanShare", "()D"⟩, 10) := ⟨⟨by decide +kernel, by decide +kernel⟩, List.mem_of_getElem? (i := 15) (by decide +kernel), List.mem_of_getElem? (i := 313) (by decide +kernel), List.mem_of_getElem? (i := 314) (by decide +kernel)⟩
theorem lw_p22 : lw_okq (⟨"PinCylinder", "numberNow", "(I)I"⟩, 10) := ⟨⟨by decide +kernel, by decide +kernel⟩, List.mem_of_getElem? (i := 15) (by decide +kernel), List.mem_of_getElem? (i := 323) (by decide +kernel), List.mem_of_getElem? (i := 324) (by decide +kernel)⟩
theorem lw_p23 : lw_okq (⟨"PinCylinder$State", "teethRinging", "()I"⟩, 17) := ⟨⟨by decide +kernel, by decide +kernel⟩, List.mem_of_getElem? (i := 23) (by decide +kernel), List.mem_of_getElem? (i := 331) (by decide +kernel), List.mem_of_getElem? (i := 332) (by decide +kernel)⟩
theorem lw_p24 : lw_okq (⟨"PinCylinder", "mixedTunes", "(J)J"⟩, 10) := ⟨⟨by decide +kernel, by decide +kernel⟩, List.mem_of_getElem? (i := 15) (by decide +kernel), List.mem_of_getElem? (i := 344) (by decide +kernel), List.mem_of_getElem? (i := 345) (by decide +kernel)⟩
theorem lw_p25 : lw_okq (⟨"PinCylinder$State", "pinsByTooth", "(I)I"⟩, 17) := ⟨⟨by decide +kernel, by decide +kernel⟩, List.mem_of_getElem? (i := 23) (by decide +kernel), List.mem_of_getElem? (i := 352) (by decide +kernel), List.mem_of_getElem? (i := 353) (by decide +kernel)⟩
theorem lw_p26 : lw_okq (⟨"PinCylinder$State", "fullestStep", "(I)I"⟩, 17) := ⟨⟨by decide +kernel, by decide +kernel⟩, List.mem_of_getElem? (i := 23) (by decide +kernel), List.mem_of_getElem? (i := 360) (by decide +kernel), List.mem_of_getElem? (i := 361) (by decide +kernel)⟩
theorem lw_p27 : lw_okq (⟨"PinCylinder$State", "teethUsed", "(I)I"⟩, 17) := ⟨⟨by decide +kernel, by decide +kernel⟩, List.mem_of_getElem? (i := 23) (by decide +kernel), List.mem_of_getElem? (i := 364) (by decide +kernel), List.mem_of_getElem? (i := 365) (by decide +kernel)⟩
theorem lw_p28 : lw_okq (⟨"PinCylinder", "mixedTeeth", "(J)J"⟩, 10) := ⟨⟨by decide +kernel, by decide +kernel⟩, List.mem_of_getElem? (i := 15) (by decide +kernel), List.mem_of_getElem? (i := 369) (by decide +kernel), List.mem_of_getElem? (i := 370) (by decide +kernel)⟩
theorem lw_p29 : lw_okq (⟨"PinCylinder$State", "widestGap", "(II)I"⟩, 17) := ⟨⟨by decide +kernel, by decide +kernel⟩, List.mem_of_getElem? (i := 23) (by decide +kernel), List.mem_of_getElem? (i := 377) (by decide +kernel), List.mem_of_getElem? (i := 378) (by decide +kernel)⟩
theorem lw_p30 : lw_okq (⟨"PinCylinder", "mixedNotes", "(J)J"⟩, 10) := ⟨⟨by decide +kernel, by decide +kernel⟩, List.mem_of_getElem? (i := 15) (by decide +kernel), List.mem_of_getElem? (i := 381) (by decide +kernel), List.mem_of_getElem? (i := 382) (by decide +kernel)⟩
theorem lw_p31 : lw_okq (⟨"PinCylinder$State", "slotOf", "(I)I"⟩, 17) := ⟨⟨by decide +kernel, by decide +kernel⟩, List.mem_of_getElem? (i := 23) (by decide +kernel), List.mem_of_getElem? (i := 394) (by decide +kernel), List.mem_of_getElem? (i := 395) (by decide +kernel)⟩
def lw_privs_2 : List (MethodName × Nat) := [(⟨"PinCylinder$State", "strike", "(II)V"⟩, 17), (⟨"PinCylinder$State", "ringsFor", "(I)I"⟩, 17), (⟨"PinCylinder$State", "squeak", "(I)V"⟩, 17), (⟨"PinCylinder$State", "isBroken", "(I)Z"⟩, 17), (⟨"PinCylinder$State", "pluck", "(I)V"⟩, 17), (⟨"PinCylinder", "cleanShare", "()D"⟩, 10), (⟨"PinCylinder", "numberNow", "(I)I"⟩, 10), (⟨"PinCylinder$State", "teethRinging", "()I"⟩, 17), (⟨"PinCylinder", "mixedTunes", "(J)J"⟩, 10), (⟨"PinCylinder$State", "pinsByTooth", "(I)I"⟩, 17), (⟨"PinCylinder$State", "fullestStep", "(I)I"⟩, 17), (⟨"PinCylinder$State", "teethUsed", "(I)I"⟩, 17), (⟨"PinCylinder", "mixedTeeth", "(J)J"⟩, 10), (⟨"PinCylinder$State", "widestGap", "(II)I"⟩, 17), (⟨"PinCylinder", "mixedNotes", "(J)J"⟩, 10), (⟨"PinCylinder$State", "slotOf", "(I)I"⟩, 17)]
theorem lw_r2 : ∀ q ∈ lw_privs_2, lw_okq q := List.forall_mem_cons.mpr ⟨lw_p16, List.forall_mem_cons.mpr ⟨lw_p17, List.forall_mem_cons.mpr ⟨lw_p18, List.forall_mem_cons.mpr ⟨lw_p19, List.forall_mem_cons.mpr ⟨lw_p20, List.forall_mem_cons.mpr ⟨lw_p21, List.forall_mem_cons.mpr ⟨lw_p22, List.forall_mem_cons.mpr ⟨lw_p23, List.forall_mem_cons.mpr ⟨lw_p24, List.forall_mem_cons.mpr ⟨lw_p25, List.forall_mem_cons.mpr ⟨lw_p26, List.forall_mem_cons.mpr ⟨lw_p27, List.forall_mem_cons.mpr ⟨lw_p28, List.forall_mem_cons.mpr ⟨lw_p29, List.forall_mem_cons.mpr ⟨lw_p30, List.forall_mem_cons.mpr ⟨lw_p31, fun _ h => absurd h List.not_mem_nil⟩⟩⟩⟩⟩⟩⟩⟩⟩⟩⟩⟩⟩⟩⟩⟩
theorem lw_p32 : lw_okq (⟨"PinCylinder", "mixedProspects", "(J)J"⟩, 10) := ⟨⟨by decide +kernel, by decide +kernel⟩, List.mem_of_getElem? (i := 15) (by decide +kernel), List.mem_of_getElem? (i := 402) (by decide +kernel), List.mem_of_getElem? (i := 403) (by decide +kernel)⟩
theorem lw_p33 : lw_okq (⟨"PinCylinder", "outcome", "(I)I"⟩, 10) := ⟨⟨by decide +kernel, by decide +kernel⟩, List.mem_of_getElem? (i := 15) (by decide +kernel), List.mem_of_getElem? (i := 406) (by decide +kernel), List.mem_of_getElem? (i := 407) (by decide +kernel)⟩
theorem lw_p34 : lw_okq (⟨"PinCylinder", "mixedBuffer", "(J)J"⟩, 10) := ⟨⟨by decide +kernel, by decide +kernel⟩, List.mem_of_getElem? (i := 15) (by decide +kernel), List.mem_of_getElem? (i := 421) (by decide +kernel), List.mem_of_getElem? (i := 422) (by decide +kernel)⟩
theorem lw_p35 : lw_okq (⟨"java/lang/Throwable", "fillInStackTrace", "(I)Ljava/lang/Throwable;"⟩, 6) := ⟨⟨by decide +kernel, by decide +kernel⟩, List.mem_of_getElem? (i := 478) (by decide +kernel), List.mem_of_getElem? (i := 476) (by decide +kernel), List.mem_of_getElem? (i := 477) (by decide +kernel)⟩
theorem lw_p36 : lw_okq (⟨"PinCylinder", "saveState", "()V"⟩, 10) := ⟨⟨by decide +kernel, by decide +kernel⟩, List.mem_of_getElem? (i := 15) (by decide +kernel), List.mem_of_getElem? (i := 528) (by decide +kernel), List.mem_of_getElem? (i := 529) (by decide +kernel)⟩
theorem lw_p37 : lw_okq (⟨"PinCylinder", "putBufferPins", "()I"⟩, 10) := ⟨⟨by decide +kernel, by decide +kernel⟩, List.mem_of_getElem? (i := 15) (by decide +kernel), List.mem_of_getElem? (i := 659) (by decide +kernel), List.mem_of_getElem? (i := 660) (by decide +kernel)⟩
theorem lw_p38 : lw_okq (⟨"PinCylinder", "putReadRange", "()I"⟩, 10) := ⟨⟨by decide +kernel, by decide +kernel⟩, List.mem_of_getElem? (i := 15) (by decide +kernel), List.mem_of_getElem? (i := 664) (by decide +kernel), List.mem_of_getElem? (i := 665) (by decide +kernel)⟩
theorem lw_p39 : lw_okq (⟨"PinCylinderModel", "hindrance", "(III)I"⟩, 13) := ⟨⟨by decide +kernel, by decide +kernel⟩, List.mem_of_getElem? (i := 766) (by decide +kernel), List.mem_of_getElem? (i := 835) (by decide +kernel), List.mem_of_getElem? (i := 836) (by decide +kernel)⟩
theorem lw_p40 : lw_okq (⟨"PinCylinderModel", "isPin", "(III)Z"⟩, 13) := ⟨⟨by decide +kernel, by decide +kernel⟩, List.mem_of_getElem? (i := 766) (by decide +kernel), List.mem_of_getElem? (i := 839) (by decide +kernel), List.mem_of_getElem? (i := 840) (by decide +kernel)⟩
theorem lw_p41 : lw_okq (⟨"PinCylinderModel", "isNear", "(III)Z"⟩, 13) := ⟨⟨by decide +kernel, by decide +kernel⟩, List.mem_of_getElem? (i := 766) (by decide +kernel), List.mem_of_getElem? (i := 846) (by decide +kernel), List.mem_of_getElem? (i := 847) (by decide +kernel)⟩
theorem lw_p42 : lw_okq (⟨"PinCylinderModel", "pinsAt", "(II)I"⟩, 13) := ⟨⟨by decide +kernel, by decide +kernel⟩, List.mem_of_getElem? (i := 766) (by decide +kernel), List.mem_of_getElem? (i := 850) (by decide +kernel), List.mem_of_getElem? (i := 851) (by decide +kernel)⟩
theorem lw_p43 : lw_okq (⟨"PinCylinderModel", "holds", "(I)Z"⟩, 13) := ⟨⟨by decide +kernel, by decide +kernel⟩, List.mem_of_getElem? (i := 766) (by decide +kernel), List.mem_of_getElem? (i := 857) (by decide +kernel), List.mem_of_getElem? (i := 858) (by decide +kernel)⟩
theorem lw_p44 : lw_okq (⟨"PinCylinderModel", "save", "()V"⟩, 13) := ⟨⟨by decide +kernel, by decide +kernel⟩, List.mem_of_getElem? (i := 766) (by decide +kernel), List.mem_of_getElem? (i := 861) (by decide +kernel), List.mem_of_getElem? (i := 862) (by decide +kernel)⟩
theorem lw_p45 : lw_okq (⟨"PinCylinderModel", "pinsOf", "(I)I"⟩, 13) := ⟨⟨by decide +kernel, by decide +kernel⟩, List.mem_of_getElem? (i := 766) (by decide +kernel), List.mem_of_getElem? (i := 865) (by decide +kernel), List.mem_of_getElem? (i := 866) (by decide +kernel)⟩
theorem lw_p46 : lw_okq (⟨"PinCylinderModel", "becomes", "(II)I"⟩, 13) := ⟨⟨by decide +kernel, by decide +kernel⟩, List.mem_of_getElem? (i := 766) (by decide +kernel), List.mem_of_getElem? (i := 885) (by decide +kernel), List.mem_of_getElem? (i := 886) (by decide +kernel)⟩
theorem lw_p47 : lw_okq (⟨"PinCylinderModel", "goesOn", "(I)I"⟩, 13) := ⟨⟨by decide +kernel, by decide +kernel⟩, List.mem_of_getElem? (i := 766) (by decide +kernel), List.mem_of_getElem? (i := 897) (by decide +kernel), List.mem_of_getElem? (i := 898) (by decide +kernel)⟩
def lw_privs_3 : List (MethodName × Nat) := [(⟨"PinCylinder", "mixedProspects", "(J)J"⟩, 10), (⟨"PinCylinder", "outcome", "(I)I"⟩, 10), (⟨"PinCylinder", "mixedBuffer", "(J)J"⟩, 10), (⟨"java/lang/Throwable", "fillInStackTrace", "(I)Ljava/lang/Throwable;"⟩, 6), (⟨"PinCylinder", "saveState", "()V"⟩, 10), (⟨"PinCylinder", "putBufferPins", "()I"⟩, 10), (⟨"PinCylinder", "putReadRange", "()I"⟩, 10), (⟨"PinCylinderModel", "hindrance", "(III)I"⟩, 13), (⟨"PinCylinderModel", "isPin", "(III)Z"⟩, 13), (⟨"PinCylinderModel", "isNear", "(III)Z"⟩, 13), (⟨"PinCylinderModel", "pinsAt", "(II)I"⟩, 13), (⟨"PinCylinderModel", "holds", "(I)Z"⟩, 13), (⟨"PinCylinderModel", "save", "()V"⟩, 13), (⟨"PinCylinderModel", "pinsOf", "(I)I"⟩, 13), (⟨"PinCylinderModel", "becomes", "(II)I"⟩, 13), (⟨"PinCylinderModel", "goesOn", "(I)I"⟩, 13)]
theorem lw_r3 : ∀ q ∈ lw_privs_3, lw_okq q := List.forall_mem_cons.mpr ⟨lw_p32, List.forall_mem_cons.mpr ⟨lw_p33, List.forall_mem_cons.mpr ⟨lw_p34, List.forall_mem_cons.mpr ⟨lw_p35, List.forall_mem_cons.mpr ⟨lw_p36, List.forall_mem_cons.mpr ⟨lw_p37, List.forall_mem_cons.mpr ⟨lw_p38, List.forall_mem_cons.mpr ⟨lw_p39, List.forall_mem_cons.mpr ⟨lw_p40, List.forall_mem_cons.mpr ⟨lw_p41, List.forall_mem_cons.mpr ⟨lw_p42, List.forall_mem_cons.mpr ⟨lw_p43, List.forall_mem_cons.mpr ⟨lw_p44, List.forall_mem_cons.mpr ⟨lw_p45, List.forall_mem_cons.mpr ⟨lw_p46, List.forall_mem_cons.mpr ⟨lw_p47, fun _ h => absurd h List.not_mem_nil⟩⟩⟩⟩⟩⟩⟩⟩⟩⟩⟩⟩⟩⟩⟩⟩
theorem lw_p48 : lw_okq (⟨"PinCylinderModel", "goes", "()Z"⟩, 13) := ⟨⟨by decide +kernel, by decide +kernel⟩, List.mem_of_getElem? (i := 766) (by decide +kernel), List.mem_of_getElem? (i := 901) (by decide +kernel), List.mem_of_getElem? (i := 902) (by decide +kernel)⟩
theorem lw_p49 : lw_okq (⟨"PinCylinderModel", "need", "()I"⟩, 13) := ⟨⟨by decide +kernel, by decide +kernel⟩, List.mem_of_getElem? (i := 766) (by decide +kernel), List.mem_of_getElem? (i := 905) (by decide +kernel), List.mem_of_getElem? (i := 906) (by decide +kernel)⟩
theorem lw_p50 : lw_okq (⟨"PinCylinderModel", "nextTune", "()I"⟩, 13) := ⟨⟨by decide +kernel, by decide +kernel⟩, List.mem_of_getElem? (i := 766) (by decide +kernel), List.mem_of_getElem? (i := 909) (by decide +kernel), List.mem_of_getElem? (i := 910) (by decide +kernel)⟩
theorem lw_p51 : lw_okq (⟨"PinCylinderModel", "nextStep", "()I"⟩, 13) := ⟨⟨by decide +kernel, by decide +kernel⟩, List.mem_of_getElem? (i := 766) (by decide +kernel), List.mem_of_getElem? (i := 913) (by decide +kernel), List.mem_of_getElem? (i := 914) (by decide +kernel)⟩
theorem lw_p52 : lw_okq (⟨"PinCylinderModel", "plucks", "(II)V"⟩, 13) := ⟨⟨by decide +kernel, by decide +kernel⟩, List.mem_of_getElem? (i := 766) (by decide +kernel), List.mem_of_getElem? (i := 920) (by decide +kernel), List.mem_of_getElem? (i := 921) (by decide +kernel)⟩
theorem lw_p53 : lw_okq (⟨"PinCylinderModel", "sounds", "(I)V"⟩, 13) := ⟨⟨by decide +kernel, by decide +kernel⟩, List.mem_of_getElem? (i := 766) (by decide +kernel), List.mem_of_getElem? (i := 924) (by decide +kernel), List.mem_of_getElem? (i := 925) (by decide +kernel)⟩
theorem lw_p54 : lw_okq (⟨"PinCylinderModel", "reads", "(Z)Z"⟩, 13) := ⟨⟨by decide +kernel, by decide +kernel⟩, List.mem_of_getElem? (i := 766) (by decide +kernel), List.mem_of_getElem? (i := 951) (by decide +kernel), List.mem_of_getElem? (i := 952) (by decide +kernel)⟩
theorem lw_p55 : lw_okq (⟨"PinCylinderModel", "readPart", "(Z)V"⟩, 13) := ⟨⟨by decide +kernel, by decide +kernel⟩, List.mem_of_getElem? (i := 766) (by decide +kernel), List.mem_of_getElem? (i := 955) (by decide +kernel), List.mem_of_getElem? (i := 956) (by decide +kernel)⟩
theorem lw_p56 : lw_okq (⟨"PinCylinderModel", "takes", "(II)I"⟩, 13) := ⟨⟨by decide +kernel, by decide +kernel⟩, List.mem_of_getElem? (i := 766) (by decide +kernel), List.mem_of_getElem? (i := 959) (by decide +kernel), List.mem_of_getElem? (i := 960) (by decide +kernel)⟩
theorem lw_p57 : lw_okq (⟨"PinCylinderModel", "isNext", "(II)Z"⟩, 13) := ⟨⟨by decide +kernel, by decide +kernel⟩, List.mem_of_getElem? (i := 766) (by decide +kernel), List.mem_of_getElem? (i := 963) (by decide +kernel), List.mem_of_getElem? (i := 964) (by decide +kernel)⟩
theorem lw_p58 : lw_okq (⟨"PinCylinderModel", "number", "(II)I"⟩, 13) := ⟨⟨by decide +kernel, by decide +kernel⟩, List.mem_of_getElem? (i := 766) (by decide +kernel), List.mem_of_getElem? (i := 967) (by decide +kernel), List.mem_of_getElem? (i := 968) (by decide +kernel)⟩
theorem lw_p59 : lw_okq (⟨"PinCylinderModel", "readSteps", "(IIZ)V"⟩, 13) := ⟨⟨by decide +kernel, by decide +kernel⟩, List.mem_of_getElem? (i := 766) (by decide +kernel), List.mem_of_getElem? (i := 974) (by decide +kernel), List.mem_of_getElem? (i := 975) (by decide +kernel)⟩
theorem lw_p60 : lw_okq (⟨"PinCylinderModel", "allPins", "()I"⟩, 13) := ⟨⟨by decide +kernel, by decide +kernel⟩, List.mem_of_getElem? (i := 766) (by decide +kernel), List.mem_of_getElem? (i := 990) (by decide +kernel), List.mem_of_getElem? (i := 991) (by decide +kernel)⟩
theorem lw_p61 : lw_okq (⟨"PinCylinderModel", "ofTune", "(II)I"⟩, 13) := ⟨⟨by decide +kernel, by decide +kernel⟩, List.mem_of_getElem? (i := 766) (by decide +kernel), List.mem_of_getElem? (i := 1010) (by decide +kernel), List.mem_of_getElem? (i := 1011) (by decide +kernel)⟩
theorem lw_p62 : lw_okq (⟨"PinCylinderModel", "fullest", "(I)I"⟩, 13) := ⟨⟨by decide +kernel, by decide +kernel⟩, List.mem_of_getElem? (i := 766) (by decide +kernel), List.mem_of_getElem? (i := 1014) (by decide +kernel), List.mem_of_getElem? (i := 1015) (by decide +kernel)⟩
theorem lw_p63 : lw_okq (⟨"PinCylinderModel", "teethOf", "(I)I"⟩, 13) := ⟨⟨by decide +kernel, by decide +kernel⟩, List.mem_of_getElem? (i := 766) (by decide +kernel), List.mem_of_getElem? (i := 1018) (by decide +kernel), List.mem_of_getElem? (i := 1019) (by decide +kernel)⟩
def lw_privs_4 : List (MethodName × Nat) := [(⟨"PinCylinderModel", "goes", "()Z"⟩, 13), (⟨"PinCylinderModel", "need", "()I"⟩, 13), (⟨"PinCylinderModel", "nextTune", "()I"⟩, 13), (⟨"PinCylinderModel", "nextStep", "()I"⟩, 13), (⟨"PinCylinderModel", "plucks", "(II)V"⟩, 13), (⟨"PinCylinderModel", "sounds", "(I)V"⟩, 13), (⟨"PinCylinderModel", "reads", "(Z)Z"⟩, 13), (⟨"PinCylinderModel", "readPart", "(Z)V"⟩, 13), (⟨"PinCylinderModel", "takes", "(II)I"⟩, 13), (⟨"PinCylinderModel", "isNext", "(II)Z"⟩, 13), (⟨"PinCylinderModel", "number", "(II)I"⟩, 13), (⟨"PinCylinderModel", "readSteps", "(IIZ)V"⟩, 13), (⟨"PinCylinderModel", "allPins", "()I"⟩, 13), (⟨"PinCylinderModel", "ofTune", "(II)I"⟩, 13), (⟨"PinCylinderModel", "fullest", "(I)I"⟩, 13), (⟨"PinCylinderModel", "teethOf", "(I)I"⟩, 13)]
theorem lw_r4 : ∀ q ∈ lw_privs_4, lw_okq q := List.forall_mem_cons.mpr ⟨lw_p48, List.forall_mem_cons.mpr ⟨lw_p49, List.forall_mem_cons.mpr ⟨lw_p50, List.forall_mem_cons.mpr ⟨lw_p51, List.forall_mem_cons.mpr ⟨lw_p52, List.forall_mem_cons.mpr ⟨lw_p53, List.forall_mem_cons.mpr ⟨lw_p54, List.forall_mem_cons.mpr ⟨lw_p55, List.forall_mem_cons.mpr ⟨lw_p56, List.forall_mem_cons.mpr ⟨lw_p57, List.forall_mem_cons.mpr ⟨lw_p58, List.forall_mem_cons.mpr ⟨lw_p59, List.forall_mem_cons.mpr ⟨lw_p60, List.forall_mem_cons.mpr ⟨lw_p61, List.forall_mem_cons.mpr ⟨lw_p62, List.forall_mem_cons.mpr ⟨lw_p63, fun _ h => absurd h List.not_mem_nil⟩⟩⟩⟩⟩⟩⟩⟩⟩⟩⟩⟩⟩⟩⟩⟩
theorem lw_p64 : lw_okq (⟨"PinCylinderModel", "ofTooth", "(II)I"⟩, 13) := ⟨⟨by decide +kernel, by decide +kernel⟩, List.mem_of_getElem? (i := 766) (by decide +kernel), List.mem_of_getElem? (i := 1030) (by decide +kernel), List.mem_of_getElem? (i := 1031) (by decide +kernel)⟩
theorem lw_p65 : lw_okq (⟨"PinCylinderModel", "widest", "(I)I"⟩, 13) := ⟨⟨by decide +kernel, by decide +kernel⟩, List.mem_of_getElem? (i := 766) (by decide +kernel), List.mem_of_getElem? (i := 1034) (by decide +kernel), List.mem_of_getElem? (i := 1035) (by decide +kernel)⟩
theorem lw_p66 : lw_okq (⟨"PinCylinderModel", "counted", "(I)I"⟩, 13) := ⟨⟨by decide +kernel, by decide +kernel⟩, List.mem_of_getElem? (i := 766) (by decide +kernel), List.mem_of_getElem? (i := 1046) (by decide +kernel), List.mem_of_getElem? (i := 1047) (by decide +kernel)⟩
theorem lw_p67 : lw_okq (⟨"PinCylinderModel", "teethThat", "(I)I"⟩, 13) := ⟨⟨by decide +kernel, by decide +kernel⟩, List.mem_of_getElem? (i := 766) (by decide +kernel), List.mem_of_getElem? (i := 1050) (by decide +kernel), List.mem_of_getElem? (i := 1051) (by decide +kernel)⟩
theorem lw_p68 : lw_okq (⟨"PinCylinderModel", "wouldBe", "(II)I"⟩, 13) := ⟨⟨by decide +kernel, by decide +kernel⟩, List.mem_of_getElem? (i := 766) (by decide +kernel), List.mem_of_getElem? (i := 1058) (by decide +kernel), List.mem_of_getElem? (i := 1059) (by decide +kernel)⟩
theorem lw_p69 : lw_okq (⟨"PinCylinderModel", "putAside", "()V"⟩, 13) := ⟨⟨by decide +kernel, by decide +kernel⟩, List.mem_of_getElem? (i := 766) (by decide +kernel), List.mem_of_getElem? (i := 1062) (by decide +kernel), List.mem_of_getElem? (i := 1063) (by decide +kernel)⟩
theorem lw_p70 : lw_okq (⟨"PinCylinderModel", "putBack", "()V"⟩, 13) := ⟨⟨by decide +kernel, by decide +kernel⟩, List.mem_of_getElem? (i := 766) (by decide +kernel), List.mem_of_getElem? (i := 1066) (by decide +kernel), List.mem_of_getElem? (i := 1067) (by decide +kernel)⟩
theorem lw_p71 : lw_okq (⟨"PinCylinderModel", "quietVanes", "()I"⟩, 13) := ⟨⟨by decide +kernel, by decide +kernel⟩, List.mem_of_getElem? (i := 766) (by decide +kernel), List.mem_of_getElem? (i := 1074) (by decide +kernel), List.mem_of_getElem? (i := 1075) (by decide +kernel)⟩
theorem lw_p72 : lw_okq (⟨"PinCylinderModel", "windOf", "(I)I"⟩, 13) := ⟨⟨by decide +kernel, by decide +kernel⟩, List.mem_of_getElem? (i := 766) (by decide +kernel), List.mem_of_getElem? (i := 1082) (by decide +kernel), List.mem_of_getElem? (i := 1083) (by decide +kernel)⟩
theorem lw_p73 : lw_okq (⟨"PinCylinderModel", "share", "()D"⟩, 13) := ⟨⟨by decide +kernel, by decide +kernel⟩, List.mem_of_getElem? (i := 766) (by decide +kernel), List.mem_of_getElem? (i := 1090) (by decide +kernel), List.mem_of_getElem? (i := 1091) (by decide +kernel)⟩
theorem lw_p74 : lw_okq (⟨"PinCylinderModel", "digestOne", "(J)V"⟩, 13) := ⟨⟨by decide +kernel, by decide +kernel⟩, List.mem_of_getElem? (i := 766) (by decide +kernel), List.mem_of_getElem? (i := 1099) (by decide +kernel), List.mem_of_getElem? (i := 1100) (by decide +kernel)⟩
theorem lw_p75 : lw_okq (⟨"PinCylinderModel", "digestCylinder", "()V"⟩, 13) := ⟨⟨by decide +kernel, by decide +kernel⟩, List.mem_of_getElem? (i := 766) (by decide +kernel), List.mem_of_getElem? (i := 1104) (by decide +kernel), List.mem_of_getElem? (i := 1105) (by decide +kernel)⟩
def lw_privs_5 : List (MethodName × Nat) := [(⟨"PinCylinderModel", "ofTooth", "(II)I"⟩, 13), (⟨"PinCylinderModel", "widest", "(I)I"⟩, 13), (⟨"PinCylinderModel", "counted", "(I)I"⟩, 13), (⟨"PinCylinderModel", "teethThat", "(I)I"⟩, 13), (⟨"PinCylinderModel", "wouldBe", "(II)I"⟩, 13), (⟨"PinCylinderModel", "putAside", "()V"⟩, 13), (⟨"PinCylinderModel", "putBack", "()V"⟩, 13), (⟨"PinCylinderModel", "quietVanes", "()I"⟩, 13), (⟨"PinCylinderModel", "windOf", "(I)I"⟩, 13), (⟨"PinCylinderModel", "share", "()D"⟩, 13), (⟨"PinCylinderModel", "digestOne", "(J)V"⟩, 13), (⟨"PinCylinderModel", "digestCylinder", "()V"⟩, 13)]
theorem lw_r5 : ∀ q ∈ lw_privs_5, lw_okq q := List.forall_mem_cons.mpr ⟨lw_p64, List.forall_mem_cons.mpr ⟨lw_p65, List.forall_mem_cons.mpr ⟨lw_p66, List.forall_mem_cons.mpr ⟨lw_p67, List.forall_mem_cons.mpr ⟨lw_p68, List.forall_mem_cons.mpr ⟨lw_p69, List.forall_mem_cons.mpr ⟨lw_p70, List.forall_mem_cons.mpr ⟨lw_p71, List.forall_mem_cons.mpr ⟨lw_p72, List.forall_mem_cons.mpr ⟨lw_p73, List.forall_mem_cons.mpr ⟨lw_p74, List.forall_mem_cons.mpr ⟨lw_p75, fun _ h => absurd h List.not_mem_nil⟩⟩⟩⟩⟩⟩⟩⟩⟩⟩⟩⟩
def lw_privs : List (MethodName × Nat) := lw_privs_1 ++ (lw_privs_2 ++ (lw_privs_3 ++ (lw_privs_4 ++ (lw_privs_5))))
def lw_tbl : List Cond := k2_sels lw_privs ++ tables_1
theorem lw_privs_ok : ∀ q ∈ lw_privs, lw_okq q := by
  show ∀ q ∈ lw_privs_1 ++ (lw_privs_2 ++ (lw_privs_3 ++ (lw_privs_4 ++ (lw_privs_5)))), lw_okq q
  exact List.forall_mem_append.mpr ⟨lw_r1, List.forall_mem_append.mpr ⟨lw_r2, List.forall_mem_append.mpr ⟨lw_r3, List.forall_mem_append.mpr ⟨lw_r4, lw_r5⟩⟩⟩⟩
/-- the streams that the claim lets the run draw from -/
abbrev lw_cs : List Choice := [Jvm.Choice.named "NaN.bits"]
theorem lw_bits : nanBits ∈ lw_cs := by first | decide | exact List.mem_cons_self | simp [lw_cs, nanBits]
-- ===== end of PART A; then your names; then what follows =====
end
section
/-! ===== BEGIN words of one list among another's, by their places ===== -/
theorem goodIn_r {big : List Cond} (ws : List Cond) (ps : List Nat) (hp : ws = ps.filterMap (fun i => big[i]?)) (h : ws.all goodWord = true) : GoodIn big ws := by
  intro w hw
  have h1 := List.all_eq_true.mp h w hw
  rw [hp] at hw
  obtain ⟨i, -, hi⟩ := List.mem_filterMap.mp hw
  have hm : w ∈ big := by first | exact List.mem_of_getElem? hi | exact List.getElem?_mem hi
  exact ⟨hm, good_of_word h1⟩
theorem goodIn_app {big a b : List Cond} (ha : GoodIn big a) (hb : GoodIn big b) : GoodIn big (a ++ b) := fun w h => (List.mem_append.mp h).elim (ha w) (hb w)
theorem goodIn_ca {big a b : List Cond} {c : Cond} (ha : GoodIn big (c :: a)) (hb : GoodIn big b) : GoodIn big (c :: (a ++ b)) := fun w h => (List.mem_cons.mp h).elim (fun e => ha w (List.mem_cons.mpr (Or.inl e))) (fun h => (List.mem_append.mp h).elim (fun h => ha w (List.mem_cons.mpr (Or.inr h))) (hb w))
theorem goodIn_sub {big ws : List Cond} (hm : ∀ w ∈ ws, w ∈ big) (h : ws.all goodWord = true) : GoodIn big ws := fun w hw => ⟨hm w hw, good_of_word (List.all_eq_true.mp h w hw)⟩
/-! ===== END ===== -/

/-! ===== BEGIN exceptions that leave a method, and their catching by the caller (launches without stack traces) ===== -/
section VXA
/-! The laws vx_back, vx_callV, vx_callS, vx_callSW, vx_throw0, vx_throwS follow proofs of the library, with one case more: JvmDerived/Free/Laws.lean (Back.of_free), Shelf42/LK1.lean (callV, callS), Shelf/KitTraced.lean (throwNew0V, throwNewS). -/
/-- where a method has thrown q: the class by its name, the cell, what was written, the world -/
def vx_T (XC : String → State → State → Prop) (st : State) (q : Addr) (t : State) (mc ms : Nat) (free : Addr → Prop) : Prop :=
  ∃ (E : String) (ce : Cell) (L : List Loc), XC E st t ∧ t.heap[q]? = some ce ∧ ce.vm = .none ∧ st.vm.findClass E = some ce.cls ∧ st.WarmedH t.vm ∧ st.sameButNew ({ t with vm := st.vm } : State) L mc ms ∧ ∀ z ∈ L, free z.base
def vx_Q (Qc : Array Value → State → Outcome → State → Prop) (XC : String → State → State → Prop) (mc ms : Nat) (free : Addr → Prop) : Array Value → State → Outcome → State → Prop := fun a st o t =>
  (Qc a st o t ∧ ∃ L, FrameEnd st o t L mc ms ∧ ∀ q ∈ L, free q.base) ∨ ∃ q, o = .threw q ∧ vx_T XC st q t mc ms free
/-- a callee that returns or throws -/
def vx_Met (l : Launch) (y : MethodName) (ws : List Cond) (rm : Room) (Pc : Array Value → State → Prop) (Qc : Array Value → State → Outcome → State → Prop) (XC : String → State → State → Prop) (mc ms : Nat) (free : Addr → Prop) : Prop :=
  MetFree l y (headSpec ws rm) Pc (fun _ _ _ _ _ => True) (vx_Q Qc XC mc ms free)
def vx_Post (XC : String → State → State → Prop) (mc ms : Nat) (free : Addr → Prop) : Pt → Array Value → Addr → Pt → Prop := fun A a q B =>
  ∃ (g : JFrame) (mk : MethodId) (t : State) (L : List Loc) (E : String) (ce : Cell), B.U.heap = t.heap ∧ B.U.vm = t.vm ∧ XC E (A.U.calling g mk a) t ∧ t.heap[q]? = some ce ∧ ce.vm = .none ∧ A.U.vm.findClass E = some ce.cls ∧ B.locs = A.locs ++ L ∧ (∀ z ∈ L, free z.base) ∧ B.cells = A.cells + mc ∧ B.slots = A.slots + ms
def vx_Back (l : Launch) (R : Room) (p : Program) (e : Env) (below : List Frame) (s : State) (sargs : Array Value) (y : MethodName) (len W9 : Nat)
    (Pre : Pt → Array Value → Prop) (Post : Pt → Array Value → Option Value → Pt → Prop) (PostX : Pt → Array Value → Addr → Pt → Prop) : Prop :=
  ∀ (m : MethodId) (meth : Method) (c : Code) (A : Pt) (g : JFrame) (ig : Instr) (mk : MethodId) (a : Array Value),
    Stand p l e R s m sargs below meth c A.U A.locs A.cells A.slots → g.method = m → g.locals.size = c.maxLocals → decode c.code g.pc = .ok (ig, len) →
    2 * g.monitorRoom + (g.stack.map fun v => v.category).sum ≤ W9 → A.U.methodNamed? y = some mk → Pre A a →
    (∃ (v : Option Value) (B : Pt), Stand p l e R s m sargs below meth c B.U B.locs B.cells B.slots ∧ Post A a v B ∧
      Steps p.tables e below (doInvoke e (A.U.setTop g) [] mk a).1 (B.U.setTop { g with pc := g.pc + len, stack := v.toList ++ g.stack })) ∨
    (∃ (q : Addr) (B : Pt), Stand p l e R s m sargs below meth c B.U B.locs B.cells B.slots ∧ PostX A a q B ∧
      Steps p.tables e below (doInvoke e (A.U.setTop g) [] mk a).1 ((B.U.setTop g).pushFrame (.throwing q)))
section Payer
variable {l : Launch} {R : Room} {p : Program} {e : Env} {below : List Frame} {s : State} {sargs : Array Value} {y : MethodName} {len W9 : Nat}
theorem vx_back {ws : List Cond} {rm : Room} {Pc : Array Value → State → Prop} {Qc : Array Value → State → Outcome → State → Prop} {XC : String → State → State → Prop} {mc ms : Nat} {free : Addr → Prop} {bytes : ByteArray} {maxL : Nat} {ret : Option FieldType}
    (hM : vx_Met l y ws rm Pc Qc XC mc ms free) (hblind : FrameBlind Pc) (hrc : rm.cells = mc) (hrs : rm.slots = ms)
    (hframes : rm.frames + 1 ≤ R.frames) (hlocals : W9 + (maxL + 11) + rm.locals ≤ R.locals)
    (hws : ∀ w ∈ ws, ∀ a' U, s.WarmedH U.vm → w.before a' U = true) (hcode : Cond.code y bytes maxL ret ∈ ws) (hinit : ∀ a' U, s.WarmedH U.vm → (Cond.initialized y.cls).before a' U = true) :
    vx_Back l R p e below s sargs y len W9 (PreOf R mc ms Pc) (PostOf Qc mc ms free) (vx_Post XC mc ms free) := by
  intro m meth c A g ig mk a X hg hsize hdg hW hn hp
  have h1 : (headSpec ws rm).pre.before a A.U = true := atoms_intro fun w hw => hws w hw _ _ X.warmed
  have h2 : (Cond.code y bytes maxL ret).before a A.U = true := hws _ hcode _ _ X.warmed
  have h3 : (Cond.initialized y.cls).before a A.U = true := hinit _ _ X.warmed
  have h4 : A.cells + (headSpec ws rm).room.cells ≤ R.cells := by rw [show (headSpec ws rm).room.cells = mc from hrc]; exact hp.1
  have h5 : A.slots + (headSpec ws rm).room.slots ≤ R.slots := by rw [show (headSpec ws rm).room.slots = ms from hrs]; exact hp.2.1
  have hPc : Pc a (A.U.calling g mk a) := hblind _ _ _ _ hp.2.2
  obtain ⟨U, Ls, c0, s0⟩ := A
  dsimp only [Pt.U, Pt.locs, Pt.cells, Pt.slots] at h1 h2 h3 h4 h5 X hn hPc ⊢
  obtain ⟨methY, cY, hmY, hcY, -, hlY, -, -, -, -⟩ := Cond.code_spec hn h2
  obtain ⟨kY, hkY, -⟩ := className_of_methodNamed hn
  have hinitY : kY.init = .initialized := Cond.initialized_spec (findClass_of_methodNamed hn) hkY h3
  have h : At U g.method c below := by rw [hg]; exact X.here
  have hlocals9 : W9 + (maxL + 11) + (headSpec ws rm).room.locals ≤ R.locals := hlocals
  have happ : (headSpec ws rm).appliesLoose y e.platform (U.calling g mk a) = true :=
    Spec.appliesLoose_calling (g := g) h hdg hn hkY hinitY
      (X.room_calling (g := g) (R' := (headSpec ws rm).room) hsize hmY hcY hframes (by rw [hlY]; omega) h4 h5) h1
  obtain ⟨mid, hmid⟩ := h.above
  have hfr : (U.setTop g).frames = (.java g :: mid) ++ below := by rw [State.frames_setTop' g h.top, hmid]; rfl
  obtain ⟨o, s₂, hsteps, -, hend, hq⟩ := Steps.callFree hM p X.admits X.cas X.clock (acts := []) hfr happ hPc trivial
  have hq' : vx_Q Qc XC mc ms free a (U.calling g mk a) o s₂ := hq
  rw [State.frames_setTop' g h.top] at hend
  obtain ⟨g₀, hg0⟩ := Option.isSome_iff_exists.mp h.top
  obtain ⟨r, hr⟩ := State.topJava?_eq_some.mp hg0
  have hr' : (({ U with heap := s₂.heap, slotsUsed := s₂.slotsUsed } : State).setVm s₂.vm).frames = .java g₀ :: r := hr
  rcases hq' with ⟨hqc, L, hfe, hL⟩ | ⟨q, rfl, E, ce, L, hx, hce, hcv, hcl, hW₂, hsm, hL⟩
  · obtain ⟨⟨v, rfl⟩, hW₂, e2, q2, q3, q4, q5, q6⟩ := id hfe
    have e3 : s₂ = ({ (U.calling g mk a).setFrames s₂.frames with heap := s₂.heap, slotsUsed := s₂.slotsUsed } : State).setVm s₂.vm := by
      have : s₂ = ({ s₂ with vm := (U.calling g mk a).vm } : State).setVm s₂.vm := rfl
      rw [e2] at this
      exact this
    obtain ⟨c₂, i₂, len₂, hc₂, hd₂, hf₂⟩ := hend
    have hW' : U.WarmedH s₂.vm := hW₂
    have hcc : c₂ = c := by
      have h1 : s₂.code? g.method = U.code? g.method := by
        rw [State.code?_eq, State.code?_eq, hW'.alike.method?]
      exact Option.some.inj (hc₂.symm.trans (h1.trans h.code))
    subst hcc
    have hlen : len₂ = len := by rw [hdg] at hd₂; cases hd₂; rfl
    subst hlen
    have hs₂ : s₂ = (({ U with heap := s₂.heap, slotsUsed := s₂.slotsUsed } : State).setVm s₂.vm).setTop { g with pc := g.pc + len₂, stack := v.toList ++ g.stack } := by
      refine e3.trans ?_
      rw [hf₂, State.calling_eq h.top, State.setFrames_setFrames, State.setTop_of_frames _ hr', hr]
      rfl
    have hsame : U.sameButNew ({ U with heap := s₂.heap, slotsUsed := s₂.slotsUsed } : State) L mc ms := by
      refine ⟨?_, q2, q3, q4, q5, q6⟩
      obtain ⟨t, ht, -⟩ := State.frames_cons hr
      show ({ U with heap := s₂.heap, slotsUsed := s₂.slotsUsed } : State) = { U.setFrames U.frames with heap := s₂.heap, slotsUsed := s₂.slotsUsed }
      rw [State.setFrames_self ht]
    subst hg
    refine Or.inl ⟨v, ⟨(({ U with heap := s₂.heap, slotsUsed := s₂.slotsUsed } : State).setVm s₂.vm), Ls ++ L, c0 + mc, s0 + ms⟩,
      ⟨X.admits, X.cas, X.clock, X.frames, X.room, X.hears, X.method, X.code, (X.here.setHeapUsed s₂.heap s₂.slotsUsed).setVm hW'.alike, X.tail, State.WarmedH.trans X.warmed hW', X.limits, X.bytes, X.same.trans (hsame.setVm s.vm)⟩,
      ⟨g, mk, s₂, L, rfl, rfl, hqc, rfl, hL, rfl, rfl⟩, ?_⟩
    show Steps p.tables e below _ ((({ U with heap := s₂.heap, slotsUsed := s₂.slotsUsed } : State).setVm s₂.vm).setTop { g with pc := g.pc + len₂, stack := v.toList ++ g.stack })
    rw [← hs₂]
    exact hsteps
  · obtain ⟨e2, q2, q3, q4, q5, q6⟩ := id hsm
    have e3 : s₂ = ({ (U.calling g mk a).setFrames s₂.frames with heap := s₂.heap, slotsUsed := s₂.slotsUsed } : State).setVm s₂.vm := by
      have : s₂ = ({ s₂ with vm := (U.calling g mk a).vm } : State).setVm s₂.vm := rfl
      rw [e2] at this
      exact this
    have hf₂ : s₂.frames = .throwing q :: .java g :: U.frames.tail := hend
    have hW' : U.WarmedH s₂.vm := hW₂
    have hs₂ : s₂ = ((({ U with heap := s₂.heap, slotsUsed := s₂.slotsUsed } : State).setVm s₂.vm).setTop g).pushFrame (.throwing q) := by
      refine e3.trans ?_
      rw [hf₂, State.calling_eq h.top, State.setFrames_setFrames, State.pushFrame, State.frames_setTop _ hr', State.setTop_of_frames _ hr', State.setFrames_setFrames, hr]
      rfl
    have hsame : U.sameButNew ({ U with heap := s₂.heap, slotsUsed := s₂.slotsUsed } : State) L mc ms := by
      refine ⟨?_, q2, q3, q4, q5, q6⟩
      obtain ⟨t, ht, -⟩ := State.frames_cons hr
      show ({ U with heap := s₂.heap, slotsUsed := s₂.slotsUsed } : State) = { U.setFrames U.frames with heap := s₂.heap, slotsUsed := s₂.slotsUsed }
      rw [State.setFrames_self ht]
    subst hg
    refine Or.inr ⟨q, ⟨(({ U with heap := s₂.heap, slotsUsed := s₂.slotsUsed } : State).setVm s₂.vm), Ls ++ L, c0 + mc, s0 + ms⟩,
      ⟨X.admits, X.cas, X.clock, X.frames, X.room, X.hears, X.method, X.code, (X.here.setHeapUsed s₂.heap s₂.slotsUsed).setVm hW'.alike, X.tail, State.WarmedH.trans X.warmed hW', X.limits, X.bytes, X.same.trans (hsame.setVm s.vm)⟩,
      ⟨g, mk, s₂, L, E, ce, rfl, rfl, hx, hce, hcv, hcl, rfl, hL, rfl, rfl⟩, ?_⟩
    show Steps p.tables e below _ (((({ U with heap := s₂.heap, slotsUsed := s₂.slotsUsed } : State).setVm s₂.vm).setTop g).pushFrame (.throwing q))
    rw [← hs₂]
    exact hsteps
end Payer
section Calls
variable {p : Program} {l : Launch} {e : Env} {R : Room} {s : State} {m : MethodId} {args : Array Value} {below : List Frame} {meth : Method} {c : Code} {T : State} {locs : List Loc} {cells slots : Nat}
theorem vx_callV (X : Stand p l e R s m args below meth c T locs cells slots) (hexec : p.tables.exec = Jvm.exec) {own C : String} {index : Nat} {y : MethodName} {bytes : ByteArray} {maxL : Nat} {ret : Option FieldType}
    (hown : s.vm.findClass own = some m.cls) (hlink : (Cond.methodLink own index y).before args s = true) (hinst : (Cond.instanceMethod y).before args s = true) (hsel : (Cond.selects C y y).before args s = true)
    (hcode : (Cond.code y bytes maxL ret).before args s = true) (hy : y.cls ≠ "java/lang/invoke/MethodHandle" ∧ y.cls ≠ "java/lang/invoke/VarHandle")
    {W9 : Nat} {Pre : Pt → Array Value → Prop} {Post : Pt → Array Value → Option Value → Pt → Prop} {PostX : Pt → Array Value → Addr → Pt → Prop} (hK : vx_Back l R p e below s args y 3 W9 Pre Post PostX)
    {b : Addr} {cellB : Cell} (hcell : T.heap[b]? = some cellB) (hobj : cellB.vm.isStatics = false) (hcls : s.vm.findClass C = some cellB.cls)
    {g : JFrame} (hg : g.method = m) (hsize : g.locals.size = c.maxLocals) {argsL rest : List Value} (hlen : ∀ sig, parseMethodDescriptor y.desc = some sig → argsL.length = sig.parameters.length)
    (hstack : g.stack = argsL.reverse ++ .ref b :: rest) (hW : 2 * g.monitorRoom + (rest.map fun v => v.category).sum ≤ W9) (hdg : decode c.code g.pc = .ok (.invokevirtual index, 3))
    (hpre : ∀ vm₁, s.WarmedH vm₁ → Pre ⟨T.setVm vm₁, locs, cells, slots⟩ (Value.ref b :: argsL).toArray) :
    (∃ (v : Option Value) (vm₁ : Vm) (B : Pt), s.WarmedH vm₁ ∧ Stand p l e R s m args below meth c B.U B.locs B.cells B.slots ∧ Post ⟨T.setVm vm₁, locs, cells, slots⟩ (Value.ref b :: argsL).toArray v B ∧
      ∀ target, Steps p.tables e below (B.U.setTop { g with pc := g.pc + 3, stack := v.toList ++ rest }) target → Steps p.tables e below (T.setTop g) target) ∨
    (∃ (q : Addr) (vm₁ : Vm) (B : Pt), s.WarmedH vm₁ ∧ Stand p l e R s m args below meth c B.U B.locs B.cells B.slots ∧ PostX ⟨T.setVm vm₁, locs, cells, slots⟩ (Value.ref b :: argsL).toArray q B ∧
      Steps p.tables e below (T.setTop g) ((B.U.setTop { g with stack := rest }).pushFrame (.throwing q))) := by
  obtain ⟨mk, methM, hnamed, hmethM, hstM, habM⟩ := Cond.instanceMethod_spec hinst
  obtain ⟨methM', cM, hmethM', -, -, -, -, -, -, hsigM⟩ := Cond.code_spec hnamed hcode
  cases hmethM.symm.trans hmethM'
  obtain ⟨c2, r2, m2, q1, q2, q3, q4, kP, hkP, hkPi⟩ := Cond.selects_spec hsel
  cases hcls.symm.trans q1
  cases (State.methodFound?_of_named hnamed hy).symm.trans q2
  cases hnamed.symm.trans q3
  have hselP : selectMethod e.platform s.vm cellB.cls mk = .method mk := by rw [Launch.admits_selectMethod X.admits]; exact q4
  obtain ⟨vm₁, X₁, hstep₁⟩ := X.invokevirtual hexec hown hlink hnamed hmethM hstM hkP hkPi hy (a := b) (cell := cellB) hcell
    (fun z h => by rw [h] at hobj; cases hobj) hselP hmethM habM hkP hkPi (g := g) hg (argsL := argsL) (rest := rest) (hlen _ hsigM) hstack hdg
  rcases hK m meth c ⟨T.setVm vm₁, locs, cells, slots⟩ { g with stack := rest } (.invokevirtual index) mk (Value.ref b :: argsL).toArray X₁ hg hsize hdg hW (X₁.named hnamed) (hpre vm₁ X₁.warmed) with ⟨v, B, X', hpost, hsteps⟩ | ⟨q, B, X', hpost, hsteps⟩
  · exact Or.inl ⟨v, vm₁, B, X₁.warmed, X', hpost, fun target h => hstep₁ _ fun acts => by rw [doInvoke_state]; exact hsteps.trans h⟩
  · exact Or.inr ⟨q, vm₁, B, X₁.warmed, X', hpost, hstep₁ _ fun acts => by rw [doInvoke_state]; exact hsteps⟩
theorem vx_callS (X : Stand p l e R s m args below meth c T locs cells slots) (hexec : p.tables.exec = Jvm.exec) {own : String} {index : Nat} {y : MethodName} {bytes : ByteArray} {maxL : Nat} {ret : Option FieldType}
    (hown : s.vm.findClass own = some m.cls) (hlink : (Cond.methodLink own index y).before args s = true) (hstat : (Cond.static y).before args s = true) (hinit : (Cond.initialized y.cls).before args s = true)
    (hcode : (Cond.code y bytes maxL ret).before args s = true) (hy : y.cls ≠ "java/lang/invoke/MethodHandle" ∧ y.cls ≠ "java/lang/invoke/VarHandle")
    {W9 : Nat} {Pre : Pt → Array Value → Prop} {Post : Pt → Array Value → Option Value → Pt → Prop} {PostX : Pt → Array Value → Addr → Pt → Prop} (hK : vx_Back l R p e below s args y 3 W9 Pre Post PostX)
    {g : JFrame} (hg : g.method = m) (hsize : g.locals.size = c.maxLocals) {argsL rest : List Value} (hlen : ∀ sig, parseMethodDescriptor y.desc = some sig → argsL.length = sig.parameters.length)
    (hstack : g.stack = argsL.reverse ++ rest) (hW : 2 * g.monitorRoom + (rest.map fun v => v.category).sum ≤ W9) (hdg : decode c.code g.pc = .ok (.invokestatic index, 3))
    (hpre : ∀ vm₁, s.WarmedH vm₁ → Pre ⟨T.setVm vm₁, locs, cells, slots⟩ argsL.toArray) :
    (∃ (v : Option Value) (vm₁ : Vm) (B : Pt), s.WarmedH vm₁ ∧ Stand p l e R s m args below meth c B.U B.locs B.cells B.slots ∧ Post ⟨T.setVm vm₁, locs, cells, slots⟩ argsL.toArray v B ∧
      ∀ target, Steps p.tables e below (B.U.setTop { g with pc := g.pc + 3, stack := v.toList ++ rest }) target → Steps p.tables e below (T.setTop g) target) ∨
    (∃ (q : Addr) (vm₁ : Vm) (B : Pt), s.WarmedH vm₁ ∧ Stand p l e R s m args below meth c B.U B.locs B.cells B.slots ∧ PostX ⟨T.setVm vm₁, locs, cells, slots⟩ argsL.toArray q B ∧
      Steps p.tables e below (T.setTop g) ((B.U.setTop { g with stack := rest }).pushFrame (.throwing q))) := by
  obtain ⟨mk, hnamed⟩ := Cond.code_named hcode
  obtain ⟨methM, cM, hmethM, -, -, -, -, -, -, hsigM⟩ := Cond.code_spec hnamed hcode
  have hstatic : methM.isStatic = true := Cond.static_spec hnamed hmethM hstat
  obtain ⟨kP, hkP, -⟩ := className_of_methodNamed hnamed
  have hinitP : kP.init = .initialized := Cond.initialized_spec (findClass_of_methodNamed hnamed) hkP hinit
  obtain ⟨vm₁, X₁, hstep₁⟩ := X.invokestatic hexec hown hlink hnamed hmethM hstatic hkP hinitP hy (g := g) hg (argsL := argsL) (rest := rest) (hlen _ hsigM) hstack hdg
  rcases hK m meth c ⟨T.setVm vm₁, locs, cells, slots⟩ { g with stack := rest } (.invokestatic index) mk argsL.toArray X₁ hg hsize hdg hW (X₁.named hnamed) (hpre vm₁ X₁.warmed) with ⟨v, B, X', hpost, hsteps⟩ | ⟨q, B, X', hpost, hsteps⟩
  · exact Or.inl ⟨v, vm₁, B, X₁.warmed, X', hpost, fun target h => hstep₁ _ fun acts => by rw [doInvoke_state]; exact hsteps.trans h⟩
  · exact Or.inr ⟨q, vm₁, B, X₁.warmed, X', hpost, hstep₁ _ fun acts => by rw [doInvoke_state]; exact hsteps⟩
end Calls
theorem vx_cls {s : State} {T : State} {vm₁ : Vm} {E : String} {k : ClassId} (hW : s.WarmedH vm₁) (h : (T.setVm vm₁).vm.findClass E = some k) : s.vm.findClass E = some k := by
  have h1 : vm₁.findClass E = some k := h
  rw [hW.alike.findClass] at h1
  exact h1
/-- the method's frame g, with q thrown over it -/
def vx_W (p : Program) (l : Launch) (e : Env) (R : Room) (s : State) (m : MethodId) (args : Array Value) (below : List Frame) (meth : Method) (c : Code) (H : Heap) (locs : List Loc) (cells slots : Nat) (Q : State → Prop) (g : JFrame) (q : Addr) : Prop :=
  ∀ T : State, T.heap = H → Stand p l e R s m args below meth c T locs cells slots → ∃ t, Steps p.tables e below ((T.setTop g).pushFrame (.throwing q)) t ∧ Q t
def vx_Run (p : Program) (l : Launch) (e : Env) (R : Room) (s : State) (m : MethodId) (args : Array Value) (below : List Frame) (meth : Method) (c : Code) (H : Heap) (locs : List Loc) (cells slots mc ms : Nat) (g : JFrame) (rest : List Value) (Qa : State → Outcome → State → Prop) (XC : String → State → State → Prop) (free : Addr → Prop) : Prop :=
  ∀ T : State, T.heap = H → Stand p l e R s m args below meth c T locs cells slots →
    (∃ (v : Option Value) (st₀ t T' : State) (L : List Loc), st₀.heap = H ∧ Stand p l e R s m args below meth c T' (locs ++ L) (cells + mc) (slots + ms) ∧ (∀ q ∈ L, free q.base) ∧ T'.heap = t.heap ∧ T'.vm = t.vm ∧ Qa st₀ (.returned v) t ∧
      Goes p e below T g T' { g with pc := g.pc + 3, stack := v.toList ++ rest }) ∨
    (∃ (q : Addr) (st₀ t T' : State) (L : List Loc) (E : String) (ce : Cell), st₀.heap = H ∧ Stand p l e R s m args below meth c T' (locs ++ L) (cells + mc) (slots + ms) ∧ (∀ z ∈ L, free z.base) ∧ T'.heap = t.heap ∧ T'.vm = t.vm ∧ XC E st₀ t ∧ t.heap[q]? = some ce ∧ ce.vm = .none ∧ s.vm.findClass E = some ce.cls ∧
      Steps p.tables e below (T.setTop g) ((T'.setTop { g with stack := rest }).pushFrame (.throwing q)))
def vx_X {S : Type} (px : S → Prop) (B : String → S → State → Prop) (A : Nat → Prop) : String → State → State → Prop := fun E st t => ∃ u : S, px u ∧ B E u t ∧ va_F A st t
section Runs
variable {p : Program} {l : Launch} {e : Env} {R : Room} {s : State} {m : MethodId} {args : Array Value} {below : List Frame} {meth : Method} {c : Code} {H : Heap} {locs : List Loc} {cells slots : Nat}
variable {y : MethodName} {bytes cc : ByteArray} {maxL nL mc ms n index : Nat} {ret : Option FieldType} {ws : List Cond} {rm : Room} {Pc : Array Value → State → Prop} {Qc : Array Value → State → Outcome → State → Prop} {XC : String → State → State → Prop} {free : Addr → Prop} {Ts : List Cond} {own C : String} {b : Addr} {As rest : List Value} {g : JFrame}
theorem vx_callBack (cb : CallB R s args own index y bytes maxL ret ws rm mc ms n) (hM : vx_Met l y ws rm Pc Qc XC mc ms free) (hbl : FrameBlind Pc) : vx_Back l R p e below s args y 3 8 (PreOf R mc ms Pc) (PostOf Qc mc ms free) (vx_Post XC mc ms free) := by
  obtain ⟨hrc, hrs, hfr, hlo, hws, hcw, -, hini, -⟩ := cb
  exact vx_back (bytes := bytes) (maxL := maxL) (ret := ret) hM hbl hrc hrs hfr hlo hws hcw (fun a' U hW => word_at hW (Or.inl (by first | rfl | simp [Cond.onTables, Cond.keeps, Cond.steady])) hini)
theorem vx_runV (S : CallFix p m c cc nL s args Ts own) (hM : vx_Met l y ws rm Pc Qc XC mc ms free) (cw : CallW R s args own C index y bytes maxL ret ws rm mc ms n) (hp : PreV s H C b Pc As)
    (hg : g.method = m) (hn : As.length = n) (hsize : g.locals.size = nL) (hstack : g.stack = As.reverse ++ .ref b :: rest) (hW : 2 * g.monitorRoom + (rest.map fun v => v.category).sum ≤ 8) (hdg : decode cc g.pc = .ok (.invokevirtual index, 3)) (hf : cells + mc ≤ R.cells ∧ slots + ms ≤ R.slots) :
    vx_Run p l e R s m args below meth c H locs cells slots mc ms g rest (Qc (Value.ref b :: As).toArray) XC free := by
  have hK : vx_Back l R p e below s args y 3 8 (PreOf R mc ms Pc) (PostOf Qc mc ms free) (vx_Post XC mc ms free) := vx_callBack cw.1 hM hp.1
  obtain ⟨⟨-, -, -, -, -, -, hcode, -, hy, hlen, hl⟩, hin, hse⟩ := cw
  obtain ⟨hx, hb, hml, ho, -⟩ := S
  obtain ⟨-, ⟨cellB, hcB, hoB, hclB⟩, hPc⟩ := hp
  intro T hT X
  rcases vx_callV X hx (C := C) (bytes := bytes) (maxL := maxL) (ret := ret) ho hl hin hse hcode hy hK (by rw [hT]; exact hcB) hoB hclB hg (hsize.trans hml.symm) (argsL := As) (rest := rest) (fun sig h => hn.trans (hlen sig h)) hstack hW (by rw [hb]; exact hdg)
    (fun vm₁ hW₁ => ⟨hf.1, hf.2, hPc (T.setVm vm₁) hT hW₁⟩) with ⟨v, vm₁, ⟨U', l2, c2, s2⟩, hW₁, X', ⟨g', mk, t, L, e1, e2, hq, h1, hL, h2, h3⟩, st⟩ | ⟨q, vm₁, ⟨U', l2, c2, s2⟩, hW₁, X', ⟨g', mk, t, L, E, ce, e1, e2, hq, hce, hcv, hcl, h1, hL, h2, h3⟩, st⟩
  · dsimp only [Pt.U, Pt.locs, Pt.cells, Pt.slots] at X' e1 e2 h1 h2 h3 st
    subst h1; subst h2; subst h3
    exact Or.inl ⟨v, (T.setVm vm₁).calling g' mk (Value.ref b :: As).toArray, t, U', L, hT, X', hL, e1, e2, hq, st⟩
  · dsimp only [Pt.U, Pt.locs, Pt.cells, Pt.slots] at X' e1 e2 h1 h2 h3 st hcl
    subst h1; subst h2; subst h3
    exact Or.inr ⟨q, (T.setVm vm₁).calling g' mk (Value.ref b :: As).toArray, t, U', L, E, ce, hT, X', hL, e1, e2, hq, hce, hcv, vx_cls hW₁ hcl, st⟩
theorem vx_runS (S : CallFix p m c cc nL s args Ts own) (hM : vx_Met l y ws rm Pc Qc XC mc ms free) (cw : CallB R s args own index y bytes maxL ret ws rm mc ms n ∧ (Cond.static y).before args s = true) (hp : PreS s H Pc As)
    (hg : g.method = m) (hn : As.length = n) (hsize : g.locals.size = nL) (hstack : g.stack = As.reverse ++ rest) (hW : 2 * g.monitorRoom + (rest.map fun v => v.category).sum ≤ 8) (hdg : decode cc g.pc = .ok (.invokestatic index, 3)) (hf : cells + mc ≤ R.cells ∧ slots + ms ≤ R.slots) :
    vx_Run p l e R s m args below meth c H locs cells slots mc ms g rest (Qc As.toArray) XC free := by
  have hK : vx_Back l R p e below s args y 3 8 (PreOf R mc ms Pc) (PostOf Qc mc ms free) (vx_Post XC mc ms free) := vx_callBack cw.1 hM hp.1
  obtain ⟨⟨-, -, -, -, -, -, hcode, hini, hy, hlen, hl⟩, hstt⟩ := cw
  obtain ⟨hx, hb, hml, ho, -⟩ := S
  intro T hT X
  rcases vx_callS X hx (bytes := bytes) (maxL := maxL) (ret := ret) ho hl hstt hini hcode hy hK hg (hsize.trans hml.symm) (argsL := As) (rest := rest) (fun sig h => hn.trans (hlen sig h)) hstack hW (by rw [hb]; exact hdg)
    (fun vm₁ hW₁ => ⟨hf.1, hf.2, hp.2 (T.setVm vm₁) hT hW₁⟩) with ⟨v, vm₁, ⟨U', l2, c2, s2⟩, hW₁, X', ⟨g', mk, t, L, e1, e2, hq, h1, hL, h2, h3⟩, st⟩ | ⟨q, vm₁, ⟨U', l2, c2, s2⟩, hW₁, X', ⟨g', mk, t, L, E, ce, e1, e2, hq, hce, hcv, hcl, h1, hL, h2, h3⟩, st⟩
  · dsimp only [Pt.U, Pt.locs, Pt.cells, Pt.slots] at X' e1 e2 h1 h2 h3 st
    subst h1; subst h2; subst h3
    exact Or.inl ⟨v, (T.setVm vm₁).calling g' mk As.toArray, t, U', L, hT, X', hL, e1, e2, hq, st⟩
  · dsimp only [Pt.U, Pt.locs, Pt.cells, Pt.slots] at X' e1 e2 h1 h2 h3 st hcl
    subst h1; subst h2; subst h3
    exact Or.inr ⟨q, (T.setVm vm₁).calling g' mk As.toArray, t, U', L, E, ce, hT, X', hL, e1, e2, hq, hce, hcv, vx_cls hW₁ hcl, st⟩
end Runs
section Rows
variable {p : Program} {l : Launch} {e : Env} {R : Room} {s : State} {m : MethodId} {args : Array Value} {below : List Frame} {meth : Method} {c : Code} {H : Heap} {locs : List Loc} {cells slots : Nat} {Q : State → Prop}
variable {mc ms : Nat} {free : Addr → Prop} {A0 A1 : Nat → Prop} {H0 : Heap} {a : Array Value} {pc : Nat} {ls : Array Slot} {st0 rest : List Value}
theorem vx_keep {st₀ t T' : State} {L : List Loc} (h0 : st₀.heap = H) (e1 : T'.heap = t.heap) (hS : va_S A0 H0 H locs) (hA : ∀ q, q < H.size → A1 q → A0 q) (hf : ∀ q, free q → A0 q) (hL : ∀ q ∈ L, free q.base) (hF : va_F A1 st₀ t) :
    H.size ≤ T'.heap.size ∧ (∀ q : Nat, q < H.size → ¬ A1 q → T'.heap[q]? = H[q]?) ∧ va_S A0 H0 T'.heap (locs ++ L) := by
  obtain ⟨hz, hk⟩ := hF
  rw [h0] at hz hk
  exact ⟨by rw [e1]; exact hz, fun q h1 h2 => by rw [e1]; exact hk q h1 h2,
    ⟨Nat.le_trans hS.1 (by rw [e1]; exact hz), fun q h1 h2 => by rw [e1, hk q (Nat.lt_of_lt_of_le h1 hS.1) (fun z => h2 (hA q (Nat.lt_of_lt_of_le h1 hS.1) z))]; exact hS.2.1 q h1 h2, fun q hq => by
      rcases List.mem_append.mp hq with h | h
      · exact hS.2.2 q h
      · exact hf _ (hL q h)⟩⟩
theorem vx_calli {S SX : Type} {post : Int32 → S → Prop} {px : SX → Prop} {B : S → State → Prop} {BX : String → SX → State → Prop} {AX : Nat → Prop} (hr : vx_Run p l e R s m args below meth c H locs cells slots mc ms (F0 m pc ls st0) rest (va_Qi post B A1 a) (vx_X px BX AX) free) (hS : va_S A0 H0 H locs) (hA : ∀ q, q < H.size → A1 q → A0 q) (hf : ∀ q, free q → A0 q) (hAX : ∀ q, q < H.size → AX q → A0 q)
    (kx : ∀ (E : String) (ce : Cell) (q9 : Addr) (u : SX) (t : State) (H1 : Heap) (locs1 : List Loc), t.heap = H1 → s.vm.Alike t.vm → px u → BX E u t → H.size ≤ H1.size → (∀ q : Nat, q < H.size → ¬ AX q → H1[q]? = H[q]?) → va_S A0 H0 H1 locs1 → H1[q9]? = some ce → ce.vm = .none → s.vm.findClass E = some ce.cls → vx_W p l e R s m args below meth c H1 locs1 (cells + mc) (slots + ms) Q (F0 m pc ls rest) q9)
    (kk : ∀ (r : Int32) (u : S) (t : State) (H1 : Heap) (locs1 : List Loc), t.heap = H1 → s.vm.Alike t.vm → post r u → B u t → H.size ≤ H1.size → (∀ q : Nat, q < H.size → ¬ A1 q → H1[q]? = H[q]?) → va_S A0 H0 H1 locs1 → W p l e R s m args below meth c H1 locs1 (cells + mc) (slots + ms) Q (F0 m (pc + 3) ls (.int r :: rest))) : W p l e R s m args below meth c H locs cells slots Q (F0 m pc ls st0) := by
  intro T hT X
  rcases hr T hT X with ⟨v, st₀, t, T', L, h0, X', hL, e1, e2, ⟨⟨r, u, hv, hp, hb⟩, hF⟩, st⟩ | ⟨q, st₀, t, T', L, E, ce, h0, X', hL, e1, e2, ⟨u, hp, hb, hF⟩, hce, hcv, hcl, st⟩
  · cases hv
    obtain ⟨k1, k2, k3⟩ := vx_keep h0 e1 hS hA hf hL hF
    obtain ⟨t2, a1, b1⟩ := kk r u t T'.heap (locs ++ L) e1.symm (by rw [← e2]; exact X'.warmed.alike) hp hb k1 k2 k3 T' rfl X'
    exact ⟨t2, st t2 a1, b1⟩
  · obtain ⟨k1, k2, k3⟩ := vx_keep h0 e1 hS hAX hf hL hF
    obtain ⟨t2, a1, b1⟩ := kx E ce q u t T'.heap (locs ++ L) e1.symm (by rw [← e2]; exact X'.warmed.alike) hp hb k1 k2 k3 (by rw [e1]; exact hce) hcv hcl T' rfl X'
    exact ⟨t2, st.trans a1, b1⟩
theorem vx_calll {S SX : Type} {post : Int64 → S → Prop} {px : SX → Prop} {B : S → State → Prop} {BX : String → SX → State → Prop} {AX : Nat → Prop} (hr : vx_Run p l e R s m args below meth c H locs cells slots mc ms (F0 m pc ls st0) rest (va_Ql post B A1 a) (vx_X px BX AX) free) (hS : va_S A0 H0 H locs) (hA : ∀ q, q < H.size → A1 q → A0 q) (hf : ∀ q, free q → A0 q) (hAX : ∀ q, q < H.size → AX q → A0 q)
    (kx : ∀ (E : String) (ce : Cell) (q9 : Addr) (u : SX) (t : State) (H1 : Heap) (locs1 : List Loc), t.heap = H1 → s.vm.Alike t.vm → px u → BX E u t → H.size ≤ H1.size → (∀ q : Nat, q < H.size → ¬ AX q → H1[q]? = H[q]?) → va_S A0 H0 H1 locs1 → H1[q9]? = some ce → ce.vm = .none → s.vm.findClass E = some ce.cls → vx_W p l e R s m args below meth c H1 locs1 (cells + mc) (slots + ms) Q (F0 m pc ls rest) q9)
    (kk : ∀ (r : Int64) (u : S) (t : State) (H1 : Heap) (locs1 : List Loc), t.heap = H1 → s.vm.Alike t.vm → post r u → B u t → H.size ≤ H1.size → (∀ q : Nat, q < H.size → ¬ A1 q → H1[q]? = H[q]?) → va_S A0 H0 H1 locs1 → W p l e R s m args below meth c H1 locs1 (cells + mc) (slots + ms) Q (F0 m (pc + 3) ls (.long r :: rest))) : W p l e R s m args below meth c H locs cells slots Q (F0 m pc ls st0) := by
  intro T hT X
  rcases hr T hT X with ⟨v, st₀, t, T', L, h0, X', hL, e1, e2, ⟨⟨r, u, hv, hp, hb⟩, hF⟩, st⟩ | ⟨q, st₀, t, T', L, E, ce, h0, X', hL, e1, e2, ⟨u, hp, hb, hF⟩, hce, hcv, hcl, st⟩
  · cases hv
    obtain ⟨k1, k2, k3⟩ := vx_keep h0 e1 hS hA hf hL hF
    obtain ⟨t2, a1, b1⟩ := kk r u t T'.heap (locs ++ L) e1.symm (by rw [← e2]; exact X'.warmed.alike) hp hb k1 k2 k3 T' rfl X'
    exact ⟨t2, st t2 a1, b1⟩
  · obtain ⟨k1, k2, k3⟩ := vx_keep h0 e1 hS hAX hf hL hF
    obtain ⟨t2, a1, b1⟩ := kx E ce q u t T'.heap (locs ++ L) e1.symm (by rw [← e2]; exact X'.warmed.alike) hp hb k1 k2 k3 (by rw [e1]; exact hce) hcv hcl T' rfl X'
    exact ⟨t2, st.trans a1, b1⟩
theorem vx_callf {S SX : Type} {post : UInt32 → S → Prop} {px : SX → Prop} {B : S → State → Prop} {BX : String → SX → State → Prop} {AX : Nat → Prop} (hr : vx_Run p l e R s m args below meth c H locs cells slots mc ms (F0 m pc ls st0) rest (va_Qf post B A1 a) (vx_X px BX AX) free) (hS : va_S A0 H0 H locs) (hA : ∀ q, q < H.size → A1 q → A0 q) (hf : ∀ q, free q → A0 q) (hAX : ∀ q, q < H.size → AX q → A0 q)
    (kx : ∀ (E : String) (ce : Cell) (q9 : Addr) (u : SX) (t : State) (H1 : Heap) (locs1 : List Loc), t.heap = H1 → s.vm.Alike t.vm → px u → BX E u t → H.size ≤ H1.size → (∀ q : Nat, q < H.size → ¬ AX q → H1[q]? = H[q]?) → va_S A0 H0 H1 locs1 → H1[q9]? = some ce → ce.vm = .none → s.vm.findClass E = some ce.cls → vx_W p l e R s m args below meth c H1 locs1 (cells + mc) (slots + ms) Q (F0 m pc ls rest) q9)
    (kk : ∀ (r : UInt32) (u : S) (t : State) (H1 : Heap) (locs1 : List Loc), t.heap = H1 → s.vm.Alike t.vm → post r u → B u t → H.size ≤ H1.size → (∀ q : Nat, q < H.size → ¬ A1 q → H1[q]? = H[q]?) → va_S A0 H0 H1 locs1 → W p l e R s m args below meth c H1 locs1 (cells + mc) (slots + ms) Q (F0 m (pc + 3) ls (.float r :: rest))) : W p l e R s m args below meth c H locs cells slots Q (F0 m pc ls st0) := by
  intro T hT X
  rcases hr T hT X with ⟨v, st₀, t, T', L, h0, X', hL, e1, e2, ⟨⟨r, u, hv, hp, hb⟩, hF⟩, st⟩ | ⟨q, st₀, t, T', L, E, ce, h0, X', hL, e1, e2, ⟨u, hp, hb, hF⟩, hce, hcv, hcl, st⟩
  · cases hv
    obtain ⟨k1, k2, k3⟩ := vx_keep h0 e1 hS hA hf hL hF
    obtain ⟨t2, a1, b1⟩ := kk r u t T'.heap (locs ++ L) e1.symm (by rw [← e2]; exact X'.warmed.alike) hp hb k1 k2 k3 T' rfl X'
    exact ⟨t2, st t2 a1, b1⟩
  · obtain ⟨k1, k2, k3⟩ := vx_keep h0 e1 hS hAX hf hL hF
    obtain ⟨t2, a1, b1⟩ := kx E ce q u t T'.heap (locs ++ L) e1.symm (by rw [← e2]; exact X'.warmed.alike) hp hb k1 k2 k3 (by rw [e1]; exact hce) hcv hcl T' rfl X'
    exact ⟨t2, st.trans a1, b1⟩
theorem vx_calld {S SX : Type} {post : UInt64 → S → Prop} {px : SX → Prop} {B : S → State → Prop} {BX : String → SX → State → Prop} {AX : Nat → Prop} (hr : vx_Run p l e R s m args below meth c H locs cells slots mc ms (F0 m pc ls st0) rest (va_Qd post B A1 a) (vx_X px BX AX) free) (hS : va_S A0 H0 H locs) (hA : ∀ q, q < H.size → A1 q → A0 q) (hf : ∀ q, free q → A0 q) (hAX : ∀ q, q < H.size → AX q → A0 q)
    (kx : ∀ (E : String) (ce : Cell) (q9 : Addr) (u : SX) (t : State) (H1 : Heap) (locs1 : List Loc), t.heap = H1 → s.vm.Alike t.vm → px u → BX E u t → H.size ≤ H1.size → (∀ q : Nat, q < H.size → ¬ AX q → H1[q]? = H[q]?) → va_S A0 H0 H1 locs1 → H1[q9]? = some ce → ce.vm = .none → s.vm.findClass E = some ce.cls → vx_W p l e R s m args below meth c H1 locs1 (cells + mc) (slots + ms) Q (F0 m pc ls rest) q9)
    (kk : ∀ (r : UInt64) (u : S) (t : State) (H1 : Heap) (locs1 : List Loc), t.heap = H1 → s.vm.Alike t.vm → post r u → B u t → H.size ≤ H1.size → (∀ q : Nat, q < H.size → ¬ A1 q → H1[q]? = H[q]?) → va_S A0 H0 H1 locs1 → W p l e R s m args below meth c H1 locs1 (cells + mc) (slots + ms) Q (F0 m (pc + 3) ls (.double r :: rest))) : W p l e R s m args below meth c H locs cells slots Q (F0 m pc ls st0) := by
  intro T hT X
  rcases hr T hT X with ⟨v, st₀, t, T', L, h0, X', hL, e1, e2, ⟨⟨r, u, hv, hp, hb⟩, hF⟩, st⟩ | ⟨q, st₀, t, T', L, E, ce, h0, X', hL, e1, e2, ⟨u, hp, hb, hF⟩, hce, hcv, hcl, st⟩
  · cases hv
    obtain ⟨k1, k2, k3⟩ := vx_keep h0 e1 hS hA hf hL hF
    obtain ⟨t2, a1, b1⟩ := kk r u t T'.heap (locs ++ L) e1.symm (by rw [← e2]; exact X'.warmed.alike) hp hb k1 k2 k3 T' rfl X'
    exact ⟨t2, st t2 a1, b1⟩
  · obtain ⟨k1, k2, k3⟩ := vx_keep h0 e1 hS hAX hf hL hF
    obtain ⟨t2, a1, b1⟩ := kx E ce q u t T'.heap (locs ++ L) e1.symm (by rw [← e2]; exact X'.warmed.alike) hp hb k1 k2 k3 (by rw [e1]; exact hce) hcv hcl T' rfl X'
    exact ⟨t2, st.trans a1, b1⟩
theorem vx_callv {S SX : Type} {post : S → Prop} {px : SX → Prop} {B : S → State → Prop} {BX : String → SX → State → Prop} {AX : Nat → Prop} (hr : vx_Run p l e R s m args below meth c H locs cells slots mc ms (F0 m pc ls st0) rest (va_Qv post B A1 a) (vx_X px BX AX) free) (hS : va_S A0 H0 H locs) (hA : ∀ q, q < H.size → A1 q → A0 q) (hf : ∀ q, free q → A0 q) (hAX : ∀ q, q < H.size → AX q → A0 q)
    (kx : ∀ (E : String) (ce : Cell) (q9 : Addr) (u : SX) (t : State) (H1 : Heap) (locs1 : List Loc), t.heap = H1 → s.vm.Alike t.vm → px u → BX E u t → H.size ≤ H1.size → (∀ q : Nat, q < H.size → ¬ AX q → H1[q]? = H[q]?) → va_S A0 H0 H1 locs1 → H1[q9]? = some ce → ce.vm = .none → s.vm.findClass E = some ce.cls → vx_W p l e R s m args below meth c H1 locs1 (cells + mc) (slots + ms) Q (F0 m pc ls rest) q9)
    (kk : ∀ (u : S) (t : State) (H1 : Heap) (locs1 : List Loc), t.heap = H1 → s.vm.Alike t.vm → post u → B u t → H.size ≤ H1.size → (∀ q : Nat, q < H.size → ¬ A1 q → H1[q]? = H[q]?) → va_S A0 H0 H1 locs1 → W p l e R s m args below meth c H1 locs1 (cells + mc) (slots + ms) Q (F0 m (pc + 3) ls (rest))) : W p l e R s m args below meth c H locs cells slots Q (F0 m pc ls st0) := by
  intro T hT X
  rcases hr T hT X with ⟨v, st₀, t, T', L, h0, X', hL, e1, e2, ⟨⟨u, hv, hp, hb⟩, hF⟩, st⟩ | ⟨q, st₀, t, T', L, E, ce, h0, X', hL, e1, e2, ⟨u, hp, hb, hF⟩, hce, hcv, hcl, st⟩
  · cases hv
    obtain ⟨k1, k2, k3⟩ := vx_keep h0 e1 hS hA hf hL hF
    obtain ⟨t2, a1, b1⟩ := kk u t T'.heap (locs ++ L) e1.symm (by rw [← e2]; exact X'.warmed.alike) hp hb k1 k2 k3 T' rfl X'
    exact ⟨t2, st t2 a1, b1⟩
  · obtain ⟨k1, k2, k3⟩ := vx_keep h0 e1 hS hAX hf hL hF
    obtain ⟨t2, a1, b1⟩ := kx E ce q u t T'.heap (locs ++ L) e1.symm (by rw [← e2]; exact X'.warmed.alike) hp hb k1 k2 k3 (by rw [e1]; exact hce) hcv hcl T' rfl X'
    exact ⟨t2, st.trans a1, b1⟩
/-- caught by the row x of this method's table; the rows ahead don't take it -/
theorem vx_catch {own name : String} {E : String} {ce : Cell} {q : Addr} (hown : s.vm.findClass own = some m.cls) (pre : List ExceptionTableEntry) (x : ExceptionTableEntry) (suf : List ExceptionTableEntry) (hsplit : c.exceptionTable.toList = pre ++ x :: suf)
    (hpass : ∀ z ∈ pre, covers z pc = false ∨ (z.catchType ≠ 0 ∧ ∃ nm : String, (Cond.classLink own z.catchType nm).before args s = true ∧ va_Nc E nm s)) (hx : covers x pc = true) (h0 : x.catchType ≠ 0)
    (hlink : (Cond.classLink own x.catchType name).before args s = true) (hcast : (Cond.castable E name).before args s = true) (hcell : H[q]? = some ce) (hv : ce.vm = .none) (hcl : s.vm.findClass E = some ce.cls)
    (kk : W p l e R s m args below meth c H locs cells slots Q (F0 m x.handlerPc ls [.ref q])) : vx_W p l e R s m args below meth c H locs cells slots Q (F0 m pc ls rest) q := by
  intro T hT X
  have hpl : e.platform.magicAccessors = ({} : Platform).magicAccessors := by rw [X.admits.platform]
  obtain ⟨c3, c4, hc3, hc4, hasg⟩ := Cond.castable_spec hcast
  cases Option.some.inj (hc3.symm.trans hcl)
  obtain ⟨c5, hc5, hcl5⟩ := Cond.classLink_spec hown hlink e.platform hpl
  cases Option.some.inj (hc4.symm.trans hc5)
  obtain ⟨vm', X', st⟩ := X.thenCaughtThrough q (g := F0 m pc ls rest) rfl (Steps.refl _) (by rw [hT]; exact hcell) (by rw [hv]; rfl) (by obtain ⟨k9, h9, -⟩ := Vm.findClass_spec hcl; exact ⟨k9, h9⟩) pre x suf hsplit
    (fun z hz => by
      rcases hpass z hz with h | ⟨hz0, nm, hl1, hn1⟩
      · exact Or.inl h
      · obtain ⟨c6, hc6, hcl6⟩ := Cond.classLink_spec hown hl1 e.platform hpl
        obtain ⟨a8, b8, h1, h2, h3⟩ := hn1
        cases Option.some.inj (h1.symm.trans hcl)
        cases Option.some.inj (h2.symm.trans hc6)
        exact Or.inr ⟨hz0, _, hcl6, h3⟩) hx (Or.inr ⟨h0, c4, hcl5, hasg⟩)
  obtain ⟨t, a1, b1⟩ := kk (T.setVm vm') hT X'
  exact ⟨t, st.trans a1, b1⟩
end Rows
section Ends
variable {p : Program} {l : Launch} {e : Env} {R : Room} {s : State} {m : MethodId} {args : Array Value} {below : List Frame} {meth : Method} {c : Code} {H : Heap} {locs : List Loc} {cells slots : Nat} {Q : State → Prop}
variable {mc ms : Nat} {free : Addr → Prop} {A0 A1 : Nat → Prop} {H0 : Heap} {a : Array Value} {ls : Array Slot} {st0 rest : List Value}
variable {Qc : Array Value → State → Outcome → State → Prop} {XC : String → State → State → Prop}
/-- what a body that may throw owes at its end -/
def vx_MQ (below : List Frame) (Qc : Array Value → State → Outcome → State → Prop) (XC : String → State → State → Prop) (a : Array Value) (s : State) (mc ms : Nat) (free : Addr → Prop) : State → Prop := fun t =>
  ∃ o, t.status = .running ∧ Ended t below o ∧ vx_Q Qc XC mc ms free a s o t
theorem vx_ret {g : JFrame} {mc ms : Nat} (k : W p l e R s m args below meth c H locs cells slots (MQ below Qc args s mc ms free) g) : W p l e R s m args below meth c H locs cells slots (vx_MQ below Qc XC args s mc ms free) g := by
  intro T hT X
  obtain ⟨t, a1, o, b1, b2, b3, b4⟩ := k T hT X
  exact ⟨t, a1, o, b1, b2, Or.inl ⟨b3, b4⟩⟩
/-- not caught here: it goes on to the caller -/
theorem vx_widen {g : JFrame} {q : Addr} {k n : Nat} (h1 : cells ≤ k) (h2 : slots ≤ n) (kk : vx_W p l e R s m args below meth c H locs k n Q g q) : vx_W p l e R s m args below meth c H locs cells slots Q g q := fun T hT X => kk T hT (stand_widen X h1 h2)
theorem vx_out {pc : Nat} {E : String} {ce : Cell} {q : Addr} {mc ms : Nat} (hout : ∀ x ∈ c.exceptionTable.toList, covers x pc = false) (hlocks : meth.locks = false) (hcell : H[q]? = some ce) (hv : ce.vm = .none) (hcl : s.vm.findClass E = some ce.cls)
    (hx : ∀ t : State, t.heap = H → s.vm.Alike t.vm → XC E s t) (hf : ∀ z ∈ locs, free z.base) (hc : cells ≤ mc) (hs : slots ≤ ms) :
    vx_W p l e R s m args below meth c H locs cells slots (vx_MQ below Qc XC args s mc ms free) (F0 m pc ls rest) q := by
  intro T hT X
  obtain ⟨st1, hrun, hend, hW, hsm⟩ := X.leaveThrown q (g := F0 m pc ls rest) rfl rfl rfl hout hlocks
  have hcell9 : (T.setFrames (.throwing q :: below)).heap[q]? = some ce := by
    show T.heap[q]? = some ce
    rw [hT]; exact hcell
  exact ⟨_, st1, .threw q, hrun, hend, Or.inr ⟨q, rfl, E, ce, locs, hx _ hT hW.alike, hcell9, hv, hcl, hW, hsm.mono hc hs, hf⟩⟩
theorem vx_frame {U : State} {k n : Nat} (h : s.sameButNew ({ U with vm := s.vm } : State) locs k n) : s.heap.size ≤ U.heap.size ∧ ∀ q : Nat, q < s.heap.size → (∀ z ∈ locs, z.base ≠ q) → U.heap[q]? = s.heap[q]? := by
  obtain ⟨-, h2, -, -, -, h6⟩ := h
  refine ⟨h2, fun q hq hz => ?_⟩
  obtain ⟨c9, e1, e2, e3, e4⟩ := h6 q _ (Array.getElem?_eq_getElem hq)
  have hs : c9.slots = (s.heap[q]).slots := Array.ext_getElem? fun i => e4 i fun hm => hz _ hm rfl
  have h9 : c9 = s.heap[q] := by
    rw [hs] at e2
    exact e2
  have e5 : U.heap[q]? = some c9 := e1
  rw [e5, h9, Array.getElem?_eq_getElem hq]
/-- the words of a throw but the four that speak of the heap -/
def vx_no (w : Cond) : Bool := decide (w ≠ .isRef (.static Bundle.tN "UNASSIGNED_STACK" Bundle.steD)) && decide (w ≠ .isRef (.static Bundle.tN "SUPPRESSED_SENTINEL" Bundle.listD)) && decide (w ≠ .laysStatic Bundle.tN "UNASSIGNED_STACK" Bundle.steD) && decide (w ≠ .laysStatic Bundle.tN "SUPPRESSED_SENTINEL" Bundle.listD)
def vx_at0 (own : String) (ic : Nat) (X : String) (names : List String) : List Cond := (Bundle.ownAtoms0 own ic X names).filter vx_no
def vx_atS (own : String) (ic : Nat) (X : String) (names : List String) : List Cond := (Bundle.ownAtoms own ic X names).filter vx_no
/-- a word that the tables alone decide, or a good one -/
def vx_ot (w : Cond) : Bool := w.onTables || goodWord w
theorem vx_ot_at {args a' : Array Value} {s U : State} {w : Cond} (hW : s.WarmedH U.vm) (hvm : s.vm = U.vm) (hg : vx_ot w = true) (h : w.before args s = true) : w.before a' U = true := by
  simp only [vx_ot, Bool.or_eq_true] at hg
  rcases hg with hg | hg
  · exact va_tabs hg hvm h
  · exact word_at hW (good_of_word hg) h
/-- a list's words: the good ones out of the method's own list, the others by premises of their own -/
theorem vx_hat {args : Array Value} {s : State} {L B : List Cond} (h1 : ∀ w ∈ L.filter goodWord, w.before args s = true) (h2 : ∀ w ∈ L.filter (fun w => !goodWord w), w ∈ B) (h3 : ∀ w ∈ B, w.before args s = true) : ∀ w ∈ L, w.before args s = true := by
  intro w hw
  by_cases g : goodWord w = true
  · exact h1 w (List.mem_filter.mpr ⟨hw, g⟩)
  · refine h3 w (h2 w (List.mem_filter.mpr ⟨hw, ?_⟩))
    show (!goodWord w) = true
    cases hgw : goodWord w
    · rfl
    · exact absurd hgw g
theorem vx_c {args : Array Value} {s : State} {w : Cond} {B : List Cond} (h : w.before args s = true) (t : ∀ w ∈ B, w.before args s = true) : ∀ w' ∈ w :: B, w'.before args s = true := fun w' h' => (List.mem_cons.mp h').elim (fun e => by rw [e]; exact h) (t w')
theorem vx_n {args : Array Value} {s : State} : ∀ w ∈ ([] : List Cond), w.before args s = true := fun _ h => nomatch h
theorem vx_own {args : Array Value} {s : State} {L : List Cond} (h1 : ∀ w ∈ L.filter vx_no, w.before args s = true)
    (hU : (Cond.isRef (.static Bundle.tN "UNASSIGNED_STACK" Bundle.steD)).before args s = true) (hN : (Cond.isRef (.static Bundle.tN "SUPPRESSED_SENTINEL" Bundle.listD)).before args s = true)
    (lU : (Cond.laysStatic Bundle.tN "UNASSIGNED_STACK" Bundle.steD).before args s = true) (lN : (Cond.laysStatic Bundle.tN "SUPPRESSED_SENTINEL" Bundle.listD).before args s = true) : ∀ w ∈ L, w.before args s = true := by
  intro w hw
  by_cases e1 : w = .isRef (.static Bundle.tN "UNASSIGNED_STACK" Bundle.steD)
  · rw [e1]; exact hU
  · by_cases e2 : w = .isRef (.static Bundle.tN "SUPPRESSED_SENTINEL" Bundle.listD)
    · rw [e2]; exact hN
    · by_cases e3 : w = .laysStatic Bundle.tN "UNASSIGNED_STACK" Bundle.steD
      · rw [e3]; exact lU
      · by_cases e4 : w = .laysStatic Bundle.tN "SUPPRESSED_SENTINEL" Bundle.listD
        · rw [e4]; exact lN
        · exact h1 w (List.mem_filter.mpr ⟨hw, by unfold vx_no; rw [decide_eq_true e1, decide_eq_true e2, decide_eq_true e3, decide_eq_true e4]; rfl⟩)
/-- where a static field lies, its class's statics cell in H -/
def vx_L (C n d : String) (A : Nat → Prop) (U : State) (H : Heap) : Prop := ∃ (c : ClassId) (k : Class) (i : Nat) (f : Field) (a : Nat) (cell : Cell), U.vm.findClass C = some c ∧ U.fieldFound? C n d = some (c, k, i, f) ∧ f.isStatic = true ∧ k.statics = some a ∧ H[a]? = some cell ∧ cell.vm.isStatics = true ∧ cell.cls = c ∧ f.slot < cell.slots.size ∧ k.staticTypes[f.slot]? = some f.type ∧ ¬ A a
theorem vx_L.moved {C n d : String} {A : Nat → Prop} {u U : State} {H : Heap} (hvm : u.vm.Alike U.vm) (h : vx_L C n d A u H) : vx_L C n d A U H := by
  obtain ⟨c, k, i, f, a, cell, h1, h2, h3, h4, h5, h6, h7, h8, h9, h10⟩ := h
  obtain ⟨k', hi', he⟩ := State.fieldFound?_setVm hvm h2
  exact ⟨c, k', i, f, a, cell, by rw [hvm.findClass]; exact h1, hi', h3, by rw [he]; exact h4, h5, h6, h7, h8, by rw [he]; exact h9, h10⟩
theorem vx_L.kept {C n d : String} {A : Nat → Prop} {U : State} {H H1 : Heap} (h : vx_L C n d A U H) (hq : ∀ a : Nat, a < H.size → ¬ A a → H1[a]? = H[a]?) : vx_L C n d A U H1 := by
  obtain ⟨c, k, i, f, a, cell, h1, h2, h3, h4, h5, h6, h7, h8, h9, h10⟩ := h
  exact ⟨c, k, i, f, a, cell, h1, h2, h3, h4, by rw [hq a (Array.getElem?_eq_some_iff.mp h5).1 h10]; exact h5, h6, h7, h8, h9, h10⟩
theorem vx_L.narrow {C n d : String} {A B : Nat → Prop} {U : State} {H : Heap} (h : vx_L C n d A U H) (hAB : ∀ q, B q → A q) : vx_L C n d B U H := by
  obtain ⟨c, k, i, f, a, cell, h1, h2, h3, h4, h5, h6, h7, h8, h9, h10⟩ := h
  exact ⟨c, k, i, f, a, cell, h1, h2, h3, h4, h5, h6, h7, h8, h9, fun z => h10 (hAB _ z)⟩
theorem vx_L.word {C n d : String} {A : Nat → Prop} {s : State} {args : Array Value} (h : vx_L C n d A s s.heap) : (Cond.laysStatic C n d).before args s = true := by
  obtain ⟨c, k, i, f, a, cell, h1, h2, h3, h4, h5, h6, h7, h8, h9, -⟩ := h
  show (Cond.laysStatic C n d).holds args s none s [] = true
  exact Cond.laysStatic_of h1 h2 h3 h4 h5 h6 h7 h8 h9
/-- .. and what it holds: null or some reference -/
def vx_Zq (C n d : String) (A : Nat → Prop) (U : State) (H : Heap) : Prop := va_Zq C n d A U H ∧ vx_L C n d A U H
theorem vx_Zq.moved {C n d : String} {A : Nat → Prop} {u U : State} {H : Heap} (hvm : u.vm.Alike U.vm) (h : vx_Zq C n d A u H) : vx_Zq C n d A U H := ⟨va_Zq.moved hvm h.1, vx_L.moved hvm h.2⟩
theorem vx_Zq.kept {C n d : String} {A : Nat → Prop} {U : State} {H H1 : Heap} (h : vx_Zq C n d A U H) (hq : ∀ a : Nat, a < H.size → ¬ A a → H1[a]? = H[a]?) : vx_Zq C n d A U H1 := ⟨va_Zq.kept h.1 hq, vx_L.kept h.2 hq⟩
theorem vx_Zq.narrow {C n d : String} {A B : Nat → Prop} {U : State} {H : Heap} (h : vx_Zq C n d A U H) (hAB : ∀ q, B q → A q) : vx_Zq C n d B U H := ⟨va_Zq.narrow h.1 hAB, vx_L.narrow h.2 hAB⟩
theorem vx_Zqof {args : Array Value} {s : State} {C n d : String} {A : Nat → Prop} (hl : (Cond.laysStatic C n d).before args s = true) (hini : (Cond.initialized C).before args s = true) (h : (Cond.isRef (.static C n d)).before args s = true) (hA : ∀ a : Nat, a < s.heap.size → ¬ A a) : vx_Zq C n d A s s.heap := by
  refine ⟨va_Zqof hl hini h hA, ?_⟩
  obtain ⟨c, k, i, f, a, cell, h1, h2, h3, h4, h5, h6, h7, h8, h9⟩ := Cond.laysStatic_spec hl
  exact ⟨c, k, i, f, a, cell, h1, h2, h3, h4, h5, h6, h7, h8, h9, hA a (Array.getElem?_eq_some_iff.mp h5).1⟩
theorem vx_isRef {C n d : String} {v : Value} {A : Nat → Prop} {s : State} {args : Array Value} (h : va_Z C n d v A s s.heap) (hv : v.isRef = true) : (Cond.isRef (.static C n d)).before args s = true := by
  obtain ⟨cf, kf, fi, f, a, cell, h1, h2, h3, h4, h5, h6, h7, -⟩ := h
  have he : (Term.static C n d).eval args s none [] s = some v := by
    simp [Term.eval, State.fieldNamed?, h1, h2, h4, h5, h6, h7]
  simp only [Cond.before, Cond.holds, Cond.value, he]
  cases v <;> simp_all [Value.isRef]
theorem vx_isRefq {C n d : String} {A : Nat → Prop} {s : State} {args : Array Value} (h : va_Zq C n d A s s.heap) : (Cond.isRef (.static C n d)).before args s = true := by
  rcases h with h | ⟨t, h⟩
  · exact vx_isRef h rfl
  · exact vx_isRef h rfl
/-- the same frame, seen from here: as if the method were called anew in this heap -/
theorem vx_rebase {T : State} (X : Stand p l e R s m args below meth c T locs cells slots) {R' : Room} (hf : R'.frames ≤ R.frames) (hl : R'.locals ≤ R.locals) (hc : cells + R'.cells ≤ R.cells) (hs : slots + R'.slots ≤ R.slots) :
    Stand p l e R' ((T.setVm s.vm).setFrames (.invoking m args :: below)) m args below meth c T [] 0 0 := by
  have htop : (T.setVm s.vm).topJava?.isSome := X.here.top
  have hF : ((T.setVm s.vm).setFrames (.invoking m args :: below)).frames = .invoking m args :: below := State.frames_setFrames _ (State.cur_lt_of_top htop)
  obtain ⟨g₀, hg0⟩ := Option.isSome_iff_exists.mp htop
  obtain ⟨r, hr⟩ := State.topJava?_eq_some.mp hg0
  have hl9 : e.platform.stackLimits (T.setVm s.vm).me = e.platform.stackLimits s.me := X.limits
  have hb9 : (T.setVm s.vm).me.stackBytes = s.me.stackBytes := X.bytes
  refine ⟨X.admits, X.cas, X.clock, hF, ?_, X.hears, X.method, X.code, X.here, X.tail, X.warmed, ?_, ?_, ?_⟩
  · have h := X.room
    have hU : ((T.setVm s.vm).setFrames (.invoking m args :: below)).localsInUse = s.localsInUse := by
      rw [State.localsInUse_invoking hF (meth := meth) (c := c) X.method X.code, State.localsInUse_invoking X.frames X.method X.code]
    simp only [State.hasRoom, Bool.and_eq_true, decide_eq_true_eq] at h ⊢
    obtain ⟨⟨⟨⟨h1, h2, h3, h4, h5, h6⟩, h7⟩, h8⟩, h9⟩ := h
    rw [X.frames, List.length_cons] at h2 h3
    have q1 := X.heapSize
    have q2 := X.used
    simp only [hF, hU, List.length_cons, State.stackLimits_setFrames, State.stackBytes_setFrames, hl9, hb9]
    refine ⟨⟨⟨⟨by omega, by omega, by omega, by omega, by omega, h6⟩, ?_⟩, ?_⟩, X.book⟩
    · show T.heap.size + R'.cells ≤ e.platform.maxCells
      omega
    · show T.slotsUsed + R'.slots ≤ e.platform.maxSlots
      omega
  · rw [State.stackLimits_setFrames]; rfl
  · rw [State.stackBytes_setFrames]; rfl
  · refine ⟨?_, Nat.le_refl _, Nat.le_refl _, ?_, ?_, fun a c9 h9 => ⟨c9, h9, rfl, rfl, fun _ _ => rfl⟩⟩
    · obtain ⟨t, ht, -⟩ := State.frames_cons hr
      show T.setVm s.vm = { ((T.setVm s.vm).setFrames (.invoking m args :: below)).setFrames (T.setVm s.vm).frames with heap := T.heap, slotsUsed := T.slotsUsed }
      rw [State.setFrames_setFrames, State.setFrames_self ht]
      rfl
    · show T.slotsUsed = T.slotsUsed + ((T.heap.toList.drop T.heap.size).map (·.slots.size)).sum
      rw [List.drop_eq_nil_of_le (Nat.le_of_eq Array.length_toList)]
      rfl
    · show ((T.heap.toList.drop T.heap.size).map (·.slots.size)).sum ≤ 0
      rw [List.drop_eq_nil_of_le (Nat.le_of_eq Array.length_toList)]
      exact Nat.le_refl _
/-- 'throw new E()': new; dup; invokespecial; athrow -/
theorem vx_throw0 {cc : ByteArray} {pc : Nat} (hexec : p.tables.exec = Jvm.exec) (hb : c.code = cc) (hl : l.stackTraces = false) {own cls : String} {names : List String} {ik ic mc ms : Nat} {A : Nat → Prop}
    (hown : s.vm.findClass own = some m.cls) (hcls : Bundle.fit cls = true) (hnames : ∀ n ∈ names, Bundle.fit n = true)
    (hk : (Cond.classLink own ik cls).before args s = true) (hini : (Cond.initialized cls).before args s = true) (hat : ∀ w ∈ vx_at0 own ic cls names, w.before args s = true)
    (hgood : ∀ w ∈ Cond.classLink own ik cls :: Cond.initialized cls :: vx_at0 own ic cls names, vx_ot w = true)
    (hU : vx_Zq Bundle.tN "UNASSIGNED_STACK" Bundle.steD A s s.heap) (hN : vx_Zq Bundle.tN "SUPPRESSED_SENTINEL" Bundle.listD A s s.heap) (hS : va_S A s.heap H locs) (hsize : ls.size = c.maxLocals)
    (d0 : decode cc pc = .ok (.new ik, 3)) (d3 : decode cc (pc + 3) = .ok (.dup, 1)) (d4 : decode cc (pc + 4) = .ok (.invokespecial ic, 3)) (d7 : decode cc (pc + 7) = .ok (.athrow, 1))
    (hout : ∀ x ∈ c.exceptionTable.toList, covers x (pc + 7) = false)
    (hRframes : names.length + 3 < R.frames) (hRlocals : (rest.map fun v => v.category).sum + (13 * (names.length + 1) + 42) ≤ R.locals) (hRcells : cells + 1 ≤ R.cells) (hRslots : slots + 6 ≤ R.slots) (hlocks : meth.locks = false)
    (hx : ∀ t : State, s.vm.Alike t.vm → H.size ≤ t.heap.size → (∀ q : Nat, q < H.size → t.heap[q]? = H[q]?) → XC cls s t)
    (hf : ∀ z ∈ locs, free z.base) (hc : cells + 1 ≤ mc) (hs : slots + 6 ≤ ms) :
    W p l e R s m args below meth c H locs cells slots (vx_MQ below Qc XC args s mc ms free) (F0 m pc ls rest) := by
  intro T hT X
  have htr : e.platform.stackTraces = false := (show e.platform.stackTraces = l.stackTraces by rw [X.admits.platform]).trans hl
  have Y := vx_rebase X (R' := { frames := R.frames, locals := R.locals, cells := 1, slots := 6 }) (Nat.le_refl _) (Nat.le_refl _) hRcells hRslots
  obtain ⟨s', hA⟩ : ∃ z, z = (T.setVm s.vm).setFrames (.invoking m args :: below) := ⟨_, rfl⟩
  rw [← hA] at Y
  have hvm : s'.vm = s.vm := by rw [hA]; rfl
  have hhp : s'.heap = H := by rw [hA]; exact hT
  have hW0 : s.WarmedH s'.vm := by rw [hvm]; exact State.WarmedH.refl s
  have hat' : ∀ w ∈ vx_at0 own ic cls names, w.before args s' = true := fun w hw => vx_ot_at hW0 hvm.symm (hgood w (List.mem_cons_of_mem _ (List.mem_cons_of_mem _ hw))) (hat w hw)
  have hk' : (Cond.classLink own ik cls).before args s' = true := vx_ot_at hW0 hvm.symm (hgood _ List.mem_cons_self) hk
  have hini' : (Cond.initialized cls).before args s' = true := vx_ot_at hW0 hvm.symm (hgood _ (List.mem_cons_of_mem _ List.mem_cons_self)) hini
  have hU' : vx_Zq Bundle.tN "UNASSIGNED_STACK" Bundle.steD A s' s'.heap := by rw [hhp]; exact vx_Zq.moved hW0.alike (hU.kept hS.2.1)
  have hN' : vx_Zq Bundle.tN "SUPPRESSED_SENTINEL" Bundle.listD A s' s'.heap := by rw [hhp]; exact vx_Zq.moved hW0.alike (hN.kept hS.2.1)
  have h : ∀ w ∈ Bundle.ownAtoms0 own ic cls names, w.before args s' = true := vx_own hat' (vx_isRefq hU'.1) (vx_isRefq hN'.1) hU'.2.word hN'.2.word
  have hown' : s'.vm.findClass own = some m.cls := by rw [hvm]; exact hown
  have hins : (Cond.instantiable cls 6).before args s' = true := h _ (by simp [Bundle.ownAtoms0])
  obtain ⟨vm₁, cX, kX, hfX, hkX, -, -, X₁, st1⟩ := Y.newCold hexec (own := own) (C := cls) (index := ik) (n := 6) hown' hk' hins hini'
    (g := F0 m pc ls rest) rfl (by rw [hb]; exact d0) (Nat.le_refl _) (Nat.le_refl _)
  generalize hT1 : (T.setVm vm₁).pushCell { cls := cX, slots := kX.instanceTypes.map defaultValue, vm := .none } = T1 at X₁ st1
  have hcat : (Value.ref T.heap.size).category = 1 := rfl
  have hcellA : T1.heap[T.heap.size]? = some (freshCell cX kX) := by rw [← hT1]; exact State.heap_pushCell_size _ _
  have d3' : decode c.code (pc + 3) = .ok (.dup, 1) := by rw [hb]; exact d3
  obtain ⟨U, hsteps, hrun, hend, hW, hsame, ce, hce, hO⟩ := X₁.ctorThrow0 hexec htr (own := own) (cls := cls) (names := names) (ic := ic) hown' hcls hnames h (fun x hx => nomatch hx) hfX hkX hcellA (by rw [hhp, hT]; exact Nat.le_refl _)
    (g := { method := m, pc := pc + 4, locals := ls, stack := .ref T.heap.size :: .ref T.heap.size :: rest, locked := none }) rfl hsize rfl rfl (rest := rest) rfl
    (by rw [hb]; exact d4) (by rw [hb]; exact d7) hout hRframes (by simp only [List.map_cons, List.sum_cons, hcat]; omega) hlocks
  obtain ⟨f1, f2⟩ := vx_frame hsame
  rw [hhp] at f1 f2
  have hWs : s.WarmedH U.vm := State.WarmedH.trans hW0 hW
  have hcl : s.vm.findClass cls = some ce.cls := by
    have h9 := hO.cls
    rw [hvm] at h9
    exact h9
  have hall : s.sameButNew ({ U with vm := s.vm } : State) locs mc ms := by
    subst hA
    obtain ⟨e1, e2⟩ := hsame
    rw [State.setFrames_setFrames] at e1
    have h2 : (T.setVm s.vm).sameButNew ({ U with vm := s.vm } : State) [] (0 + 1) (0 + 6) := ⟨e1, e2⟩
    have h3 := X.same.trans h2
    rw [List.append_nil] at h3
    exact h3.mono hc hs
  refine ⟨U, ?_, .threw T.heap.size, hrun, hend, Or.inr ⟨T.heap.size, rfl, cls, ce, locs, hx U hWs.alike f1 (fun q hq => f2 q hq (fun z hz => nomatch hz)), hce, hO.vm, hcl, hWs, hall, hf⟩⟩
  refine st1 _ ?_
  show Steps p.tables e below (T1.setTop { method := m, pc := pc + 3, locals := ls, stack := .ref T.heap.size :: rest, locked := none }) _
  jvm_step X₁.here [X₁.here.top, hexec, d3', Value.category]
  exact hsteps
/-- 'throw new E("text")': new; dup; ldc; invokespecial; athrow -/
theorem vx_throwS {cc : ByteArray} {pc : Nat} (hexec : p.tables.exec = Jvm.exec) (hb : c.code = cc) (hl : l.stackTraces = false) {own cls text : String} {names : List String} {ik is ic mc ms sa : Nat} {A : Nat → Prop}
    (hown : s.vm.findClass own = some m.cls) (hcls : Bundle.fit cls = true) (hnames : ∀ n ∈ names, Bundle.fit n = true)
    (hk : (Cond.classLink own ik cls).before args s = true) (hini : (Cond.initialized cls).before args s = true) (hstr : vk_R own is text sa s) (hat : ∀ w ∈ vx_atS own ic cls names, w.before args s = true)
    (hgood : ∀ w ∈ Cond.classLink own ik cls :: Cond.initialized cls :: vx_atS own ic cls names, vx_ot w = true)
    (hU : vx_Zq Bundle.tN "UNASSIGNED_STACK" Bundle.steD A s s.heap) (hN : vx_Zq Bundle.tN "SUPPRESSED_SENTINEL" Bundle.listD A s s.heap) (hS : va_S A s.heap H locs) (hsize : ls.size = c.maxLocals)
    (d0 : decode cc pc = .ok (.new ik, 3)) (d3 : decode cc (pc + 3) = .ok (.dup, 1)) (d4 : decode cc (pc + 4) = .ok (.ldc is, 2)) (d6 : decode cc (pc + 6) = .ok (.invokespecial ic, 3)) (d9 : decode cc (pc + 9) = .ok (.athrow, 1))
    (hout : ∀ x ∈ c.exceptionTable.toList, covers x (pc + 9) = false)
    (hRframes : names.length + 3 < R.frames) (hRlocals : (rest.map fun v => v.category).sum + (13 * (names.length + 1) + 43) ≤ R.locals) (hRcells : cells + 1 ≤ R.cells) (hRslots : slots + 6 ≤ R.slots) (hlocks : meth.locks = false)
    (hx : ∀ t : State, s.vm.Alike t.vm → H.size ≤ t.heap.size → (∀ q : Nat, q < H.size → t.heap[q]? = H[q]?) → XC cls s t)
    (hf : ∀ z ∈ locs, free z.base) (hc : cells + 1 ≤ mc) (hs : slots + 6 ≤ ms) :
    W p l e R s m args below meth c H locs cells slots (vx_MQ below Qc XC args s mc ms free) (F0 m pc ls rest) := by
  intro T hT X
  have htr : e.platform.stackTraces = false := (show e.platform.stackTraces = l.stackTraces by rw [X.admits.platform]).trans hl
  have Y := vx_rebase X (R' := { frames := R.frames, locals := R.locals, cells := 1, slots := 6 }) (Nat.le_refl _) (Nat.le_refl _) hRcells hRslots
  obtain ⟨s', hA⟩ : ∃ z, z = (T.setVm s.vm).setFrames (.invoking m args :: below) := ⟨_, rfl⟩
  rw [← hA] at Y
  have hvm : s'.vm = s.vm := by rw [hA]; rfl
  have hhp : s'.heap = H := by rw [hA]; exact hT
  have hW0 : s.WarmedH s'.vm := by rw [hvm]; exact State.WarmedH.refl s
  have hat' : ∀ w ∈ vx_atS own ic cls names, w.before args s' = true := fun w hw => vx_ot_at hW0 hvm.symm (hgood w (List.mem_cons_of_mem _ (List.mem_cons_of_mem _ hw))) (hat w hw)
  have hk' : (Cond.classLink own ik cls).before args s' = true := vx_ot_at hW0 hvm.symm (hgood _ List.mem_cons_self) hk
  have hini' : (Cond.initialized cls).before args s' = true := vx_ot_at hW0 hvm.symm (hgood _ (List.mem_cons_of_mem _ List.mem_cons_self)) hini
  have hU' : vx_Zq Bundle.tN "UNASSIGNED_STACK" Bundle.steD A s' s'.heap := by rw [hhp]; exact vx_Zq.moved hW0.alike (hU.kept hS.2.1)
  have hN' : vx_Zq Bundle.tN "SUPPRESSED_SENTINEL" Bundle.listD A s' s'.heap := by rw [hhp]; exact vx_Zq.moved hW0.alike (hN.kept hS.2.1)
  have h : ∀ w ∈ Bundle.ownAtoms own ic cls names, w.before args s' = true := vx_own hat' (vx_isRefq hU'.1) (vx_isRefq hN'.1) hU'.2.word hN'.2.word
  have hown' : s'.vm.findClass own = some m.cls := by rw [hvm]; exact hown
  have hins : (Cond.instantiable cls 6).before args s' = true := h _ (by simp [Bundle.ownAtoms])
  obtain ⟨vm₁, cX, kX, hfX, hkX, -, -, X₁, st1⟩ := Y.newCold hexec (own := own) (C := cls) (index := ik) (n := 6) hown' hk' hins hini'
    (g := F0 m pc ls rest) rfl (by rw [hb]; exact d0) (Nat.le_refl _) (Nat.le_refl _)
  generalize hT1 : (T.setVm vm₁).pushCell { cls := cX, slots := kX.instanceTypes.map defaultValue, vm := .none } = T1 at X₁ st1
  have hcat : (Value.ref T.heap.size).category = 1 := rfl
  have hcellA : T1.heap[T.heap.size]? = some (freshCell cX kX) := by rw [← hT1]; exact State.heap_pushCell_size _ _
  have d3' : decode c.code (pc + 3) = .ok (.dup, 1) := by rw [hb]; exact d3
  have d4' : decode c.code (pc + 4) = .ok (.ldc is, 2) := by rw [hb]; exact d4
  have hstr' : vk_R own is text sa s' := vk_R.warm hW0 hstr
  obtain ⟨U, hsteps, hrun, hend, hW, hsame, ce, hce, hO⟩ := X₁.ctorThrowS hexec htr (own := own) (cls := cls) (names := names) (ic := ic) hown' hcls hnames h (fun x hx => nomatch hx) hfX hkX hcellA (by rw [hhp, hT]; exact Nat.le_refl _) (msg := .ref sa) rfl
    (g := { method := m, pc := pc + 6, locals := ls, stack := .ref sa :: .ref T.heap.size :: .ref T.heap.size :: rest, locked := none }) rfl hsize rfl rfl (rest := rest) rfl
    (by rw [hb]; exact d6) (by rw [hb]; exact d9) hout hRframes (by simp only [List.map_cons, List.sum_cons, hcat]; omega) hlocks
  obtain ⟨f1, f2⟩ := vx_frame hsame
  rw [hhp] at f1 f2
  have hWs : s.WarmedH U.vm := State.WarmedH.trans hW0 hW
  have hcl : s.vm.findClass cls = some ce.cls := by
    have h9 := hO.cls
    rw [hvm] at h9
    exact h9
  have hall : s.sameButNew ({ U with vm := s.vm } : State) locs mc ms := by
    subst hA
    obtain ⟨e1, e2⟩ := hsame
    rw [State.setFrames_setFrames] at e1
    have h2 : (T.setVm s.vm).sameButNew ({ U with vm := s.vm } : State) [] (0 + 1) (0 + 6) := ⟨e1, e2⟩
    have h3 := X.same.trans h2
    rw [List.append_nil] at h3
    exact h3.mono hc hs
  refine ⟨U, ?_, .threw T.heap.size, hrun, hend, Or.inr ⟨T.heap.size, rfl, cls, ce, locs, hx U hWs.alike f1 (fun q hq => f2 q hq (fun z hz => nomatch hz)), hce, hO.vm, hcl, hWs, hall, hf⟩⟩
  refine st1 _ ?_
  show Steps p.tables e below (T1.setTop { method := m, pc := pc + 3, locals := ls, stack := .ref T.heap.size :: rest, locked := none }) _
  jvm_step X₁.here [X₁.here.top, hexec, d3', Value.category]
  exact X₁.ldcString hexec (own := own) (text := text) (index := is) (a := sa) hown' hstr'.1 hstr'.2
    (g := { method := m, pc := pc + 4, locals := ls, stack := .ref T.heap.size :: .ref T.heap.size :: rest, locked := none }) rfl d4' _ hsteps
/-- 'throw new E("text")', the text by a wide index -/
theorem vx_throwSW {cc : ByteArray} {pc : Nat} (hexec : p.tables.exec = Jvm.exec) (hb : c.code = cc) (hl : l.stackTraces = false) {own cls text : String} {names : List String} {ik is ic mc ms sa : Nat} {A : Nat → Prop}
    (hown : s.vm.findClass own = some m.cls) (hcls : Bundle.fit cls = true) (hnames : ∀ n ∈ names, Bundle.fit n = true)
    (hk : (Cond.classLink own ik cls).before args s = true) (hini : (Cond.initialized cls).before args s = true) (hstr : vk_R own is text sa s) (hat : ∀ w ∈ vx_atS own ic cls names, w.before args s = true)
    (hgood : ∀ w ∈ Cond.classLink own ik cls :: Cond.initialized cls :: vx_atS own ic cls names, vx_ot w = true)
    (hU : vx_Zq Bundle.tN "UNASSIGNED_STACK" Bundle.steD A s s.heap) (hN : vx_Zq Bundle.tN "SUPPRESSED_SENTINEL" Bundle.listD A s s.heap) (hS : va_S A s.heap H locs) (hsize : ls.size = c.maxLocals)
    (d0 : decode cc pc = .ok (.new ik, 3)) (d3 : decode cc (pc + 3) = .ok (.dup, 1)) (d4 : decode cc (pc + 4) = .ok (.ldc_w is, 3)) (d7 : decode cc (pc + 7) = .ok (.invokespecial ic, 3)) (d10 : decode cc (pc + 10) = .ok (.athrow, 1))
    (hout : ∀ x ∈ c.exceptionTable.toList, covers x (pc + 10) = false)
    (hRframes : names.length + 3 < R.frames) (hRlocals : (rest.map fun v => v.category).sum + (13 * (names.length + 1) + 43) ≤ R.locals) (hRcells : cells + 1 ≤ R.cells) (hRslots : slots + 6 ≤ R.slots) (hlocks : meth.locks = false)
    (hx : ∀ t : State, s.vm.Alike t.vm → H.size ≤ t.heap.size → (∀ q : Nat, q < H.size → t.heap[q]? = H[q]?) → XC cls s t)
    (hf : ∀ z ∈ locs, free z.base) (hc : cells + 1 ≤ mc) (hs : slots + 6 ≤ ms) :
    W p l e R s m args below meth c H locs cells slots (vx_MQ below Qc XC args s mc ms free) (F0 m pc ls rest) := by
  intro T hT X
  have htr : e.platform.stackTraces = false := (show e.platform.stackTraces = l.stackTraces by rw [X.admits.platform]).trans hl
  have Y := vx_rebase X (R' := { frames := R.frames, locals := R.locals, cells := 1, slots := 6 }) (Nat.le_refl _) (Nat.le_refl _) hRcells hRslots
  obtain ⟨s', hA⟩ : ∃ z, z = (T.setVm s.vm).setFrames (.invoking m args :: below) := ⟨_, rfl⟩
  rw [← hA] at Y
  have hvm : s'.vm = s.vm := by rw [hA]; rfl
  have hhp : s'.heap = H := by rw [hA]; exact hT
  have hW0 : s.WarmedH s'.vm := by rw [hvm]; exact State.WarmedH.refl s
  have hat' : ∀ w ∈ vx_atS own ic cls names, w.before args s' = true := fun w hw => vx_ot_at hW0 hvm.symm (hgood w (List.mem_cons_of_mem _ (List.mem_cons_of_mem _ hw))) (hat w hw)
  have hk' : (Cond.classLink own ik cls).before args s' = true := vx_ot_at hW0 hvm.symm (hgood _ List.mem_cons_self) hk
  have hini' : (Cond.initialized cls).before args s' = true := vx_ot_at hW0 hvm.symm (hgood _ (List.mem_cons_of_mem _ List.mem_cons_self)) hini
  have hU' : vx_Zq Bundle.tN "UNASSIGNED_STACK" Bundle.steD A s' s'.heap := by rw [hhp]; exact vx_Zq.moved hW0.alike (hU.kept hS.2.1)
  have hN' : vx_Zq Bundle.tN "SUPPRESSED_SENTINEL" Bundle.listD A s' s'.heap := by rw [hhp]; exact vx_Zq.moved hW0.alike (hN.kept hS.2.1)
  have h : ∀ w ∈ Bundle.ownAtoms own ic cls names, w.before args s' = true := vx_own hat' (vx_isRefq hU'.1) (vx_isRefq hN'.1) hU'.2.word hN'.2.word
  have hown' : s'.vm.findClass own = some m.cls := by rw [hvm]; exact hown
  have hins : (Cond.instantiable cls 6).before args s' = true := h _ (by simp [Bundle.ownAtoms])
  obtain ⟨vm₁, cX, kX, hfX, hkX, -, -, X₁, st1⟩ := Y.newCold hexec (own := own) (C := cls) (index := ik) (n := 6) hown' hk' hins hini'
    (g := F0 m pc ls rest) rfl (by rw [hb]; exact d0) (Nat.le_refl _) (Nat.le_refl _)
  generalize hT1 : (T.setVm vm₁).pushCell { cls := cX, slots := kX.instanceTypes.map defaultValue, vm := .none } = T1 at X₁ st1
  have hcat : (Value.ref T.heap.size).category = 1 := rfl
  have hcellA : T1.heap[T.heap.size]? = some (freshCell cX kX) := by rw [← hT1]; exact State.heap_pushCell_size _ _
  have d3' : decode c.code (pc + 3) = .ok (.dup, 1) := by rw [hb]; exact d3
  have d4' : decode c.code (pc + 4) = .ok (.ldc_w is, 3) := by rw [hb]; exact d4
  have hstr' : vk_R own is text sa s' := vk_R.warm hW0 hstr
  obtain ⟨U, hsteps, hrun, hend, hW, hsame, ce, hce, hO⟩ := X₁.ctorThrowS hexec htr (own := own) (cls := cls) (names := names) (ic := ic) hown' hcls hnames h (fun x hx => nomatch hx) hfX hkX hcellA (by rw [hhp, hT]; exact Nat.le_refl _) (msg := .ref sa) rfl
    (g := { method := m, pc := pc + 7, locals := ls, stack := .ref sa :: .ref T.heap.size :: .ref T.heap.size :: rest, locked := none }) rfl hsize rfl rfl (rest := rest) rfl
    (by rw [hb]; exact d7) (by rw [hb]; exact d10) hout hRframes (by simp only [List.map_cons, List.sum_cons, hcat]; omega) hlocks
  obtain ⟨f1, f2⟩ := vx_frame hsame
  rw [hhp] at f1 f2
  have hWs : s.WarmedH U.vm := State.WarmedH.trans hW0 hW
  have hcl : s.vm.findClass cls = some ce.cls := by
    have h9 := hO.cls
    rw [hvm] at h9
    exact h9
  have hall : s.sameButNew ({ U with vm := s.vm } : State) locs mc ms := by
    subst hA
    obtain ⟨e1, e2⟩ := hsame
    rw [State.setFrames_setFrames] at e1
    have h2 : (T.setVm s.vm).sameButNew ({ U with vm := s.vm } : State) [] (0 + 1) (0 + 6) := ⟨e1, e2⟩
    have h3 := X.same.trans h2
    rw [List.append_nil] at h3
    exact h3.mono hc hs
  refine ⟨U, ?_, .threw T.heap.size, hrun, hend, Or.inr ⟨T.heap.size, rfl, cls, ce, locs, hx U hWs.alike f1 (fun q hq => f2 q hq (fun z hz => nomatch hz)), hce, hO.vm, hcl, hWs, hall, hf⟩⟩
  refine st1 _ ?_
  show Steps p.tables e below (T1.setTop { method := m, pc := pc + 3, locals := ls, stack := .ref T.heap.size :: rest, locked := none }) _
  jvm_step X₁.here [X₁.here.top, hexec, d3', Value.category]
  exact X₁.ldcStringW hexec (own := own) (text := text) (index := is) (a := sa) hown' hstr'.1 hstr'.2
    (g := { method := m, pc := pc + 4, locals := ls, stack := .ref T.heap.size :: .ref T.heap.size :: rest, locked := none }) rfl d4' _ hsteps
end Ends
section Bodies
variable {l : Launch}
theorem vx_ofW {y : MethodName} {ws ws' : List Cond} {rm : Room} {Pc : Array Value → State → Prop} {Qc : Array Value → State → Outcome → State → Prop} {XC : String → State → State → Prop} {mc ms : Nat} {free : Addr → Prop} {cc : ByteArray} {maxL : Nat} {ret : Option FieldType}
    (hy : plainName y.cls = true) (hw : ws = Cond.code y cc maxL ret :: ws')
    (body : ∀ p e s m args below meth c s₁, BodyLoose p l y (headSpec ws rm) cc maxL ret e s m args below meth c s₁ → c.maxLocals = maxL → (∀ x ∈ c.exceptionTable.toList, False) → Pc args s →
      W p l e (headSpec ws rm).room s m args below meth c s.heap [] 0 0 (vx_MQ below Qc XC args s mc ms free) (entryFrame m args maxL)) : vx_Met l y ws rm Pc Qc XC mc ms free := by
  refine MetFree.of_bodyS (code := cc) (maxLocals := maxL) (ret := ret) hy ?_ ?_
  · intro args s m h hn
    obtain ⟨meth, c, h1, h2, h3, h4, h5, h6, -, -⟩ := Cond.code_spec hn (atoms_spec (ws := ws) h _ (by rw [hw]; exact List.mem_cons_self))
    exact ⟨meth, c, h1, h2, h3, h4, h5, h6⟩
  · intro p e s m args below meth c s₁ B hml hP _
    have hh0 : s₁.heap = s.heap := by rw [B.state]; rfl
    have ht : ∀ x ∈ c.exceptionTable.toList, False := by
      obtain ⟨meth9, c9, h1, h2, -, -, -, -, h7, -⟩ := Cond.code_spec B.named (atoms_spec (ws := ws) B.pre _ (by rw [hw]; exact List.mem_cons_self))
      cases Option.some.inj (h1.symm.trans B.method)
      cases Option.some.inj (h2.symm.trans (Stand.of_body B).code)
      intro x hx
      rw [Array.isEmpty_iff.mp h7] at hx
      cases hx
    obtain ⟨t, a1, o, b1, b2, b3⟩ := body p e s m args below meth c s₁ B hml ht hP s₁ hh0 (Stand.of_body B)
    exact ⟨t, o, a1, b1, b2, b3⟩
/-- the table of a body with handlers -/
theorem vx_table {p : Program} {x y : MethodName} {S : Spec} {cc bytes : ByteArray} {maxL maxL' : Nat} {ret ret' : Option FieldType} {e : Env} {s s₁ : State} {m : MethodId} {args : Array Value} {below : List Frame} {meth : Method} {c : Code} {hh : List (Nat × Nat × Nat × Nat)}
    (B : BodyLoose p l y S cc maxL ret e s m args below meth c s₁) (h : (Cond.codeWith y bytes maxL' ret' hh).before args s = true) : c.exceptionTable.toList = tableOf hh := by
  obtain ⟨m9, meth9, c9, hn9, h1, h2, -, -, h6, -⟩ := Cond.codeWith_spec h
  cases Option.some.inj (hn9.symm.trans B.named)
  cases Option.some.inj (h1.symm.trans B.method)
  cases Option.some.inj (h2.symm.trans (Stand.of_body B).code)
  rw [← h6, table_eq]
end Bodies
end VXA
/-! ===== END ===== -/
/-! ===== BEGIN a static call of a method with an exception table ===== -/
section VXS
variable {p : Program} {l : Launch} {e : Env} {R : Room} {s : State} {m : MethodId} {args : Array Value} {below : List Frame} {meth : Method} {c : Code} {T : State} {H : Heap} {locs : List Loc} {cells slots : Nat}
abbrev vx_CSW (R : Room) (s : State) (args : Array Value) (own : String) (index : Nat) (y : MethodName) (bytes : ByteArray) (maxL : Nat) (ret : Option FieldType) (hh : List (Nat × Nat × Nat × Nat)) (ws : List Cond) (rm : Room) (mc ms n : Nat) : Prop :=
  (rm.cells = mc ∧ rm.slots = ms ∧ rm.frames + 1 ≤ R.frames ∧ 8 + (maxL + 11) + rm.locals ≤ R.locals ∧ (∀ w ∈ ws, ∀ (a' : Array Value) (U : State), s.WarmedH U.vm → w.before a' U = true) ∧ Cond.codeWith y bytes maxL ret hh ∈ ws) ∧
  (Cond.codeWith y bytes maxL ret hh).before args s = true ∧ (Cond.initialized y.cls).before args s = true ∧ (y.cls ≠ "java/lang/invoke/MethodHandle" ∧ y.cls ≠ "java/lang/invoke/VarHandle") ∧
  (∀ sig, parseMethodDescriptor y.desc = some sig → n = sig.parameters.length) ∧ (Cond.methodLink own index y).before args s = true ∧ (Cond.static y).before args s = true
theorem vx_cwSW {own : String} {index maxL mc ms : Nat} {y : MethodName} {bytes : ByteArray} {ret : Option FieldType} {hh : List (Nat × Nat × Nat × Nat)} {Ts ws ws' : List Cond} {rm : Room} (n : Nat) (ht : ∀ w ∈ Ts, w.before args s = true) (hT : GoodIn Ts (va_wsS own index y ws)) (hw : ws = Cond.codeWith y bytes maxL ret hh :: ws') (hrc : rm.cells = mc) (hrs : rm.slots = ms)
    (hd : y.cls ≠ "java/lang/invoke/MethodHandle" ∧ y.cls ≠ "java/lang/invoke/VarHandle" ∧ (parseMethodDescriptor y.desc).map (fun d => d.parameters.length) = some n) (hR : rm.frames + 1 ≤ R.frames ∧ 8 + (maxL + 11) + rm.locals ≤ R.locals) :
    vx_CSW R s args own index y bytes maxL ret hh ws rm mc ms n := by
  have ok : ∀ w ∈ va_wsS own index y ws, w.before args s = true := fun w h => ht w (hT w h).1
  have hG : GoodIn Ts ws := fun w h => hT w (by unfold va_wsS; exact List.mem_append_right _ h)
  have hc : Cond.codeWith y bytes maxL ret hh ∈ ws := by rw [hw]; exact List.mem_cons_self
  refine ⟨⟨hrc, hrs, hR.1, hR.2, pay_in ht hG, hc⟩, ht _ (hG _ hc).1, ok _ (by simp [va_wsS]), ⟨hd.1, hd.2.1⟩, fun sig h => ?_, ok _ (by simp [va_wsS]), ok _ (by simp [va_wsS])⟩
  have h2 := hd.2.2
  rw [h] at h2
  exact (Option.some.inj h2).symm
theorem vx_callSW (X : Stand p l e R s m args below meth c T locs cells slots) (hexec : p.tables.exec = Jvm.exec) {own : String} {index : Nat} {y : MethodName} {bytes : ByteArray} {maxL : Nat} {ret : Option FieldType} {hh : List (Nat × Nat × Nat × Nat)}
    (hown : s.vm.findClass own = some m.cls) (hlink : (Cond.methodLink own index y).before args s = true) (hstat : (Cond.static y).before args s = true) (hinit : (Cond.initialized y.cls).before args s = true)
    (hcode : (Cond.codeWith y bytes maxL ret hh).before args s = true) (hy : y.cls ≠ "java/lang/invoke/MethodHandle" ∧ y.cls ≠ "java/lang/invoke/VarHandle")
    {W9 : Nat} {Pre : Pt → Array Value → Prop} {Post : Pt → Array Value → Option Value → Pt → Prop} (hK : Back l R p e below s args y 3 W9 Pre Post)
    {g : JFrame} (hg : g.method = m) (hsize : g.locals.size = c.maxLocals) {argsL rest : List Value} (hlen : ∀ sig, parseMethodDescriptor y.desc = some sig → argsL.length = sig.parameters.length)
    (hstack : g.stack = argsL.reverse ++ rest) (hW : 2 * g.monitorRoom + (rest.map fun v => v.category).sum ≤ W9) (hdg : decode c.code g.pc = .ok (.invokestatic index, 3))
    (hpre : ∀ vm₁, s.WarmedH vm₁ → Pre ⟨T.setVm vm₁, locs, cells, slots⟩ argsL.toArray) :
    ∃ (v : Option Value) (vm₁ : Vm) (B : Pt), s.WarmedH vm₁ ∧ Stand p l e R s m args below meth c B.U B.locs B.cells B.slots ∧ Post ⟨T.setVm vm₁, locs, cells, slots⟩ argsL.toArray v B ∧
      ∀ target, Steps p.tables e below (B.U.setTop { g with pc := g.pc + 3, stack := v.toList ++ rest }) target → Steps p.tables e below (T.setTop g) target := by
  obtain ⟨mk, methM, cM, hnamed, hmethM, -, -, -, -, -, -, hsigM⟩ := Cond.codeWith_spec hcode
  have hstatic : methM.isStatic = true := Cond.static_spec hnamed hmethM hstat
  obtain ⟨kP, hkP, -⟩ := className_of_methodNamed hnamed
  have hinitP : kP.init = .initialized := Cond.initialized_spec (findClass_of_methodNamed hnamed) hkP hinit
  obtain ⟨vm₁, X₁, hstep₁⟩ := X.invokestatic hexec hown hlink hnamed hmethM hstatic hkP hinitP hy (g := g) hg (argsL := argsL) (rest := rest) (hlen _ hsigM) hstack hdg
  obtain ⟨v, B, X', hpost, hsteps⟩ := hK m meth c ⟨T.setVm vm₁, locs, cells, slots⟩ { g with stack := rest } (.invokestatic index) mk argsL.toArray X₁ hg hsize hdg hW (X₁.named hnamed) (hpre vm₁ X₁.warmed)
  exact ⟨v, vm₁, B, X₁.warmed, X', hpost, fun target h => hstep₁ _ fun acts => by rw [doInvoke_state]; exact hsteps.trans h⟩
theorem vx_runSW {y : MethodName} {bytes cc : ByteArray} {maxL nL mc ms n index : Nat} {ret : Option FieldType} {hh : List (Nat × Nat × Nat × Nat)} {ws : List Cond} {rm : Room} {Pc : Array Value → State → Prop} {Qc : Array Value → State → Outcome → State → Prop} {free : Addr → Prop} {Ts : List Cond} {own : String} {As rest : List Value} {g : JFrame}
    (S : CallFix p m c cc nL s args Ts own) (hM : Met l y ws rm Pc Qc mc ms free) (cw : vx_CSW R s args own index y bytes maxL ret hh ws rm mc ms n) (hp : PreS s H Pc As)
    (hg : g.method = m) (hn : As.length = n) (hsize : g.locals.size = nL) (hstack : g.stack = As.reverse ++ rest) (hW : 2 * g.monitorRoom + (rest.map fun v => v.category).sum ≤ 8) (hdg : decode cc g.pc = .ok (.invokestatic index, 3)) (hf : cells + mc ≤ R.cells ∧ slots + ms ≤ R.slots) :
    va_Run p l e R s m args below meth c H locs cells slots mc ms g rest (Qc As.toArray) (free) := by
  obtain ⟨⟨hrc, hrs, hfr, hlo, hws, hcw⟩, hcode, hini, hy, hlen, hl, hstt⟩ := cw
  have hK : Back l R p e below s args y 3 8 (PreOf R mc ms Pc) (PostOf Qc mc ms free) := va_backW (hh := hh) (bytes := bytes) (maxL := maxL) (ret := ret) hM hp.1 hrc hrs hfr hlo hws hcw (fun a' U hW => word_at hW (Or.inl (by first | rfl | simp [Cond.onTables, Cond.keeps, Cond.steady])) hini)
  obtain ⟨hx, hb, hml, ho, -⟩ := S
  intro T hT X
  obtain ⟨v, vm₁, ⟨U', l2, c2, s2⟩, hW₁, X', ⟨g', mk, t, L, e1, e2, hq, h1, hL, h2, h3⟩, st⟩ := vx_callSW X hx (hh := hh) (bytes := bytes) (maxL := maxL) (ret := ret) ho hl hstt hini hcode hy hK hg (hsize.trans hml.symm) (argsL := As) (rest := rest) (fun sig h => hn.trans (hlen sig h)) hstack hW (by rw [hb]; exact hdg)
    (fun vm₁ hW₁ => ⟨hf.1, hf.2, hp.2 (T.setVm vm₁) hT hW₁⟩)
  dsimp only [Pt.U, Pt.locs, Pt.cells, Pt.slots] at X' e1 e2 h1 h2 h3 st
  subst h1; subst h2; subst h3
  exact ⟨v, (T.setVm vm₁).calling g' mk As.toArray, t, U', L, hT, X', hL, e1, e2, hq, st⟩
/-- not caught here, past rows that name other classes: it goes on to the caller -/
theorem vx_outP {p : Program} {l : Launch} {e : Env} {R : Room} {s : State} {m : MethodId} {args : Array Value} {below : List Frame} {meth : Method} {c : Code} {H : Heap} {locs : List Loc} {cells slots : Nat} {free : Addr → Prop} {ls : Array Slot} {rest : List Value} {Qc : Array Value → State → Outcome → State → Prop} {XC : String → State → State → Prop}
    {pc : Nat} {own E : String} {ce : Cell} {q : Addr} {mc ms : Nat} (hown : s.vm.findClass own = some m.cls) (hlocks : meth.locks = false)
    (hpass : ∀ z ∈ c.exceptionTable.toList, covers z pc = false ∨ (z.catchType ≠ 0 ∧ ∃ nm : String, (Cond.classLink own z.catchType nm).before args s = true ∧ va_Nc E nm s)) (hcell : H[q]? = some ce) (hv : ce.vm = .none) (hcl : s.vm.findClass E = some ce.cls)
    (hx : ∀ t : State, t.heap = H → s.vm.Alike t.vm → XC E s t) (hf : ∀ z ∈ locs, free z.base) (hc : cells ≤ mc) (hs : slots ≤ ms) :
    vx_W p l e R s m args below meth c H locs cells slots (vx_MQ below Qc XC args s mc ms free) (F0 m pc ls rest) q := by
  intro T hT X
  have hpl : e.platform.magicAccessors = ({} : Platform).magicAccessors := by rw [X.admits.platform]
  obtain ⟨vm', hW', X', st⟩ := X.outThrough hlocks q (g := F0 m pc ls rest) rfl rfl rfl (cell := ce) (by rw [hT]; exact hcell) (by rw [hv]; rfl)
    (by obtain ⟨k9, h9, -⟩ := Vm.findClass_spec hcl; exact ⟨k9, h9⟩) (fun z hz => by
      rcases hpass z hz with h | ⟨hz0, nm, hl1, hn1⟩
      · exact Or.inl h
      · obtain ⟨c6, hc6, hcl6⟩ := Cond.classLink_spec hown hl1 e.platform hpl
        obtain ⟨a8, b8, h1, h2, h3⟩ := hn1
        cases Option.some.inj (h1.symm.trans hcl)
        cases Option.some.inj (h2.symm.trans hc6)
        exact Or.inr ⟨hz0, _, hcl6, h3⟩)
  obtain ⟨g₀, hfr⟩ := X'.frames_eq
  have hcell9 : ((T.setVm vm').setFrames (.throwing q :: below)).heap[q]? = some ce := by
    show T.heap[q]? = some ce
    rw [hT]; exact hcell
  have hend : Ended ((T.setVm vm').setFrames (.throwing q :: below)) below (.threw q) := State.frames_setFrames _ (State.cur_lt_of_frames hfr)
  refine ⟨(T.setVm vm').setFrames (.throwing q :: below), ?_, .threw q, X'.here.running, hend, Or.inr ⟨q, rfl, E, ce, locs, hx _ hT (X'.ends _).1.alike, hcell9, hv, hcl, (X'.ends _).1, (X'.ends _).2.mono hc hs, hf⟩⟩
  rw [X.pushThrowing_eq]
  exact st
/-- a thing of a world lies in the heap -/
theorem vx_lt {D : va_G} {cl : List vw_C} {ws : va_W} {H1 : Heap} (h : va_P D cl ws H1) {k : Nat} {q : Nat × va_E} (hk : ws[k]? = some q) : q.1 < H1.size := (h k q hk).lt
end VXS
/-! ===== END ===== -/
/-! ===== BEGIN methods with a table of their own: called by a name, returning or throwing ===== -/
section VXH
/-! vx_backW, vx_callVX, vx_callSX, vx_callVW, vx_runVW, vx_runVX, vx_runSX, vx_ofWH follow the same proofs as their sisters above (Free/Laws.lean, Shelf42/LK1.lean); vx_outP calls Shelf42/NT130.lean (outThrough). -/
section
variable {l : Launch} {R : Room} {p : Program} {e : Env} {below : List Frame} {s : State} {sargs : Array Value} {y : MethodName} {len W9 : Nat}
theorem vx_backW {ws : List Cond} {rm : Room} {Pc : Array Value → State → Prop} {Qc : Array Value → State → Outcome → State → Prop} {XC : String → State → State → Prop} {mc ms : Nat} {free : Addr → Prop} {bytes : ByteArray} {maxL : Nat} {ret : Option FieldType} {hh : List (Nat × Nat × Nat × Nat)}
    (hM : vx_Met l y ws rm Pc Qc XC mc ms free) (hblind : FrameBlind Pc) (hrc : rm.cells = mc) (hrs : rm.slots = ms)
    (hframes : rm.frames + 1 ≤ R.frames) (hlocals : W9 + (maxL + 11) + rm.locals ≤ R.locals)
    (hws : ∀ w ∈ ws, ∀ a' U, s.WarmedH U.vm → w.before a' U = true) (hcode : Cond.codeWith y bytes maxL ret hh ∈ ws) (hinit : ∀ a' U, s.WarmedH U.vm → (Cond.initialized y.cls).before a' U = true) :
    vx_Back l R p e below s sargs y len W9 (PreOf R mc ms Pc) (PostOf Qc mc ms free) (vx_Post XC mc ms free) := by
  intro m meth c A g ig mk a X hg hsize hdg hW hn hp
  have h1 : (headSpec ws rm).pre.before a A.U = true := atoms_intro fun w hw => hws w hw _ _ X.warmed
  have h2 : (Cond.codeWith y bytes maxL ret hh).before a A.U = true := hws _ hcode _ _ X.warmed
  have h3 : (Cond.initialized y.cls).before a A.U = true := hinit _ _ X.warmed
  have h4 : A.cells + (headSpec ws rm).room.cells ≤ R.cells := by rw [show (headSpec ws rm).room.cells = mc from hrc]; exact hp.1
  have h5 : A.slots + (headSpec ws rm).room.slots ≤ R.slots := by rw [show (headSpec ws rm).room.slots = ms from hrs]; exact hp.2.1
  have hPc : Pc a (A.U.calling g mk a) := hblind _ _ _ _ hp.2.2
  obtain ⟨U, Ls, c0, s0⟩ := A
  dsimp only [Pt.U, Pt.locs, Pt.cells, Pt.slots] at h1 h2 h3 h4 h5 X hn hPc ⊢
  obtain ⟨m9, methY, cY, hn9, hmY, hcY, -, hlY, -⟩ := Cond.codeWith_spec h2
  cases Option.some.inj (hn9.symm.trans hn)
  obtain ⟨kY, hkY, -⟩ := className_of_methodNamed hn
  have hinitY : kY.init = .initialized := Cond.initialized_spec (findClass_of_methodNamed hn) hkY h3
  have h : At U g.method c below := by rw [hg]; exact X.here
  have hlocals9 : W9 + (maxL + 11) + (headSpec ws rm).room.locals ≤ R.locals := hlocals
  have happ : (headSpec ws rm).appliesLoose y e.platform (U.calling g mk a) = true :=
    Spec.appliesLoose_calling (g := g) h hdg hn hkY hinitY
      (X.room_calling (g := g) (R' := (headSpec ws rm).room) hsize hmY hcY hframes (by rw [hlY]; omega) h4 h5) h1
  obtain ⟨mid, hmid⟩ := h.above
  have hfr : (U.setTop g).frames = (.java g :: mid) ++ below := by rw [State.frames_setTop' g h.top, hmid]; rfl
  obtain ⟨o, s₂, hsteps, -, hend, hq⟩ := Steps.callFree hM p X.admits X.cas X.clock (acts := []) hfr happ hPc trivial
  have hq' : vx_Q Qc XC mc ms free a (U.calling g mk a) o s₂ := hq
  rw [State.frames_setTop' g h.top] at hend
  obtain ⟨g₀, hg0⟩ := Option.isSome_iff_exists.mp h.top
  obtain ⟨r, hr⟩ := State.topJava?_eq_some.mp hg0
  have hr' : (({ U with heap := s₂.heap, slotsUsed := s₂.slotsUsed } : State).setVm s₂.vm).frames = .java g₀ :: r := hr
  rcases hq' with ⟨hqc, L, hfe, hL⟩ | ⟨q, rfl, E, ce, L, hx, hce, hcv, hcl, hW₂, hsm, hL⟩
  · obtain ⟨⟨v, rfl⟩, hW₂, e2, q2, q3, q4, q5, q6⟩ := id hfe
    have e3 : s₂ = ({ (U.calling g mk a).setFrames s₂.frames with heap := s₂.heap, slotsUsed := s₂.slotsUsed } : State).setVm s₂.vm := by
      have : s₂ = ({ s₂ with vm := (U.calling g mk a).vm } : State).setVm s₂.vm := rfl
      rw [e2] at this
      exact this
    obtain ⟨c₂, i₂, len₂, hc₂, hd₂, hf₂⟩ := hend
    have hW' : U.WarmedH s₂.vm := hW₂
    have hcc : c₂ = c := by
      have h1 : s₂.code? g.method = U.code? g.method := by
        rw [State.code?_eq, State.code?_eq, hW'.alike.method?]
      exact Option.some.inj (hc₂.symm.trans (h1.trans h.code))
    subst hcc
    have hlen : len₂ = len := by rw [hdg] at hd₂; cases hd₂; rfl
    subst hlen
    have hs₂ : s₂ = (({ U with heap := s₂.heap, slotsUsed := s₂.slotsUsed } : State).setVm s₂.vm).setTop { g with pc := g.pc + len₂, stack := v.toList ++ g.stack } := by
      refine e3.trans ?_
      rw [hf₂, State.calling_eq h.top, State.setFrames_setFrames, State.setTop_of_frames _ hr', hr]
      rfl
    have hsame : U.sameButNew ({ U with heap := s₂.heap, slotsUsed := s₂.slotsUsed } : State) L mc ms := by
      refine ⟨?_, q2, q3, q4, q5, q6⟩
      obtain ⟨t, ht, -⟩ := State.frames_cons hr
      show ({ U with heap := s₂.heap, slotsUsed := s₂.slotsUsed } : State) = { U.setFrames U.frames with heap := s₂.heap, slotsUsed := s₂.slotsUsed }
      rw [State.setFrames_self ht]
    subst hg
    refine Or.inl ⟨v, ⟨(({ U with heap := s₂.heap, slotsUsed := s₂.slotsUsed } : State).setVm s₂.vm), Ls ++ L, c0 + mc, s0 + ms⟩,
      ⟨X.admits, X.cas, X.clock, X.frames, X.room, X.hears, X.method, X.code, (X.here.setHeapUsed s₂.heap s₂.slotsUsed).setVm hW'.alike, X.tail, State.WarmedH.trans X.warmed hW', X.limits, X.bytes, X.same.trans (hsame.setVm s.vm)⟩,
      ⟨g, mk, s₂, L, rfl, rfl, hqc, rfl, hL, rfl, rfl⟩, ?_⟩
    show Steps p.tables e below _ ((({ U with heap := s₂.heap, slotsUsed := s₂.slotsUsed } : State).setVm s₂.vm).setTop { g with pc := g.pc + len₂, stack := v.toList ++ g.stack })
    rw [← hs₂]
    exact hsteps
  · obtain ⟨e2, q2, q3, q4, q5, q6⟩ := id hsm
    have e3 : s₂ = ({ (U.calling g mk a).setFrames s₂.frames with heap := s₂.heap, slotsUsed := s₂.slotsUsed } : State).setVm s₂.vm := by
      have : s₂ = ({ s₂ with vm := (U.calling g mk a).vm } : State).setVm s₂.vm := rfl
      rw [e2] at this
      exact this
    have hf₂ : s₂.frames = .throwing q :: .java g :: U.frames.tail := hend
    have hW' : U.WarmedH s₂.vm := hW₂
    have hs₂ : s₂ = ((({ U with heap := s₂.heap, slotsUsed := s₂.slotsUsed } : State).setVm s₂.vm).setTop g).pushFrame (.throwing q) := by
      refine e3.trans ?_
      rw [hf₂, State.calling_eq h.top, State.setFrames_setFrames, State.pushFrame, State.frames_setTop _ hr', State.setTop_of_frames _ hr', State.setFrames_setFrames, hr]
      rfl
    have hsame : U.sameButNew ({ U with heap := s₂.heap, slotsUsed := s₂.slotsUsed } : State) L mc ms := by
      refine ⟨?_, q2, q3, q4, q5, q6⟩
      obtain ⟨t, ht, -⟩ := State.frames_cons hr
      show ({ U with heap := s₂.heap, slotsUsed := s₂.slotsUsed } : State) = { U.setFrames U.frames with heap := s₂.heap, slotsUsed := s₂.slotsUsed }
      rw [State.setFrames_self ht]
    subst hg
    refine Or.inr ⟨q, ⟨(({ U with heap := s₂.heap, slotsUsed := s₂.slotsUsed } : State).setVm s₂.vm), Ls ++ L, c0 + mc, s0 + ms⟩,
      ⟨X.admits, X.cas, X.clock, X.frames, X.room, X.hears, X.method, X.code, (X.here.setHeapUsed s₂.heap s₂.slotsUsed).setVm hW'.alike, X.tail, State.WarmedH.trans X.warmed hW', X.limits, X.bytes, X.same.trans (hsame.setVm s.vm)⟩,
      ⟨g, mk, s₂, L, E, ce, rfl, rfl, hx, hce, hcv, hcl, rfl, hL, rfl, rfl⟩, ?_⟩
    show Steps p.tables e below _ (((({ U with heap := s₂.heap, slotsUsed := s₂.slotsUsed } : State).setVm s₂.vm).setTop g).pushFrame (.throwing q))
    rw [← hs₂]
    exact hsteps
end
variable {p : Program} {l : Launch} {e : Env} {R : Room} {s : State} {m : MethodId} {args : Array Value} {below : List Frame} {meth : Method} {c : Code} {T : State} {H : Heap} {locs : List Loc} {cells slots : Nat}
theorem vx_callVX (X : Stand p l e R s m args below meth c T locs cells slots) (hexec : p.tables.exec = Jvm.exec) {own C : String} {index : Nat} {y : MethodName} {bytes : ByteArray} {maxL : Nat} {ret : Option FieldType} {hh : List (Nat × Nat × Nat × Nat)}
    (hown : s.vm.findClass own = some m.cls) (hlink : (Cond.methodLink own index y).before args s = true) (hinst : (Cond.instanceMethod y).before args s = true) (hsel : (Cond.selects C y y).before args s = true)
    (hcode : (Cond.codeWith y bytes maxL ret hh).before args s = true) (hy : y.cls ≠ "java/lang/invoke/MethodHandle" ∧ y.cls ≠ "java/lang/invoke/VarHandle")
    {W9 : Nat} {Pre : Pt → Array Value → Prop} {Post : Pt → Array Value → Option Value → Pt → Prop} {PostX : Pt → Array Value → Addr → Pt → Prop} (hK : vx_Back l R p e below s args y 3 W9 Pre Post PostX)
    {b : Addr} {cellB : Cell} (hcell : T.heap[b]? = some cellB) (hobj : cellB.vm.isStatics = false) (hcls : s.vm.findClass C = some cellB.cls)
    {g : JFrame} (hg : g.method = m) (hsize : g.locals.size = c.maxLocals) {argsL rest : List Value} (hlen : ∀ sig, parseMethodDescriptor y.desc = some sig → argsL.length = sig.parameters.length)
    (hstack : g.stack = argsL.reverse ++ .ref b :: rest) (hW : 2 * g.monitorRoom + (rest.map fun v => v.category).sum ≤ W9) (hdg : decode c.code g.pc = .ok (.invokevirtual index, 3))
    (hpre : ∀ vm₁, s.WarmedH vm₁ → Pre ⟨T.setVm vm₁, locs, cells, slots⟩ (Value.ref b :: argsL).toArray) :
    (∃ (v : Option Value) (vm₁ : Vm) (B : Pt), s.WarmedH vm₁ ∧ Stand p l e R s m args below meth c B.U B.locs B.cells B.slots ∧ Post ⟨T.setVm vm₁, locs, cells, slots⟩ (Value.ref b :: argsL).toArray v B ∧
      ∀ target, Steps p.tables e below (B.U.setTop { g with pc := g.pc + 3, stack := v.toList ++ rest }) target → Steps p.tables e below (T.setTop g) target) ∨
    (∃ (q : Addr) (vm₁ : Vm) (B : Pt), s.WarmedH vm₁ ∧ Stand p l e R s m args below meth c B.U B.locs B.cells B.slots ∧ PostX ⟨T.setVm vm₁, locs, cells, slots⟩ (Value.ref b :: argsL).toArray q B ∧
      Steps p.tables e below (T.setTop g) ((B.U.setTop { g with stack := rest }).pushFrame (.throwing q))) := by
  obtain ⟨mk, methM, hnamed, hmethM, hstM, habM⟩ := Cond.instanceMethod_spec hinst
  obtain ⟨m8, methM', cM, hn8, hmethM', -, -, -, -, -, -, hsigM⟩ := Cond.codeWith_spec hcode
  cases Option.some.inj (hn8.symm.trans hnamed)
  cases hmethM.symm.trans hmethM'
  obtain ⟨c2, r2, m2, q1, q2, q3, q4, kP, hkP, hkPi⟩ := Cond.selects_spec hsel
  cases hcls.symm.trans q1
  cases (State.methodFound?_of_named hnamed hy).symm.trans q2
  cases hnamed.symm.trans q3
  have hselP : selectMethod e.platform s.vm cellB.cls mk = .method mk := by rw [Launch.admits_selectMethod X.admits]; exact q4
  obtain ⟨vm₁, X₁, hstep₁⟩ := X.invokevirtual hexec hown hlink hnamed hmethM hstM hkP hkPi hy (a := b) (cell := cellB) hcell
    (fun z h => by rw [h] at hobj; cases hobj) hselP hmethM habM hkP hkPi (g := g) hg (argsL := argsL) (rest := rest) (hlen _ hsigM) hstack hdg
  rcases hK m meth c ⟨T.setVm vm₁, locs, cells, slots⟩ { g with stack := rest } (.invokevirtual index) mk (Value.ref b :: argsL).toArray X₁ hg hsize hdg hW (X₁.named hnamed) (hpre vm₁ X₁.warmed) with ⟨v, B, X', hpost, hsteps⟩ | ⟨q, B, X', hpost, hsteps⟩
  · exact Or.inl ⟨v, vm₁, B, X₁.warmed, X', hpost, fun target h => hstep₁ _ fun acts => by rw [doInvoke_state]; exact hsteps.trans h⟩
  · exact Or.inr ⟨q, vm₁, B, X₁.warmed, X', hpost, hstep₁ _ fun acts => by rw [doInvoke_state]; exact hsteps⟩
theorem vx_callSX (X : Stand p l e R s m args below meth c T locs cells slots) (hexec : p.tables.exec = Jvm.exec) {own : String} {index : Nat} {y : MethodName} {bytes : ByteArray} {maxL : Nat} {ret : Option FieldType} {hh : List (Nat × Nat × Nat × Nat)}
    (hown : s.vm.findClass own = some m.cls) (hlink : (Cond.methodLink own index y).before args s = true) (hstat : (Cond.static y).before args s = true) (hinit : (Cond.initialized y.cls).before args s = true)
    (hcode : (Cond.codeWith y bytes maxL ret hh).before args s = true) (hy : y.cls ≠ "java/lang/invoke/MethodHandle" ∧ y.cls ≠ "java/lang/invoke/VarHandle")
    {W9 : Nat} {Pre : Pt → Array Value → Prop} {Post : Pt → Array Value → Option Value → Pt → Prop} {PostX : Pt → Array Value → Addr → Pt → Prop} (hK : vx_Back l R p e below s args y 3 W9 Pre Post PostX)
    {g : JFrame} (hg : g.method = m) (hsize : g.locals.size = c.maxLocals) {argsL rest : List Value} (hlen : ∀ sig, parseMethodDescriptor y.desc = some sig → argsL.length = sig.parameters.length)
    (hstack : g.stack = argsL.reverse ++ rest) (hW : 2 * g.monitorRoom + (rest.map fun v => v.category).sum ≤ W9) (hdg : decode c.code g.pc = .ok (.invokestatic index, 3))
    (hpre : ∀ vm₁, s.WarmedH vm₁ → Pre ⟨T.setVm vm₁, locs, cells, slots⟩ argsL.toArray) :
    (∃ (v : Option Value) (vm₁ : Vm) (B : Pt), s.WarmedH vm₁ ∧ Stand p l e R s m args below meth c B.U B.locs B.cells B.slots ∧ Post ⟨T.setVm vm₁, locs, cells, slots⟩ argsL.toArray v B ∧
      ∀ target, Steps p.tables e below (B.U.setTop { g with pc := g.pc + 3, stack := v.toList ++ rest }) target → Steps p.tables e below (T.setTop g) target) ∨
    (∃ (q : Addr) (vm₁ : Vm) (B : Pt), s.WarmedH vm₁ ∧ Stand p l e R s m args below meth c B.U B.locs B.cells B.slots ∧ PostX ⟨T.setVm vm₁, locs, cells, slots⟩ argsL.toArray q B ∧
      Steps p.tables e below (T.setTop g) ((B.U.setTop { g with stack := rest }).pushFrame (.throwing q))) := by
  obtain ⟨mk, methM, cM, hnamed, hmethM, -, -, -, -, -, -, hsigM⟩ := Cond.codeWith_spec hcode
  have hstatic : methM.isStatic = true := Cond.static_spec hnamed hmethM hstat
  obtain ⟨kP, hkP, -⟩ := className_of_methodNamed hnamed
  have hinitP : kP.init = .initialized := Cond.initialized_spec (findClass_of_methodNamed hnamed) hkP hinit
  obtain ⟨vm₁, X₁, hstep₁⟩ := X.invokestatic hexec hown hlink hnamed hmethM hstatic hkP hinitP hy (g := g) hg (argsL := argsL) (rest := rest) (hlen _ hsigM) hstack hdg
  rcases hK m meth c ⟨T.setVm vm₁, locs, cells, slots⟩ { g with stack := rest } (.invokestatic index) mk argsL.toArray X₁ hg hsize hdg hW (X₁.named hnamed) (hpre vm₁ X₁.warmed) with ⟨v, B, X', hpost, hsteps⟩ | ⟨q, B, X', hpost, hsteps⟩
  · exact Or.inl ⟨v, vm₁, B, X₁.warmed, X', hpost, fun target h => hstep₁ _ fun acts => by rw [doInvoke_state]; exact hsteps.trans h⟩
  · exact Or.inr ⟨q, vm₁, B, X₁.warmed, X', hpost, hstep₁ _ fun acts => by rw [doInvoke_state]; exact hsteps⟩
theorem vx_callVW (X : Stand p l e R s m args below meth c T locs cells slots) (hexec : p.tables.exec = Jvm.exec) {own C : String} {index : Nat} {y : MethodName} {bytes : ByteArray} {maxL : Nat} {ret : Option FieldType} {hh : List (Nat × Nat × Nat × Nat)}
    (hown : s.vm.findClass own = some m.cls) (hlink : (Cond.methodLink own index y).before args s = true) (hinst : (Cond.instanceMethod y).before args s = true) (hsel : (Cond.selects C y y).before args s = true)
    (hcode : (Cond.codeWith y bytes maxL ret hh).before args s = true) (hy : y.cls ≠ "java/lang/invoke/MethodHandle" ∧ y.cls ≠ "java/lang/invoke/VarHandle")
    {W9 : Nat} {Pre : Pt → Array Value → Prop} {Post : Pt → Array Value → Option Value → Pt → Prop} (hK : Back l R p e below s args y 3 W9 Pre Post)
    {b : Addr} {cellB : Cell} (hcell : T.heap[b]? = some cellB) (hobj : cellB.vm.isStatics = false) (hcls : s.vm.findClass C = some cellB.cls)
    {g : JFrame} (hg : g.method = m) (hsize : g.locals.size = c.maxLocals) {argsL rest : List Value} (hlen : ∀ sig, parseMethodDescriptor y.desc = some sig → argsL.length = sig.parameters.length)
    (hstack : g.stack = argsL.reverse ++ .ref b :: rest) (hW : 2 * g.monitorRoom + (rest.map fun v => v.category).sum ≤ W9) (hdg : decode c.code g.pc = .ok (.invokevirtual index, 3))
    (hpre : ∀ vm₁, s.WarmedH vm₁ → Pre ⟨T.setVm vm₁, locs, cells, slots⟩ (Value.ref b :: argsL).toArray) :
    ∃ (v : Option Value) (vm₁ : Vm) (B : Pt), s.WarmedH vm₁ ∧ Stand p l e R s m args below meth c B.U B.locs B.cells B.slots ∧ Post ⟨T.setVm vm₁, locs, cells, slots⟩ (Value.ref b :: argsL).toArray v B ∧
      ∀ target, Steps p.tables e below (B.U.setTop { g with pc := g.pc + 3, stack := v.toList ++ rest }) target → Steps p.tables e below (T.setTop g) target := by
  obtain ⟨mk, methM, hnamed, hmethM, hstM, habM⟩ := Cond.instanceMethod_spec hinst
  obtain ⟨m8, methM', cM, hn8, hmethM', -, -, -, -, -, -, hsigM⟩ := Cond.codeWith_spec hcode
  cases Option.some.inj (hn8.symm.trans hnamed)
  cases hmethM.symm.trans hmethM'
  obtain ⟨c2, r2, m2, q1, q2, q3, q4, kP, hkP, hkPi⟩ := Cond.selects_spec hsel
  cases hcls.symm.trans q1
  cases (State.methodFound?_of_named hnamed hy).symm.trans q2
  cases hnamed.symm.trans q3
  have hselP : selectMethod e.platform s.vm cellB.cls mk = .method mk := by rw [Launch.admits_selectMethod X.admits]; exact q4
  obtain ⟨vm₁, X₁, hstep₁⟩ := X.invokevirtual hexec hown hlink hnamed hmethM hstM hkP hkPi hy (a := b) (cell := cellB) hcell
    (fun z h => by rw [h] at hobj; cases hobj) hselP hmethM habM hkP hkPi (g := g) hg (argsL := argsL) (rest := rest) (hlen _ hsigM) hstack hdg
  obtain ⟨v, B, X', hpost, hsteps⟩ := hK m meth c ⟨T.setVm vm₁, locs, cells, slots⟩ { g with stack := rest } (.invokevirtual index) mk (Value.ref b :: argsL).toArray X₁ hg hsize hdg hW (X₁.named hnamed) (hpre vm₁ X₁.warmed)
  exact ⟨v, vm₁, B, X₁.warmed, X', hpost, fun target h => hstep₁ _ fun acts => by rw [doInvoke_state]; exact hsteps.trans h⟩
abbrev vx_CVW (R : Room) (s : State) (args : Array Value) (own C : String) (index : Nat) (y : MethodName) (bytes : ByteArray) (maxL : Nat) (ret : Option FieldType) (hh : List (Nat × Nat × Nat × Nat)) (ws : List Cond) (rm : Room) (mc ms n : Nat) : Prop :=
  (rm.cells = mc ∧ rm.slots = ms ∧ rm.frames + 1 ≤ R.frames ∧ 8 + (maxL + 11) + rm.locals ≤ R.locals ∧ (∀ w ∈ ws, ∀ (a' : Array Value) (U : State), s.WarmedH U.vm → w.before a' U = true) ∧ Cond.codeWith y bytes maxL ret hh ∈ ws) ∧
  (Cond.codeWith y bytes maxL ret hh).before args s = true ∧ (Cond.initialized y.cls).before args s = true ∧ (y.cls ≠ "java/lang/invoke/MethodHandle" ∧ y.cls ≠ "java/lang/invoke/VarHandle") ∧
  (∀ sig, parseMethodDescriptor y.desc = some sig → n = sig.parameters.length) ∧ (Cond.methodLink own index y).before args s = true ∧ (Cond.instanceMethod y).before args s = true ∧ (Cond.selects C y y).before args s = true
theorem vx_cwVW {own C : String} {index maxL mc ms : Nat} {y : MethodName} {bytes : ByteArray} {ret : Option FieldType} {hh : List (Nat × Nat × Nat × Nat)} {Ts ws ws' : List Cond} {rm : Room} (n : Nat) (ht : ∀ w ∈ Ts, w.before args s = true) (hT : GoodIn Ts (wsV own index C y ws)) (hw : ws = Cond.codeWith y bytes maxL ret hh :: ws') (hrc : rm.cells = mc) (hrs : rm.slots = ms)
    (hd : y.cls = C ∧ y.cls ≠ "java/lang/invoke/MethodHandle" ∧ y.cls ≠ "java/lang/invoke/VarHandle" ∧ (parseMethodDescriptor y.desc).map (fun d => d.parameters.length) = some n) (hR : rm.frames + 1 ≤ R.frames ∧ 8 + (maxL + 11) + rm.locals ≤ R.locals) :
    vx_CVW R s args own C index y bytes maxL ret hh ws rm mc ms n := by
  obtain ⟨hC, hd⟩ := hd
  subst hC
  have ok : ∀ w ∈ wsV own index y.cls y ws, w.before args s = true := fun w h => ht w (hT w h).1
  have hG : GoodIn Ts ws := fun w h => hT w (by unfold wsV; exact List.mem_append_right _ h)
  have hc : Cond.codeWith y bytes maxL ret hh ∈ ws := by rw [hw]; exact List.mem_cons_self
  refine ⟨⟨hrc, hrs, hR.1, hR.2, pay_in ht hG, hc⟩, ht _ (hG _ hc).1, ok _ (by simp [wsV]), ⟨hd.1, hd.2.1⟩, fun sig h => ?_, ok _ (by simp [wsV]), ok _ (by simp [wsV]), ok _ (by simp [wsV])⟩
  have h2 := hd.2.2
  rw [h] at h2
  exact (Option.some.inj h2).symm
theorem vx_runVW {y : MethodName} {bytes cc : ByteArray} {maxL nL mc ms n index : Nat} {ret : Option FieldType} {hh : List (Nat × Nat × Nat × Nat)} {ws : List Cond} {rm : Room} {Pc : Array Value → State → Prop} {Qc : Array Value → State → Outcome → State → Prop} {free : Addr → Prop} {Ts : List Cond} {own C : String} {b : Addr} {As rest : List Value} {g : JFrame}
    (S : CallFix p m c cc nL s args Ts own) (hM : Met l y ws rm Pc Qc mc ms free) (cw : vx_CVW R s args own C index y bytes maxL ret hh ws rm mc ms n) (hp : PreV s H C b Pc As)
    (hg : g.method = m) (hn : As.length = n) (hsize : g.locals.size = nL) (hstack : g.stack = As.reverse ++ .ref b :: rest) (hW : 2 * g.monitorRoom + (rest.map fun v => v.category).sum ≤ 8) (hdg : decode cc g.pc = .ok (.invokevirtual index, 3)) (hf : cells + mc ≤ R.cells ∧ slots + ms ≤ R.slots) :
    va_Run p l e R s m args below meth c H locs cells slots mc ms g rest (Qc (Value.ref b :: As).toArray) free := by
  obtain ⟨⟨hrc, hrs, hfr, hlo, hws, hcw⟩, hcode, hini, hy, hlen, hl, hin, hse⟩ := cw
  have hK : Back l R p e below s args y 3 8 (PreOf R mc ms Pc) (PostOf Qc mc ms free) := va_backW (hh := hh) (bytes := bytes) (maxL := maxL) (ret := ret) hM hp.1 hrc hrs hfr hlo hws hcw (fun a' U hW => word_at hW (Or.inl (by first | rfl | simp [Cond.onTables, Cond.keeps, Cond.steady])) hini)
  obtain ⟨hx, hb, hml, ho, -⟩ := S
  obtain ⟨-, ⟨cellB, hcB, hoB, hclB⟩, hPc⟩ := hp
  intro T hT X
  obtain ⟨v, vm₁, ⟨U', l2, c2, s2⟩, hW₁, X', ⟨g', mk, t, L, e1, e2, hq, h1, hL, h2, h3⟩, st⟩ := vx_callVW X hx (C := C) (hh := hh) (bytes := bytes) (maxL := maxL) (ret := ret) ho hl hin hse hcode hy hK (by rw [hT]; exact hcB) hoB hclB hg (hsize.trans hml.symm) (argsL := As) (rest := rest) (fun sig h => hn.trans (hlen sig h)) hstack hW (by rw [hb]; exact hdg)
    (fun vm₁ hW₁ => ⟨hf.1, hf.2, hPc (T.setVm vm₁) hT hW₁⟩)
  dsimp only [Pt.U, Pt.locs, Pt.cells, Pt.slots] at X' e1 e2 h1 h2 h3 st
  subst h1; subst h2; subst h3
  exact ⟨v, (T.setVm vm₁).calling g' mk (Value.ref b :: As).toArray, t, U', L, hT, X', hL, e1, e2, hq, st⟩
section
variable {y : MethodName} {bytes cc : ByteArray} {maxL nL mc ms n index : Nat} {ret : Option FieldType} {ws : List Cond} {rm : Room} {Pc : Array Value → State → Prop} {Qc : Array Value → State → Outcome → State → Prop} {XC : String → State → State → Prop} {free : Addr → Prop} {Ts : List Cond} {own C : String} {b : Addr} {As rest : List Value} {g : JFrame}
theorem vx_runVX {hh : List (Nat × Nat × Nat × Nat)} (S : CallFix p m c cc nL s args Ts own) (hM : vx_Met l y ws rm Pc Qc XC mc ms free) (cw : vx_CVW R s args own C index y bytes maxL ret hh ws rm mc ms n) (hp : PreV s H C b Pc As)
    (hg : g.method = m) (hn : As.length = n) (hsize : g.locals.size = nL) (hstack : g.stack = As.reverse ++ .ref b :: rest) (hW : 2 * g.monitorRoom + (rest.map fun v => v.category).sum ≤ 8) (hdg : decode cc g.pc = .ok (.invokevirtual index, 3)) (hf : cells + mc ≤ R.cells ∧ slots + ms ≤ R.slots) :
    vx_Run p l e R s m args below meth c H locs cells slots mc ms g rest (Qc (Value.ref b :: As).toArray) XC free := by
  obtain ⟨⟨hrc, hrs, hfr, hlo, hws, hcw⟩, hcode, hini, hy, hlen, hl, hin, hse⟩ := cw
  have hK : vx_Back l R p e below s args y 3 8 (PreOf R mc ms Pc) (PostOf Qc mc ms free) (vx_Post XC mc ms free) := vx_backW (hh := hh) (bytes := bytes) (maxL := maxL) (ret := ret) hM hp.1 hrc hrs hfr hlo hws hcw (fun a' U hW => word_at hW (Or.inl (by first | rfl | simp [Cond.onTables, Cond.keeps, Cond.steady])) hini)
  obtain ⟨hx, hb, hml, ho, -⟩ := S
  obtain ⟨-, ⟨cellB, hcB, hoB, hclB⟩, hPc⟩ := hp
  intro T hT X
  rcases vx_callVX X hx (C := C) (hh := hh) (bytes := bytes) (maxL := maxL) (ret := ret) ho hl hin hse hcode hy hK (by rw [hT]; exact hcB) hoB hclB hg (hsize.trans hml.symm) (argsL := As) (rest := rest) (fun sig h => hn.trans (hlen sig h)) hstack hW (by rw [hb]; exact hdg)
    (fun vm₁ hW₁ => ⟨hf.1, hf.2, hPc (T.setVm vm₁) hT hW₁⟩) with ⟨v, vm₁, ⟨U', l2, c2, s2⟩, hW₁, X', ⟨g', mk, t, L, e1, e2, hq, h1, hL, h2, h3⟩, st⟩ | ⟨q, vm₁, ⟨U', l2, c2, s2⟩, hW₁, X', ⟨g', mk, t, L, E, ce, e1, e2, hq, hce, hcv, hcl, h1, hL, h2, h3⟩, st⟩
  · dsimp only [Pt.U, Pt.locs, Pt.cells, Pt.slots] at X' e1 e2 h1 h2 h3 st
    subst h1; subst h2; subst h3
    exact Or.inl ⟨v, (T.setVm vm₁).calling g' mk (Value.ref b :: As).toArray, t, U', L, hT, X', hL, e1, e2, hq, st⟩
  · dsimp only [Pt.U, Pt.locs, Pt.cells, Pt.slots] at X' e1 e2 h1 h2 h3 st hcl
    subst h1; subst h2; subst h3
    exact Or.inr ⟨q, (T.setVm vm₁).calling g' mk (Value.ref b :: As).toArray, t, U', L, E, ce, hT, X', hL, e1, e2, hq, hce, hcv, vx_cls hW₁ hcl, st⟩
theorem vx_runSX {hh : List (Nat × Nat × Nat × Nat)} (S : CallFix p m c cc nL s args Ts own) (hM : vx_Met l y ws rm Pc Qc XC mc ms free) (cw : vx_CSW R s args own index y bytes maxL ret hh ws rm mc ms n) (hp : PreS s H Pc As)
    (hg : g.method = m) (hn : As.length = n) (hsize : g.locals.size = nL) (hstack : g.stack = As.reverse ++ rest) (hW : 2 * g.monitorRoom + (rest.map fun v => v.category).sum ≤ 8) (hdg : decode cc g.pc = .ok (.invokestatic index, 3)) (hf : cells + mc ≤ R.cells ∧ slots + ms ≤ R.slots) :
    vx_Run p l e R s m args below meth c H locs cells slots mc ms g rest (Qc As.toArray) XC free := by
  obtain ⟨⟨hrc, hrs, hfr, hlo, hws, hcw⟩, hcode, hini, hy, hlen, hl, hstt⟩ := cw
  have hK : vx_Back l R p e below s args y 3 8 (PreOf R mc ms Pc) (PostOf Qc mc ms free) (vx_Post XC mc ms free) := vx_backW (hh := hh) (bytes := bytes) (maxL := maxL) (ret := ret) hM hp.1 hrc hrs hfr hlo hws hcw (fun a' U hW => word_at hW (Or.inl (by first | rfl | simp [Cond.onTables, Cond.keeps, Cond.steady])) hini)
  obtain ⟨hx, hb, hml, ho, -⟩ := S
  intro T hT X
  rcases vx_callSX X hx (hh := hh) (bytes := bytes) (maxL := maxL) (ret := ret) ho hl hstt hini hcode hy hK hg (hsize.trans hml.symm) (argsL := As) (rest := rest) (fun sig h => hn.trans (hlen sig h)) hstack hW (by rw [hb]; exact hdg)
    (fun vm₁ hW₁ => ⟨hf.1, hf.2, hp.2 (T.setVm vm₁) hT hW₁⟩) with ⟨v, vm₁, ⟨U', l2, c2, s2⟩, hW₁, X', ⟨g', mk, t, L, e1, e2, hq, h1, hL, h2, h3⟩, st⟩ | ⟨q, vm₁, ⟨U', l2, c2, s2⟩, hW₁, X', ⟨g', mk, t, L, E, ce, e1, e2, hq, hce, hcv, hcl, h1, hL, h2, h3⟩, st⟩
  · dsimp only [Pt.U, Pt.locs, Pt.cells, Pt.slots] at X' e1 e2 h1 h2 h3 st
    subst h1; subst h2; subst h3
    exact Or.inl ⟨v, (T.setVm vm₁).calling g' mk As.toArray, t, U', L, hT, X', hL, e1, e2, hq, st⟩
  · dsimp only [Pt.U, Pt.locs, Pt.cells, Pt.slots] at X' e1 e2 h1 h2 h3 st hcl
    subst h1; subst h2; subst h3
    exact Or.inr ⟨q, (T.setVm vm₁).calling g' mk As.toArray, t, U', L, E, ce, hT, X', hL, e1, e2, hq, hce, hcv, vx_cls hW₁ hcl, st⟩
end
end VXH
theorem vx_ofWH {l : Launch} {y : MethodName} {ws ws' : List Cond} {rm : Room} {Pc : Array Value → State → Prop} {Qc : Array Value → State → Outcome → State → Prop} {XC : String → State → State → Prop} {mc ms : Nat} {free : Addr → Prop} {cc : ByteArray} {maxL : Nat} {ret : Option FieldType} {hh : List (Nat × Nat × Nat × Nat)}
    (hy : plainName y.cls = true) (hw : ws = Cond.codeWith y cc maxL ret hh :: ws')
    (body : ∀ p e s m args below meth c s₁, BodyLoose p l y (headSpec ws rm) cc maxL ret e s m args below meth c s₁ → c.maxLocals = maxL → Pc args s →
      W p l e (headSpec ws rm).room s m args below meth c s.heap [] 0 0 (vx_MQ below Qc XC args s mc ms free) (entryFrame m args maxL)) : vx_Met l y ws rm Pc Qc XC mc ms free := by
  refine MetFree.of_bodyS (code := cc) (maxLocals := maxL) (ret := ret) hy ?_ ?_
  · intro args s m h hn
    obtain ⟨m9, meth, c, hn9, h1, h2, h3, h4, -, h5, h6, -⟩ := Cond.codeWith_spec (atoms_spec (ws := ws) h _ (by rw [hw]; exact List.mem_cons_self))
    cases hn.symm.trans hn9
    exact ⟨meth, c, h1, h2, h3, h4, h5, h6⟩
  · intro p e s m args below meth c s₁ B hml hP _
    have hh0 : s₁.heap = s.heap := by rw [B.state]; rfl
    obtain ⟨t, a1, o, b1, b2, b3⟩ := body p e s m args below meth c s₁ B hml hP s₁ hh0 (Stand.of_body B)
    exact ⟨t, o, a1, b1, b2, b3⟩
/-! ===== END ===== -/
end
section
/-! ===== BEGIN printed: names, fields, word lists, decode rows ===== -/
def RX0 : String := "PinCylinder$PinReader"
def TX0 : u_T := fun k => match k with
  | 0 => ("PinCylinder$PinReader", "phase", "I", false)
  | 1 => ("PinCylinder$PinReader", "tune", "I", false)
  | 2 => ("PinCylinder$PinReader", "tooth", "I", false)
  | 3 => ("PinCylinder$PinReader", "from", "I", false)
  | _ => ("PinCylinder$PinReader", "number", "I", false)
def tyX0 : Nat → FieldType := fun k => match k with
  | 0 => .int
  | 1 => .int
  | 2 => .int
  | 3 => .int
  | _ => .int
abbrev wsX00 : List Cond := u_ws RX0 TX0 5
theorem nmX0 : ∀ a, a < 5 → ∀ b, b < 5 → a ≠ b → (TX0 a).2.1 ≠ (TX0 b).2.1 := by decide +kernel
theorem tyX0_ok : ∀ k, k < 5 → parseFieldDescriptor (TX0 k).2.2.1 = some (tyX0 k) := by decide +kernel
abbrev cX0_init : ByteArray := prog_2_method_1_code
def yX0_init : MethodName := ⟨RX0, "<init>", "()V"⟩
abbrev cX0_start : ByteArray := prog_2_method_2_code
def yX0_start : MethodName := ⟨RX0, "start", "()V"⟩
abbrev cX0_isSeparator : ByteArray := prog_2_method_3_code
def yX0_isSeparator : MethodName := ⟨RX0, "isSeparator", "(C)Z"⟩
abbrev cX0_accepts : ByteArray := prog_2_method_4_code
def yX0_accepts : MethodName := ⟨RX0, "accepts", "(C)Z"⟩
abbrev cX0_isComplete : ByteArray := prog_2_method_5_code
def yX0_isComplete : MethodName := ⟨RX0, "isComplete", "()Z"⟩
abbrev cX0_rangeStart : ByteArray := prog_2_method_6_code
def yX0_rangeStart : MethodName := ⟨RX0, "rangeStart", "()I"⟩
abbrev cX0_goTo : ByteArray := prog_2_method_7_code
def yX0_goTo : MethodName := ⟨RX0, "goTo", "(I)Z"⟩
abbrev cX0_digitOf : ByteArray := prog_2_method_8_code
def yX0_digitOf : MethodName := ⟨RX0, "digitOf", "(C)I"⟩
abbrev cX0_acceptsTune : ByteArray := prog_2_method_9_code
def yX0_acceptsTune : MethodName := ⟨RX0, "acceptsTune", "(C)Z"⟩
abbrev cX0_acceptsToothDigit : ByteArray := prog_2_method_10_code
def yX0_acceptsToothDigit : MethodName := ⟨RX0, "acceptsToothDigit", "(C)Z"⟩
abbrev cX0_acceptsToothEnd : ByteArray := prog_2_method_11_code
def yX0_acceptsToothEnd : MethodName := ⟨RX0, "acceptsToothEnd", "(C)Z"⟩
abbrev cX0_acceptsStepDigit : ByteArray := prog_2_method_12_code
def yX0_acceptsStepDigit : MethodName := ⟨RX0, "acceptsStepDigit", "(C)Z"⟩
abbrev cX0_acceptsBehindStep : ByteArray := prog_2_method_13_code
def yX0_acceptsBehindStep : MethodName := ⟨RX0, "acceptsBehindStep", "(C)Z"⟩
abbrev cX0_acceptsRange : ByteArray := prog_2_method_14_code
def yX0_acceptsRange : MethodName := ⟨RX0, "acceptsRange", "()Z"⟩
abbrev cX0_acceptsRangeEndDigit : ByteArray := prog_2_method_15_code
def yX0_acceptsRangeEndDigit : MethodName := ⟨RX0, "acceptsRangeEndDigit", "(C)Z"⟩
abbrev cX0_acceptsBehindRangeEnd : ByteArray := prog_2_method_16_code
def yX0_acceptsBehindRangeEnd : MethodName := ⟨RX0, "acceptsBehindRangeEnd", "(C)Z"⟩
abbrev cX0_acceptsSeparator : ByteArray := prog_2_method_17_code
def yX0_acceptsSeparator : MethodName := ⟨RX0, "acceptsSeparator", "(C)Z"⟩
abbrev cX0_lengthened : ByteArray := prog_2_method_18_code
def yX0_lengthened : MethodName := ⟨RX0, "lengthened", "(IC)I"⟩
abbrev cX0_greatestFrom : ByteArray := prog_2_method_19_code
def yX0_greatestFrom : MethodName := ⟨RX0, "greatestFrom", "(I)I"⟩
def RX1 : String := "PinCylinder$State"
def TX1 : u_T := fun k => match k with
  | 0 => ("PinCylinder$State", "chords", "[I", true)
  | 1 => ("PinCylinder$State", "restsAt", "[I", true)
  | 2 => ("PinCylinder$State", "wear", "[I", true)
  | 3 => ("PinCylinder$State", "notesOf", "[I", true)
  | 4 => ("PinCylinder$State", "keptTeeth", "[I", true)
  | 5 => ("PinCylinder$State", "keptTimes", "[I", true)
  | 6 => ("PinCylinder$State", "settings", "[I", true)
  | 7 => ("PinCylinder$State", "broken", "I", false)
  | 8 => ("PinCylinder$State", "place", "I", false)
  | 9 => ("PinCylinder$State", "played", "I", false)
  | 10 => ("PinCylinder$State", "wind", "I", false)
  | 11 => ("PinCylinder$State", "vanes", "I", false)
  | 12 => ("PinCylinder$State", "time", "I", false)
  | 13 => ("PinCylinder$State", "stepsDone", "I", false)
  | 14 => ("PinCylinder$State", "notes", "I", false)
  | 15 => ("PinCylinder$State", "squeaks", "I", false)
  | _ => ("PinCylinder$State", "windNeeded", "I", false)
def tyX1 : Nat → FieldType := fun k => match k with
  | 0 => .array .int
  | 1 => .array .int
  | 2 => .array .int
  | 3 => .array .int
  | 4 => .array .int
  | 5 => .array .int
  | 6 => .array .int
  | 7 => .int
  | 8 => .int
  | 9 => .int
  | 10 => .int
  | 11 => .int
  | 12 => .int
  | 13 => .int
  | 14 => .int
  | 15 => .int
  | _ => .int
abbrev wsX10 : List Cond := u_ws RX1 TX1 17
theorem nmX1 : ∀ a, a < 17 → ∀ b, b < 17 → a ≠ b → (TX1 a).2.1 ≠ (TX1 b).2.1 := by decide +kernel
theorem tyX1_ok : ∀ k, k < 17 → parseFieldDescriptor (TX1 k).2.2.1 = some (tyX1 k) := by decide +kernel
abbrev cX1_init : ByteArray := prog_3_method_1_code
def yX1_init : MethodName := ⟨RX1, "<init>", "()V"⟩
abbrev cX1_become : ByteArray := prog_3_method_2_code
def yX1_become : MethodName := ⟨RX1, "become", "(LPinCylinder$State;)V"⟩
abbrev cX1_teethAt : ByteArray := prog_3_method_3_code
def yX1_teethAt : MethodName := ⟨RX1, "teethAt", "(II)I"⟩
abbrev cX1_hasPin : ByteArray := prog_3_method_4_code
def yX1_hasPin : MethodName := ⟨RX1, "hasPin", "(III)Z"⟩
abbrev cX1_putPin : ByteArray := prog_3_method_5_code
def yX1_putPin : MethodName := ⟨RX1, "putPin", "(III)V"⟩
abbrev cX1_hindrance : ByteArray := prog_3_method_6_code
def yX1_hindrance : MethodName := ⟨RX1, "hindrance", "(III)I"⟩
abbrev cX1_putRange : ByteArray := prog_3_method_7_code
def yX1_putRange : MethodName := ⟨RX1, "putRange", "(IIII)I"⟩
abbrev cX1_takeRange : ByteArray := prog_3_method_8_code
def yX1_takeRange : MethodName := ⟨RX1, "takeRange", "(IIII)I"⟩
abbrev cX1_replaceTune : ByteArray := prog_3_method_9_code
def yX1_replaceTune : MethodName := ⟨RX1, "replaceTune", "(IIII)V"⟩
abbrev cX1_pinFrom : ByteArray := prog_3_method_10_code
def yX1_pinFrom : MethodName := ⟨RX1, "pinFrom", "(III)I"⟩
abbrev cX1_goOnFor : ByteArray := prog_3_method_11_code
def yX1_goOnFor : MethodName := ⟨RX1, "goOnFor", "(I)I"⟩
abbrev cX1_goOn : ByteArray := prog_3_method_12_code
def yX1_goOn : MethodName := ⟨RX1, "goOn", "()Z"⟩
abbrev cX1_tuneComing : ByteArray := prog_3_method_13_code
def yX1_tuneComing : MethodName := ⟨RX1, "tuneComing", "(II)I"⟩
abbrev cX1_windOfStep : ByteArray := prog_3_method_14_code
def yX1_windOfStep : MethodName := ⟨RX1, "windOfStep", "(II)I"⟩
abbrev cX1_windOfSteps : ByteArray := prog_3_method_15_code
def yX1_windOfSteps : MethodName := ⟨RX1, "windOfSteps", "(I)I"⟩
abbrev cX1_around : ByteArray := prog_3_method_16_code
def yX1_around : MethodName := ⟨RX1, "around", "(I)I"⟩
abbrev cX1_strike : ByteArray := prog_3_method_17_code
def yX1_strike : MethodName := ⟨RX1, "strike", "(II)V"⟩
abbrev cX1_squeak : ByteArray := prog_3_method_18_code
def yX1_squeak : MethodName := ⟨RX1, "squeak", "(I)V"⟩
abbrev cX1_pluck : ByteArray := prog_3_method_19_code
def yX1_pluck : MethodName := ⟨RX1, "pluck", "(I)V"⟩
abbrev cX1_mendTooth : ByteArray := prog_3_method_20_code
def yX1_mendTooth : MethodName := ⟨RX1, "mendTooth", "(I)I"⟩
abbrev cX1_isBroken : ByteArray := prog_3_method_21_code
def yX1_isBroken : MethodName := ⟨RX1, "isBroken", "(I)Z"⟩
abbrev cX1_ringsFor : ByteArray := prog_3_method_22_code
def yX1_ringsFor : MethodName := ⟨RX1, "ringsFor", "(I)I"⟩
abbrev cX1_teethBroken : ByteArray := prog_3_method_23_code
def yX1_teethBroken : MethodName := ⟨RX1, "teethBroken", "()I"⟩
abbrev cX1_teethRinging : ByteArray := prog_3_method_24_code
def yX1_teethRinging : MethodName := ⟨RX1, "teethRinging", "()I"⟩
abbrev cX1_notesKept : ByteArray := prog_3_method_25_code
def yX1_notesKept : MethodName := ⟨RX1, "notesKept", "()I"⟩
abbrev cX1_noteTooth : ByteArray := prog_3_method_26_code
def yX1_noteTooth : MethodName := ⟨RX1, "noteTooth", "(I)I"⟩
abbrev cX1_noteTime : ByteArray := prog_3_method_27_code
def yX1_noteTime : MethodName := ⟨RX1, "noteTime", "(I)I"⟩
abbrev cX1_slotOf : ByteArray := prog_3_method_28_code
def yX1_slotOf : MethodName := ⟨RX1, "slotOf", "(I)I"⟩
abbrev cX1_pinsOf : ByteArray := prog_3_method_29_code
def yX1_pinsOf : MethodName := ⟨RX1, "pinsOf", "(I)I"⟩
abbrev cX1_pinsOfAll : ByteArray := prog_3_method_30_code
def yX1_pinsOfAll : MethodName := ⟨RX1, "pinsOfAll", "()I"⟩
abbrev cX1_pinsByTooth : ByteArray := prog_3_method_31_code
def yX1_pinsByTooth : MethodName := ⟨RX1, "pinsByTooth", "(I)I"⟩
abbrev cX1_fullestStep : ByteArray := prog_3_method_32_code
def yX1_fullestStep : MethodName := ⟨RX1, "fullestStep", "(I)I"⟩
abbrev cX1_teethUsed : ByteArray := prog_3_method_33_code
def yX1_teethUsed : MethodName := ⟨RX1, "teethUsed", "(I)I"⟩
abbrev cX1_widestGap : ByteArray := prog_3_method_34_code
def yX1_widestGap : MethodName := ⟨RX1, "widestGap", "(II)I"⟩
abbrev cX1_numberOfTune : ByteArray := prog_3_method_35_code
def yX1_numberOfTune : MethodName := ⟨RX1, "numberOfTune", "(II)I"⟩
abbrev cX1_numberOfTooth : ByteArray := prog_3_method_36_code
def yX1_numberOfTooth : MethodName := ⟨RX1, "numberOfTooth", "(II)I"⟩
abbrev cX1_numberOfState : ByteArray := prog_3_method_37_code
def yX1_numberOfState : MethodName := ⟨RX1, "numberOfState", "(I)I"⟩
def RX2 : String := "PinCylinder"
def TX2 : u_T := fun k => match k with
  | 0 => ("PinCylinder", "state", "LPinCylinder$State;", true)
  | 1 => ("PinCylinder", "trial", "LPinCylinder$State;", true)
  | 2 => ("PinCylinder", "snapshot", "LPinCylinder$State;", true)
  | 3 => ("PinCylinder", "hasSnapshot", "Z", false)
  | 4 => ("PinCylinder", "saved", "[LPinCylinder$State;", true)
  | 5 => ("PinCylinder", "oldestSaved", "I", false)
  | 6 => ("PinCylinder", "savedCount", "I", false)
  | 7 => ("PinCylinder", "buffer", "[C", true)
  | 8 => ("PinCylinder", "bufferLength", "I", false)
  | _ => ("PinCylinder", "reader", "LPinCylinder$PinReader;", true)
def tyX2 : Nat → FieldType := fun k => match k with
  | 0 => .object "PinCylinder$State"
  | 1 => .object "PinCylinder$State"
  | 2 => .object "PinCylinder$State"
  | 3 => .boolean
  | 4 => .array (.object "PinCylinder$State")
  | 5 => .int
  | 6 => .int
  | 7 => .array .char
  | 8 => .int
  | _ => .object "PinCylinder$PinReader"
abbrev wsX20 : List Cond := u_ws RX2 TX2 10
theorem nmX2 : ∀ a, a < 10 → ∀ b, b < 10 → a ≠ b → (TX2 a).2.1 ≠ (TX2 b).2.1 := by decide +kernel
theorem tyX2_ok : ∀ k, k < 10 → parseFieldDescriptor (TX2 k).2.2.1 = some (tyX2 k) := by decide +kernel
abbrev cX2_init : ByteArray := prog_1_method_1_code
def yX2_init : MethodName := ⟨RX2, "<init>", "()V"⟩
abbrev cX2_pin : ByteArray := prog_1_method_2_code
def yX2_pin : MethodName := ⟨RX2, "pin", "(III)I"⟩
abbrev cX2_pull : ByteArray := prog_1_method_3_code
def yX2_pull : MethodName := ⟨RX2, "pull", "(IIII)I"⟩
abbrev cX2_copy : ByteArray := prog_1_method_4_code
def yX2_copy : MethodName := ⟨RX2, "copy", "(IIII)I"⟩
abbrev cX2_wind : ByteArray := prog_1_method_5_code
def yX2_wind : MethodName := ⟨RX2, "wind", "(I)I"⟩
abbrev cX2_vanes : ByteArray := prog_1_method_6_code
def yX2_vanes : MethodName := ⟨RX2, "vanes", "(I)I"⟩
abbrev cX2_shift : ByteArray := prog_1_method_7_code
def yX2_shift : MethodName := ⟨RX2, "shift", "(I)I"⟩
abbrev cX2_play : ByteArray := prog_1_method_8_code
def yX2_play : MethodName := ⟨RX2, "play", "(I)I"⟩
abbrev cX2_mend : ByteArray := prog_1_method_9_code
def yX2_mend : MethodName := ⟨RX2, "mend", "(I)I"⟩
abbrev cX2_set : ByteArray := prog_1_method_10_code
def yX2_set : MethodName := ⟨RX2, "set", "(II)I"⟩
abbrev cX2_append : ByteArray := prog_1_method_11_code
def yX2_append : MethodName := ⟨RX2, "append", "(I)I"⟩
abbrev cX2_clearBuffer : ByteArray := prog_1_method_12_code
def yX2_clearBuffer : MethodName := ⟨RX2, "clearBuffer", "()I"⟩
abbrev cX2_firstError : ByteArray := prog_1_method_13_code
def yX2_firstError : MethodName := ⟨RX2, "firstError", "()I"⟩
abbrev cX2_pins : ByteArray := prog_1_method_14_code
def yX2_pins : MethodName := ⟨RX2, "pins", "()I"⟩
abbrev cX2_undo : ByteArray := prog_1_method_15_code
def yX2_undo : MethodName := ⟨RX2, "undo", "()I"⟩
abbrev cX2_keep : ByteArray := prog_1_method_16_code
def yX2_keep : MethodName := ⟨RX2, "keep", "()I"⟩
abbrev cX2_restore : ByteArray := prog_1_method_17_code
def yX2_restore : MethodName := ⟨RX2, "restore", "()I"⟩
abbrev cX2_whyNot : ByteArray := prog_1_method_18_code
def yX2_whyNot : MethodName := ⟨RX2, "whyNot", "(III)I"⟩
abbrev cX2_next : ByteArray := prog_1_method_19_code
def yX2_next : MethodName := ⟨RX2, "next", "(III)I"⟩
abbrev cX2_tune : ByteArray := prog_1_method_20_code
def yX2_tune : MethodName := ⟨RX2, "tune", "(II)I"⟩
abbrev cX2_chord : ByteArray := prog_1_method_21_code
def yX2_chord : MethodName := ⟨RX2, "chord", "(II)I"⟩
abbrev cX2_tooth : ByteArray := prog_1_method_22_code
def yX2_tooth : MethodName := ⟨RX2, "tooth", "(II)I"⟩
abbrev cX2_note : ByteArray := prog_1_method_23_code
def yX2_note : MethodName := ⟨RX2, "note", "(II)I"⟩
abbrev cX2_count : ByteArray := prog_1_method_24_code
def yX2_count : MethodName := ⟨RX2, "count", "(I)I"⟩
abbrev cX2_ifPlayed : ByteArray := prog_1_method_25_code
def yX2_ifPlayed : MethodName := ⟨RX2, "ifPlayed", "(II)I"⟩
abbrev cX2_fewestVanes : ByteArray := prog_1_method_26_code
def yX2_fewestVanes : MethodName := ⟨RX2, "fewestVanes", "()I"⟩
abbrev cX2_windFor : ByteArray := prog_1_method_27_code
def yX2_windFor : MethodName := ⟨RX2, "windFor", "(I)I"⟩
abbrev cX2_clean : ByteArray := prog_1_method_28_code
def yX2_clean : MethodName := ⟨RX2, "clean", "()D"⟩
abbrev cX2_digest : ByteArray := prog_1_method_29_code
def yX2_digest : MethodName := ⟨RX2, "digest", "()J"⟩
abbrev cX2_isWithin : ByteArray := prog_1_method_30_code
def yX2_isWithin : MethodName := ⟨RX2, "isWithin", "(III)Z"⟩
abbrev cX2_isBelow : ByteArray := prog_1_method_31_code
def yX2_isBelow : MethodName := ⟨RX2, "isBelow", "(II)Z"⟩
abbrev cX2_isPlace : ByteArray := prog_1_method_32_code
def yX2_isPlace : MethodName := ⟨RX2, "isPlace", "(III)Z"⟩
abbrev cX2_saveState : ByteArray := prog_1_method_33_code
def yX2_saveState : MethodName := ⟨RX2, "saveState", "()V"⟩
abbrev cX2_readBuffer : ByteArray := prog_1_method_34_code
def yX2_readBuffer : MethodName := ⟨RX2, "readBuffer", "()I"⟩
abbrev cX2_putBufferPins : ByteArray := prog_1_method_35_code
def yX2_putBufferPins : MethodName := ⟨RX2, "putBufferPins", "()I"⟩
abbrev cX2_putReadRange : ByteArray := prog_1_method_36_code
def yX2_putReadRange : MethodName := ⟨RX2, "putReadRange", "()I"⟩
abbrev cX2_tryOut : ByteArray := prog_1_method_37_code
def yX2_tryOut : MethodName := ⟨RX2, "tryOut", "(II)V"⟩
abbrev cX2_outcome : ByteArray := prog_1_method_38_code
def yX2_outcome : MethodName := ⟨RX2, "outcome", "(I)I"⟩
abbrev cX2_fewestQuietVanes : ByteArray := prog_1_method_39_code
def yX2_fewestQuietVanes : MethodName := ⟨RX2, "fewestQuietVanes", "()I"⟩
abbrev cX2_numberNow : ByteArray := prog_1_method_40_code
def yX2_numberNow : MethodName := ⟨RX2, "numberNow", "(I)I"⟩
abbrev cX2_cleanShare : ByteArray := prog_1_method_41_code
def yX2_cleanShare : MethodName := ⟨RX2, "cleanShare", "()D"⟩
abbrev cX2_bitsOfShare : ByteArray := prog_1_method_42_code
def yX2_bitsOfShare : MethodName := ⟨RX2, "bitsOfShare", "(D)J"⟩
abbrev cX2_mixed : ByteArray := prog_1_method_43_code
def yX2_mixed : MethodName := ⟨RX2, "mixed", "(JJ)J"⟩
abbrev cX2_mixedTunes : ByteArray := prog_1_method_44_code
def yX2_mixedTunes : MethodName := ⟨RX2, "mixedTunes", "(J)J"⟩
abbrev cX2_mixedTeeth : ByteArray := prog_1_method_45_code
def yX2_mixedTeeth : MethodName := ⟨RX2, "mixedTeeth", "(J)J"⟩
abbrev cX2_mixedNotes : ByteArray := prog_1_method_46_code
def yX2_mixedNotes : MethodName := ⟨RX2, "mixedNotes", "(J)J"⟩
abbrev cX2_mixedProspects : ByteArray := prog_1_method_47_code
def yX2_mixedProspects : MethodName := ⟨RX2, "mixedProspects", "(J)J"⟩
abbrev cX2_mixedBuffer : ByteArray := prog_1_method_48_code
def yX2_mixedBuffer : MethodName := ⟨RX2, "mixedBuffer", "(J)J"⟩
def RX3 : String := "PinCylinderModel"
def TX3 : u_T := fun k => match k with
  | 0 => ("PinCylinderModel", "thrown", "I", false)
  | 1 => ("PinCylinderModel", "s", "[I", true)
  | 2 => ("PinCylinderModel", "aside", "[I", true)
  | 3 => ("PinCylinderModel", "saved", "[I", true)
  | 4 => ("PinCylinderModel", "savedMany", "I", false)
  | 5 => ("PinCylinderModel", "snapshot", "[I", true)
  | 6 => ("PinCylinderModel", "isKept", "Z", false)
  | 7 => ("PinCylinderModel", "text", "[I", true)
  | 8 => ("PinCylinderModel", "length", "I", false)
  | 9 => ("PinCylinderModel", "spot", "I", false)
  | 10 => ("PinCylinderModel", "isWrong", "Z", false)
  | 11 => ("PinCylinderModel", "wereSet", "I", false)
  | _ => ("PinCylinderModel", "digested", "J", false)
def tyX3 : Nat → FieldType := fun k => match k with
  | 0 => .int
  | 1 => .array .int
  | 2 => .array .int
  | 3 => .array .int
  | 4 => .int
  | 5 => .array .int
  | 6 => .boolean
  | 7 => .array .int
  | 8 => .int
  | 9 => .int
  | 10 => .boolean
  | 11 => .int
  | _ => .long
abbrev wsX30 : List Cond := u_ws RX3 TX3 13
theorem nmX3 : ∀ a, a < 13 → ∀ b, b < 13 → a ≠ b → (TX3 a).2.1 ≠ (TX3 b).2.1 := by decide +kernel
theorem tyX3_ok : ∀ k, k < 13 → parseFieldDescriptor (TX3 k).2.2.1 = some (tyX3 k) := by decide +kernel
abbrev cX3_init : ByteArray := prog_5_method_1_code
def yX3_init : MethodName := ⟨RX3, "<init>", "()V"⟩
abbrev cX3_thrown : ByteArray := prog_5_method_2_code
def yX3_thrown : MethodName := ⟨RX3, "thrown", "()I"⟩
abbrev cX3_in : ByteArray := prog_5_method_3_code
def yX3_in : MethodName := ⟨RX3, "in", "(III)Z"⟩
abbrev cX3_holds : ByteArray := prog_5_method_4_code
def yX3_holds : MethodName := ⟨RX3, "holds", "(I)Z"⟩
abbrev cX3_isTune : ByteArray := prog_5_method_5_code
def yX3_isTune : MethodName := ⟨RX3, "isTune", "(I)Z"⟩
abbrev cX3_isTooth : ByteArray := prog_5_method_6_code
def yX3_isTooth : MethodName := ⟨RX3, "isTooth", "(I)Z"⟩
abbrev cX3_isStep : ByteArray := prog_5_method_7_code
def yX3_isStep : MethodName := ⟨RX3, "isStep", "(I)Z"⟩
abbrev cX3_areThere : ByteArray := prog_5_method_8_code
def yX3_areThere : MethodName := ⟨RX3, "areThere", "(III)Z"⟩
abbrev cX3_ofPins : ByteArray := prog_5_method_9_code
def yX3_ofPins : MethodName := ⟨RX3, "ofPins", "(II)I"⟩
abbrev cX3_of : ByteArray := prog_5_method_10_code
def yX3_of : MethodName := ⟨RX3, "of", "(II)I"⟩
abbrev cX3_save : ByteArray := prog_5_method_11_code
def yX3_save : MethodName := ⟨RX3, "save", "()V"⟩
abbrev cX3_putAside : ByteArray := prog_5_method_12_code
def yX3_putAside : MethodName := ⟨RX3, "putAside", "()V"⟩
abbrev cX3_putBack : ByteArray := prog_5_method_13_code
def yX3_putBack : MethodName := ⟨RX3, "putBack", "()V"⟩
abbrev cX3_isPin : ByteArray := prog_5_method_14_code
def yX3_isPin : MethodName := ⟨RX3, "isPin", "(III)Z"⟩
abbrev cX3_pinsAt : ByteArray := prog_5_method_15_code
def yX3_pinsAt : MethodName := ⟨RX3, "pinsAt", "(II)I"⟩
abbrev cX3_ones : ByteArray := prog_5_method_16_code
def yX3_ones : MethodName := ⟨RX3, "ones", "(I)I"⟩
abbrev cX3_isNear : ByteArray := prog_5_method_17_code
def yX3_isNear : MethodName := ⟨RX3, "isNear", "(III)Z"⟩
abbrev cX3_hindrance : ByteArray := prog_5_method_18_code
def yX3_hindrance : MethodName := ⟨RX3, "hindrance", "(III)I"⟩
abbrev cX3_pinsOf : ByteArray := prog_5_method_19_code
def yX3_pinsOf : MethodName := ⟨RX3, "pinsOf", "(I)I"⟩
abbrev cX3_allPins : ByteArray := prog_5_method_20_code
def yX3_allPins : MethodName := ⟨RX3, "allPins", "()I"⟩
abbrev cX3_pin : ByteArray := prog_5_method_21_code
def yX3_pin : MethodName := ⟨RX3, "pin", "(III)I"⟩
abbrev cX3_pull : ByteArray := prog_5_method_22_code
def yX3_pull : MethodName := ⟨RX3, "pull", "(IIII)I"⟩
abbrev cX3_copy : ByteArray := prog_5_method_23_code
def yX3_copy : MethodName := ⟨RX3, "copy", "(IIII)I"⟩
abbrev cX3_nextStep : ByteArray := prog_5_method_24_code
def yX3_nextStep : MethodName := ⟨RX3, "nextStep", "()I"⟩
abbrev cX3_nextTune : ByteArray := prog_5_method_25_code
def yX3_nextTune : MethodName := ⟨RX3, "nextTune", "()I"⟩
abbrev cX3_need : ByteArray := prog_5_method_26_code
def yX3_need : MethodName := ⟨RX3, "need", "()I"⟩
abbrev cX3_sounds : ByteArray := prog_5_method_27_code
def yX3_sounds : MethodName := ⟨RX3, "sounds", "(I)V"⟩
abbrev cX3_plucks : ByteArray := prog_5_method_28_code
def yX3_plucks : MethodName := ⟨RX3, "plucks", "(II)V"⟩
abbrev cX3_goes : ByteArray := prog_5_method_29_code
def yX3_goes : MethodName := ⟨RX3, "goes", "()Z"⟩
abbrev cX3_goesOn : ByteArray := prog_5_method_30_code
def yX3_goesOn : MethodName := ⟨RX3, "goesOn", "(I)I"⟩
abbrev cX3_wind : ByteArray := prog_5_method_31_code
def yX3_wind : MethodName := ⟨RX3, "wind", "(I)I"⟩
abbrev cX3_becomes : ByteArray := prog_5_method_32_code
def yX3_becomes : MethodName := ⟨RX3, "becomes", "(II)I"⟩
abbrev cX3_vanes : ByteArray := prog_5_method_33_code
def yX3_vanes : MethodName := ⟨RX3, "vanes", "(I)I"⟩
abbrev cX3_shift : ByteArray := prog_5_method_34_code
def yX3_shift : MethodName := ⟨RX3, "shift", "(I)I"⟩
abbrev cX3_play : ByteArray := prog_5_method_35_code
def yX3_play : MethodName := ⟨RX3, "play", "(I)I"⟩
abbrev cX3_mend : ByteArray := prog_5_method_36_code
def yX3_mend : MethodName := ⟨RX3, "mend", "(I)I"⟩
abbrev cX3_isValue : ByteArray := prog_5_method_37_code
def yX3_isValue : MethodName := ⟨RX3, "isValue", "(II)Z"⟩
abbrev cX3_set : ByteArray := prog_5_method_38_code
def yX3_set : MethodName := ⟨RX3, "set", "(II)I"⟩
abbrev cX3_append : ByteArray := prog_5_method_39_code
def yX3_append : MethodName := ⟨RX3, "append", "(I)I"⟩
abbrev cX3_clearBuffer : ByteArray := prog_5_method_40_code
def yX3_clearBuffer : MethodName := ⟨RX3, "clearBuffer", "()I"⟩
abbrev cX3_isNext : ByteArray := prog_5_method_41_code
def yX3_isNext : MethodName := ⟨RX3, "isNext", "(II)Z"⟩
abbrev cX3_takes : ByteArray := prog_5_method_42_code
def yX3_takes : MethodName := ⟨RX3, "takes", "(II)I"⟩
abbrev cX3_begins : ByteArray := prog_5_method_43_code
def yX3_begins : MethodName := ⟨RX3, "begins", "(III)Z"⟩
abbrev cX3_number : ByteArray := prog_5_method_44_code
def yX3_number : MethodName := ⟨RX3, "number", "(II)I"⟩
abbrev cX3_readSteps : ByteArray := prog_5_method_45_code
def yX3_readSteps : MethodName := ⟨RX3, "readSteps", "(IIZ)V"⟩
abbrev cX3_readPart : ByteArray := prog_5_method_46_code
def yX3_readPart : MethodName := ⟨RX3, "readPart", "(Z)V"⟩
abbrev cX3_reads : ByteArray := prog_5_method_47_code
def yX3_reads : MethodName := ⟨RX3, "reads", "(Z)Z"⟩
abbrev cX3_firstError : ByteArray := prog_5_method_48_code
def yX3_firstError : MethodName := ⟨RX3, "firstError", "()I"⟩
abbrev cX3_pins : ByteArray := prog_5_method_49_code
def yX3_pins : MethodName := ⟨RX3, "pins", "()I"⟩
abbrev cX3_undo : ByteArray := prog_5_method_50_code
def yX3_undo : MethodName := ⟨RX3, "undo", "()I"⟩
abbrev cX3_keep : ByteArray := prog_5_method_51_code
def yX3_keep : MethodName := ⟨RX3, "keep", "()I"⟩
abbrev cX3_restore : ByteArray := prog_5_method_52_code
def yX3_restore : MethodName := ⟨RX3, "restore", "()I"⟩
abbrev cX3_whyNot : ByteArray := prog_5_method_53_code
def yX3_whyNot : MethodName := ⟨RX3, "whyNot", "(III)I"⟩
abbrev cX3_next : ByteArray := prog_5_method_54_code
def yX3_next : MethodName := ⟨RX3, "next", "(III)I"⟩
abbrev cX3_fullest : ByteArray := prog_5_method_55_code
def yX3_fullest : MethodName := ⟨RX3, "fullest", "(I)I"⟩
abbrev cX3_teethOf : ByteArray := prog_5_method_56_code
def yX3_teethOf : MethodName := ⟨RX3, "teethOf", "(I)I"⟩
abbrev cX3_ofTune : ByteArray := prog_5_method_57_code
def yX3_ofTune : MethodName := ⟨RX3, "ofTune", "(II)I"⟩
abbrev cX3_tune : ByteArray := prog_5_method_58_code
def yX3_tune : MethodName := ⟨RX3, "tune", "(II)I"⟩
abbrev cX3_chord : ByteArray := prog_5_method_59_code
def yX3_chord : MethodName := ⟨RX3, "chord", "(II)I"⟩
abbrev cX3_widest : ByteArray := prog_5_method_60_code
def yX3_widest : MethodName := ⟨RX3, "widest", "(I)I"⟩
abbrev cX3_ofTooth : ByteArray := prog_5_method_61_code
def yX3_ofTooth : MethodName := ⟨RX3, "ofTooth", "(II)I"⟩
abbrev cX3_tooth : ByteArray := prog_5_method_62_code
def yX3_tooth : MethodName := ⟨RX3, "tooth", "(II)I"⟩
abbrev cX3_note : ByteArray := prog_5_method_63_code
def yX3_note : MethodName := ⟨RX3, "note", "(II)I"⟩
abbrev cX3_teethThat : ByteArray := prog_5_method_64_code
def yX3_teethThat : MethodName := ⟨RX3, "teethThat", "(I)I"⟩
abbrev cX3_counted : ByteArray := prog_5_method_65_code
def yX3_counted : MethodName := ⟨RX3, "counted", "(I)I"⟩
abbrev cX3_count : ByteArray := prog_5_method_66_code
def yX3_count : MethodName := ⟨RX3, "count", "(I)I"⟩
abbrev cX3_wouldBe : ByteArray := prog_5_method_67_code
def yX3_wouldBe : MethodName := ⟨RX3, "wouldBe", "(II)I"⟩
abbrev cX3_ifPlayed : ByteArray := prog_5_method_68_code
def yX3_ifPlayed : MethodName := ⟨RX3, "ifPlayed", "(II)I"⟩
abbrev cX3_quietVanes : ByteArray := prog_5_method_69_code
def yX3_quietVanes : MethodName := ⟨RX3, "quietVanes", "()I"⟩
abbrev cX3_fewestVanes : ByteArray := prog_5_method_70_code
def yX3_fewestVanes : MethodName := ⟨RX3, "fewestVanes", "()I"⟩
abbrev cX3_windOf : ByteArray := prog_5_method_71_code
def yX3_windOf : MethodName := ⟨RX3, "windOf", "(I)I"⟩
abbrev cX3_windFor : ByteArray := prog_5_method_72_code
def yX3_windFor : MethodName := ⟨RX3, "windFor", "(I)I"⟩
abbrev cX3_share : ByteArray := prog_5_method_73_code
def yX3_share : MethodName := ⟨RX3, "share", "()D"⟩
abbrev cX3_clean : ByteArray := prog_5_method_74_code
def yX3_clean : MethodName := ⟨RX3, "clean", "()D"⟩
abbrev cX3_bitsOf : ByteArray := prog_5_method_75_code
def yX3_bitsOf : MethodName := ⟨RX3, "bitsOf", "(D)J"⟩
abbrev cX3_digestOne : ByteArray := prog_5_method_76_code
def yX3_digestOne : MethodName := ⟨RX3, "digestOne", "(J)V"⟩
abbrev cX3_digestCylinder : ByteArray := prog_5_method_77_code
def yX3_digestCylinder : MethodName := ⟨RX3, "digestCylinder", "()V"⟩
abbrev cX3_digest : ByteArray := prog_5_method_78_code
def yX3_digest : MethodName := ⟨RX3, "digest", "()J"⟩
def RJ6 : String := "java/lang/Integer"
def TJ6 : u_T := fun k => match k with
  | _ => ("", "", "", false)
def tyJ6 : Nat → FieldType := fun k => match k with
  | _ => .int
abbrev wsJ60 : List Cond := u_ws RJ6 TJ6 0
theorem nmJ6 : ∀ a, a < 0 → ∀ b, b < 0 → a ≠ b → (TJ6 a).2.1 ≠ (TJ6 b).2.1 := by decide +kernel
theorem tyJ6_ok : ∀ k, k < 0 → parseFieldDescriptor (TJ6 k).2.2.1 = some (tyJ6 k) := by decide +kernel
abbrev cJ6_bitCount_0f7a4 : ByteArray := prog_10_method_49_code
def yJ6_bitCount_0f7a4 : MethodName := ⟨RJ6, "bitCount", "(I)I"⟩
def RJ9 : String := "java/lang/Math"
def TJ9 : u_T := fun k => match k with
  | _ => ("", "", "", false)
def tyJ9 : Nat → FieldType := fun k => match k with
  | _ => .int
abbrev wsJ90 : List Cond := u_ws RJ9 TJ9 0
theorem nmJ9 : ∀ a, a < 0 → ∀ b, b < 0 → a ≠ b → (TJ9 a).2.1 ≠ (TJ9 b).2.1 := by decide +kernel
theorem tyJ9_ok : ∀ k, k < 0 → parseFieldDescriptor (TJ9 k).2.2.1 = some (tyJ9 k) := by decide +kernel
abbrev cJ9_floorMod_7cf53 : ByteArray := prog_11_method_50_code
def yJ9_floorMod_7cf53 : MethodName := ⟨RJ9, "floorMod", "(II)I"⟩
abbrev cJ9_max_7cf53 : ByteArray := prog_11_method_65_code
def yJ9_max_7cf53 : MethodName := ⟨RJ9, "max", "(II)I"⟩
abbrev cJ9_min_7cf53 : ByteArray := prog_11_method_69_code
def yJ9_min_7cf53 : MethodName := ⟨RJ9, "min", "(II)I"⟩
def RJ0 : String := "java/lang/String"
def TJ0 : u_T := fun k => match k with
  | _ => ("", "", "", false)
def tyJ0 : Nat → FieldType := fun k => match k with
  | _ => .int
abbrev wsJ00 : List Cond := u_ws RJ0 TJ0 0
theorem nmJ0 : ∀ a, a < 0 → ∀ b, b < 0 → a ≠ b → (TJ0 a).2.1 ≠ (TJ0 b).2.1 := by decide +kernel
theorem tyJ0_ok : ∀ k, k < 0 → parseFieldDescriptor (TJ0 k).2.2.1 = some (tyJ0 k) := by decide +kernel
def RJ10 : String := "java/lang/System"
def TJ10 : u_T := fun k => match k with
  | _ => ("", "", "", false)
def tyJ10 : Nat → FieldType := fun k => match k with
  | _ => .int
abbrev wsJ100 : List Cond := u_ws RJ10 TJ10 0
theorem nmJ10 : ∀ a, a < 0 → ∀ b, b < 0 → a ≠ b → (TJ10 a).2.1 ≠ (TJ10 b).2.1 := by decide +kernel
theorem tyJ10_ok : ∀ k, k < 0 → parseFieldDescriptor (TJ10 k).2.2.1 = some (tyJ10 k) := by decide +kernel
def RL : String := "PinCylinderLaw"
abbrev cL_pin : ByteArray := method_3_code
def yL_pin : MethodName := ⟨RL, "pin", "(LPinCylinder;III[J)I"⟩
abbrev cL_pull : ByteArray := method_4_code
def yL_pull : MethodName := ⟨RL, "pull", "(LPinCylinder;IIII[J)I"⟩
abbrev cL_copy : ByteArray := method_5_code
def yL_copy : MethodName := ⟨RL, "copy", "(LPinCylinder;IIII[J)I"⟩
abbrev cL_wind : ByteArray := method_6_code
def yL_wind : MethodName := ⟨RL, "wind", "(LPinCylinder;I[J)I"⟩
abbrev cL_vanes : ByteArray := method_7_code
def yL_vanes : MethodName := ⟨RL, "vanes", "(LPinCylinder;I[J)I"⟩
abbrev cL_shift : ByteArray := method_8_code
def yL_shift : MethodName := ⟨RL, "shift", "(LPinCylinder;I[J)I"⟩
abbrev cL_play : ByteArray := method_9_code
def yL_play : MethodName := ⟨RL, "play", "(LPinCylinder;I[J)I"⟩
abbrev cL_mend : ByteArray := method_10_code
def yL_mend : MethodName := ⟨RL, "mend", "(LPinCylinder;I[J)I"⟩
abbrev cL_set : ByteArray := method_11_code
def yL_set : MethodName := ⟨RL, "set", "(LPinCylinder;II[J)I"⟩
abbrev cL_append : ByteArray := method_12_code
def yL_append : MethodName := ⟨RL, "append", "(LPinCylinder;I[J)I"⟩
abbrev cL_pins : ByteArray := method_13_code
def yL_pins : MethodName := ⟨RL, "pins", "(LPinCylinder;[J)I"⟩
abbrev cL_undo : ByteArray := method_14_code
def yL_undo : MethodName := ⟨RL, "undo", "(LPinCylinder;[J)I"⟩
abbrev cL_restore : ByteArray := method_15_code
def yL_restore : MethodName := ⟨RL, "restore", "(LPinCylinder;[J)I"⟩
abbrev cL_whyNot : ByteArray := method_16_code
def yL_whyNot : MethodName := ⟨RL, "whyNot", "(LPinCylinder;III[J)I"⟩
abbrev cL_next : ByteArray := method_17_code
def yL_next : MethodName := ⟨RL, "next", "(LPinCylinder;III[J)I"⟩
abbrev cL_tune : ByteArray := method_18_code
def yL_tune : MethodName := ⟨RL, "tune", "(LPinCylinder;II[J)I"⟩
abbrev cL_chord : ByteArray := method_19_code
def yL_chord : MethodName := ⟨RL, "chord", "(LPinCylinder;II[J)I"⟩
abbrev cL_tooth : ByteArray := method_20_code
def yL_tooth : MethodName := ⟨RL, "tooth", "(LPinCylinder;II[J)I"⟩
abbrev cL_note : ByteArray := method_21_code
def yL_note : MethodName := ⟨RL, "note", "(LPinCylinder;II[J)I"⟩
abbrev cL_count : ByteArray := method_22_code
def yL_count : MethodName := ⟨RL, "count", "(LPinCylinder;I[J)I"⟩
abbrev cL_ifPlayed : ByteArray := method_23_code
def yL_ifPlayed : MethodName := ⟨RL, "ifPlayed", "(LPinCylinder;II[J)I"⟩
abbrev cL_windFor : ByteArray := method_24_code
def yL_windFor : MethodName := ⟨RL, "windFor", "(LPinCylinder;I[J)I"⟩
abbrev cL_law : ByteArray := code
def yL_law : MethodName := ⟨RL, "law", "([I)Z"⟩
noncomputable def wsX0_init : List Cond := .code yX0_init cX0_init 1 none :: ([.methodLink RX0 3 objectInit, .instanceMethod objectInit, .code objectInit ⟨#[0xb1]⟩ 1 none, .fieldLink RX0 11 "PinCylinder$PinReader" "phase" "I", .fieldLink RX0 15 "PinCylinder$PinReader" "tune" "I", .fieldLink RX0 18 "PinCylinder$PinReader" "tooth" "I", .fieldLink RX0 21 "PinCylinder$PinReader" "from" "I", .fieldLink RX0 24 "PinCylinder$PinReader" "number" "I"] ++ wsX00)
noncomputable def wsX0_start : List Cond := .code yX0_start cX0_start 1 none :: ([.fieldLink RX0 11 "PinCylinder$PinReader" "phase" "I"] ++ wsX00)
noncomputable def wsX0_isSeparator : List Cond := .code yX0_isSeparator cX0_isSeparator 1 (some .boolean) :: ([])
noncomputable def wsX0_digitOf : List Cond := .code yX0_digitOf cX0_digitOf 1 (some .int) :: ([])
noncomputable def wsX0_goTo : List Cond := .code yX0_goTo cX0_goTo 2 (some .boolean) :: ([.fieldLink RX0 11 "PinCylinder$PinReader" "phase" "I"] ++ wsX00)
noncomputable def wsX0_acceptsTune : List Cond := .code yX0_acceptsTune cX0_acceptsTune 3 (some .boolean) :: ([.fieldLink RX0 15 "PinCylinder$PinReader" "tune" "I", .methodLink RX0 53 yX0_digitOf, .static yX0_digitOf, .initialized RX0, .code yX0_digitOf cX0_digitOf 1 (some .int), .methodLink RX0 31 yX0_goTo, .instanceMethod yX0_goTo, .selects RX0 yX0_goTo yX0_goTo, .code yX0_goTo cX0_goTo 2 (some .boolean), .fieldLink RX0 11 "PinCylinder$PinReader" "phase" "I"] ++ wsX00)
noncomputable def wsX0_acceptsToothDigit : List Cond := .code yX0_acceptsToothDigit cX0_acceptsToothDigit 3 (some .boolean) :: ([.fieldLink RX0 18 "PinCylinder$PinReader" "tooth" "I", .methodLink RX0 53 yX0_digitOf, .static yX0_digitOf, .initialized RX0, .code yX0_digitOf cX0_digitOf 1 (some .int), .methodLink RX0 31 yX0_goTo, .instanceMethod yX0_goTo, .selects RX0 yX0_goTo yX0_goTo, .code yX0_goTo cX0_goTo 2 (some .boolean), .fieldLink RX0 11 "PinCylinder$PinReader" "phase" "I"] ++ wsX00)
noncomputable def wsX0_lengthened : List Cond := .code yX0_lengthened cX0_lengthened 3 (some .int) :: ([.methodLink RX0 53 yX0_digitOf, .static yX0_digitOf, .initialized RX0, .code yX0_digitOf cX0_digitOf 1 (some .int)])
noncomputable def wsX0_acceptsToothEnd : List Cond := .code yX0_acceptsToothEnd cX0_acceptsToothEnd 3 (some .boolean) :: ([.fieldLink RX0 18 "PinCylinder$PinReader" "tooth" "I", .methodLink RX0 57 yX0_lengthened, .static yX0_lengthened, .initialized RX0, .code yX0_lengthened cX0_lengthened 3 (some .int), .methodLink RX0 53 yX0_digitOf, .static yX0_digitOf, .code yX0_digitOf cX0_digitOf 1 (some .int)] ++ wsX00)
noncomputable def wsX0_acceptsStepDigit : List Cond := .code yX0_acceptsStepDigit cX0_acceptsStepDigit 3 (some .boolean) :: ([.fieldLink RX0 24 "PinCylinder$PinReader" "number" "I", .methodLink RX0 53 yX0_digitOf, .static yX0_digitOf, .initialized RX0, .code yX0_digitOf cX0_digitOf 1 (some .int), .methodLink RX0 31 yX0_goTo, .instanceMethod yX0_goTo, .selects RX0 yX0_goTo yX0_goTo, .code yX0_goTo cX0_goTo 2 (some .boolean), .fieldLink RX0 11 "PinCylinder$PinReader" "phase" "I"] ++ wsX00)
noncomputable def wsX0_acceptsSeparator : List Cond := .code yX0_acceptsSeparator cX0_acceptsSeparator 2 (some .boolean) :: ([.methodLink RX0 31 yX0_goTo, .instanceMethod yX0_goTo, .selects RX0 yX0_goTo yX0_goTo, .initialized RX0, .code yX0_goTo cX0_goTo 2 (some .boolean), .fieldLink RX0 11 "PinCylinder$PinReader" "phase" "I"] ++ wsX00)
noncomputable def wsX0_acceptsRange : List Cond := .code yX0_acceptsRange cX0_acceptsRange 1 (some .boolean) :: ([.fieldLink RX0 24 "PinCylinder$PinReader" "number" "I", .fieldLink RX0 21 "PinCylinder$PinReader" "from" "I", .methodLink RX0 31 yX0_goTo, .instanceMethod yX0_goTo, .selects RX0 yX0_goTo yX0_goTo, .initialized RX0, .code yX0_goTo cX0_goTo 2 (some .boolean), .fieldLink RX0 11 "PinCylinder$PinReader" "phase" "I"] ++ wsX00)
noncomputable def wsX0_acceptsBehindStep_r1 : List Cond := [Cond.fieldLink RX0 24 "PinCylinder$PinReader" "number" "I", Cond.methodLink RX0 61 yX0_isSeparator, Cond.static yX0_isSeparator, Cond.initialized RX0, Cond.code yX0_isSeparator cX0_isSeparator 1 (some .boolean), Cond.methodLink RX0 64 yX0_acceptsSeparator, Cond.instanceMethod yX0_acceptsSeparator, Cond.selects RX0 yX0_acceptsSeparator yX0_acceptsSeparator, Cond.code yX0_acceptsSeparator cX0_acceptsSeparator 2 (some .boolean), Cond.methodLink RX0 31 yX0_goTo, Cond.instanceMethod yX0_goTo, Cond.selects RX0 yX0_goTo yX0_goTo, Cond.code yX0_goTo cX0_goTo 2 (some .boolean), Cond.fieldLink RX0 11 "PinCylinder$PinReader" "phase" "I", Cond.methodLink RX0 67 yX0_acceptsRange, Cond.instanceMethod yX0_acceptsRange, Cond.selects RX0 yX0_acceptsRange yX0_acceptsRange, Cond.code yX0_acceptsRange cX0_acceptsRange 1 (some .boolean), Cond.fieldLink RX0 21 "PinCylinder$PinReader" "from" "I", Cond.methodLink RX0 57 yX0_lengthened, Cond.static yX0_lengthened, Cond.code yX0_lengthened cX0_lengthened 3 (some .int), Cond.methodLink RX0 53 yX0_digitOf, Cond.static yX0_digitOf]
noncomputable def wsX0_acceptsBehindStep_r2 : List Cond := [Cond.code yX0_digitOf cX0_digitOf 1 (some .int)]
noncomputable def wsX0_acceptsBehindStep : List Cond := .code yX0_acceptsBehindStep cX0_acceptsBehindStep 3 (some .boolean) :: ((wsX0_acceptsBehindStep_r1 ++ wsX0_acceptsBehindStep_r2) ++ wsX00)
noncomputable def wsX0_greatestFrom : List Cond := .code yX0_greatestFrom cX0_greatestFrom 2 (some .int) :: ([.methodLink RX0 75 Lib.Math.min.name, .static Lib.Math.min.name, .initialized "java/lang/Math", .code Lib.Math.min.name Lib.Math.min.code 2 (some .int)])
noncomputable def wsX0_acceptsRangeEndDigit : List Cond := .code yX0_acceptsRangeEndDigit cX0_acceptsRangeEndDigit 3 (some .boolean) :: ([.fieldLink RX0 21 "PinCylinder$PinReader" "from" "I", .fieldLink RX0 24 "PinCylinder$PinReader" "number" "I", .methodLink RX0 53 yX0_digitOf, .static yX0_digitOf, .initialized RX0, .code yX0_digitOf cX0_digitOf 1 (some .int), .methodLink RX0 71 yX0_greatestFrom, .static yX0_greatestFrom, .code yX0_greatestFrom cX0_greatestFrom 2 (some .int), .methodLink RX0 75 Lib.Math.min.name, .static Lib.Math.min.name, .initialized "java/lang/Math", .code Lib.Math.min.name Lib.Math.min.code 2 (some .int), .methodLink RX0 31 yX0_goTo, .instanceMethod yX0_goTo, .selects RX0 yX0_goTo yX0_goTo, .code yX0_goTo cX0_goTo 2 (some .boolean), .fieldLink RX0 11 "PinCylinder$PinReader" "phase" "I"] ++ wsX00)
noncomputable def wsX0_acceptsBehindRangeEnd : List Cond := .code yX0_acceptsBehindRangeEnd cX0_acceptsBehindRangeEnd 3 (some .boolean) :: ([.fieldLink RX0 24 "PinCylinder$PinReader" "number" "I", .fieldLink RX0 21 "PinCylinder$PinReader" "from" "I", .methodLink RX0 61 yX0_isSeparator, .static yX0_isSeparator, .initialized RX0, .code yX0_isSeparator cX0_isSeparator 1 (some .boolean), .methodLink RX0 64 yX0_acceptsSeparator, .instanceMethod yX0_acceptsSeparator, .selects RX0 yX0_acceptsSeparator yX0_acceptsSeparator, .code yX0_acceptsSeparator cX0_acceptsSeparator 2 (some .boolean), .methodLink RX0 31 yX0_goTo, .instanceMethod yX0_goTo, .selects RX0 yX0_goTo yX0_goTo, .code yX0_goTo cX0_goTo 2 (some .boolean), .fieldLink RX0 11 "PinCylinder$PinReader" "phase" "I", .methodLink RX0 57 yX0_lengthened, .static yX0_lengthened, .code yX0_lengthened cX0_lengthened 3 (some .int), .methodLink RX0 53 yX0_digitOf, .static yX0_digitOf, .code yX0_digitOf cX0_digitOf 1 (some .int)] ++ wsX00)
noncomputable def wsX0_accepts_r1 : List Cond := [Cond.fieldLink RX0 11 "PinCylinder$PinReader" "phase" "I", Cond.methodLink RX0 27 yX0_acceptsTune, Cond.instanceMethod yX0_acceptsTune, Cond.selects RX0 yX0_acceptsTune yX0_acceptsTune, Cond.initialized RX0, Cond.code yX0_acceptsTune cX0_acceptsTune 3 (some .boolean), Cond.fieldLink RX0 15 "PinCylinder$PinReader" "tune" "I", Cond.methodLink RX0 53 yX0_digitOf, Cond.static yX0_digitOf, Cond.code yX0_digitOf cX0_digitOf 1 (some .int), Cond.methodLink RX0 31 yX0_goTo, Cond.instanceMethod yX0_goTo, Cond.selects RX0 yX0_goTo yX0_goTo, Cond.code yX0_goTo cX0_goTo 2 (some .boolean), Cond.methodLink RX0 35 yX0_acceptsToothDigit, Cond.instanceMethod yX0_acceptsToothDigit, Cond.selects RX0 yX0_acceptsToothDigit yX0_acceptsToothDigit, Cond.code yX0_acceptsToothDigit cX0_acceptsToothDigit 3 (some .boolean), Cond.fieldLink RX0 18 "PinCylinder$PinReader" "tooth" "I", Cond.methodLink RX0 38 yX0_acceptsToothEnd, Cond.instanceMethod yX0_acceptsToothEnd, Cond.selects RX0 yX0_acceptsToothEnd yX0_acceptsToothEnd, Cond.code yX0_acceptsToothEnd cX0_acceptsToothEnd 3 (some .boolean), Cond.methodLink RX0 57 yX0_lengthened]
noncomputable def wsX0_accepts_r2 : List Cond := [Cond.static yX0_lengthened, Cond.code yX0_lengthened cX0_lengthened 3 (some .int), Cond.methodLink RX0 41 yX0_acceptsStepDigit, Cond.instanceMethod yX0_acceptsStepDigit, Cond.selects RX0 yX0_acceptsStepDigit yX0_acceptsStepDigit, Cond.code yX0_acceptsStepDigit cX0_acceptsStepDigit 3 (some .boolean), Cond.fieldLink RX0 24 "PinCylinder$PinReader" "number" "I", Cond.methodLink RX0 44 yX0_acceptsBehindStep, Cond.instanceMethod yX0_acceptsBehindStep, Cond.selects RX0 yX0_acceptsBehindStep yX0_acceptsBehindStep, Cond.code yX0_acceptsBehindStep cX0_acceptsBehindStep 3 (some .boolean), Cond.methodLink RX0 61 yX0_isSeparator, Cond.static yX0_isSeparator, Cond.code yX0_isSeparator cX0_isSeparator 1 (some .boolean), Cond.methodLink RX0 64 yX0_acceptsSeparator, Cond.instanceMethod yX0_acceptsSeparator, Cond.selects RX0 yX0_acceptsSeparator yX0_acceptsSeparator, Cond.code yX0_acceptsSeparator cX0_acceptsSeparator 2 (some .boolean), Cond.methodLink RX0 67 yX0_acceptsRange, Cond.instanceMethod yX0_acceptsRange, Cond.selects RX0 yX0_acceptsRange yX0_acceptsRange, Cond.code yX0_acceptsRange cX0_acceptsRange 1 (some .boolean), Cond.fieldLink RX0 21 "PinCylinder$PinReader" "from" "I", Cond.methodLink RX0 47 yX0_acceptsRangeEndDigit]
noncomputable def wsX0_accepts_r3 : List Cond := [Cond.instanceMethod yX0_acceptsRangeEndDigit, Cond.selects RX0 yX0_acceptsRangeEndDigit yX0_acceptsRangeEndDigit, Cond.code yX0_acceptsRangeEndDigit cX0_acceptsRangeEndDigit 3 (some .boolean), Cond.methodLink RX0 71 yX0_greatestFrom, Cond.static yX0_greatestFrom, Cond.code yX0_greatestFrom cX0_greatestFrom 2 (some .int), Cond.methodLink RX0 75 Lib.Math.min.name, Cond.static Lib.Math.min.name, Cond.initialized "java/lang/Math", Cond.code Lib.Math.min.name Lib.Math.min.code 2 (some .int), Cond.methodLink RX0 50 yX0_acceptsBehindRangeEnd, Cond.instanceMethod yX0_acceptsBehindRangeEnd, Cond.selects RX0 yX0_acceptsBehindRangeEnd yX0_acceptsBehindRangeEnd, Cond.code yX0_acceptsBehindRangeEnd cX0_acceptsBehindRangeEnd 3 (some .boolean)]
noncomputable def wsX0_accepts : List Cond := .code yX0_accepts cX0_accepts 2 (some .boolean) :: ((wsX0_accepts_r1 ++ (wsX0_accepts_r2 ++ wsX0_accepts_r3)) ++ wsX00)
noncomputable def wsX0_isComplete : List Cond := .code yX0_isComplete cX0_isComplete 1 (some .boolean) :: ([.fieldLink RX0 11 "PinCylinder$PinReader" "phase" "I", .fieldLink RX0 24 "PinCylinder$PinReader" "number" "I", .fieldLink RX0 21 "PinCylinder$PinReader" "from" "I"] ++ wsX00)
noncomputable def wsX0_rangeStart : List Cond := .code yX0_rangeStart cX0_rangeStart 1 (some .int) :: ([.fieldLink RX0 11 "PinCylinder$PinReader" "phase" "I", .fieldLink RX0 21 "PinCylinder$PinReader" "from" "I", .fieldLink RX0 24 "PinCylinder$PinReader" "number" "I"] ++ wsX00)
noncomputable def wsX1_init : List Cond := .code yX1_init cX1_init 1 none :: ([.methodLink RX1 3 objectInit, .instanceMethod objectInit, .code objectInit ⟨#[0xb1]⟩ 1 none, .arrayClass .int, .fieldLink RX1 9 "PinCylinder$State" "chords" "[I", .fieldLink RX1 15 "PinCylinder$State" "restsAt" "[I", .fieldLink RX1 18 "PinCylinder$State" "wear" "[I", .fieldLink RX1 21 "PinCylinder$State" "notesOf" "[I", .fieldLink RX1 24 "PinCylinder$State" "keptTeeth" "[I", .fieldLink RX1 27 "PinCylinder$State" "keptTimes" "[I", .fieldLink RX1 30 "PinCylinder$State" "settings" "[I", .fieldLink RX1 33 "PinCylinder$State" "broken" "I", .fieldLink RX1 37 "PinCylinder$State" "place" "I", .fieldLink RX1 40 "PinCylinder$State" "played" "I", .fieldLink RX1 43 "PinCylinder$State" "wind" "I", .fieldLink RX1 46 "PinCylinder$State" "vanes" "I", .fieldLink RX1 49 "PinCylinder$State" "time" "I", .fieldLink RX1 52 "PinCylinder$State" "stepsDone" "I", .fieldLink RX1 55 "PinCylinder$State" "notes" "I", .fieldLink RX1 58 "PinCylinder$State" "squeaks" "I", .fieldLink RX1 61 "PinCylinder$State" "windNeeded" "I"] ++ wsX10)
noncomputable def wsX1_become : List Cond := .code yX1_become cX1_become 2 none :: ([.fieldLink RX1 9 "PinCylinder$State" "chords" "[I", .methodLink RX1 64 arraycopyName, .native arraycopyName, .static arraycopyName, .initialized "java/lang/System", .fieldLink RX1 15 "PinCylinder$State" "restsAt" "[I", .fieldLink RX1 18 "PinCylinder$State" "wear" "[I", .fieldLink RX1 21 "PinCylinder$State" "notesOf" "[I", .fieldLink RX1 24 "PinCylinder$State" "keptTeeth" "[I", .fieldLink RX1 27 "PinCylinder$State" "keptTimes" "[I", .fieldLink RX1 30 "PinCylinder$State" "settings" "[I", .fieldLink RX1 33 "PinCylinder$State" "broken" "I", .fieldLink RX1 37 "PinCylinder$State" "place" "I", .fieldLink RX1 40 "PinCylinder$State" "played" "I", .fieldLink RX1 43 "PinCylinder$State" "wind" "I", .fieldLink RX1 46 "PinCylinder$State" "vanes" "I", .fieldLink RX1 49 "PinCylinder$State" "time" "I", .fieldLink RX1 52 "PinCylinder$State" "stepsDone" "I", .fieldLink RX1 55 "PinCylinder$State" "notes" "I", .fieldLink RX1 58 "PinCylinder$State" "squeaks" "I", .fieldLink RX1 61 "PinCylinder$State" "windNeeded" "I"] ++ wsX10)
noncomputable def wsX1_teethAt : List Cond := .code yX1_teethAt cX1_teethAt 3 (some .int) :: ([.fieldLink RX1 9 "PinCylinder$State" "chords" "[I"] ++ wsX10)
noncomputable def wsX1_hasPin : List Cond := .code yX1_hasPin cX1_hasPin 4 (some .boolean) :: ([.methodLink RX1 70 yX1_teethAt, .instanceMethod yX1_teethAt, .selects RX1 yX1_teethAt yX1_teethAt, .initialized RX1, .code yX1_teethAt cX1_teethAt 3 (some .int), .fieldLink RX1 9 "PinCylinder$State" "chords" "[I"] ++ wsX10)
noncomputable def wsX1_putPin : List Cond := .code yX1_putPin cX1_putPin 4 none :: ([.fieldLink RX1 9 "PinCylinder$State" "chords" "[I"] ++ wsX10)
noncomputable def wsJ9_floorMod_7cf53 : List Cond := .code yJ9_floorMod_7cf53 cJ9_floorMod_7cf53 3 (some .int) :: ([])
noncomputable def wsX1_around : List Cond := .code yX1_around cX1_around 1 (some .int) :: ([.methodLink RX1 114 yJ9_floorMod_7cf53, .static yJ9_floorMod_7cf53, .initialized RJ9, .code yJ9_floorMod_7cf53 cJ9_floorMod_7cf53 3 (some .int)])
noncomputable def wsJ6_bitCount_0f7a4 : List Cond := .code yJ6_bitCount_0f7a4 cJ6_bitCount_0f7a4 1 (some .int) :: ([.constant RJ6 265 (1431655765), .constant RJ6 266 (858993459), .constant RJ6 267 (252645135)])
noncomputable def wsX1_hindrance_r1 : List Cond := [Cond.fieldLink RX1 30 "PinCylinder$State" "settings" "[I", Cond.methodLink RX1 74 yX1_hasPin, Cond.instanceMethod yX1_hasPin, Cond.selects RX1 yX1_hasPin yX1_hasPin, Cond.initialized RX1, Cond.code yX1_hasPin cX1_hasPin 4 (some .boolean), Cond.methodLink RX1 70 yX1_teethAt, Cond.instanceMethod yX1_teethAt, Cond.selects RX1 yX1_teethAt yX1_teethAt, Cond.code yX1_teethAt cX1_teethAt 3 (some .int), Cond.fieldLink RX1 9 "PinCylinder$State" "chords" "[I", Cond.methodLink RX1 78 yX1_around, Cond.static yX1_around, Cond.code yX1_around cX1_around 1 (some .int), Cond.methodLink RX1 114 yJ9_floorMod_7cf53, Cond.static yJ9_floorMod_7cf53, Cond.initialized RJ9, Cond.code yJ9_floorMod_7cf53 cJ9_floorMod_7cf53 3 (some .int), Cond.methodLink RX1 82 yJ6_bitCount_0f7a4, Cond.static yJ6_bitCount_0f7a4, Cond.initialized RJ6, Cond.code yJ6_bitCount_0f7a4 cJ6_bitCount_0f7a4 1 (some .int), Cond.constant RJ6 265 (1431655765), Cond.constant RJ6 266 (858993459)]
noncomputable def wsX1_hindrance_r2 : List Cond := [Cond.constant RJ6 267 (252645135)]
noncomputable def wsX1_hindrance : List Cond := .code yX1_hindrance cX1_hindrance 5 (some .int) :: ((wsX1_hindrance_r1 ++ wsX1_hindrance_r2) ++ wsX10)
noncomputable def wsX1_putRange_r1 : List Cond := [Cond.methodLink RX1 87 yX1_hindrance, Cond.instanceMethod yX1_hindrance, Cond.selects RX1 yX1_hindrance yX1_hindrance, Cond.initialized RX1, Cond.code yX1_hindrance cX1_hindrance 5 (some .int), Cond.fieldLink RX1 30 "PinCylinder$State" "settings" "[I", Cond.methodLink RX1 74 yX1_hasPin, Cond.instanceMethod yX1_hasPin, Cond.selects RX1 yX1_hasPin yX1_hasPin, Cond.code yX1_hasPin cX1_hasPin 4 (some .boolean), Cond.methodLink RX1 70 yX1_teethAt, Cond.instanceMethod yX1_teethAt, Cond.selects RX1 yX1_teethAt yX1_teethAt, Cond.code yX1_teethAt cX1_teethAt 3 (some .int), Cond.fieldLink RX1 9 "PinCylinder$State" "chords" "[I", Cond.methodLink RX1 78 yX1_around, Cond.static yX1_around, Cond.code yX1_around cX1_around 1 (some .int), Cond.methodLink RX1 114 yJ9_floorMod_7cf53, Cond.static yJ9_floorMod_7cf53, Cond.initialized RJ9, Cond.code yJ9_floorMod_7cf53 cJ9_floorMod_7cf53 3 (some .int), Cond.methodLink RX1 82 yJ6_bitCount_0f7a4, Cond.static yJ6_bitCount_0f7a4]
noncomputable def wsX1_putRange_r2 : List Cond := [Cond.initialized RJ6, Cond.code yJ6_bitCount_0f7a4 cJ6_bitCount_0f7a4 1 (some .int), Cond.constant RJ6 265 (1431655765), Cond.constant RJ6 266 (858993459), Cond.constant RJ6 267 (252645135), Cond.methodLink RX1 91 yX1_putPin, Cond.instanceMethod yX1_putPin, Cond.selects RX1 yX1_putPin yX1_putPin, Cond.code yX1_putPin cX1_putPin 4 none]
noncomputable def wsX1_putRange : List Cond := .code yX1_putRange cX1_putRange 7 (some .int) :: ((wsX1_putRange_r1 ++ wsX1_putRange_r2) ++ wsX10)
noncomputable def wsX1_takeRange : List Cond := .code yX1_takeRange cX1_takeRange 7 (some .int) :: ([.fieldLink RX1 9 "PinCylinder$State" "chords" "[I", .methodLink RX1 74 yX1_hasPin, .instanceMethod yX1_hasPin, .selects RX1 yX1_hasPin yX1_hasPin, .initialized RX1, .code yX1_hasPin cX1_hasPin 4 (some .boolean), .methodLink RX1 70 yX1_teethAt, .instanceMethod yX1_teethAt, .selects RX1 yX1_teethAt yX1_teethAt, .code yX1_teethAt cX1_teethAt 3 (some .int)] ++ wsX10)
noncomputable def wsX1_replaceTune : List Cond := .code yX1_replaceTune cX1_replaceTune 9 none :: ([.fieldLink RX1 9 "PinCylinder$State" "chords" "[I", .methodLink RX1 70 yX1_teethAt, .instanceMethod yX1_teethAt, .selects RX1 yX1_teethAt yX1_teethAt, .initialized RX1, .code yX1_teethAt cX1_teethAt 3 (some .int), .methodLink RX1 78 yX1_around, .static yX1_around, .code yX1_around cX1_around 1 (some .int), .methodLink RX1 114 yJ9_floorMod_7cf53, .static yJ9_floorMod_7cf53, .initialized RJ9, .code yJ9_floorMod_7cf53 cJ9_floorMod_7cf53 3 (some .int)] ++ wsX10)
noncomputable def wsX1_pinFrom : List Cond := .code yX1_pinFrom cX1_pinFrom 6 (some .int) :: ([.methodLink RX1 78 yX1_around, .static yX1_around, .initialized RX1, .code yX1_around cX1_around 1 (some .int), .methodLink RX1 114 yJ9_floorMod_7cf53, .static yJ9_floorMod_7cf53, .initialized RJ9, .code yJ9_floorMod_7cf53 cJ9_floorMod_7cf53 3 (some .int), .methodLink RX1 74 yX1_hasPin, .instanceMethod yX1_hasPin, .selects RX1 yX1_hasPin yX1_hasPin, .code yX1_hasPin cX1_hasPin 4 (some .boolean), .methodLink RX1 70 yX1_teethAt, .instanceMethod yX1_teethAt, .selects RX1 yX1_teethAt yX1_teethAt, .code yX1_teethAt cX1_teethAt 3 (some .int), .fieldLink RX1 9 "PinCylinder$State" "chords" "[I"] ++ wsX10)
noncomputable def wsX1_tuneComing : List Cond := .code yX1_tuneComing cX1_tuneComing 3 (some .int) :: ([.fieldLink RX1 30 "PinCylinder$State" "settings" "[I"] ++ wsX10)
noncomputable def wsX1_windOfStep : List Cond := .code yX1_windOfStep cX1_windOfStep 3 (some .int) :: ([.fieldLink RX1 33 "PinCylinder$State" "broken" "I", .methodLink RX1 70 yX1_teethAt, .instanceMethod yX1_teethAt, .selects RX1 yX1_teethAt yX1_teethAt, .initialized RX1, .code yX1_teethAt cX1_teethAt 3 (some .int), .fieldLink RX1 9 "PinCylinder$State" "chords" "[I", .methodLink RX1 82 yJ6_bitCount_0f7a4, .static yJ6_bitCount_0f7a4, .initialized RJ6, .code yJ6_bitCount_0f7a4 cJ6_bitCount_0f7a4 1 (some .int), .constant RJ6 265 (1431655765), .constant RJ6 266 (858993459), .constant RJ6 267 (252645135)] ++ wsX10)
noncomputable def wsX1_ringsFor : List Cond := .code yX1_ringsFor cX1_ringsFor 2 (some .int) :: ([.fieldLink RX1 15 "PinCylinder$State" "restsAt" "[I", .fieldLink RX1 49 "PinCylinder$State" "time" "I", .methodLink RX1 105 Lib.Math.max.name, .static Lib.Math.max.name, .initialized "java/lang/Math", .code Lib.Math.max.name Lib.Math.max.code 2 (some .int)] ++ wsX10)
noncomputable def wsX1_squeak : List Cond := .code yX1_squeak cX1_squeak 2 none :: ([.fieldLink RX1 58 "PinCylinder$State" "squeaks" "I", .fieldLink RX1 18 "PinCylinder$State" "wear" "[I", .fieldLink RX1 33 "PinCylinder$State" "broken" "I", .fieldLink RX1 15 "PinCylinder$State" "restsAt" "[I", .fieldLink RX1 49 "PinCylinder$State" "time" "I"] ++ wsX10)
noncomputable def wsX1_isBroken : List Cond := .code yX1_isBroken cX1_isBroken 2 (some .boolean) :: ([.fieldLink RX1 33 "PinCylinder$State" "broken" "I"] ++ wsX10)
noncomputable def wsX1_pluck : List Cond := .code yX1_pluck cX1_pluck 3 none :: ([.fieldLink RX1 15 "PinCylinder$State" "restsAt" "[I", .fieldLink RX1 49 "PinCylinder$State" "time" "I", .fieldLink RX1 30 "PinCylinder$State" "settings" "[I", .methodLink RX1 105 Lib.Math.max.name, .static Lib.Math.max.name, .initialized "java/lang/Math", .code Lib.Math.max.name Lib.Math.max.code 2 (some .int), .fieldLink RX1 21 "PinCylinder$State" "notesOf" "[I", .fieldLink RX1 55 "PinCylinder$State" "notes" "I", .fieldLink RX1 24 "PinCylinder$State" "keptTeeth" "[I", .fieldLink RX1 27 "PinCylinder$State" "keptTimes" "[I", .methodLink RX1 114 yJ9_floorMod_7cf53, .static yJ9_floorMod_7cf53, .initialized RJ9, .code yJ9_floorMod_7cf53 cJ9_floorMod_7cf53 3 (some .int)] ++ wsX10)
noncomputable def wsX1_strike_r1 : List Cond := [Cond.fieldLink RX1 30 "PinCylinder$State" "settings" "[I", Cond.fieldLink RX1 18 "PinCylinder$State" "wear" "[I", Cond.methodLink RX1 117 yX1_ringsFor, Cond.instanceMethod yX1_ringsFor, Cond.selects RX1 yX1_ringsFor yX1_ringsFor, Cond.initialized RX1, Cond.code yX1_ringsFor cX1_ringsFor 2 (some .int), Cond.fieldLink RX1 15 "PinCylinder$State" "restsAt" "[I", Cond.fieldLink RX1 49 "PinCylinder$State" "time" "I", Cond.methodLink RX1 105 Lib.Math.max.name, Cond.static Lib.Math.max.name, Cond.initialized "java/lang/Math", Cond.code Lib.Math.max.name Lib.Math.max.code 2 (some .int), Cond.methodLink RX1 120 yX1_squeak, Cond.instanceMethod yX1_squeak, Cond.selects RX1 yX1_squeak yX1_squeak, Cond.code yX1_squeak cX1_squeak 2 none, Cond.fieldLink RX1 58 "PinCylinder$State" "squeaks" "I", Cond.fieldLink RX1 33 "PinCylinder$State" "broken" "I", Cond.methodLink RX1 124 yX1_isBroken, Cond.instanceMethod yX1_isBroken, Cond.selects RX1 yX1_isBroken yX1_isBroken, Cond.code yX1_isBroken cX1_isBroken 2 (some .boolean), Cond.methodLink RX1 128 yX1_pluck]
noncomputable def wsX1_strike_r2 : List Cond := [Cond.instanceMethod yX1_pluck, Cond.selects RX1 yX1_pluck yX1_pluck, Cond.code yX1_pluck cX1_pluck 3 none, Cond.fieldLink RX1 21 "PinCylinder$State" "notesOf" "[I", Cond.fieldLink RX1 55 "PinCylinder$State" "notes" "I", Cond.fieldLink RX1 24 "PinCylinder$State" "keptTeeth" "[I", Cond.fieldLink RX1 27 "PinCylinder$State" "keptTimes" "[I", Cond.methodLink RX1 114 yJ9_floorMod_7cf53, Cond.static yJ9_floorMod_7cf53, Cond.initialized RJ9, Cond.code yJ9_floorMod_7cf53 cJ9_floorMod_7cf53 3 (some .int)]
noncomputable def wsX1_strike : List Cond := .code yX1_strike cX1_strike 4 none :: ((wsX1_strike_r1 ++ wsX1_strike_r2) ++ wsX10)
noncomputable def wsX1_goOn_r1 : List Cond := [Cond.fieldLink RX1 37 "PinCylinder$State" "place" "I", Cond.fieldLink RX1 40 "PinCylinder$State" "played" "I", Cond.fieldLink RX1 33 "PinCylinder$State" "broken" "I", Cond.fieldLink RX1 43 "PinCylinder$State" "wind" "I", Cond.fieldLink RX1 61 "PinCylinder$State" "windNeeded" "I", Cond.fieldLink RX1 46 "PinCylinder$State" "vanes" "I", Cond.methodLink RX1 105 Lib.Math.max.name, Cond.static Lib.Math.max.name, Cond.initialized "java/lang/Math", Cond.code Lib.Math.max.name Lib.Math.max.code 2 (some .int), Cond.fieldLink RX1 49 "PinCylinder$State" "time" "I", Cond.fieldLink RX1 52 "PinCylinder$State" "stepsDone" "I", Cond.methodLink RX1 78 yX1_around, Cond.static yX1_around, Cond.initialized RX1, Cond.code yX1_around cX1_around 1 (some .int), Cond.methodLink RX1 114 yJ9_floorMod_7cf53, Cond.static yJ9_floorMod_7cf53, Cond.initialized RJ9, Cond.code yJ9_floorMod_7cf53 cJ9_floorMod_7cf53 3 (some .int), Cond.methodLink RX1 99 yX1_tuneComing, Cond.instanceMethod yX1_tuneComing, Cond.selects RX1 yX1_tuneComing yX1_tuneComing, Cond.code yX1_tuneComing cX1_tuneComing 3 (some .int)]
noncomputable def wsX1_goOn_r2 : List Cond := [Cond.fieldLink RX1 30 "PinCylinder$State" "settings" "[I", Cond.methodLink RX1 70 yX1_teethAt, Cond.instanceMethod yX1_teethAt, Cond.selects RX1 yX1_teethAt yX1_teethAt, Cond.code yX1_teethAt cX1_teethAt 3 (some .int), Cond.fieldLink RX1 9 "PinCylinder$State" "chords" "[I", Cond.methodLink RX1 102 yX1_windOfStep, Cond.instanceMethod yX1_windOfStep, Cond.selects RX1 yX1_windOfStep yX1_windOfStep, Cond.code yX1_windOfStep cX1_windOfStep 3 (some .int), Cond.methodLink RX1 82 yJ6_bitCount_0f7a4, Cond.static yJ6_bitCount_0f7a4, Cond.initialized RJ6, Cond.code yJ6_bitCount_0f7a4 cJ6_bitCount_0f7a4 1 (some .int), Cond.constant RJ6 265 (1431655765), Cond.constant RJ6 266 (858993459), Cond.constant RJ6 267 (252645135), Cond.methodLink RX1 110 yX1_strike, Cond.instanceMethod yX1_strike, Cond.selects RX1 yX1_strike yX1_strike, Cond.code yX1_strike cX1_strike 4 none, Cond.fieldLink RX1 18 "PinCylinder$State" "wear" "[I", Cond.methodLink RX1 117 yX1_ringsFor, Cond.instanceMethod yX1_ringsFor]
noncomputable def wsX1_goOn_r3 : List Cond := [Cond.selects RX1 yX1_ringsFor yX1_ringsFor, Cond.code yX1_ringsFor cX1_ringsFor 2 (some .int), Cond.fieldLink RX1 15 "PinCylinder$State" "restsAt" "[I", Cond.methodLink RX1 120 yX1_squeak, Cond.instanceMethod yX1_squeak, Cond.selects RX1 yX1_squeak yX1_squeak, Cond.code yX1_squeak cX1_squeak 2 none, Cond.fieldLink RX1 58 "PinCylinder$State" "squeaks" "I", Cond.methodLink RX1 124 yX1_isBroken, Cond.instanceMethod yX1_isBroken, Cond.selects RX1 yX1_isBroken yX1_isBroken, Cond.code yX1_isBroken cX1_isBroken 2 (some .boolean), Cond.methodLink RX1 128 yX1_pluck, Cond.instanceMethod yX1_pluck, Cond.selects RX1 yX1_pluck yX1_pluck, Cond.code yX1_pluck cX1_pluck 3 none, Cond.fieldLink RX1 21 "PinCylinder$State" "notesOf" "[I", Cond.fieldLink RX1 55 "PinCylinder$State" "notes" "I", Cond.fieldLink RX1 24 "PinCylinder$State" "keptTeeth" "[I", Cond.fieldLink RX1 27 "PinCylinder$State" "keptTimes" "[I"]
noncomputable def wsX1_goOn : List Cond := .code yX1_goOn cX1_goOn 7 (some .boolean) :: ((wsX1_goOn_r1 ++ (wsX1_goOn_r2 ++ wsX1_goOn_r3)) ++ wsX10)
noncomputable def wsX1_goOnFor_r1 : List Cond := [Cond.methodLink RX1 95 yX1_goOn, Cond.instanceMethod yX1_goOn, Cond.selects RX1 yX1_goOn yX1_goOn, Cond.initialized RX1, Cond.code yX1_goOn cX1_goOn 7 (some .boolean), Cond.fieldLink RX1 37 "PinCylinder$State" "place" "I", Cond.fieldLink RX1 40 "PinCylinder$State" "played" "I", Cond.fieldLink RX1 33 "PinCylinder$State" "broken" "I", Cond.fieldLink RX1 43 "PinCylinder$State" "wind" "I", Cond.fieldLink RX1 61 "PinCylinder$State" "windNeeded" "I", Cond.fieldLink RX1 46 "PinCylinder$State" "vanes" "I", Cond.methodLink RX1 105 Lib.Math.max.name, Cond.static Lib.Math.max.name, Cond.initialized "java/lang/Math", Cond.code Lib.Math.max.name Lib.Math.max.code 2 (some .int), Cond.fieldLink RX1 49 "PinCylinder$State" "time" "I", Cond.fieldLink RX1 52 "PinCylinder$State" "stepsDone" "I", Cond.methodLink RX1 78 yX1_around, Cond.static yX1_around, Cond.code yX1_around cX1_around 1 (some .int), Cond.methodLink RX1 114 yJ9_floorMod_7cf53, Cond.static yJ9_floorMod_7cf53, Cond.initialized RJ9, Cond.code yJ9_floorMod_7cf53 cJ9_floorMod_7cf53 3 (some .int)]
noncomputable def wsX1_goOnFor_r2 : List Cond := [Cond.methodLink RX1 99 yX1_tuneComing, Cond.instanceMethod yX1_tuneComing, Cond.selects RX1 yX1_tuneComing yX1_tuneComing, Cond.code yX1_tuneComing cX1_tuneComing 3 (some .int), Cond.fieldLink RX1 30 "PinCylinder$State" "settings" "[I", Cond.methodLink RX1 70 yX1_teethAt, Cond.instanceMethod yX1_teethAt, Cond.selects RX1 yX1_teethAt yX1_teethAt, Cond.code yX1_teethAt cX1_teethAt 3 (some .int), Cond.fieldLink RX1 9 "PinCylinder$State" "chords" "[I", Cond.methodLink RX1 102 yX1_windOfStep, Cond.instanceMethod yX1_windOfStep, Cond.selects RX1 yX1_windOfStep yX1_windOfStep, Cond.code yX1_windOfStep cX1_windOfStep 3 (some .int), Cond.methodLink RX1 82 yJ6_bitCount_0f7a4, Cond.static yJ6_bitCount_0f7a4, Cond.initialized RJ6, Cond.code yJ6_bitCount_0f7a4 cJ6_bitCount_0f7a4 1 (some .int), Cond.constant RJ6 265 (1431655765), Cond.constant RJ6 266 (858993459), Cond.constant RJ6 267 (252645135), Cond.methodLink RX1 110 yX1_strike, Cond.instanceMethod yX1_strike, Cond.selects RX1 yX1_strike yX1_strike]
noncomputable def wsX1_goOnFor_r3 : List Cond := [Cond.code yX1_strike cX1_strike 4 none, Cond.fieldLink RX1 18 "PinCylinder$State" "wear" "[I", Cond.methodLink RX1 117 yX1_ringsFor, Cond.instanceMethod yX1_ringsFor, Cond.selects RX1 yX1_ringsFor yX1_ringsFor, Cond.code yX1_ringsFor cX1_ringsFor 2 (some .int), Cond.fieldLink RX1 15 "PinCylinder$State" "restsAt" "[I", Cond.methodLink RX1 120 yX1_squeak, Cond.instanceMethod yX1_squeak, Cond.selects RX1 yX1_squeak yX1_squeak, Cond.code yX1_squeak cX1_squeak 2 none, Cond.fieldLink RX1 58 "PinCylinder$State" "squeaks" "I", Cond.methodLink RX1 124 yX1_isBroken, Cond.instanceMethod yX1_isBroken, Cond.selects RX1 yX1_isBroken yX1_isBroken, Cond.code yX1_isBroken cX1_isBroken 2 (some .boolean), Cond.methodLink RX1 128 yX1_pluck, Cond.instanceMethod yX1_pluck, Cond.selects RX1 yX1_pluck yX1_pluck, Cond.code yX1_pluck cX1_pluck 3 none, Cond.fieldLink RX1 21 "PinCylinder$State" "notesOf" "[I", Cond.fieldLink RX1 55 "PinCylinder$State" "notes" "I", Cond.fieldLink RX1 24 "PinCylinder$State" "keptTeeth" "[I", Cond.fieldLink RX1 27 "PinCylinder$State" "keptTimes" "[I"]
noncomputable def wsX1_goOnFor : List Cond := .code yX1_goOnFor cX1_goOnFor 3 (some .int) :: ((wsX1_goOnFor_r1 ++ (wsX1_goOnFor_r2 ++ wsX1_goOnFor_r3)) ++ wsX10)
noncomputable def wsX1_windOfSteps_r1 : List Cond := [Cond.fieldLink RX1 37 "PinCylinder$State" "place" "I", Cond.fieldLink RX1 40 "PinCylinder$State" "played" "I", Cond.methodLink RX1 78 yX1_around, Cond.static yX1_around, Cond.initialized RX1, Cond.code yX1_around cX1_around 1 (some .int), Cond.methodLink RX1 114 yJ9_floorMod_7cf53, Cond.static yJ9_floorMod_7cf53, Cond.initialized RJ9, Cond.code yJ9_floorMod_7cf53 cJ9_floorMod_7cf53 3 (some .int), Cond.methodLink RX1 99 yX1_tuneComing, Cond.instanceMethod yX1_tuneComing, Cond.selects RX1 yX1_tuneComing yX1_tuneComing, Cond.code yX1_tuneComing cX1_tuneComing 3 (some .int), Cond.fieldLink RX1 30 "PinCylinder$State" "settings" "[I", Cond.methodLink RX1 102 yX1_windOfStep, Cond.instanceMethod yX1_windOfStep, Cond.selects RX1 yX1_windOfStep yX1_windOfStep, Cond.code yX1_windOfStep cX1_windOfStep 3 (some .int), Cond.fieldLink RX1 33 "PinCylinder$State" "broken" "I", Cond.methodLink RX1 70 yX1_teethAt, Cond.instanceMethod yX1_teethAt, Cond.selects RX1 yX1_teethAt yX1_teethAt, Cond.code yX1_teethAt cX1_teethAt 3 (some .int)]
noncomputable def wsX1_windOfSteps_r2 : List Cond := [Cond.fieldLink RX1 9 "PinCylinder$State" "chords" "[I", Cond.methodLink RX1 82 yJ6_bitCount_0f7a4, Cond.static yJ6_bitCount_0f7a4, Cond.initialized RJ6, Cond.code yJ6_bitCount_0f7a4 cJ6_bitCount_0f7a4 1 (some .int), Cond.constant RJ6 265 (1431655765), Cond.constant RJ6 266 (858993459), Cond.constant RJ6 267 (252645135)]
noncomputable def wsX1_windOfSteps : List Cond := .code yX1_windOfSteps cX1_windOfSteps 6 (some .int) :: ((wsX1_windOfSteps_r1 ++ wsX1_windOfSteps_r2) ++ wsX10)
noncomputable def wsX1_mendTooth : List Cond := .code yX1_mendTooth cX1_mendTooth 3 (some .int) :: ([.fieldLink RX1 18 "PinCylinder$State" "wear" "[I", .fieldLink RX1 33 "PinCylinder$State" "broken" "I", .fieldLink RX1 15 "PinCylinder$State" "restsAt" "[I", .fieldLink RX1 49 "PinCylinder$State" "time" "I"] ++ wsX10)
noncomputable def wsX1_teethBroken : List Cond := .code yX1_teethBroken cX1_teethBroken 1 (some .int) :: ([.fieldLink RX1 33 "PinCylinder$State" "broken" "I", .methodLink RX1 82 yJ6_bitCount_0f7a4, .static yJ6_bitCount_0f7a4, .initialized RJ6, .code yJ6_bitCount_0f7a4 cJ6_bitCount_0f7a4 1 (some .int), .constant RJ6 265 (1431655765), .constant RJ6 266 (858993459), .constant RJ6 267 (252645135)] ++ wsX10)
noncomputable def wsX1_teethRinging : List Cond := .code yX1_teethRinging cX1_teethRinging 3 (some .int) :: ([.methodLink RX1 117 yX1_ringsFor, .instanceMethod yX1_ringsFor, .selects RX1 yX1_ringsFor yX1_ringsFor, .initialized RX1, .code yX1_ringsFor cX1_ringsFor 2 (some .int), .fieldLink RX1 15 "PinCylinder$State" "restsAt" "[I", .fieldLink RX1 49 "PinCylinder$State" "time" "I", .methodLink RX1 105 Lib.Math.max.name, .static Lib.Math.max.name, .initialized "java/lang/Math", .code Lib.Math.max.name Lib.Math.max.code 2 (some .int)] ++ wsX10)
noncomputable def wsX1_notesKept : List Cond := .code yX1_notesKept cX1_notesKept 1 (some .int) :: ([.fieldLink RX1 55 "PinCylinder$State" "notes" "I", .methodLink RX1 131 Lib.Math.min.name, .static Lib.Math.min.name, .initialized "java/lang/Math", .code Lib.Math.min.name Lib.Math.min.code 2 (some .int)] ++ wsX10)
noncomputable def wsX1_slotOf : List Cond := .code yX1_slotOf cX1_slotOf 2 (some .int) :: ([.fieldLink RX1 55 "PinCylinder$State" "notes" "I", .methodLink RX1 114 yJ9_floorMod_7cf53, .static yJ9_floorMod_7cf53, .initialized RJ9, .code yJ9_floorMod_7cf53 cJ9_floorMod_7cf53 3 (some .int)] ++ wsX10)
noncomputable def wsX1_noteTooth : List Cond := .code yX1_noteTooth cX1_noteTooth 2 (some .int) :: ([.fieldLink RX1 24 "PinCylinder$State" "keptTeeth" "[I", .methodLink RX1 134 yX1_slotOf, .instanceMethod yX1_slotOf, .selects RX1 yX1_slotOf yX1_slotOf, .initialized RX1, .code yX1_slotOf cX1_slotOf 2 (some .int), .fieldLink RX1 55 "PinCylinder$State" "notes" "I", .methodLink RX1 114 yJ9_floorMod_7cf53, .static yJ9_floorMod_7cf53, .initialized RJ9, .code yJ9_floorMod_7cf53 cJ9_floorMod_7cf53 3 (some .int)] ++ wsX10)
noncomputable def wsX1_noteTime : List Cond := .code yX1_noteTime cX1_noteTime 2 (some .int) :: ([.fieldLink RX1 27 "PinCylinder$State" "keptTimes" "[I", .methodLink RX1 134 yX1_slotOf, .instanceMethod yX1_slotOf, .selects RX1 yX1_slotOf yX1_slotOf, .initialized RX1, .code yX1_slotOf cX1_slotOf 2 (some .int), .fieldLink RX1 55 "PinCylinder$State" "notes" "I", .methodLink RX1 114 yJ9_floorMod_7cf53, .static yJ9_floorMod_7cf53, .initialized RJ9, .code yJ9_floorMod_7cf53 cJ9_floorMod_7cf53 3 (some .int)] ++ wsX10)
noncomputable def wsX1_pinsOf : List Cond := .code yX1_pinsOf cX1_pinsOf 4 (some .int) :: ([.methodLink RX1 70 yX1_teethAt, .instanceMethod yX1_teethAt, .selects RX1 yX1_teethAt yX1_teethAt, .initialized RX1, .code yX1_teethAt cX1_teethAt 3 (some .int), .fieldLink RX1 9 "PinCylinder$State" "chords" "[I", .methodLink RX1 82 yJ6_bitCount_0f7a4, .static yJ6_bitCount_0f7a4, .initialized RJ6, .code yJ6_bitCount_0f7a4 cJ6_bitCount_0f7a4 1 (some .int), .constant RJ6 265 (1431655765), .constant RJ6 266 (858993459), .constant RJ6 267 (252645135)] ++ wsX10)
noncomputable def wsX1_pinsOfAll : List Cond := .code yX1_pinsOfAll cX1_pinsOfAll 3 (some .int) :: ([.methodLink RX1 137 yX1_pinsOf, .instanceMethod yX1_pinsOf, .selects RX1 yX1_pinsOf yX1_pinsOf, .initialized RX1, .code yX1_pinsOf cX1_pinsOf 4 (some .int), .methodLink RX1 70 yX1_teethAt, .instanceMethod yX1_teethAt, .selects RX1 yX1_teethAt yX1_teethAt, .code yX1_teethAt cX1_teethAt 3 (some .int), .fieldLink RX1 9 "PinCylinder$State" "chords" "[I", .methodLink RX1 82 yJ6_bitCount_0f7a4, .static yJ6_bitCount_0f7a4, .initialized RJ6, .code yJ6_bitCount_0f7a4 cJ6_bitCount_0f7a4 1 (some .int), .constant RJ6 265 (1431655765), .constant RJ6 266 (858993459), .constant RJ6 267 (252645135)] ++ wsX10)
noncomputable def wsX1_pinsByTooth : List Cond := .code yX1_pinsByTooth cX1_pinsByTooth 5 (some .int) :: ([.methodLink RX1 74 yX1_hasPin, .instanceMethod yX1_hasPin, .selects RX1 yX1_hasPin yX1_hasPin, .initialized RX1, .code yX1_hasPin cX1_hasPin 4 (some .boolean), .methodLink RX1 70 yX1_teethAt, .instanceMethod yX1_teethAt, .selects RX1 yX1_teethAt yX1_teethAt, .code yX1_teethAt cX1_teethAt 3 (some .int), .fieldLink RX1 9 "PinCylinder$State" "chords" "[I"] ++ wsX10)
noncomputable def wsX1_fullestStep : List Cond := .code yX1_fullestStep cX1_fullestStep 4 (some .int) :: ([.methodLink RX1 70 yX1_teethAt, .instanceMethod yX1_teethAt, .selects RX1 yX1_teethAt yX1_teethAt, .initialized RX1, .code yX1_teethAt cX1_teethAt 3 (some .int), .fieldLink RX1 9 "PinCylinder$State" "chords" "[I", .methodLink RX1 82 yJ6_bitCount_0f7a4, .static yJ6_bitCount_0f7a4, .initialized RJ6, .code yJ6_bitCount_0f7a4 cJ6_bitCount_0f7a4 1 (some .int), .constant RJ6 265 (1431655765), .constant RJ6 266 (858993459), .constant RJ6 267 (252645135)] ++ wsX10)
noncomputable def wsX1_teethUsed : List Cond := .code yX1_teethUsed cX1_teethUsed 4 (some .int) :: ([.methodLink RX1 70 yX1_teethAt, .instanceMethod yX1_teethAt, .selects RX1 yX1_teethAt yX1_teethAt, .initialized RX1, .code yX1_teethAt cX1_teethAt 3 (some .int), .fieldLink RX1 9 "PinCylinder$State" "chords" "[I"] ++ wsX10)
noncomputable def wsX1_widestGap : List Cond := .code yX1_widestGap cX1_widestGap 7 (some .int) :: ([.methodLink RX1 105 Lib.Math.max.name, .static Lib.Math.max.name, .initialized "java/lang/Math", .code Lib.Math.max.name Lib.Math.max.code 2 (some .int), .methodLink RX1 74 yX1_hasPin, .instanceMethod yX1_hasPin, .selects RX1 yX1_hasPin yX1_hasPin, .initialized RX1, .code yX1_hasPin cX1_hasPin 4 (some .boolean), .methodLink RX1 70 yX1_teethAt, .instanceMethod yX1_teethAt, .selects RX1 yX1_teethAt yX1_teethAt, .code yX1_teethAt cX1_teethAt 3 (some .int), .fieldLink RX1 9 "PinCylinder$State" "chords" "[I"] ++ wsX10)
noncomputable def wsX1_numberOfTune_r1 : List Cond := [Cond.methodLink RX1 137 yX1_pinsOf, Cond.instanceMethod yX1_pinsOf, Cond.selects RX1 yX1_pinsOf yX1_pinsOf, Cond.initialized RX1, Cond.code yX1_pinsOf cX1_pinsOf 4 (some .int), Cond.methodLink RX1 70 yX1_teethAt, Cond.instanceMethod yX1_teethAt, Cond.selects RX1 yX1_teethAt yX1_teethAt, Cond.code yX1_teethAt cX1_teethAt 3 (some .int), Cond.fieldLink RX1 9 "PinCylinder$State" "chords" "[I", Cond.methodLink RX1 82 yJ6_bitCount_0f7a4, Cond.static yJ6_bitCount_0f7a4, Cond.initialized RJ6, Cond.code yJ6_bitCount_0f7a4 cJ6_bitCount_0f7a4 1 (some .int), Cond.constant RJ6 265 (1431655765), Cond.constant RJ6 266 (858993459), Cond.constant RJ6 267 (252645135), Cond.methodLink RX1 140 yX1_pinsByTooth, Cond.instanceMethod yX1_pinsByTooth, Cond.selects RX1 yX1_pinsByTooth yX1_pinsByTooth, Cond.code yX1_pinsByTooth cX1_pinsByTooth 5 (some .int), Cond.methodLink RX1 74 yX1_hasPin, Cond.instanceMethod yX1_hasPin, Cond.selects RX1 yX1_hasPin yX1_hasPin]
noncomputable def wsX1_numberOfTune_r2 : List Cond := [Cond.code yX1_hasPin cX1_hasPin 4 (some .boolean), Cond.methodLink RX1 143 yX1_fullestStep, Cond.instanceMethod yX1_fullestStep, Cond.selects RX1 yX1_fullestStep yX1_fullestStep, Cond.code yX1_fullestStep cX1_fullestStep 4 (some .int), Cond.methodLink RX1 146 yX1_teethUsed, Cond.instanceMethod yX1_teethUsed, Cond.selects RX1 yX1_teethUsed yX1_teethUsed, Cond.code yX1_teethUsed cX1_teethUsed 4 (some .int)]
noncomputable def wsX1_numberOfTune : List Cond := .code yX1_numberOfTune cX1_numberOfTune 3 (some .int) :: ((wsX1_numberOfTune_r1 ++ wsX1_numberOfTune_r2) ++ wsX10)
noncomputable def wsX1_numberOfTooth_r1 : List Cond := [Cond.fieldLink RX1 18 "PinCylinder$State" "wear" "[I", Cond.fieldLink RX1 21 "PinCylinder$State" "notesOf" "[I", Cond.fieldLink RX1 40 "PinCylinder$State" "played" "I", Cond.methodLink RX1 117 yX1_ringsFor, Cond.instanceMethod yX1_ringsFor, Cond.selects RX1 yX1_ringsFor yX1_ringsFor, Cond.initialized RX1, Cond.code yX1_ringsFor cX1_ringsFor 2 (some .int), Cond.fieldLink RX1 15 "PinCylinder$State" "restsAt" "[I", Cond.fieldLink RX1 49 "PinCylinder$State" "time" "I", Cond.methodLink RX1 105 Lib.Math.max.name, Cond.static Lib.Math.max.name, Cond.initialized "java/lang/Math", Cond.code Lib.Math.max.name Lib.Math.max.code 2 (some .int), Cond.methodLink RX1 124 yX1_isBroken, Cond.instanceMethod yX1_isBroken, Cond.selects RX1 yX1_isBroken yX1_isBroken, Cond.code yX1_isBroken cX1_isBroken 2 (some .boolean), Cond.fieldLink RX1 33 "PinCylinder$State" "broken" "I", Cond.methodLink RX1 149 yX1_widestGap, Cond.instanceMethod yX1_widestGap, Cond.selects RX1 yX1_widestGap yX1_widestGap, Cond.code yX1_widestGap cX1_widestGap 7 (some .int), Cond.methodLink RX1 74 yX1_hasPin]
noncomputable def wsX1_numberOfTooth_r2 : List Cond := [Cond.instanceMethod yX1_hasPin, Cond.selects RX1 yX1_hasPin yX1_hasPin, Cond.code yX1_hasPin cX1_hasPin 4 (some .boolean), Cond.methodLink RX1 70 yX1_teethAt, Cond.instanceMethod yX1_teethAt, Cond.selects RX1 yX1_teethAt yX1_teethAt, Cond.code yX1_teethAt cX1_teethAt 3 (some .int), Cond.fieldLink RX1 9 "PinCylinder$State" "chords" "[I"]
noncomputable def wsX1_numberOfTooth : List Cond := .code yX1_numberOfTooth cX1_numberOfTooth 3 (some .int) :: ((wsX1_numberOfTooth_r1 ++ wsX1_numberOfTooth_r2) ++ wsX10)
noncomputable def wsX1_numberOfState_r1 : List Cond := [Cond.fieldLink RX1 37 "PinCylinder$State" "place" "I", Cond.fieldLink RX1 40 "PinCylinder$State" "played" "I", Cond.fieldLink RX1 43 "PinCylinder$State" "wind" "I", Cond.fieldLink RX1 46 "PinCylinder$State" "vanes" "I", Cond.fieldLink RX1 49 "PinCylinder$State" "time" "I", Cond.fieldLink RX1 52 "PinCylinder$State" "stepsDone" "I", Cond.fieldLink RX1 55 "PinCylinder$State" "notes" "I", Cond.fieldLink RX1 58 "PinCylinder$State" "squeaks" "I", Cond.fieldLink RX1 61 "PinCylinder$State" "windNeeded" "I", Cond.fieldLink RX1 30 "PinCylinder$State" "settings" "[I", Cond.methodLink RX1 152 yX1_teethRinging, Cond.instanceMethod yX1_teethRinging, Cond.selects RX1 yX1_teethRinging yX1_teethRinging, Cond.initialized RX1, Cond.code yX1_teethRinging cX1_teethRinging 3 (some .int), Cond.methodLink RX1 117 yX1_ringsFor, Cond.instanceMethod yX1_ringsFor, Cond.selects RX1 yX1_ringsFor yX1_ringsFor, Cond.code yX1_ringsFor cX1_ringsFor 2 (some .int), Cond.fieldLink RX1 15 "PinCylinder$State" "restsAt" "[I", Cond.methodLink RX1 105 Lib.Math.max.name, Cond.static Lib.Math.max.name, Cond.initialized "java/lang/Math", Cond.code Lib.Math.max.name Lib.Math.max.code 2 (some .int)]
noncomputable def wsX1_numberOfState_r2 : List Cond := [Cond.methodLink RX1 156 yX1_teethBroken, Cond.instanceMethod yX1_teethBroken, Cond.selects RX1 yX1_teethBroken yX1_teethBroken, Cond.code yX1_teethBroken cX1_teethBroken 1 (some .int), Cond.fieldLink RX1 33 "PinCylinder$State" "broken" "I", Cond.methodLink RX1 82 yJ6_bitCount_0f7a4, Cond.static yJ6_bitCount_0f7a4, Cond.initialized RJ6, Cond.code yJ6_bitCount_0f7a4 cJ6_bitCount_0f7a4 1 (some .int), Cond.constant RJ6 265 (1431655765), Cond.constant RJ6 266 (858993459), Cond.constant RJ6 267 (252645135), Cond.methodLink RX1 159 yX1_pinsOfAll, Cond.instanceMethod yX1_pinsOfAll, Cond.selects RX1 yX1_pinsOfAll yX1_pinsOfAll, Cond.code yX1_pinsOfAll cX1_pinsOfAll 3 (some .int), Cond.methodLink RX1 137 yX1_pinsOf, Cond.instanceMethod yX1_pinsOf, Cond.selects RX1 yX1_pinsOf yX1_pinsOf, Cond.code yX1_pinsOf cX1_pinsOf 4 (some .int), Cond.methodLink RX1 70 yX1_teethAt, Cond.instanceMethod yX1_teethAt, Cond.selects RX1 yX1_teethAt yX1_teethAt, Cond.code yX1_teethAt cX1_teethAt 3 (some .int)]
noncomputable def wsX1_numberOfState_r3 : List Cond := [Cond.fieldLink RX1 9 "PinCylinder$State" "chords" "[I", Cond.methodLink RX1 114 yJ9_floorMod_7cf53, Cond.static yJ9_floorMod_7cf53, Cond.initialized RJ9, Cond.code yJ9_floorMod_7cf53 cJ9_floorMod_7cf53 3 (some .int)]
noncomputable def wsX1_numberOfState : List Cond := .code yX1_numberOfState cX1_numberOfState 2 (some .int) :: ((wsX1_numberOfState_r1 ++ (wsX1_numberOfState_r2 ++ wsX1_numberOfState_r3)) ++ wsX10)
noncomputable def wsX2_init_r1 : List Cond := [Cond.methodLink RX2 3 objectInit, Cond.instanceMethod objectInit, Cond.code objectInit ⟨#[0xb1]⟩ 1 none, Cond.classLink RX2 9 RX1, Cond.instantiable RX1 17, Cond.initialized RX1, Cond.fieldLink RX2 12 "PinCylinder" "state" "LPinCylinder$State;", Cond.fieldLink RX2 16 "PinCylinder" "trial" "LPinCylinder$State;", Cond.fieldLink RX2 19 "PinCylinder" "snapshot" "LPinCylinder$State;", Cond.fieldLink RX2 22 "PinCylinder" "hasSnapshot" "Z", Cond.fieldLink RX2 26 "PinCylinder" "saved" "[LPinCylinder$State;", Cond.fieldLink RX2 30 "PinCylinder" "oldestSaved" "I", Cond.fieldLink RX2 34 "PinCylinder" "savedCount" "I", Cond.arrayClass .char, Cond.fieldLink RX2 37 "PinCylinder" "buffer" "[C", Cond.fieldLink RX2 41 "PinCylinder" "bufferLength" "I", Cond.classLink RX2 44 RX0, Cond.instantiable RX0 5, Cond.initialized RX0, Cond.fieldLink RX2 47 "PinCylinder" "reader" "LPinCylinder$PinReader;", Cond.instanceMethod yX1_init, Cond.code yX1_init cX1_init 1 none, Cond.methodLink RX1 3 objectInit, Cond.arrayClass .int]
noncomputable def wsX2_init_r2 : List Cond := [Cond.fieldLink RX1 9 "PinCylinder$State" "chords" "[I", Cond.fieldLink RX1 15 "PinCylinder$State" "restsAt" "[I", Cond.fieldLink RX1 18 "PinCylinder$State" "wear" "[I", Cond.fieldLink RX1 21 "PinCylinder$State" "notesOf" "[I", Cond.fieldLink RX1 24 "PinCylinder$State" "keptTeeth" "[I", Cond.fieldLink RX1 27 "PinCylinder$State" "keptTimes" "[I", Cond.fieldLink RX1 30 "PinCylinder$State" "settings" "[I", Cond.fieldLink RX1 33 "PinCylinder$State" "broken" "I", Cond.fieldLink RX1 37 "PinCylinder$State" "place" "I", Cond.fieldLink RX1 40 "PinCylinder$State" "played" "I", Cond.fieldLink RX1 43 "PinCylinder$State" "wind" "I", Cond.fieldLink RX1 46 "PinCylinder$State" "vanes" "I", Cond.fieldLink RX1 49 "PinCylinder$State" "time" "I", Cond.fieldLink RX1 52 "PinCylinder$State" "stepsDone" "I", Cond.fieldLink RX1 55 "PinCylinder$State" "notes" "I", Cond.fieldLink RX1 58 "PinCylinder$State" "squeaks" "I", Cond.fieldLink RX1 61 "PinCylinder$State" "windNeeded" "I", Cond.instanceMethod yX0_init, Cond.code yX0_init cX0_init 1 none, Cond.methodLink RX0 3 objectInit, Cond.fieldLink RX0 11 "PinCylinder$PinReader" "phase" "I", Cond.fieldLink RX0 15 "PinCylinder$PinReader" "tune" "I", Cond.fieldLink RX0 18 "PinCylinder$PinReader" "tooth" "I", Cond.fieldLink RX0 21 "PinCylinder$PinReader" "from" "I"]
noncomputable def wsX2_init_r3 : List Cond := [Cond.fieldLink RX0 24 "PinCylinder$PinReader" "number" "I"]
noncomputable def wsX2_init : List Cond := .code yX2_init cX2_init 2 none :: ((wsX2_init_r1 ++ (wsX2_init_r2 ++ wsX2_init_r3)) ++ wsX10 ++ wsX20 ++ wsX00)
noncomputable def wsX2_isBelow : List Cond := .code yX2_isBelow cX2_isBelow 2 (some .boolean) :: ([])
noncomputable def wsX2_isPlace : List Cond := .code yX2_isPlace cX2_isPlace 3 (some .boolean) :: ([.methodLink RX2 82 yX2_isBelow, .static yX2_isBelow, .initialized RX2, .code yX2_isBelow cX2_isBelow 2 (some .boolean)])
noncomputable def wsX2_saveState_r1 : List Cond := [Cond.fieldLink RX2 26 "PinCylinder" "saved" "[LPinCylinder$State;", Cond.fieldLink RX2 30 "PinCylinder" "oldestSaved" "I", Cond.fieldLink RX2 34 "PinCylinder" "savedCount" "I", Cond.fieldLink RX2 12 "PinCylinder" "state" "LPinCylinder$State;", Cond.methodLink RX2 168 yX1_become, Cond.instanceMethod yX1_become, Cond.selects RX1 yX1_become yX1_become, Cond.initialized RX1, Cond.code yX1_become cX1_become 2 none, Cond.fieldLink RX1 9 "PinCylinder$State" "chords" "[I", Cond.methodLink RX1 64 arraycopyName, Cond.native arraycopyName, Cond.static arraycopyName, Cond.initialized "java/lang/System", Cond.fieldLink RX1 15 "PinCylinder$State" "restsAt" "[I", Cond.fieldLink RX1 18 "PinCylinder$State" "wear" "[I", Cond.fieldLink RX1 21 "PinCylinder$State" "notesOf" "[I", Cond.fieldLink RX1 24 "PinCylinder$State" "keptTeeth" "[I", Cond.fieldLink RX1 27 "PinCylinder$State" "keptTimes" "[I", Cond.fieldLink RX1 30 "PinCylinder$State" "settings" "[I", Cond.fieldLink RX1 33 "PinCylinder$State" "broken" "I", Cond.fieldLink RX1 37 "PinCylinder$State" "place" "I", Cond.fieldLink RX1 40 "PinCylinder$State" "played" "I", Cond.fieldLink RX1 43 "PinCylinder$State" "wind" "I"]
noncomputable def wsX2_saveState_r2 : List Cond := [Cond.fieldLink RX1 46 "PinCylinder$State" "vanes" "I", Cond.fieldLink RX1 49 "PinCylinder$State" "time" "I", Cond.fieldLink RX1 52 "PinCylinder$State" "stepsDone" "I", Cond.fieldLink RX1 55 "PinCylinder$State" "notes" "I", Cond.fieldLink RX1 58 "PinCylinder$State" "squeaks" "I", Cond.fieldLink RX1 61 "PinCylinder$State" "windNeeded" "I"]
noncomputable def wsX2_saveState : List Cond := .code yX2_saveState cX2_saveState 1 none :: ((wsX2_saveState_r1 ++ wsX2_saveState_r2) ++ wsX20 ++ wsX10)
noncomputable def wsX2_pin_r1 : List Cond := [Cond.classLink RX2 55 "java/lang/IndexOutOfBoundsException", Cond.initialized "java/lang/IndexOutOfBoundsException", Cond.classLink RX2 66 "java/lang/IllegalStateException", Cond.initialized "java/lang/IllegalStateException", Cond.fieldLink RX2 12 "PinCylinder" "state" "LPinCylinder$State;", Cond.methodLink RX2 51 yX2_isPlace, Cond.static yX2_isPlace, Cond.initialized RX2, Cond.code yX2_isPlace cX2_isPlace 3 (some .boolean), Cond.methodLink RX2 82 yX2_isBelow, Cond.static yX2_isBelow, Cond.code yX2_isBelow cX2_isBelow 2 (some .boolean), Cond.methodLink RX2 62 yX1_hindrance, Cond.instanceMethod yX1_hindrance, Cond.selects RX1 yX1_hindrance yX1_hindrance, Cond.initialized RX1, Cond.code yX1_hindrance cX1_hindrance 5 (some .int), Cond.fieldLink RX1 30 "PinCylinder$State" "settings" "[I", Cond.methodLink RX1 74 yX1_hasPin, Cond.instanceMethod yX1_hasPin, Cond.selects RX1 yX1_hasPin yX1_hasPin, Cond.code yX1_hasPin cX1_hasPin 4 (some .boolean), Cond.methodLink RX1 70 yX1_teethAt, Cond.instanceMethod yX1_teethAt]
noncomputable def wsX2_pin_r2 : List Cond := [Cond.selects RX1 yX1_teethAt yX1_teethAt, Cond.code yX1_teethAt cX1_teethAt 3 (some .int), Cond.fieldLink RX1 9 "PinCylinder$State" "chords" "[I", Cond.methodLink RX1 78 yX1_around, Cond.static yX1_around, Cond.code yX1_around cX1_around 1 (some .int), Cond.methodLink RX1 114 yJ9_floorMod_7cf53, Cond.static yJ9_floorMod_7cf53, Cond.initialized RJ9, Cond.code yJ9_floorMod_7cf53 cJ9_floorMod_7cf53 3 (some .int), Cond.methodLink RX1 82 yJ6_bitCount_0f7a4, Cond.static yJ6_bitCount_0f7a4, Cond.initialized RJ6, Cond.code yJ6_bitCount_0f7a4 cJ6_bitCount_0f7a4 1 (some .int), Cond.constant RJ6 265 (1431655765), Cond.constant RJ6 266 (858993459), Cond.constant RJ6 267 (252645135), Cond.methodLink RX2 71 yX2_saveState, Cond.instanceMethod yX2_saveState, Cond.selects RX2 yX2_saveState yX2_saveState, Cond.code yX2_saveState cX2_saveState 1 none, Cond.fieldLink RX2 26 "PinCylinder" "saved" "[LPinCylinder$State;", Cond.fieldLink RX2 30 "PinCylinder" "oldestSaved" "I", Cond.fieldLink RX2 34 "PinCylinder" "savedCount" "I"]
noncomputable def wsX2_pin_r3 : List Cond := [Cond.methodLink RX2 168 yX1_become, Cond.instanceMethod yX1_become, Cond.selects RX1 yX1_become yX1_become, Cond.code yX1_become cX1_become 2 none, Cond.methodLink RX1 64 arraycopyName, Cond.native arraycopyName, Cond.static arraycopyName, Cond.initialized "java/lang/System", Cond.fieldLink RX1 15 "PinCylinder$State" "restsAt" "[I", Cond.fieldLink RX1 18 "PinCylinder$State" "wear" "[I", Cond.fieldLink RX1 21 "PinCylinder$State" "notesOf" "[I", Cond.fieldLink RX1 24 "PinCylinder$State" "keptTeeth" "[I", Cond.fieldLink RX1 27 "PinCylinder$State" "keptTimes" "[I", Cond.fieldLink RX1 33 "PinCylinder$State" "broken" "I", Cond.fieldLink RX1 37 "PinCylinder$State" "place" "I", Cond.fieldLink RX1 40 "PinCylinder$State" "played" "I", Cond.fieldLink RX1 43 "PinCylinder$State" "wind" "I", Cond.fieldLink RX1 46 "PinCylinder$State" "vanes" "I", Cond.fieldLink RX1 49 "PinCylinder$State" "time" "I", Cond.fieldLink RX1 52 "PinCylinder$State" "stepsDone" "I", Cond.fieldLink RX1 55 "PinCylinder$State" "notes" "I", Cond.fieldLink RX1 58 "PinCylinder$State" "squeaks" "I", Cond.fieldLink RX1 61 "PinCylinder$State" "windNeeded" "I", Cond.methodLink RX2 74 yX1_putPin]
noncomputable def wsX2_pin_r4 : List Cond := [Cond.instanceMethod yX1_putPin, Cond.selects RX1 yX1_putPin yX1_putPin, Cond.code yX1_putPin cX1_putPin 4 none, Cond.methodLink RX2 78 yX1_pinsOf, Cond.instanceMethod yX1_pinsOf, Cond.selects RX1 yX1_pinsOf yX1_pinsOf, Cond.code yX1_pinsOf cX1_pinsOf 4 (some .int)]
noncomputable def wsX2_pin : List Cond := .code yX2_pin cX2_pin 4 (some .int) :: ((wsX2_pin_r1 ++ (wsX2_pin_r2 ++ (wsX2_pin_r3 ++ wsX2_pin_r4))) ++ wsX20 ++ wsX10 ++ (vx_atS RX2 59 "java/lang/IndexOutOfBoundsException" ["java/lang/RuntimeException", "java/lang/Exception"]).filter goodWord ++ (vx_atS RX2 70 "java/lang/IllegalStateException" ["java/lang/RuntimeException", "java/lang/Exception"]).filter goodWord)
noncomputable def wsX2_pull_r1 : List Cond := [Cond.classLink RX2 55 "java/lang/IndexOutOfBoundsException", Cond.initialized "java/lang/IndexOutOfBoundsException", Cond.classLink RX2 86 "java/lang/IllegalArgumentException", Cond.initialized "java/lang/IllegalArgumentException", Cond.fieldLink RX2 12 "PinCylinder" "state" "LPinCylinder$State;", Cond.methodLink RX2 51 yX2_isPlace, Cond.static yX2_isPlace, Cond.initialized RX2, Cond.code yX2_isPlace cX2_isPlace 3 (some .boolean), Cond.methodLink RX2 82 yX2_isBelow, Cond.static yX2_isBelow, Cond.code yX2_isBelow cX2_isBelow 2 (some .boolean), Cond.methodLink RX2 71 yX2_saveState, Cond.instanceMethod yX2_saveState, Cond.selects RX2 yX2_saveState yX2_saveState, Cond.code yX2_saveState cX2_saveState 1 none, Cond.fieldLink RX2 26 "PinCylinder" "saved" "[LPinCylinder$State;", Cond.fieldLink RX2 30 "PinCylinder" "oldestSaved" "I", Cond.fieldLink RX2 34 "PinCylinder" "savedCount" "I", Cond.methodLink RX2 168 yX1_become, Cond.instanceMethod yX1_become, Cond.selects RX1 yX1_become yX1_become, Cond.initialized RX1, Cond.code yX1_become cX1_become 2 none]
noncomputable def wsX2_pull_r2 : List Cond := [Cond.fieldLink RX1 9 "PinCylinder$State" "chords" "[I", Cond.methodLink RX1 64 arraycopyName, Cond.native arraycopyName, Cond.static arraycopyName, Cond.initialized "java/lang/System", Cond.fieldLink RX1 15 "PinCylinder$State" "restsAt" "[I", Cond.fieldLink RX1 18 "PinCylinder$State" "wear" "[I", Cond.fieldLink RX1 21 "PinCylinder$State" "notesOf" "[I", Cond.fieldLink RX1 24 "PinCylinder$State" "keptTeeth" "[I", Cond.fieldLink RX1 27 "PinCylinder$State" "keptTimes" "[I", Cond.fieldLink RX1 30 "PinCylinder$State" "settings" "[I", Cond.fieldLink RX1 33 "PinCylinder$State" "broken" "I", Cond.fieldLink RX1 37 "PinCylinder$State" "place" "I", Cond.fieldLink RX1 40 "PinCylinder$State" "played" "I", Cond.fieldLink RX1 43 "PinCylinder$State" "wind" "I", Cond.fieldLink RX1 46 "PinCylinder$State" "vanes" "I", Cond.fieldLink RX1 49 "PinCylinder$State" "time" "I", Cond.fieldLink RX1 52 "PinCylinder$State" "stepsDone" "I", Cond.fieldLink RX1 55 "PinCylinder$State" "notes" "I", Cond.fieldLink RX1 58 "PinCylinder$State" "squeaks" "I", Cond.fieldLink RX1 61 "PinCylinder$State" "windNeeded" "I", Cond.methodLink RX2 91 yX1_takeRange, Cond.instanceMethod yX1_takeRange, Cond.selects RX1 yX1_takeRange yX1_takeRange]
noncomputable def wsX2_pull_r3 : List Cond := [Cond.code yX1_takeRange cX1_takeRange 7 (some .int), Cond.methodLink RX1 74 yX1_hasPin, Cond.instanceMethod yX1_hasPin, Cond.selects RX1 yX1_hasPin yX1_hasPin, Cond.code yX1_hasPin cX1_hasPin 4 (some .boolean), Cond.methodLink RX1 70 yX1_teethAt, Cond.instanceMethod yX1_teethAt, Cond.selects RX1 yX1_teethAt yX1_teethAt, Cond.code yX1_teethAt cX1_teethAt 3 (some .int)]
noncomputable def wsX2_pull : List Cond := .code yX2_pull cX2_pull 5 (some .int) :: ((wsX2_pull_r1 ++ (wsX2_pull_r2 ++ wsX2_pull_r3)) ++ wsX20 ++ wsX10 ++ (vx_atS RX2 59 "java/lang/IndexOutOfBoundsException" ["java/lang/RuntimeException", "java/lang/Exception"]).filter goodWord ++ (vx_atS RX2 90 "java/lang/IllegalArgumentException" ["java/lang/RuntimeException", "java/lang/Exception"]).filter goodWord)
noncomputable def wsX2_isWithin : List Cond := .code yX2_isWithin cX2_isWithin 3 (some .boolean) :: ([])
noncomputable def wsX2_copy_r1 : List Cond := [Cond.classLink RX2 55 "java/lang/IndexOutOfBoundsException", Cond.initialized "java/lang/IndexOutOfBoundsException", Cond.classLink RX2 86 "java/lang/IllegalArgumentException", Cond.initialized "java/lang/IllegalArgumentException", Cond.fieldLink RX2 12 "PinCylinder" "state" "LPinCylinder$State;", Cond.methodLink RX2 82 yX2_isBelow, Cond.static yX2_isBelow, Cond.initialized RX2, Cond.code yX2_isBelow cX2_isBelow 2 (some .boolean), Cond.methodLink RX2 97 yX2_isWithin, Cond.static yX2_isWithin, Cond.code yX2_isWithin cX2_isWithin 3 (some .boolean), Cond.methodLink RX2 71 yX2_saveState, Cond.instanceMethod yX2_saveState, Cond.selects RX2 yX2_saveState yX2_saveState, Cond.code yX2_saveState cX2_saveState 1 none, Cond.fieldLink RX2 26 "PinCylinder" "saved" "[LPinCylinder$State;", Cond.fieldLink RX2 30 "PinCylinder" "oldestSaved" "I", Cond.fieldLink RX2 34 "PinCylinder" "savedCount" "I", Cond.methodLink RX2 168 yX1_become, Cond.instanceMethod yX1_become, Cond.selects RX1 yX1_become yX1_become, Cond.initialized RX1, Cond.code yX1_become cX1_become 2 none]
noncomputable def wsX2_copy_r2 : List Cond := [Cond.fieldLink RX1 9 "PinCylinder$State" "chords" "[I", Cond.methodLink RX1 64 arraycopyName, Cond.native arraycopyName, Cond.static arraycopyName, Cond.initialized "java/lang/System", Cond.fieldLink RX1 15 "PinCylinder$State" "restsAt" "[I", Cond.fieldLink RX1 18 "PinCylinder$State" "wear" "[I", Cond.fieldLink RX1 21 "PinCylinder$State" "notesOf" "[I", Cond.fieldLink RX1 24 "PinCylinder$State" "keptTeeth" "[I", Cond.fieldLink RX1 27 "PinCylinder$State" "keptTimes" "[I", Cond.fieldLink RX1 30 "PinCylinder$State" "settings" "[I", Cond.fieldLink RX1 33 "PinCylinder$State" "broken" "I", Cond.fieldLink RX1 37 "PinCylinder$State" "place" "I", Cond.fieldLink RX1 40 "PinCylinder$State" "played" "I", Cond.fieldLink RX1 43 "PinCylinder$State" "wind" "I", Cond.fieldLink RX1 46 "PinCylinder$State" "vanes" "I", Cond.fieldLink RX1 49 "PinCylinder$State" "time" "I", Cond.fieldLink RX1 52 "PinCylinder$State" "stepsDone" "I", Cond.fieldLink RX1 55 "PinCylinder$State" "notes" "I", Cond.fieldLink RX1 58 "PinCylinder$State" "squeaks" "I", Cond.fieldLink RX1 61 "PinCylinder$State" "windNeeded" "I", Cond.methodLink RX2 102 yX1_replaceTune, Cond.instanceMethod yX1_replaceTune, Cond.selects RX1 yX1_replaceTune yX1_replaceTune]
noncomputable def wsX2_copy_r3 : List Cond := [Cond.code yX1_replaceTune cX1_replaceTune 9 none, Cond.methodLink RX1 70 yX1_teethAt, Cond.instanceMethod yX1_teethAt, Cond.selects RX1 yX1_teethAt yX1_teethAt, Cond.code yX1_teethAt cX1_teethAt 3 (some .int), Cond.methodLink RX1 78 yX1_around, Cond.static yX1_around, Cond.code yX1_around cX1_around 1 (some .int), Cond.methodLink RX1 114 yJ9_floorMod_7cf53, Cond.static yJ9_floorMod_7cf53, Cond.initialized RJ9, Cond.code yJ9_floorMod_7cf53 cJ9_floorMod_7cf53 3 (some .int), Cond.methodLink RX2 78 yX1_pinsOf, Cond.instanceMethod yX1_pinsOf, Cond.selects RX1 yX1_pinsOf yX1_pinsOf, Cond.code yX1_pinsOf cX1_pinsOf 4 (some .int), Cond.methodLink RX1 82 yJ6_bitCount_0f7a4, Cond.static yJ6_bitCount_0f7a4, Cond.initialized RJ6, Cond.code yJ6_bitCount_0f7a4 cJ6_bitCount_0f7a4 1 (some .int), Cond.constant RJ6 265 (1431655765), Cond.constant RJ6 266 (858993459), Cond.constant RJ6 267 (252645135)]
noncomputable def wsX2_copy : List Cond := .code yX2_copy cX2_copy 5 (some .int) :: ((wsX2_copy_r1 ++ (wsX2_copy_r2 ++ wsX2_copy_r3)) ++ wsX20 ++ wsX10 ++ (vx_atS RX2 59 "java/lang/IndexOutOfBoundsException" ["java/lang/RuntimeException", "java/lang/Exception"]).filter goodWord ++ (vx_atS RX2 90 "java/lang/IllegalArgumentException" ["java/lang/RuntimeException", "java/lang/Exception"]).filter goodWord)
noncomputable def wsX2_wind_r1 : List Cond := [Cond.classLink RX2 86 "java/lang/IllegalArgumentException", Cond.initialized "java/lang/IllegalArgumentException", Cond.fieldLink RX2 12 "PinCylinder" "state" "LPinCylinder$State;", Cond.methodLink RX2 111 Lib.Math.min.name, Cond.static Lib.Math.min.name, Cond.initialized "java/lang/Math", Cond.code Lib.Math.min.name Lib.Math.min.code 2 (some .int), Cond.methodLink RX2 97 yX2_isWithin, Cond.static yX2_isWithin, Cond.initialized RX2, Cond.code yX2_isWithin cX2_isWithin 3 (some .boolean), Cond.methodLink RX2 71 yX2_saveState, Cond.instanceMethod yX2_saveState, Cond.selects RX2 yX2_saveState yX2_saveState, Cond.code yX2_saveState cX2_saveState 1 none, Cond.fieldLink RX2 26 "PinCylinder" "saved" "[LPinCylinder$State;", Cond.fieldLink RX2 30 "PinCylinder" "oldestSaved" "I", Cond.fieldLink RX2 34 "PinCylinder" "savedCount" "I", Cond.methodLink RX2 168 yX1_become, Cond.instanceMethod yX1_become, Cond.selects RX1 yX1_become yX1_become, Cond.initialized RX1, Cond.code yX1_become cX1_become 2 none, Cond.fieldLink RX1 9 "PinCylinder$State" "chords" "[I"]
noncomputable def wsX2_wind_r2 : List Cond := [Cond.methodLink RX1 64 arraycopyName, Cond.native arraycopyName, Cond.static arraycopyName, Cond.initialized "java/lang/System", Cond.fieldLink RX1 15 "PinCylinder$State" "restsAt" "[I", Cond.fieldLink RX1 18 "PinCylinder$State" "wear" "[I", Cond.fieldLink RX1 21 "PinCylinder$State" "notesOf" "[I", Cond.fieldLink RX1 24 "PinCylinder$State" "keptTeeth" "[I", Cond.fieldLink RX1 27 "PinCylinder$State" "keptTimes" "[I", Cond.fieldLink RX1 30 "PinCylinder$State" "settings" "[I", Cond.fieldLink RX1 33 "PinCylinder$State" "broken" "I", Cond.fieldLink RX1 37 "PinCylinder$State" "place" "I", Cond.fieldLink RX1 40 "PinCylinder$State" "played" "I", Cond.fieldLink RX1 43 "PinCylinder$State" "wind" "I", Cond.fieldLink RX1 46 "PinCylinder$State" "vanes" "I", Cond.fieldLink RX1 49 "PinCylinder$State" "time" "I", Cond.fieldLink RX1 52 "PinCylinder$State" "stepsDone" "I", Cond.fieldLink RX1 55 "PinCylinder$State" "notes" "I", Cond.fieldLink RX1 58 "PinCylinder$State" "squeaks" "I", Cond.fieldLink RX1 61 "PinCylinder$State" "windNeeded" "I"]
noncomputable def wsX2_wind : List Cond := .code yX2_wind cX2_wind 2 (some .int) :: ((wsX2_wind_r1 ++ wsX2_wind_r2) ++ wsX20 ++ wsX10 ++ (vx_atS RX2 90 "java/lang/IllegalArgumentException" ["java/lang/RuntimeException", "java/lang/Exception"]).filter goodWord)
noncomputable def wsX2_vanes_r1 : List Cond := [Cond.classLink RX2 86 "java/lang/IllegalArgumentException", Cond.initialized "java/lang/IllegalArgumentException", Cond.fieldLink RX2 12 "PinCylinder" "state" "LPinCylinder$State;", Cond.methodLink RX2 97 yX2_isWithin, Cond.static yX2_isWithin, Cond.initialized RX2, Cond.code yX2_isWithin cX2_isWithin 3 (some .boolean), Cond.methodLink RX2 71 yX2_saveState, Cond.instanceMethod yX2_saveState, Cond.selects RX2 yX2_saveState yX2_saveState, Cond.code yX2_saveState cX2_saveState 1 none, Cond.fieldLink RX2 26 "PinCylinder" "saved" "[LPinCylinder$State;", Cond.fieldLink RX2 30 "PinCylinder" "oldestSaved" "I", Cond.fieldLink RX2 34 "PinCylinder" "savedCount" "I", Cond.methodLink RX2 168 yX1_become, Cond.instanceMethod yX1_become, Cond.selects RX1 yX1_become yX1_become, Cond.initialized RX1, Cond.code yX1_become cX1_become 2 none, Cond.fieldLink RX1 9 "PinCylinder$State" "chords" "[I", Cond.methodLink RX1 64 arraycopyName, Cond.native arraycopyName, Cond.static arraycopyName, Cond.initialized "java/lang/System"]
noncomputable def wsX2_vanes_r2 : List Cond := [Cond.fieldLink RX1 15 "PinCylinder$State" "restsAt" "[I", Cond.fieldLink RX1 18 "PinCylinder$State" "wear" "[I", Cond.fieldLink RX1 21 "PinCylinder$State" "notesOf" "[I", Cond.fieldLink RX1 24 "PinCylinder$State" "keptTeeth" "[I", Cond.fieldLink RX1 27 "PinCylinder$State" "keptTimes" "[I", Cond.fieldLink RX1 30 "PinCylinder$State" "settings" "[I", Cond.fieldLink RX1 33 "PinCylinder$State" "broken" "I", Cond.fieldLink RX1 37 "PinCylinder$State" "place" "I", Cond.fieldLink RX1 40 "PinCylinder$State" "played" "I", Cond.fieldLink RX1 43 "PinCylinder$State" "wind" "I", Cond.fieldLink RX1 46 "PinCylinder$State" "vanes" "I", Cond.fieldLink RX1 49 "PinCylinder$State" "time" "I", Cond.fieldLink RX1 52 "PinCylinder$State" "stepsDone" "I", Cond.fieldLink RX1 55 "PinCylinder$State" "notes" "I", Cond.fieldLink RX1 58 "PinCylinder$State" "squeaks" "I", Cond.fieldLink RX1 61 "PinCylinder$State" "windNeeded" "I"]
noncomputable def wsX2_vanes : List Cond := .code yX2_vanes cX2_vanes 3 (some .int) :: ((wsX2_vanes_r1 ++ wsX2_vanes_r2) ++ wsX20 ++ wsX10 ++ (vx_atS RX2 90 "java/lang/IllegalArgumentException" ["java/lang/RuntimeException", "java/lang/Exception"]).filter goodWord)
noncomputable def wsX2_shift_r1 : List Cond := [Cond.classLink RX2 55 "java/lang/IndexOutOfBoundsException", Cond.initialized "java/lang/IndexOutOfBoundsException", Cond.fieldLink RX2 12 "PinCylinder" "state" "LPinCylinder$State;", Cond.methodLink RX2 82 yX2_isBelow, Cond.static yX2_isBelow, Cond.initialized RX2, Cond.code yX2_isBelow cX2_isBelow 2 (some .boolean), Cond.methodLink RX2 71 yX2_saveState, Cond.instanceMethod yX2_saveState, Cond.selects RX2 yX2_saveState yX2_saveState, Cond.code yX2_saveState cX2_saveState 1 none, Cond.fieldLink RX2 26 "PinCylinder" "saved" "[LPinCylinder$State;", Cond.fieldLink RX2 30 "PinCylinder" "oldestSaved" "I", Cond.fieldLink RX2 34 "PinCylinder" "savedCount" "I", Cond.methodLink RX2 168 yX1_become, Cond.instanceMethod yX1_become, Cond.selects RX1 yX1_become yX1_become, Cond.initialized RX1, Cond.code yX1_become cX1_become 2 none, Cond.fieldLink RX1 9 "PinCylinder$State" "chords" "[I", Cond.methodLink RX1 64 arraycopyName, Cond.native arraycopyName, Cond.static arraycopyName, Cond.initialized "java/lang/System"]
noncomputable def wsX2_shift_r2 : List Cond := [Cond.fieldLink RX1 15 "PinCylinder$State" "restsAt" "[I", Cond.fieldLink RX1 18 "PinCylinder$State" "wear" "[I", Cond.fieldLink RX1 21 "PinCylinder$State" "notesOf" "[I", Cond.fieldLink RX1 24 "PinCylinder$State" "keptTeeth" "[I", Cond.fieldLink RX1 27 "PinCylinder$State" "keptTimes" "[I", Cond.fieldLink RX1 30 "PinCylinder$State" "settings" "[I", Cond.fieldLink RX1 33 "PinCylinder$State" "broken" "I", Cond.fieldLink RX1 37 "PinCylinder$State" "place" "I", Cond.fieldLink RX1 40 "PinCylinder$State" "played" "I", Cond.fieldLink RX1 43 "PinCylinder$State" "wind" "I", Cond.fieldLink RX1 46 "PinCylinder$State" "vanes" "I", Cond.fieldLink RX1 49 "PinCylinder$State" "time" "I", Cond.fieldLink RX1 52 "PinCylinder$State" "stepsDone" "I", Cond.fieldLink RX1 55 "PinCylinder$State" "notes" "I", Cond.fieldLink RX1 58 "PinCylinder$State" "squeaks" "I", Cond.fieldLink RX1 61 "PinCylinder$State" "windNeeded" "I"]
noncomputable def wsX2_shift : List Cond := .code yX2_shift cX2_shift 3 (some .int) :: ((wsX2_shift_r1 ++ wsX2_shift_r2) ++ wsX20 ++ wsX10 ++ (vx_atS RX2 59 "java/lang/IndexOutOfBoundsException" ["java/lang/RuntimeException", "java/lang/Exception"]).filter goodWord)
noncomputable def wsX2_play_r1 : List Cond := [Cond.classLink RX2 86 "java/lang/IllegalArgumentException", Cond.initialized "java/lang/IllegalArgumentException", Cond.fieldLink RX2 12 "PinCylinder" "state" "LPinCylinder$State;", Cond.methodLink RX2 97 yX2_isWithin, Cond.static yX2_isWithin, Cond.initialized RX2, Cond.code yX2_isWithin cX2_isWithin 3 (some .boolean), Cond.methodLink RX2 71 yX2_saveState, Cond.instanceMethod yX2_saveState, Cond.selects RX2 yX2_saveState yX2_saveState, Cond.code yX2_saveState cX2_saveState 1 none, Cond.fieldLink RX2 26 "PinCylinder" "saved" "[LPinCylinder$State;", Cond.fieldLink RX2 30 "PinCylinder" "oldestSaved" "I", Cond.fieldLink RX2 34 "PinCylinder" "savedCount" "I", Cond.methodLink RX2 168 yX1_become, Cond.instanceMethod yX1_become, Cond.selects RX1 yX1_become yX1_become, Cond.initialized RX1, Cond.code yX1_become cX1_become 2 none, Cond.fieldLink RX1 9 "PinCylinder$State" "chords" "[I", Cond.methodLink RX1 64 arraycopyName, Cond.native arraycopyName, Cond.static arraycopyName, Cond.initialized "java/lang/System"]
noncomputable def wsX2_play_r2 : List Cond := [Cond.fieldLink RX1 15 "PinCylinder$State" "restsAt" "[I", Cond.fieldLink RX1 18 "PinCylinder$State" "wear" "[I", Cond.fieldLink RX1 21 "PinCylinder$State" "notesOf" "[I", Cond.fieldLink RX1 24 "PinCylinder$State" "keptTeeth" "[I", Cond.fieldLink RX1 27 "PinCylinder$State" "keptTimes" "[I", Cond.fieldLink RX1 30 "PinCylinder$State" "settings" "[I", Cond.fieldLink RX1 33 "PinCylinder$State" "broken" "I", Cond.fieldLink RX1 37 "PinCylinder$State" "place" "I", Cond.fieldLink RX1 40 "PinCylinder$State" "played" "I", Cond.fieldLink RX1 43 "PinCylinder$State" "wind" "I", Cond.fieldLink RX1 46 "PinCylinder$State" "vanes" "I", Cond.fieldLink RX1 49 "PinCylinder$State" "time" "I", Cond.fieldLink RX1 52 "PinCylinder$State" "stepsDone" "I", Cond.fieldLink RX1 55 "PinCylinder$State" "notes" "I", Cond.fieldLink RX1 58 "PinCylinder$State" "squeaks" "I", Cond.fieldLink RX1 61 "PinCylinder$State" "windNeeded" "I", Cond.methodLink RX2 127 yX1_goOnFor, Cond.instanceMethod yX1_goOnFor, Cond.selects RX1 yX1_goOnFor yX1_goOnFor, Cond.code yX1_goOnFor cX1_goOnFor 3 (some .int), Cond.methodLink RX1 95 yX1_goOn, Cond.instanceMethod yX1_goOn, Cond.selects RX1 yX1_goOn yX1_goOn, Cond.code yX1_goOn cX1_goOn 7 (some .boolean)]
noncomputable def wsX2_play_r3 : List Cond := [Cond.methodLink RX1 105 Lib.Math.max.name, Cond.static Lib.Math.max.name, Cond.initialized "java/lang/Math", Cond.code Lib.Math.max.name Lib.Math.max.code 2 (some .int), Cond.methodLink RX1 78 yX1_around, Cond.static yX1_around, Cond.code yX1_around cX1_around 1 (some .int), Cond.methodLink RX1 114 yJ9_floorMod_7cf53, Cond.static yJ9_floorMod_7cf53, Cond.initialized RJ9, Cond.code yJ9_floorMod_7cf53 cJ9_floorMod_7cf53 3 (some .int), Cond.methodLink RX1 99 yX1_tuneComing, Cond.instanceMethod yX1_tuneComing, Cond.selects RX1 yX1_tuneComing yX1_tuneComing, Cond.code yX1_tuneComing cX1_tuneComing 3 (some .int), Cond.methodLink RX1 70 yX1_teethAt, Cond.instanceMethod yX1_teethAt, Cond.selects RX1 yX1_teethAt yX1_teethAt, Cond.code yX1_teethAt cX1_teethAt 3 (some .int), Cond.methodLink RX1 102 yX1_windOfStep, Cond.instanceMethod yX1_windOfStep, Cond.selects RX1 yX1_windOfStep yX1_windOfStep, Cond.code yX1_windOfStep cX1_windOfStep 3 (some .int), Cond.methodLink RX1 82 yJ6_bitCount_0f7a4]
noncomputable def wsX2_play_r4 : List Cond := [Cond.static yJ6_bitCount_0f7a4, Cond.initialized RJ6, Cond.code yJ6_bitCount_0f7a4 cJ6_bitCount_0f7a4 1 (some .int), Cond.constant RJ6 265 (1431655765), Cond.constant RJ6 266 (858993459), Cond.constant RJ6 267 (252645135), Cond.methodLink RX1 110 yX1_strike, Cond.instanceMethod yX1_strike, Cond.selects RX1 yX1_strike yX1_strike, Cond.code yX1_strike cX1_strike 4 none, Cond.methodLink RX1 117 yX1_ringsFor, Cond.instanceMethod yX1_ringsFor, Cond.selects RX1 yX1_ringsFor yX1_ringsFor, Cond.code yX1_ringsFor cX1_ringsFor 2 (some .int), Cond.methodLink RX1 120 yX1_squeak, Cond.instanceMethod yX1_squeak, Cond.selects RX1 yX1_squeak yX1_squeak, Cond.code yX1_squeak cX1_squeak 2 none, Cond.methodLink RX1 124 yX1_isBroken, Cond.instanceMethod yX1_isBroken, Cond.selects RX1 yX1_isBroken yX1_isBroken, Cond.code yX1_isBroken cX1_isBroken 2 (some .boolean), Cond.methodLink RX1 128 yX1_pluck, Cond.instanceMethod yX1_pluck]
noncomputable def wsX2_play_r5 : List Cond := [Cond.selects RX1 yX1_pluck yX1_pluck, Cond.code yX1_pluck cX1_pluck 3 none]
noncomputable def wsX2_play : List Cond := .code yX2_play cX2_play 2 (some .int) :: ((wsX2_play_r1 ++ (wsX2_play_r2 ++ (wsX2_play_r3 ++ (wsX2_play_r4 ++ wsX2_play_r5)))) ++ wsX20 ++ wsX10 ++ (vx_atS RX2 90 "java/lang/IllegalArgumentException" ["java/lang/RuntimeException", "java/lang/Exception"]).filter goodWord)
noncomputable def wsX2_mend_r1 : List Cond := [Cond.classLink RX2 55 "java/lang/IndexOutOfBoundsException", Cond.initialized "java/lang/IndexOutOfBoundsException", Cond.fieldLink RX2 12 "PinCylinder" "state" "LPinCylinder$State;", Cond.methodLink RX2 82 yX2_isBelow, Cond.static yX2_isBelow, Cond.initialized RX2, Cond.code yX2_isBelow cX2_isBelow 2 (some .boolean), Cond.methodLink RX2 71 yX2_saveState, Cond.instanceMethod yX2_saveState, Cond.selects RX2 yX2_saveState yX2_saveState, Cond.code yX2_saveState cX2_saveState 1 none, Cond.fieldLink RX2 26 "PinCylinder" "saved" "[LPinCylinder$State;", Cond.fieldLink RX2 30 "PinCylinder" "oldestSaved" "I", Cond.fieldLink RX2 34 "PinCylinder" "savedCount" "I", Cond.methodLink RX2 168 yX1_become, Cond.instanceMethod yX1_become, Cond.selects RX1 yX1_become yX1_become, Cond.initialized RX1, Cond.code yX1_become cX1_become 2 none, Cond.fieldLink RX1 9 "PinCylinder$State" "chords" "[I", Cond.methodLink RX1 64 arraycopyName, Cond.native arraycopyName, Cond.static arraycopyName, Cond.initialized "java/lang/System"]
noncomputable def wsX2_mend_r2 : List Cond := [Cond.fieldLink RX1 15 "PinCylinder$State" "restsAt" "[I", Cond.fieldLink RX1 18 "PinCylinder$State" "wear" "[I", Cond.fieldLink RX1 21 "PinCylinder$State" "notesOf" "[I", Cond.fieldLink RX1 24 "PinCylinder$State" "keptTeeth" "[I", Cond.fieldLink RX1 27 "PinCylinder$State" "keptTimes" "[I", Cond.fieldLink RX1 30 "PinCylinder$State" "settings" "[I", Cond.fieldLink RX1 33 "PinCylinder$State" "broken" "I", Cond.fieldLink RX1 37 "PinCylinder$State" "place" "I", Cond.fieldLink RX1 40 "PinCylinder$State" "played" "I", Cond.fieldLink RX1 43 "PinCylinder$State" "wind" "I", Cond.fieldLink RX1 46 "PinCylinder$State" "vanes" "I", Cond.fieldLink RX1 49 "PinCylinder$State" "time" "I", Cond.fieldLink RX1 52 "PinCylinder$State" "stepsDone" "I", Cond.fieldLink RX1 55 "PinCylinder$State" "notes" "I", Cond.fieldLink RX1 58 "PinCylinder$State" "squeaks" "I", Cond.fieldLink RX1 61 "PinCylinder$State" "windNeeded" "I", Cond.methodLink RX2 132 yX1_mendTooth, Cond.instanceMethod yX1_mendTooth, Cond.selects RX1 yX1_mendTooth yX1_mendTooth, Cond.code yX1_mendTooth cX1_mendTooth 3 (some .int)]
noncomputable def wsX2_mend : List Cond := .code yX2_mend cX2_mend 2 (some .int) :: ((wsX2_mend_r1 ++ wsX2_mend_r2) ++ wsX20 ++ wsX10 ++ (vx_atS RX2 59 "java/lang/IndexOutOfBoundsException" ["java/lang/RuntimeException", "java/lang/Exception"]).filter goodWord)
noncomputable def wsX2_set_r1 : List Cond := [Cond.classLink RX2 55 "java/lang/IndexOutOfBoundsException", Cond.initialized "java/lang/IndexOutOfBoundsException", Cond.classLink RX2 86 "java/lang/IllegalArgumentException", Cond.initialized "java/lang/IllegalArgumentException", Cond.fieldLink RX2 137 "PinCylinder" "LEAST_VALUE" "[I", Cond.fieldLink RX2 141 "PinCylinder" "MOST_VALUE" "[I", Cond.fieldLink RX2 12 "PinCylinder" "state" "LPinCylinder$State;", Cond.methodLink RX2 82 yX2_isBelow, Cond.static yX2_isBelow, Cond.initialized RX2, Cond.code yX2_isBelow cX2_isBelow 2 (some .boolean), Cond.methodLink RX2 97 yX2_isWithin, Cond.static yX2_isWithin, Cond.code yX2_isWithin cX2_isWithin 3 (some .boolean), Cond.methodLink RX2 71 yX2_saveState, Cond.instanceMethod yX2_saveState, Cond.selects RX2 yX2_saveState yX2_saveState, Cond.code yX2_saveState cX2_saveState 1 none, Cond.fieldLink RX2 26 "PinCylinder" "saved" "[LPinCylinder$State;", Cond.fieldLink RX2 30 "PinCylinder" "oldestSaved" "I", Cond.fieldLink RX2 34 "PinCylinder" "savedCount" "I", Cond.methodLink RX2 168 yX1_become, Cond.instanceMethod yX1_become, Cond.selects RX1 yX1_become yX1_become]
noncomputable def wsX2_set_r2 : List Cond := [Cond.initialized RX1, Cond.code yX1_become cX1_become 2 none, Cond.fieldLink RX1 9 "PinCylinder$State" "chords" "[I", Cond.methodLink RX1 64 arraycopyName, Cond.native arraycopyName, Cond.static arraycopyName, Cond.initialized "java/lang/System", Cond.fieldLink RX1 15 "PinCylinder$State" "restsAt" "[I", Cond.fieldLink RX1 18 "PinCylinder$State" "wear" "[I", Cond.fieldLink RX1 21 "PinCylinder$State" "notesOf" "[I", Cond.fieldLink RX1 24 "PinCylinder$State" "keptTeeth" "[I", Cond.fieldLink RX1 27 "PinCylinder$State" "keptTimes" "[I", Cond.fieldLink RX1 30 "PinCylinder$State" "settings" "[I", Cond.fieldLink RX1 33 "PinCylinder$State" "broken" "I", Cond.fieldLink RX1 37 "PinCylinder$State" "place" "I", Cond.fieldLink RX1 40 "PinCylinder$State" "played" "I", Cond.fieldLink RX1 43 "PinCylinder$State" "wind" "I", Cond.fieldLink RX1 46 "PinCylinder$State" "vanes" "I", Cond.fieldLink RX1 49 "PinCylinder$State" "time" "I", Cond.fieldLink RX1 52 "PinCylinder$State" "stepsDone" "I", Cond.fieldLink RX1 55 "PinCylinder$State" "notes" "I", Cond.fieldLink RX1 58 "PinCylinder$State" "squeaks" "I", Cond.fieldLink RX1 61 "PinCylinder$State" "windNeeded" "I"]
noncomputable def wsX2_set : List Cond := .code yX2_set cX2_set 4 (some .int) :: ((wsX2_set_r1 ++ wsX2_set_r2) ++ wsX20 ++ wsX10 ++ (vx_atS RX2 59 "java/lang/IndexOutOfBoundsException" ["java/lang/RuntimeException", "java/lang/Exception"]).filter goodWord ++ (vx_atS RX2 90 "java/lang/IllegalArgumentException" ["java/lang/RuntimeException", "java/lang/Exception"]).filter goodWord)
noncomputable def wsX2_append : List Cond := .code yX2_append cX2_append 2 (some .int) :: ([.classLink RX2 86 "java/lang/IllegalArgumentException", .initialized "java/lang/IllegalArgumentException", .classLink RX2 66 "java/lang/IllegalStateException", .initialized "java/lang/IllegalStateException", .fieldLink RX2 41 "PinCylinder" "bufferLength" "I", .fieldLink RX2 37 "PinCylinder" "buffer" "[C", .methodLink RX2 97 yX2_isWithin, .static yX2_isWithin, .initialized RX2, .code yX2_isWithin cX2_isWithin 3 (some .boolean)] ++ wsX20 ++ (vx_atS RX2 90 "java/lang/IllegalArgumentException" ["java/lang/RuntimeException", "java/lang/Exception"]).filter goodWord ++ (vx_atS RX2 70 "java/lang/IllegalStateException" ["java/lang/RuntimeException", "java/lang/Exception"]).filter goodWord)
noncomputable def wsX2_clearBuffer : List Cond := .code yX2_clearBuffer cX2_clearBuffer 2 (some .int) :: ([.fieldLink RX2 41 "PinCylinder" "bufferLength" "I"] ++ wsX20)
noncomputable def wsX2_readBuffer_r1 : List Cond := [Cond.fieldLink RX2 47 "PinCylinder" "reader" "LPinCylinder$PinReader;", Cond.fieldLink RX2 41 "PinCylinder" "bufferLength" "I", Cond.fieldLink RX2 37 "PinCylinder" "buffer" "[C", Cond.methodLink RX2 254 yX0_start, Cond.instanceMethod yX0_start, Cond.selects RX0 yX0_start yX0_start, Cond.initialized RX0, Cond.code yX0_start cX0_start 1 none, Cond.fieldLink RX0 11 "PinCylinder$PinReader" "phase" "I", Cond.methodLink RX2 257 yX0_accepts, Cond.instanceMethod yX0_accepts, Cond.selects RX0 yX0_accepts yX0_accepts, Cond.code yX0_accepts cX0_accepts 2 (some .boolean), Cond.methodLink RX0 27 yX0_acceptsTune, Cond.instanceMethod yX0_acceptsTune, Cond.selects RX0 yX0_acceptsTune yX0_acceptsTune, Cond.code yX0_acceptsTune cX0_acceptsTune 3 (some .boolean), Cond.fieldLink RX0 15 "PinCylinder$PinReader" "tune" "I", Cond.methodLink RX0 53 yX0_digitOf, Cond.static yX0_digitOf, Cond.code yX0_digitOf cX0_digitOf 1 (some .int), Cond.methodLink RX0 31 yX0_goTo, Cond.instanceMethod yX0_goTo, Cond.selects RX0 yX0_goTo yX0_goTo]
noncomputable def wsX2_readBuffer_r2 : List Cond := [Cond.code yX0_goTo cX0_goTo 2 (some .boolean), Cond.methodLink RX0 35 yX0_acceptsToothDigit, Cond.instanceMethod yX0_acceptsToothDigit, Cond.selects RX0 yX0_acceptsToothDigit yX0_acceptsToothDigit, Cond.code yX0_acceptsToothDigit cX0_acceptsToothDigit 3 (some .boolean), Cond.fieldLink RX0 18 "PinCylinder$PinReader" "tooth" "I", Cond.methodLink RX0 38 yX0_acceptsToothEnd, Cond.instanceMethod yX0_acceptsToothEnd, Cond.selects RX0 yX0_acceptsToothEnd yX0_acceptsToothEnd, Cond.code yX0_acceptsToothEnd cX0_acceptsToothEnd 3 (some .boolean), Cond.methodLink RX0 57 yX0_lengthened, Cond.static yX0_lengthened, Cond.code yX0_lengthened cX0_lengthened 3 (some .int), Cond.methodLink RX0 41 yX0_acceptsStepDigit, Cond.instanceMethod yX0_acceptsStepDigit, Cond.selects RX0 yX0_acceptsStepDigit yX0_acceptsStepDigit, Cond.code yX0_acceptsStepDigit cX0_acceptsStepDigit 3 (some .boolean), Cond.fieldLink RX0 24 "PinCylinder$PinReader" "number" "I", Cond.methodLink RX0 44 yX0_acceptsBehindStep, Cond.instanceMethod yX0_acceptsBehindStep, Cond.selects RX0 yX0_acceptsBehindStep yX0_acceptsBehindStep, Cond.code yX0_acceptsBehindStep cX0_acceptsBehindStep 3 (some .boolean), Cond.methodLink RX0 61 yX0_isSeparator, Cond.static yX0_isSeparator]
noncomputable def wsX2_readBuffer_r3 : List Cond := [Cond.code yX0_isSeparator cX0_isSeparator 1 (some .boolean), Cond.methodLink RX0 64 yX0_acceptsSeparator, Cond.instanceMethod yX0_acceptsSeparator, Cond.selects RX0 yX0_acceptsSeparator yX0_acceptsSeparator, Cond.code yX0_acceptsSeparator cX0_acceptsSeparator 2 (some .boolean), Cond.methodLink RX0 67 yX0_acceptsRange, Cond.instanceMethod yX0_acceptsRange, Cond.selects RX0 yX0_acceptsRange yX0_acceptsRange, Cond.code yX0_acceptsRange cX0_acceptsRange 1 (some .boolean), Cond.fieldLink RX0 21 "PinCylinder$PinReader" "from" "I", Cond.methodLink RX0 47 yX0_acceptsRangeEndDigit, Cond.instanceMethod yX0_acceptsRangeEndDigit, Cond.selects RX0 yX0_acceptsRangeEndDigit yX0_acceptsRangeEndDigit, Cond.code yX0_acceptsRangeEndDigit cX0_acceptsRangeEndDigit 3 (some .boolean), Cond.methodLink RX0 71 yX0_greatestFrom, Cond.static yX0_greatestFrom, Cond.code yX0_greatestFrom cX0_greatestFrom 2 (some .int), Cond.methodLink RX0 75 Lib.Math.min.name, Cond.static Lib.Math.min.name, Cond.initialized "java/lang/Math", Cond.code Lib.Math.min.name Lib.Math.min.code 2 (some .int), Cond.methodLink RX0 50 yX0_acceptsBehindRangeEnd, Cond.instanceMethod yX0_acceptsBehindRangeEnd, Cond.selects RX0 yX0_acceptsBehindRangeEnd yX0_acceptsBehindRangeEnd]
noncomputable def wsX2_readBuffer_r4 : List Cond := [Cond.code yX0_acceptsBehindRangeEnd cX0_acceptsBehindRangeEnd 3 (some .boolean)]
noncomputable def wsX2_readBuffer : List Cond := .code yX2_readBuffer cX2_readBuffer 2 (some .int) :: ((wsX2_readBuffer_r1 ++ (wsX2_readBuffer_r2 ++ (wsX2_readBuffer_r3 ++ wsX2_readBuffer_r4))) ++ wsX20 ++ wsX00)
noncomputable def wsX2_firstError_r1 : List Cond := [Cond.methodLink RX2 153 yX2_readBuffer, Cond.instanceMethod yX2_readBuffer, Cond.selects RX2 yX2_readBuffer yX2_readBuffer, Cond.initialized RX2, Cond.code yX2_readBuffer cX2_readBuffer 2 (some .int), Cond.fieldLink RX2 47 "PinCylinder" "reader" "LPinCylinder$PinReader;", Cond.fieldLink RX2 41 "PinCylinder" "bufferLength" "I", Cond.fieldLink RX2 37 "PinCylinder" "buffer" "[C", Cond.methodLink RX2 254 yX0_start, Cond.instanceMethod yX0_start, Cond.selects RX0 yX0_start yX0_start, Cond.initialized RX0, Cond.code yX0_start cX0_start 1 none, Cond.fieldLink RX0 11 "PinCylinder$PinReader" "phase" "I", Cond.methodLink RX2 257 yX0_accepts, Cond.instanceMethod yX0_accepts, Cond.selects RX0 yX0_accepts yX0_accepts, Cond.code yX0_accepts cX0_accepts 2 (some .boolean), Cond.methodLink RX0 27 yX0_acceptsTune, Cond.instanceMethod yX0_acceptsTune, Cond.selects RX0 yX0_acceptsTune yX0_acceptsTune, Cond.code yX0_acceptsTune cX0_acceptsTune 3 (some .boolean), Cond.fieldLink RX0 15 "PinCylinder$PinReader" "tune" "I", Cond.methodLink RX0 53 yX0_digitOf]
noncomputable def wsX2_firstError_r2 : List Cond := [Cond.static yX0_digitOf, Cond.code yX0_digitOf cX0_digitOf 1 (some .int), Cond.methodLink RX0 31 yX0_goTo, Cond.instanceMethod yX0_goTo, Cond.selects RX0 yX0_goTo yX0_goTo, Cond.code yX0_goTo cX0_goTo 2 (some .boolean), Cond.methodLink RX0 35 yX0_acceptsToothDigit, Cond.instanceMethod yX0_acceptsToothDigit, Cond.selects RX0 yX0_acceptsToothDigit yX0_acceptsToothDigit, Cond.code yX0_acceptsToothDigit cX0_acceptsToothDigit 3 (some .boolean), Cond.fieldLink RX0 18 "PinCylinder$PinReader" "tooth" "I", Cond.methodLink RX0 38 yX0_acceptsToothEnd, Cond.instanceMethod yX0_acceptsToothEnd, Cond.selects RX0 yX0_acceptsToothEnd yX0_acceptsToothEnd, Cond.code yX0_acceptsToothEnd cX0_acceptsToothEnd 3 (some .boolean), Cond.methodLink RX0 57 yX0_lengthened, Cond.static yX0_lengthened, Cond.code yX0_lengthened cX0_lengthened 3 (some .int), Cond.methodLink RX0 41 yX0_acceptsStepDigit, Cond.instanceMethod yX0_acceptsStepDigit, Cond.selects RX0 yX0_acceptsStepDigit yX0_acceptsStepDigit, Cond.code yX0_acceptsStepDigit cX0_acceptsStepDigit 3 (some .boolean), Cond.fieldLink RX0 24 "PinCylinder$PinReader" "number" "I", Cond.methodLink RX0 44 yX0_acceptsBehindStep]
noncomputable def wsX2_firstError_r3 : List Cond := [Cond.instanceMethod yX0_acceptsBehindStep, Cond.selects RX0 yX0_acceptsBehindStep yX0_acceptsBehindStep, Cond.code yX0_acceptsBehindStep cX0_acceptsBehindStep 3 (some .boolean), Cond.methodLink RX0 61 yX0_isSeparator, Cond.static yX0_isSeparator, Cond.code yX0_isSeparator cX0_isSeparator 1 (some .boolean), Cond.methodLink RX0 64 yX0_acceptsSeparator, Cond.instanceMethod yX0_acceptsSeparator, Cond.selects RX0 yX0_acceptsSeparator yX0_acceptsSeparator, Cond.code yX0_acceptsSeparator cX0_acceptsSeparator 2 (some .boolean), Cond.methodLink RX0 67 yX0_acceptsRange, Cond.instanceMethod yX0_acceptsRange, Cond.selects RX0 yX0_acceptsRange yX0_acceptsRange, Cond.code yX0_acceptsRange cX0_acceptsRange 1 (some .boolean), Cond.fieldLink RX0 21 "PinCylinder$PinReader" "from" "I", Cond.methodLink RX0 47 yX0_acceptsRangeEndDigit, Cond.instanceMethod yX0_acceptsRangeEndDigit, Cond.selects RX0 yX0_acceptsRangeEndDigit yX0_acceptsRangeEndDigit, Cond.code yX0_acceptsRangeEndDigit cX0_acceptsRangeEndDigit 3 (some .boolean), Cond.methodLink RX0 71 yX0_greatestFrom, Cond.static yX0_greatestFrom, Cond.code yX0_greatestFrom cX0_greatestFrom 2 (some .int), Cond.methodLink RX0 75 Lib.Math.min.name, Cond.static Lib.Math.min.name]
noncomputable def wsX2_firstError_r4 : List Cond := [Cond.initialized "java/lang/Math", Cond.code Lib.Math.min.name Lib.Math.min.code 2 (some .int), Cond.methodLink RX0 50 yX0_acceptsBehindRangeEnd, Cond.instanceMethod yX0_acceptsBehindRangeEnd, Cond.selects RX0 yX0_acceptsBehindRangeEnd yX0_acceptsBehindRangeEnd, Cond.code yX0_acceptsBehindRangeEnd cX0_acceptsBehindRangeEnd 3 (some .boolean)]
noncomputable def wsX2_firstError : List Cond := .code yX2_firstError cX2_firstError 1 (some .int) :: ((wsX2_firstError_r1 ++ (wsX2_firstError_r2 ++ (wsX2_firstError_r3 ++ wsX2_firstError_r4))) ++ wsX20 ++ wsX00)
noncomputable def wsX2_putReadRange_r1 : List Cond := [Cond.fieldLink RX2 12 "PinCylinder" "state" "LPinCylinder$State;", Cond.fieldLink RX2 47 "PinCylinder" "reader" "LPinCylinder$PinReader;", Cond.methodLink RX2 273 yX0_rangeStart, Cond.instanceMethod yX0_rangeStart, Cond.selects RX0 yX0_rangeStart yX0_rangeStart, Cond.initialized RX0, Cond.code yX0_rangeStart cX0_rangeStart 1 (some .int), Cond.fieldLink RX0 11 "PinCylinder$PinReader" "phase" "I", Cond.fieldLink RX0 21 "PinCylinder$PinReader" "from" "I", Cond.fieldLink RX0 24 "PinCylinder$PinReader" "number" "I", Cond.methodLink RX2 279 yX1_putRange, Cond.instanceMethod yX1_putRange, Cond.selects RX1 yX1_putRange yX1_putRange, Cond.initialized RX1, Cond.code yX1_putRange cX1_putRange 7 (some .int), Cond.methodLink RX1 87 yX1_hindrance, Cond.instanceMethod yX1_hindrance, Cond.selects RX1 yX1_hindrance yX1_hindrance, Cond.code yX1_hindrance cX1_hindrance 5 (some .int), Cond.fieldLink RX1 30 "PinCylinder$State" "settings" "[I", Cond.methodLink RX1 74 yX1_hasPin, Cond.instanceMethod yX1_hasPin, Cond.selects RX1 yX1_hasPin yX1_hasPin, Cond.code yX1_hasPin cX1_hasPin 4 (some .boolean)]
noncomputable def wsX2_putReadRange_r2 : List Cond := [Cond.methodLink RX1 70 yX1_teethAt, Cond.instanceMethod yX1_teethAt, Cond.selects RX1 yX1_teethAt yX1_teethAt, Cond.code yX1_teethAt cX1_teethAt 3 (some .int), Cond.fieldLink RX1 9 "PinCylinder$State" "chords" "[I", Cond.methodLink RX1 78 yX1_around, Cond.static yX1_around, Cond.code yX1_around cX1_around 1 (some .int), Cond.methodLink RX1 114 yJ9_floorMod_7cf53, Cond.static yJ9_floorMod_7cf53, Cond.initialized RJ9, Cond.code yJ9_floorMod_7cf53 cJ9_floorMod_7cf53 3 (some .int), Cond.methodLink RX1 82 yJ6_bitCount_0f7a4, Cond.static yJ6_bitCount_0f7a4, Cond.initialized RJ6, Cond.code yJ6_bitCount_0f7a4 cJ6_bitCount_0f7a4 1 (some .int), Cond.constant RJ6 265 (1431655765), Cond.constant RJ6 266 (858993459), Cond.constant RJ6 267 (252645135), Cond.methodLink RX1 91 yX1_putPin, Cond.instanceMethod yX1_putPin, Cond.selects RX1 yX1_putPin yX1_putPin, Cond.code yX1_putPin cX1_putPin 4 none]
noncomputable def wsX2_putReadRange : List Cond := .code yX2_putReadRange cX2_putReadRange 1 (some .int) :: ((wsX2_putReadRange_r1 ++ wsX2_putReadRange_r2) ++ wsX20 ++ wsX00 ++ wsX10)
noncomputable def wsX2_putBufferPins_r1 : List Cond := [Cond.fieldLink RX2 47 "PinCylinder" "reader" "LPinCylinder$PinReader;", Cond.fieldLink RX2 41 "PinCylinder" "bufferLength" "I", Cond.fieldLink RX2 37 "PinCylinder" "buffer" "[C", Cond.methodLink RX2 254 yX0_start, Cond.instanceMethod yX0_start, Cond.selects RX0 yX0_start yX0_start, Cond.initialized RX0, Cond.code yX0_start cX0_start 1 none, Cond.fieldLink RX0 11 "PinCylinder$PinReader" "phase" "I", Cond.methodLink RX2 261 yX0_isSeparator, Cond.static yX0_isSeparator, Cond.code yX0_isSeparator cX0_isSeparator 1 (some .boolean), Cond.methodLink RX2 264 yX2_putReadRange, Cond.instanceMethod yX2_putReadRange, Cond.selects RX2 yX2_putReadRange yX2_putReadRange, Cond.initialized RX2, Cond.code yX2_putReadRange cX2_putReadRange 1 (some .int), Cond.fieldLink RX2 12 "PinCylinder" "state" "LPinCylinder$State;", Cond.methodLink RX2 273 yX0_rangeStart, Cond.instanceMethod yX0_rangeStart, Cond.selects RX0 yX0_rangeStart yX0_rangeStart, Cond.code yX0_rangeStart cX0_rangeStart 1 (some .int), Cond.fieldLink RX0 21 "PinCylinder$PinReader" "from" "I", Cond.fieldLink RX0 24 "PinCylinder$PinReader" "number" "I"]
noncomputable def wsX2_putBufferPins_r2 : List Cond := [Cond.methodLink RX2 279 yX1_putRange, Cond.instanceMethod yX1_putRange, Cond.selects RX1 yX1_putRange yX1_putRange, Cond.initialized RX1, Cond.code yX1_putRange cX1_putRange 7 (some .int), Cond.methodLink RX1 87 yX1_hindrance, Cond.instanceMethod yX1_hindrance, Cond.selects RX1 yX1_hindrance yX1_hindrance, Cond.code yX1_hindrance cX1_hindrance 5 (some .int), Cond.fieldLink RX1 30 "PinCylinder$State" "settings" "[I", Cond.methodLink RX1 74 yX1_hasPin, Cond.instanceMethod yX1_hasPin, Cond.selects RX1 yX1_hasPin yX1_hasPin, Cond.code yX1_hasPin cX1_hasPin 4 (some .boolean), Cond.methodLink RX1 70 yX1_teethAt, Cond.instanceMethod yX1_teethAt, Cond.selects RX1 yX1_teethAt yX1_teethAt, Cond.code yX1_teethAt cX1_teethAt 3 (some .int), Cond.fieldLink RX1 9 "PinCylinder$State" "chords" "[I", Cond.methodLink RX1 78 yX1_around, Cond.static yX1_around, Cond.code yX1_around cX1_around 1 (some .int), Cond.methodLink RX1 114 yJ9_floorMod_7cf53, Cond.static yJ9_floorMod_7cf53]
noncomputable def wsX2_putBufferPins_r3 : List Cond := [Cond.initialized RJ9, Cond.code yJ9_floorMod_7cf53 cJ9_floorMod_7cf53 3 (some .int), Cond.methodLink RX1 82 yJ6_bitCount_0f7a4, Cond.static yJ6_bitCount_0f7a4, Cond.initialized RJ6, Cond.code yJ6_bitCount_0f7a4 cJ6_bitCount_0f7a4 1 (some .int), Cond.constant RJ6 265 (1431655765), Cond.constant RJ6 266 (858993459), Cond.constant RJ6 267 (252645135), Cond.methodLink RX1 91 yX1_putPin, Cond.instanceMethod yX1_putPin, Cond.selects RX1 yX1_putPin yX1_putPin, Cond.code yX1_putPin cX1_putPin 4 none, Cond.methodLink RX2 257 yX0_accepts, Cond.instanceMethod yX0_accepts, Cond.selects RX0 yX0_accepts yX0_accepts, Cond.code yX0_accepts cX0_accepts 2 (some .boolean), Cond.methodLink RX0 27 yX0_acceptsTune, Cond.instanceMethod yX0_acceptsTune, Cond.selects RX0 yX0_acceptsTune yX0_acceptsTune, Cond.code yX0_acceptsTune cX0_acceptsTune 3 (some .boolean), Cond.fieldLink RX0 15 "PinCylinder$PinReader" "tune" "I", Cond.methodLink RX0 53 yX0_digitOf, Cond.static yX0_digitOf]
noncomputable def wsX2_putBufferPins_r4 : List Cond := [Cond.code yX0_digitOf cX0_digitOf 1 (some .int), Cond.methodLink RX0 31 yX0_goTo, Cond.instanceMethod yX0_goTo, Cond.selects RX0 yX0_goTo yX0_goTo, Cond.code yX0_goTo cX0_goTo 2 (some .boolean), Cond.methodLink RX0 35 yX0_acceptsToothDigit, Cond.instanceMethod yX0_acceptsToothDigit, Cond.selects RX0 yX0_acceptsToothDigit yX0_acceptsToothDigit, Cond.code yX0_acceptsToothDigit cX0_acceptsToothDigit 3 (some .boolean), Cond.fieldLink RX0 18 "PinCylinder$PinReader" "tooth" "I", Cond.methodLink RX0 38 yX0_acceptsToothEnd, Cond.instanceMethod yX0_acceptsToothEnd, Cond.selects RX0 yX0_acceptsToothEnd yX0_acceptsToothEnd, Cond.code yX0_acceptsToothEnd cX0_acceptsToothEnd 3 (some .boolean), Cond.methodLink RX0 57 yX0_lengthened, Cond.static yX0_lengthened, Cond.code yX0_lengthened cX0_lengthened 3 (some .int), Cond.methodLink RX0 41 yX0_acceptsStepDigit, Cond.instanceMethod yX0_acceptsStepDigit, Cond.selects RX0 yX0_acceptsStepDigit yX0_acceptsStepDigit, Cond.code yX0_acceptsStepDigit cX0_acceptsStepDigit 3 (some .boolean), Cond.methodLink RX0 44 yX0_acceptsBehindStep, Cond.instanceMethod yX0_acceptsBehindStep, Cond.selects RX0 yX0_acceptsBehindStep yX0_acceptsBehindStep]
noncomputable def wsX2_putBufferPins_r5 : List Cond := [Cond.code yX0_acceptsBehindStep cX0_acceptsBehindStep 3 (some .boolean), Cond.methodLink RX0 61 yX0_isSeparator, Cond.methodLink RX0 64 yX0_acceptsSeparator, Cond.instanceMethod yX0_acceptsSeparator, Cond.selects RX0 yX0_acceptsSeparator yX0_acceptsSeparator, Cond.code yX0_acceptsSeparator cX0_acceptsSeparator 2 (some .boolean), Cond.methodLink RX0 67 yX0_acceptsRange, Cond.instanceMethod yX0_acceptsRange, Cond.selects RX0 yX0_acceptsRange yX0_acceptsRange, Cond.code yX0_acceptsRange cX0_acceptsRange 1 (some .boolean), Cond.methodLink RX0 47 yX0_acceptsRangeEndDigit, Cond.instanceMethod yX0_acceptsRangeEndDigit, Cond.selects RX0 yX0_acceptsRangeEndDigit yX0_acceptsRangeEndDigit, Cond.code yX0_acceptsRangeEndDigit cX0_acceptsRangeEndDigit 3 (some .boolean), Cond.methodLink RX0 71 yX0_greatestFrom, Cond.static yX0_greatestFrom, Cond.code yX0_greatestFrom cX0_greatestFrom 2 (some .int), Cond.methodLink RX0 75 Lib.Math.min.name, Cond.static Lib.Math.min.name, Cond.initialized "java/lang/Math", Cond.code Lib.Math.min.name Lib.Math.min.code 2 (some .int), Cond.methodLink RX0 50 yX0_acceptsBehindRangeEnd, Cond.instanceMethod yX0_acceptsBehindRangeEnd, Cond.selects RX0 yX0_acceptsBehindRangeEnd yX0_acceptsBehindRangeEnd]
noncomputable def wsX2_putBufferPins_r6 : List Cond := [Cond.code yX0_acceptsBehindRangeEnd cX0_acceptsBehindRangeEnd 3 (some .boolean)]
noncomputable def wsX2_putBufferPins : List Cond := .code yX2_putBufferPins cX2_putBufferPins 3 (some .int) :: ((wsX2_putBufferPins_r1 ++ (wsX2_putBufferPins_r2 ++ (wsX2_putBufferPins_r3 ++ (wsX2_putBufferPins_r4 ++ (wsX2_putBufferPins_r5 ++ wsX2_putBufferPins_r6))))) ++ wsX20 ++ wsX00 ++ wsX10)
noncomputable def wsX2_pins_r1 : List Cond := [Cond.classLink RX2 86 "java/lang/IllegalArgumentException", Cond.initialized "java/lang/IllegalArgumentException", Cond.fieldLink RX2 41 "PinCylinder" "bufferLength" "I", Cond.fieldLink RX2 47 "PinCylinder" "reader" "LPinCylinder$PinReader;", Cond.methodLink RX2 153 yX2_readBuffer, Cond.instanceMethod yX2_readBuffer, Cond.selects RX2 yX2_readBuffer yX2_readBuffer, Cond.initialized RX2, Cond.code yX2_readBuffer cX2_readBuffer 2 (some .int), Cond.fieldLink RX2 37 "PinCylinder" "buffer" "[C", Cond.methodLink RX2 254 yX0_start, Cond.instanceMethod yX0_start, Cond.selects RX0 yX0_start yX0_start, Cond.initialized RX0, Cond.code yX0_start cX0_start 1 none, Cond.fieldLink RX0 11 "PinCylinder$PinReader" "phase" "I", Cond.methodLink RX2 257 yX0_accepts, Cond.instanceMethod yX0_accepts, Cond.selects RX0 yX0_accepts yX0_accepts, Cond.code yX0_accepts cX0_accepts 2 (some .boolean), Cond.methodLink RX0 27 yX0_acceptsTune, Cond.instanceMethod yX0_acceptsTune, Cond.selects RX0 yX0_acceptsTune yX0_acceptsTune, Cond.code yX0_acceptsTune cX0_acceptsTune 3 (some .boolean)]
noncomputable def wsX2_pins_r2 : List Cond := [Cond.fieldLink RX0 15 "PinCylinder$PinReader" "tune" "I", Cond.methodLink RX0 53 yX0_digitOf, Cond.static yX0_digitOf, Cond.code yX0_digitOf cX0_digitOf 1 (some .int), Cond.methodLink RX0 31 yX0_goTo, Cond.instanceMethod yX0_goTo, Cond.selects RX0 yX0_goTo yX0_goTo, Cond.code yX0_goTo cX0_goTo 2 (some .boolean), Cond.methodLink RX0 35 yX0_acceptsToothDigit, Cond.instanceMethod yX0_acceptsToothDigit, Cond.selects RX0 yX0_acceptsToothDigit yX0_acceptsToothDigit, Cond.code yX0_acceptsToothDigit cX0_acceptsToothDigit 3 (some .boolean), Cond.fieldLink RX0 18 "PinCylinder$PinReader" "tooth" "I", Cond.methodLink RX0 38 yX0_acceptsToothEnd, Cond.instanceMethod yX0_acceptsToothEnd, Cond.selects RX0 yX0_acceptsToothEnd yX0_acceptsToothEnd, Cond.code yX0_acceptsToothEnd cX0_acceptsToothEnd 3 (some .boolean), Cond.methodLink RX0 57 yX0_lengthened, Cond.static yX0_lengthened, Cond.code yX0_lengthened cX0_lengthened 3 (some .int), Cond.methodLink RX0 41 yX0_acceptsStepDigit, Cond.instanceMethod yX0_acceptsStepDigit, Cond.selects RX0 yX0_acceptsStepDigit yX0_acceptsStepDigit, Cond.code yX0_acceptsStepDigit cX0_acceptsStepDigit 3 (some .boolean)]
noncomputable def wsX2_pins_r3 : List Cond := [Cond.fieldLink RX0 24 "PinCylinder$PinReader" "number" "I", Cond.methodLink RX0 44 yX0_acceptsBehindStep, Cond.instanceMethod yX0_acceptsBehindStep, Cond.selects RX0 yX0_acceptsBehindStep yX0_acceptsBehindStep, Cond.code yX0_acceptsBehindStep cX0_acceptsBehindStep 3 (some .boolean), Cond.methodLink RX0 61 yX0_isSeparator, Cond.static yX0_isSeparator, Cond.code yX0_isSeparator cX0_isSeparator 1 (some .boolean), Cond.methodLink RX0 64 yX0_acceptsSeparator, Cond.instanceMethod yX0_acceptsSeparator, Cond.selects RX0 yX0_acceptsSeparator yX0_acceptsSeparator, Cond.code yX0_acceptsSeparator cX0_acceptsSeparator 2 (some .boolean), Cond.methodLink RX0 67 yX0_acceptsRange, Cond.instanceMethod yX0_acceptsRange, Cond.selects RX0 yX0_acceptsRange yX0_acceptsRange, Cond.code yX0_acceptsRange cX0_acceptsRange 1 (some .boolean), Cond.fieldLink RX0 21 "PinCylinder$PinReader" "from" "I", Cond.methodLink RX0 47 yX0_acceptsRangeEndDigit, Cond.instanceMethod yX0_acceptsRangeEndDigit, Cond.selects RX0 yX0_acceptsRangeEndDigit yX0_acceptsRangeEndDigit, Cond.code yX0_acceptsRangeEndDigit cX0_acceptsRangeEndDigit 3 (some .boolean), Cond.methodLink RX0 71 yX0_greatestFrom, Cond.static yX0_greatestFrom, Cond.code yX0_greatestFrom cX0_greatestFrom 2 (some .int)]
noncomputable def wsX2_pins_r4 : List Cond := [Cond.methodLink RX0 75 Lib.Math.min.name, Cond.static Lib.Math.min.name, Cond.initialized "java/lang/Math", Cond.code Lib.Math.min.name Lib.Math.min.code 2 (some .int), Cond.methodLink RX0 50 yX0_acceptsBehindRangeEnd, Cond.instanceMethod yX0_acceptsBehindRangeEnd, Cond.selects RX0 yX0_acceptsBehindRangeEnd yX0_acceptsBehindRangeEnd, Cond.code yX0_acceptsBehindRangeEnd cX0_acceptsBehindRangeEnd 3 (some .boolean), Cond.methodLink RX2 157 yX0_isComplete, Cond.instanceMethod yX0_isComplete, Cond.selects RX0 yX0_isComplete yX0_isComplete, Cond.code yX0_isComplete cX0_isComplete 1 (some .boolean), Cond.methodLink RX2 71 yX2_saveState, Cond.instanceMethod yX2_saveState, Cond.selects RX2 yX2_saveState yX2_saveState, Cond.code yX2_saveState cX2_saveState 1 none, Cond.fieldLink RX2 26 "PinCylinder" "saved" "[LPinCylinder$State;", Cond.fieldLink RX2 30 "PinCylinder" "oldestSaved" "I", Cond.fieldLink RX2 34 "PinCylinder" "savedCount" "I", Cond.fieldLink RX2 12 "PinCylinder" "state" "LPinCylinder$State;", Cond.methodLink RX2 168 yX1_become, Cond.instanceMethod yX1_become, Cond.selects RX1 yX1_become yX1_become, Cond.initialized RX1]
noncomputable def wsX2_pins_r5 : List Cond := [Cond.code yX1_become cX1_become 2 none, Cond.fieldLink RX1 9 "PinCylinder$State" "chords" "[I", Cond.methodLink RX1 64 arraycopyName, Cond.native arraycopyName, Cond.static arraycopyName, Cond.initialized "java/lang/System", Cond.fieldLink RX1 15 "PinCylinder$State" "restsAt" "[I", Cond.fieldLink RX1 18 "PinCylinder$State" "wear" "[I", Cond.fieldLink RX1 21 "PinCylinder$State" "notesOf" "[I", Cond.fieldLink RX1 24 "PinCylinder$State" "keptTeeth" "[I", Cond.fieldLink RX1 27 "PinCylinder$State" "keptTimes" "[I", Cond.fieldLink RX1 30 "PinCylinder$State" "settings" "[I", Cond.fieldLink RX1 33 "PinCylinder$State" "broken" "I", Cond.fieldLink RX1 37 "PinCylinder$State" "place" "I", Cond.fieldLink RX1 40 "PinCylinder$State" "played" "I", Cond.fieldLink RX1 43 "PinCylinder$State" "wind" "I", Cond.fieldLink RX1 46 "PinCylinder$State" "vanes" "I", Cond.fieldLink RX1 49 "PinCylinder$State" "time" "I", Cond.fieldLink RX1 52 "PinCylinder$State" "stepsDone" "I", Cond.fieldLink RX1 55 "PinCylinder$State" "notes" "I", Cond.fieldLink RX1 58 "PinCylinder$State" "squeaks" "I", Cond.fieldLink RX1 61 "PinCylinder$State" "windNeeded" "I", Cond.methodLink RX2 163 yX2_putBufferPins, Cond.instanceMethod yX2_putBufferPins]
noncomputable def wsX2_pins_r6 : List Cond := [Cond.selects RX2 yX2_putBufferPins yX2_putBufferPins, Cond.code yX2_putBufferPins cX2_putBufferPins 3 (some .int), Cond.methodLink RX2 261 yX0_isSeparator, Cond.methodLink RX2 264 yX2_putReadRange, Cond.instanceMethod yX2_putReadRange, Cond.selects RX2 yX2_putReadRange yX2_putReadRange, Cond.code yX2_putReadRange cX2_putReadRange 1 (some .int), Cond.methodLink RX2 273 yX0_rangeStart, Cond.instanceMethod yX0_rangeStart, Cond.selects RX0 yX0_rangeStart yX0_rangeStart, Cond.code yX0_rangeStart cX0_rangeStart 1 (some .int), Cond.methodLink RX2 279 yX1_putRange, Cond.instanceMethod yX1_putRange, Cond.selects RX1 yX1_putRange yX1_putRange, Cond.code yX1_putRange cX1_putRange 7 (some .int), Cond.methodLink RX1 87 yX1_hindrance, Cond.instanceMethod yX1_hindrance, Cond.selects RX1 yX1_hindrance yX1_hindrance, Cond.code yX1_hindrance cX1_hindrance 5 (some .int), Cond.methodLink RX1 74 yX1_hasPin, Cond.instanceMethod yX1_hasPin, Cond.selects RX1 yX1_hasPin yX1_hasPin, Cond.code yX1_hasPin cX1_hasPin 4 (some .boolean), Cond.methodLink RX1 70 yX1_teethAt]
noncomputable def wsX2_pins_r7 : List Cond := [Cond.instanceMethod yX1_teethAt, Cond.selects RX1 yX1_teethAt yX1_teethAt, Cond.code yX1_teethAt cX1_teethAt 3 (some .int), Cond.methodLink RX1 78 yX1_around, Cond.static yX1_around, Cond.code yX1_around cX1_around 1 (some .int), Cond.methodLink RX1 114 yJ9_floorMod_7cf53, Cond.static yJ9_floorMod_7cf53, Cond.initialized RJ9, Cond.code yJ9_floorMod_7cf53 cJ9_floorMod_7cf53 3 (some .int), Cond.methodLink RX1 82 yJ6_bitCount_0f7a4, Cond.static yJ6_bitCount_0f7a4, Cond.initialized RJ6, Cond.code yJ6_bitCount_0f7a4 cJ6_bitCount_0f7a4 1 (some .int), Cond.constant RJ6 265 (1431655765), Cond.constant RJ6 266 (858993459), Cond.constant RJ6 267 (252645135), Cond.methodLink RX1 91 yX1_putPin, Cond.instanceMethod yX1_putPin, Cond.selects RX1 yX1_putPin yX1_putPin, Cond.code yX1_putPin cX1_putPin 4 none]
noncomputable def wsX2_pins : List Cond := .code yX2_pins cX2_pins 3 (some .int) :: ((wsX2_pins_r1 ++ (wsX2_pins_r2 ++ (wsX2_pins_r3 ++ (wsX2_pins_r4 ++ (wsX2_pins_r5 ++ (wsX2_pins_r6 ++ wsX2_pins_r7)))))) ++ wsX20 ++ wsX00 ++ wsX10 ++ (vx_atS RX2 90 "java/lang/IllegalArgumentException" ["java/lang/RuntimeException", "java/lang/Exception"]).filter goodWord)
noncomputable def wsX2_undo_r1 : List Cond := [Cond.classLink RX2 66 "java/lang/IllegalStateException", Cond.initialized "java/lang/IllegalStateException", Cond.fieldLink RX2 34 "PinCylinder" "savedCount" "I", Cond.fieldLink RX2 12 "PinCylinder" "state" "LPinCylinder$State;", Cond.fieldLink RX2 26 "PinCylinder" "saved" "[LPinCylinder$State;", Cond.fieldLink RX2 30 "PinCylinder" "oldestSaved" "I", Cond.methodLink RX2 168 yX1_become, Cond.instanceMethod yX1_become, Cond.selects RX1 yX1_become yX1_become, Cond.initialized RX1, Cond.code yX1_become cX1_become 2 none, Cond.fieldLink RX1 9 "PinCylinder$State" "chords" "[I", Cond.methodLink RX1 64 arraycopyName, Cond.native arraycopyName, Cond.static arraycopyName, Cond.initialized "java/lang/System", Cond.fieldLink RX1 15 "PinCylinder$State" "restsAt" "[I", Cond.fieldLink RX1 18 "PinCylinder$State" "wear" "[I", Cond.fieldLink RX1 21 "PinCylinder$State" "notesOf" "[I", Cond.fieldLink RX1 24 "PinCylinder$State" "keptTeeth" "[I", Cond.fieldLink RX1 27 "PinCylinder$State" "keptTimes" "[I", Cond.fieldLink RX1 30 "PinCylinder$State" "settings" "[I", Cond.fieldLink RX1 33 "PinCylinder$State" "broken" "I", Cond.fieldLink RX1 37 "PinCylinder$State" "place" "I"]
noncomputable def wsX2_undo_r2 : List Cond := [Cond.fieldLink RX1 40 "PinCylinder$State" "played" "I", Cond.fieldLink RX1 43 "PinCylinder$State" "wind" "I", Cond.fieldLink RX1 46 "PinCylinder$State" "vanes" "I", Cond.fieldLink RX1 49 "PinCylinder$State" "time" "I", Cond.fieldLink RX1 52 "PinCylinder$State" "stepsDone" "I", Cond.fieldLink RX1 55 "PinCylinder$State" "notes" "I", Cond.fieldLink RX1 58 "PinCylinder$State" "squeaks" "I", Cond.fieldLink RX1 61 "PinCylinder$State" "windNeeded" "I"]
noncomputable def wsX2_undo : List Cond := .code yX2_undo cX2_undo 1 (some .int) :: ((wsX2_undo_r1 ++ wsX2_undo_r2) ++ wsX20 ++ wsX10 ++ (vx_atS RX2 70 "java/lang/IllegalStateException" ["java/lang/RuntimeException", "java/lang/Exception"]).filter goodWord)
noncomputable def wsX2_keep_r1 : List Cond := [Cond.fieldLink RX2 19 "PinCylinder" "snapshot" "LPinCylinder$State;", Cond.fieldLink RX2 12 "PinCylinder" "state" "LPinCylinder$State;", Cond.fieldLink RX2 22 "PinCylinder" "hasSnapshot" "Z", Cond.methodLink RX2 168 yX1_become, Cond.instanceMethod yX1_become, Cond.selects RX1 yX1_become yX1_become, Cond.initialized RX1, Cond.code yX1_become cX1_become 2 none, Cond.fieldLink RX1 9 "PinCylinder$State" "chords" "[I", Cond.methodLink RX1 64 arraycopyName, Cond.native arraycopyName, Cond.static arraycopyName, Cond.initialized "java/lang/System", Cond.fieldLink RX1 15 "PinCylinder$State" "restsAt" "[I", Cond.fieldLink RX1 18 "PinCylinder$State" "wear" "[I", Cond.fieldLink RX1 21 "PinCylinder$State" "notesOf" "[I", Cond.fieldLink RX1 24 "PinCylinder$State" "keptTeeth" "[I", Cond.fieldLink RX1 27 "PinCylinder$State" "keptTimes" "[I", Cond.fieldLink RX1 30 "PinCylinder$State" "settings" "[I", Cond.fieldLink RX1 33 "PinCylinder$State" "broken" "I", Cond.fieldLink RX1 37 "PinCylinder$State" "place" "I", Cond.fieldLink RX1 40 "PinCylinder$State" "played" "I", Cond.fieldLink RX1 43 "PinCylinder$State" "wind" "I", Cond.fieldLink RX1 46 "PinCylinder$State" "vanes" "I"]
noncomputable def wsX2_keep_r2 : List Cond := [Cond.fieldLink RX1 49 "PinCylinder$State" "time" "I", Cond.fieldLink RX1 52 "PinCylinder$State" "stepsDone" "I", Cond.fieldLink RX1 55 "PinCylinder$State" "notes" "I", Cond.fieldLink RX1 58 "PinCylinder$State" "squeaks" "I", Cond.fieldLink RX1 61 "PinCylinder$State" "windNeeded" "I", Cond.methodLink RX2 172 yX1_pinsOfAll, Cond.instanceMethod yX1_pinsOfAll, Cond.selects RX1 yX1_pinsOfAll yX1_pinsOfAll, Cond.code yX1_pinsOfAll cX1_pinsOfAll 3 (some .int), Cond.methodLink RX1 137 yX1_pinsOf, Cond.instanceMethod yX1_pinsOf, Cond.selects RX1 yX1_pinsOf yX1_pinsOf, Cond.code yX1_pinsOf cX1_pinsOf 4 (some .int), Cond.methodLink RX1 70 yX1_teethAt, Cond.instanceMethod yX1_teethAt, Cond.selects RX1 yX1_teethAt yX1_teethAt, Cond.code yX1_teethAt cX1_teethAt 3 (some .int), Cond.methodLink RX1 82 yJ6_bitCount_0f7a4, Cond.static yJ6_bitCount_0f7a4, Cond.initialized RJ6, Cond.code yJ6_bitCount_0f7a4 cJ6_bitCount_0f7a4 1 (some .int), Cond.constant RJ6 265 (1431655765), Cond.constant RJ6 266 (858993459), Cond.constant RJ6 267 (252645135)]
noncomputable def wsX2_keep : List Cond := .code yX2_keep cX2_keep 1 (some .int) :: ((wsX2_keep_r1 ++ wsX2_keep_r2) ++ wsX20 ++ wsX10)
noncomputable def wsX2_restore_r1 : List Cond := [Cond.classLink RX2 66 "java/lang/IllegalStateException", Cond.initialized "java/lang/IllegalStateException", Cond.fieldLink RX2 22 "PinCylinder" "hasSnapshot" "Z", Cond.fieldLink RX2 12 "PinCylinder" "state" "LPinCylinder$State;", Cond.fieldLink RX2 19 "PinCylinder" "snapshot" "LPinCylinder$State;", Cond.methodLink RX2 71 yX2_saveState, Cond.instanceMethod yX2_saveState, Cond.selects RX2 yX2_saveState yX2_saveState, Cond.initialized RX2, Cond.code yX2_saveState cX2_saveState 1 none, Cond.fieldLink RX2 26 "PinCylinder" "saved" "[LPinCylinder$State;", Cond.fieldLink RX2 30 "PinCylinder" "oldestSaved" "I", Cond.fieldLink RX2 34 "PinCylinder" "savedCount" "I", Cond.methodLink RX2 168 yX1_become, Cond.instanceMethod yX1_become, Cond.selects RX1 yX1_become yX1_become, Cond.initialized RX1, Cond.code yX1_become cX1_become 2 none, Cond.fieldLink RX1 9 "PinCylinder$State" "chords" "[I", Cond.methodLink RX1 64 arraycopyName, Cond.native arraycopyName, Cond.static arraycopyName, Cond.initialized "java/lang/System", Cond.fieldLink RX1 15 "PinCylinder$State" "restsAt" "[I"]
noncomputable def wsX2_restore_r2 : List Cond := [Cond.fieldLink RX1 18 "PinCylinder$State" "wear" "[I", Cond.fieldLink RX1 21 "PinCylinder$State" "notesOf" "[I", Cond.fieldLink RX1 24 "PinCylinder$State" "keptTeeth" "[I", Cond.fieldLink RX1 27 "PinCylinder$State" "keptTimes" "[I", Cond.fieldLink RX1 30 "PinCylinder$State" "settings" "[I", Cond.fieldLink RX1 33 "PinCylinder$State" "broken" "I", Cond.fieldLink RX1 37 "PinCylinder$State" "place" "I", Cond.fieldLink RX1 40 "PinCylinder$State" "played" "I", Cond.fieldLink RX1 43 "PinCylinder$State" "wind" "I", Cond.fieldLink RX1 46 "PinCylinder$State" "vanes" "I", Cond.fieldLink RX1 49 "PinCylinder$State" "time" "I", Cond.fieldLink RX1 52 "PinCylinder$State" "stepsDone" "I", Cond.fieldLink RX1 55 "PinCylinder$State" "notes" "I", Cond.fieldLink RX1 58 "PinCylinder$State" "squeaks" "I", Cond.fieldLink RX1 61 "PinCylinder$State" "windNeeded" "I", Cond.methodLink RX2 172 yX1_pinsOfAll, Cond.instanceMethod yX1_pinsOfAll, Cond.selects RX1 yX1_pinsOfAll yX1_pinsOfAll, Cond.code yX1_pinsOfAll cX1_pinsOfAll 3 (some .int), Cond.methodLink RX1 137 yX1_pinsOf, Cond.instanceMethod yX1_pinsOf, Cond.selects RX1 yX1_pinsOf yX1_pinsOf, Cond.code yX1_pinsOf cX1_pinsOf 4 (some .int), Cond.methodLink RX1 70 yX1_teethAt]
noncomputable def wsX2_restore_r3 : List Cond := [Cond.instanceMethod yX1_teethAt, Cond.selects RX1 yX1_teethAt yX1_teethAt, Cond.code yX1_teethAt cX1_teethAt 3 (some .int), Cond.methodLink RX1 82 yJ6_bitCount_0f7a4, Cond.static yJ6_bitCount_0f7a4, Cond.initialized RJ6, Cond.code yJ6_bitCount_0f7a4 cJ6_bitCount_0f7a4 1 (some .int), Cond.constant RJ6 265 (1431655765), Cond.constant RJ6 266 (858993459), Cond.constant RJ6 267 (252645135)]
noncomputable def wsX2_restore : List Cond := .code yX2_restore cX2_restore 1 (some .int) :: ((wsX2_restore_r1 ++ (wsX2_restore_r2 ++ wsX2_restore_r3)) ++ wsX20 ++ wsX10 ++ (vx_atS RX2 70 "java/lang/IllegalStateException" ["java/lang/RuntimeException", "java/lang/Exception"]).filter goodWord)
noncomputable def wsX2_whyNot_r1 : List Cond := [Cond.classLink RX2 55 "java/lang/IndexOutOfBoundsException", Cond.initialized "java/lang/IndexOutOfBoundsException", Cond.fieldLink RX2 12 "PinCylinder" "state" "LPinCylinder$State;", Cond.methodLink RX2 51 yX2_isPlace, Cond.static yX2_isPlace, Cond.initialized RX2, Cond.code yX2_isPlace cX2_isPlace 3 (some .boolean), Cond.methodLink RX2 82 yX2_isBelow, Cond.static yX2_isBelow, Cond.code yX2_isBelow cX2_isBelow 2 (some .boolean), Cond.methodLink RX2 62 yX1_hindrance, Cond.instanceMethod yX1_hindrance, Cond.selects RX1 yX1_hindrance yX1_hindrance, Cond.initialized RX1, Cond.code yX1_hindrance cX1_hindrance 5 (some .int), Cond.fieldLink RX1 30 "PinCylinder$State" "settings" "[I", Cond.methodLink RX1 74 yX1_hasPin, Cond.instanceMethod yX1_hasPin, Cond.selects RX1 yX1_hasPin yX1_hasPin, Cond.code yX1_hasPin cX1_hasPin 4 (some .boolean), Cond.methodLink RX1 70 yX1_teethAt, Cond.instanceMethod yX1_teethAt, Cond.selects RX1 yX1_teethAt yX1_teethAt, Cond.code yX1_teethAt cX1_teethAt 3 (some .int)]
noncomputable def wsX2_whyNot_r2 : List Cond := [Cond.fieldLink RX1 9 "PinCylinder$State" "chords" "[I", Cond.methodLink RX1 78 yX1_around, Cond.static yX1_around, Cond.code yX1_around cX1_around 1 (some .int), Cond.methodLink RX1 114 yJ9_floorMod_7cf53, Cond.static yJ9_floorMod_7cf53, Cond.initialized RJ9, Cond.code yJ9_floorMod_7cf53 cJ9_floorMod_7cf53 3 (some .int), Cond.methodLink RX1 82 yJ6_bitCount_0f7a4, Cond.static yJ6_bitCount_0f7a4, Cond.initialized RJ6, Cond.code yJ6_bitCount_0f7a4 cJ6_bitCount_0f7a4 1 (some .int), Cond.constant RJ6 265 (1431655765), Cond.constant RJ6 266 (858993459), Cond.constant RJ6 267 (252645135)]
noncomputable def wsX2_whyNot : List Cond := .code yX2_whyNot cX2_whyNot 4 (some .int) :: ((wsX2_whyNot_r1 ++ wsX2_whyNot_r2) ++ wsX20 ++ wsX10 ++ (vx_atS RX2 59 "java/lang/IndexOutOfBoundsException" ["java/lang/RuntimeException", "java/lang/Exception"]).filter goodWord)
noncomputable def wsX2_next_r1 : List Cond := [Cond.classLink RX2 55 "java/lang/IndexOutOfBoundsException", Cond.initialized "java/lang/IndexOutOfBoundsException", Cond.fieldLink RX2 12 "PinCylinder" "state" "LPinCylinder$State;", Cond.methodLink RX2 51 yX2_isPlace, Cond.static yX2_isPlace, Cond.initialized RX2, Cond.code yX2_isPlace cX2_isPlace 3 (some .boolean), Cond.methodLink RX2 82 yX2_isBelow, Cond.static yX2_isBelow, Cond.code yX2_isBelow cX2_isBelow 2 (some .boolean), Cond.methodLink RX2 177 yX1_pinFrom, Cond.instanceMethod yX1_pinFrom, Cond.selects RX1 yX1_pinFrom yX1_pinFrom, Cond.initialized RX1, Cond.code yX1_pinFrom cX1_pinFrom 6 (some .int), Cond.methodLink RX1 78 yX1_around, Cond.static yX1_around, Cond.code yX1_around cX1_around 1 (some .int), Cond.methodLink RX1 114 yJ9_floorMod_7cf53, Cond.static yJ9_floorMod_7cf53, Cond.initialized RJ9, Cond.code yJ9_floorMod_7cf53 cJ9_floorMod_7cf53 3 (some .int), Cond.methodLink RX1 74 yX1_hasPin, Cond.instanceMethod yX1_hasPin]
noncomputable def wsX2_next_r2 : List Cond := [Cond.selects RX1 yX1_hasPin yX1_hasPin, Cond.code yX1_hasPin cX1_hasPin 4 (some .boolean), Cond.methodLink RX1 70 yX1_teethAt, Cond.instanceMethod yX1_teethAt, Cond.selects RX1 yX1_teethAt yX1_teethAt, Cond.code yX1_teethAt cX1_teethAt 3 (some .int), Cond.fieldLink RX1 9 "PinCylinder$State" "chords" "[I"]
noncomputable def wsX2_next : List Cond := .code yX2_next cX2_next 4 (some .int) :: ((wsX2_next_r1 ++ wsX2_next_r2) ++ wsX20 ++ wsX10 ++ (vx_atS RX2 59 "java/lang/IndexOutOfBoundsException" ["java/lang/RuntimeException", "java/lang/Exception"]).filter goodWord)
noncomputable def wsX2_tune_r1 : List Cond := [Cond.classLink RX2 55 "java/lang/IndexOutOfBoundsException", Cond.initialized "java/lang/IndexOutOfBoundsException", Cond.classLink RX2 86 "java/lang/IllegalArgumentException", Cond.initialized "java/lang/IllegalArgumentException", Cond.fieldLink RX2 12 "PinCylinder" "state" "LPinCylinder$State;", Cond.methodLink RX2 82 yX2_isBelow, Cond.static yX2_isBelow, Cond.initialized RX2, Cond.code yX2_isBelow cX2_isBelow 2 (some .boolean), Cond.methodLink RX2 182 yX1_numberOfTune, Cond.instanceMethod yX1_numberOfTune, Cond.selects RX1 yX1_numberOfTune yX1_numberOfTune, Cond.initialized RX1, Cond.code yX1_numberOfTune cX1_numberOfTune 3 (some .int), Cond.methodLink RX1 137 yX1_pinsOf, Cond.instanceMethod yX1_pinsOf, Cond.selects RX1 yX1_pinsOf yX1_pinsOf, Cond.code yX1_pinsOf cX1_pinsOf 4 (some .int), Cond.methodLink RX1 70 yX1_teethAt, Cond.instanceMethod yX1_teethAt, Cond.selects RX1 yX1_teethAt yX1_teethAt, Cond.code yX1_teethAt cX1_teethAt 3 (some .int), Cond.fieldLink RX1 9 "PinCylinder$State" "chords" "[I", Cond.methodLink RX1 82 yJ6_bitCount_0f7a4]
noncomputable def wsX2_tune_r2 : List Cond := [Cond.static yJ6_bitCount_0f7a4, Cond.initialized RJ6, Cond.code yJ6_bitCount_0f7a4 cJ6_bitCount_0f7a4 1 (some .int), Cond.constant RJ6 265 (1431655765), Cond.constant RJ6 266 (858993459), Cond.constant RJ6 267 (252645135), Cond.methodLink RX1 140 yX1_pinsByTooth, Cond.instanceMethod yX1_pinsByTooth, Cond.selects RX1 yX1_pinsByTooth yX1_pinsByTooth, Cond.code yX1_pinsByTooth cX1_pinsByTooth 5 (some .int), Cond.methodLink RX1 74 yX1_hasPin, Cond.instanceMethod yX1_hasPin, Cond.selects RX1 yX1_hasPin yX1_hasPin, Cond.code yX1_hasPin cX1_hasPin 4 (some .boolean), Cond.methodLink RX1 143 yX1_fullestStep, Cond.instanceMethod yX1_fullestStep, Cond.selects RX1 yX1_fullestStep yX1_fullestStep, Cond.code yX1_fullestStep cX1_fullestStep 4 (some .int), Cond.methodLink RX1 146 yX1_teethUsed, Cond.instanceMethod yX1_teethUsed, Cond.selects RX1 yX1_teethUsed yX1_teethUsed, Cond.code yX1_teethUsed cX1_teethUsed 4 (some .int)]
noncomputable def wsX2_tune : List Cond := .code yX2_tune cX2_tune 3 (some .int) :: ((wsX2_tune_r1 ++ wsX2_tune_r2) ++ wsX20 ++ wsX10 ++ (vx_atS RX2 59 "java/lang/IndexOutOfBoundsException" ["java/lang/RuntimeException", "java/lang/Exception"]).filter goodWord ++ (vx_atS RX2 90 "java/lang/IllegalArgumentException" ["java/lang/RuntimeException", "java/lang/Exception"]).filter goodWord)
noncomputable def wsX2_chord : List Cond := .code yX2_chord cX2_chord 3 (some .int) :: ([.classLink RX2 55 "java/lang/IndexOutOfBoundsException", .initialized "java/lang/IndexOutOfBoundsException", .fieldLink RX2 12 "PinCylinder" "state" "LPinCylinder$State;", .methodLink RX2 82 yX2_isBelow, .static yX2_isBelow, .initialized RX2, .code yX2_isBelow cX2_isBelow 2 (some .boolean), .methodLink RX2 187 yX1_teethAt, .instanceMethod yX1_teethAt, .selects RX1 yX1_teethAt yX1_teethAt, .initialized RX1, .code yX1_teethAt cX1_teethAt 3 (some .int), .fieldLink RX1 9 "PinCylinder$State" "chords" "[I"] ++ wsX20 ++ wsX10 ++ (vx_atS RX2 59 "java/lang/IndexOutOfBoundsException" ["java/lang/RuntimeException", "java/lang/Exception"]).filter goodWord)
noncomputable def wsX2_tooth_r1 : List Cond := [Cond.classLink RX2 55 "java/lang/IndexOutOfBoundsException", Cond.initialized "java/lang/IndexOutOfBoundsException", Cond.classLink RX2 86 "java/lang/IllegalArgumentException", Cond.initialized "java/lang/IllegalArgumentException", Cond.fieldLink RX2 12 "PinCylinder" "state" "LPinCylinder$State;", Cond.methodLink RX2 82 yX2_isBelow, Cond.static yX2_isBelow, Cond.initialized RX2, Cond.code yX2_isBelow cX2_isBelow 2 (some .boolean), Cond.methodLink RX2 190 yX1_numberOfTooth, Cond.instanceMethod yX1_numberOfTooth, Cond.selects RX1 yX1_numberOfTooth yX1_numberOfTooth, Cond.initialized RX1, Cond.code yX1_numberOfTooth cX1_numberOfTooth 3 (some .int), Cond.fieldLink RX1 18 "PinCylinder$State" "wear" "[I", Cond.fieldLink RX1 21 "PinCylinder$State" "notesOf" "[I", Cond.fieldLink RX1 40 "PinCylinder$State" "played" "I", Cond.methodLink RX1 117 yX1_ringsFor, Cond.instanceMethod yX1_ringsFor, Cond.selects RX1 yX1_ringsFor yX1_ringsFor, Cond.code yX1_ringsFor cX1_ringsFor 2 (some .int), Cond.fieldLink RX1 15 "PinCylinder$State" "restsAt" "[I", Cond.fieldLink RX1 49 "PinCylinder$State" "time" "I", Cond.methodLink RX1 105 Lib.Math.max.name]
noncomputable def wsX2_tooth_r2 : List Cond := [Cond.static Lib.Math.max.name, Cond.initialized "java/lang/Math", Cond.code Lib.Math.max.name Lib.Math.max.code 2 (some .int), Cond.methodLink RX1 124 yX1_isBroken, Cond.instanceMethod yX1_isBroken, Cond.selects RX1 yX1_isBroken yX1_isBroken, Cond.code yX1_isBroken cX1_isBroken 2 (some .boolean), Cond.fieldLink RX1 33 "PinCylinder$State" "broken" "I", Cond.methodLink RX1 149 yX1_widestGap, Cond.instanceMethod yX1_widestGap, Cond.selects RX1 yX1_widestGap yX1_widestGap, Cond.code yX1_widestGap cX1_widestGap 7 (some .int), Cond.methodLink RX1 74 yX1_hasPin, Cond.instanceMethod yX1_hasPin, Cond.selects RX1 yX1_hasPin yX1_hasPin, Cond.code yX1_hasPin cX1_hasPin 4 (some .boolean), Cond.methodLink RX1 70 yX1_teethAt, Cond.instanceMethod yX1_teethAt, Cond.selects RX1 yX1_teethAt yX1_teethAt, Cond.code yX1_teethAt cX1_teethAt 3 (some .int), Cond.fieldLink RX1 9 "PinCylinder$State" "chords" "[I"]
noncomputable def wsX2_tooth : List Cond := .code yX2_tooth cX2_tooth 3 (some .int) :: ((wsX2_tooth_r1 ++ wsX2_tooth_r2) ++ wsX20 ++ wsX10 ++ (vx_atS RX2 59 "java/lang/IndexOutOfBoundsException" ["java/lang/RuntimeException", "java/lang/Exception"]).filter goodWord ++ (vx_atS RX2 90 "java/lang/IllegalArgumentException" ["java/lang/RuntimeException", "java/lang/Exception"]).filter goodWord)
noncomputable def wsX2_note_r1 : List Cond := [Cond.classLink RX2 86 "java/lang/IllegalArgumentException", Cond.initialized "java/lang/IllegalArgumentException", Cond.fieldLink RX2 12 "PinCylinder" "state" "LPinCylinder$State;", Cond.methodLink RX2 82 yX2_isBelow, Cond.static yX2_isBelow, Cond.initialized RX2, Cond.code yX2_isBelow cX2_isBelow 2 (some .boolean), Cond.methodLink RX2 195 yX1_notesKept, Cond.instanceMethod yX1_notesKept, Cond.selects RX1 yX1_notesKept yX1_notesKept, Cond.initialized RX1, Cond.code yX1_notesKept cX1_notesKept 1 (some .int), Cond.fieldLink RX1 55 "PinCylinder$State" "notes" "I", Cond.methodLink RX1 131 Lib.Math.min.name, Cond.static Lib.Math.min.name, Cond.initialized "java/lang/Math", Cond.code Lib.Math.min.name Lib.Math.min.code 2 (some .int), Cond.methodLink RX2 198 yX1_noteTooth, Cond.instanceMethod yX1_noteTooth, Cond.selects RX1 yX1_noteTooth yX1_noteTooth, Cond.code yX1_noteTooth cX1_noteTooth 2 (some .int), Cond.fieldLink RX1 24 "PinCylinder$State" "keptTeeth" "[I", Cond.methodLink RX1 134 yX1_slotOf, Cond.instanceMethod yX1_slotOf]
noncomputable def wsX2_note_r2 : List Cond := [Cond.selects RX1 yX1_slotOf yX1_slotOf, Cond.code yX1_slotOf cX1_slotOf 2 (some .int), Cond.methodLink RX1 114 yJ9_floorMod_7cf53, Cond.static yJ9_floorMod_7cf53, Cond.initialized RJ9, Cond.code yJ9_floorMod_7cf53 cJ9_floorMod_7cf53 3 (some .int), Cond.methodLink RX2 201 yX1_noteTime, Cond.instanceMethod yX1_noteTime, Cond.selects RX1 yX1_noteTime yX1_noteTime, Cond.code yX1_noteTime cX1_noteTime 2 (some .int), Cond.fieldLink RX1 27 "PinCylinder$State" "keptTimes" "[I"]
noncomputable def wsX2_note : List Cond := .code yX2_note cX2_note 3 (some .int) :: ((wsX2_note_r1 ++ wsX2_note_r2) ++ wsX20 ++ wsX10 ++ (vx_atS RX2 90 "java/lang/IllegalArgumentException" ["java/lang/RuntimeException", "java/lang/Exception"]).filter goodWord)
noncomputable def wsX2_numberNow_r1 : List Cond := [Cond.fieldLink RX2 34 "PinCylinder" "savedCount" "I", Cond.fieldLink RX2 12 "PinCylinder" "state" "LPinCylinder$State;", Cond.methodLink RX2 297 yX1_numberOfState, Cond.instanceMethod yX1_numberOfState, Cond.selects RX1 yX1_numberOfState yX1_numberOfState, Cond.initialized RX1, Cond.code yX1_numberOfState cX1_numberOfState 2 (some .int), Cond.fieldLink RX1 37 "PinCylinder$State" "place" "I", Cond.fieldLink RX1 40 "PinCylinder$State" "played" "I", Cond.fieldLink RX1 43 "PinCylinder$State" "wind" "I", Cond.fieldLink RX1 46 "PinCylinder$State" "vanes" "I", Cond.fieldLink RX1 49 "PinCylinder$State" "time" "I", Cond.fieldLink RX1 52 "PinCylinder$State" "stepsDone" "I", Cond.fieldLink RX1 55 "PinCylinder$State" "notes" "I", Cond.fieldLink RX1 58 "PinCylinder$State" "squeaks" "I", Cond.fieldLink RX1 61 "PinCylinder$State" "windNeeded" "I", Cond.fieldLink RX1 30 "PinCylinder$State" "settings" "[I", Cond.methodLink RX1 152 yX1_teethRinging, Cond.instanceMethod yX1_teethRinging, Cond.selects RX1 yX1_teethRinging yX1_teethRinging, Cond.code yX1_teethRinging cX1_teethRinging 3 (some .int), Cond.methodLink RX1 117 yX1_ringsFor, Cond.instanceMethod yX1_ringsFor, Cond.selects RX1 yX1_ringsFor yX1_ringsFor]
noncomputable def wsX2_numberNow_r2 : List Cond := [Cond.code yX1_ringsFor cX1_ringsFor 2 (some .int), Cond.fieldLink RX1 15 "PinCylinder$State" "restsAt" "[I", Cond.methodLink RX1 105 Lib.Math.max.name, Cond.static Lib.Math.max.name, Cond.initialized "java/lang/Math", Cond.code Lib.Math.max.name Lib.Math.max.code 2 (some .int), Cond.methodLink RX1 156 yX1_teethBroken, Cond.instanceMethod yX1_teethBroken, Cond.selects RX1 yX1_teethBroken yX1_teethBroken, Cond.code yX1_teethBroken cX1_teethBroken 1 (some .int), Cond.fieldLink RX1 33 "PinCylinder$State" "broken" "I", Cond.methodLink RX1 82 yJ6_bitCount_0f7a4, Cond.static yJ6_bitCount_0f7a4, Cond.initialized RJ6, Cond.code yJ6_bitCount_0f7a4 cJ6_bitCount_0f7a4 1 (some .int), Cond.constant RJ6 265 (1431655765), Cond.constant RJ6 266 (858993459), Cond.constant RJ6 267 (252645135), Cond.methodLink RX1 159 yX1_pinsOfAll, Cond.instanceMethod yX1_pinsOfAll, Cond.selects RX1 yX1_pinsOfAll yX1_pinsOfAll, Cond.code yX1_pinsOfAll cX1_pinsOfAll 3 (some .int), Cond.methodLink RX1 137 yX1_pinsOf, Cond.instanceMethod yX1_pinsOf]
noncomputable def wsX2_numberNow_r3 : List Cond := [Cond.selects RX1 yX1_pinsOf yX1_pinsOf, Cond.code yX1_pinsOf cX1_pinsOf 4 (some .int), Cond.methodLink RX1 70 yX1_teethAt, Cond.instanceMethod yX1_teethAt, Cond.selects RX1 yX1_teethAt yX1_teethAt, Cond.code yX1_teethAt cX1_teethAt 3 (some .int), Cond.fieldLink RX1 9 "PinCylinder$State" "chords" "[I", Cond.methodLink RX1 114 yJ9_floorMod_7cf53, Cond.static yJ9_floorMod_7cf53, Cond.initialized RJ9, Cond.code yJ9_floorMod_7cf53 cJ9_floorMod_7cf53 3 (some .int)]
noncomputable def wsX2_numberNow : List Cond := .code yX2_numberNow cX2_numberNow 2 (some .int) :: ((wsX2_numberNow_r1 ++ (wsX2_numberNow_r2 ++ wsX2_numberNow_r3)) ++ wsX20 ++ wsX10)
noncomputable def wsX2_count_r1 : List Cond := [Cond.classLink RX2 86 "java/lang/IllegalArgumentException", Cond.initialized "java/lang/IllegalArgumentException", Cond.methodLink RX2 82 yX2_isBelow, Cond.static yX2_isBelow, Cond.initialized RX2, Cond.code yX2_isBelow cX2_isBelow 2 (some .boolean), Cond.methodLink RX2 206 yX2_numberNow, Cond.instanceMethod yX2_numberNow, Cond.selects RX2 yX2_numberNow yX2_numberNow, Cond.code yX2_numberNow cX2_numberNow 2 (some .int), Cond.fieldLink RX2 34 "PinCylinder" "savedCount" "I", Cond.fieldLink RX2 12 "PinCylinder" "state" "LPinCylinder$State;", Cond.methodLink RX2 297 yX1_numberOfState, Cond.instanceMethod yX1_numberOfState, Cond.selects RX1 yX1_numberOfState yX1_numberOfState, Cond.initialized RX1, Cond.code yX1_numberOfState cX1_numberOfState 2 (some .int), Cond.fieldLink RX1 37 "PinCylinder$State" "place" "I", Cond.fieldLink RX1 40 "PinCylinder$State" "played" "I", Cond.fieldLink RX1 43 "PinCylinder$State" "wind" "I", Cond.fieldLink RX1 46 "PinCylinder$State" "vanes" "I", Cond.fieldLink RX1 49 "PinCylinder$State" "time" "I", Cond.fieldLink RX1 52 "PinCylinder$State" "stepsDone" "I", Cond.fieldLink RX1 55 "PinCylinder$State" "notes" "I"]
noncomputable def wsX2_count_r2 : List Cond := [Cond.fieldLink RX1 58 "PinCylinder$State" "squeaks" "I", Cond.fieldLink RX1 61 "PinCylinder$State" "windNeeded" "I", Cond.fieldLink RX1 30 "PinCylinder$State" "settings" "[I", Cond.methodLink RX1 152 yX1_teethRinging, Cond.instanceMethod yX1_teethRinging, Cond.selects RX1 yX1_teethRinging yX1_teethRinging, Cond.code yX1_teethRinging cX1_teethRinging 3 (some .int), Cond.methodLink RX1 117 yX1_ringsFor, Cond.instanceMethod yX1_ringsFor, Cond.selects RX1 yX1_ringsFor yX1_ringsFor, Cond.code yX1_ringsFor cX1_ringsFor 2 (some .int), Cond.fieldLink RX1 15 "PinCylinder$State" "restsAt" "[I", Cond.methodLink RX1 105 Lib.Math.max.name, Cond.static Lib.Math.max.name, Cond.initialized "java/lang/Math", Cond.code Lib.Math.max.name Lib.Math.max.code 2 (some .int), Cond.methodLink RX1 156 yX1_teethBroken, Cond.instanceMethod yX1_teethBroken, Cond.selects RX1 yX1_teethBroken yX1_teethBroken, Cond.code yX1_teethBroken cX1_teethBroken 1 (some .int), Cond.fieldLink RX1 33 "PinCylinder$State" "broken" "I", Cond.methodLink RX1 82 yJ6_bitCount_0f7a4, Cond.static yJ6_bitCount_0f7a4, Cond.initialized RJ6]
noncomputable def wsX2_count_r3 : List Cond := [Cond.code yJ6_bitCount_0f7a4 cJ6_bitCount_0f7a4 1 (some .int), Cond.constant RJ6 265 (1431655765), Cond.constant RJ6 266 (858993459), Cond.constant RJ6 267 (252645135), Cond.methodLink RX1 159 yX1_pinsOfAll, Cond.instanceMethod yX1_pinsOfAll, Cond.selects RX1 yX1_pinsOfAll yX1_pinsOfAll, Cond.code yX1_pinsOfAll cX1_pinsOfAll 3 (some .int), Cond.methodLink RX1 137 yX1_pinsOf, Cond.instanceMethod yX1_pinsOf, Cond.selects RX1 yX1_pinsOf yX1_pinsOf, Cond.code yX1_pinsOf cX1_pinsOf 4 (some .int), Cond.methodLink RX1 70 yX1_teethAt, Cond.instanceMethod yX1_teethAt, Cond.selects RX1 yX1_teethAt yX1_teethAt, Cond.code yX1_teethAt cX1_teethAt 3 (some .int), Cond.fieldLink RX1 9 "PinCylinder$State" "chords" "[I", Cond.methodLink RX1 114 yJ9_floorMod_7cf53, Cond.static yJ9_floorMod_7cf53, Cond.initialized RJ9, Cond.code yJ9_floorMod_7cf53 cJ9_floorMod_7cf53 3 (some .int)]
noncomputable def wsX2_count : List Cond := .code yX2_count cX2_count 2 (some .int) :: ((wsX2_count_r1 ++ (wsX2_count_r2 ++ wsX2_count_r3)) ++ wsX20 ++ wsX10 ++ (vx_atS RX2 90 "java/lang/IllegalArgumentException" ["java/lang/RuntimeException", "java/lang/Exception"]).filter goodWord)
noncomputable def wsX2_tryOut_r1 : List Cond := [Cond.fieldLink RX2 16 "PinCylinder" "trial" "LPinCylinder$State;", Cond.fieldLink RX2 12 "PinCylinder" "state" "LPinCylinder$State;", Cond.methodLink RX2 168 yX1_become, Cond.instanceMethod yX1_become, Cond.selects RX1 yX1_become yX1_become, Cond.initialized RX1, Cond.code yX1_become cX1_become 2 none, Cond.fieldLink RX1 9 "PinCylinder$State" "chords" "[I", Cond.methodLink RX1 64 arraycopyName, Cond.native arraycopyName, Cond.static arraycopyName, Cond.initialized "java/lang/System", Cond.fieldLink RX1 15 "PinCylinder$State" "restsAt" "[I", Cond.fieldLink RX1 18 "PinCylinder$State" "wear" "[I", Cond.fieldLink RX1 21 "PinCylinder$State" "notesOf" "[I", Cond.fieldLink RX1 24 "PinCylinder$State" "keptTeeth" "[I", Cond.fieldLink RX1 27 "PinCylinder$State" "keptTimes" "[I", Cond.fieldLink RX1 30 "PinCylinder$State" "settings" "[I", Cond.fieldLink RX1 33 "PinCylinder$State" "broken" "I", Cond.fieldLink RX1 37 "PinCylinder$State" "place" "I", Cond.fieldLink RX1 40 "PinCylinder$State" "played" "I", Cond.fieldLink RX1 43 "PinCylinder$State" "wind" "I", Cond.fieldLink RX1 46 "PinCylinder$State" "vanes" "I", Cond.fieldLink RX1 49 "PinCylinder$State" "time" "I"]
noncomputable def wsX2_tryOut_r2 : List Cond := [Cond.fieldLink RX1 52 "PinCylinder$State" "stepsDone" "I", Cond.fieldLink RX1 55 "PinCylinder$State" "notes" "I", Cond.fieldLink RX1 58 "PinCylinder$State" "squeaks" "I", Cond.fieldLink RX1 61 "PinCylinder$State" "windNeeded" "I", Cond.methodLink RX2 127 yX1_goOnFor, Cond.instanceMethod yX1_goOnFor, Cond.selects RX1 yX1_goOnFor yX1_goOnFor, Cond.code yX1_goOnFor cX1_goOnFor 3 (some .int), Cond.methodLink RX1 95 yX1_goOn, Cond.instanceMethod yX1_goOn, Cond.selects RX1 yX1_goOn yX1_goOn, Cond.code yX1_goOn cX1_goOn 7 (some .boolean), Cond.methodLink RX1 105 Lib.Math.max.name, Cond.static Lib.Math.max.name, Cond.initialized "java/lang/Math", Cond.code Lib.Math.max.name Lib.Math.max.code 2 (some .int), Cond.methodLink RX1 78 yX1_around, Cond.static yX1_around, Cond.code yX1_around cX1_around 1 (some .int), Cond.methodLink RX1 114 yJ9_floorMod_7cf53, Cond.static yJ9_floorMod_7cf53, Cond.initialized RJ9, Cond.code yJ9_floorMod_7cf53 cJ9_floorMod_7cf53 3 (some .int), Cond.methodLink RX1 99 yX1_tuneComing]
noncomputable def wsX2_tryOut_r3 : List Cond := [Cond.instanceMethod yX1_tuneComing, Cond.selects RX1 yX1_tuneComing yX1_tuneComing, Cond.code yX1_tuneComing cX1_tuneComing 3 (some .int), Cond.methodLink RX1 70 yX1_teethAt, Cond.instanceMethod yX1_teethAt, Cond.selects RX1 yX1_teethAt yX1_teethAt, Cond.code yX1_teethAt cX1_teethAt 3 (some .int), Cond.methodLink RX1 102 yX1_windOfStep, Cond.instanceMethod yX1_windOfStep, Cond.selects RX1 yX1_windOfStep yX1_windOfStep, Cond.code yX1_windOfStep cX1_windOfStep 3 (some .int), Cond.methodLink RX1 82 yJ6_bitCount_0f7a4, Cond.static yJ6_bitCount_0f7a4, Cond.initialized RJ6, Cond.code yJ6_bitCount_0f7a4 cJ6_bitCount_0f7a4 1 (some .int), Cond.constant RJ6 265 (1431655765), Cond.constant RJ6 266 (858993459), Cond.constant RJ6 267 (252645135), Cond.methodLink RX1 110 yX1_strike, Cond.instanceMethod yX1_strike, Cond.selects RX1 yX1_strike yX1_strike, Cond.code yX1_strike cX1_strike 4 none, Cond.methodLink RX1 117 yX1_ringsFor, Cond.instanceMethod yX1_ringsFor]
noncomputable def wsX2_tryOut_r4 : List Cond := [Cond.selects RX1 yX1_ringsFor yX1_ringsFor, Cond.code yX1_ringsFor cX1_ringsFor 2 (some .int), Cond.methodLink RX1 120 yX1_squeak, Cond.instanceMethod yX1_squeak, Cond.selects RX1 yX1_squeak yX1_squeak, Cond.code yX1_squeak cX1_squeak 2 none, Cond.methodLink RX1 124 yX1_isBroken, Cond.instanceMethod yX1_isBroken, Cond.selects RX1 yX1_isBroken yX1_isBroken, Cond.code yX1_isBroken cX1_isBroken 2 (some .boolean), Cond.methodLink RX1 128 yX1_pluck, Cond.instanceMethod yX1_pluck, Cond.selects RX1 yX1_pluck yX1_pluck, Cond.code yX1_pluck cX1_pluck 3 none]
noncomputable def wsX2_tryOut : List Cond := .code yX2_tryOut cX2_tryOut 3 none :: ((wsX2_tryOut_r1 ++ (wsX2_tryOut_r2 ++ (wsX2_tryOut_r3 ++ wsX2_tryOut_r4))) ++ wsX20 ++ wsX10)
noncomputable def wsX2_outcome : List Cond := .code yX2_outcome cX2_outcome 2 (some .int) :: ([.fieldLink RX2 16 "PinCylinder" "trial" "LPinCylinder$State;", .fieldLink RX2 12 "PinCylinder" "state" "LPinCylinder$State;", .methodLink RX2 294 yX1_teethBroken, .instanceMethod yX1_teethBroken, .selects RX1 yX1_teethBroken yX1_teethBroken, .initialized RX1, .code yX1_teethBroken cX1_teethBroken 1 (some .int), .fieldLink RX1 33 "PinCylinder$State" "broken" "I", .methodLink RX1 82 yJ6_bitCount_0f7a4, .static yJ6_bitCount_0f7a4, .initialized RJ6, .code yJ6_bitCount_0f7a4 cJ6_bitCount_0f7a4 1 (some .int), .constant RJ6 265 (1431655765), .constant RJ6 266 (858993459), .constant RJ6 267 (252645135)] ++ wsX20 ++ wsX10)
noncomputable def wsX2_ifPlayed_r1 : List Cond := [Cond.classLink RX2 86 "java/lang/IllegalArgumentException", Cond.initialized "java/lang/IllegalArgumentException", Cond.fieldLink RX2 12 "PinCylinder" "state" "LPinCylinder$State;", Cond.methodLink RX2 97 yX2_isWithin, Cond.static yX2_isWithin, Cond.initialized RX2, Cond.code yX2_isWithin cX2_isWithin 3 (some .boolean), Cond.methodLink RX2 82 yX2_isBelow, Cond.static yX2_isBelow, Cond.code yX2_isBelow cX2_isBelow 2 (some .boolean), Cond.methodLink RX2 211 yX2_tryOut, Cond.instanceMethod yX2_tryOut, Cond.selects RX2 yX2_tryOut yX2_tryOut, Cond.code yX2_tryOut cX2_tryOut 3 none, Cond.fieldLink RX2 16 "PinCylinder" "trial" "LPinCylinder$State;", Cond.methodLink RX2 168 yX1_become, Cond.instanceMethod yX1_become, Cond.selects RX1 yX1_become yX1_become, Cond.initialized RX1, Cond.code yX1_become cX1_become 2 none, Cond.fieldLink RX1 9 "PinCylinder$State" "chords" "[I", Cond.methodLink RX1 64 arraycopyName, Cond.native arraycopyName, Cond.static arraycopyName]
noncomputable def wsX2_ifPlayed_r2 : List Cond := [Cond.initialized "java/lang/System", Cond.fieldLink RX1 15 "PinCylinder$State" "restsAt" "[I", Cond.fieldLink RX1 18 "PinCylinder$State" "wear" "[I", Cond.fieldLink RX1 21 "PinCylinder$State" "notesOf" "[I", Cond.fieldLink RX1 24 "PinCylinder$State" "keptTeeth" "[I", Cond.fieldLink RX1 27 "PinCylinder$State" "keptTimes" "[I", Cond.fieldLink RX1 30 "PinCylinder$State" "settings" "[I", Cond.fieldLink RX1 33 "PinCylinder$State" "broken" "I", Cond.fieldLink RX1 37 "PinCylinder$State" "place" "I", Cond.fieldLink RX1 40 "PinCylinder$State" "played" "I", Cond.fieldLink RX1 43 "PinCylinder$State" "wind" "I", Cond.fieldLink RX1 46 "PinCylinder$State" "vanes" "I", Cond.fieldLink RX1 49 "PinCylinder$State" "time" "I", Cond.fieldLink RX1 52 "PinCylinder$State" "stepsDone" "I", Cond.fieldLink RX1 55 "PinCylinder$State" "notes" "I", Cond.fieldLink RX1 58 "PinCylinder$State" "squeaks" "I", Cond.fieldLink RX1 61 "PinCylinder$State" "windNeeded" "I", Cond.methodLink RX2 127 yX1_goOnFor, Cond.instanceMethod yX1_goOnFor, Cond.selects RX1 yX1_goOnFor yX1_goOnFor, Cond.code yX1_goOnFor cX1_goOnFor 3 (some .int), Cond.methodLink RX1 95 yX1_goOn, Cond.instanceMethod yX1_goOn, Cond.selects RX1 yX1_goOn yX1_goOn]
noncomputable def wsX2_ifPlayed_r3 : List Cond := [Cond.code yX1_goOn cX1_goOn 7 (some .boolean), Cond.methodLink RX1 105 Lib.Math.max.name, Cond.static Lib.Math.max.name, Cond.initialized "java/lang/Math", Cond.code Lib.Math.max.name Lib.Math.max.code 2 (some .int), Cond.methodLink RX1 78 yX1_around, Cond.static yX1_around, Cond.code yX1_around cX1_around 1 (some .int), Cond.methodLink RX1 114 yJ9_floorMod_7cf53, Cond.static yJ9_floorMod_7cf53, Cond.initialized RJ9, Cond.code yJ9_floorMod_7cf53 cJ9_floorMod_7cf53 3 (some .int), Cond.methodLink RX1 99 yX1_tuneComing, Cond.instanceMethod yX1_tuneComing, Cond.selects RX1 yX1_tuneComing yX1_tuneComing, Cond.code yX1_tuneComing cX1_tuneComing 3 (some .int), Cond.methodLink RX1 70 yX1_teethAt, Cond.instanceMethod yX1_teethAt, Cond.selects RX1 yX1_teethAt yX1_teethAt, Cond.code yX1_teethAt cX1_teethAt 3 (some .int), Cond.methodLink RX1 102 yX1_windOfStep, Cond.instanceMethod yX1_windOfStep, Cond.selects RX1 yX1_windOfStep yX1_windOfStep, Cond.code yX1_windOfStep cX1_windOfStep 3 (some .int)]
noncomputable def wsX2_ifPlayed_r4 : List Cond := [Cond.methodLink RX1 82 yJ6_bitCount_0f7a4, Cond.static yJ6_bitCount_0f7a4, Cond.initialized RJ6, Cond.code yJ6_bitCount_0f7a4 cJ6_bitCount_0f7a4 1 (some .int), Cond.constant RJ6 265 (1431655765), Cond.constant RJ6 266 (858993459), Cond.constant RJ6 267 (252645135), Cond.methodLink RX1 110 yX1_strike, Cond.instanceMethod yX1_strike, Cond.selects RX1 yX1_strike yX1_strike, Cond.code yX1_strike cX1_strike 4 none, Cond.methodLink RX1 117 yX1_ringsFor, Cond.instanceMethod yX1_ringsFor, Cond.selects RX1 yX1_ringsFor yX1_ringsFor, Cond.code yX1_ringsFor cX1_ringsFor 2 (some .int), Cond.methodLink RX1 120 yX1_squeak, Cond.instanceMethod yX1_squeak, Cond.selects RX1 yX1_squeak yX1_squeak, Cond.code yX1_squeak cX1_squeak 2 none, Cond.methodLink RX1 124 yX1_isBroken, Cond.instanceMethod yX1_isBroken, Cond.selects RX1 yX1_isBroken yX1_isBroken, Cond.code yX1_isBroken cX1_isBroken 2 (some .boolean), Cond.methodLink RX1 128 yX1_pluck]
noncomputable def wsX2_ifPlayed_r5 : List Cond := [Cond.instanceMethod yX1_pluck, Cond.selects RX1 yX1_pluck yX1_pluck, Cond.code yX1_pluck cX1_pluck 3 none, Cond.methodLink RX2 215 yX2_outcome, Cond.instanceMethod yX2_outcome, Cond.selects RX2 yX2_outcome yX2_outcome, Cond.code yX2_outcome cX2_outcome 2 (some .int), Cond.methodLink RX2 294 yX1_teethBroken, Cond.instanceMethod yX1_teethBroken, Cond.selects RX1 yX1_teethBroken yX1_teethBroken, Cond.code yX1_teethBroken cX1_teethBroken 1 (some .int)]
noncomputable def wsX2_ifPlayed : List Cond := .code yX2_ifPlayed cX2_ifPlayed 3 (some .int) :: ((wsX2_ifPlayed_r1 ++ (wsX2_ifPlayed_r2 ++ (wsX2_ifPlayed_r3 ++ (wsX2_ifPlayed_r4 ++ wsX2_ifPlayed_r5)))) ++ wsX20 ++ wsX10 ++ (vx_atS RX2 90 "java/lang/IllegalArgumentException" ["java/lang/RuntimeException", "java/lang/Exception"]).filter goodWord)
noncomputable def wsX2_fewestQuietVanes_r1 : List Cond := [Cond.fieldLink RX2 16 "PinCylinder" "trial" "LPinCylinder$State;", Cond.fieldLink RX2 12 "PinCylinder" "state" "LPinCylinder$State;", Cond.methodLink RX2 211 yX2_tryOut, Cond.instanceMethod yX2_tryOut, Cond.selects RX2 yX2_tryOut yX2_tryOut, Cond.initialized RX2, Cond.code yX2_tryOut cX2_tryOut 3 none, Cond.methodLink RX2 168 yX1_become, Cond.instanceMethod yX1_become, Cond.selects RX1 yX1_become yX1_become, Cond.initialized RX1, Cond.code yX1_become cX1_become 2 none, Cond.fieldLink RX1 9 "PinCylinder$State" "chords" "[I", Cond.methodLink RX1 64 arraycopyName, Cond.native arraycopyName, Cond.static arraycopyName, Cond.initialized "java/lang/System", Cond.fieldLink RX1 15 "PinCylinder$State" "restsAt" "[I", Cond.fieldLink RX1 18 "PinCylinder$State" "wear" "[I", Cond.fieldLink RX1 21 "PinCylinder$State" "notesOf" "[I", Cond.fieldLink RX1 24 "PinCylinder$State" "keptTeeth" "[I", Cond.fieldLink RX1 27 "PinCylinder$State" "keptTimes" "[I", Cond.fieldLink RX1 30 "PinCylinder$State" "settings" "[I", Cond.fieldLink RX1 33 "PinCylinder$State" "broken" "I"]
noncomputable def wsX2_fewestQuietVanes_r2 : List Cond := [Cond.fieldLink RX1 37 "PinCylinder$State" "place" "I", Cond.fieldLink RX1 40 "PinCylinder$State" "played" "I", Cond.fieldLink RX1 43 "PinCylinder$State" "wind" "I", Cond.fieldLink RX1 46 "PinCylinder$State" "vanes" "I", Cond.fieldLink RX1 49 "PinCylinder$State" "time" "I", Cond.fieldLink RX1 52 "PinCylinder$State" "stepsDone" "I", Cond.fieldLink RX1 55 "PinCylinder$State" "notes" "I", Cond.fieldLink RX1 58 "PinCylinder$State" "squeaks" "I", Cond.fieldLink RX1 61 "PinCylinder$State" "windNeeded" "I", Cond.methodLink RX2 127 yX1_goOnFor, Cond.instanceMethod yX1_goOnFor, Cond.selects RX1 yX1_goOnFor yX1_goOnFor, Cond.code yX1_goOnFor cX1_goOnFor 3 (some .int), Cond.methodLink RX1 95 yX1_goOn, Cond.instanceMethod yX1_goOn, Cond.selects RX1 yX1_goOn yX1_goOn, Cond.code yX1_goOn cX1_goOn 7 (some .boolean), Cond.methodLink RX1 105 Lib.Math.max.name, Cond.static Lib.Math.max.name, Cond.initialized "java/lang/Math", Cond.code Lib.Math.max.name Lib.Math.max.code 2 (some .int), Cond.methodLink RX1 78 yX1_around, Cond.static yX1_around, Cond.code yX1_around cX1_around 1 (some .int)]
noncomputable def wsX2_fewestQuietVanes_r3 : List Cond := [Cond.methodLink RX1 114 yJ9_floorMod_7cf53, Cond.static yJ9_floorMod_7cf53, Cond.initialized RJ9, Cond.code yJ9_floorMod_7cf53 cJ9_floorMod_7cf53 3 (some .int), Cond.methodLink RX1 99 yX1_tuneComing, Cond.instanceMethod yX1_tuneComing, Cond.selects RX1 yX1_tuneComing yX1_tuneComing, Cond.code yX1_tuneComing cX1_tuneComing 3 (some .int), Cond.methodLink RX1 70 yX1_teethAt, Cond.instanceMethod yX1_teethAt, Cond.selects RX1 yX1_teethAt yX1_teethAt, Cond.code yX1_teethAt cX1_teethAt 3 (some .int), Cond.methodLink RX1 102 yX1_windOfStep, Cond.instanceMethod yX1_windOfStep, Cond.selects RX1 yX1_windOfStep yX1_windOfStep, Cond.code yX1_windOfStep cX1_windOfStep 3 (some .int), Cond.methodLink RX1 82 yJ6_bitCount_0f7a4, Cond.static yJ6_bitCount_0f7a4, Cond.initialized RJ6, Cond.code yJ6_bitCount_0f7a4 cJ6_bitCount_0f7a4 1 (some .int), Cond.constant RJ6 265 (1431655765), Cond.constant RJ6 266 (858993459), Cond.constant RJ6 267 (252645135), Cond.methodLink RX1 110 yX1_strike]
noncomputable def wsX2_fewestQuietVanes_r4 : List Cond := [Cond.instanceMethod yX1_strike, Cond.selects RX1 yX1_strike yX1_strike, Cond.code yX1_strike cX1_strike 4 none, Cond.methodLink RX1 117 yX1_ringsFor, Cond.instanceMethod yX1_ringsFor, Cond.selects RX1 yX1_ringsFor yX1_ringsFor, Cond.code yX1_ringsFor cX1_ringsFor 2 (some .int), Cond.methodLink RX1 120 yX1_squeak, Cond.instanceMethod yX1_squeak, Cond.selects RX1 yX1_squeak yX1_squeak, Cond.code yX1_squeak cX1_squeak 2 none, Cond.methodLink RX1 124 yX1_isBroken, Cond.instanceMethod yX1_isBroken, Cond.selects RX1 yX1_isBroken yX1_isBroken, Cond.code yX1_isBroken cX1_isBroken 2 (some .boolean), Cond.methodLink RX1 128 yX1_pluck, Cond.instanceMethod yX1_pluck, Cond.selects RX1 yX1_pluck yX1_pluck, Cond.code yX1_pluck cX1_pluck 3 none]
noncomputable def wsX2_fewestQuietVanes : List Cond := .code yX2_fewestQuietVanes cX2_fewestQuietVanes 2 (some .int) :: ((wsX2_fewestQuietVanes_r1 ++ (wsX2_fewestQuietVanes_r2 ++ (wsX2_fewestQuietVanes_r3 ++ wsX2_fewestQuietVanes_r4))) ++ wsX20 ++ wsX10)
noncomputable def wsX2_fewestVanes_r1 : List Cond := [Cond.methodLink RX2 218 yX2_fewestQuietVanes, Cond.instanceMethod yX2_fewestQuietVanes, Cond.selects RX2 yX2_fewestQuietVanes yX2_fewestQuietVanes, Cond.initialized RX2, Cond.code yX2_fewestQuietVanes cX2_fewestQuietVanes 2 (some .int), Cond.fieldLink RX2 16 "PinCylinder" "trial" "LPinCylinder$State;", Cond.fieldLink RX2 12 "PinCylinder" "state" "LPinCylinder$State;", Cond.methodLink RX2 211 yX2_tryOut, Cond.instanceMethod yX2_tryOut, Cond.selects RX2 yX2_tryOut yX2_tryOut, Cond.code yX2_tryOut cX2_tryOut 3 none, Cond.methodLink RX2 168 yX1_become, Cond.instanceMethod yX1_become, Cond.selects RX1 yX1_become yX1_become, Cond.initialized RX1, Cond.code yX1_become cX1_become 2 none, Cond.fieldLink RX1 9 "PinCylinder$State" "chords" "[I", Cond.methodLink RX1 64 arraycopyName, Cond.native arraycopyName, Cond.static arraycopyName, Cond.initialized "java/lang/System", Cond.fieldLink RX1 15 "PinCylinder$State" "restsAt" "[I", Cond.fieldLink RX1 18 "PinCylinder$State" "wear" "[I", Cond.fieldLink RX1 21 "PinCylinder$State" "notesOf" "[I"]
noncomputable def wsX2_fewestVanes_r2 : List Cond := [Cond.fieldLink RX1 24 "PinCylinder$State" "keptTeeth" "[I", Cond.fieldLink RX1 27 "PinCylinder$State" "keptTimes" "[I", Cond.fieldLink RX1 30 "PinCylinder$State" "settings" "[I", Cond.fieldLink RX1 33 "PinCylinder$State" "broken" "I", Cond.fieldLink RX1 37 "PinCylinder$State" "place" "I", Cond.fieldLink RX1 40 "PinCylinder$State" "played" "I", Cond.fieldLink RX1 43 "PinCylinder$State" "wind" "I", Cond.fieldLink RX1 46 "PinCylinder$State" "vanes" "I", Cond.fieldLink RX1 49 "PinCylinder$State" "time" "I", Cond.fieldLink RX1 52 "PinCylinder$State" "stepsDone" "I", Cond.fieldLink RX1 55 "PinCylinder$State" "notes" "I", Cond.fieldLink RX1 58 "PinCylinder$State" "squeaks" "I", Cond.fieldLink RX1 61 "PinCylinder$State" "windNeeded" "I", Cond.methodLink RX2 127 yX1_goOnFor, Cond.instanceMethod yX1_goOnFor, Cond.selects RX1 yX1_goOnFor yX1_goOnFor, Cond.code yX1_goOnFor cX1_goOnFor 3 (some .int), Cond.methodLink RX1 95 yX1_goOn, Cond.instanceMethod yX1_goOn, Cond.selects RX1 yX1_goOn yX1_goOn, Cond.code yX1_goOn cX1_goOn 7 (some .boolean), Cond.methodLink RX1 105 Lib.Math.max.name, Cond.static Lib.Math.max.name, Cond.initialized "java/lang/Math"]
noncomputable def wsX2_fewestVanes_r3 : List Cond := [Cond.code Lib.Math.max.name Lib.Math.max.code 2 (some .int), Cond.methodLink RX1 78 yX1_around, Cond.static yX1_around, Cond.code yX1_around cX1_around 1 (some .int), Cond.methodLink RX1 114 yJ9_floorMod_7cf53, Cond.static yJ9_floorMod_7cf53, Cond.initialized RJ9, Cond.code yJ9_floorMod_7cf53 cJ9_floorMod_7cf53 3 (some .int), Cond.methodLink RX1 99 yX1_tuneComing, Cond.instanceMethod yX1_tuneComing, Cond.selects RX1 yX1_tuneComing yX1_tuneComing, Cond.code yX1_tuneComing cX1_tuneComing 3 (some .int), Cond.methodLink RX1 70 yX1_teethAt, Cond.instanceMethod yX1_teethAt, Cond.selects RX1 yX1_teethAt yX1_teethAt, Cond.code yX1_teethAt cX1_teethAt 3 (some .int), Cond.methodLink RX1 102 yX1_windOfStep, Cond.instanceMethod yX1_windOfStep, Cond.selects RX1 yX1_windOfStep yX1_windOfStep, Cond.code yX1_windOfStep cX1_windOfStep 3 (some .int), Cond.methodLink RX1 82 yJ6_bitCount_0f7a4, Cond.static yJ6_bitCount_0f7a4, Cond.initialized RJ6, Cond.code yJ6_bitCount_0f7a4 cJ6_bitCount_0f7a4 1 (some .int)]
noncomputable def wsX2_fewestVanes_r4 : List Cond := [Cond.constant RJ6 265 (1431655765), Cond.constant RJ6 266 (858993459), Cond.constant RJ6 267 (252645135), Cond.methodLink RX1 110 yX1_strike, Cond.instanceMethod yX1_strike, Cond.selects RX1 yX1_strike yX1_strike, Cond.code yX1_strike cX1_strike 4 none, Cond.methodLink RX1 117 yX1_ringsFor, Cond.instanceMethod yX1_ringsFor, Cond.selects RX1 yX1_ringsFor yX1_ringsFor, Cond.code yX1_ringsFor cX1_ringsFor 2 (some .int), Cond.methodLink RX1 120 yX1_squeak, Cond.instanceMethod yX1_squeak, Cond.selects RX1 yX1_squeak yX1_squeak, Cond.code yX1_squeak cX1_squeak 2 none, Cond.methodLink RX1 124 yX1_isBroken, Cond.instanceMethod yX1_isBroken, Cond.selects RX1 yX1_isBroken yX1_isBroken, Cond.code yX1_isBroken cX1_isBroken 2 (some .boolean), Cond.methodLink RX1 128 yX1_pluck, Cond.instanceMethod yX1_pluck, Cond.selects RX1 yX1_pluck yX1_pluck, Cond.code yX1_pluck cX1_pluck 3 none]
noncomputable def wsX2_fewestVanes : List Cond := .code yX2_fewestVanes cX2_fewestVanes 1 (some .int) :: ((wsX2_fewestVanes_r1 ++ (wsX2_fewestVanes_r2 ++ (wsX2_fewestVanes_r3 ++ wsX2_fewestVanes_r4))) ++ wsX20 ++ wsX10)
noncomputable def wsX2_windFor_r1 : List Cond := [Cond.classLink RX2 86 "java/lang/IllegalArgumentException", Cond.initialized "java/lang/IllegalArgumentException", Cond.fieldLink RX2 12 "PinCylinder" "state" "LPinCylinder$State;", Cond.methodLink RX2 97 yX2_isWithin, Cond.static yX2_isWithin, Cond.initialized RX2, Cond.code yX2_isWithin cX2_isWithin 3 (some .boolean), Cond.methodLink RX2 221 yX1_windOfSteps, Cond.instanceMethod yX1_windOfSteps, Cond.selects RX1 yX1_windOfSteps yX1_windOfSteps, Cond.initialized RX1, Cond.code yX1_windOfSteps cX1_windOfSteps 6 (some .int), Cond.fieldLink RX1 37 "PinCylinder$State" "place" "I", Cond.fieldLink RX1 40 "PinCylinder$State" "played" "I", Cond.methodLink RX1 78 yX1_around, Cond.static yX1_around, Cond.code yX1_around cX1_around 1 (some .int), Cond.methodLink RX1 114 yJ9_floorMod_7cf53, Cond.static yJ9_floorMod_7cf53, Cond.initialized RJ9, Cond.code yJ9_floorMod_7cf53 cJ9_floorMod_7cf53 3 (some .int), Cond.methodLink RX1 99 yX1_tuneComing, Cond.instanceMethod yX1_tuneComing, Cond.selects RX1 yX1_tuneComing yX1_tuneComing]
noncomputable def wsX2_windFor_r2 : List Cond := [Cond.code yX1_tuneComing cX1_tuneComing 3 (some .int), Cond.fieldLink RX1 30 "PinCylinder$State" "settings" "[I", Cond.methodLink RX1 102 yX1_windOfStep, Cond.instanceMethod yX1_windOfStep, Cond.selects RX1 yX1_windOfStep yX1_windOfStep, Cond.code yX1_windOfStep cX1_windOfStep 3 (some .int), Cond.fieldLink RX1 33 "PinCylinder$State" "broken" "I", Cond.methodLink RX1 70 yX1_teethAt, Cond.instanceMethod yX1_teethAt, Cond.selects RX1 yX1_teethAt yX1_teethAt, Cond.code yX1_teethAt cX1_teethAt 3 (some .int), Cond.fieldLink RX1 9 "PinCylinder$State" "chords" "[I", Cond.methodLink RX1 82 yJ6_bitCount_0f7a4, Cond.static yJ6_bitCount_0f7a4, Cond.initialized RJ6, Cond.code yJ6_bitCount_0f7a4 cJ6_bitCount_0f7a4 1 (some .int), Cond.constant RJ6 265 (1431655765), Cond.constant RJ6 266 (858993459), Cond.constant RJ6 267 (252645135)]
noncomputable def wsX2_windFor : List Cond := .code yX2_windFor cX2_windFor 2 (some .int) :: ((wsX2_windFor_r1 ++ wsX2_windFor_r2) ++ wsX20 ++ wsX10 ++ (vx_atS RX2 90 "java/lang/IllegalArgumentException" ["java/lang/RuntimeException", "java/lang/Exception"]).filter goodWord)
noncomputable def wsX2_cleanShare : List Cond := .code yX2_cleanShare cX2_cleanShare 1 (some .double) :: ([.fieldLink RX2 12 "PinCylinder" "state" "LPinCylinder$State;", .methodLink RX2 300 Lib.Math.max.name, .static Lib.Math.max.name, .initialized "java/lang/Math", .code Lib.Math.max.name Lib.Math.max.code 2 (some .int)] ++ wsX20 ++ wsX10)
noncomputable def wsX2_clean : List Cond := .code yX2_clean cX2_clean 1 (some .double) :: ([.methodLink RX2 224 yX2_cleanShare, .instanceMethod yX2_cleanShare, .selects RX2 yX2_cleanShare yX2_cleanShare, .initialized RX2, .code yX2_cleanShare cX2_cleanShare 1 (some .double), .fieldLink RX2 12 "PinCylinder" "state" "LPinCylinder$State;", .methodLink RX2 300 Lib.Math.max.name, .static Lib.Math.max.name, .initialized "java/lang/Math", .code Lib.Math.max.name Lib.Math.max.code 2 (some .int)] ++ wsX20 ++ wsX10)
noncomputable def wsX2_mixed : List Cond := .code yX2_mixed cX2_mixed 4 (some .long) :: ([.constantLong RX2 309 (31)])
noncomputable def wsX2_mixedTunes_r1 : List Cond := [Cond.fieldLink RX2 12 "PinCylinder" "state" "LPinCylinder$State;", Cond.methodLink RX2 182 yX1_numberOfTune, Cond.instanceMethod yX1_numberOfTune, Cond.selects RX1 yX1_numberOfTune yX1_numberOfTune, Cond.initialized RX1, Cond.code yX1_numberOfTune cX1_numberOfTune 3 (some .int), Cond.methodLink RX1 137 yX1_pinsOf, Cond.instanceMethod yX1_pinsOf, Cond.selects RX1 yX1_pinsOf yX1_pinsOf, Cond.code yX1_pinsOf cX1_pinsOf 4 (some .int), Cond.methodLink RX1 70 yX1_teethAt, Cond.instanceMethod yX1_teethAt, Cond.selects RX1 yX1_teethAt yX1_teethAt, Cond.code yX1_teethAt cX1_teethAt 3 (some .int), Cond.fieldLink RX1 9 "PinCylinder$State" "chords" "[I", Cond.methodLink RX1 82 yJ6_bitCount_0f7a4, Cond.static yJ6_bitCount_0f7a4, Cond.initialized RJ6, Cond.code yJ6_bitCount_0f7a4 cJ6_bitCount_0f7a4 1 (some .int), Cond.constant RJ6 265 (1431655765), Cond.constant RJ6 266 (858993459), Cond.constant RJ6 267 (252645135), Cond.methodLink RX1 140 yX1_pinsByTooth, Cond.instanceMethod yX1_pinsByTooth]
noncomputable def wsX2_mixedTunes_r2 : List Cond := [Cond.selects RX1 yX1_pinsByTooth yX1_pinsByTooth, Cond.code yX1_pinsByTooth cX1_pinsByTooth 5 (some .int), Cond.methodLink RX1 74 yX1_hasPin, Cond.instanceMethod yX1_hasPin, Cond.selects RX1 yX1_hasPin yX1_hasPin, Cond.code yX1_hasPin cX1_hasPin 4 (some .boolean), Cond.methodLink RX1 143 yX1_fullestStep, Cond.instanceMethod yX1_fullestStep, Cond.selects RX1 yX1_fullestStep yX1_fullestStep, Cond.code yX1_fullestStep cX1_fullestStep 4 (some .int), Cond.methodLink RX1 146 yX1_teethUsed, Cond.instanceMethod yX1_teethUsed, Cond.selects RX1 yX1_teethUsed yX1_teethUsed, Cond.code yX1_teethUsed cX1_teethUsed 4 (some .int), Cond.methodLink RX2 230 yX2_mixed, Cond.static yX2_mixed, Cond.initialized RX2, Cond.code yX2_mixed cX2_mixed 4 (some .long), Cond.constantLong RX2 309 (31), Cond.methodLink RX2 187 yX1_teethAt]
noncomputable def wsX2_mixedTunes : List Cond := .code yX2_mixedTunes cX2_mixedTunes 7 (some .long) :: ((wsX2_mixedTunes_r1 ++ wsX2_mixedTunes_r2) ++ wsX20 ++ wsX10)
noncomputable def wsX2_mixedTeeth_r1 : List Cond := [Cond.fieldLink RX2 12 "PinCylinder" "state" "LPinCylinder$State;", Cond.methodLink RX2 190 yX1_numberOfTooth, Cond.instanceMethod yX1_numberOfTooth, Cond.selects RX1 yX1_numberOfTooth yX1_numberOfTooth, Cond.initialized RX1, Cond.code yX1_numberOfTooth cX1_numberOfTooth 3 (some .int), Cond.fieldLink RX1 18 "PinCylinder$State" "wear" "[I", Cond.fieldLink RX1 21 "PinCylinder$State" "notesOf" "[I", Cond.fieldLink RX1 40 "PinCylinder$State" "played" "I", Cond.methodLink RX1 117 yX1_ringsFor, Cond.instanceMethod yX1_ringsFor, Cond.selects RX1 yX1_ringsFor yX1_ringsFor, Cond.code yX1_ringsFor cX1_ringsFor 2 (some .int), Cond.fieldLink RX1 15 "PinCylinder$State" "restsAt" "[I", Cond.fieldLink RX1 49 "PinCylinder$State" "time" "I", Cond.methodLink RX1 105 Lib.Math.max.name, Cond.static Lib.Math.max.name, Cond.initialized "java/lang/Math", Cond.code Lib.Math.max.name Lib.Math.max.code 2 (some .int), Cond.methodLink RX1 124 yX1_isBroken, Cond.instanceMethod yX1_isBroken, Cond.selects RX1 yX1_isBroken yX1_isBroken, Cond.code yX1_isBroken cX1_isBroken 2 (some .boolean), Cond.fieldLink RX1 33 "PinCylinder$State" "broken" "I"]
noncomputable def wsX2_mixedTeeth_r2 : List Cond := [Cond.methodLink RX1 149 yX1_widestGap, Cond.instanceMethod yX1_widestGap, Cond.selects RX1 yX1_widestGap yX1_widestGap, Cond.code yX1_widestGap cX1_widestGap 7 (some .int), Cond.methodLink RX1 74 yX1_hasPin, Cond.instanceMethod yX1_hasPin, Cond.selects RX1 yX1_hasPin yX1_hasPin, Cond.code yX1_hasPin cX1_hasPin 4 (some .boolean), Cond.methodLink RX1 70 yX1_teethAt, Cond.instanceMethod yX1_teethAt, Cond.selects RX1 yX1_teethAt yX1_teethAt, Cond.code yX1_teethAt cX1_teethAt 3 (some .int), Cond.fieldLink RX1 9 "PinCylinder$State" "chords" "[I", Cond.methodLink RX2 230 yX2_mixed, Cond.static yX2_mixed, Cond.initialized RX2, Cond.code yX2_mixed cX2_mixed 4 (some .long), Cond.constantLong RX2 309 (31)]
noncomputable def wsX2_mixedTeeth : List Cond := .code yX2_mixedTeeth cX2_mixedTeeth 7 (some .long) :: ((wsX2_mixedTeeth_r1 ++ wsX2_mixedTeeth_r2) ++ wsX20 ++ wsX10)
noncomputable def wsX2_mixedNotes_r1 : List Cond := [Cond.fieldLink RX2 12 "PinCylinder" "state" "LPinCylinder$State;", Cond.methodLink RX2 195 yX1_notesKept, Cond.instanceMethod yX1_notesKept, Cond.selects RX1 yX1_notesKept yX1_notesKept, Cond.initialized RX1, Cond.code yX1_notesKept cX1_notesKept 1 (some .int), Cond.fieldLink RX1 55 "PinCylinder$State" "notes" "I", Cond.methodLink RX1 131 Lib.Math.min.name, Cond.static Lib.Math.min.name, Cond.initialized "java/lang/Math", Cond.code Lib.Math.min.name Lib.Math.min.code 2 (some .int), Cond.methodLink RX2 198 yX1_noteTooth, Cond.instanceMethod yX1_noteTooth, Cond.selects RX1 yX1_noteTooth yX1_noteTooth, Cond.code yX1_noteTooth cX1_noteTooth 2 (some .int), Cond.fieldLink RX1 24 "PinCylinder$State" "keptTeeth" "[I", Cond.methodLink RX1 134 yX1_slotOf, Cond.instanceMethod yX1_slotOf, Cond.selects RX1 yX1_slotOf yX1_slotOf, Cond.code yX1_slotOf cX1_slotOf 2 (some .int), Cond.methodLink RX1 114 yJ9_floorMod_7cf53, Cond.static yJ9_floorMod_7cf53, Cond.initialized RJ9, Cond.code yJ9_floorMod_7cf53 cJ9_floorMod_7cf53 3 (some .int)]
noncomputable def wsX2_mixedNotes_r2 : List Cond := [Cond.methodLink RX2 230 yX2_mixed, Cond.static yX2_mixed, Cond.initialized RX2, Cond.code yX2_mixed cX2_mixed 4 (some .long), Cond.constantLong RX2 309 (31), Cond.methodLink RX2 201 yX1_noteTime, Cond.instanceMethod yX1_noteTime, Cond.selects RX1 yX1_noteTime yX1_noteTime, Cond.code yX1_noteTime cX1_noteTime 2 (some .int), Cond.fieldLink RX1 27 "PinCylinder$State" "keptTimes" "[I"]
noncomputable def wsX2_mixedNotes : List Cond := .code yX2_mixedNotes cX2_mixedNotes 7 (some .long) :: ((wsX2_mixedNotes_r1 ++ wsX2_mixedNotes_r2) ++ wsX20 ++ wsX10)
noncomputable def wsX2_mixedProspects_r1 : List Cond := [Cond.fieldLink RX2 12 "PinCylinder" "state" "LPinCylinder$State;", Cond.methodLink RX2 211 yX2_tryOut, Cond.instanceMethod yX2_tryOut, Cond.selects RX2 yX2_tryOut yX2_tryOut, Cond.initialized RX2, Cond.code yX2_tryOut cX2_tryOut 3 none, Cond.fieldLink RX2 16 "PinCylinder" "trial" "LPinCylinder$State;", Cond.methodLink RX2 168 yX1_become, Cond.instanceMethod yX1_become, Cond.selects RX1 yX1_become yX1_become, Cond.initialized RX1, Cond.code yX1_become cX1_become 2 none, Cond.fieldLink RX1 9 "PinCylinder$State" "chords" "[I", Cond.methodLink RX1 64 arraycopyName, Cond.native arraycopyName, Cond.static arraycopyName, Cond.initialized "java/lang/System", Cond.fieldLink RX1 15 "PinCylinder$State" "restsAt" "[I", Cond.fieldLink RX1 18 "PinCylinder$State" "wear" "[I", Cond.fieldLink RX1 21 "PinCylinder$State" "notesOf" "[I", Cond.fieldLink RX1 24 "PinCylinder$State" "keptTeeth" "[I", Cond.fieldLink RX1 27 "PinCylinder$State" "keptTimes" "[I", Cond.fieldLink RX1 30 "PinCylinder$State" "settings" "[I", Cond.fieldLink RX1 33 "PinCylinder$State" "broken" "I"]
noncomputable def wsX2_mixedProspects_r2 : List Cond := [Cond.fieldLink RX1 37 "PinCylinder$State" "place" "I", Cond.fieldLink RX1 40 "PinCylinder$State" "played" "I", Cond.fieldLink RX1 43 "PinCylinder$State" "wind" "I", Cond.fieldLink RX1 46 "PinCylinder$State" "vanes" "I", Cond.fieldLink RX1 49 "PinCylinder$State" "time" "I", Cond.fieldLink RX1 52 "PinCylinder$State" "stepsDone" "I", Cond.fieldLink RX1 55 "PinCylinder$State" "notes" "I", Cond.fieldLink RX1 58 "PinCylinder$State" "squeaks" "I", Cond.fieldLink RX1 61 "PinCylinder$State" "windNeeded" "I", Cond.methodLink RX2 127 yX1_goOnFor, Cond.instanceMethod yX1_goOnFor, Cond.selects RX1 yX1_goOnFor yX1_goOnFor, Cond.code yX1_goOnFor cX1_goOnFor 3 (some .int), Cond.methodLink RX1 95 yX1_goOn, Cond.instanceMethod yX1_goOn, Cond.selects RX1 yX1_goOn yX1_goOn, Cond.code yX1_goOn cX1_goOn 7 (some .boolean), Cond.methodLink RX1 105 Lib.Math.max.name, Cond.static Lib.Math.max.name, Cond.initialized "java/lang/Math", Cond.code Lib.Math.max.name Lib.Math.max.code 2 (some .int), Cond.methodLink RX1 78 yX1_around, Cond.static yX1_around, Cond.code yX1_around cX1_around 1 (some .int)]
noncomputable def wsX2_mixedProspects_r3 : List Cond := [Cond.methodLink RX1 114 yJ9_floorMod_7cf53, Cond.static yJ9_floorMod_7cf53, Cond.initialized RJ9, Cond.code yJ9_floorMod_7cf53 cJ9_floorMod_7cf53 3 (some .int), Cond.methodLink RX1 99 yX1_tuneComing, Cond.instanceMethod yX1_tuneComing, Cond.selects RX1 yX1_tuneComing yX1_tuneComing, Cond.code yX1_tuneComing cX1_tuneComing 3 (some .int), Cond.methodLink RX1 70 yX1_teethAt, Cond.instanceMethod yX1_teethAt, Cond.selects RX1 yX1_teethAt yX1_teethAt, Cond.code yX1_teethAt cX1_teethAt 3 (some .int), Cond.methodLink RX1 102 yX1_windOfStep, Cond.instanceMethod yX1_windOfStep, Cond.selects RX1 yX1_windOfStep yX1_windOfStep, Cond.code yX1_windOfStep cX1_windOfStep 3 (some .int), Cond.methodLink RX1 82 yJ6_bitCount_0f7a4, Cond.static yJ6_bitCount_0f7a4, Cond.initialized RJ6, Cond.code yJ6_bitCount_0f7a4 cJ6_bitCount_0f7a4 1 (some .int), Cond.constant RJ6 265 (1431655765), Cond.constant RJ6 266 (858993459), Cond.constant RJ6 267 (252645135), Cond.methodLink RX1 110 yX1_strike]
noncomputable def wsX2_mixedProspects_r4 : List Cond := [Cond.instanceMethod yX1_strike, Cond.selects RX1 yX1_strike yX1_strike, Cond.code yX1_strike cX1_strike 4 none, Cond.methodLink RX1 117 yX1_ringsFor, Cond.instanceMethod yX1_ringsFor, Cond.selects RX1 yX1_ringsFor yX1_ringsFor, Cond.code yX1_ringsFor cX1_ringsFor 2 (some .int), Cond.methodLink RX1 120 yX1_squeak, Cond.instanceMethod yX1_squeak, Cond.selects RX1 yX1_squeak yX1_squeak, Cond.code yX1_squeak cX1_squeak 2 none, Cond.methodLink RX1 124 yX1_isBroken, Cond.instanceMethod yX1_isBroken, Cond.selects RX1 yX1_isBroken yX1_isBroken, Cond.code yX1_isBroken cX1_isBroken 2 (some .boolean), Cond.methodLink RX1 128 yX1_pluck, Cond.instanceMethod yX1_pluck, Cond.selects RX1 yX1_pluck yX1_pluck, Cond.code yX1_pluck cX1_pluck 3 none, Cond.methodLink RX2 215 yX2_outcome, Cond.instanceMethod yX2_outcome, Cond.selects RX2 yX2_outcome yX2_outcome, Cond.code yX2_outcome cX2_outcome 2 (some .int), Cond.methodLink RX2 294 yX1_teethBroken]
noncomputable def wsX2_mixedProspects_r5 : List Cond := [Cond.instanceMethod yX1_teethBroken, Cond.selects RX1 yX1_teethBroken yX1_teethBroken, Cond.code yX1_teethBroken cX1_teethBroken 1 (some .int), Cond.methodLink RX2 230 yX2_mixed, Cond.static yX2_mixed, Cond.code yX2_mixed cX2_mixed 4 (some .long), Cond.constantLong RX2 309 (31), Cond.methodLink RX2 218 yX2_fewestQuietVanes, Cond.instanceMethod yX2_fewestQuietVanes, Cond.selects RX2 yX2_fewestQuietVanes yX2_fewestQuietVanes, Cond.code yX2_fewestQuietVanes cX2_fewestQuietVanes 2 (some .int), Cond.methodLink RX2 221 yX1_windOfSteps, Cond.instanceMethod yX1_windOfSteps, Cond.selects RX1 yX1_windOfSteps yX1_windOfSteps, Cond.code yX1_windOfSteps cX1_windOfSteps 6 (some .int)]
noncomputable def wsX2_mixedProspects : List Cond := .code yX2_mixedProspects cX2_mixedProspects 6 (some .long) :: ((wsX2_mixedProspects_r1 ++ (wsX2_mixedProspects_r2 ++ (wsX2_mixedProspects_r3 ++ (wsX2_mixedProspects_r4 ++ wsX2_mixedProspects_r5)))) ++ wsX20 ++ wsX10)
noncomputable def wsX2_bitsOfShare : List Cond := .code yX2_bitsOfShare cX2_bitsOfShare 7 (some .long) :: ([.constantLong RX2 303 (1023), .constantDouble RX2 305 (4611686018427387904), .constantDouble RX2 307 (4841369599423283200)])
noncomputable def wsX2_mixedBuffer : List Cond := .code yX2_mixedBuffer cX2_mixedBuffer 6 (some .long) :: ([.fieldLink RX2 41 "PinCylinder" "bufferLength" "I", .fieldLink RX2 37 "PinCylinder" "buffer" "[C", .methodLink RX2 230 yX2_mixed, .static yX2_mixed, .initialized RX2, .code yX2_mixed cX2_mixed 4 (some .long), .constantLong RX2 309 (31)] ++ wsX20)
noncomputable def wsX2_digest_r1 : List Cond := [Cond.constantLong RX2 228 (3797), Cond.methodLink RX2 206 yX2_numberNow, Cond.instanceMethod yX2_numberNow, Cond.selects RX2 yX2_numberNow yX2_numberNow, Cond.initialized RX2, Cond.code yX2_numberNow cX2_numberNow 2 (some .int), Cond.fieldLink RX2 34 "PinCylinder" "savedCount" "I", Cond.fieldLink RX2 12 "PinCylinder" "state" "LPinCylinder$State;", Cond.methodLink RX2 297 yX1_numberOfState, Cond.instanceMethod yX1_numberOfState, Cond.selects RX1 yX1_numberOfState yX1_numberOfState, Cond.initialized RX1, Cond.code yX1_numberOfState cX1_numberOfState 2 (some .int), Cond.fieldLink RX1 37 "PinCylinder$State" "place" "I", Cond.fieldLink RX1 40 "PinCylinder$State" "played" "I", Cond.fieldLink RX1 43 "PinCylinder$State" "wind" "I", Cond.fieldLink RX1 46 "PinCylinder$State" "vanes" "I", Cond.fieldLink RX1 49 "PinCylinder$State" "time" "I", Cond.fieldLink RX1 52 "PinCylinder$State" "stepsDone" "I", Cond.fieldLink RX1 55 "PinCylinder$State" "notes" "I", Cond.fieldLink RX1 58 "PinCylinder$State" "squeaks" "I", Cond.fieldLink RX1 61 "PinCylinder$State" "windNeeded" "I", Cond.fieldLink RX1 30 "PinCylinder$State" "settings" "[I", Cond.methodLink RX1 152 yX1_teethRinging]
noncomputable def wsX2_digest_r2 : List Cond := [Cond.instanceMethod yX1_teethRinging, Cond.selects RX1 yX1_teethRinging yX1_teethRinging, Cond.code yX1_teethRinging cX1_teethRinging 3 (some .int), Cond.methodLink RX1 117 yX1_ringsFor, Cond.instanceMethod yX1_ringsFor, Cond.selects RX1 yX1_ringsFor yX1_ringsFor, Cond.code yX1_ringsFor cX1_ringsFor 2 (some .int), Cond.fieldLink RX1 15 "PinCylinder$State" "restsAt" "[I", Cond.methodLink RX1 105 Lib.Math.max.name, Cond.static Lib.Math.max.name, Cond.initialized "java/lang/Math", Cond.code Lib.Math.max.name Lib.Math.max.code 2 (some .int), Cond.methodLink RX1 156 yX1_teethBroken, Cond.instanceMethod yX1_teethBroken, Cond.selects RX1 yX1_teethBroken yX1_teethBroken, Cond.code yX1_teethBroken cX1_teethBroken 1 (some .int), Cond.fieldLink RX1 33 "PinCylinder$State" "broken" "I", Cond.methodLink RX1 82 yJ6_bitCount_0f7a4, Cond.static yJ6_bitCount_0f7a4, Cond.initialized RJ6, Cond.code yJ6_bitCount_0f7a4 cJ6_bitCount_0f7a4 1 (some .int), Cond.constant RJ6 265 (1431655765), Cond.constant RJ6 266 (858993459), Cond.constant RJ6 267 (252645135)]
noncomputable def wsX2_digest_r3 : List Cond := [Cond.methodLink RX1 159 yX1_pinsOfAll, Cond.instanceMethod yX1_pinsOfAll, Cond.selects RX1 yX1_pinsOfAll yX1_pinsOfAll, Cond.code yX1_pinsOfAll cX1_pinsOfAll 3 (some .int), Cond.methodLink RX1 137 yX1_pinsOf, Cond.instanceMethod yX1_pinsOf, Cond.selects RX1 yX1_pinsOf yX1_pinsOf, Cond.code yX1_pinsOf cX1_pinsOf 4 (some .int), Cond.methodLink RX1 70 yX1_teethAt, Cond.instanceMethod yX1_teethAt, Cond.selects RX1 yX1_teethAt yX1_teethAt, Cond.code yX1_teethAt cX1_teethAt 3 (some .int), Cond.fieldLink RX1 9 "PinCylinder$State" "chords" "[I", Cond.methodLink RX1 114 yJ9_floorMod_7cf53, Cond.static yJ9_floorMod_7cf53, Cond.initialized RJ9, Cond.code yJ9_floorMod_7cf53 cJ9_floorMod_7cf53 3 (some .int), Cond.methodLink RX2 230 yX2_mixed, Cond.static yX2_mixed, Cond.code yX2_mixed cX2_mixed 4 (some .long), Cond.constantLong RX2 309 (31), Cond.methodLink RX2 234 yX2_mixedTunes, Cond.instanceMethod yX2_mixedTunes, Cond.selects RX2 yX2_mixedTunes yX2_mixedTunes]
noncomputable def wsX2_digest_r4 : List Cond := [Cond.code yX2_mixedTunes cX2_mixedTunes 7 (some .long), Cond.methodLink RX2 182 yX1_numberOfTune, Cond.instanceMethod yX1_numberOfTune, Cond.selects RX1 yX1_numberOfTune yX1_numberOfTune, Cond.code yX1_numberOfTune cX1_numberOfTune 3 (some .int), Cond.methodLink RX1 140 yX1_pinsByTooth, Cond.instanceMethod yX1_pinsByTooth, Cond.selects RX1 yX1_pinsByTooth yX1_pinsByTooth, Cond.code yX1_pinsByTooth cX1_pinsByTooth 5 (some .int), Cond.methodLink RX1 74 yX1_hasPin, Cond.instanceMethod yX1_hasPin, Cond.selects RX1 yX1_hasPin yX1_hasPin, Cond.code yX1_hasPin cX1_hasPin 4 (some .boolean), Cond.methodLink RX1 143 yX1_fullestStep, Cond.instanceMethod yX1_fullestStep, Cond.selects RX1 yX1_fullestStep yX1_fullestStep, Cond.code yX1_fullestStep cX1_fullestStep 4 (some .int), Cond.methodLink RX1 146 yX1_teethUsed, Cond.instanceMethod yX1_teethUsed, Cond.selects RX1 yX1_teethUsed yX1_teethUsed, Cond.code yX1_teethUsed cX1_teethUsed 4 (some .int), Cond.methodLink RX2 187 yX1_teethAt, Cond.methodLink RX2 238 yX2_mixedTeeth, Cond.instanceMethod yX2_mixedTeeth]
noncomputable def wsX2_digest_r5 : List Cond := [Cond.selects RX2 yX2_mixedTeeth yX2_mixedTeeth, Cond.code yX2_mixedTeeth cX2_mixedTeeth 7 (some .long), Cond.methodLink RX2 190 yX1_numberOfTooth, Cond.instanceMethod yX1_numberOfTooth, Cond.selects RX1 yX1_numberOfTooth yX1_numberOfTooth, Cond.code yX1_numberOfTooth cX1_numberOfTooth 3 (some .int), Cond.fieldLink RX1 18 "PinCylinder$State" "wear" "[I", Cond.fieldLink RX1 21 "PinCylinder$State" "notesOf" "[I", Cond.methodLink RX1 124 yX1_isBroken, Cond.instanceMethod yX1_isBroken, Cond.selects RX1 yX1_isBroken yX1_isBroken, Cond.code yX1_isBroken cX1_isBroken 2 (some .boolean), Cond.methodLink RX1 149 yX1_widestGap, Cond.instanceMethod yX1_widestGap, Cond.selects RX1 yX1_widestGap yX1_widestGap, Cond.code yX1_widestGap cX1_widestGap 7 (some .int), Cond.methodLink RX2 241 yX2_mixedNotes, Cond.instanceMethod yX2_mixedNotes, Cond.selects RX2 yX2_mixedNotes yX2_mixedNotes, Cond.code yX2_mixedNotes cX2_mixedNotes 7 (some .long), Cond.methodLink RX2 195 yX1_notesKept, Cond.instanceMethod yX1_notesKept, Cond.selects RX1 yX1_notesKept yX1_notesKept, Cond.code yX1_notesKept cX1_notesKept 1 (some .int)]
noncomputable def wsX2_digest_r6 : List Cond := [Cond.methodLink RX1 131 Lib.Math.min.name, Cond.static Lib.Math.min.name, Cond.code Lib.Math.min.name Lib.Math.min.code 2 (some .int), Cond.methodLink RX2 198 yX1_noteTooth, Cond.instanceMethod yX1_noteTooth, Cond.selects RX1 yX1_noteTooth yX1_noteTooth, Cond.code yX1_noteTooth cX1_noteTooth 2 (some .int), Cond.fieldLink RX1 24 "PinCylinder$State" "keptTeeth" "[I", Cond.methodLink RX1 134 yX1_slotOf, Cond.instanceMethod yX1_slotOf, Cond.selects RX1 yX1_slotOf yX1_slotOf, Cond.code yX1_slotOf cX1_slotOf 2 (some .int), Cond.methodLink RX2 201 yX1_noteTime, Cond.instanceMethod yX1_noteTime, Cond.selects RX1 yX1_noteTime yX1_noteTime, Cond.code yX1_noteTime cX1_noteTime 2 (some .int), Cond.fieldLink RX1 27 "PinCylinder$State" "keptTimes" "[I", Cond.methodLink RX2 244 yX2_mixedProspects, Cond.instanceMethod yX2_mixedProspects, Cond.selects RX2 yX2_mixedProspects yX2_mixedProspects, Cond.code yX2_mixedProspects cX2_mixedProspects 6 (some .long), Cond.methodLink RX2 211 yX2_tryOut, Cond.instanceMethod yX2_tryOut, Cond.selects RX2 yX2_tryOut yX2_tryOut]
noncomputable def wsX2_digest_r7 : List Cond := [Cond.code yX2_tryOut cX2_tryOut 3 none, Cond.fieldLink RX2 16 "PinCylinder" "trial" "LPinCylinder$State;", Cond.methodLink RX2 168 yX1_become, Cond.instanceMethod yX1_become, Cond.selects RX1 yX1_become yX1_become, Cond.code yX1_become cX1_become 2 none, Cond.methodLink RX1 64 arraycopyName, Cond.native arraycopyName, Cond.static arraycopyName, Cond.initialized "java/lang/System", Cond.methodLink RX2 127 yX1_goOnFor, Cond.instanceMethod yX1_goOnFor, Cond.selects RX1 yX1_goOnFor yX1_goOnFor, Cond.code yX1_goOnFor cX1_goOnFor 3 (some .int), Cond.methodLink RX1 95 yX1_goOn, Cond.instanceMethod yX1_goOn, Cond.selects RX1 yX1_goOn yX1_goOn, Cond.code yX1_goOn cX1_goOn 7 (some .boolean), Cond.methodLink RX1 78 yX1_around, Cond.static yX1_around, Cond.code yX1_around cX1_around 1 (some .int), Cond.methodLink RX1 99 yX1_tuneComing, Cond.instanceMethod yX1_tuneComing, Cond.selects RX1 yX1_tuneComing yX1_tuneComing]
noncomputable def wsX2_digest_r8 : List Cond := [Cond.code yX1_tuneComing cX1_tuneComing 3 (some .int), Cond.methodLink RX1 102 yX1_windOfStep, Cond.instanceMethod yX1_windOfStep, Cond.selects RX1 yX1_windOfStep yX1_windOfStep, Cond.code yX1_windOfStep cX1_windOfStep 3 (some .int), Cond.methodLink RX1 110 yX1_strike, Cond.instanceMethod yX1_strike, Cond.selects RX1 yX1_strike yX1_strike, Cond.code yX1_strike cX1_strike 4 none, Cond.methodLink RX1 120 yX1_squeak, Cond.instanceMethod yX1_squeak, Cond.selects RX1 yX1_squeak yX1_squeak, Cond.code yX1_squeak cX1_squeak 2 none, Cond.methodLink RX1 128 yX1_pluck, Cond.instanceMethod yX1_pluck, Cond.selects RX1 yX1_pluck yX1_pluck, Cond.code yX1_pluck cX1_pluck 3 none, Cond.methodLink RX2 215 yX2_outcome, Cond.instanceMethod yX2_outcome, Cond.selects RX2 yX2_outcome yX2_outcome, Cond.code yX2_outcome cX2_outcome 2 (some .int), Cond.methodLink RX2 294 yX1_teethBroken, Cond.methodLink RX2 218 yX2_fewestQuietVanes, Cond.instanceMethod yX2_fewestQuietVanes]
noncomputable def wsX2_digest_r9 : List Cond := [Cond.selects RX2 yX2_fewestQuietVanes yX2_fewestQuietVanes, Cond.code yX2_fewestQuietVanes cX2_fewestQuietVanes 2 (some .int), Cond.methodLink RX2 221 yX1_windOfSteps, Cond.instanceMethod yX1_windOfSteps, Cond.selects RX1 yX1_windOfSteps yX1_windOfSteps, Cond.code yX1_windOfSteps cX1_windOfSteps 6 (some .int), Cond.methodLink RX2 224 yX2_cleanShare, Cond.instanceMethod yX2_cleanShare, Cond.selects RX2 yX2_cleanShare yX2_cleanShare, Cond.code yX2_cleanShare cX2_cleanShare 1 (some .double), Cond.methodLink RX2 300 Lib.Math.max.name, Cond.methodLink RX2 247 yX2_bitsOfShare, Cond.static yX2_bitsOfShare, Cond.code yX2_bitsOfShare cX2_bitsOfShare 7 (some .long), Cond.constantLong RX2 303 (1023), Cond.constantDouble RX2 305 (4611686018427387904), Cond.constantDouble RX2 307 (4841369599423283200), Cond.methodLink RX2 251 yX2_mixedBuffer, Cond.instanceMethod yX2_mixedBuffer, Cond.selects RX2 yX2_mixedBuffer yX2_mixedBuffer, Cond.code yX2_mixedBuffer cX2_mixedBuffer 6 (some .long), Cond.fieldLink RX2 41 "PinCylinder" "bufferLength" "I", Cond.fieldLink RX2 37 "PinCylinder" "buffer" "[C"]
noncomputable def wsX2_digest : List Cond := .code yX2_digest cX2_digest 4 (some .long) :: ((wsX2_digest_r1 ++ (wsX2_digest_r2 ++ (wsX2_digest_r3 ++ (wsX2_digest_r4 ++ (wsX2_digest_r5 ++ (wsX2_digest_r6 ++ (wsX2_digest_r7 ++ (wsX2_digest_r8 ++ wsX2_digest_r9)))))))) ++ wsX20 ++ wsX10)
noncomputable def wsX3_init : List Cond := .code yX3_init cX3_init 1 none :: ([.methodLink RX3 1 objectInit, .instanceMethod objectInit, .code objectInit ⟨#[0xb1]⟩ 1 none, .arrayClass .int, .fieldLink RX3 7 "PinCylinderModel" "s" "[I", .fieldLink RX3 13 "PinCylinderModel" "aside" "[I", .fieldLink RX3 16 "PinCylinderModel" "saved" "[I", .fieldLink RX3 19 "PinCylinderModel" "snapshot" "[I", .fieldLink RX3 22 "PinCylinderModel" "text" "[I"] ++ wsX30)
noncomputable def wsX3_thrown : List Cond := .code yX3_thrown cX3_thrown 1 (some .int) :: ([.fieldLink RX3 25 "PinCylinderModel" "thrown" "I"] ++ wsX30)
noncomputable def wsX3_in : List Cond := .code yX3_in cX3_in 3 (some .boolean) :: ([])
noncomputable def wsX3_holds : List Cond := .code yX3_holds cX3_holds 2 (some .boolean) :: ([.fieldLink RX3 25 "PinCylinderModel" "thrown" "I"] ++ wsX30)
noncomputable def wsX3_isTune : List Cond := .code yX3_isTune cX3_isTune 1 (some .boolean) :: ([.methodLink RX3 29 yX3_in, .static yX3_in, .initialized RX3, .code yX3_in cX3_in 3 (some .boolean)])
noncomputable def wsX3_isTooth : List Cond := .code yX3_isTooth cX3_isTooth 1 (some .boolean) :: ([.methodLink RX3 29 yX3_in, .static yX3_in, .initialized RX3, .code yX3_in cX3_in 3 (some .boolean)])
noncomputable def wsX3_isStep : List Cond := .code yX3_isStep cX3_isStep 1 (some .boolean) :: ([.methodLink RX3 29 yX3_in, .static yX3_in, .initialized RX3, .code yX3_in cX3_in 3 (some .boolean)])
noncomputable def wsX3_areThere : List Cond := .code yX3_areThere cX3_areThere 3 (some .boolean) :: ([.methodLink RX3 33 yX3_isTune, .static yX3_isTune, .initialized RX3, .code yX3_isTune cX3_isTune 1 (some .boolean), .methodLink RX3 29 yX3_in, .static yX3_in, .code yX3_in cX3_in 3 (some .boolean), .methodLink RX3 37 yX3_isTooth, .static yX3_isTooth, .code yX3_isTooth cX3_isTooth 1 (some .boolean), .methodLink RX3 40 yX3_isStep, .static yX3_isStep, .code yX3_isStep cX3_isStep 1 (some .boolean)])
noncomputable def wsX3_ofPins : List Cond := .code yX3_ofPins cX3_ofPins 2 (some .int) :: ([])
noncomputable def wsX3_of : List Cond := .code yX3_of cX3_of 2 (some .int) :: ([])
noncomputable def wsX3_save : List Cond := .code yX3_save cX3_save 2 none :: ([.fieldLink RX3 43 "PinCylinderModel" "savedMany" "I", .fieldLink RX3 16 "PinCylinderModel" "saved" "[I", .fieldLink RX3 7 "PinCylinderModel" "s" "[I"] ++ wsX30)
noncomputable def wsX3_putAside : List Cond := .code yX3_putAside cX3_putAside 2 none :: ([.fieldLink RX3 13 "PinCylinderModel" "aside" "[I", .fieldLink RX3 7 "PinCylinderModel" "s" "[I"] ++ wsX30)
noncomputable def wsX3_putBack : List Cond := .code yX3_putBack cX3_putBack 2 none :: ([.fieldLink RX3 7 "PinCylinderModel" "s" "[I", .fieldLink RX3 13 "PinCylinderModel" "aside" "[I"] ++ wsX30)
noncomputable def wsX3_isPin : List Cond := .code yX3_isPin cX3_isPin 4 (some .boolean) :: ([.fieldLink RX3 7 "PinCylinderModel" "s" "[I", .methodLink RX3 46 yX3_ofPins, .static yX3_ofPins, .initialized RX3, .code yX3_ofPins cX3_ofPins 2 (some .int)] ++ wsX30)
noncomputable def wsX3_pinsAt : List Cond := .code yX3_pinsAt cX3_pinsAt 5 (some .int) :: ([.methodLink RX3 50 yX3_isPin, .instanceMethod yX3_isPin, .selects RX3 yX3_isPin yX3_isPin, .initialized RX3, .code yX3_isPin cX3_isPin 4 (some .boolean), .fieldLink RX3 7 "PinCylinderModel" "s" "[I", .methodLink RX3 46 yX3_ofPins, .static yX3_ofPins, .code yX3_ofPins cX3_ofPins 2 (some .int)] ++ wsX30)
noncomputable def wsX3_ones : List Cond := .code yX3_ones cX3_ones 3 (some .int) :: ([])
noncomputable def wsX3_isNear : List Cond := .code yX3_isNear cX3_isNear 6 (some .boolean) :: ([.fieldLink RX3 7 "PinCylinderModel" "s" "[I", .methodLink RX3 50 yX3_isPin, .instanceMethod yX3_isPin, .selects RX3 yX3_isPin yX3_isPin, .initialized RX3, .code yX3_isPin cX3_isPin 4 (some .boolean), .methodLink RX3 46 yX3_ofPins, .static yX3_ofPins, .code yX3_ofPins cX3_ofPins 2 (some .int)] ++ wsX30)
noncomputable def wsX3_hindrance : List Cond := .code yX3_hindrance cX3_hindrance 4 (some .int) :: ([.fieldLink RX3 7 "PinCylinderModel" "s" "[I", .methodLink RX3 50 yX3_isPin, .instanceMethod yX3_isPin, .selects RX3 yX3_isPin yX3_isPin, .initialized RX3, .code yX3_isPin cX3_isPin 4 (some .boolean), .methodLink RX3 46 yX3_ofPins, .static yX3_ofPins, .code yX3_ofPins cX3_ofPins 2 (some .int), .methodLink RX3 53 yX3_isNear, .instanceMethod yX3_isNear, .selects RX3 yX3_isNear yX3_isNear, .code yX3_isNear cX3_isNear 6 (some .boolean), .methodLink RX3 56 yX3_pinsAt, .instanceMethod yX3_pinsAt, .selects RX3 yX3_pinsAt yX3_pinsAt, .code yX3_pinsAt cX3_pinsAt 5 (some .int), .methodLink RX3 59 yX3_ones, .static yX3_ones, .code yX3_ones cX3_ones 3 (some .int)] ++ wsX30)
noncomputable def wsX3_pinsOf : List Cond := .code yX3_pinsOf cX3_pinsOf 4 (some .int) :: ([.fieldLink RX3 7 "PinCylinderModel" "s" "[I", .methodLink RX3 46 yX3_ofPins, .static yX3_ofPins, .initialized RX3, .code yX3_ofPins cX3_ofPins 2 (some .int), .methodLink RX3 59 yX3_ones, .static yX3_ones, .code yX3_ones cX3_ones 3 (some .int)] ++ wsX30)
noncomputable def wsX3_allPins : List Cond := .code yX3_allPins cX3_allPins 1 (some .int) :: ([.methodLink RX3 63 yX3_pinsOf, .instanceMethod yX3_pinsOf, .selects RX3 yX3_pinsOf yX3_pinsOf, .initialized RX3, .code yX3_pinsOf cX3_pinsOf 4 (some .int), .fieldLink RX3 7 "PinCylinderModel" "s" "[I", .methodLink RX3 46 yX3_ofPins, .static yX3_ofPins, .code yX3_ofPins cX3_ofPins 2 (some .int), .methodLink RX3 59 yX3_ones, .static yX3_ones, .code yX3_ones cX3_ones 3 (some .int)] ++ wsX30)
noncomputable def wsX3_pin_r1 : List Cond := [Cond.fieldLink RX3 7 "PinCylinderModel" "s" "[I", Cond.methodLink RX3 66 yX3_areThere, Cond.static yX3_areThere, Cond.initialized RX3, Cond.code yX3_areThere cX3_areThere 3 (some .boolean), Cond.methodLink RX3 33 yX3_isTune, Cond.static yX3_isTune, Cond.code yX3_isTune cX3_isTune 1 (some .boolean), Cond.methodLink RX3 29 yX3_in, Cond.static yX3_in, Cond.code yX3_in cX3_in 3 (some .boolean), Cond.methodLink RX3 37 yX3_isTooth, Cond.static yX3_isTooth, Cond.code yX3_isTooth cX3_isTooth 1 (some .boolean), Cond.methodLink RX3 40 yX3_isStep, Cond.static yX3_isStep, Cond.code yX3_isStep cX3_isStep 1 (some .boolean), Cond.methodLink RX3 69 yX3_hindrance, Cond.instanceMethod yX3_hindrance, Cond.selects RX3 yX3_hindrance yX3_hindrance, Cond.code yX3_hindrance cX3_hindrance 4 (some .int), Cond.methodLink RX3 50 yX3_isPin, Cond.instanceMethod yX3_isPin, Cond.selects RX3 yX3_isPin yX3_isPin]
noncomputable def wsX3_pin_r2 : List Cond := [Cond.code yX3_isPin cX3_isPin 4 (some .boolean), Cond.methodLink RX3 46 yX3_ofPins, Cond.static yX3_ofPins, Cond.code yX3_ofPins cX3_ofPins 2 (some .int), Cond.methodLink RX3 53 yX3_isNear, Cond.instanceMethod yX3_isNear, Cond.selects RX3 yX3_isNear yX3_isNear, Cond.code yX3_isNear cX3_isNear 6 (some .boolean), Cond.methodLink RX3 56 yX3_pinsAt, Cond.instanceMethod yX3_pinsAt, Cond.selects RX3 yX3_pinsAt yX3_pinsAt, Cond.code yX3_pinsAt cX3_pinsAt 5 (some .int), Cond.methodLink RX3 59 yX3_ones, Cond.static yX3_ones, Cond.code yX3_ones cX3_ones 3 (some .int), Cond.methodLink RX3 73 yX3_holds, Cond.instanceMethod yX3_holds, Cond.selects RX3 yX3_holds yX3_holds, Cond.code yX3_holds cX3_holds 2 (some .boolean), Cond.fieldLink RX3 25 "PinCylinderModel" "thrown" "I", Cond.methodLink RX3 76 yX3_save, Cond.instanceMethod yX3_save, Cond.selects RX3 yX3_save yX3_save, Cond.code yX3_save cX3_save 2 none]
noncomputable def wsX3_pin_r3 : List Cond := [Cond.fieldLink RX3 43 "PinCylinderModel" "savedMany" "I", Cond.fieldLink RX3 16 "PinCylinderModel" "saved" "[I", Cond.methodLink RX3 63 yX3_pinsOf, Cond.instanceMethod yX3_pinsOf, Cond.selects RX3 yX3_pinsOf yX3_pinsOf, Cond.code yX3_pinsOf cX3_pinsOf 4 (some .int)]
noncomputable def wsX3_pin : List Cond := .code yX3_pin cX3_pin 4 (some .int) :: ((wsX3_pin_r1 ++ (wsX3_pin_r2 ++ wsX3_pin_r3)) ++ wsX30)
noncomputable def wsX3_pull_r1 : List Cond := [Cond.fieldLink RX3 7 "PinCylinderModel" "s" "[I", Cond.methodLink RX3 66 yX3_areThere, Cond.static yX3_areThere, Cond.initialized RX3, Cond.code yX3_areThere cX3_areThere 3 (some .boolean), Cond.methodLink RX3 33 yX3_isTune, Cond.static yX3_isTune, Cond.code yX3_isTune cX3_isTune 1 (some .boolean), Cond.methodLink RX3 29 yX3_in, Cond.static yX3_in, Cond.code yX3_in cX3_in 3 (some .boolean), Cond.methodLink RX3 37 yX3_isTooth, Cond.static yX3_isTooth, Cond.code yX3_isTooth cX3_isTooth 1 (some .boolean), Cond.methodLink RX3 40 yX3_isStep, Cond.static yX3_isStep, Cond.code yX3_isStep cX3_isStep 1 (some .boolean), Cond.methodLink RX3 73 yX3_holds, Cond.instanceMethod yX3_holds, Cond.selects RX3 yX3_holds yX3_holds, Cond.code yX3_holds cX3_holds 2 (some .boolean), Cond.fieldLink RX3 25 "PinCylinderModel" "thrown" "I", Cond.methodLink RX3 76 yX3_save, Cond.instanceMethod yX3_save]
noncomputable def wsX3_pull_r2 : List Cond := [Cond.selects RX3 yX3_save yX3_save, Cond.code yX3_save cX3_save 2 none, Cond.fieldLink RX3 43 "PinCylinderModel" "savedMany" "I", Cond.fieldLink RX3 16 "PinCylinderModel" "saved" "[I", Cond.methodLink RX3 50 yX3_isPin, Cond.instanceMethod yX3_isPin, Cond.selects RX3 yX3_isPin yX3_isPin, Cond.code yX3_isPin cX3_isPin 4 (some .boolean), Cond.methodLink RX3 46 yX3_ofPins, Cond.static yX3_ofPins, Cond.code yX3_ofPins cX3_ofPins 2 (some .int)]
noncomputable def wsX3_pull : List Cond := .code yX3_pull cX3_pull 7 (some .int) :: ((wsX3_pull_r1 ++ wsX3_pull_r2) ++ wsX30)
noncomputable def wsX3_copy_r1 : List Cond := [Cond.fieldLink RX3 7 "PinCylinderModel" "s" "[I", Cond.methodLink RX3 29 yX3_in, Cond.static yX3_in, Cond.initialized RX3, Cond.code yX3_in cX3_in 3 (some .boolean), Cond.methodLink RX3 33 yX3_isTune, Cond.static yX3_isTune, Cond.code yX3_isTune cX3_isTune 1 (some .boolean), Cond.methodLink RX3 73 yX3_holds, Cond.instanceMethod yX3_holds, Cond.selects RX3 yX3_holds yX3_holds, Cond.code yX3_holds cX3_holds 2 (some .boolean), Cond.fieldLink RX3 25 "PinCylinderModel" "thrown" "I", Cond.methodLink RX3 76 yX3_save, Cond.instanceMethod yX3_save, Cond.selects RX3 yX3_save yX3_save, Cond.code yX3_save cX3_save 2 none, Cond.fieldLink RX3 43 "PinCylinderModel" "savedMany" "I", Cond.fieldLink RX3 16 "PinCylinderModel" "saved" "[I", Cond.methodLink RX3 46 yX3_ofPins, Cond.static yX3_ofPins, Cond.code yX3_ofPins cX3_ofPins 2 (some .int), Cond.methodLink RX3 50 yX3_isPin, Cond.instanceMethod yX3_isPin]
noncomputable def wsX3_copy_r2 : List Cond := [Cond.selects RX3 yX3_isPin yX3_isPin, Cond.code yX3_isPin cX3_isPin 4 (some .boolean), Cond.methodLink RX3 37 yX3_isTooth, Cond.static yX3_isTooth, Cond.code yX3_isTooth cX3_isTooth 1 (some .boolean), Cond.methodLink RX3 63 yX3_pinsOf, Cond.instanceMethod yX3_pinsOf, Cond.selects RX3 yX3_pinsOf yX3_pinsOf, Cond.code yX3_pinsOf cX3_pinsOf 4 (some .int), Cond.methodLink RX3 59 yX3_ones, Cond.static yX3_ones, Cond.code yX3_ones cX3_ones 3 (some .int)]
noncomputable def wsX3_copy : List Cond := .code yX3_copy cX3_copy 9 (some .int) :: ((wsX3_copy_r1 ++ wsX3_copy_r2) ++ wsX30)
noncomputable def wsX3_nextStep : List Cond := .code yX3_nextStep cX3_nextStep 1 (some .int) :: ([.fieldLink RX3 7 "PinCylinderModel" "s" "[I"] ++ wsX30)
noncomputable def wsX3_nextTune : List Cond := .code yX3_nextTune cX3_nextTune 1 (some .int) :: ([.fieldLink RX3 7 "PinCylinderModel" "s" "[I", .methodLink RX3 79 yX3_nextStep, .instanceMethod yX3_nextStep, .selects RX3 yX3_nextStep yX3_nextStep, .initialized RX3, .code yX3_nextStep cX3_nextStep 1 (some .int)] ++ wsX30)
noncomputable def wsX3_need : List Cond := .code yX3_need cX3_need 3 (some .int) :: ([.fieldLink RX3 7 "PinCylinderModel" "s" "[I", .methodLink RX3 83 yX3_nextTune, .instanceMethod yX3_nextTune, .selects RX3 yX3_nextTune yX3_nextTune, .initialized RX3, .code yX3_nextTune cX3_nextTune 1 (some .int), .methodLink RX3 79 yX3_nextStep, .instanceMethod yX3_nextStep, .selects RX3 yX3_nextStep yX3_nextStep, .code yX3_nextStep cX3_nextStep 1 (some .int), .methodLink RX3 50 yX3_isPin, .instanceMethod yX3_isPin, .selects RX3 yX3_isPin yX3_isPin, .code yX3_isPin cX3_isPin 4 (some .boolean), .methodLink RX3 46 yX3_ofPins, .static yX3_ofPins, .code yX3_ofPins cX3_ofPins 2 (some .int), .methodLink RX3 86 yX3_of, .static yX3_of, .code yX3_of cX3_of 2 (some .int)] ++ wsX30)
noncomputable def wsX3_sounds : List Cond := .code yX3_sounds cX3_sounds 4 none :: ([.fieldLink RX3 7 "PinCylinderModel" "s" "[I", .methodLink RX3 86 yX3_of, .static yX3_of, .initialized RX3, .code yX3_of cX3_of 2 (some .int)] ++ wsX30)
noncomputable def wsX3_plucks : List Cond := .code yX3_plucks cX3_plucks 4 none :: ([.fieldLink RX3 7 "PinCylinderModel" "s" "[I", .methodLink RX3 86 yX3_of, .static yX3_of, .initialized RX3, .code yX3_of cX3_of 2 (some .int), .methodLink RX3 89 yX3_sounds, .instanceMethod yX3_sounds, .selects RX3 yX3_sounds yX3_sounds, .code yX3_sounds cX3_sounds 4 none] ++ wsX30)
noncomputable def wsX3_goes_r1 : List Cond := [Cond.fieldLink RX3 7 "PinCylinderModel" "s" "[I", Cond.methodLink RX3 93 yX3_need, Cond.instanceMethod yX3_need, Cond.selects RX3 yX3_need yX3_need, Cond.initialized RX3, Cond.code yX3_need cX3_need 3 (some .int), Cond.methodLink RX3 83 yX3_nextTune, Cond.instanceMethod yX3_nextTune, Cond.selects RX3 yX3_nextTune yX3_nextTune, Cond.code yX3_nextTune cX3_nextTune 1 (some .int), Cond.methodLink RX3 79 yX3_nextStep, Cond.instanceMethod yX3_nextStep, Cond.selects RX3 yX3_nextStep yX3_nextStep, Cond.code yX3_nextStep cX3_nextStep 1 (some .int), Cond.methodLink RX3 50 yX3_isPin, Cond.instanceMethod yX3_isPin, Cond.selects RX3 yX3_isPin yX3_isPin, Cond.code yX3_isPin cX3_isPin 4 (some .boolean), Cond.methodLink RX3 46 yX3_ofPins, Cond.static yX3_ofPins, Cond.code yX3_ofPins cX3_ofPins 2 (some .int), Cond.methodLink RX3 86 yX3_of, Cond.static yX3_of, Cond.code yX3_of cX3_of 2 (some .int)]
noncomputable def wsX3_goes_r2 : List Cond := [Cond.methodLink RX3 96 yX3_plucks, Cond.instanceMethod yX3_plucks, Cond.selects RX3 yX3_plucks yX3_plucks, Cond.code yX3_plucks cX3_plucks 4 none, Cond.methodLink RX3 89 yX3_sounds, Cond.instanceMethod yX3_sounds, Cond.selects RX3 yX3_sounds yX3_sounds, Cond.code yX3_sounds cX3_sounds 4 none]
noncomputable def wsX3_goes : List Cond := .code yX3_goes cX3_goes 4 (some .boolean) :: ((wsX3_goes_r1 ++ wsX3_goes_r2) ++ wsX30)
noncomputable def wsX3_goesOn_r1 : List Cond := [Cond.methodLink RX3 100 yX3_goes, Cond.instanceMethod yX3_goes, Cond.selects RX3 yX3_goes yX3_goes, Cond.initialized RX3, Cond.code yX3_goes cX3_goes 4 (some .boolean), Cond.fieldLink RX3 7 "PinCylinderModel" "s" "[I", Cond.methodLink RX3 93 yX3_need, Cond.instanceMethod yX3_need, Cond.selects RX3 yX3_need yX3_need, Cond.code yX3_need cX3_need 3 (some .int), Cond.methodLink RX3 83 yX3_nextTune, Cond.instanceMethod yX3_nextTune, Cond.selects RX3 yX3_nextTune yX3_nextTune, Cond.code yX3_nextTune cX3_nextTune 1 (some .int), Cond.methodLink RX3 79 yX3_nextStep, Cond.instanceMethod yX3_nextStep, Cond.selects RX3 yX3_nextStep yX3_nextStep, Cond.code yX3_nextStep cX3_nextStep 1 (some .int), Cond.methodLink RX3 50 yX3_isPin, Cond.instanceMethod yX3_isPin, Cond.selects RX3 yX3_isPin yX3_isPin, Cond.code yX3_isPin cX3_isPin 4 (some .boolean), Cond.methodLink RX3 46 yX3_ofPins, Cond.static yX3_ofPins]
noncomputable def wsX3_goesOn_r2 : List Cond := [Cond.code yX3_ofPins cX3_ofPins 2 (some .int), Cond.methodLink RX3 86 yX3_of, Cond.static yX3_of, Cond.code yX3_of cX3_of 2 (some .int), Cond.methodLink RX3 96 yX3_plucks, Cond.instanceMethod yX3_plucks, Cond.selects RX3 yX3_plucks yX3_plucks, Cond.code yX3_plucks cX3_plucks 4 none, Cond.methodLink RX3 89 yX3_sounds, Cond.instanceMethod yX3_sounds, Cond.selects RX3 yX3_sounds yX3_sounds, Cond.code yX3_sounds cX3_sounds 4 none]
noncomputable def wsX3_goesOn : List Cond := .code yX3_goesOn cX3_goesOn 3 (some .int) :: ((wsX3_goesOn_r1 ++ wsX3_goesOn_r2) ++ wsX30)
noncomputable def wsX3_wind : List Cond := .code yX3_wind cX3_wind 2 (some .int) :: ([.fieldLink RX3 7 "PinCylinderModel" "s" "[I", .methodLink RX3 29 yX3_in, .static yX3_in, .initialized RX3, .code yX3_in cX3_in 3 (some .boolean), .methodLink RX3 73 yX3_holds, .instanceMethod yX3_holds, .selects RX3 yX3_holds yX3_holds, .code yX3_holds cX3_holds 2 (some .boolean), .fieldLink RX3 25 "PinCylinderModel" "thrown" "I", .methodLink RX3 76 yX3_save, .instanceMethod yX3_save, .selects RX3 yX3_save yX3_save, .code yX3_save cX3_save 2 none, .fieldLink RX3 43 "PinCylinderModel" "savedMany" "I", .fieldLink RX3 16 "PinCylinderModel" "saved" "[I"] ++ wsX30)
noncomputable def wsX3_becomes : List Cond := .code yX3_becomes cX3_becomes 4 (some .int) :: ([.fieldLink RX3 7 "PinCylinderModel" "s" "[I", .methodLink RX3 76 yX3_save, .instanceMethod yX3_save, .selects RX3 yX3_save yX3_save, .initialized RX3, .code yX3_save cX3_save 2 none, .fieldLink RX3 43 "PinCylinderModel" "savedMany" "I", .fieldLink RX3 16 "PinCylinderModel" "saved" "[I"] ++ wsX30)
noncomputable def wsX3_vanes : List Cond := .code yX3_vanes cX3_vanes 2 (some .int) :: ([.methodLink RX3 29 yX3_in, .static yX3_in, .initialized RX3, .code yX3_in cX3_in 3 (some .boolean), .methodLink RX3 73 yX3_holds, .instanceMethod yX3_holds, .selects RX3 yX3_holds yX3_holds, .code yX3_holds cX3_holds 2 (some .boolean), .fieldLink RX3 25 "PinCylinderModel" "thrown" "I", .methodLink RX3 104 yX3_becomes, .instanceMethod yX3_becomes, .selects RX3 yX3_becomes yX3_becomes, .code yX3_becomes cX3_becomes 4 (some .int), .fieldLink RX3 7 "PinCylinderModel" "s" "[I", .methodLink RX3 76 yX3_save, .instanceMethod yX3_save, .selects RX3 yX3_save yX3_save, .code yX3_save cX3_save 2 none, .fieldLink RX3 43 "PinCylinderModel" "savedMany" "I", .fieldLink RX3 16 "PinCylinderModel" "saved" "[I"] ++ wsX30)
noncomputable def wsX3_shift : List Cond := .code yX3_shift cX3_shift 2 (some .int) :: ([.methodLink RX3 33 yX3_isTune, .static yX3_isTune, .initialized RX3, .code yX3_isTune cX3_isTune 1 (some .boolean), .methodLink RX3 29 yX3_in, .static yX3_in, .code yX3_in cX3_in 3 (some .boolean), .methodLink RX3 73 yX3_holds, .instanceMethod yX3_holds, .selects RX3 yX3_holds yX3_holds, .code yX3_holds cX3_holds 2 (some .boolean), .fieldLink RX3 25 "PinCylinderModel" "thrown" "I", .methodLink RX3 104 yX3_becomes, .instanceMethod yX3_becomes, .selects RX3 yX3_becomes yX3_becomes, .code yX3_becomes cX3_becomes 4 (some .int), .fieldLink RX3 7 "PinCylinderModel" "s" "[I", .methodLink RX3 76 yX3_save, .instanceMethod yX3_save, .selects RX3 yX3_save yX3_save, .code yX3_save cX3_save 2 none, .fieldLink RX3 43 "PinCylinderModel" "savedMany" "I", .fieldLink RX3 16 "PinCylinderModel" "saved" "[I"] ++ wsX30)
noncomputable def wsX3_play_r1 : List Cond := [Cond.methodLink RX3 29 yX3_in, Cond.static yX3_in, Cond.initialized RX3, Cond.code yX3_in cX3_in 3 (some .boolean), Cond.methodLink RX3 73 yX3_holds, Cond.instanceMethod yX3_holds, Cond.selects RX3 yX3_holds yX3_holds, Cond.code yX3_holds cX3_holds 2 (some .boolean), Cond.fieldLink RX3 25 "PinCylinderModel" "thrown" "I", Cond.methodLink RX3 76 yX3_save, Cond.instanceMethod yX3_save, Cond.selects RX3 yX3_save yX3_save, Cond.code yX3_save cX3_save 2 none, Cond.fieldLink RX3 43 "PinCylinderModel" "savedMany" "I", Cond.fieldLink RX3 16 "PinCylinderModel" "saved" "[I", Cond.fieldLink RX3 7 "PinCylinderModel" "s" "[I", Cond.methodLink RX3 107 yX3_goesOn, Cond.instanceMethod yX3_goesOn, Cond.selects RX3 yX3_goesOn yX3_goesOn, Cond.code yX3_goesOn cX3_goesOn 3 (some .int), Cond.methodLink RX3 100 yX3_goes, Cond.instanceMethod yX3_goes, Cond.selects RX3 yX3_goes yX3_goes, Cond.code yX3_goes cX3_goes 4 (some .boolean)]
noncomputable def wsX3_play_r2 : List Cond := [Cond.methodLink RX3 93 yX3_need, Cond.instanceMethod yX3_need, Cond.selects RX3 yX3_need yX3_need, Cond.code yX3_need cX3_need 3 (some .int), Cond.methodLink RX3 83 yX3_nextTune, Cond.instanceMethod yX3_nextTune, Cond.selects RX3 yX3_nextTune yX3_nextTune, Cond.code yX3_nextTune cX3_nextTune 1 (some .int), Cond.methodLink RX3 79 yX3_nextStep, Cond.instanceMethod yX3_nextStep, Cond.selects RX3 yX3_nextStep yX3_nextStep, Cond.code yX3_nextStep cX3_nextStep 1 (some .int), Cond.methodLink RX3 50 yX3_isPin, Cond.instanceMethod yX3_isPin, Cond.selects RX3 yX3_isPin yX3_isPin, Cond.code yX3_isPin cX3_isPin 4 (some .boolean), Cond.methodLink RX3 46 yX3_ofPins, Cond.static yX3_ofPins, Cond.code yX3_ofPins cX3_ofPins 2 (some .int), Cond.methodLink RX3 86 yX3_of, Cond.static yX3_of, Cond.code yX3_of cX3_of 2 (some .int), Cond.methodLink RX3 96 yX3_plucks, Cond.instanceMethod yX3_plucks]
noncomputable def wsX3_play_r3 : List Cond := [Cond.selects RX3 yX3_plucks yX3_plucks, Cond.code yX3_plucks cX3_plucks 4 none, Cond.methodLink RX3 89 yX3_sounds, Cond.instanceMethod yX3_sounds, Cond.selects RX3 yX3_sounds yX3_sounds, Cond.code yX3_sounds cX3_sounds 4 none]
noncomputable def wsX3_play : List Cond := .code yX3_play cX3_play 2 (some .int) :: ((wsX3_play_r1 ++ (wsX3_play_r2 ++ wsX3_play_r3)) ++ wsX30)
noncomputable def wsX3_mend_r1 : List Cond := [Cond.fieldLink RX3 7 "PinCylinderModel" "s" "[I", Cond.methodLink RX3 37 yX3_isTooth, Cond.static yX3_isTooth, Cond.initialized RX3, Cond.code yX3_isTooth cX3_isTooth 1 (some .boolean), Cond.methodLink RX3 29 yX3_in, Cond.static yX3_in, Cond.code yX3_in cX3_in 3 (some .boolean), Cond.methodLink RX3 73 yX3_holds, Cond.instanceMethod yX3_holds, Cond.selects RX3 yX3_holds yX3_holds, Cond.code yX3_holds cX3_holds 2 (some .boolean), Cond.fieldLink RX3 25 "PinCylinderModel" "thrown" "I", Cond.methodLink RX3 86 yX3_of, Cond.static yX3_of, Cond.code yX3_of cX3_of 2 (some .int), Cond.methodLink RX3 104 yX3_becomes, Cond.instanceMethod yX3_becomes, Cond.selects RX3 yX3_becomes yX3_becomes, Cond.code yX3_becomes cX3_becomes 4 (some .int), Cond.methodLink RX3 76 yX3_save, Cond.instanceMethod yX3_save, Cond.selects RX3 yX3_save yX3_save, Cond.code yX3_save cX3_save 2 none]
noncomputable def wsX3_mend_r2 : List Cond := [Cond.fieldLink RX3 43 "PinCylinderModel" "savedMany" "I", Cond.fieldLink RX3 16 "PinCylinderModel" "saved" "[I"]
noncomputable def wsX3_mend : List Cond := .code yX3_mend cX3_mend 3 (some .int) :: ((wsX3_mend_r1 ++ wsX3_mend_r2) ++ wsX30)
noncomputable def wsX3_isValue : List Cond := .code yX3_isValue cX3_isValue 2 (some .boolean) :: ([.methodLink RX3 29 yX3_in, .static yX3_in, .initialized RX3, .code yX3_in cX3_in 3 (some .boolean)])
noncomputable def wsX3_set : List Cond := .code yX3_set cX3_set 3 (some .int) :: ([.methodLink RX3 29 yX3_in, .static yX3_in, .initialized RX3, .code yX3_in cX3_in 3 (some .boolean), .methodLink RX3 110 yX3_isValue, .static yX3_isValue, .code yX3_isValue cX3_isValue 2 (some .boolean), .methodLink RX3 73 yX3_holds, .instanceMethod yX3_holds, .selects RX3 yX3_holds yX3_holds, .code yX3_holds cX3_holds 2 (some .boolean), .fieldLink RX3 25 "PinCylinderModel" "thrown" "I", .methodLink RX3 104 yX3_becomes, .instanceMethod yX3_becomes, .selects RX3 yX3_becomes yX3_becomes, .code yX3_becomes cX3_becomes 4 (some .int), .fieldLink RX3 7 "PinCylinderModel" "s" "[I", .methodLink RX3 76 yX3_save, .instanceMethod yX3_save, .selects RX3 yX3_save yX3_save, .code yX3_save cX3_save 2 none, .fieldLink RX3 43 "PinCylinderModel" "savedMany" "I", .fieldLink RX3 16 "PinCylinderModel" "saved" "[I"] ++ wsX30)
noncomputable def wsX3_append : List Cond := .code yX3_append cX3_append 2 (some .int) :: ([.fieldLink RX3 114 "PinCylinderModel" "length" "I", .fieldLink RX3 22 "PinCylinderModel" "text" "[I", .methodLink RX3 29 yX3_in, .static yX3_in, .initialized RX3, .code yX3_in cX3_in 3 (some .boolean), .methodLink RX3 73 yX3_holds, .instanceMethod yX3_holds, .selects RX3 yX3_holds yX3_holds, .code yX3_holds cX3_holds 2 (some .boolean), .fieldLink RX3 25 "PinCylinderModel" "thrown" "I"] ++ wsX30)
noncomputable def wsX3_clearBuffer : List Cond := .code yX3_clearBuffer cX3_clearBuffer 2 (some .int) :: ([.fieldLink RX3 25 "PinCylinderModel" "thrown" "I", .fieldLink RX3 114 "PinCylinderModel" "length" "I"] ++ wsX30)
noncomputable def wsX3_isNext : List Cond := .code yX3_isNext cX3_isNext 3 (some .boolean) :: ([.fieldLink RX3 117 "PinCylinderModel" "isWrong" "Z", .fieldLink RX3 121 "PinCylinderModel" "spot" "I", .fieldLink RX3 114 "PinCylinderModel" "length" "I", .fieldLink RX3 22 "PinCylinderModel" "text" "[I", .methodLink RX3 29 yX3_in, .static yX3_in, .initialized RX3, .code yX3_in cX3_in 3 (some .boolean)] ++ wsX30)
noncomputable def wsX3_takes : List Cond := .code yX3_takes cX3_takes 5 (some .int) :: ([.fieldLink RX3 22 "PinCylinderModel" "text" "[I", .fieldLink RX3 121 "PinCylinderModel" "spot" "I", .fieldLink RX3 117 "PinCylinderModel" "isWrong" "Z", .methodLink RX3 124 yX3_isNext, .instanceMethod yX3_isNext, .selects RX3 yX3_isNext yX3_isNext, .initialized RX3, .code yX3_isNext cX3_isNext 3 (some .boolean), .fieldLink RX3 114 "PinCylinderModel" "length" "I", .methodLink RX3 29 yX3_in, .static yX3_in, .code yX3_in cX3_in 3 (some .boolean)] ++ wsX30)
noncomputable def wsX3_begins : List Cond := .code yX3_begins cX3_begins 3 (some .boolean) :: ([.methodLink RX3 29 yX3_in, .static yX3_in, .initialized RX3, .code yX3_in cX3_in 3 (some .boolean)])
noncomputable def wsX3_number : List Cond := .code yX3_number cX3_number 4 (some .int) :: ([.fieldLink RX3 22 "PinCylinderModel" "text" "[I", .fieldLink RX3 121 "PinCylinderModel" "spot" "I", .fieldLink RX3 117 "PinCylinderModel" "isWrong" "Z", .methodLink RX3 124 yX3_isNext, .instanceMethod yX3_isNext, .selects RX3 yX3_isNext yX3_isNext, .initialized RX3, .code yX3_isNext cX3_isNext 3 (some .boolean), .fieldLink RX3 114 "PinCylinderModel" "length" "I", .methodLink RX3 29 yX3_in, .static yX3_in, .code yX3_in cX3_in 3 (some .boolean), .methodLink RX3 127 yX3_begins, .static yX3_begins, .code yX3_begins cX3_begins 3 (some .boolean)] ++ wsX30)
noncomputable def wsX3_readSteps_r1 : List Cond := [Cond.fieldLink RX3 121 "PinCylinderModel" "spot" "I", Cond.fieldLink RX3 7 "PinCylinderModel" "s" "[I", Cond.fieldLink RX3 133 "PinCylinderModel" "wereSet" "I", Cond.methodLink RX3 130 yX3_number, Cond.instanceMethod yX3_number, Cond.selects RX3 yX3_number yX3_number, Cond.initialized RX3, Cond.code yX3_number cX3_number 4 (some .int), Cond.fieldLink RX3 22 "PinCylinderModel" "text" "[I", Cond.fieldLink RX3 117 "PinCylinderModel" "isWrong" "Z", Cond.methodLink RX3 124 yX3_isNext, Cond.instanceMethod yX3_isNext, Cond.selects RX3 yX3_isNext yX3_isNext, Cond.code yX3_isNext cX3_isNext 3 (some .boolean), Cond.fieldLink RX3 114 "PinCylinderModel" "length" "I", Cond.methodLink RX3 29 yX3_in, Cond.static yX3_in, Cond.code yX3_in cX3_in 3 (some .boolean), Cond.methodLink RX3 127 yX3_begins, Cond.static yX3_begins, Cond.code yX3_begins cX3_begins 3 (some .boolean), Cond.methodLink RX3 69 yX3_hindrance, Cond.instanceMethod yX3_hindrance, Cond.selects RX3 yX3_hindrance yX3_hindrance]
noncomputable def wsX3_readSteps_r2 : List Cond := [Cond.code yX3_hindrance cX3_hindrance 4 (some .int), Cond.methodLink RX3 50 yX3_isPin, Cond.instanceMethod yX3_isPin, Cond.selects RX3 yX3_isPin yX3_isPin, Cond.code yX3_isPin cX3_isPin 4 (some .boolean), Cond.methodLink RX3 46 yX3_ofPins, Cond.static yX3_ofPins, Cond.code yX3_ofPins cX3_ofPins 2 (some .int), Cond.methodLink RX3 53 yX3_isNear, Cond.instanceMethod yX3_isNear, Cond.selects RX3 yX3_isNear yX3_isNear, Cond.code yX3_isNear cX3_isNear 6 (some .boolean), Cond.methodLink RX3 56 yX3_pinsAt, Cond.instanceMethod yX3_pinsAt, Cond.selects RX3 yX3_pinsAt yX3_pinsAt, Cond.code yX3_pinsAt cX3_pinsAt 5 (some .int), Cond.methodLink RX3 59 yX3_ones, Cond.static yX3_ones, Cond.code yX3_ones cX3_ones 3 (some .int)]
noncomputable def wsX3_readSteps : List Cond := .code yX3_readSteps cX3_readSteps 7 none :: ((wsX3_readSteps_r1 ++ wsX3_readSteps_r2) ++ wsX30)
noncomputable def wsX3_readPart_r1 : List Cond := [Cond.fieldLink RX3 121 "PinCylinderModel" "spot" "I", Cond.methodLink RX3 136 yX3_takes, Cond.instanceMethod yX3_takes, Cond.selects RX3 yX3_takes yX3_takes, Cond.initialized RX3, Cond.code yX3_takes cX3_takes 5 (some .int), Cond.fieldLink RX3 22 "PinCylinderModel" "text" "[I", Cond.fieldLink RX3 117 "PinCylinderModel" "isWrong" "Z", Cond.methodLink RX3 124 yX3_isNext, Cond.instanceMethod yX3_isNext, Cond.selects RX3 yX3_isNext yX3_isNext, Cond.code yX3_isNext cX3_isNext 3 (some .boolean), Cond.fieldLink RX3 114 "PinCylinderModel" "length" "I", Cond.methodLink RX3 29 yX3_in, Cond.static yX3_in, Cond.code yX3_in cX3_in 3 (some .boolean), Cond.methodLink RX3 130 yX3_number, Cond.instanceMethod yX3_number, Cond.selects RX3 yX3_number yX3_number, Cond.code yX3_number cX3_number 4 (some .int), Cond.methodLink RX3 127 yX3_begins, Cond.static yX3_begins, Cond.code yX3_begins cX3_begins 3 (some .boolean), Cond.methodLink RX3 139 yX3_readSteps]
noncomputable def wsX3_readPart_r2 : List Cond := [Cond.instanceMethod yX3_readSteps, Cond.selects RX3 yX3_readSteps yX3_readSteps, Cond.code yX3_readSteps cX3_readSteps 7 none, Cond.fieldLink RX3 7 "PinCylinderModel" "s" "[I", Cond.fieldLink RX3 133 "PinCylinderModel" "wereSet" "I", Cond.methodLink RX3 69 yX3_hindrance, Cond.instanceMethod yX3_hindrance, Cond.selects RX3 yX3_hindrance yX3_hindrance, Cond.code yX3_hindrance cX3_hindrance 4 (some .int), Cond.methodLink RX3 50 yX3_isPin, Cond.instanceMethod yX3_isPin, Cond.selects RX3 yX3_isPin yX3_isPin, Cond.code yX3_isPin cX3_isPin 4 (some .boolean), Cond.methodLink RX3 46 yX3_ofPins, Cond.static yX3_ofPins, Cond.code yX3_ofPins cX3_ofPins 2 (some .int), Cond.methodLink RX3 53 yX3_isNear, Cond.instanceMethod yX3_isNear, Cond.selects RX3 yX3_isNear yX3_isNear, Cond.code yX3_isNear cX3_isNear 6 (some .boolean), Cond.methodLink RX3 56 yX3_pinsAt, Cond.instanceMethod yX3_pinsAt, Cond.selects RX3 yX3_pinsAt yX3_pinsAt, Cond.code yX3_pinsAt cX3_pinsAt 5 (some .int)]
noncomputable def wsX3_readPart_r3 : List Cond := [Cond.methodLink RX3 59 yX3_ones, Cond.static yX3_ones, Cond.code yX3_ones cX3_ones 3 (some .int)]
noncomputable def wsX3_readPart : List Cond := .code yX3_readPart cX3_readPart 5 none :: ((wsX3_readPart_r1 ++ (wsX3_readPart_r2 ++ wsX3_readPart_r3)) ++ wsX30)
noncomputable def wsX3_reads_r1 : List Cond := [Cond.fieldLink RX3 121 "PinCylinderModel" "spot" "I", Cond.fieldLink RX3 117 "PinCylinderModel" "isWrong" "Z", Cond.fieldLink RX3 133 "PinCylinderModel" "wereSet" "I", Cond.fieldLink RX3 114 "PinCylinderModel" "length" "I", Cond.methodLink RX3 143 yX3_readPart, Cond.instanceMethod yX3_readPart, Cond.selects RX3 yX3_readPart yX3_readPart, Cond.initialized RX3, Cond.code yX3_readPart cX3_readPart 5 none, Cond.methodLink RX3 136 yX3_takes, Cond.instanceMethod yX3_takes, Cond.selects RX3 yX3_takes yX3_takes, Cond.code yX3_takes cX3_takes 5 (some .int), Cond.fieldLink RX3 22 "PinCylinderModel" "text" "[I", Cond.methodLink RX3 124 yX3_isNext, Cond.instanceMethod yX3_isNext, Cond.selects RX3 yX3_isNext yX3_isNext, Cond.code yX3_isNext cX3_isNext 3 (some .boolean), Cond.methodLink RX3 29 yX3_in, Cond.static yX3_in, Cond.code yX3_in cX3_in 3 (some .boolean), Cond.methodLink RX3 130 yX3_number, Cond.instanceMethod yX3_number, Cond.selects RX3 yX3_number yX3_number]
noncomputable def wsX3_reads_r2 : List Cond := [Cond.code yX3_number cX3_number 4 (some .int), Cond.methodLink RX3 127 yX3_begins, Cond.static yX3_begins, Cond.code yX3_begins cX3_begins 3 (some .boolean), Cond.methodLink RX3 139 yX3_readSteps, Cond.instanceMethod yX3_readSteps, Cond.selects RX3 yX3_readSteps yX3_readSteps, Cond.code yX3_readSteps cX3_readSteps 7 none, Cond.fieldLink RX3 7 "PinCylinderModel" "s" "[I", Cond.methodLink RX3 69 yX3_hindrance, Cond.instanceMethod yX3_hindrance, Cond.selects RX3 yX3_hindrance yX3_hindrance, Cond.code yX3_hindrance cX3_hindrance 4 (some .int), Cond.methodLink RX3 50 yX3_isPin, Cond.instanceMethod yX3_isPin, Cond.selects RX3 yX3_isPin yX3_isPin, Cond.code yX3_isPin cX3_isPin 4 (some .boolean), Cond.methodLink RX3 46 yX3_ofPins, Cond.static yX3_ofPins, Cond.code yX3_ofPins cX3_ofPins 2 (some .int), Cond.methodLink RX3 53 yX3_isNear, Cond.instanceMethod yX3_isNear, Cond.selects RX3 yX3_isNear yX3_isNear, Cond.code yX3_isNear cX3_isNear 6 (some .boolean)]
noncomputable def wsX3_reads_r3 : List Cond := [Cond.methodLink RX3 56 yX3_pinsAt, Cond.instanceMethod yX3_pinsAt, Cond.selects RX3 yX3_pinsAt yX3_pinsAt, Cond.code yX3_pinsAt cX3_pinsAt 5 (some .int), Cond.methodLink RX3 59 yX3_ones, Cond.static yX3_ones, Cond.code yX3_ones cX3_ones 3 (some .int)]
noncomputable def wsX3_reads : List Cond := .code yX3_reads cX3_reads 2 (some .boolean) :: ((wsX3_reads_r1 ++ (wsX3_reads_r2 ++ wsX3_reads_r3)) ++ wsX30)
noncomputable def wsX3_firstError_r1 : List Cond := [Cond.fieldLink RX3 25 "PinCylinderModel" "thrown" "I", Cond.fieldLink RX3 114 "PinCylinderModel" "length" "I", Cond.fieldLink RX3 121 "PinCylinderModel" "spot" "I", Cond.methodLink RX3 147 yX3_reads, Cond.instanceMethod yX3_reads, Cond.selects RX3 yX3_reads yX3_reads, Cond.initialized RX3, Cond.code yX3_reads cX3_reads 2 (some .boolean), Cond.fieldLink RX3 117 "PinCylinderModel" "isWrong" "Z", Cond.fieldLink RX3 133 "PinCylinderModel" "wereSet" "I", Cond.methodLink RX3 143 yX3_readPart, Cond.instanceMethod yX3_readPart, Cond.selects RX3 yX3_readPart yX3_readPart, Cond.code yX3_readPart cX3_readPart 5 none, Cond.methodLink RX3 136 yX3_takes, Cond.instanceMethod yX3_takes, Cond.selects RX3 yX3_takes yX3_takes, Cond.code yX3_takes cX3_takes 5 (some .int), Cond.fieldLink RX3 22 "PinCylinderModel" "text" "[I", Cond.methodLink RX3 124 yX3_isNext, Cond.instanceMethod yX3_isNext, Cond.selects RX3 yX3_isNext yX3_isNext, Cond.code yX3_isNext cX3_isNext 3 (some .boolean), Cond.methodLink RX3 29 yX3_in]
noncomputable def wsX3_firstError_r2 : List Cond := [Cond.static yX3_in, Cond.code yX3_in cX3_in 3 (some .boolean), Cond.methodLink RX3 130 yX3_number, Cond.instanceMethod yX3_number, Cond.selects RX3 yX3_number yX3_number, Cond.code yX3_number cX3_number 4 (some .int), Cond.methodLink RX3 127 yX3_begins, Cond.static yX3_begins, Cond.code yX3_begins cX3_begins 3 (some .boolean), Cond.methodLink RX3 139 yX3_readSteps, Cond.instanceMethod yX3_readSteps, Cond.selects RX3 yX3_readSteps yX3_readSteps, Cond.code yX3_readSteps cX3_readSteps 7 none, Cond.fieldLink RX3 7 "PinCylinderModel" "s" "[I", Cond.methodLink RX3 69 yX3_hindrance, Cond.instanceMethod yX3_hindrance, Cond.selects RX3 yX3_hindrance yX3_hindrance, Cond.code yX3_hindrance cX3_hindrance 4 (some .int), Cond.methodLink RX3 50 yX3_isPin, Cond.instanceMethod yX3_isPin, Cond.selects RX3 yX3_isPin yX3_isPin, Cond.code yX3_isPin cX3_isPin 4 (some .boolean), Cond.methodLink RX3 46 yX3_ofPins, Cond.static yX3_ofPins]
noncomputable def wsX3_firstError_r3 : List Cond := [Cond.code yX3_ofPins cX3_ofPins 2 (some .int), Cond.methodLink RX3 53 yX3_isNear, Cond.instanceMethod yX3_isNear, Cond.selects RX3 yX3_isNear yX3_isNear, Cond.code yX3_isNear cX3_isNear 6 (some .boolean), Cond.methodLink RX3 56 yX3_pinsAt, Cond.instanceMethod yX3_pinsAt, Cond.selects RX3 yX3_pinsAt yX3_pinsAt, Cond.code yX3_pinsAt cX3_pinsAt 5 (some .int), Cond.methodLink RX3 59 yX3_ones, Cond.static yX3_ones, Cond.code yX3_ones cX3_ones 3 (some .int)]
noncomputable def wsX3_firstError : List Cond := .code yX3_firstError cX3_firstError 2 (some .int) :: ((wsX3_firstError_r1 ++ (wsX3_firstError_r2 ++ wsX3_firstError_r3)) ++ wsX30)
noncomputable def wsX3_pins_r1 : List Cond := [Cond.fieldLink RX3 114 "PinCylinderModel" "length" "I", Cond.fieldLink RX3 133 "PinCylinderModel" "wereSet" "I", Cond.methodLink RX3 147 yX3_reads, Cond.instanceMethod yX3_reads, Cond.selects RX3 yX3_reads yX3_reads, Cond.initialized RX3, Cond.code yX3_reads cX3_reads 2 (some .boolean), Cond.fieldLink RX3 121 "PinCylinderModel" "spot" "I", Cond.fieldLink RX3 117 "PinCylinderModel" "isWrong" "Z", Cond.methodLink RX3 143 yX3_readPart, Cond.instanceMethod yX3_readPart, Cond.selects RX3 yX3_readPart yX3_readPart, Cond.code yX3_readPart cX3_readPart 5 none, Cond.methodLink RX3 136 yX3_takes, Cond.instanceMethod yX3_takes, Cond.selects RX3 yX3_takes yX3_takes, Cond.code yX3_takes cX3_takes 5 (some .int), Cond.fieldLink RX3 22 "PinCylinderModel" "text" "[I", Cond.methodLink RX3 124 yX3_isNext, Cond.instanceMethod yX3_isNext, Cond.selects RX3 yX3_isNext yX3_isNext, Cond.code yX3_isNext cX3_isNext 3 (some .boolean), Cond.methodLink RX3 29 yX3_in, Cond.static yX3_in]
noncomputable def wsX3_pins_r2 : List Cond := [Cond.code yX3_in cX3_in 3 (some .boolean), Cond.methodLink RX3 130 yX3_number, Cond.instanceMethod yX3_number, Cond.selects RX3 yX3_number yX3_number, Cond.code yX3_number cX3_number 4 (some .int), Cond.methodLink RX3 127 yX3_begins, Cond.static yX3_begins, Cond.code yX3_begins cX3_begins 3 (some .boolean), Cond.methodLink RX3 139 yX3_readSteps, Cond.instanceMethod yX3_readSteps, Cond.selects RX3 yX3_readSteps yX3_readSteps, Cond.code yX3_readSteps cX3_readSteps 7 none, Cond.fieldLink RX3 7 "PinCylinderModel" "s" "[I", Cond.methodLink RX3 69 yX3_hindrance, Cond.instanceMethod yX3_hindrance, Cond.selects RX3 yX3_hindrance yX3_hindrance, Cond.code yX3_hindrance cX3_hindrance 4 (some .int), Cond.methodLink RX3 50 yX3_isPin, Cond.instanceMethod yX3_isPin, Cond.selects RX3 yX3_isPin yX3_isPin, Cond.code yX3_isPin cX3_isPin 4 (some .boolean), Cond.methodLink RX3 46 yX3_ofPins, Cond.static yX3_ofPins, Cond.code yX3_ofPins cX3_ofPins 2 (some .int)]
noncomputable def wsX3_pins_r3 : List Cond := [Cond.methodLink RX3 53 yX3_isNear, Cond.instanceMethod yX3_isNear, Cond.selects RX3 yX3_isNear yX3_isNear, Cond.code yX3_isNear cX3_isNear 6 (some .boolean), Cond.methodLink RX3 56 yX3_pinsAt, Cond.instanceMethod yX3_pinsAt, Cond.selects RX3 yX3_pinsAt yX3_pinsAt, Cond.code yX3_pinsAt cX3_pinsAt 5 (some .int), Cond.methodLink RX3 59 yX3_ones, Cond.static yX3_ones, Cond.code yX3_ones cX3_ones 3 (some .int), Cond.methodLink RX3 73 yX3_holds, Cond.instanceMethod yX3_holds, Cond.selects RX3 yX3_holds yX3_holds, Cond.code yX3_holds cX3_holds 2 (some .boolean), Cond.fieldLink RX3 25 "PinCylinderModel" "thrown" "I", Cond.methodLink RX3 76 yX3_save, Cond.instanceMethod yX3_save, Cond.selects RX3 yX3_save yX3_save, Cond.code yX3_save cX3_save 2 none, Cond.fieldLink RX3 43 "PinCylinderModel" "savedMany" "I", Cond.fieldLink RX3 16 "PinCylinderModel" "saved" "[I"]
noncomputable def wsX3_pins : List Cond := .code yX3_pins cX3_pins 2 (some .int) :: ((wsX3_pins_r1 ++ (wsX3_pins_r2 ++ wsX3_pins_r3)) ++ wsX30)
noncomputable def wsX3_undo : List Cond := .code yX3_undo cX3_undo 2 (some .int) :: ([.fieldLink RX3 43 "PinCylinderModel" "savedMany" "I", .fieldLink RX3 7 "PinCylinderModel" "s" "[I", .fieldLink RX3 16 "PinCylinderModel" "saved" "[I", .methodLink RX3 73 yX3_holds, .instanceMethod yX3_holds, .selects RX3 yX3_holds yX3_holds, .initialized RX3, .code yX3_holds cX3_holds 2 (some .boolean), .fieldLink RX3 25 "PinCylinderModel" "thrown" "I"] ++ wsX30)
noncomputable def wsX3_keep : List Cond := .code yX3_keep cX3_keep 2 (some .int) :: ([.fieldLink RX3 25 "PinCylinderModel" "thrown" "I", .fieldLink RX3 19 "PinCylinderModel" "snapshot" "[I", .fieldLink RX3 7 "PinCylinderModel" "s" "[I", .fieldLink RX3 151 "PinCylinderModel" "isKept" "Z", .methodLink RX3 154 yX3_allPins, .instanceMethod yX3_allPins, .selects RX3 yX3_allPins yX3_allPins, .initialized RX3, .code yX3_allPins cX3_allPins 1 (some .int), .methodLink RX3 63 yX3_pinsOf, .instanceMethod yX3_pinsOf, .selects RX3 yX3_pinsOf yX3_pinsOf, .code yX3_pinsOf cX3_pinsOf 4 (some .int), .methodLink RX3 46 yX3_ofPins, .static yX3_ofPins, .code yX3_ofPins cX3_ofPins 2 (some .int), .methodLink RX3 59 yX3_ones, .static yX3_ones, .code yX3_ones cX3_ones 3 (some .int)] ++ wsX30)
noncomputable def wsX3_restore_r1 : List Cond := [Cond.fieldLink RX3 151 "PinCylinderModel" "isKept" "Z", Cond.fieldLink RX3 7 "PinCylinderModel" "s" "[I", Cond.fieldLink RX3 19 "PinCylinderModel" "snapshot" "[I", Cond.methodLink RX3 73 yX3_holds, Cond.instanceMethod yX3_holds, Cond.selects RX3 yX3_holds yX3_holds, Cond.initialized RX3, Cond.code yX3_holds cX3_holds 2 (some .boolean), Cond.fieldLink RX3 25 "PinCylinderModel" "thrown" "I", Cond.methodLink RX3 76 yX3_save, Cond.instanceMethod yX3_save, Cond.selects RX3 yX3_save yX3_save, Cond.code yX3_save cX3_save 2 none, Cond.fieldLink RX3 43 "PinCylinderModel" "savedMany" "I", Cond.fieldLink RX3 16 "PinCylinderModel" "saved" "[I", Cond.methodLink RX3 154 yX3_allPins, Cond.instanceMethod yX3_allPins, Cond.selects RX3 yX3_allPins yX3_allPins, Cond.code yX3_allPins cX3_allPins 1 (some .int), Cond.methodLink RX3 63 yX3_pinsOf, Cond.instanceMethod yX3_pinsOf, Cond.selects RX3 yX3_pinsOf yX3_pinsOf, Cond.code yX3_pinsOf cX3_pinsOf 4 (some .int), Cond.methodLink RX3 46 yX3_ofPins]
noncomputable def wsX3_restore_r2 : List Cond := [Cond.static yX3_ofPins, Cond.code yX3_ofPins cX3_ofPins 2 (some .int), Cond.methodLink RX3 59 yX3_ones, Cond.static yX3_ones, Cond.code yX3_ones cX3_ones 3 (some .int)]
noncomputable def wsX3_restore : List Cond := .code yX3_restore cX3_restore 2 (some .int) :: ((wsX3_restore_r1 ++ wsX3_restore_r2) ++ wsX30)
noncomputable def wsX3_whyNot_r1 : List Cond := [Cond.methodLink RX3 66 yX3_areThere, Cond.static yX3_areThere, Cond.initialized RX3, Cond.code yX3_areThere cX3_areThere 3 (some .boolean), Cond.methodLink RX3 33 yX3_isTune, Cond.static yX3_isTune, Cond.code yX3_isTune cX3_isTune 1 (some .boolean), Cond.methodLink RX3 29 yX3_in, Cond.static yX3_in, Cond.code yX3_in cX3_in 3 (some .boolean), Cond.methodLink RX3 37 yX3_isTooth, Cond.static yX3_isTooth, Cond.code yX3_isTooth cX3_isTooth 1 (some .boolean), Cond.methodLink RX3 40 yX3_isStep, Cond.static yX3_isStep, Cond.code yX3_isStep cX3_isStep 1 (some .boolean), Cond.methodLink RX3 73 yX3_holds, Cond.instanceMethod yX3_holds, Cond.selects RX3 yX3_holds yX3_holds, Cond.code yX3_holds cX3_holds 2 (some .boolean), Cond.fieldLink RX3 25 "PinCylinderModel" "thrown" "I", Cond.methodLink RX3 69 yX3_hindrance, Cond.instanceMethod yX3_hindrance, Cond.selects RX3 yX3_hindrance yX3_hindrance]
noncomputable def wsX3_whyNot_r2 : List Cond := [Cond.code yX3_hindrance cX3_hindrance 4 (some .int), Cond.fieldLink RX3 7 "PinCylinderModel" "s" "[I", Cond.methodLink RX3 50 yX3_isPin, Cond.instanceMethod yX3_isPin, Cond.selects RX3 yX3_isPin yX3_isPin, Cond.code yX3_isPin cX3_isPin 4 (some .boolean), Cond.methodLink RX3 46 yX3_ofPins, Cond.static yX3_ofPins, Cond.code yX3_ofPins cX3_ofPins 2 (some .int), Cond.methodLink RX3 53 yX3_isNear, Cond.instanceMethod yX3_isNear, Cond.selects RX3 yX3_isNear yX3_isNear, Cond.code yX3_isNear cX3_isNear 6 (some .boolean), Cond.methodLink RX3 56 yX3_pinsAt, Cond.instanceMethod yX3_pinsAt, Cond.selects RX3 yX3_pinsAt yX3_pinsAt, Cond.code yX3_pinsAt cX3_pinsAt 5 (some .int), Cond.methodLink RX3 59 yX3_ones, Cond.static yX3_ones, Cond.code yX3_ones cX3_ones 3 (some .int)]
noncomputable def wsX3_whyNot : List Cond := .code yX3_whyNot cX3_whyNot 4 (some .int) :: ((wsX3_whyNot_r1 ++ wsX3_whyNot_r2) ++ wsX30)
noncomputable def wsX3_next_r1 : List Cond := [Cond.methodLink RX3 66 yX3_areThere, Cond.static yX3_areThere, Cond.initialized RX3, Cond.code yX3_areThere cX3_areThere 3 (some .boolean), Cond.methodLink RX3 33 yX3_isTune, Cond.static yX3_isTune, Cond.code yX3_isTune cX3_isTune 1 (some .boolean), Cond.methodLink RX3 29 yX3_in, Cond.static yX3_in, Cond.code yX3_in cX3_in 3 (some .boolean), Cond.methodLink RX3 37 yX3_isTooth, Cond.static yX3_isTooth, Cond.code yX3_isTooth cX3_isTooth 1 (some .boolean), Cond.methodLink RX3 40 yX3_isStep, Cond.static yX3_isStep, Cond.code yX3_isStep cX3_isStep 1 (some .boolean), Cond.methodLink RX3 73 yX3_holds, Cond.instanceMethod yX3_holds, Cond.selects RX3 yX3_holds yX3_holds, Cond.code yX3_holds cX3_holds 2 (some .boolean), Cond.fieldLink RX3 25 "PinCylinderModel" "thrown" "I", Cond.methodLink RX3 50 yX3_isPin, Cond.instanceMethod yX3_isPin, Cond.selects RX3 yX3_isPin yX3_isPin]
noncomputable def wsX3_next_r2 : List Cond := [Cond.code yX3_isPin cX3_isPin 4 (some .boolean), Cond.fieldLink RX3 7 "PinCylinderModel" "s" "[I", Cond.methodLink RX3 46 yX3_ofPins, Cond.static yX3_ofPins, Cond.code yX3_ofPins cX3_ofPins 2 (some .int)]
noncomputable def wsX3_next : List Cond := .code yX3_next cX3_next 6 (some .int) :: ((wsX3_next_r1 ++ wsX3_next_r2) ++ wsX30)
noncomputable def wsX3_fullest : List Cond := .code yX3_fullest cX3_fullest 4 (some .int) :: ([.methodLink RX3 56 yX3_pinsAt, .instanceMethod yX3_pinsAt, .selects RX3 yX3_pinsAt yX3_pinsAt, .initialized RX3, .code yX3_pinsAt cX3_pinsAt 5 (some .int), .methodLink RX3 50 yX3_isPin, .instanceMethod yX3_isPin, .selects RX3 yX3_isPin yX3_isPin, .code yX3_isPin cX3_isPin 4 (some .boolean), .fieldLink RX3 7 "PinCylinderModel" "s" "[I", .methodLink RX3 46 yX3_ofPins, .static yX3_ofPins, .code yX3_ofPins cX3_ofPins 2 (some .int), .methodLink RX3 59 yX3_ones, .static yX3_ones, .code yX3_ones cX3_ones 3 (some .int)] ++ wsX30)
noncomputable def wsX3_teethOf : List Cond := .code yX3_teethOf cX3_teethOf 4 (some .int) :: ([.fieldLink RX3 7 "PinCylinderModel" "s" "[I", .methodLink RX3 46 yX3_ofPins, .static yX3_ofPins, .initialized RX3, .code yX3_ofPins cX3_ofPins 2 (some .int)] ++ wsX30)
noncomputable def wsX3_ofTune_r1 : List Cond := [Cond.methodLink RX3 63 yX3_pinsOf, Cond.instanceMethod yX3_pinsOf, Cond.selects RX3 yX3_pinsOf yX3_pinsOf, Cond.initialized RX3, Cond.code yX3_pinsOf cX3_pinsOf 4 (some .int), Cond.fieldLink RX3 7 "PinCylinderModel" "s" "[I", Cond.methodLink RX3 46 yX3_ofPins, Cond.static yX3_ofPins, Cond.code yX3_ofPins cX3_ofPins 2 (some .int), Cond.methodLink RX3 59 yX3_ones, Cond.static yX3_ones, Cond.code yX3_ones cX3_ones 3 (some .int), Cond.methodLink RX3 157 yX3_fullest, Cond.instanceMethod yX3_fullest, Cond.selects RX3 yX3_fullest yX3_fullest, Cond.code yX3_fullest cX3_fullest 4 (some .int), Cond.methodLink RX3 56 yX3_pinsAt, Cond.instanceMethod yX3_pinsAt, Cond.selects RX3 yX3_pinsAt yX3_pinsAt, Cond.code yX3_pinsAt cX3_pinsAt 5 (some .int), Cond.methodLink RX3 50 yX3_isPin, Cond.instanceMethod yX3_isPin, Cond.selects RX3 yX3_isPin yX3_isPin, Cond.code yX3_isPin cX3_isPin 4 (some .boolean)]
noncomputable def wsX3_ofTune_r2 : List Cond := [Cond.methodLink RX3 160 yX3_teethOf, Cond.instanceMethod yX3_teethOf, Cond.selects RX3 yX3_teethOf yX3_teethOf, Cond.code yX3_teethOf cX3_teethOf 4 (some .int)]
noncomputable def wsX3_ofTune : List Cond := .code yX3_ofTune cX3_ofTune 3 (some .int) :: ((wsX3_ofTune_r1 ++ wsX3_ofTune_r2) ++ wsX30)
noncomputable def wsX3_tune_r1 : List Cond := [Cond.methodLink RX3 33 yX3_isTune, Cond.static yX3_isTune, Cond.initialized RX3, Cond.code yX3_isTune cX3_isTune 1 (some .boolean), Cond.methodLink RX3 29 yX3_in, Cond.static yX3_in, Cond.code yX3_in cX3_in 3 (some .boolean), Cond.methodLink RX3 73 yX3_holds, Cond.instanceMethod yX3_holds, Cond.selects RX3 yX3_holds yX3_holds, Cond.code yX3_holds cX3_holds 2 (some .boolean), Cond.fieldLink RX3 25 "PinCylinderModel" "thrown" "I", Cond.methodLink RX3 163 yX3_ofTune, Cond.instanceMethod yX3_ofTune, Cond.selects RX3 yX3_ofTune yX3_ofTune, Cond.code yX3_ofTune cX3_ofTune 3 (some .int), Cond.methodLink RX3 63 yX3_pinsOf, Cond.instanceMethod yX3_pinsOf, Cond.selects RX3 yX3_pinsOf yX3_pinsOf, Cond.code yX3_pinsOf cX3_pinsOf 4 (some .int), Cond.fieldLink RX3 7 "PinCylinderModel" "s" "[I", Cond.methodLink RX3 46 yX3_ofPins, Cond.static yX3_ofPins, Cond.code yX3_ofPins cX3_ofPins 2 (some .int)]
noncomputable def wsX3_tune_r2 : List Cond := [Cond.methodLink RX3 59 yX3_ones, Cond.static yX3_ones, Cond.code yX3_ones cX3_ones 3 (some .int), Cond.methodLink RX3 157 yX3_fullest, Cond.instanceMethod yX3_fullest, Cond.selects RX3 yX3_fullest yX3_fullest, Cond.code yX3_fullest cX3_fullest 4 (some .int), Cond.methodLink RX3 56 yX3_pinsAt, Cond.instanceMethod yX3_pinsAt, Cond.selects RX3 yX3_pinsAt yX3_pinsAt, Cond.code yX3_pinsAt cX3_pinsAt 5 (some .int), Cond.methodLink RX3 50 yX3_isPin, Cond.instanceMethod yX3_isPin, Cond.selects RX3 yX3_isPin yX3_isPin, Cond.code yX3_isPin cX3_isPin 4 (some .boolean), Cond.methodLink RX3 160 yX3_teethOf, Cond.instanceMethod yX3_teethOf, Cond.selects RX3 yX3_teethOf yX3_teethOf, Cond.code yX3_teethOf cX3_teethOf 4 (some .int)]
noncomputable def wsX3_tune : List Cond := .code yX3_tune cX3_tune 3 (some .int) :: ((wsX3_tune_r1 ++ wsX3_tune_r2) ++ wsX30)
noncomputable def wsX3_chord_r1 : List Cond := [Cond.methodLink RX3 33 yX3_isTune, Cond.static yX3_isTune, Cond.initialized RX3, Cond.code yX3_isTune cX3_isTune 1 (some .boolean), Cond.methodLink RX3 29 yX3_in, Cond.static yX3_in, Cond.code yX3_in cX3_in 3 (some .boolean), Cond.methodLink RX3 40 yX3_isStep, Cond.static yX3_isStep, Cond.code yX3_isStep cX3_isStep 1 (some .boolean), Cond.methodLink RX3 73 yX3_holds, Cond.instanceMethod yX3_holds, Cond.selects RX3 yX3_holds yX3_holds, Cond.code yX3_holds cX3_holds 2 (some .boolean), Cond.fieldLink RX3 25 "PinCylinderModel" "thrown" "I", Cond.methodLink RX3 56 yX3_pinsAt, Cond.instanceMethod yX3_pinsAt, Cond.selects RX3 yX3_pinsAt yX3_pinsAt, Cond.code yX3_pinsAt cX3_pinsAt 5 (some .int), Cond.methodLink RX3 50 yX3_isPin, Cond.instanceMethod yX3_isPin, Cond.selects RX3 yX3_isPin yX3_isPin, Cond.code yX3_isPin cX3_isPin 4 (some .boolean), Cond.fieldLink RX3 7 "PinCylinderModel" "s" "[I"]
noncomputable def wsX3_chord_r2 : List Cond := [Cond.methodLink RX3 46 yX3_ofPins, Cond.static yX3_ofPins, Cond.code yX3_ofPins cX3_ofPins 2 (some .int)]
noncomputable def wsX3_chord : List Cond := .code yX3_chord cX3_chord 3 (some .int) :: ((wsX3_chord_r1 ++ wsX3_chord_r2) ++ wsX30)
noncomputable def wsX3_widest : List Cond := .code yX3_widest cX3_widest 7 (some .int) :: ([.fieldLink RX3 7 "PinCylinderModel" "s" "[I", .methodLink RX3 46 yX3_ofPins, .static yX3_ofPins, .initialized RX3, .code yX3_ofPins cX3_ofPins 2 (some .int)] ++ wsX30)
noncomputable def wsX3_ofTooth : List Cond := .code yX3_ofTooth cX3_ofTooth 3 (some .int) :: ([.fieldLink RX3 7 "PinCylinderModel" "s" "[I", .methodLink RX3 86 yX3_of, .static yX3_of, .initialized RX3, .code yX3_of cX3_of 2 (some .int), .methodLink RX3 166 yX3_widest, .instanceMethod yX3_widest, .selects RX3 yX3_widest yX3_widest, .code yX3_widest cX3_widest 7 (some .int), .methodLink RX3 46 yX3_ofPins, .static yX3_ofPins, .code yX3_ofPins cX3_ofPins 2 (some .int)] ++ wsX30)
noncomputable def wsX3_tooth_r1 : List Cond := [Cond.methodLink RX3 37 yX3_isTooth, Cond.static yX3_isTooth, Cond.initialized RX3, Cond.code yX3_isTooth cX3_isTooth 1 (some .boolean), Cond.methodLink RX3 29 yX3_in, Cond.static yX3_in, Cond.code yX3_in cX3_in 3 (some .boolean), Cond.methodLink RX3 73 yX3_holds, Cond.instanceMethod yX3_holds, Cond.selects RX3 yX3_holds yX3_holds, Cond.code yX3_holds cX3_holds 2 (some .boolean), Cond.fieldLink RX3 25 "PinCylinderModel" "thrown" "I", Cond.methodLink RX3 169 yX3_ofTooth, Cond.instanceMethod yX3_ofTooth, Cond.selects RX3 yX3_ofTooth yX3_ofTooth, Cond.code yX3_ofTooth cX3_ofTooth 3 (some .int), Cond.fieldLink RX3 7 "PinCylinderModel" "s" "[I", Cond.methodLink RX3 86 yX3_of, Cond.static yX3_of, Cond.code yX3_of cX3_of 2 (some .int), Cond.methodLink RX3 166 yX3_widest, Cond.instanceMethod yX3_widest, Cond.selects RX3 yX3_widest yX3_widest, Cond.code yX3_widest cX3_widest 7 (some .int)]
noncomputable def wsX3_tooth_r2 : List Cond := [Cond.methodLink RX3 46 yX3_ofPins, Cond.static yX3_ofPins, Cond.code yX3_ofPins cX3_ofPins 2 (some .int)]
noncomputable def wsX3_tooth : List Cond := .code yX3_tooth cX3_tooth 3 (some .int) :: ((wsX3_tooth_r1 ++ wsX3_tooth_r2) ++ wsX30)
noncomputable def wsX3_note : List Cond := .code yX3_note cX3_note 3 (some .int) :: ([.fieldLink RX3 7 "PinCylinderModel" "s" "[I", .methodLink RX3 29 yX3_in, .static yX3_in, .initialized RX3, .code yX3_in cX3_in 3 (some .boolean), .methodLink RX3 73 yX3_holds, .instanceMethod yX3_holds, .selects RX3 yX3_holds yX3_holds, .code yX3_holds cX3_holds 2 (some .boolean), .fieldLink RX3 25 "PinCylinderModel" "thrown" "I"] ++ wsX30)
noncomputable def wsX3_teethThat : List Cond := .code yX3_teethThat cX3_teethThat 4 (some .int) :: ([.fieldLink RX3 7 "PinCylinderModel" "s" "[I", .methodLink RX3 86 yX3_of, .static yX3_of, .initialized RX3, .code yX3_of cX3_of 2 (some .int)] ++ wsX30)
noncomputable def wsX3_counted : List Cond := .code yX3_counted cX3_counted 2 (some .int) :: ([.fieldLink RX3 7 "PinCylinderModel" "s" "[I", .fieldLink RX3 43 "PinCylinderModel" "savedMany" "I", .methodLink RX3 172 yX3_teethThat, .instanceMethod yX3_teethThat, .selects RX3 yX3_teethThat yX3_teethThat, .initialized RX3, .code yX3_teethThat cX3_teethThat 4 (some .int), .methodLink RX3 86 yX3_of, .static yX3_of, .code yX3_of cX3_of 2 (some .int), .methodLink RX3 154 yX3_allPins, .instanceMethod yX3_allPins, .selects RX3 yX3_allPins yX3_allPins, .code yX3_allPins cX3_allPins 1 (some .int), .methodLink RX3 63 yX3_pinsOf, .instanceMethod yX3_pinsOf, .selects RX3 yX3_pinsOf yX3_pinsOf, .code yX3_pinsOf cX3_pinsOf 4 (some .int), .methodLink RX3 46 yX3_ofPins, .static yX3_ofPins, .code yX3_ofPins cX3_ofPins 2 (some .int), .methodLink RX3 59 yX3_ones, .static yX3_ones, .code yX3_ones cX3_ones 3 (some .int)] ++ wsX30)
noncomputable def wsX3_count_r1 : List Cond := [Cond.methodLink RX3 29 yX3_in, Cond.static yX3_in, Cond.initialized RX3, Cond.code yX3_in cX3_in 3 (some .boolean), Cond.methodLink RX3 73 yX3_holds, Cond.instanceMethod yX3_holds, Cond.selects RX3 yX3_holds yX3_holds, Cond.code yX3_holds cX3_holds 2 (some .boolean), Cond.fieldLink RX3 25 "PinCylinderModel" "thrown" "I", Cond.methodLink RX3 175 yX3_counted, Cond.instanceMethod yX3_counted, Cond.selects RX3 yX3_counted yX3_counted, Cond.code yX3_counted cX3_counted 2 (some .int), Cond.fieldLink RX3 7 "PinCylinderModel" "s" "[I", Cond.fieldLink RX3 43 "PinCylinderModel" "savedMany" "I", Cond.methodLink RX3 172 yX3_teethThat, Cond.instanceMethod yX3_teethThat, Cond.selects RX3 yX3_teethThat yX3_teethThat, Cond.code yX3_teethThat cX3_teethThat 4 (some .int), Cond.methodLink RX3 86 yX3_of, Cond.static yX3_of, Cond.code yX3_of cX3_of 2 (some .int), Cond.methodLink RX3 154 yX3_allPins, Cond.instanceMethod yX3_allPins]
noncomputable def wsX3_count_r2 : List Cond := [Cond.selects RX3 yX3_allPins yX3_allPins, Cond.code yX3_allPins cX3_allPins 1 (some .int), Cond.methodLink RX3 63 yX3_pinsOf, Cond.instanceMethod yX3_pinsOf, Cond.selects RX3 yX3_pinsOf yX3_pinsOf, Cond.code yX3_pinsOf cX3_pinsOf 4 (some .int), Cond.methodLink RX3 46 yX3_ofPins, Cond.static yX3_ofPins, Cond.code yX3_ofPins cX3_ofPins 2 (some .int), Cond.methodLink RX3 59 yX3_ones, Cond.static yX3_ones, Cond.code yX3_ones cX3_ones 3 (some .int)]
noncomputable def wsX3_count : List Cond := .code yX3_count cX3_count 2 (some .int) :: ((wsX3_count_r1 ++ wsX3_count_r2) ++ wsX30)
noncomputable def wsX3_wouldBe_r1 : List Cond := [Cond.fieldLink RX3 7 "PinCylinderModel" "s" "[I", Cond.fieldLink RX3 13 "PinCylinderModel" "aside" "[I", Cond.methodLink RX3 178 yX3_putAside, Cond.instanceMethod yX3_putAside, Cond.selects RX3 yX3_putAside yX3_putAside, Cond.initialized RX3, Cond.code yX3_putAside cX3_putAside 2 none, Cond.methodLink RX3 172 yX3_teethThat, Cond.instanceMethod yX3_teethThat, Cond.selects RX3 yX3_teethThat yX3_teethThat, Cond.code yX3_teethThat cX3_teethThat 4 (some .int), Cond.methodLink RX3 86 yX3_of, Cond.static yX3_of, Cond.code yX3_of cX3_of 2 (some .int), Cond.methodLink RX3 107 yX3_goesOn, Cond.instanceMethod yX3_goesOn, Cond.selects RX3 yX3_goesOn yX3_goesOn, Cond.code yX3_goesOn cX3_goesOn 3 (some .int), Cond.methodLink RX3 100 yX3_goes, Cond.instanceMethod yX3_goes, Cond.selects RX3 yX3_goes yX3_goes, Cond.code yX3_goes cX3_goes 4 (some .boolean), Cond.methodLink RX3 93 yX3_need, Cond.instanceMethod yX3_need]
noncomputable def wsX3_wouldBe_r2 : List Cond := [Cond.selects RX3 yX3_need yX3_need, Cond.code yX3_need cX3_need 3 (some .int), Cond.methodLink RX3 83 yX3_nextTune, Cond.instanceMethod yX3_nextTune, Cond.selects RX3 yX3_nextTune yX3_nextTune, Cond.code yX3_nextTune cX3_nextTune 1 (some .int), Cond.methodLink RX3 79 yX3_nextStep, Cond.instanceMethod yX3_nextStep, Cond.selects RX3 yX3_nextStep yX3_nextStep, Cond.code yX3_nextStep cX3_nextStep 1 (some .int), Cond.methodLink RX3 50 yX3_isPin, Cond.instanceMethod yX3_isPin, Cond.selects RX3 yX3_isPin yX3_isPin, Cond.code yX3_isPin cX3_isPin 4 (some .boolean), Cond.methodLink RX3 46 yX3_ofPins, Cond.static yX3_ofPins, Cond.code yX3_ofPins cX3_ofPins 2 (some .int), Cond.methodLink RX3 96 yX3_plucks, Cond.instanceMethod yX3_plucks, Cond.selects RX3 yX3_plucks yX3_plucks, Cond.code yX3_plucks cX3_plucks 4 none, Cond.methodLink RX3 89 yX3_sounds, Cond.instanceMethod yX3_sounds, Cond.selects RX3 yX3_sounds yX3_sounds]
noncomputable def wsX3_wouldBe_r3 : List Cond := [Cond.code yX3_sounds cX3_sounds 4 none, Cond.methodLink RX3 181 yX3_putBack, Cond.instanceMethod yX3_putBack, Cond.selects RX3 yX3_putBack yX3_putBack, Cond.code yX3_putBack cX3_putBack 2 none]
noncomputable def wsX3_wouldBe : List Cond := .code yX3_wouldBe cX3_wouldBe 8 (some .int) :: ((wsX3_wouldBe_r1 ++ (wsX3_wouldBe_r2 ++ wsX3_wouldBe_r3)) ++ wsX30)
noncomputable def wsX3_ifPlayed_r1 : List Cond := [Cond.methodLink RX3 29 yX3_in, Cond.static yX3_in, Cond.initialized RX3, Cond.code yX3_in cX3_in 3 (some .boolean), Cond.methodLink RX3 73 yX3_holds, Cond.instanceMethod yX3_holds, Cond.selects RX3 yX3_holds yX3_holds, Cond.code yX3_holds cX3_holds 2 (some .boolean), Cond.fieldLink RX3 25 "PinCylinderModel" "thrown" "I", Cond.methodLink RX3 184 yX3_wouldBe, Cond.instanceMethod yX3_wouldBe, Cond.selects RX3 yX3_wouldBe yX3_wouldBe, Cond.code yX3_wouldBe cX3_wouldBe 8 (some .int), Cond.fieldLink RX3 7 "PinCylinderModel" "s" "[I", Cond.fieldLink RX3 13 "PinCylinderModel" "aside" "[I", Cond.methodLink RX3 178 yX3_putAside, Cond.instanceMethod yX3_putAside, Cond.selects RX3 yX3_putAside yX3_putAside, Cond.code yX3_putAside cX3_putAside 2 none, Cond.methodLink RX3 172 yX3_teethThat, Cond.instanceMethod yX3_teethThat, Cond.selects RX3 yX3_teethThat yX3_teethThat, Cond.code yX3_teethThat cX3_teethThat 4 (some .int), Cond.methodLink RX3 86 yX3_of]
noncomputable def wsX3_ifPlayed_r2 : List Cond := [Cond.static yX3_of, Cond.code yX3_of cX3_of 2 (some .int), Cond.methodLink RX3 107 yX3_goesOn, Cond.instanceMethod yX3_goesOn, Cond.selects RX3 yX3_goesOn yX3_goesOn, Cond.code yX3_goesOn cX3_goesOn 3 (some .int), Cond.methodLink RX3 100 yX3_goes, Cond.instanceMethod yX3_goes, Cond.selects RX3 yX3_goes yX3_goes, Cond.code yX3_goes cX3_goes 4 (some .boolean), Cond.methodLink RX3 93 yX3_need, Cond.instanceMethod yX3_need, Cond.selects RX3 yX3_need yX3_need, Cond.code yX3_need cX3_need 3 (some .int), Cond.methodLink RX3 83 yX3_nextTune, Cond.instanceMethod yX3_nextTune, Cond.selects RX3 yX3_nextTune yX3_nextTune, Cond.code yX3_nextTune cX3_nextTune 1 (some .int), Cond.methodLink RX3 79 yX3_nextStep, Cond.instanceMethod yX3_nextStep, Cond.selects RX3 yX3_nextStep yX3_nextStep, Cond.code yX3_nextStep cX3_nextStep 1 (some .int), Cond.methodLink RX3 50 yX3_isPin, Cond.instanceMethod yX3_isPin]
noncomputable def wsX3_ifPlayed_r3 : List Cond := [Cond.selects RX3 yX3_isPin yX3_isPin, Cond.code yX3_isPin cX3_isPin 4 (some .boolean), Cond.methodLink RX3 46 yX3_ofPins, Cond.static yX3_ofPins, Cond.code yX3_ofPins cX3_ofPins 2 (some .int), Cond.methodLink RX3 96 yX3_plucks, Cond.instanceMethod yX3_plucks, Cond.selects RX3 yX3_plucks yX3_plucks, Cond.code yX3_plucks cX3_plucks 4 none, Cond.methodLink RX3 89 yX3_sounds, Cond.instanceMethod yX3_sounds, Cond.selects RX3 yX3_sounds yX3_sounds, Cond.code yX3_sounds cX3_sounds 4 none, Cond.methodLink RX3 181 yX3_putBack, Cond.instanceMethod yX3_putBack, Cond.selects RX3 yX3_putBack yX3_putBack, Cond.code yX3_putBack cX3_putBack 2 none]
noncomputable def wsX3_ifPlayed : List Cond := .code yX3_ifPlayed cX3_ifPlayed 3 (some .int) :: ((wsX3_ifPlayed_r1 ++ (wsX3_ifPlayed_r2 ++ wsX3_ifPlayed_r3)) ++ wsX30)
noncomputable def wsX3_quietVanes_r1 : List Cond := [Cond.fieldLink RX3 7 "PinCylinderModel" "s" "[I", Cond.methodLink RX3 184 yX3_wouldBe, Cond.instanceMethod yX3_wouldBe, Cond.selects RX3 yX3_wouldBe yX3_wouldBe, Cond.initialized RX3, Cond.code yX3_wouldBe cX3_wouldBe 8 (some .int), Cond.fieldLink RX3 13 "PinCylinderModel" "aside" "[I", Cond.methodLink RX3 178 yX3_putAside, Cond.instanceMethod yX3_putAside, Cond.selects RX3 yX3_putAside yX3_putAside, Cond.code yX3_putAside cX3_putAside 2 none, Cond.methodLink RX3 172 yX3_teethThat, Cond.instanceMethod yX3_teethThat, Cond.selects RX3 yX3_teethThat yX3_teethThat, Cond.code yX3_teethThat cX3_teethThat 4 (some .int), Cond.methodLink RX3 86 yX3_of, Cond.static yX3_of, Cond.code yX3_of cX3_of 2 (some .int), Cond.methodLink RX3 107 yX3_goesOn, Cond.instanceMethod yX3_goesOn, Cond.selects RX3 yX3_goesOn yX3_goesOn, Cond.code yX3_goesOn cX3_goesOn 3 (some .int), Cond.methodLink RX3 100 yX3_goes, Cond.instanceMethod yX3_goes]
noncomputable def wsX3_quietVanes_r2 : List Cond := [Cond.selects RX3 yX3_goes yX3_goes, Cond.code yX3_goes cX3_goes 4 (some .boolean), Cond.methodLink RX3 93 yX3_need, Cond.instanceMethod yX3_need, Cond.selects RX3 yX3_need yX3_need, Cond.code yX3_need cX3_need 3 (some .int), Cond.methodLink RX3 83 yX3_nextTune, Cond.instanceMethod yX3_nextTune, Cond.selects RX3 yX3_nextTune yX3_nextTune, Cond.code yX3_nextTune cX3_nextTune 1 (some .int), Cond.methodLink RX3 79 yX3_nextStep, Cond.instanceMethod yX3_nextStep, Cond.selects RX3 yX3_nextStep yX3_nextStep, Cond.code yX3_nextStep cX3_nextStep 1 (some .int), Cond.methodLink RX3 50 yX3_isPin, Cond.instanceMethod yX3_isPin, Cond.selects RX3 yX3_isPin yX3_isPin, Cond.code yX3_isPin cX3_isPin 4 (some .boolean), Cond.methodLink RX3 46 yX3_ofPins, Cond.static yX3_ofPins, Cond.code yX3_ofPins cX3_ofPins 2 (some .int), Cond.methodLink RX3 96 yX3_plucks, Cond.instanceMethod yX3_plucks, Cond.selects RX3 yX3_plucks yX3_plucks]
noncomputable def wsX3_quietVanes_r3 : List Cond := [Cond.code yX3_plucks cX3_plucks 4 none, Cond.methodLink RX3 89 yX3_sounds, Cond.instanceMethod yX3_sounds, Cond.selects RX3 yX3_sounds yX3_sounds, Cond.code yX3_sounds cX3_sounds 4 none, Cond.methodLink RX3 181 yX3_putBack, Cond.instanceMethod yX3_putBack, Cond.selects RX3 yX3_putBack yX3_putBack, Cond.code yX3_putBack cX3_putBack 2 none]
noncomputable def wsX3_quietVanes : List Cond := .code yX3_quietVanes cX3_quietVanes 4 (some .int) :: ((wsX3_quietVanes_r1 ++ (wsX3_quietVanes_r2 ++ wsX3_quietVanes_r3)) ++ wsX30)
noncomputable def wsX3_fewestVanes_r1 : List Cond := [Cond.fieldLink RX3 25 "PinCylinderModel" "thrown" "I", Cond.methodLink RX3 187 yX3_quietVanes, Cond.instanceMethod yX3_quietVanes, Cond.selects RX3 yX3_quietVanes yX3_quietVanes, Cond.initialized RX3, Cond.code yX3_quietVanes cX3_quietVanes 4 (some .int), Cond.fieldLink RX3 7 "PinCylinderModel" "s" "[I", Cond.methodLink RX3 184 yX3_wouldBe, Cond.instanceMethod yX3_wouldBe, Cond.selects RX3 yX3_wouldBe yX3_wouldBe, Cond.code yX3_wouldBe cX3_wouldBe 8 (some .int), Cond.fieldLink RX3 13 "PinCylinderModel" "aside" "[I", Cond.methodLink RX3 178 yX3_putAside, Cond.instanceMethod yX3_putAside, Cond.selects RX3 yX3_putAside yX3_putAside, Cond.code yX3_putAside cX3_putAside 2 none, Cond.methodLink RX3 172 yX3_teethThat, Cond.instanceMethod yX3_teethThat, Cond.selects RX3 yX3_teethThat yX3_teethThat, Cond.code yX3_teethThat cX3_teethThat 4 (some .int), Cond.methodLink RX3 86 yX3_of, Cond.static yX3_of, Cond.code yX3_of cX3_of 2 (some .int), Cond.methodLink RX3 107 yX3_goesOn]
noncomputable def wsX3_fewestVanes_r2 : List Cond := [Cond.instanceMethod yX3_goesOn, Cond.selects RX3 yX3_goesOn yX3_goesOn, Cond.code yX3_goesOn cX3_goesOn 3 (some .int), Cond.methodLink RX3 100 yX3_goes, Cond.instanceMethod yX3_goes, Cond.selects RX3 yX3_goes yX3_goes, Cond.code yX3_goes cX3_goes 4 (some .boolean), Cond.methodLink RX3 93 yX3_need, Cond.instanceMethod yX3_need, Cond.selects RX3 yX3_need yX3_need, Cond.code yX3_need cX3_need 3 (some .int), Cond.methodLink RX3 83 yX3_nextTune, Cond.instanceMethod yX3_nextTune, Cond.selects RX3 yX3_nextTune yX3_nextTune, Cond.code yX3_nextTune cX3_nextTune 1 (some .int), Cond.methodLink RX3 79 yX3_nextStep, Cond.instanceMethod yX3_nextStep, Cond.selects RX3 yX3_nextStep yX3_nextStep, Cond.code yX3_nextStep cX3_nextStep 1 (some .int), Cond.methodLink RX3 50 yX3_isPin, Cond.instanceMethod yX3_isPin, Cond.selects RX3 yX3_isPin yX3_isPin, Cond.code yX3_isPin cX3_isPin 4 (some .boolean), Cond.methodLink RX3 46 yX3_ofPins]
noncomputable def wsX3_fewestVanes_r3 : List Cond := [Cond.static yX3_ofPins, Cond.code yX3_ofPins cX3_ofPins 2 (some .int), Cond.methodLink RX3 96 yX3_plucks, Cond.instanceMethod yX3_plucks, Cond.selects RX3 yX3_plucks yX3_plucks, Cond.code yX3_plucks cX3_plucks 4 none, Cond.methodLink RX3 89 yX3_sounds, Cond.instanceMethod yX3_sounds, Cond.selects RX3 yX3_sounds yX3_sounds, Cond.code yX3_sounds cX3_sounds 4 none, Cond.methodLink RX3 181 yX3_putBack, Cond.instanceMethod yX3_putBack, Cond.selects RX3 yX3_putBack yX3_putBack, Cond.code yX3_putBack cX3_putBack 2 none]
noncomputable def wsX3_fewestVanes : List Cond := .code yX3_fewestVanes cX3_fewestVanes 1 (some .int) :: ((wsX3_fewestVanes_r1 ++ (wsX3_fewestVanes_r2 ++ wsX3_fewestVanes_r3)) ++ wsX30)
noncomputable def wsX3_windOf_r1 : List Cond := [Cond.fieldLink RX3 7 "PinCylinderModel" "s" "[I", Cond.methodLink RX3 178 yX3_putAside, Cond.instanceMethod yX3_putAside, Cond.selects RX3 yX3_putAside yX3_putAside, Cond.initialized RX3, Cond.code yX3_putAside cX3_putAside 2 none, Cond.fieldLink RX3 13 "PinCylinderModel" "aside" "[I", Cond.methodLink RX3 93 yX3_need, Cond.instanceMethod yX3_need, Cond.selects RX3 yX3_need yX3_need, Cond.code yX3_need cX3_need 3 (some .int), Cond.methodLink RX3 83 yX3_nextTune, Cond.instanceMethod yX3_nextTune, Cond.selects RX3 yX3_nextTune yX3_nextTune, Cond.code yX3_nextTune cX3_nextTune 1 (some .int), Cond.methodLink RX3 79 yX3_nextStep, Cond.instanceMethod yX3_nextStep, Cond.selects RX3 yX3_nextStep yX3_nextStep, Cond.code yX3_nextStep cX3_nextStep 1 (some .int), Cond.methodLink RX3 50 yX3_isPin, Cond.instanceMethod yX3_isPin, Cond.selects RX3 yX3_isPin yX3_isPin, Cond.code yX3_isPin cX3_isPin 4 (some .boolean), Cond.methodLink RX3 46 yX3_ofPins]
noncomputable def wsX3_windOf_r2 : List Cond := [Cond.static yX3_ofPins, Cond.code yX3_ofPins cX3_ofPins 2 (some .int), Cond.methodLink RX3 86 yX3_of, Cond.static yX3_of, Cond.code yX3_of cX3_of 2 (some .int), Cond.methodLink RX3 181 yX3_putBack, Cond.instanceMethod yX3_putBack, Cond.selects RX3 yX3_putBack yX3_putBack, Cond.code yX3_putBack cX3_putBack 2 none]
noncomputable def wsX3_windOf : List Cond := .code yX3_windOf cX3_windOf 4 (some .int) :: ((wsX3_windOf_r1 ++ wsX3_windOf_r2) ++ wsX30)
noncomputable def wsX3_windFor_r1 : List Cond := [Cond.methodLink RX3 29 yX3_in, Cond.static yX3_in, Cond.initialized RX3, Cond.code yX3_in cX3_in 3 (some .boolean), Cond.methodLink RX3 73 yX3_holds, Cond.instanceMethod yX3_holds, Cond.selects RX3 yX3_holds yX3_holds, Cond.code yX3_holds cX3_holds 2 (some .boolean), Cond.fieldLink RX3 25 "PinCylinderModel" "thrown" "I", Cond.methodLink RX3 190 yX3_windOf, Cond.instanceMethod yX3_windOf, Cond.selects RX3 yX3_windOf yX3_windOf, Cond.code yX3_windOf cX3_windOf 4 (some .int), Cond.fieldLink RX3 7 "PinCylinderModel" "s" "[I", Cond.methodLink RX3 178 yX3_putAside, Cond.instanceMethod yX3_putAside, Cond.selects RX3 yX3_putAside yX3_putAside, Cond.code yX3_putAside cX3_putAside 2 none, Cond.fieldLink RX3 13 "PinCylinderModel" "aside" "[I", Cond.methodLink RX3 93 yX3_need, Cond.instanceMethod yX3_need, Cond.selects RX3 yX3_need yX3_need, Cond.code yX3_need cX3_need 3 (some .int), Cond.methodLink RX3 83 yX3_nextTune]
noncomputable def wsX3_windFor_r2 : List Cond := [Cond.instanceMethod yX3_nextTune, Cond.selects RX3 yX3_nextTune yX3_nextTune, Cond.code yX3_nextTune cX3_nextTune 1 (some .int), Cond.methodLink RX3 79 yX3_nextStep, Cond.instanceMethod yX3_nextStep, Cond.selects RX3 yX3_nextStep yX3_nextStep, Cond.code yX3_nextStep cX3_nextStep 1 (some .int), Cond.methodLink RX3 50 yX3_isPin, Cond.instanceMethod yX3_isPin, Cond.selects RX3 yX3_isPin yX3_isPin, Cond.code yX3_isPin cX3_isPin 4 (some .boolean), Cond.methodLink RX3 46 yX3_ofPins, Cond.static yX3_ofPins, Cond.code yX3_ofPins cX3_ofPins 2 (some .int), Cond.methodLink RX3 86 yX3_of, Cond.static yX3_of, Cond.code yX3_of cX3_of 2 (some .int), Cond.methodLink RX3 181 yX3_putBack, Cond.instanceMethod yX3_putBack, Cond.selects RX3 yX3_putBack yX3_putBack, Cond.code yX3_putBack cX3_putBack 2 none]
noncomputable def wsX3_windFor : List Cond := .code yX3_windFor cX3_windFor 2 (some .int) :: ((wsX3_windFor_r1 ++ wsX3_windFor_r2) ++ wsX30)
noncomputable def wsX3_share : List Cond := .code yX3_share cX3_share 2 (some .double) :: ([.fieldLink RX3 7 "PinCylinderModel" "s" "[I"] ++ wsX30)
noncomputable def wsX3_clean : List Cond := .code yX3_clean cX3_clean 1 (some .double) :: ([.fieldLink RX3 25 "PinCylinderModel" "thrown" "I", .methodLink RX3 193 yX3_share, .instanceMethod yX3_share, .selects RX3 yX3_share yX3_share, .initialized RX3, .code yX3_share cX3_share 2 (some .double), .fieldLink RX3 7 "PinCylinderModel" "s" "[I"] ++ wsX30)
noncomputable def wsX3_bitsOf : List Cond := .code yX3_bitsOf cX3_bitsOf 6 (some .long) :: ([.constantLong RX3 197 (1023), .constantDouble RX3 199 (4611686018427387904), .constantLong RX3 201 (4503599627370496), .constantDouble RX3 203 (4841369599423283200)])
noncomputable def wsX3_digestOne : List Cond := .code yX3_digestOne cX3_digestOne 3 none :: ([.constantLong RX3 205 (31), .fieldLink RX3 207 "PinCylinderModel" "digested" "J"] ++ wsX30)
noncomputable def wsX3_digestCylinder_r1 : List Cond := [Cond.fieldLink RX3 7 "PinCylinderModel" "s" "[I", Cond.methodLink RX3 163 yX3_ofTune, Cond.instanceMethod yX3_ofTune, Cond.selects RX3 yX3_ofTune yX3_ofTune, Cond.initialized RX3, Cond.code yX3_ofTune cX3_ofTune 3 (some .int), Cond.methodLink RX3 63 yX3_pinsOf, Cond.instanceMethod yX3_pinsOf, Cond.selects RX3 yX3_pinsOf yX3_pinsOf, Cond.code yX3_pinsOf cX3_pinsOf 4 (some .int), Cond.methodLink RX3 46 yX3_ofPins, Cond.static yX3_ofPins, Cond.code yX3_ofPins cX3_ofPins 2 (some .int), Cond.methodLink RX3 59 yX3_ones, Cond.static yX3_ones, Cond.code yX3_ones cX3_ones 3 (some .int), Cond.methodLink RX3 157 yX3_fullest, Cond.instanceMethod yX3_fullest, Cond.selects RX3 yX3_fullest yX3_fullest, Cond.code yX3_fullest cX3_fullest 4 (some .int), Cond.methodLink RX3 56 yX3_pinsAt, Cond.instanceMethod yX3_pinsAt, Cond.selects RX3 yX3_pinsAt yX3_pinsAt, Cond.code yX3_pinsAt cX3_pinsAt 5 (some .int)]
noncomputable def wsX3_digestCylinder_r2 : List Cond := [Cond.methodLink RX3 50 yX3_isPin, Cond.instanceMethod yX3_isPin, Cond.selects RX3 yX3_isPin yX3_isPin, Cond.code yX3_isPin cX3_isPin 4 (some .boolean), Cond.methodLink RX3 160 yX3_teethOf, Cond.instanceMethod yX3_teethOf, Cond.selects RX3 yX3_teethOf yX3_teethOf, Cond.code yX3_teethOf cX3_teethOf 4 (some .int), Cond.methodLink RX3 211 yX3_digestOne, Cond.instanceMethod yX3_digestOne, Cond.selects RX3 yX3_digestOne yX3_digestOne, Cond.code yX3_digestOne cX3_digestOne 3 none, Cond.constantLong RX3 205 (31), Cond.fieldLink RX3 207 "PinCylinderModel" "digested" "J", Cond.methodLink RX3 169 yX3_ofTooth, Cond.instanceMethod yX3_ofTooth, Cond.selects RX3 yX3_ofTooth yX3_ofTooth, Cond.code yX3_ofTooth cX3_ofTooth 3 (some .int), Cond.methodLink RX3 86 yX3_of, Cond.static yX3_of, Cond.code yX3_of cX3_of 2 (some .int), Cond.methodLink RX3 166 yX3_widest, Cond.instanceMethod yX3_widest, Cond.selects RX3 yX3_widest yX3_widest]
noncomputable def wsX3_digestCylinder_r3 : List Cond := [Cond.code yX3_widest cX3_widest 7 (some .int)]
noncomputable def wsX3_digestCylinder : List Cond := .code yX3_digestCylinder cX3_digestCylinder 3 none :: ((wsX3_digestCylinder_r1 ++ (wsX3_digestCylinder_r2 ++ wsX3_digestCylinder_r3)) ++ wsX30)
noncomputable def wsX3_digest_r1 : List Cond := [Cond.fieldLink RX3 25 "PinCylinderModel" "thrown" "I", Cond.constantLong RX3 215 (3797), Cond.fieldLink RX3 207 "PinCylinderModel" "digested" "J", Cond.fieldLink RX3 114 "PinCylinderModel" "length" "I", Cond.fieldLink RX3 22 "PinCylinderModel" "text" "[I", Cond.methodLink RX3 175 yX3_counted, Cond.instanceMethod yX3_counted, Cond.selects RX3 yX3_counted yX3_counted, Cond.initialized RX3, Cond.code yX3_counted cX3_counted 2 (some .int), Cond.fieldLink RX3 7 "PinCylinderModel" "s" "[I", Cond.fieldLink RX3 43 "PinCylinderModel" "savedMany" "I", Cond.methodLink RX3 172 yX3_teethThat, Cond.instanceMethod yX3_teethThat, Cond.selects RX3 yX3_teethThat yX3_teethThat, Cond.code yX3_teethThat cX3_teethThat 4 (some .int), Cond.methodLink RX3 86 yX3_of, Cond.static yX3_of, Cond.code yX3_of cX3_of 2 (some .int), Cond.methodLink RX3 154 yX3_allPins, Cond.instanceMethod yX3_allPins, Cond.selects RX3 yX3_allPins yX3_allPins, Cond.code yX3_allPins cX3_allPins 1 (some .int), Cond.methodLink RX3 63 yX3_pinsOf]
noncomputable def wsX3_digest_r2 : List Cond := [Cond.instanceMethod yX3_pinsOf, Cond.selects RX3 yX3_pinsOf yX3_pinsOf, Cond.code yX3_pinsOf cX3_pinsOf 4 (some .int), Cond.methodLink RX3 46 yX3_ofPins, Cond.static yX3_ofPins, Cond.code yX3_ofPins cX3_ofPins 2 (some .int), Cond.methodLink RX3 59 yX3_ones, Cond.static yX3_ones, Cond.code yX3_ones cX3_ones 3 (some .int), Cond.methodLink RX3 211 yX3_digestOne, Cond.instanceMethod yX3_digestOne, Cond.selects RX3 yX3_digestOne yX3_digestOne, Cond.code yX3_digestOne cX3_digestOne 3 none, Cond.constantLong RX3 205 (31), Cond.methodLink RX3 217 yX3_digestCylinder, Cond.instanceMethod yX3_digestCylinder, Cond.selects RX3 yX3_digestCylinder yX3_digestCylinder, Cond.code yX3_digestCylinder cX3_digestCylinder 3 none, Cond.methodLink RX3 163 yX3_ofTune, Cond.instanceMethod yX3_ofTune, Cond.selects RX3 yX3_ofTune yX3_ofTune, Cond.code yX3_ofTune cX3_ofTune 3 (some .int), Cond.methodLink RX3 157 yX3_fullest, Cond.instanceMethod yX3_fullest]
noncomputable def wsX3_digest_r3 : List Cond := [Cond.selects RX3 yX3_fullest yX3_fullest, Cond.code yX3_fullest cX3_fullest 4 (some .int), Cond.methodLink RX3 56 yX3_pinsAt, Cond.instanceMethod yX3_pinsAt, Cond.selects RX3 yX3_pinsAt yX3_pinsAt, Cond.code yX3_pinsAt cX3_pinsAt 5 (some .int), Cond.methodLink RX3 50 yX3_isPin, Cond.instanceMethod yX3_isPin, Cond.selects RX3 yX3_isPin yX3_isPin, Cond.code yX3_isPin cX3_isPin 4 (some .boolean), Cond.methodLink RX3 160 yX3_teethOf, Cond.instanceMethod yX3_teethOf, Cond.selects RX3 yX3_teethOf yX3_teethOf, Cond.code yX3_teethOf cX3_teethOf 4 (some .int), Cond.methodLink RX3 169 yX3_ofTooth, Cond.instanceMethod yX3_ofTooth, Cond.selects RX3 yX3_ofTooth yX3_ofTooth, Cond.code yX3_ofTooth cX3_ofTooth 3 (some .int), Cond.methodLink RX3 166 yX3_widest, Cond.instanceMethod yX3_widest, Cond.selects RX3 yX3_widest yX3_widest, Cond.code yX3_widest cX3_widest 7 (some .int), Cond.methodLink RX3 184 yX3_wouldBe, Cond.instanceMethod yX3_wouldBe]
noncomputable def wsX3_digest_r4 : List Cond := [Cond.selects RX3 yX3_wouldBe yX3_wouldBe, Cond.code yX3_wouldBe cX3_wouldBe 8 (some .int), Cond.fieldLink RX3 13 "PinCylinderModel" "aside" "[I", Cond.methodLink RX3 178 yX3_putAside, Cond.instanceMethod yX3_putAside, Cond.selects RX3 yX3_putAside yX3_putAside, Cond.code yX3_putAside cX3_putAside 2 none, Cond.methodLink RX3 107 yX3_goesOn, Cond.instanceMethod yX3_goesOn, Cond.selects RX3 yX3_goesOn yX3_goesOn, Cond.code yX3_goesOn cX3_goesOn 3 (some .int), Cond.methodLink RX3 100 yX3_goes, Cond.instanceMethod yX3_goes, Cond.selects RX3 yX3_goes yX3_goes, Cond.code yX3_goes cX3_goes 4 (some .boolean), Cond.methodLink RX3 93 yX3_need, Cond.instanceMethod yX3_need, Cond.selects RX3 yX3_need yX3_need, Cond.code yX3_need cX3_need 3 (some .int), Cond.methodLink RX3 83 yX3_nextTune, Cond.instanceMethod yX3_nextTune, Cond.selects RX3 yX3_nextTune yX3_nextTune, Cond.code yX3_nextTune cX3_nextTune 1 (some .int), Cond.methodLink RX3 79 yX3_nextStep]
noncomputable def wsX3_digest_r5 : List Cond := [Cond.instanceMethod yX3_nextStep, Cond.selects RX3 yX3_nextStep yX3_nextStep, Cond.code yX3_nextStep cX3_nextStep 1 (some .int), Cond.methodLink RX3 96 yX3_plucks, Cond.instanceMethod yX3_plucks, Cond.selects RX3 yX3_plucks yX3_plucks, Cond.code yX3_plucks cX3_plucks 4 none, Cond.methodLink RX3 89 yX3_sounds, Cond.instanceMethod yX3_sounds, Cond.selects RX3 yX3_sounds yX3_sounds, Cond.code yX3_sounds cX3_sounds 4 none, Cond.methodLink RX3 181 yX3_putBack, Cond.instanceMethod yX3_putBack, Cond.selects RX3 yX3_putBack yX3_putBack, Cond.code yX3_putBack cX3_putBack 2 none, Cond.methodLink RX3 187 yX3_quietVanes, Cond.instanceMethod yX3_quietVanes, Cond.selects RX3 yX3_quietVanes yX3_quietVanes, Cond.code yX3_quietVanes cX3_quietVanes 4 (some .int), Cond.methodLink RX3 190 yX3_windOf, Cond.instanceMethod yX3_windOf, Cond.selects RX3 yX3_windOf yX3_windOf, Cond.code yX3_windOf cX3_windOf 4 (some .int), Cond.methodLink RX3 193 yX3_share]
noncomputable def wsX3_digest_r6 : List Cond := [Cond.instanceMethod yX3_share, Cond.selects RX3 yX3_share yX3_share, Cond.code yX3_share cX3_share 2 (some .double), Cond.methodLink RX3 220 yX3_bitsOf, Cond.static yX3_bitsOf, Cond.code yX3_bitsOf cX3_bitsOf 6 (some .long), Cond.constantLong RX3 197 (1023), Cond.constantDouble RX3 199 (4611686018427387904), Cond.constantLong RX3 201 (4503599627370496), Cond.constantDouble RX3 203 (4841369599423283200)]
noncomputable def wsX3_digest : List Cond := .code yX3_digest cX3_digest 2 (some .long) :: ((wsX3_digest_r1 ++ (wsX3_digest_r2 ++ (wsX3_digest_r3 ++ (wsX3_digest_r4 ++ (wsX3_digest_r5 ++ wsX3_digest_r6))))) ++ wsX30)
noncomputable def wsJ9_max_7cf53 : List Cond := .code yJ9_max_7cf53 cJ9_max_7cf53 2 (some .int) :: ([])
noncomputable def wsJ9_min_7cf53 : List Cond := .code yJ9_min_7cf53 cJ9_min_7cf53 2 (some .int) :: ([])
noncomputable def wsL_pin_r1 : List Cond := [Cond.classLink RL 13 "java/lang/IndexOutOfBoundsException", Cond.classLink RL 15 "java/lang/IllegalStateException", Cond.methodLink RL 7 yX2_pin, Cond.instanceMethod yX2_pin, Cond.selects RX2 yX2_pin yX2_pin, Cond.initialized RX2, Cond.code yX2_pin cX2_pin 4 (some .int), Cond.classLink RX2 55 "java/lang/IndexOutOfBoundsException", Cond.initialized "java/lang/IndexOutOfBoundsException", Cond.classLink RX2 66 "java/lang/IllegalStateException", Cond.initialized "java/lang/IllegalStateException", Cond.fieldLink RX2 12 "PinCylinder" "state" "LPinCylinder$State;", Cond.methodLink RX2 51 yX2_isPlace, Cond.static yX2_isPlace, Cond.code yX2_isPlace cX2_isPlace 3 (some .boolean), Cond.methodLink RX2 82 yX2_isBelow, Cond.static yX2_isBelow, Cond.code yX2_isBelow cX2_isBelow 2 (some .boolean), Cond.methodLink RX2 62 yX1_hindrance, Cond.instanceMethod yX1_hindrance, Cond.selects RX1 yX1_hindrance yX1_hindrance, Cond.initialized RX1, Cond.code yX1_hindrance cX1_hindrance 5 (some .int), Cond.fieldLink RX1 30 "PinCylinder$State" "settings" "[I"]
noncomputable def wsL_pin_r2 : List Cond := [Cond.methodLink RX1 74 yX1_hasPin, Cond.instanceMethod yX1_hasPin, Cond.selects RX1 yX1_hasPin yX1_hasPin, Cond.code yX1_hasPin cX1_hasPin 4 (some .boolean), Cond.methodLink RX1 70 yX1_teethAt, Cond.instanceMethod yX1_teethAt, Cond.selects RX1 yX1_teethAt yX1_teethAt, Cond.code yX1_teethAt cX1_teethAt 3 (some .int), Cond.fieldLink RX1 9 "PinCylinder$State" "chords" "[I", Cond.methodLink RX1 78 yX1_around, Cond.static yX1_around, Cond.code yX1_around cX1_around 1 (some .int), Cond.methodLink RX1 114 yJ9_floorMod_7cf53, Cond.static yJ9_floorMod_7cf53, Cond.initialized RJ9, Cond.code yJ9_floorMod_7cf53 cJ9_floorMod_7cf53 3 (some .int), Cond.methodLink RX1 82 yJ6_bitCount_0f7a4, Cond.static yJ6_bitCount_0f7a4, Cond.initialized RJ6, Cond.code yJ6_bitCount_0f7a4 cJ6_bitCount_0f7a4 1 (some .int), Cond.constant RJ6 265 (1431655765), Cond.constant RJ6 266 (858993459), Cond.constant RJ6 267 (252645135), Cond.methodLink RX2 71 yX2_saveState]
noncomputable def wsL_pin_r3 : List Cond := [Cond.instanceMethod yX2_saveState, Cond.selects RX2 yX2_saveState yX2_saveState, Cond.code yX2_saveState cX2_saveState 1 none, Cond.fieldLink RX2 26 "PinCylinder" "saved" "[LPinCylinder$State;", Cond.fieldLink RX2 30 "PinCylinder" "oldestSaved" "I", Cond.fieldLink RX2 34 "PinCylinder" "savedCount" "I", Cond.methodLink RX2 168 yX1_become, Cond.instanceMethod yX1_become, Cond.selects RX1 yX1_become yX1_become, Cond.code yX1_become cX1_become 2 none, Cond.methodLink RX1 64 arraycopyName, Cond.native arraycopyName, Cond.static arraycopyName, Cond.initialized "java/lang/System", Cond.fieldLink RX1 15 "PinCylinder$State" "restsAt" "[I", Cond.fieldLink RX1 18 "PinCylinder$State" "wear" "[I", Cond.fieldLink RX1 21 "PinCylinder$State" "notesOf" "[I", Cond.fieldLink RX1 24 "PinCylinder$State" "keptTeeth" "[I", Cond.fieldLink RX1 27 "PinCylinder$State" "keptTimes" "[I", Cond.fieldLink RX1 33 "PinCylinder$State" "broken" "I", Cond.fieldLink RX1 37 "PinCylinder$State" "place" "I", Cond.fieldLink RX1 40 "PinCylinder$State" "played" "I", Cond.fieldLink RX1 43 "PinCylinder$State" "wind" "I", Cond.fieldLink RX1 46 "PinCylinder$State" "vanes" "I"]
noncomputable def wsL_pin_r4 : List Cond := [Cond.fieldLink RX1 49 "PinCylinder$State" "time" "I", Cond.fieldLink RX1 52 "PinCylinder$State" "stepsDone" "I", Cond.fieldLink RX1 55 "PinCylinder$State" "notes" "I", Cond.fieldLink RX1 58 "PinCylinder$State" "squeaks" "I", Cond.fieldLink RX1 61 "PinCylinder$State" "windNeeded" "I", Cond.methodLink RX2 74 yX1_putPin, Cond.instanceMethod yX1_putPin, Cond.selects RX1 yX1_putPin yX1_putPin, Cond.code yX1_putPin cX1_putPin 4 none, Cond.methodLink RX2 78 yX1_pinsOf, Cond.instanceMethod yX1_pinsOf, Cond.selects RX1 yX1_pinsOf yX1_pinsOf, Cond.code yX1_pinsOf cX1_pinsOf 4 (some .int)]
noncomputable def wsL_pin : List Cond := .codeWith yL_pin cL_pin 6 (some .int) [(0, 12, 15, 13), (0, 12, 19, 15)] :: ((wsL_pin_r1 ++ (wsL_pin_r2 ++ (wsL_pin_r3 ++ wsL_pin_r4))) ++ wsX20 ++ wsX10 ++ (vx_atS RX2 59 "java/lang/IndexOutOfBoundsException" ["java/lang/RuntimeException", "java/lang/Exception"]).filter goodWord ++ (vx_atS RX2 70 "java/lang/IllegalStateException" ["java/lang/RuntimeException", "java/lang/Exception"]).filter goodWord)
noncomputable def wsL_pull_r1 : List Cond := [Cond.classLink RL 13 "java/lang/IndexOutOfBoundsException", Cond.classLink RL 21 "java/lang/IllegalArgumentException", Cond.methodLink RL 17 yX2_pull, Cond.instanceMethod yX2_pull, Cond.selects RX2 yX2_pull yX2_pull, Cond.initialized RX2, Cond.code yX2_pull cX2_pull 5 (some .int), Cond.classLink RX2 55 "java/lang/IndexOutOfBoundsException", Cond.initialized "java/lang/IndexOutOfBoundsException", Cond.classLink RX2 86 "java/lang/IllegalArgumentException", Cond.initialized "java/lang/IllegalArgumentException", Cond.fieldLink RX2 12 "PinCylinder" "state" "LPinCylinder$State;", Cond.methodLink RX2 51 yX2_isPlace, Cond.static yX2_isPlace, Cond.code yX2_isPlace cX2_isPlace 3 (some .boolean), Cond.methodLink RX2 82 yX2_isBelow, Cond.static yX2_isBelow, Cond.code yX2_isBelow cX2_isBelow 2 (some .boolean), Cond.methodLink RX2 71 yX2_saveState, Cond.instanceMethod yX2_saveState, Cond.selects RX2 yX2_saveState yX2_saveState, Cond.code yX2_saveState cX2_saveState 1 none, Cond.fieldLink RX2 26 "PinCylinder" "saved" "[LPinCylinder$State;", Cond.fieldLink RX2 30 "PinCylinder" "oldestSaved" "I"]
noncomputable def wsL_pull_r2 : List Cond := [Cond.fieldLink RX2 34 "PinCylinder" "savedCount" "I", Cond.methodLink RX2 168 yX1_become, Cond.instanceMethod yX1_become, Cond.selects RX1 yX1_become yX1_become, Cond.initialized RX1, Cond.code yX1_become cX1_become 2 none, Cond.fieldLink RX1 9 "PinCylinder$State" "chords" "[I", Cond.methodLink RX1 64 arraycopyName, Cond.native arraycopyName, Cond.static arraycopyName, Cond.initialized "java/lang/System", Cond.fieldLink RX1 15 "PinCylinder$State" "restsAt" "[I", Cond.fieldLink RX1 18 "PinCylinder$State" "wear" "[I", Cond.fieldLink RX1 21 "PinCylinder$State" "notesOf" "[I", Cond.fieldLink RX1 24 "PinCylinder$State" "keptTeeth" "[I", Cond.fieldLink RX1 27 "PinCylinder$State" "keptTimes" "[I", Cond.fieldLink RX1 30 "PinCylinder$State" "settings" "[I", Cond.fieldLink RX1 33 "PinCylinder$State" "broken" "I", Cond.fieldLink RX1 37 "PinCylinder$State" "place" "I", Cond.fieldLink RX1 40 "PinCylinder$State" "played" "I", Cond.fieldLink RX1 43 "PinCylinder$State" "wind" "I", Cond.fieldLink RX1 46 "PinCylinder$State" "vanes" "I", Cond.fieldLink RX1 49 "PinCylinder$State" "time" "I", Cond.fieldLink RX1 52 "PinCylinder$State" "stepsDone" "I"]
noncomputable def wsL_pull_r3 : List Cond := [Cond.fieldLink RX1 55 "PinCylinder$State" "notes" "I", Cond.fieldLink RX1 58 "PinCylinder$State" "squeaks" "I", Cond.fieldLink RX1 61 "PinCylinder$State" "windNeeded" "I", Cond.methodLink RX2 91 yX1_takeRange, Cond.instanceMethod yX1_takeRange, Cond.selects RX1 yX1_takeRange yX1_takeRange, Cond.code yX1_takeRange cX1_takeRange 7 (some .int), Cond.methodLink RX1 74 yX1_hasPin, Cond.instanceMethod yX1_hasPin, Cond.selects RX1 yX1_hasPin yX1_hasPin, Cond.code yX1_hasPin cX1_hasPin 4 (some .boolean), Cond.methodLink RX1 70 yX1_teethAt, Cond.instanceMethod yX1_teethAt, Cond.selects RX1 yX1_teethAt yX1_teethAt, Cond.code yX1_teethAt cX1_teethAt 3 (some .int)]
noncomputable def wsL_pull : List Cond := .codeWith yL_pull cL_pull 7 (some .int) [(0, 14, 17, 13), (0, 14, 21, 21)] :: ((wsL_pull_r1 ++ (wsL_pull_r2 ++ wsL_pull_r3)) ++ wsX20 ++ wsX10 ++ (vx_atS RX2 59 "java/lang/IndexOutOfBoundsException" ["java/lang/RuntimeException", "java/lang/Exception"]).filter goodWord ++ (vx_atS RX2 90 "java/lang/IllegalArgumentException" ["java/lang/RuntimeException", "java/lang/Exception"]).filter goodWord)
noncomputable def wsL_copy_r1 : List Cond := [Cond.classLink RL 13 "java/lang/IndexOutOfBoundsException", Cond.classLink RL 21 "java/lang/IllegalArgumentException", Cond.methodLink RL 23 yX2_copy, Cond.instanceMethod yX2_copy, Cond.selects RX2 yX2_copy yX2_copy, Cond.initialized RX2, Cond.code yX2_copy cX2_copy 5 (some .int), Cond.classLink RX2 55 "java/lang/IndexOutOfBoundsException", Cond.initialized "java/lang/IndexOutOfBoundsException", Cond.classLink RX2 86 "java/lang/IllegalArgumentException", Cond.initialized "java/lang/IllegalArgumentException", Cond.fieldLink RX2 12 "PinCylinder" "state" "LPinCylinder$State;", Cond.methodLink RX2 82 yX2_isBelow, Cond.static yX2_isBelow, Cond.code yX2_isBelow cX2_isBelow 2 (some .boolean), Cond.methodLink RX2 97 yX2_isWithin, Cond.static yX2_isWithin, Cond.code yX2_isWithin cX2_isWithin 3 (some .boolean), Cond.methodLink RX2 71 yX2_saveState, Cond.instanceMethod yX2_saveState, Cond.selects RX2 yX2_saveState yX2_saveState, Cond.code yX2_saveState cX2_saveState 1 none, Cond.fieldLink RX2 26 "PinCylinder" "saved" "[LPinCylinder$State;", Cond.fieldLink RX2 30 "PinCylinder" "oldestSaved" "I"]
noncomputable def wsL_copy_r2 : List Cond := [Cond.fieldLink RX2 34 "PinCylinder" "savedCount" "I", Cond.methodLink RX2 168 yX1_become, Cond.instanceMethod yX1_become, Cond.selects RX1 yX1_become yX1_become, Cond.initialized RX1, Cond.code yX1_become cX1_become 2 none, Cond.fieldLink RX1 9 "PinCylinder$State" "chords" "[I", Cond.methodLink RX1 64 arraycopyName, Cond.native arraycopyName, Cond.static arraycopyName, Cond.initialized "java/lang/System", Cond.fieldLink RX1 15 "PinCylinder$State" "restsAt" "[I", Cond.fieldLink RX1 18 "PinCylinder$State" "wear" "[I", Cond.fieldLink RX1 21 "PinCylinder$State" "notesOf" "[I", Cond.fieldLink RX1 24 "PinCylinder$State" "keptTeeth" "[I", Cond.fieldLink RX1 27 "PinCylinder$State" "keptTimes" "[I", Cond.fieldLink RX1 30 "PinCylinder$State" "settings" "[I", Cond.fieldLink RX1 33 "PinCylinder$State" "broken" "I", Cond.fieldLink RX1 37 "PinCylinder$State" "place" "I", Cond.fieldLink RX1 40 "PinCylinder$State" "played" "I", Cond.fieldLink RX1 43 "PinCylinder$State" "wind" "I", Cond.fieldLink RX1 46 "PinCylinder$State" "vanes" "I", Cond.fieldLink RX1 49 "PinCylinder$State" "time" "I", Cond.fieldLink RX1 52 "PinCylinder$State" "stepsDone" "I"]
noncomputable def wsL_copy_r3 : List Cond := [Cond.fieldLink RX1 55 "PinCylinder$State" "notes" "I", Cond.fieldLink RX1 58 "PinCylinder$State" "squeaks" "I", Cond.fieldLink RX1 61 "PinCylinder$State" "windNeeded" "I", Cond.methodLink RX2 102 yX1_replaceTune, Cond.instanceMethod yX1_replaceTune, Cond.selects RX1 yX1_replaceTune yX1_replaceTune, Cond.code yX1_replaceTune cX1_replaceTune 9 none, Cond.methodLink RX1 70 yX1_teethAt, Cond.instanceMethod yX1_teethAt, Cond.selects RX1 yX1_teethAt yX1_teethAt, Cond.code yX1_teethAt cX1_teethAt 3 (some .int), Cond.methodLink RX1 78 yX1_around, Cond.static yX1_around, Cond.code yX1_around cX1_around 1 (some .int), Cond.methodLink RX1 114 yJ9_floorMod_7cf53, Cond.static yJ9_floorMod_7cf53, Cond.initialized RJ9, Cond.code yJ9_floorMod_7cf53 cJ9_floorMod_7cf53 3 (some .int), Cond.methodLink RX2 78 yX1_pinsOf, Cond.instanceMethod yX1_pinsOf, Cond.selects RX1 yX1_pinsOf yX1_pinsOf, Cond.code yX1_pinsOf cX1_pinsOf 4 (some .int), Cond.methodLink RX1 82 yJ6_bitCount_0f7a4, Cond.static yJ6_bitCount_0f7a4]
noncomputable def wsL_copy_r4 : List Cond := [Cond.initialized RJ6, Cond.code yJ6_bitCount_0f7a4 cJ6_bitCount_0f7a4 1 (some .int), Cond.constant RJ6 265 (1431655765), Cond.constant RJ6 266 (858993459), Cond.constant RJ6 267 (252645135)]
noncomputable def wsL_copy : List Cond := .codeWith yL_copy cL_copy 7 (some .int) [(0, 14, 17, 13), (0, 14, 21, 21)] :: ((wsL_copy_r1 ++ (wsL_copy_r2 ++ (wsL_copy_r3 ++ wsL_copy_r4))) ++ wsX20 ++ wsX10 ++ (vx_atS RX2 59 "java/lang/IndexOutOfBoundsException" ["java/lang/RuntimeException", "java/lang/Exception"]).filter goodWord ++ (vx_atS RX2 90 "java/lang/IllegalArgumentException" ["java/lang/RuntimeException", "java/lang/Exception"]).filter goodWord)
noncomputable def wsL_wind_r1 : List Cond := [Cond.classLink RL 21 "java/lang/IllegalArgumentException", Cond.methodLink RL 26 yX2_wind, Cond.instanceMethod yX2_wind, Cond.selects RX2 yX2_wind yX2_wind, Cond.initialized RX2, Cond.code yX2_wind cX2_wind 2 (some .int), Cond.classLink RX2 86 "java/lang/IllegalArgumentException", Cond.initialized "java/lang/IllegalArgumentException", Cond.fieldLink RX2 12 "PinCylinder" "state" "LPinCylinder$State;", Cond.methodLink RX2 111 Lib.Math.min.name, Cond.static Lib.Math.min.name, Cond.initialized "java/lang/Math", Cond.code Lib.Math.min.name Lib.Math.min.code 2 (some .int), Cond.methodLink RX2 97 yX2_isWithin, Cond.static yX2_isWithin, Cond.code yX2_isWithin cX2_isWithin 3 (some .boolean), Cond.methodLink RX2 71 yX2_saveState, Cond.instanceMethod yX2_saveState, Cond.selects RX2 yX2_saveState yX2_saveState, Cond.code yX2_saveState cX2_saveState 1 none, Cond.fieldLink RX2 26 "PinCylinder" "saved" "[LPinCylinder$State;", Cond.fieldLink RX2 30 "PinCylinder" "oldestSaved" "I", Cond.fieldLink RX2 34 "PinCylinder" "savedCount" "I", Cond.methodLink RX2 168 yX1_become]
noncomputable def wsL_wind_r2 : List Cond := [Cond.instanceMethod yX1_become, Cond.selects RX1 yX1_become yX1_become, Cond.initialized RX1, Cond.code yX1_become cX1_become 2 none, Cond.fieldLink RX1 9 "PinCylinder$State" "chords" "[I", Cond.methodLink RX1 64 arraycopyName, Cond.native arraycopyName, Cond.static arraycopyName, Cond.initialized "java/lang/System", Cond.fieldLink RX1 15 "PinCylinder$State" "restsAt" "[I", Cond.fieldLink RX1 18 "PinCylinder$State" "wear" "[I", Cond.fieldLink RX1 21 "PinCylinder$State" "notesOf" "[I", Cond.fieldLink RX1 24 "PinCylinder$State" "keptTeeth" "[I", Cond.fieldLink RX1 27 "PinCylinder$State" "keptTimes" "[I", Cond.fieldLink RX1 30 "PinCylinder$State" "settings" "[I", Cond.fieldLink RX1 33 "PinCylinder$State" "broken" "I", Cond.fieldLink RX1 37 "PinCylinder$State" "place" "I", Cond.fieldLink RX1 40 "PinCylinder$State" "played" "I", Cond.fieldLink RX1 43 "PinCylinder$State" "wind" "I", Cond.fieldLink RX1 46 "PinCylinder$State" "vanes" "I", Cond.fieldLink RX1 49 "PinCylinder$State" "time" "I", Cond.fieldLink RX1 52 "PinCylinder$State" "stepsDone" "I", Cond.fieldLink RX1 55 "PinCylinder$State" "notes" "I", Cond.fieldLink RX1 58 "PinCylinder$State" "squeaks" "I"]
noncomputable def wsL_wind_r3 : List Cond := [Cond.fieldLink RX1 61 "PinCylinder$State" "windNeeded" "I"]
noncomputable def wsL_wind : List Cond := .codeWith yL_wind cL_wind 4 (some .int) [(0, 9, 12, 21)] :: ((wsL_wind_r1 ++ (wsL_wind_r2 ++ wsL_wind_r3)) ++ wsX20 ++ wsX10 ++ (vx_atS RX2 90 "java/lang/IllegalArgumentException" ["java/lang/RuntimeException", "java/lang/Exception"]).filter goodWord)
noncomputable def wsL_vanes_r1 : List Cond := [Cond.classLink RL 21 "java/lang/IllegalArgumentException", Cond.methodLink RL 30 yX2_vanes, Cond.instanceMethod yX2_vanes, Cond.selects RX2 yX2_vanes yX2_vanes, Cond.initialized RX2, Cond.code yX2_vanes cX2_vanes 3 (some .int), Cond.classLink RX2 86 "java/lang/IllegalArgumentException", Cond.initialized "java/lang/IllegalArgumentException", Cond.fieldLink RX2 12 "PinCylinder" "state" "LPinCylinder$State;", Cond.methodLink RX2 97 yX2_isWithin, Cond.static yX2_isWithin, Cond.code yX2_isWithin cX2_isWithin 3 (some .boolean), Cond.methodLink RX2 71 yX2_saveState, Cond.instanceMethod yX2_saveState, Cond.selects RX2 yX2_saveState yX2_saveState, Cond.code yX2_saveState cX2_saveState 1 none, Cond.fieldLink RX2 26 "PinCylinder" "saved" "[LPinCylinder$State;", Cond.fieldLink RX2 30 "PinCylinder" "oldestSaved" "I", Cond.fieldLink RX2 34 "PinCylinder" "savedCount" "I", Cond.methodLink RX2 168 yX1_become, Cond.instanceMethod yX1_become, Cond.selects RX1 yX1_become yX1_become, Cond.initialized RX1, Cond.code yX1_become cX1_become 2 none]
noncomputable def wsL_vanes_r2 : List Cond := [Cond.fieldLink RX1 9 "PinCylinder$State" "chords" "[I", Cond.methodLink RX1 64 arraycopyName, Cond.native arraycopyName, Cond.static arraycopyName, Cond.initialized "java/lang/System", Cond.fieldLink RX1 15 "PinCylinder$State" "restsAt" "[I", Cond.fieldLink RX1 18 "PinCylinder$State" "wear" "[I", Cond.fieldLink RX1 21 "PinCylinder$State" "notesOf" "[I", Cond.fieldLink RX1 24 "PinCylinder$State" "keptTeeth" "[I", Cond.fieldLink RX1 27 "PinCylinder$State" "keptTimes" "[I", Cond.fieldLink RX1 30 "PinCylinder$State" "settings" "[I", Cond.fieldLink RX1 33 "PinCylinder$State" "broken" "I", Cond.fieldLink RX1 37 "PinCylinder$State" "place" "I", Cond.fieldLink RX1 40 "PinCylinder$State" "played" "I", Cond.fieldLink RX1 43 "PinCylinder$State" "wind" "I", Cond.fieldLink RX1 46 "PinCylinder$State" "vanes" "I", Cond.fieldLink RX1 49 "PinCylinder$State" "time" "I", Cond.fieldLink RX1 52 "PinCylinder$State" "stepsDone" "I", Cond.fieldLink RX1 55 "PinCylinder$State" "notes" "I", Cond.fieldLink RX1 58 "PinCylinder$State" "squeaks" "I", Cond.fieldLink RX1 61 "PinCylinder$State" "windNeeded" "I"]
noncomputable def wsL_vanes : List Cond := .codeWith yL_vanes cL_vanes 4 (some .int) [(0, 9, 12, 21)] :: ((wsL_vanes_r1 ++ wsL_vanes_r2) ++ wsX20 ++ wsX10 ++ (vx_atS RX2 90 "java/lang/IllegalArgumentException" ["java/lang/RuntimeException", "java/lang/Exception"]).filter goodWord)
noncomputable def wsL_shift_r1 : List Cond := [Cond.classLink RL 13 "java/lang/IndexOutOfBoundsException", Cond.methodLink RL 33 yX2_shift, Cond.instanceMethod yX2_shift, Cond.selects RX2 yX2_shift yX2_shift, Cond.initialized RX2, Cond.code yX2_shift cX2_shift 3 (some .int), Cond.classLink RX2 55 "java/lang/IndexOutOfBoundsException", Cond.initialized "java/lang/IndexOutOfBoundsException", Cond.fieldLink RX2 12 "PinCylinder" "state" "LPinCylinder$State;", Cond.methodLink RX2 82 yX2_isBelow, Cond.static yX2_isBelow, Cond.code yX2_isBelow cX2_isBelow 2 (some .boolean), Cond.methodLink RX2 71 yX2_saveState, Cond.instanceMethod yX2_saveState, Cond.selects RX2 yX2_saveState yX2_saveState, Cond.code yX2_saveState cX2_saveState 1 none, Cond.fieldLink RX2 26 "PinCylinder" "saved" "[LPinCylinder$State;", Cond.fieldLink RX2 30 "PinCylinder" "oldestSaved" "I", Cond.fieldLink RX2 34 "PinCylinder" "savedCount" "I", Cond.methodLink RX2 168 yX1_become, Cond.instanceMethod yX1_become, Cond.selects RX1 yX1_become yX1_become, Cond.initialized RX1, Cond.code yX1_become cX1_become 2 none]
noncomputable def wsL_shift_r2 : List Cond := [Cond.fieldLink RX1 9 "PinCylinder$State" "chords" "[I", Cond.methodLink RX1 64 arraycopyName, Cond.native arraycopyName, Cond.static arraycopyName, Cond.initialized "java/lang/System", Cond.fieldLink RX1 15 "PinCylinder$State" "restsAt" "[I", Cond.fieldLink RX1 18 "PinCylinder$State" "wear" "[I", Cond.fieldLink RX1 21 "PinCylinder$State" "notesOf" "[I", Cond.fieldLink RX1 24 "PinCylinder$State" "keptTeeth" "[I", Cond.fieldLink RX1 27 "PinCylinder$State" "keptTimes" "[I", Cond.fieldLink RX1 30 "PinCylinder$State" "settings" "[I", Cond.fieldLink RX1 33 "PinCylinder$State" "broken" "I", Cond.fieldLink RX1 37 "PinCylinder$State" "place" "I", Cond.fieldLink RX1 40 "PinCylinder$State" "played" "I", Cond.fieldLink RX1 43 "PinCylinder$State" "wind" "I", Cond.fieldLink RX1 46 "PinCylinder$State" "vanes" "I", Cond.fieldLink RX1 49 "PinCylinder$State" "time" "I", Cond.fieldLink RX1 52 "PinCylinder$State" "stepsDone" "I", Cond.fieldLink RX1 55 "PinCylinder$State" "notes" "I", Cond.fieldLink RX1 58 "PinCylinder$State" "squeaks" "I", Cond.fieldLink RX1 61 "PinCylinder$State" "windNeeded" "I"]
noncomputable def wsL_shift : List Cond := .codeWith yL_shift cL_shift 4 (some .int) [(0, 9, 12, 13)] :: ((wsL_shift_r1 ++ wsL_shift_r2) ++ wsX20 ++ wsX10 ++ (vx_atS RX2 59 "java/lang/IndexOutOfBoundsException" ["java/lang/RuntimeException", "java/lang/Exception"]).filter goodWord)
noncomputable def wsL_play_r1 : List Cond := [Cond.classLink RL 21 "java/lang/IllegalArgumentException", Cond.methodLink RL 36 yX2_play, Cond.instanceMethod yX2_play, Cond.selects RX2 yX2_play yX2_play, Cond.initialized RX2, Cond.code yX2_play cX2_play 2 (some .int), Cond.classLink RX2 86 "java/lang/IllegalArgumentException", Cond.initialized "java/lang/IllegalArgumentException", Cond.fieldLink RX2 12 "PinCylinder" "state" "LPinCylinder$State;", Cond.methodLink RX2 97 yX2_isWithin, Cond.static yX2_isWithin, Cond.code yX2_isWithin cX2_isWithin 3 (some .boolean), Cond.methodLink RX2 71 yX2_saveState, Cond.instanceMethod yX2_saveState, Cond.selects RX2 yX2_saveState yX2_saveState, Cond.code yX2_saveState cX2_saveState 1 none, Cond.fieldLink RX2 26 "PinCylinder" "saved" "[LPinCylinder$State;", Cond.fieldLink RX2 30 "PinCylinder" "oldestSaved" "I", Cond.fieldLink RX2 34 "PinCylinder" "savedCount" "I", Cond.methodLink RX2 168 yX1_become, Cond.instanceMethod yX1_become, Cond.selects RX1 yX1_become yX1_become, Cond.initialized RX1, Cond.code yX1_become cX1_become 2 none]
noncomputable def wsL_play_r2 : List Cond := [Cond.fieldLink RX1 9 "PinCylinder$State" "chords" "[I", Cond.methodLink RX1 64 arraycopyName, Cond.native arraycopyName, Cond.static arraycopyName, Cond.initialized "java/lang/System", Cond.fieldLink RX1 15 "PinCylinder$State" "restsAt" "[I", Cond.fieldLink RX1 18 "PinCylinder$State" "wear" "[I", Cond.fieldLink RX1 21 "PinCylinder$State" "notesOf" "[I", Cond.fieldLink RX1 24 "PinCylinder$State" "keptTeeth" "[I", Cond.fieldLink RX1 27 "PinCylinder$State" "keptTimes" "[I", Cond.fieldLink RX1 30 "PinCylinder$State" "settings" "[I", Cond.fieldLink RX1 33 "PinCylinder$State" "broken" "I", Cond.fieldLink RX1 37 "PinCylinder$State" "place" "I", Cond.fieldLink RX1 40 "PinCylinder$State" "played" "I", Cond.fieldLink RX1 43 "PinCylinder$State" "wind" "I", Cond.fieldLink RX1 46 "PinCylinder$State" "vanes" "I", Cond.fieldLink RX1 49 "PinCylinder$State" "time" "I", Cond.fieldLink RX1 52 "PinCylinder$State" "stepsDone" "I", Cond.fieldLink RX1 55 "PinCylinder$State" "notes" "I", Cond.fieldLink RX1 58 "PinCylinder$State" "squeaks" "I", Cond.fieldLink RX1 61 "PinCylinder$State" "windNeeded" "I", Cond.methodLink RX2 127 yX1_goOnFor, Cond.instanceMethod yX1_goOnFor, Cond.selects RX1 yX1_goOnFor yX1_goOnFor]
noncomputable def wsL_play_r3 : List Cond := [Cond.code yX1_goOnFor cX1_goOnFor 3 (some .int), Cond.methodLink RX1 95 yX1_goOn, Cond.instanceMethod yX1_goOn, Cond.selects RX1 yX1_goOn yX1_goOn, Cond.code yX1_goOn cX1_goOn 7 (some .boolean), Cond.methodLink RX1 105 Lib.Math.max.name, Cond.static Lib.Math.max.name, Cond.initialized "java/lang/Math", Cond.code Lib.Math.max.name Lib.Math.max.code 2 (some .int), Cond.methodLink RX1 78 yX1_around, Cond.static yX1_around, Cond.code yX1_around cX1_around 1 (some .int), Cond.methodLink RX1 114 yJ9_floorMod_7cf53, Cond.static yJ9_floorMod_7cf53, Cond.initialized RJ9, Cond.code yJ9_floorMod_7cf53 cJ9_floorMod_7cf53 3 (some .int), Cond.methodLink RX1 99 yX1_tuneComing, Cond.instanceMethod yX1_tuneComing, Cond.selects RX1 yX1_tuneComing yX1_tuneComing, Cond.code yX1_tuneComing cX1_tuneComing 3 (some .int), Cond.methodLink RX1 70 yX1_teethAt, Cond.instanceMethod yX1_teethAt, Cond.selects RX1 yX1_teethAt yX1_teethAt, Cond.code yX1_teethAt cX1_teethAt 3 (some .int)]
noncomputable def wsL_play_r4 : List Cond := [Cond.methodLink RX1 102 yX1_windOfStep, Cond.instanceMethod yX1_windOfStep, Cond.selects RX1 yX1_windOfStep yX1_windOfStep, Cond.code yX1_windOfStep cX1_windOfStep 3 (some .int), Cond.methodLink RX1 82 yJ6_bitCount_0f7a4, Cond.static yJ6_bitCount_0f7a4, Cond.initialized RJ6, Cond.code yJ6_bitCount_0f7a4 cJ6_bitCount_0f7a4 1 (some .int), Cond.constant RJ6 265 (1431655765), Cond.constant RJ6 266 (858993459), Cond.constant RJ6 267 (252645135), Cond.methodLink RX1 110 yX1_strike, Cond.instanceMethod yX1_strike, Cond.selects RX1 yX1_strike yX1_strike, Cond.code yX1_strike cX1_strike 4 none, Cond.methodLink RX1 117 yX1_ringsFor, Cond.instanceMethod yX1_ringsFor, Cond.selects RX1 yX1_ringsFor yX1_ringsFor, Cond.code yX1_ringsFor cX1_ringsFor 2 (some .int), Cond.methodLink RX1 120 yX1_squeak, Cond.instanceMethod yX1_squeak, Cond.selects RX1 yX1_squeak yX1_squeak, Cond.code yX1_squeak cX1_squeak 2 none, Cond.methodLink RX1 124 yX1_isBroken]
noncomputable def wsL_play_r5 : List Cond := [Cond.instanceMethod yX1_isBroken, Cond.selects RX1 yX1_isBroken yX1_isBroken, Cond.code yX1_isBroken cX1_isBroken 2 (some .boolean), Cond.methodLink RX1 128 yX1_pluck, Cond.instanceMethod yX1_pluck, Cond.selects RX1 yX1_pluck yX1_pluck, Cond.code yX1_pluck cX1_pluck 3 none]
noncomputable def wsL_play : List Cond := .codeWith yL_play cL_play 4 (some .int) [(0, 9, 12, 21)] :: ((wsL_play_r1 ++ (wsL_play_r2 ++ (wsL_play_r3 ++ (wsL_play_r4 ++ wsL_play_r5)))) ++ wsX20 ++ wsX10 ++ (vx_atS RX2 90 "java/lang/IllegalArgumentException" ["java/lang/RuntimeException", "java/lang/Exception"]).filter goodWord)
noncomputable def wsL_mend_r1 : List Cond := [Cond.classLink RL 13 "java/lang/IndexOutOfBoundsException", Cond.methodLink RL 39 yX2_mend, Cond.instanceMethod yX2_mend, Cond.selects RX2 yX2_mend yX2_mend, Cond.initialized RX2, Cond.code yX2_mend cX2_mend 2 (some .int), Cond.classLink RX2 55 "java/lang/IndexOutOfBoundsException", Cond.initialized "java/lang/IndexOutOfBoundsException", Cond.fieldLink RX2 12 "PinCylinder" "state" "LPinCylinder$State;", Cond.methodLink RX2 82 yX2_isBelow, Cond.static yX2_isBelow, Cond.code yX2_isBelow cX2_isBelow 2 (some .boolean), Cond.methodLink RX2 71 yX2_saveState, Cond.instanceMethod yX2_saveState, Cond.selects RX2 yX2_saveState yX2_saveState, Cond.code yX2_saveState cX2_saveState 1 none, Cond.fieldLink RX2 26 "PinCylinder" "saved" "[LPinCylinder$State;", Cond.fieldLink RX2 30 "PinCylinder" "oldestSaved" "I", Cond.fieldLink RX2 34 "PinCylinder" "savedCount" "I", Cond.methodLink RX2 168 yX1_become, Cond.instanceMethod yX1_become, Cond.selects RX1 yX1_become yX1_become, Cond.initialized RX1, Cond.code yX1_become cX1_become 2 none]
noncomputable def wsL_mend_r2 : List Cond := [Cond.fieldLink RX1 9 "PinCylinder$State" "chords" "[I", Cond.methodLink RX1 64 arraycopyName, Cond.native arraycopyName, Cond.static arraycopyName, Cond.initialized "java/lang/System", Cond.fieldLink RX1 15 "PinCylinder$State" "restsAt" "[I", Cond.fieldLink RX1 18 "PinCylinder$State" "wear" "[I", Cond.fieldLink RX1 21 "PinCylinder$State" "notesOf" "[I", Cond.fieldLink RX1 24 "PinCylinder$State" "keptTeeth" "[I", Cond.fieldLink RX1 27 "PinCylinder$State" "keptTimes" "[I", Cond.fieldLink RX1 30 "PinCylinder$State" "settings" "[I", Cond.fieldLink RX1 33 "PinCylinder$State" "broken" "I", Cond.fieldLink RX1 37 "PinCylinder$State" "place" "I", Cond.fieldLink RX1 40 "PinCylinder$State" "played" "I", Cond.fieldLink RX1 43 "PinCylinder$State" "wind" "I", Cond.fieldLink RX1 46 "PinCylinder$State" "vanes" "I", Cond.fieldLink RX1 49 "PinCylinder$State" "time" "I", Cond.fieldLink RX1 52 "PinCylinder$State" "stepsDone" "I", Cond.fieldLink RX1 55 "PinCylinder$State" "notes" "I", Cond.fieldLink RX1 58 "PinCylinder$State" "squeaks" "I", Cond.fieldLink RX1 61 "PinCylinder$State" "windNeeded" "I", Cond.methodLink RX2 132 yX1_mendTooth, Cond.instanceMethod yX1_mendTooth, Cond.selects RX1 yX1_mendTooth yX1_mendTooth]
noncomputable def wsL_mend_r3 : List Cond := [Cond.code yX1_mendTooth cX1_mendTooth 3 (some .int)]
noncomputable def wsL_mend : List Cond := .codeWith yL_mend cL_mend 4 (some .int) [(0, 9, 12, 13)] :: ((wsL_mend_r1 ++ (wsL_mend_r2 ++ wsL_mend_r3)) ++ wsX20 ++ wsX10 ++ (vx_atS RX2 59 "java/lang/IndexOutOfBoundsException" ["java/lang/RuntimeException", "java/lang/Exception"]).filter goodWord)
noncomputable def wsL_set_r1 : List Cond := [Cond.classLink RL 13 "java/lang/IndexOutOfBoundsException", Cond.classLink RL 21 "java/lang/IllegalArgumentException", Cond.methodLink RL 42 yX2_set, Cond.instanceMethod yX2_set, Cond.selects RX2 yX2_set yX2_set, Cond.initialized RX2, Cond.code yX2_set cX2_set 4 (some .int), Cond.classLink RX2 55 "java/lang/IndexOutOfBoundsException", Cond.initialized "java/lang/IndexOutOfBoundsException", Cond.classLink RX2 86 "java/lang/IllegalArgumentException", Cond.initialized "java/lang/IllegalArgumentException", Cond.fieldLink RX2 137 "PinCylinder" "LEAST_VALUE" "[I", Cond.fieldLink RX2 141 "PinCylinder" "MOST_VALUE" "[I", Cond.fieldLink RX2 12 "PinCylinder" "state" "LPinCylinder$State;", Cond.methodLink RX2 82 yX2_isBelow, Cond.static yX2_isBelow, Cond.code yX2_isBelow cX2_isBelow 2 (some .boolean), Cond.methodLink RX2 97 yX2_isWithin, Cond.static yX2_isWithin, Cond.code yX2_isWithin cX2_isWithin 3 (some .boolean), Cond.methodLink RX2 71 yX2_saveState, Cond.instanceMethod yX2_saveState, Cond.selects RX2 yX2_saveState yX2_saveState, Cond.code yX2_saveState cX2_saveState 1 none]
noncomputable def wsL_set_r2 : List Cond := [Cond.fieldLink RX2 26 "PinCylinder" "saved" "[LPinCylinder$State;", Cond.fieldLink RX2 30 "PinCylinder" "oldestSaved" "I", Cond.fieldLink RX2 34 "PinCylinder" "savedCount" "I", Cond.methodLink RX2 168 yX1_become, Cond.instanceMethod yX1_become, Cond.selects RX1 yX1_become yX1_become, Cond.initialized RX1, Cond.code yX1_become cX1_become 2 none, Cond.fieldLink RX1 9 "PinCylinder$State" "chords" "[I", Cond.methodLink RX1 64 arraycopyName, Cond.native arraycopyName, Cond.static arraycopyName, Cond.initialized "java/lang/System", Cond.fieldLink RX1 15 "PinCylinder$State" "restsAt" "[I", Cond.fieldLink RX1 18 "PinCylinder$State" "wear" "[I", Cond.fieldLink RX1 21 "PinCylinder$State" "notesOf" "[I", Cond.fieldLink RX1 24 "PinCylinder$State" "keptTeeth" "[I", Cond.fieldLink RX1 27 "PinCylinder$State" "keptTimes" "[I", Cond.fieldLink RX1 30 "PinCylinder$State" "settings" "[I", Cond.fieldLink RX1 33 "PinCylinder$State" "broken" "I", Cond.fieldLink RX1 37 "PinCylinder$State" "place" "I", Cond.fieldLink RX1 40 "PinCylinder$State" "played" "I", Cond.fieldLink RX1 43 "PinCylinder$State" "wind" "I", Cond.fieldLink RX1 46 "PinCylinder$State" "vanes" "I"]
noncomputable def wsL_set_r3 : List Cond := [Cond.fieldLink RX1 49 "PinCylinder$State" "time" "I", Cond.fieldLink RX1 52 "PinCylinder$State" "stepsDone" "I", Cond.fieldLink RX1 55 "PinCylinder$State" "notes" "I", Cond.fieldLink RX1 58 "PinCylinder$State" "squeaks" "I", Cond.fieldLink RX1 61 "PinCylinder$State" "windNeeded" "I"]
noncomputable def wsL_set : List Cond := .codeWith yL_set cL_set 5 (some .int) [(0, 10, 13, 13), (0, 10, 17, 21)] :: ((wsL_set_r1 ++ (wsL_set_r2 ++ wsL_set_r3)) ++ wsX20 ++ wsX10 ++ (vx_atS RX2 59 "java/lang/IndexOutOfBoundsException" ["java/lang/RuntimeException", "java/lang/Exception"]).filter goodWord ++ (vx_atS RX2 90 "java/lang/IllegalArgumentException" ["java/lang/RuntimeException", "java/lang/Exception"]).filter goodWord)
noncomputable def wsL_append : List Cond := .codeWith yL_append cL_append 4 (some .int) [(0, 9, 12, 21), (0, 9, 15, 15)] :: ([.classLink RL 21 "java/lang/IllegalArgumentException", .classLink RL 15 "java/lang/IllegalStateException", .methodLink RL 46 yX2_append, .instanceMethod yX2_append, .selects RX2 yX2_append yX2_append, .initialized RX2, .code yX2_append cX2_append 2 (some .int), .classLink RX2 86 "java/lang/IllegalArgumentException", .initialized "java/lang/IllegalArgumentException", .classLink RX2 66 "java/lang/IllegalStateException", .initialized "java/lang/IllegalStateException", .fieldLink RX2 41 "PinCylinder" "bufferLength" "I", .fieldLink RX2 37 "PinCylinder" "buffer" "[C", .methodLink RX2 97 yX2_isWithin, .static yX2_isWithin, .code yX2_isWithin cX2_isWithin 3 (some .boolean)] ++ wsX20 ++ (vx_atS RX2 90 "java/lang/IllegalArgumentException" ["java/lang/RuntimeException", "java/lang/Exception"]).filter goodWord ++ (vx_atS RX2 70 "java/lang/IllegalStateException" ["java/lang/RuntimeException", "java/lang/Exception"]).filter goodWord)
noncomputable def wsL_pins_r1 : List Cond := [Cond.classLink RL 21 "java/lang/IllegalArgumentException", Cond.methodLink RL 49 yX2_pins, Cond.instanceMethod yX2_pins, Cond.selects RX2 yX2_pins yX2_pins, Cond.initialized RX2, Cond.code yX2_pins cX2_pins 3 (some .int), Cond.classLink RX2 86 "java/lang/IllegalArgumentException", Cond.initialized "java/lang/IllegalArgumentException", Cond.fieldLink RX2 41 "PinCylinder" "bufferLength" "I", Cond.fieldLink RX2 47 "PinCylinder" "reader" "LPinCylinder$PinReader;", Cond.methodLink RX2 153 yX2_readBuffer, Cond.instanceMethod yX2_readBuffer, Cond.selects RX2 yX2_readBuffer yX2_readBuffer, Cond.code yX2_readBuffer cX2_readBuffer 2 (some .int), Cond.fieldLink RX2 37 "PinCylinder" "buffer" "[C", Cond.methodLink RX2 254 yX0_start, Cond.instanceMethod yX0_start, Cond.selects RX0 yX0_start yX0_start, Cond.initialized RX0, Cond.code yX0_start cX0_start 1 none, Cond.fieldLink RX0 11 "PinCylinder$PinReader" "phase" "I", Cond.methodLink RX2 257 yX0_accepts, Cond.instanceMethod yX0_accepts, Cond.selects RX0 yX0_accepts yX0_accepts]
noncomputable def wsL_pins_r2 : List Cond := [Cond.code yX0_accepts cX0_accepts 2 (some .boolean), Cond.methodLink RX0 27 yX0_acceptsTune, Cond.instanceMethod yX0_acceptsTune, Cond.selects RX0 yX0_acceptsTune yX0_acceptsTune, Cond.code yX0_acceptsTune cX0_acceptsTune 3 (some .boolean), Cond.fieldLink RX0 15 "PinCylinder$PinReader" "tune" "I", Cond.methodLink RX0 53 yX0_digitOf, Cond.static yX0_digitOf, Cond.code yX0_digitOf cX0_digitOf 1 (some .int), Cond.methodLink RX0 31 yX0_goTo, Cond.instanceMethod yX0_goTo, Cond.selects RX0 yX0_goTo yX0_goTo, Cond.code yX0_goTo cX0_goTo 2 (some .boolean), Cond.methodLink RX0 35 yX0_acceptsToothDigit, Cond.instanceMethod yX0_acceptsToothDigit, Cond.selects RX0 yX0_acceptsToothDigit yX0_acceptsToothDigit, Cond.code yX0_acceptsToothDigit cX0_acceptsToothDigit 3 (some .boolean), Cond.fieldLink RX0 18 "PinCylinder$PinReader" "tooth" "I", Cond.methodLink RX0 38 yX0_acceptsToothEnd, Cond.instanceMethod yX0_acceptsToothEnd, Cond.selects RX0 yX0_acceptsToothEnd yX0_acceptsToothEnd, Cond.code yX0_acceptsToothEnd cX0_acceptsToothEnd 3 (some .boolean), Cond.methodLink RX0 57 yX0_lengthened, Cond.static yX0_lengthened]
noncomputable def wsL_pins_r3 : List Cond := [Cond.code yX0_lengthened cX0_lengthened 3 (some .int), Cond.methodLink RX0 41 yX0_acceptsStepDigit, Cond.instanceMethod yX0_acceptsStepDigit, Cond.selects RX0 yX0_acceptsStepDigit yX0_acceptsStepDigit, Cond.code yX0_acceptsStepDigit cX0_acceptsStepDigit 3 (some .boolean), Cond.fieldLink RX0 24 "PinCylinder$PinReader" "number" "I", Cond.methodLink RX0 44 yX0_acceptsBehindStep, Cond.instanceMethod yX0_acceptsBehindStep, Cond.selects RX0 yX0_acceptsBehindStep yX0_acceptsBehindStep, Cond.code yX0_acceptsBehindStep cX0_acceptsBehindStep 3 (some .boolean), Cond.methodLink RX0 61 yX0_isSeparator, Cond.static yX0_isSeparator, Cond.code yX0_isSeparator cX0_isSeparator 1 (some .boolean), Cond.methodLink RX0 64 yX0_acceptsSeparator, Cond.instanceMethod yX0_acceptsSeparator, Cond.selects RX0 yX0_acceptsSeparator yX0_acceptsSeparator, Cond.code yX0_acceptsSeparator cX0_acceptsSeparator 2 (some .boolean), Cond.methodLink RX0 67 yX0_acceptsRange, Cond.instanceMethod yX0_acceptsRange, Cond.selects RX0 yX0_acceptsRange yX0_acceptsRange, Cond.code yX0_acceptsRange cX0_acceptsRange 1 (some .boolean), Cond.fieldLink RX0 21 "PinCylinder$PinReader" "from" "I", Cond.methodLink RX0 47 yX0_acceptsRangeEndDigit, Cond.instanceMethod yX0_acceptsRangeEndDigit]
noncomputable def wsL_pins_r4 : List Cond := [Cond.selects RX0 yX0_acceptsRangeEndDigit yX0_acceptsRangeEndDigit, Cond.code yX0_acceptsRangeEndDigit cX0_acceptsRangeEndDigit 3 (some .boolean), Cond.methodLink RX0 71 yX0_greatestFrom, Cond.static yX0_greatestFrom, Cond.code yX0_greatestFrom cX0_greatestFrom 2 (some .int), Cond.methodLink RX0 75 Lib.Math.min.name, Cond.static Lib.Math.min.name, Cond.initialized "java/lang/Math", Cond.code Lib.Math.min.name Lib.Math.min.code 2 (some .int), Cond.methodLink RX0 50 yX0_acceptsBehindRangeEnd, Cond.instanceMethod yX0_acceptsBehindRangeEnd, Cond.selects RX0 yX0_acceptsBehindRangeEnd yX0_acceptsBehindRangeEnd, Cond.code yX0_acceptsBehindRangeEnd cX0_acceptsBehindRangeEnd 3 (some .boolean), Cond.methodLink RX2 157 yX0_isComplete, Cond.instanceMethod yX0_isComplete, Cond.selects RX0 yX0_isComplete yX0_isComplete, Cond.code yX0_isComplete cX0_isComplete 1 (some .boolean), Cond.methodLink RX2 71 yX2_saveState, Cond.instanceMethod yX2_saveState, Cond.selects RX2 yX2_saveState yX2_saveState, Cond.code yX2_saveState cX2_saveState 1 none, Cond.fieldLink RX2 26 "PinCylinder" "saved" "[LPinCylinder$State;", Cond.fieldLink RX2 30 "PinCylinder" "oldestSaved" "I", Cond.fieldLink RX2 34 "PinCylinder" "savedCount" "I"]
noncomputable def wsL_pins_r5 : List Cond := [Cond.fieldLink RX2 12 "PinCylinder" "state" "LPinCylinder$State;", Cond.methodLink RX2 168 yX1_become, Cond.instanceMethod yX1_become, Cond.selects RX1 yX1_become yX1_become, Cond.initialized RX1, Cond.code yX1_become cX1_become 2 none, Cond.fieldLink RX1 9 "PinCylinder$State" "chords" "[I", Cond.methodLink RX1 64 arraycopyName, Cond.native arraycopyName, Cond.static arraycopyName, Cond.initialized "java/lang/System", Cond.fieldLink RX1 15 "PinCylinder$State" "restsAt" "[I", Cond.fieldLink RX1 18 "PinCylinder$State" "wear" "[I", Cond.fieldLink RX1 21 "PinCylinder$State" "notesOf" "[I", Cond.fieldLink RX1 24 "PinCylinder$State" "keptTeeth" "[I", Cond.fieldLink RX1 27 "PinCylinder$State" "keptTimes" "[I", Cond.fieldLink RX1 30 "PinCylinder$State" "settings" "[I", Cond.fieldLink RX1 33 "PinCylinder$State" "broken" "I", Cond.fieldLink RX1 37 "PinCylinder$State" "place" "I", Cond.fieldLink RX1 40 "PinCylinder$State" "played" "I", Cond.fieldLink RX1 43 "PinCylinder$State" "wind" "I", Cond.fieldLink RX1 46 "PinCylinder$State" "vanes" "I", Cond.fieldLink RX1 49 "PinCylinder$State" "time" "I", Cond.fieldLink RX1 52 "PinCylinder$State" "stepsDone" "I"]
noncomputable def wsL_pins_r6 : List Cond := [Cond.fieldLink RX1 55 "PinCylinder$State" "notes" "I", Cond.fieldLink RX1 58 "PinCylinder$State" "squeaks" "I", Cond.fieldLink RX1 61 "PinCylinder$State" "windNeeded" "I", Cond.methodLink RX2 163 yX2_putBufferPins, Cond.instanceMethod yX2_putBufferPins, Cond.selects RX2 yX2_putBufferPins yX2_putBufferPins, Cond.code yX2_putBufferPins cX2_putBufferPins 3 (some .int), Cond.methodLink RX2 261 yX0_isSeparator, Cond.methodLink RX2 264 yX2_putReadRange, Cond.instanceMethod yX2_putReadRange, Cond.selects RX2 yX2_putReadRange yX2_putReadRange, Cond.code yX2_putReadRange cX2_putReadRange 1 (some .int), Cond.methodLink RX2 273 yX0_rangeStart, Cond.instanceMethod yX0_rangeStart, Cond.selects RX0 yX0_rangeStart yX0_rangeStart, Cond.code yX0_rangeStart cX0_rangeStart 1 (some .int), Cond.methodLink RX2 279 yX1_putRange, Cond.instanceMethod yX1_putRange, Cond.selects RX1 yX1_putRange yX1_putRange, Cond.code yX1_putRange cX1_putRange 7 (some .int), Cond.methodLink RX1 87 yX1_hindrance, Cond.instanceMethod yX1_hindrance, Cond.selects RX1 yX1_hindrance yX1_hindrance, Cond.code yX1_hindrance cX1_hindrance 5 (some .int)]
noncomputable def wsL_pins_r7 : List Cond := [Cond.methodLink RX1 74 yX1_hasPin, Cond.instanceMethod yX1_hasPin, Cond.selects RX1 yX1_hasPin yX1_hasPin, Cond.code yX1_hasPin cX1_hasPin 4 (some .boolean), Cond.methodLink RX1 70 yX1_teethAt, Cond.instanceMethod yX1_teethAt, Cond.selects RX1 yX1_teethAt yX1_teethAt, Cond.code yX1_teethAt cX1_teethAt 3 (some .int), Cond.methodLink RX1 78 yX1_around, Cond.static yX1_around, Cond.code yX1_around cX1_around 1 (some .int), Cond.methodLink RX1 114 yJ9_floorMod_7cf53, Cond.static yJ9_floorMod_7cf53, Cond.initialized RJ9, Cond.code yJ9_floorMod_7cf53 cJ9_floorMod_7cf53 3 (some .int), Cond.methodLink RX1 82 yJ6_bitCount_0f7a4, Cond.static yJ6_bitCount_0f7a4, Cond.initialized RJ6, Cond.code yJ6_bitCount_0f7a4 cJ6_bitCount_0f7a4 1 (some .int), Cond.constant RJ6 265 (1431655765), Cond.constant RJ6 266 (858993459), Cond.constant RJ6 267 (252645135), Cond.methodLink RX1 91 yX1_putPin, Cond.instanceMethod yX1_putPin]
noncomputable def wsL_pins_r8 : List Cond := [Cond.selects RX1 yX1_putPin yX1_putPin, Cond.code yX1_putPin cX1_putPin 4 none]
noncomputable def wsL_pins : List Cond := .codeWith yL_pins cL_pins 3 (some .int) [(0, 8, 11, 21)] :: ((wsL_pins_r1 ++ (wsL_pins_r2 ++ (wsL_pins_r3 ++ (wsL_pins_r4 ++ (wsL_pins_r5 ++ (wsL_pins_r6 ++ (wsL_pins_r7 ++ wsL_pins_r8))))))) ++ wsX20 ++ wsX00 ++ wsX10 ++ (vx_atS RX2 90 "java/lang/IllegalArgumentException" ["java/lang/RuntimeException", "java/lang/Exception"]).filter goodWord)
noncomputable def wsL_undo_r1 : List Cond := [Cond.classLink RL 15 "java/lang/IllegalStateException", Cond.methodLink RL 53 yX2_undo, Cond.instanceMethod yX2_undo, Cond.selects RX2 yX2_undo yX2_undo, Cond.initialized RX2, Cond.code yX2_undo cX2_undo 1 (some .int), Cond.classLink RX2 66 "java/lang/IllegalStateException", Cond.initialized "java/lang/IllegalStateException", Cond.fieldLink RX2 34 "PinCylinder" "savedCount" "I", Cond.fieldLink RX2 12 "PinCylinder" "state" "LPinCylinder$State;", Cond.fieldLink RX2 26 "PinCylinder" "saved" "[LPinCylinder$State;", Cond.fieldLink RX2 30 "PinCylinder" "oldestSaved" "I", Cond.methodLink RX2 168 yX1_become, Cond.instanceMethod yX1_become, Cond.selects RX1 yX1_become yX1_become, Cond.initialized RX1, Cond.code yX1_become cX1_become 2 none, Cond.fieldLink RX1 9 "PinCylinder$State" "chords" "[I", Cond.methodLink RX1 64 arraycopyName, Cond.native arraycopyName, Cond.static arraycopyName, Cond.initialized "java/lang/System", Cond.fieldLink RX1 15 "PinCylinder$State" "restsAt" "[I", Cond.fieldLink RX1 18 "PinCylinder$State" "wear" "[I"]
noncomputable def wsL_undo_r2 : List Cond := [Cond.fieldLink RX1 21 "PinCylinder$State" "notesOf" "[I", Cond.fieldLink RX1 24 "PinCylinder$State" "keptTeeth" "[I", Cond.fieldLink RX1 27 "PinCylinder$State" "keptTimes" "[I", Cond.fieldLink RX1 30 "PinCylinder$State" "settings" "[I", Cond.fieldLink RX1 33 "PinCylinder$State" "broken" "I", Cond.fieldLink RX1 37 "PinCylinder$State" "place" "I", Cond.fieldLink RX1 40 "PinCylinder$State" "played" "I", Cond.fieldLink RX1 43 "PinCylinder$State" "wind" "I", Cond.fieldLink RX1 46 "PinCylinder$State" "vanes" "I", Cond.fieldLink RX1 49 "PinCylinder$State" "time" "I", Cond.fieldLink RX1 52 "PinCylinder$State" "stepsDone" "I", Cond.fieldLink RX1 55 "PinCylinder$State" "notes" "I", Cond.fieldLink RX1 58 "PinCylinder$State" "squeaks" "I", Cond.fieldLink RX1 61 "PinCylinder$State" "windNeeded" "I"]
noncomputable def wsL_undo : List Cond := .codeWith yL_undo cL_undo 3 (some .int) [(0, 8, 11, 15)] :: ((wsL_undo_r1 ++ wsL_undo_r2) ++ wsX20 ++ wsX10 ++ (vx_atS RX2 70 "java/lang/IllegalStateException" ["java/lang/RuntimeException", "java/lang/Exception"]).filter goodWord)
noncomputable def wsL_restore_r1 : List Cond := [Cond.classLink RL 15 "java/lang/IllegalStateException", Cond.methodLink RL 56 yX2_restore, Cond.instanceMethod yX2_restore, Cond.selects RX2 yX2_restore yX2_restore, Cond.initialized RX2, Cond.code yX2_restore cX2_restore 1 (some .int), Cond.classLink RX2 66 "java/lang/IllegalStateException", Cond.initialized "java/lang/IllegalStateException", Cond.fieldLink RX2 22 "PinCylinder" "hasSnapshot" "Z", Cond.fieldLink RX2 12 "PinCylinder" "state" "LPinCylinder$State;", Cond.fieldLink RX2 19 "PinCylinder" "snapshot" "LPinCylinder$State;", Cond.methodLink RX2 71 yX2_saveState, Cond.instanceMethod yX2_saveState, Cond.selects RX2 yX2_saveState yX2_saveState, Cond.code yX2_saveState cX2_saveState 1 none, Cond.fieldLink RX2 26 "PinCylinder" "saved" "[LPinCylinder$State;", Cond.fieldLink RX2 30 "PinCylinder" "oldestSaved" "I", Cond.fieldLink RX2 34 "PinCylinder" "savedCount" "I", Cond.methodLink RX2 168 yX1_become, Cond.instanceMethod yX1_become, Cond.selects RX1 yX1_become yX1_become, Cond.initialized RX1, Cond.code yX1_become cX1_become 2 none, Cond.fieldLink RX1 9 "PinCylinder$State" "chords" "[I"]
noncomputable def wsL_restore_r2 : List Cond := [Cond.methodLink RX1 64 arraycopyName, Cond.native arraycopyName, Cond.static arraycopyName, Cond.initialized "java/lang/System", Cond.fieldLink RX1 15 "PinCylinder$State" "restsAt" "[I", Cond.fieldLink RX1 18 "PinCylinder$State" "wear" "[I", Cond.fieldLink RX1 21 "PinCylinder$State" "notesOf" "[I", Cond.fieldLink RX1 24 "PinCylinder$State" "keptTeeth" "[I", Cond.fieldLink RX1 27 "PinCylinder$State" "keptTimes" "[I", Cond.fieldLink RX1 30 "PinCylinder$State" "settings" "[I", Cond.fieldLink RX1 33 "PinCylinder$State" "broken" "I", Cond.fieldLink RX1 37 "PinCylinder$State" "place" "I", Cond.fieldLink RX1 40 "PinCylinder$State" "played" "I", Cond.fieldLink RX1 43 "PinCylinder$State" "wind" "I", Cond.fieldLink RX1 46 "PinCylinder$State" "vanes" "I", Cond.fieldLink RX1 49 "PinCylinder$State" "time" "I", Cond.fieldLink RX1 52 "PinCylinder$State" "stepsDone" "I", Cond.fieldLink RX1 55 "PinCylinder$State" "notes" "I", Cond.fieldLink RX1 58 "PinCylinder$State" "squeaks" "I", Cond.fieldLink RX1 61 "PinCylinder$State" "windNeeded" "I", Cond.methodLink RX2 172 yX1_pinsOfAll, Cond.instanceMethod yX1_pinsOfAll, Cond.selects RX1 yX1_pinsOfAll yX1_pinsOfAll, Cond.code yX1_pinsOfAll cX1_pinsOfAll 3 (some .int)]
noncomputable def wsL_restore_r3 : List Cond := [Cond.methodLink RX1 137 yX1_pinsOf, Cond.instanceMethod yX1_pinsOf, Cond.selects RX1 yX1_pinsOf yX1_pinsOf, Cond.code yX1_pinsOf cX1_pinsOf 4 (some .int), Cond.methodLink RX1 70 yX1_teethAt, Cond.instanceMethod yX1_teethAt, Cond.selects RX1 yX1_teethAt yX1_teethAt, Cond.code yX1_teethAt cX1_teethAt 3 (some .int), Cond.methodLink RX1 82 yJ6_bitCount_0f7a4, Cond.static yJ6_bitCount_0f7a4, Cond.initialized RJ6, Cond.code yJ6_bitCount_0f7a4 cJ6_bitCount_0f7a4 1 (some .int), Cond.constant RJ6 265 (1431655765), Cond.constant RJ6 266 (858993459), Cond.constant RJ6 267 (252645135)]
noncomputable def wsL_restore : List Cond := .codeWith yL_restore cL_restore 3 (some .int) [(0, 8, 11, 15)] :: ((wsL_restore_r1 ++ (wsL_restore_r2 ++ wsL_restore_r3)) ++ wsX20 ++ wsX10 ++ (vx_atS RX2 70 "java/lang/IllegalStateException" ["java/lang/RuntimeException", "java/lang/Exception"]).filter goodWord)
noncomputable def wsL_whyNot_r1 : List Cond := [Cond.classLink RL 13 "java/lang/IndexOutOfBoundsException", Cond.methodLink RL 59 yX2_whyNot, Cond.instanceMethod yX2_whyNot, Cond.selects RX2 yX2_whyNot yX2_whyNot, Cond.initialized RX2, Cond.code yX2_whyNot cX2_whyNot 4 (some .int), Cond.classLink RX2 55 "java/lang/IndexOutOfBoundsException", Cond.initialized "java/lang/IndexOutOfBoundsException", Cond.fieldLink RX2 12 "PinCylinder" "state" "LPinCylinder$State;", Cond.methodLink RX2 51 yX2_isPlace, Cond.static yX2_isPlace, Cond.code yX2_isPlace cX2_isPlace 3 (some .boolean), Cond.methodLink RX2 82 yX2_isBelow, Cond.static yX2_isBelow, Cond.code yX2_isBelow cX2_isBelow 2 (some .boolean), Cond.methodLink RX2 62 yX1_hindrance, Cond.instanceMethod yX1_hindrance, Cond.selects RX1 yX1_hindrance yX1_hindrance, Cond.initialized RX1, Cond.code yX1_hindrance cX1_hindrance 5 (some .int), Cond.fieldLink RX1 30 "PinCylinder$State" "settings" "[I", Cond.methodLink RX1 74 yX1_hasPin, Cond.instanceMethod yX1_hasPin, Cond.selects RX1 yX1_hasPin yX1_hasPin]
noncomputable def wsL_whyNot_r2 : List Cond := [Cond.code yX1_hasPin cX1_hasPin 4 (some .boolean), Cond.methodLink RX1 70 yX1_teethAt, Cond.instanceMethod yX1_teethAt, Cond.selects RX1 yX1_teethAt yX1_teethAt, Cond.code yX1_teethAt cX1_teethAt 3 (some .int), Cond.fieldLink RX1 9 "PinCylinder$State" "chords" "[I", Cond.methodLink RX1 78 yX1_around, Cond.static yX1_around, Cond.code yX1_around cX1_around 1 (some .int), Cond.methodLink RX1 114 yJ9_floorMod_7cf53, Cond.static yJ9_floorMod_7cf53, Cond.initialized RJ9, Cond.code yJ9_floorMod_7cf53 cJ9_floorMod_7cf53 3 (some .int), Cond.methodLink RX1 82 yJ6_bitCount_0f7a4, Cond.static yJ6_bitCount_0f7a4, Cond.initialized RJ6, Cond.code yJ6_bitCount_0f7a4 cJ6_bitCount_0f7a4 1 (some .int), Cond.constant RJ6 265 (1431655765), Cond.constant RJ6 266 (858993459), Cond.constant RJ6 267 (252645135)]
noncomputable def wsL_whyNot : List Cond := .codeWith yL_whyNot cL_whyNot 6 (some .int) [(0, 12, 15, 13)] :: ((wsL_whyNot_r1 ++ wsL_whyNot_r2) ++ wsX20 ++ wsX10 ++ (vx_atS RX2 59 "java/lang/IndexOutOfBoundsException" ["java/lang/RuntimeException", "java/lang/Exception"]).filter goodWord)
noncomputable def wsL_next_r1 : List Cond := [Cond.classLink RL 13 "java/lang/IndexOutOfBoundsException", Cond.methodLink RL 62 yX2_next, Cond.instanceMethod yX2_next, Cond.selects RX2 yX2_next yX2_next, Cond.initialized RX2, Cond.code yX2_next cX2_next 4 (some .int), Cond.classLink RX2 55 "java/lang/IndexOutOfBoundsException", Cond.initialized "java/lang/IndexOutOfBoundsException", Cond.fieldLink RX2 12 "PinCylinder" "state" "LPinCylinder$State;", Cond.methodLink RX2 51 yX2_isPlace, Cond.static yX2_isPlace, Cond.code yX2_isPlace cX2_isPlace 3 (some .boolean), Cond.methodLink RX2 82 yX2_isBelow, Cond.static yX2_isBelow, Cond.code yX2_isBelow cX2_isBelow 2 (some .boolean), Cond.methodLink RX2 177 yX1_pinFrom, Cond.instanceMethod yX1_pinFrom, Cond.selects RX1 yX1_pinFrom yX1_pinFrom, Cond.initialized RX1, Cond.code yX1_pinFrom cX1_pinFrom 6 (some .int), Cond.methodLink RX1 78 yX1_around, Cond.static yX1_around, Cond.code yX1_around cX1_around 1 (some .int), Cond.methodLink RX1 114 yJ9_floorMod_7cf53]
noncomputable def wsL_next_r2 : List Cond := [Cond.static yJ9_floorMod_7cf53, Cond.initialized RJ9, Cond.code yJ9_floorMod_7cf53 cJ9_floorMod_7cf53 3 (some .int), Cond.methodLink RX1 74 yX1_hasPin, Cond.instanceMethod yX1_hasPin, Cond.selects RX1 yX1_hasPin yX1_hasPin, Cond.code yX1_hasPin cX1_hasPin 4 (some .boolean), Cond.methodLink RX1 70 yX1_teethAt, Cond.instanceMethod yX1_teethAt, Cond.selects RX1 yX1_teethAt yX1_teethAt, Cond.code yX1_teethAt cX1_teethAt 3 (some .int), Cond.fieldLink RX1 9 "PinCylinder$State" "chords" "[I"]
noncomputable def wsL_next : List Cond := .codeWith yL_next cL_next 6 (some .int) [(0, 12, 15, 13)] :: ((wsL_next_r1 ++ wsL_next_r2) ++ wsX20 ++ wsX10 ++ (vx_atS RX2 59 "java/lang/IndexOutOfBoundsException" ["java/lang/RuntimeException", "java/lang/Exception"]).filter goodWord)
noncomputable def wsL_tune_r1 : List Cond := [Cond.classLink RL 13 "java/lang/IndexOutOfBoundsException", Cond.classLink RL 21 "java/lang/IllegalArgumentException", Cond.methodLink RL 65 yX2_tune, Cond.instanceMethod yX2_tune, Cond.selects RX2 yX2_tune yX2_tune, Cond.initialized RX2, Cond.code yX2_tune cX2_tune 3 (some .int), Cond.classLink RX2 55 "java/lang/IndexOutOfBoundsException", Cond.initialized "java/lang/IndexOutOfBoundsException", Cond.classLink RX2 86 "java/lang/IllegalArgumentException", Cond.initialized "java/lang/IllegalArgumentException", Cond.fieldLink RX2 12 "PinCylinder" "state" "LPinCylinder$State;", Cond.methodLink RX2 82 yX2_isBelow, Cond.static yX2_isBelow, Cond.code yX2_isBelow cX2_isBelow 2 (some .boolean), Cond.methodLink RX2 182 yX1_numberOfTune, Cond.instanceMethod yX1_numberOfTune, Cond.selects RX1 yX1_numberOfTune yX1_numberOfTune, Cond.initialized RX1, Cond.code yX1_numberOfTune cX1_numberOfTune 3 (some .int), Cond.methodLink RX1 137 yX1_pinsOf, Cond.instanceMethod yX1_pinsOf, Cond.selects RX1 yX1_pinsOf yX1_pinsOf, Cond.code yX1_pinsOf cX1_pinsOf 4 (some .int)]
noncomputable def wsL_tune_r2 : List Cond := [Cond.methodLink RX1 70 yX1_teethAt, Cond.instanceMethod yX1_teethAt, Cond.selects RX1 yX1_teethAt yX1_teethAt, Cond.code yX1_teethAt cX1_teethAt 3 (some .int), Cond.fieldLink RX1 9 "PinCylinder$State" "chords" "[I", Cond.methodLink RX1 82 yJ6_bitCount_0f7a4, Cond.static yJ6_bitCount_0f7a4, Cond.initialized RJ6, Cond.code yJ6_bitCount_0f7a4 cJ6_bitCount_0f7a4 1 (some .int), Cond.constant RJ6 265 (1431655765), Cond.constant RJ6 266 (858993459), Cond.constant RJ6 267 (252645135), Cond.methodLink RX1 140 yX1_pinsByTooth, Cond.instanceMethod yX1_pinsByTooth, Cond.selects RX1 yX1_pinsByTooth yX1_pinsByTooth, Cond.code yX1_pinsByTooth cX1_pinsByTooth 5 (some .int), Cond.methodLink RX1 74 yX1_hasPin, Cond.instanceMethod yX1_hasPin, Cond.selects RX1 yX1_hasPin yX1_hasPin, Cond.code yX1_hasPin cX1_hasPin 4 (some .boolean), Cond.methodLink RX1 143 yX1_fullestStep, Cond.instanceMethod yX1_fullestStep, Cond.selects RX1 yX1_fullestStep yX1_fullestStep, Cond.code yX1_fullestStep cX1_fullestStep 4 (some .int)]
noncomputable def wsL_tune_r3 : List Cond := [Cond.methodLink RX1 146 yX1_teethUsed, Cond.instanceMethod yX1_teethUsed, Cond.selects RX1 yX1_teethUsed yX1_teethUsed, Cond.code yX1_teethUsed cX1_teethUsed 4 (some .int)]
noncomputable def wsL_tune : List Cond := .codeWith yL_tune cL_tune 5 (some .int) [(0, 10, 13, 13), (0, 10, 17, 21)] :: ((wsL_tune_r1 ++ (wsL_tune_r2 ++ wsL_tune_r3)) ++ wsX20 ++ wsX10 ++ (vx_atS RX2 59 "java/lang/IndexOutOfBoundsException" ["java/lang/RuntimeException", "java/lang/Exception"]).filter goodWord ++ (vx_atS RX2 90 "java/lang/IllegalArgumentException" ["java/lang/RuntimeException", "java/lang/Exception"]).filter goodWord)
noncomputable def wsL_chord : List Cond := .codeWith yL_chord cL_chord 5 (some .int) [(0, 10, 13, 13)] :: ([.classLink RL 13 "java/lang/IndexOutOfBoundsException", .methodLink RL 68 yX2_chord, .instanceMethod yX2_chord, .selects RX2 yX2_chord yX2_chord, .initialized RX2, .code yX2_chord cX2_chord 3 (some .int), .classLink RX2 55 "java/lang/IndexOutOfBoundsException", .initialized "java/lang/IndexOutOfBoundsException", .fieldLink RX2 12 "PinCylinder" "state" "LPinCylinder$State;", .methodLink RX2 82 yX2_isBelow, .static yX2_isBelow, .code yX2_isBelow cX2_isBelow 2 (some .boolean), .methodLink RX2 187 yX1_teethAt, .instanceMethod yX1_teethAt, .selects RX1 yX1_teethAt yX1_teethAt, .initialized RX1, .code yX1_teethAt cX1_teethAt 3 (some .int), .fieldLink RX1 9 "PinCylinder$State" "chords" "[I"] ++ wsX20 ++ wsX10 ++ (vx_atS RX2 59 "java/lang/IndexOutOfBoundsException" ["java/lang/RuntimeException", "java/lang/Exception"]).filter goodWord)
noncomputable def wsL_tooth_r1 : List Cond := [Cond.classLink RL 13 "java/lang/IndexOutOfBoundsException", Cond.classLink RL 21 "java/lang/IllegalArgumentException", Cond.methodLink RL 71 yX2_tooth, Cond.instanceMethod yX2_tooth, Cond.selects RX2 yX2_tooth yX2_tooth, Cond.initialized RX2, Cond.code yX2_tooth cX2_tooth 3 (some .int), Cond.classLink RX2 55 "java/lang/IndexOutOfBoundsException", Cond.initialized "java/lang/IndexOutOfBoundsException", Cond.classLink RX2 86 "java/lang/IllegalArgumentException", Cond.initialized "java/lang/IllegalArgumentException", Cond.fieldLink RX2 12 "PinCylinder" "state" "LPinCylinder$State;", Cond.methodLink RX2 82 yX2_isBelow, Cond.static yX2_isBelow, Cond.code yX2_isBelow cX2_isBelow 2 (some .boolean), Cond.methodLink RX2 190 yX1_numberOfTooth, Cond.instanceMethod yX1_numberOfTooth, Cond.selects RX1 yX1_numberOfTooth yX1_numberOfTooth, Cond.initialized RX1, Cond.code yX1_numberOfTooth cX1_numberOfTooth 3 (some .int), Cond.fieldLink RX1 18 "PinCylinder$State" "wear" "[I", Cond.fieldLink RX1 21 "PinCylinder$State" "notesOf" "[I", Cond.fieldLink RX1 40 "PinCylinder$State" "played" "I", Cond.methodLink RX1 117 yX1_ringsFor]
noncomputable def wsL_tooth_r2 : List Cond := [Cond.instanceMethod yX1_ringsFor, Cond.selects RX1 yX1_ringsFor yX1_ringsFor, Cond.code yX1_ringsFor cX1_ringsFor 2 (some .int), Cond.fieldLink RX1 15 "PinCylinder$State" "restsAt" "[I", Cond.fieldLink RX1 49 "PinCylinder$State" "time" "I", Cond.methodLink RX1 105 Lib.Math.max.name, Cond.static Lib.Math.max.name, Cond.initialized "java/lang/Math", Cond.code Lib.Math.max.name Lib.Math.max.code 2 (some .int), Cond.methodLink RX1 124 yX1_isBroken, Cond.instanceMethod yX1_isBroken, Cond.selects RX1 yX1_isBroken yX1_isBroken, Cond.code yX1_isBroken cX1_isBroken 2 (some .boolean), Cond.fieldLink RX1 33 "PinCylinder$State" "broken" "I", Cond.methodLink RX1 149 yX1_widestGap, Cond.instanceMethod yX1_widestGap, Cond.selects RX1 yX1_widestGap yX1_widestGap, Cond.code yX1_widestGap cX1_widestGap 7 (some .int), Cond.methodLink RX1 74 yX1_hasPin, Cond.instanceMethod yX1_hasPin, Cond.selects RX1 yX1_hasPin yX1_hasPin, Cond.code yX1_hasPin cX1_hasPin 4 (some .boolean), Cond.methodLink RX1 70 yX1_teethAt, Cond.instanceMethod yX1_teethAt]
noncomputable def wsL_tooth_r3 : List Cond := [Cond.selects RX1 yX1_teethAt yX1_teethAt, Cond.code yX1_teethAt cX1_teethAt 3 (some .int), Cond.fieldLink RX1 9 "PinCylinder$State" "chords" "[I"]
noncomputable def wsL_tooth : List Cond := .codeWith yL_tooth cL_tooth 5 (some .int) [(0, 10, 13, 13), (0, 10, 17, 21)] :: ((wsL_tooth_r1 ++ (wsL_tooth_r2 ++ wsL_tooth_r3)) ++ wsX20 ++ wsX10 ++ (vx_atS RX2 59 "java/lang/IndexOutOfBoundsException" ["java/lang/RuntimeException", "java/lang/Exception"]).filter goodWord ++ (vx_atS RX2 90 "java/lang/IllegalArgumentException" ["java/lang/RuntimeException", "java/lang/Exception"]).filter goodWord)
noncomputable def wsL_note_r1 : List Cond := [Cond.classLink RL 21 "java/lang/IllegalArgumentException", Cond.methodLink RL 74 yX2_note, Cond.instanceMethod yX2_note, Cond.selects RX2 yX2_note yX2_note, Cond.initialized RX2, Cond.code yX2_note cX2_note 3 (some .int), Cond.classLink RX2 86 "java/lang/IllegalArgumentException", Cond.initialized "java/lang/IllegalArgumentException", Cond.fieldLink RX2 12 "PinCylinder" "state" "LPinCylinder$State;", Cond.methodLink RX2 82 yX2_isBelow, Cond.static yX2_isBelow, Cond.code yX2_isBelow cX2_isBelow 2 (some .boolean), Cond.methodLink RX2 195 yX1_notesKept, Cond.instanceMethod yX1_notesKept, Cond.selects RX1 yX1_notesKept yX1_notesKept, Cond.initialized RX1, Cond.code yX1_notesKept cX1_notesKept 1 (some .int), Cond.fieldLink RX1 55 "PinCylinder$State" "notes" "I", Cond.methodLink RX1 131 Lib.Math.min.name, Cond.static Lib.Math.min.name, Cond.initialized "java/lang/Math", Cond.code Lib.Math.min.name Lib.Math.min.code 2 (some .int), Cond.methodLink RX2 198 yX1_noteTooth, Cond.instanceMethod yX1_noteTooth]
noncomputable def wsL_note_r2 : List Cond := [Cond.selects RX1 yX1_noteTooth yX1_noteTooth, Cond.code yX1_noteTooth cX1_noteTooth 2 (some .int), Cond.fieldLink RX1 24 "PinCylinder$State" "keptTeeth" "[I", Cond.methodLink RX1 134 yX1_slotOf, Cond.instanceMethod yX1_slotOf, Cond.selects RX1 yX1_slotOf yX1_slotOf, Cond.code yX1_slotOf cX1_slotOf 2 (some .int), Cond.methodLink RX1 114 yJ9_floorMod_7cf53, Cond.static yJ9_floorMod_7cf53, Cond.initialized RJ9, Cond.code yJ9_floorMod_7cf53 cJ9_floorMod_7cf53 3 (some .int), Cond.methodLink RX2 201 yX1_noteTime, Cond.instanceMethod yX1_noteTime, Cond.selects RX1 yX1_noteTime yX1_noteTime, Cond.code yX1_noteTime cX1_noteTime 2 (some .int), Cond.fieldLink RX1 27 "PinCylinder$State" "keptTimes" "[I"]
noncomputable def wsL_note : List Cond := .codeWith yL_note cL_note 5 (some .int) [(0, 10, 13, 21)] :: ((wsL_note_r1 ++ wsL_note_r2) ++ wsX20 ++ wsX10 ++ (vx_atS RX2 90 "java/lang/IllegalArgumentException" ["java/lang/RuntimeException", "java/lang/Exception"]).filter goodWord)
noncomputable def wsL_count_r1 : List Cond := [Cond.classLink RL 21 "java/lang/IllegalArgumentException", Cond.methodLink RL 77 yX2_count, Cond.instanceMethod yX2_count, Cond.selects RX2 yX2_count yX2_count, Cond.initialized RX2, Cond.code yX2_count cX2_count 2 (some .int), Cond.classLink RX2 86 "java/lang/IllegalArgumentException", Cond.initialized "java/lang/IllegalArgumentException", Cond.methodLink RX2 82 yX2_isBelow, Cond.static yX2_isBelow, Cond.code yX2_isBelow cX2_isBelow 2 (some .boolean), Cond.methodLink RX2 206 yX2_numberNow, Cond.instanceMethod yX2_numberNow, Cond.selects RX2 yX2_numberNow yX2_numberNow, Cond.code yX2_numberNow cX2_numberNow 2 (some .int), Cond.fieldLink RX2 34 "PinCylinder" "savedCount" "I", Cond.fieldLink RX2 12 "PinCylinder" "state" "LPinCylinder$State;", Cond.methodLink RX2 297 yX1_numberOfState, Cond.instanceMethod yX1_numberOfState, Cond.selects RX1 yX1_numberOfState yX1_numberOfState, Cond.initialized RX1, Cond.code yX1_numberOfState cX1_numberOfState 2 (some .int), Cond.fieldLink RX1 37 "PinCylinder$State" "place" "I", Cond.fieldLink RX1 40 "PinCylinder$State" "played" "I"]
noncomputable def wsL_count_r2 : List Cond := [Cond.fieldLink RX1 43 "PinCylinder$State" "wind" "I", Cond.fieldLink RX1 46 "PinCylinder$State" "vanes" "I", Cond.fieldLink RX1 49 "PinCylinder$State" "time" "I", Cond.fieldLink RX1 52 "PinCylinder$State" "stepsDone" "I", Cond.fieldLink RX1 55 "PinCylinder$State" "notes" "I", Cond.fieldLink RX1 58 "PinCylinder$State" "squeaks" "I", Cond.fieldLink RX1 61 "PinCylinder$State" "windNeeded" "I", Cond.fieldLink RX1 30 "PinCylinder$State" "settings" "[I", Cond.methodLink RX1 152 yX1_teethRinging, Cond.instanceMethod yX1_teethRinging, Cond.selects RX1 yX1_teethRinging yX1_teethRinging, Cond.code yX1_teethRinging cX1_teethRinging 3 (some .int), Cond.methodLink RX1 117 yX1_ringsFor, Cond.instanceMethod yX1_ringsFor, Cond.selects RX1 yX1_ringsFor yX1_ringsFor, Cond.code yX1_ringsFor cX1_ringsFor 2 (some .int), Cond.fieldLink RX1 15 "PinCylinder$State" "restsAt" "[I", Cond.methodLink RX1 105 Lib.Math.max.name, Cond.static Lib.Math.max.name, Cond.initialized "java/lang/Math", Cond.code Lib.Math.max.name Lib.Math.max.code 2 (some .int), Cond.methodLink RX1 156 yX1_teethBroken, Cond.instanceMethod yX1_teethBroken, Cond.selects RX1 yX1_teethBroken yX1_teethBroken]
noncomputable def wsL_count_r3 : List Cond := [Cond.code yX1_teethBroken cX1_teethBroken 1 (some .int), Cond.fieldLink RX1 33 "PinCylinder$State" "broken" "I", Cond.methodLink RX1 82 yJ6_bitCount_0f7a4, Cond.static yJ6_bitCount_0f7a4, Cond.initialized RJ6, Cond.code yJ6_bitCount_0f7a4 cJ6_bitCount_0f7a4 1 (some .int), Cond.constant RJ6 265 (1431655765), Cond.constant RJ6 266 (858993459), Cond.constant RJ6 267 (252645135), Cond.methodLink RX1 159 yX1_pinsOfAll, Cond.instanceMethod yX1_pinsOfAll, Cond.selects RX1 yX1_pinsOfAll yX1_pinsOfAll, Cond.code yX1_pinsOfAll cX1_pinsOfAll 3 (some .int), Cond.methodLink RX1 137 yX1_pinsOf, Cond.instanceMethod yX1_pinsOf, Cond.selects RX1 yX1_pinsOf yX1_pinsOf, Cond.code yX1_pinsOf cX1_pinsOf 4 (some .int), Cond.methodLink RX1 70 yX1_teethAt, Cond.instanceMethod yX1_teethAt, Cond.selects RX1 yX1_teethAt yX1_teethAt, Cond.code yX1_teethAt cX1_teethAt 3 (some .int), Cond.fieldLink RX1 9 "PinCylinder$State" "chords" "[I", Cond.methodLink RX1 114 yJ9_floorMod_7cf53, Cond.static yJ9_floorMod_7cf53]
noncomputable def wsL_count_r4 : List Cond := [Cond.initialized RJ9, Cond.code yJ9_floorMod_7cf53 cJ9_floorMod_7cf53 3 (some .int)]
noncomputable def wsL_count : List Cond := .codeWith yL_count cL_count 4 (some .int) [(0, 9, 12, 21)] :: ((wsL_count_r1 ++ (wsL_count_r2 ++ (wsL_count_r3 ++ wsL_count_r4))) ++ wsX20 ++ wsX10 ++ (vx_atS RX2 90 "java/lang/IllegalArgumentException" ["java/lang/RuntimeException", "java/lang/Exception"]).filter goodWord)
noncomputable def wsL_ifPlayed_r1 : List Cond := [Cond.classLink RL 21 "java/lang/IllegalArgumentException", Cond.methodLink RL 80 yX2_ifPlayed, Cond.instanceMethod yX2_ifPlayed, Cond.selects RX2 yX2_ifPlayed yX2_ifPlayed, Cond.initialized RX2, Cond.code yX2_ifPlayed cX2_ifPlayed 3 (some .int), Cond.classLink RX2 86 "java/lang/IllegalArgumentException", Cond.initialized "java/lang/IllegalArgumentException", Cond.fieldLink RX2 12 "PinCylinder" "state" "LPinCylinder$State;", Cond.methodLink RX2 97 yX2_isWithin, Cond.static yX2_isWithin, Cond.code yX2_isWithin cX2_isWithin 3 (some .boolean), Cond.methodLink RX2 82 yX2_isBelow, Cond.static yX2_isBelow, Cond.code yX2_isBelow cX2_isBelow 2 (some .boolean), Cond.methodLink RX2 211 yX2_tryOut, Cond.instanceMethod yX2_tryOut, Cond.selects RX2 yX2_tryOut yX2_tryOut, Cond.code yX2_tryOut cX2_tryOut 3 none, Cond.fieldLink RX2 16 "PinCylinder" "trial" "LPinCylinder$State;", Cond.methodLink RX2 168 yX1_become, Cond.instanceMethod yX1_become, Cond.selects RX1 yX1_become yX1_become, Cond.initialized RX1]
noncomputable def wsL_ifPlayed_r2 : List Cond := [Cond.code yX1_become cX1_become 2 none, Cond.fieldLink RX1 9 "PinCylinder$State" "chords" "[I", Cond.methodLink RX1 64 arraycopyName, Cond.native arraycopyName, Cond.static arraycopyName, Cond.initialized "java/lang/System", Cond.fieldLink RX1 15 "PinCylinder$State" "restsAt" "[I", Cond.fieldLink RX1 18 "PinCylinder$State" "wear" "[I", Cond.fieldLink RX1 21 "PinCylinder$State" "notesOf" "[I", Cond.fieldLink RX1 24 "PinCylinder$State" "keptTeeth" "[I", Cond.fieldLink RX1 27 "PinCylinder$State" "keptTimes" "[I", Cond.fieldLink RX1 30 "PinCylinder$State" "settings" "[I", Cond.fieldLink RX1 33 "PinCylinder$State" "broken" "I", Cond.fieldLink RX1 37 "PinCylinder$State" "place" "I", Cond.fieldLink RX1 40 "PinCylinder$State" "played" "I", Cond.fieldLink RX1 43 "PinCylinder$State" "wind" "I", Cond.fieldLink RX1 46 "PinCylinder$State" "vanes" "I", Cond.fieldLink RX1 49 "PinCylinder$State" "time" "I", Cond.fieldLink RX1 52 "PinCylinder$State" "stepsDone" "I", Cond.fieldLink RX1 55 "PinCylinder$State" "notes" "I", Cond.fieldLink RX1 58 "PinCylinder$State" "squeaks" "I", Cond.fieldLink RX1 61 "PinCylinder$State" "windNeeded" "I", Cond.methodLink RX2 127 yX1_goOnFor, Cond.instanceMethod yX1_goOnFor]
noncomputable def wsL_ifPlayed_r3 : List Cond := [Cond.selects RX1 yX1_goOnFor yX1_goOnFor, Cond.code yX1_goOnFor cX1_goOnFor 3 (some .int), Cond.methodLink RX1 95 yX1_goOn, Cond.instanceMethod yX1_goOn, Cond.selects RX1 yX1_goOn yX1_goOn, Cond.code yX1_goOn cX1_goOn 7 (some .boolean), Cond.methodLink RX1 105 Lib.Math.max.name, Cond.static Lib.Math.max.name, Cond.initialized "java/lang/Math", Cond.code Lib.Math.max.name Lib.Math.max.code 2 (some .int), Cond.methodLink RX1 78 yX1_around, Cond.static yX1_around, Cond.code yX1_around cX1_around 1 (some .int), Cond.methodLink RX1 114 yJ9_floorMod_7cf53, Cond.static yJ9_floorMod_7cf53, Cond.initialized RJ9, Cond.code yJ9_floorMod_7cf53 cJ9_floorMod_7cf53 3 (some .int), Cond.methodLink RX1 99 yX1_tuneComing, Cond.instanceMethod yX1_tuneComing, Cond.selects RX1 yX1_tuneComing yX1_tuneComing, Cond.code yX1_tuneComing cX1_tuneComing 3 (some .int), Cond.methodLink RX1 70 yX1_teethAt, Cond.instanceMethod yX1_teethAt, Cond.selects RX1 yX1_teethAt yX1_teethAt]
noncomputable def wsL_ifPlayed_r4 : List Cond := [Cond.code yX1_teethAt cX1_teethAt 3 (some .int), Cond.methodLink RX1 102 yX1_windOfStep, Cond.instanceMethod yX1_windOfStep, Cond.selects RX1 yX1_windOfStep yX1_windOfStep, Cond.code yX1_windOfStep cX1_windOfStep 3 (some .int), Cond.methodLink RX1 82 yJ6_bitCount_0f7a4, Cond.static yJ6_bitCount_0f7a4, Cond.initialized RJ6, Cond.code yJ6_bitCount_0f7a4 cJ6_bitCount_0f7a4 1 (some .int), Cond.constant RJ6 265 (1431655765), Cond.constant RJ6 266 (858993459), Cond.constant RJ6 267 (252645135), Cond.methodLink RX1 110 yX1_strike, Cond.instanceMethod yX1_strike, Cond.selects RX1 yX1_strike yX1_strike, Cond.code yX1_strike cX1_strike 4 none, Cond.methodLink RX1 117 yX1_ringsFor, Cond.instanceMethod yX1_ringsFor, Cond.selects RX1 yX1_ringsFor yX1_ringsFor, Cond.code yX1_ringsFor cX1_ringsFor 2 (some .int), Cond.methodLink RX1 120 yX1_squeak, Cond.instanceMethod yX1_squeak, Cond.selects RX1 yX1_squeak yX1_squeak, Cond.code yX1_squeak cX1_squeak 2 none]
noncomputable def wsL_ifPlayed_r5 : List Cond := [Cond.methodLink RX1 124 yX1_isBroken, Cond.instanceMethod yX1_isBroken, Cond.selects RX1 yX1_isBroken yX1_isBroken, Cond.code yX1_isBroken cX1_isBroken 2 (some .boolean), Cond.methodLink RX1 128 yX1_pluck, Cond.instanceMethod yX1_pluck, Cond.selects RX1 yX1_pluck yX1_pluck, Cond.code yX1_pluck cX1_pluck 3 none, Cond.methodLink RX2 215 yX2_outcome, Cond.instanceMethod yX2_outcome, Cond.selects RX2 yX2_outcome yX2_outcome, Cond.code yX2_outcome cX2_outcome 2 (some .int), Cond.methodLink RX2 294 yX1_teethBroken, Cond.instanceMethod yX1_teethBroken, Cond.selects RX1 yX1_teethBroken yX1_teethBroken, Cond.code yX1_teethBroken cX1_teethBroken 1 (some .int)]
noncomputable def wsL_ifPlayed : List Cond := .codeWith yL_ifPlayed cL_ifPlayed 5 (some .int) [(0, 10, 13, 21)] :: ((wsL_ifPlayed_r1 ++ (wsL_ifPlayed_r2 ++ (wsL_ifPlayed_r3 ++ (wsL_ifPlayed_r4 ++ wsL_ifPlayed_r5)))) ++ wsX20 ++ wsX10 ++ (vx_atS RX2 90 "java/lang/IllegalArgumentException" ["java/lang/RuntimeException", "java/lang/Exception"]).filter goodWord)
noncomputable def wsL_windFor_r1 : List Cond := [Cond.classLink RL 21 "java/lang/IllegalArgumentException", Cond.methodLink RL 83 yX2_windFor, Cond.instanceMethod yX2_windFor, Cond.selects RX2 yX2_windFor yX2_windFor, Cond.initialized RX2, Cond.code yX2_windFor cX2_windFor 2 (some .int), Cond.classLink RX2 86 "java/lang/IllegalArgumentException", Cond.initialized "java/lang/IllegalArgumentException", Cond.fieldLink RX2 12 "PinCylinder" "state" "LPinCylinder$State;", Cond.methodLink RX2 97 yX2_isWithin, Cond.static yX2_isWithin, Cond.code yX2_isWithin cX2_isWithin 3 (some .boolean), Cond.methodLink RX2 221 yX1_windOfSteps, Cond.instanceMethod yX1_windOfSteps, Cond.selects RX1 yX1_windOfSteps yX1_windOfSteps, Cond.initialized RX1, Cond.code yX1_windOfSteps cX1_windOfSteps 6 (some .int), Cond.fieldLink RX1 37 "PinCylinder$State" "place" "I", Cond.fieldLink RX1 40 "PinCylinder$State" "played" "I", Cond.methodLink RX1 78 yX1_around, Cond.static yX1_around, Cond.code yX1_around cX1_around 1 (some .int), Cond.methodLink RX1 114 yJ9_floorMod_7cf53, Cond.static yJ9_floorMod_7cf53]
noncomputable def wsL_windFor_r2 : List Cond := [Cond.initialized RJ9, Cond.code yJ9_floorMod_7cf53 cJ9_floorMod_7cf53 3 (some .int), Cond.methodLink RX1 99 yX1_tuneComing, Cond.instanceMethod yX1_tuneComing, Cond.selects RX1 yX1_tuneComing yX1_tuneComing, Cond.code yX1_tuneComing cX1_tuneComing 3 (some .int), Cond.fieldLink RX1 30 "PinCylinder$State" "settings" "[I", Cond.methodLink RX1 102 yX1_windOfStep, Cond.instanceMethod yX1_windOfStep, Cond.selects RX1 yX1_windOfStep yX1_windOfStep, Cond.code yX1_windOfStep cX1_windOfStep 3 (some .int), Cond.fieldLink RX1 33 "PinCylinder$State" "broken" "I", Cond.methodLink RX1 70 yX1_teethAt, Cond.instanceMethod yX1_teethAt, Cond.selects RX1 yX1_teethAt yX1_teethAt, Cond.code yX1_teethAt cX1_teethAt 3 (some .int), Cond.fieldLink RX1 9 "PinCylinder$State" "chords" "[I", Cond.methodLink RX1 82 yJ6_bitCount_0f7a4, Cond.static yJ6_bitCount_0f7a4, Cond.initialized RJ6, Cond.code yJ6_bitCount_0f7a4 cJ6_bitCount_0f7a4 1 (some .int), Cond.constant RJ6 265 (1431655765), Cond.constant RJ6 266 (858993459), Cond.constant RJ6 267 (252645135)]
noncomputable def wsL_windFor : List Cond := .codeWith yL_windFor cL_windFor 4 (some .int) [(0, 9, 12, 21)] :: ((wsL_windFor_r1 ++ wsL_windFor_r2) ++ wsX20 ++ wsX10 ++ (vx_atS RX2 90 "java/lang/IllegalArgumentException" ["java/lang/RuntimeException", "java/lang/Exception"]).filter goodWord)
noncomputable def wsL_law0_r1 : List Cond := [Cond.classLink RL 8 RX2, Cond.instantiable RX2 10, Cond.initialized RX2, Cond.classLink RL 87 RX3, Cond.instantiable RX3 13, Cond.initialized RX3, Cond.arrayClass .long, Cond.methodLink RL 86 yX2_init, Cond.instanceMethod yX2_init, Cond.code yX2_init cX2_init 2 none, Cond.methodLink RX2 3 objectInit, Cond.instanceMethod objectInit, Cond.code objectInit ⟨#[0xb1]⟩ 1 none, Cond.classLink RX2 9 RX1, Cond.instantiable RX1 17, Cond.initialized RX1, Cond.fieldLink RX2 12 "PinCylinder" "state" "LPinCylinder$State;", Cond.fieldLink RX2 16 "PinCylinder" "trial" "LPinCylinder$State;", Cond.fieldLink RX2 19 "PinCylinder" "snapshot" "LPinCylinder$State;", Cond.fieldLink RX2 22 "PinCylinder" "hasSnapshot" "Z", Cond.fieldLink RX2 26 "PinCylinder" "saved" "[LPinCylinder$State;", Cond.fieldLink RX2 30 "PinCylinder" "oldestSaved" "I", Cond.fieldLink RX2 34 "PinCylinder" "savedCount" "I", Cond.arrayClass .char]
noncomputable def wsL_law0_r2 : List Cond := [Cond.fieldLink RX2 37 "PinCylinder" "buffer" "[C", Cond.fieldLink RX2 41 "PinCylinder" "bufferLength" "I", Cond.classLink RX2 44 RX0, Cond.instantiable RX0 5, Cond.initialized RX0, Cond.fieldLink RX2 47 "PinCylinder" "reader" "LPinCylinder$PinReader;", Cond.instanceMethod yX1_init, Cond.code yX1_init cX1_init 1 none, Cond.methodLink RX1 3 objectInit, Cond.arrayClass .int, Cond.fieldLink RX1 9 "PinCylinder$State" "chords" "[I", Cond.fieldLink RX1 15 "PinCylinder$State" "restsAt" "[I", Cond.fieldLink RX1 18 "PinCylinder$State" "wear" "[I", Cond.fieldLink RX1 21 "PinCylinder$State" "notesOf" "[I", Cond.fieldLink RX1 24 "PinCylinder$State" "keptTeeth" "[I", Cond.fieldLink RX1 27 "PinCylinder$State" "keptTimes" "[I", Cond.fieldLink RX1 30 "PinCylinder$State" "settings" "[I", Cond.fieldLink RX1 33 "PinCylinder$State" "broken" "I", Cond.fieldLink RX1 37 "PinCylinder$State" "place" "I", Cond.fieldLink RX1 40 "PinCylinder$State" "played" "I", Cond.fieldLink RX1 43 "PinCylinder$State" "wind" "I", Cond.fieldLink RX1 46 "PinCylinder$State" "vanes" "I", Cond.fieldLink RX1 49 "PinCylinder$State" "time" "I", Cond.fieldLink RX1 52 "PinCylinder$State" "stepsDone" "I"]
noncomputable def wsL_law0_r3 : List Cond := [Cond.fieldLink RX1 55 "PinCylinder$State" "notes" "I", Cond.fieldLink RX1 58 "PinCylinder$State" "squeaks" "I", Cond.fieldLink RX1 61 "PinCylinder$State" "windNeeded" "I", Cond.instanceMethod yX0_init, Cond.code yX0_init cX0_init 1 none, Cond.methodLink RX0 3 objectInit, Cond.fieldLink RX0 11 "PinCylinder$PinReader" "phase" "I", Cond.fieldLink RX0 15 "PinCylinder$PinReader" "tune" "I", Cond.fieldLink RX0 18 "PinCylinder$PinReader" "tooth" "I", Cond.fieldLink RX0 21 "PinCylinder$PinReader" "from" "I", Cond.fieldLink RX0 24 "PinCylinder$PinReader" "number" "I", Cond.methodLink RL 89 yX3_init, Cond.instanceMethod yX3_init, Cond.code yX3_init cX3_init 1 none, Cond.methodLink RX3 1 objectInit, Cond.fieldLink RX3 7 "PinCylinderModel" "s" "[I", Cond.fieldLink RX3 13 "PinCylinderModel" "aside" "[I", Cond.fieldLink RX3 16 "PinCylinderModel" "saved" "[I", Cond.fieldLink RX3 19 "PinCylinderModel" "snapshot" "[I", Cond.fieldLink RX3 22 "PinCylinderModel" "text" "[I", Cond.methodLink RL 90 yL_pin, Cond.static yL_pin, Cond.initialized RL, Cond.codeWith yL_pin cL_pin 6 (some .int) [(0, 12, 15, 13), (0, 12, 19, 15)]]
noncomputable def wsL_law0_r4 : List Cond := [Cond.classLink RL 13 "java/lang/IndexOutOfBoundsException", Cond.classLink RL 15 "java/lang/IllegalStateException", Cond.methodLink RL 7 yX2_pin, Cond.instanceMethod yX2_pin, Cond.selects RX2 yX2_pin yX2_pin, Cond.code yX2_pin cX2_pin 4 (some .int), Cond.classLink RX2 55 "java/lang/IndexOutOfBoundsException", Cond.initialized "java/lang/IndexOutOfBoundsException", Cond.classLink RX2 66 "java/lang/IllegalStateException", Cond.initialized "java/lang/IllegalStateException", Cond.methodLink RX2 51 yX2_isPlace, Cond.static yX2_isPlace, Cond.code yX2_isPlace cX2_isPlace 3 (some .boolean), Cond.methodLink RX2 82 yX2_isBelow, Cond.static yX2_isBelow, Cond.code yX2_isBelow cX2_isBelow 2 (some .boolean), Cond.methodLink RX2 62 yX1_hindrance, Cond.instanceMethod yX1_hindrance, Cond.selects RX1 yX1_hindrance yX1_hindrance, Cond.code yX1_hindrance cX1_hindrance 5 (some .int), Cond.methodLink RX1 74 yX1_hasPin, Cond.instanceMethod yX1_hasPin, Cond.selects RX1 yX1_hasPin yX1_hasPin, Cond.code yX1_hasPin cX1_hasPin 4 (some .boolean)]
noncomputable def wsL_law0_r5 : List Cond := [Cond.methodLink RX1 70 yX1_teethAt, Cond.instanceMethod yX1_teethAt, Cond.selects RX1 yX1_teethAt yX1_teethAt, Cond.code yX1_teethAt cX1_teethAt 3 (some .int), Cond.methodLink RX1 78 yX1_around, Cond.static yX1_around, Cond.code yX1_around cX1_around 1 (some .int), Cond.methodLink RX1 114 yJ9_floorMod_7cf53, Cond.static yJ9_floorMod_7cf53, Cond.initialized RJ9, Cond.code yJ9_floorMod_7cf53 cJ9_floorMod_7cf53 3 (some .int), Cond.methodLink RX1 82 yJ6_bitCount_0f7a4, Cond.static yJ6_bitCount_0f7a4, Cond.initialized RJ6, Cond.code yJ6_bitCount_0f7a4 cJ6_bitCount_0f7a4 1 (some .int), Cond.constant RJ6 265 (1431655765), Cond.constant RJ6 266 (858993459), Cond.constant RJ6 267 (252645135), Cond.methodLink RX2 71 yX2_saveState, Cond.instanceMethod yX2_saveState, Cond.selects RX2 yX2_saveState yX2_saveState, Cond.code yX2_saveState cX2_saveState 1 none, Cond.methodLink RX2 168 yX1_become, Cond.instanceMethod yX1_become]
noncomputable def wsL_law0_r6 : List Cond := [Cond.selects RX1 yX1_become yX1_become, Cond.code yX1_become cX1_become 2 none, Cond.methodLink RX1 64 arraycopyName, Cond.native arraycopyName, Cond.static arraycopyName, Cond.initialized "java/lang/System", Cond.methodLink RX2 74 yX1_putPin, Cond.instanceMethod yX1_putPin, Cond.selects RX1 yX1_putPin yX1_putPin, Cond.code yX1_putPin cX1_putPin 4 none, Cond.methodLink RX2 78 yX1_pinsOf, Cond.instanceMethod yX1_pinsOf, Cond.selects RX1 yX1_pinsOf yX1_pinsOf, Cond.code yX1_pinsOf cX1_pinsOf 4 (some .int), Cond.methodLink RL 95 yX3_pin, Cond.instanceMethod yX3_pin, Cond.selects RX3 yX3_pin yX3_pin, Cond.code yX3_pin cX3_pin 4 (some .int), Cond.methodLink RX3 66 yX3_areThere, Cond.static yX3_areThere, Cond.code yX3_areThere cX3_areThere 3 (some .boolean), Cond.methodLink RX3 33 yX3_isTune, Cond.static yX3_isTune, Cond.code yX3_isTune cX3_isTune 1 (some .boolean)]
noncomputable def wsL_law0_r7 : List Cond := [Cond.methodLink RX3 29 yX3_in, Cond.static yX3_in, Cond.code yX3_in cX3_in 3 (some .boolean), Cond.methodLink RX3 37 yX3_isTooth, Cond.static yX3_isTooth, Cond.code yX3_isTooth cX3_isTooth 1 (some .boolean), Cond.methodLink RX3 40 yX3_isStep, Cond.static yX3_isStep, Cond.code yX3_isStep cX3_isStep 1 (some .boolean), Cond.methodLink RX3 69 yX3_hindrance, Cond.instanceMethod yX3_hindrance, Cond.selects RX3 yX3_hindrance yX3_hindrance, Cond.code yX3_hindrance cX3_hindrance 4 (some .int), Cond.methodLink RX3 50 yX3_isPin, Cond.instanceMethod yX3_isPin, Cond.selects RX3 yX3_isPin yX3_isPin, Cond.code yX3_isPin cX3_isPin 4 (some .boolean), Cond.methodLink RX3 46 yX3_ofPins, Cond.static yX3_ofPins, Cond.code yX3_ofPins cX3_ofPins 2 (some .int), Cond.methodLink RX3 53 yX3_isNear, Cond.instanceMethod yX3_isNear, Cond.selects RX3 yX3_isNear yX3_isNear, Cond.code yX3_isNear cX3_isNear 6 (some .boolean)]
noncomputable def wsL_law0_r8 : List Cond := [Cond.methodLink RX3 56 yX3_pinsAt, Cond.instanceMethod yX3_pinsAt, Cond.selects RX3 yX3_pinsAt yX3_pinsAt, Cond.code yX3_pinsAt cX3_pinsAt 5 (some .int), Cond.methodLink RX3 59 yX3_ones, Cond.static yX3_ones, Cond.code yX3_ones cX3_ones 3 (some .int), Cond.methodLink RX3 73 yX3_holds, Cond.instanceMethod yX3_holds, Cond.selects RX3 yX3_holds yX3_holds, Cond.code yX3_holds cX3_holds 2 (some .boolean), Cond.fieldLink RX3 25 "PinCylinderModel" "thrown" "I", Cond.methodLink RX3 76 yX3_save, Cond.instanceMethod yX3_save, Cond.selects RX3 yX3_save yX3_save, Cond.code yX3_save cX3_save 2 none, Cond.fieldLink RX3 43 "PinCylinderModel" "savedMany" "I", Cond.methodLink RX3 63 yX3_pinsOf, Cond.instanceMethod yX3_pinsOf, Cond.selects RX3 yX3_pinsOf yX3_pinsOf, Cond.code yX3_pinsOf cX3_pinsOf 4 (some .int), Cond.methodLink RL 96 yX3_thrown, Cond.instanceMethod yX3_thrown, Cond.selects RX3 yX3_thrown yX3_thrown]
noncomputable def wsL_law0_r9 : List Cond := [Cond.code yX3_thrown cX3_thrown 1 (some .int), Cond.methodLink RL 99 yL_pull, Cond.static yL_pull, Cond.codeWith yL_pull cL_pull 7 (some .int) [(0, 14, 17, 13), (0, 14, 21, 21)], Cond.classLink RL 21 "java/lang/IllegalArgumentException", Cond.methodLink RL 17 yX2_pull, Cond.instanceMethod yX2_pull, Cond.selects RX2 yX2_pull yX2_pull, Cond.code yX2_pull cX2_pull 5 (some .int), Cond.classLink RX2 86 "java/lang/IllegalArgumentException", Cond.initialized "java/lang/IllegalArgumentException", Cond.methodLink RX2 91 yX1_takeRange, Cond.instanceMethod yX1_takeRange, Cond.selects RX1 yX1_takeRange yX1_takeRange, Cond.code yX1_takeRange cX1_takeRange 7 (some .int), Cond.methodLink RL 102 yX3_pull, Cond.instanceMethod yX3_pull, Cond.selects RX3 yX3_pull yX3_pull, Cond.code yX3_pull cX3_pull 7 (some .int), Cond.methodLink RL 103 yL_copy, Cond.static yL_copy, Cond.codeWith yL_copy cL_copy 7 (some .int) [(0, 14, 17, 13), (0, 14, 21, 21)], Cond.methodLink RL 23 yX2_copy, Cond.instanceMethod yX2_copy]
noncomputable def wsL_law0_r10 : List Cond := [Cond.selects RX2 yX2_copy yX2_copy, Cond.code yX2_copy cX2_copy 5 (some .int), Cond.methodLink RX2 97 yX2_isWithin, Cond.static yX2_isWithin, Cond.code yX2_isWithin cX2_isWithin 3 (some .boolean), Cond.methodLink RX2 102 yX1_replaceTune, Cond.instanceMethod yX1_replaceTune, Cond.selects RX1 yX1_replaceTune yX1_replaceTune, Cond.code yX1_replaceTune cX1_replaceTune 9 none, Cond.methodLink RL 105 yX3_copy, Cond.instanceMethod yX3_copy, Cond.selects RX3 yX3_copy yX3_copy, Cond.code yX3_copy cX3_copy 9 (some .int), Cond.methodLink RL 106 yL_wind, Cond.static yL_wind, Cond.codeWith yL_wind cL_wind 4 (some .int) [(0, 9, 12, 21)], Cond.methodLink RL 26 yX2_wind, Cond.instanceMethod yX2_wind, Cond.selects RX2 yX2_wind yX2_wind, Cond.code yX2_wind cX2_wind 2 (some .int), Cond.methodLink RX2 111 Lib.Math.min.name, Cond.static Lib.Math.min.name, Cond.initialized "java/lang/Math", Cond.code Lib.Math.min.name Lib.Math.min.code 2 (some .int)]
noncomputable def wsL_law0_r11 : List Cond := [Cond.methodLink RL 109 yX3_wind, Cond.instanceMethod yX3_wind, Cond.selects RX3 yX3_wind yX3_wind, Cond.code yX3_wind cX3_wind 2 (some .int), Cond.methodLink RL 110 yL_vanes, Cond.static yL_vanes, Cond.codeWith yL_vanes cL_vanes 4 (some .int) [(0, 9, 12, 21)], Cond.methodLink RL 30 yX2_vanes, Cond.instanceMethod yX2_vanes, Cond.selects RX2 yX2_vanes yX2_vanes, Cond.code yX2_vanes cX2_vanes 3 (some .int), Cond.methodLink RL 112 yX3_vanes, Cond.instanceMethod yX3_vanes, Cond.selects RX3 yX3_vanes yX3_vanes, Cond.code yX3_vanes cX3_vanes 2 (some .int), Cond.methodLink RX3 104 yX3_becomes, Cond.instanceMethod yX3_becomes, Cond.selects RX3 yX3_becomes yX3_becomes, Cond.code yX3_becomes cX3_becomes 4 (some .int), Cond.methodLink RL 113 yL_shift, Cond.static yL_shift, Cond.codeWith yL_shift cL_shift 4 (some .int) [(0, 9, 12, 13)], Cond.methodLink RL 33 yX2_shift, Cond.instanceMethod yX2_shift]
noncomputable def wsL_law0_r12 : List Cond := [Cond.selects RX2 yX2_shift yX2_shift, Cond.code yX2_shift cX2_shift 3 (some .int), Cond.methodLink RL 115 yX3_shift, Cond.instanceMethod yX3_shift, Cond.selects RX3 yX3_shift yX3_shift, Cond.code yX3_shift cX3_shift 2 (some .int), Cond.methodLink RL 116 yL_play, Cond.static yL_play, Cond.codeWith yL_play cL_play 4 (some .int) [(0, 9, 12, 21)], Cond.methodLink RL 36 yX2_play, Cond.instanceMethod yX2_play, Cond.selects RX2 yX2_play yX2_play, Cond.code yX2_play cX2_play 2 (some .int), Cond.methodLink RX2 127 yX1_goOnFor, Cond.instanceMethod yX1_goOnFor, Cond.selects RX1 yX1_goOnFor yX1_goOnFor, Cond.code yX1_goOnFor cX1_goOnFor 3 (some .int), Cond.methodLink RX1 95 yX1_goOn, Cond.instanceMethod yX1_goOn, Cond.selects RX1 yX1_goOn yX1_goOn, Cond.code yX1_goOn cX1_goOn 7 (some .boolean), Cond.methodLink RX1 105 Lib.Math.max.name, Cond.static Lib.Math.max.name, Cond.code Lib.Math.max.name Lib.Math.max.code 2 (some .int)]
noncomputable def wsL_law0_r13 : List Cond := [Cond.methodLink RX1 99 yX1_tuneComing, Cond.instanceMethod yX1_tuneComing, Cond.selects RX1 yX1_tuneComing yX1_tuneComing, Cond.code yX1_tuneComing cX1_tuneComing 3 (some .int), Cond.methodLink RX1 102 yX1_windOfStep, Cond.instanceMethod yX1_windOfStep, Cond.selects RX1 yX1_windOfStep yX1_windOfStep, Cond.code yX1_windOfStep cX1_windOfStep 3 (some .int), Cond.methodLink RX1 110 yX1_strike, Cond.instanceMethod yX1_strike, Cond.selects RX1 yX1_strike yX1_strike, Cond.code yX1_strike cX1_strike 4 none, Cond.methodLink RX1 117 yX1_ringsFor, Cond.instanceMethod yX1_ringsFor, Cond.selects RX1 yX1_ringsFor yX1_ringsFor, Cond.code yX1_ringsFor cX1_ringsFor 2 (some .int), Cond.methodLink RX1 120 yX1_squeak, Cond.instanceMethod yX1_squeak, Cond.selects RX1 yX1_squeak yX1_squeak, Cond.code yX1_squeak cX1_squeak 2 none, Cond.methodLink RX1 124 yX1_isBroken, Cond.instanceMethod yX1_isBroken, Cond.selects RX1 yX1_isBroken yX1_isBroken, Cond.code yX1_isBroken cX1_isBroken 2 (some .boolean)]
noncomputable def wsL_law0_r14 : List Cond := [Cond.methodLink RX1 128 yX1_pluck, Cond.instanceMethod yX1_pluck, Cond.selects RX1 yX1_pluck yX1_pluck, Cond.code yX1_pluck cX1_pluck 3 none, Cond.methodLink RL 118 yX3_play, Cond.instanceMethod yX3_play, Cond.selects RX3 yX3_play yX3_play, Cond.code yX3_play cX3_play 2 (some .int), Cond.methodLink RX3 107 yX3_goesOn, Cond.instanceMethod yX3_goesOn, Cond.selects RX3 yX3_goesOn yX3_goesOn, Cond.code yX3_goesOn cX3_goesOn 3 (some .int), Cond.methodLink RX3 100 yX3_goes, Cond.instanceMethod yX3_goes, Cond.selects RX3 yX3_goes yX3_goes, Cond.code yX3_goes cX3_goes 4 (some .boolean), Cond.methodLink RX3 93 yX3_need, Cond.instanceMethod yX3_need, Cond.selects RX3 yX3_need yX3_need, Cond.code yX3_need cX3_need 3 (some .int), Cond.methodLink RX3 83 yX3_nextTune, Cond.instanceMethod yX3_nextTune, Cond.selects RX3 yX3_nextTune yX3_nextTune, Cond.code yX3_nextTune cX3_nextTune 1 (some .int)]
noncomputable def wsL_law0_r15 : List Cond := [Cond.methodLink RX3 79 yX3_nextStep, Cond.instanceMethod yX3_nextStep, Cond.selects RX3 yX3_nextStep yX3_nextStep, Cond.code yX3_nextStep cX3_nextStep 1 (some .int), Cond.methodLink RX3 86 yX3_of, Cond.static yX3_of, Cond.code yX3_of cX3_of 2 (some .int), Cond.methodLink RX3 96 yX3_plucks, Cond.instanceMethod yX3_plucks, Cond.selects RX3 yX3_plucks yX3_plucks, Cond.code yX3_plucks cX3_plucks 4 none, Cond.methodLink RX3 89 yX3_sounds, Cond.instanceMethod yX3_sounds, Cond.selects RX3 yX3_sounds yX3_sounds, Cond.code yX3_sounds cX3_sounds 4 none, Cond.methodLink RL 119 yL_mend, Cond.static yL_mend, Cond.codeWith yL_mend cL_mend 4 (some .int) [(0, 9, 12, 13)], Cond.methodLink RL 39 yX2_mend, Cond.instanceMethod yX2_mend, Cond.selects RX2 yX2_mend yX2_mend, Cond.code yX2_mend cX2_mend 2 (some .int), Cond.methodLink RX2 132 yX1_mendTooth, Cond.instanceMethod yX1_mendTooth]
noncomputable def wsL_law0_r16 : List Cond := [Cond.selects RX1 yX1_mendTooth yX1_mendTooth, Cond.code yX1_mendTooth cX1_mendTooth 3 (some .int), Cond.methodLink RL 121 yX3_mend, Cond.instanceMethod yX3_mend, Cond.selects RX3 yX3_mend yX3_mend, Cond.code yX3_mend cX3_mend 3 (some .int), Cond.methodLink RL 122 yL_set, Cond.static yL_set, Cond.codeWith yL_set cL_set 5 (some .int) [(0, 10, 13, 13), (0, 10, 17, 21)], Cond.methodLink RL 42 yX2_set, Cond.instanceMethod yX2_set, Cond.selects RX2 yX2_set yX2_set, Cond.code yX2_set cX2_set 4 (some .int), Cond.fieldLink RX2 137 "PinCylinder" "LEAST_VALUE" "[I", Cond.fieldLink RX2 141 "PinCylinder" "MOST_VALUE" "[I", Cond.methodLink RL 125 yX3_set, Cond.instanceMethod yX3_set, Cond.selects RX3 yX3_set yX3_set, Cond.code yX3_set cX3_set 3 (some .int), Cond.methodLink RX3 110 yX3_isValue, Cond.static yX3_isValue, Cond.code yX3_isValue cX3_isValue 2 (some .boolean), Cond.methodLink RL 126 yL_append, Cond.static yL_append]
noncomputable def wsL_law0_r17 : List Cond := [Cond.codeWith yL_append cL_append 4 (some .int) [(0, 9, 12, 21), (0, 9, 15, 15)], Cond.methodLink RL 46 yX2_append, Cond.instanceMethod yX2_append, Cond.selects RX2 yX2_append yX2_append, Cond.code yX2_append cX2_append 2 (some .int), Cond.methodLink RL 128 yX3_append, Cond.instanceMethod yX3_append, Cond.selects RX3 yX3_append yX3_append, Cond.code yX3_append cX3_append 2 (some .int), Cond.fieldLink RX3 114 "PinCylinderModel" "length" "I", Cond.methodLink RL 129 yX2_clearBuffer, Cond.instanceMethod yX2_clearBuffer, Cond.selects RX2 yX2_clearBuffer yX2_clearBuffer, Cond.code yX2_clearBuffer cX2_clearBuffer 2 (some .int), Cond.methodLink RL 132 yX3_clearBuffer, Cond.instanceMethod yX3_clearBuffer, Cond.selects RX3 yX3_clearBuffer yX3_clearBuffer, Cond.code yX3_clearBuffer cX3_clearBuffer 2 (some .int), Cond.methodLink RL 133 yX2_firstError, Cond.instanceMethod yX2_firstError, Cond.selects RX2 yX2_firstError yX2_firstError, Cond.code yX2_firstError cX2_firstError 1 (some .int), Cond.methodLink RX2 153 yX2_readBuffer, Cond.instanceMethod yX2_readBuffer]
noncomputable def wsL_law0_r18 : List Cond := [Cond.selects RX2 yX2_readBuffer yX2_readBuffer, Cond.code yX2_readBuffer cX2_readBuffer 2 (some .int), Cond.methodLink RX2 254 yX0_start, Cond.instanceMethod yX0_start, Cond.selects RX0 yX0_start yX0_start, Cond.code yX0_start cX0_start 1 none, Cond.methodLink RX2 257 yX0_accepts, Cond.instanceMethod yX0_accepts, Cond.selects RX0 yX0_accepts yX0_accepts, Cond.code yX0_accepts cX0_accepts 2 (some .boolean), Cond.methodLink RX0 27 yX0_acceptsTune, Cond.instanceMethod yX0_acceptsTune, Cond.selects RX0 yX0_acceptsTune yX0_acceptsTune, Cond.code yX0_acceptsTune cX0_acceptsTune 3 (some .boolean), Cond.methodLink RX0 53 yX0_digitOf, Cond.static yX0_digitOf, Cond.code yX0_digitOf cX0_digitOf 1 (some .int), Cond.methodLink RX0 31 yX0_goTo, Cond.instanceMethod yX0_goTo, Cond.selects RX0 yX0_goTo yX0_goTo, Cond.code yX0_goTo cX0_goTo 2 (some .boolean), Cond.methodLink RX0 35 yX0_acceptsToothDigit, Cond.instanceMethod yX0_acceptsToothDigit, Cond.selects RX0 yX0_acceptsToothDigit yX0_acceptsToothDigit]
noncomputable def wsL_law0_r19 : List Cond := [Cond.code yX0_acceptsToothDigit cX0_acceptsToothDigit 3 (some .boolean), Cond.methodLink RX0 38 yX0_acceptsToothEnd, Cond.instanceMethod yX0_acceptsToothEnd, Cond.selects RX0 yX0_acceptsToothEnd yX0_acceptsToothEnd, Cond.code yX0_acceptsToothEnd cX0_acceptsToothEnd 3 (some .boolean), Cond.methodLink RX0 57 yX0_lengthened, Cond.static yX0_lengthened, Cond.code yX0_lengthened cX0_lengthened 3 (some .int), Cond.methodLink RX0 41 yX0_acceptsStepDigit, Cond.instanceMethod yX0_acceptsStepDigit, Cond.selects RX0 yX0_acceptsStepDigit yX0_acceptsStepDigit, Cond.code yX0_acceptsStepDigit cX0_acceptsStepDigit 3 (some .boolean), Cond.methodLink RX0 44 yX0_acceptsBehindStep, Cond.instanceMethod yX0_acceptsBehindStep, Cond.selects RX0 yX0_acceptsBehindStep yX0_acceptsBehindStep, Cond.code yX0_acceptsBehindStep cX0_acceptsBehindStep 3 (some .boolean), Cond.methodLink RX0 61 yX0_isSeparator, Cond.static yX0_isSeparator, Cond.code yX0_isSeparator cX0_isSeparator 1 (some .boolean), Cond.methodLink RX0 64 yX0_acceptsSeparator, Cond.instanceMethod yX0_acceptsSeparator, Cond.selects RX0 yX0_acceptsSeparator yX0_acceptsSeparator, Cond.code yX0_acceptsSeparator cX0_acceptsSeparator 2 (some .boolean), Cond.methodLink RX0 67 yX0_acceptsRange]
noncomputable def wsL_law0_r20 : List Cond := [Cond.instanceMethod yX0_acceptsRange, Cond.selects RX0 yX0_acceptsRange yX0_acceptsRange, Cond.code yX0_acceptsRange cX0_acceptsRange 1 (some .boolean), Cond.methodLink RX0 47 yX0_acceptsRangeEndDigit, Cond.instanceMethod yX0_acceptsRangeEndDigit, Cond.selects RX0 yX0_acceptsRangeEndDigit yX0_acceptsRangeEndDigit, Cond.code yX0_acceptsRangeEndDigit cX0_acceptsRangeEndDigit 3 (some .boolean), Cond.methodLink RX0 71 yX0_greatestFrom, Cond.static yX0_greatestFrom, Cond.code yX0_greatestFrom cX0_greatestFrom 2 (some .int), Cond.methodLink RX0 75 Lib.Math.min.name, Cond.methodLink RX0 50 yX0_acceptsBehindRangeEnd, Cond.instanceMethod yX0_acceptsBehindRangeEnd, Cond.selects RX0 yX0_acceptsBehindRangeEnd yX0_acceptsBehindRangeEnd, Cond.code yX0_acceptsBehindRangeEnd cX0_acceptsBehindRangeEnd 3 (some .boolean), Cond.methodLink RL 136 yX3_firstError, Cond.instanceMethod yX3_firstError, Cond.selects RX3 yX3_firstError yX3_firstError, Cond.code yX3_firstError cX3_firstError 2 (some .int), Cond.fieldLink RX3 121 "PinCylinderModel" "spot" "I", Cond.methodLink RX3 147 yX3_reads, Cond.instanceMethod yX3_reads, Cond.selects RX3 yX3_reads yX3_reads, Cond.code yX3_reads cX3_reads 2 (some .boolean)]
noncomputable def wsL_law0_r21 : List Cond := [Cond.fieldLink RX3 117 "PinCylinderModel" "isWrong" "Z", Cond.fieldLink RX3 133 "PinCylinderModel" "wereSet" "I", Cond.methodLink RX3 143 yX3_readPart, Cond.instanceMethod yX3_readPart, Cond.selects RX3 yX3_readPart yX3_readPart, Cond.code yX3_readPart cX3_readPart 5 none, Cond.methodLink RX3 136 yX3_takes, Cond.instanceMethod yX3_takes, Cond.selects RX3 yX3_takes yX3_takes, Cond.code yX3_takes cX3_takes 5 (some .int), Cond.methodLink RX3 124 yX3_isNext, Cond.instanceMethod yX3_isNext, Cond.selects RX3 yX3_isNext yX3_isNext, Cond.code yX3_isNext cX3_isNext 3 (some .boolean), Cond.methodLink RX3 130 yX3_number, Cond.instanceMethod yX3_number, Cond.selects RX3 yX3_number yX3_number, Cond.code yX3_number cX3_number 4 (some .int), Cond.methodLink RX3 127 yX3_begins, Cond.static yX3_begins, Cond.code yX3_begins cX3_begins 3 (some .boolean), Cond.methodLink RX3 139 yX3_readSteps, Cond.instanceMethod yX3_readSteps, Cond.selects RX3 yX3_readSteps yX3_readSteps]
noncomputable def wsL_law0_r22 : List Cond := [Cond.code yX3_readSteps cX3_readSteps 7 none, Cond.methodLink RL 137 yL_pins, Cond.static yL_pins, Cond.codeWith yL_pins cL_pins 3 (some .int) [(0, 8, 11, 21)], Cond.methodLink RL 49 yX2_pins, Cond.instanceMethod yX2_pins, Cond.selects RX2 yX2_pins yX2_pins, Cond.code yX2_pins cX2_pins 3 (some .int), Cond.methodLink RX2 157 yX0_isComplete, Cond.instanceMethod yX0_isComplete, Cond.selects RX0 yX0_isComplete yX0_isComplete, Cond.code yX0_isComplete cX0_isComplete 1 (some .boolean), Cond.methodLink RX2 163 yX2_putBufferPins, Cond.instanceMethod yX2_putBufferPins, Cond.selects RX2 yX2_putBufferPins yX2_putBufferPins, Cond.code yX2_putBufferPins cX2_putBufferPins 3 (some .int), Cond.methodLink RX2 261 yX0_isSeparator, Cond.methodLink RX2 264 yX2_putReadRange, Cond.instanceMethod yX2_putReadRange, Cond.selects RX2 yX2_putReadRange yX2_putReadRange, Cond.code yX2_putReadRange cX2_putReadRange 1 (some .int), Cond.methodLink RX2 273 yX0_rangeStart, Cond.instanceMethod yX0_rangeStart, Cond.selects RX0 yX0_rangeStart yX0_rangeStart]
noncomputable def wsL_law0_r23 : List Cond := [Cond.code yX0_rangeStart cX0_rangeStart 1 (some .int), Cond.methodLink RX2 279 yX1_putRange, Cond.instanceMethod yX1_putRange, Cond.selects RX1 yX1_putRange yX1_putRange, Cond.code yX1_putRange cX1_putRange 7 (some .int), Cond.methodLink RX1 87 yX1_hindrance, Cond.methodLink RX1 91 yX1_putPin, Cond.methodLink RL 140 yX3_pins, Cond.instanceMethod yX3_pins, Cond.selects RX3 yX3_pins yX3_pins, Cond.code yX3_pins cX3_pins 2 (some .int), Cond.methodLink RL 141 yL_undo, Cond.static yL_undo, Cond.codeWith yL_undo cL_undo 3 (some .int) [(0, 8, 11, 15)], Cond.methodLink RL 53 yX2_undo, Cond.instanceMethod yX2_undo, Cond.selects RX2 yX2_undo yX2_undo, Cond.code yX2_undo cX2_undo 1 (some .int), Cond.methodLink RL 143 yX3_undo, Cond.instanceMethod yX3_undo, Cond.selects RX3 yX3_undo yX3_undo, Cond.code yX3_undo cX3_undo 2 (some .int), Cond.methodLink RL 144 yX2_keep, Cond.instanceMethod yX2_keep]
noncomputable def wsL_law0_r24 : List Cond := [Cond.selects RX2 yX2_keep yX2_keep, Cond.code yX2_keep cX2_keep 1 (some .int), Cond.methodLink RX2 172 yX1_pinsOfAll, Cond.instanceMethod yX1_pinsOfAll, Cond.selects RX1 yX1_pinsOfAll yX1_pinsOfAll, Cond.code yX1_pinsOfAll cX1_pinsOfAll 3 (some .int), Cond.methodLink RX1 137 yX1_pinsOf, Cond.methodLink RL 147 yX3_keep, Cond.instanceMethod yX3_keep, Cond.selects RX3 yX3_keep yX3_keep, Cond.code yX3_keep cX3_keep 2 (some .int), Cond.fieldLink RX3 151 "PinCylinderModel" "isKept" "Z", Cond.methodLink RX3 154 yX3_allPins, Cond.instanceMethod yX3_allPins, Cond.selects RX3 yX3_allPins yX3_allPins, Cond.code yX3_allPins cX3_allPins 1 (some .int), Cond.methodLink RL 148 yL_restore, Cond.static yL_restore, Cond.codeWith yL_restore cL_restore 3 (some .int) [(0, 8, 11, 15)], Cond.methodLink RL 56 yX2_restore, Cond.instanceMethod yX2_restore, Cond.selects RX2 yX2_restore yX2_restore, Cond.code yX2_restore cX2_restore 1 (some .int), Cond.methodLink RL 150 yX3_restore]
noncomputable def wsL_law0_r25 : List Cond := [Cond.instanceMethod yX3_restore, Cond.selects RX3 yX3_restore yX3_restore, Cond.code yX3_restore cX3_restore 2 (some .int), Cond.methodLink RL 151 yL_whyNot, Cond.static yL_whyNot, Cond.codeWith yL_whyNot cL_whyNot 6 (some .int) [(0, 12, 15, 13)], Cond.methodLink RL 59 yX2_whyNot, Cond.instanceMethod yX2_whyNot, Cond.selects RX2 yX2_whyNot yX2_whyNot, Cond.code yX2_whyNot cX2_whyNot 4 (some .int), Cond.methodLink RL 153 yX3_whyNot, Cond.instanceMethod yX3_whyNot, Cond.selects RX3 yX3_whyNot yX3_whyNot, Cond.code yX3_whyNot cX3_whyNot 4 (some .int), Cond.methodLink RL 154 yL_next, Cond.static yL_next, Cond.codeWith yL_next cL_next 6 (some .int) [(0, 12, 15, 13)], Cond.methodLink RL 62 yX2_next, Cond.instanceMethod yX2_next, Cond.selects RX2 yX2_next yX2_next, Cond.code yX2_next cX2_next 4 (some .int), Cond.methodLink RX2 177 yX1_pinFrom, Cond.instanceMethod yX1_pinFrom, Cond.selects RX1 yX1_pinFrom yX1_pinFrom]
noncomputable def wsL_law0_r26 : List Cond := [Cond.code yX1_pinFrom cX1_pinFrom 6 (some .int), Cond.methodLink RL 156 yX3_next, Cond.instanceMethod yX3_next, Cond.selects RX3 yX3_next yX3_next, Cond.code yX3_next cX3_next 6 (some .int), Cond.methodLink RL 157 yL_tune, Cond.static yL_tune, Cond.codeWith yL_tune cL_tune 5 (some .int) [(0, 10, 13, 13), (0, 10, 17, 21)], Cond.methodLink RL 65 yX2_tune, Cond.instanceMethod yX2_tune, Cond.selects RX2 yX2_tune yX2_tune, Cond.code yX2_tune cX2_tune 3 (some .int), Cond.methodLink RX2 182 yX1_numberOfTune, Cond.instanceMethod yX1_numberOfTune, Cond.selects RX1 yX1_numberOfTune yX1_numberOfTune, Cond.code yX1_numberOfTune cX1_numberOfTune 3 (some .int), Cond.methodLink RX1 140 yX1_pinsByTooth, Cond.instanceMethod yX1_pinsByTooth, Cond.selects RX1 yX1_pinsByTooth yX1_pinsByTooth, Cond.code yX1_pinsByTooth cX1_pinsByTooth 5 (some .int), Cond.methodLink RX1 143 yX1_fullestStep, Cond.instanceMethod yX1_fullestStep, Cond.selects RX1 yX1_fullestStep yX1_fullestStep, Cond.code yX1_fullestStep cX1_fullestStep 4 (some .int)]
noncomputable def wsL_law0_r27 : List Cond := [Cond.methodLink RX1 146 yX1_teethUsed, Cond.instanceMethod yX1_teethUsed, Cond.selects RX1 yX1_teethUsed yX1_teethUsed, Cond.code yX1_teethUsed cX1_teethUsed 4 (some .int), Cond.methodLink RL 159 yX3_tune, Cond.instanceMethod yX3_tune, Cond.selects RX3 yX3_tune yX3_tune, Cond.code yX3_tune cX3_tune 3 (some .int), Cond.methodLink RX3 163 yX3_ofTune, Cond.instanceMethod yX3_ofTune, Cond.selects RX3 yX3_ofTune yX3_ofTune, Cond.code yX3_ofTune cX3_ofTune 3 (some .int), Cond.methodLink RX3 157 yX3_fullest, Cond.instanceMethod yX3_fullest, Cond.selects RX3 yX3_fullest yX3_fullest, Cond.code yX3_fullest cX3_fullest 4 (some .int), Cond.methodLink RX3 160 yX3_teethOf, Cond.instanceMethod yX3_teethOf, Cond.selects RX3 yX3_teethOf yX3_teethOf, Cond.code yX3_teethOf cX3_teethOf 4 (some .int), Cond.methodLink RL 160 yL_chord, Cond.static yL_chord, Cond.codeWith yL_chord cL_chord 5 (some .int) [(0, 10, 13, 13)], Cond.methodLink RL 68 yX2_chord]
noncomputable def wsL_law0_r28 : List Cond := [Cond.instanceMethod yX2_chord, Cond.selects RX2 yX2_chord yX2_chord, Cond.code yX2_chord cX2_chord 3 (some .int), Cond.methodLink RX2 187 yX1_teethAt, Cond.methodLink RL 162 yX3_chord, Cond.instanceMethod yX3_chord, Cond.selects RX3 yX3_chord yX3_chord, Cond.code yX3_chord cX3_chord 3 (some .int), Cond.methodLink RL 163 yL_tooth, Cond.static yL_tooth, Cond.codeWith yL_tooth cL_tooth 5 (some .int) [(0, 10, 13, 13), (0, 10, 17, 21)], Cond.methodLink RL 71 yX2_tooth, Cond.instanceMethod yX2_tooth, Cond.selects RX2 yX2_tooth yX2_tooth, Cond.code yX2_tooth cX2_tooth 3 (some .int), Cond.methodLink RX2 190 yX1_numberOfTooth, Cond.instanceMethod yX1_numberOfTooth, Cond.selects RX1 yX1_numberOfTooth yX1_numberOfTooth, Cond.code yX1_numberOfTooth cX1_numberOfTooth 3 (some .int), Cond.methodLink RX1 149 yX1_widestGap, Cond.instanceMethod yX1_widestGap, Cond.selects RX1 yX1_widestGap yX1_widestGap, Cond.code yX1_widestGap cX1_widestGap 7 (some .int), Cond.methodLink RL 165 yX3_tooth]
noncomputable def wsL_law0_r29 : List Cond := [Cond.instanceMethod yX3_tooth, Cond.selects RX3 yX3_tooth yX3_tooth, Cond.code yX3_tooth cX3_tooth 3 (some .int), Cond.methodLink RX3 169 yX3_ofTooth, Cond.instanceMethod yX3_ofTooth, Cond.selects RX3 yX3_ofTooth yX3_ofTooth, Cond.code yX3_ofTooth cX3_ofTooth 3 (some .int), Cond.methodLink RX3 166 yX3_widest, Cond.instanceMethod yX3_widest, Cond.selects RX3 yX3_widest yX3_widest, Cond.code yX3_widest cX3_widest 7 (some .int), Cond.methodLink RL 166 yL_note, Cond.static yL_note, Cond.codeWith yL_note cL_note 5 (some .int) [(0, 10, 13, 21)], Cond.methodLink RL 74 yX2_note, Cond.instanceMethod yX2_note, Cond.selects RX2 yX2_note yX2_note, Cond.code yX2_note cX2_note 3 (some .int), Cond.methodLink RX2 195 yX1_notesKept, Cond.instanceMethod yX1_notesKept, Cond.selects RX1 yX1_notesKept yX1_notesKept, Cond.code yX1_notesKept cX1_notesKept 1 (some .int), Cond.methodLink RX1 131 Lib.Math.min.name, Cond.methodLink RX2 198 yX1_noteTooth]
noncomputable def wsL_law0_r30 : List Cond := [Cond.instanceMethod yX1_noteTooth, Cond.selects RX1 yX1_noteTooth yX1_noteTooth, Cond.code yX1_noteTooth cX1_noteTooth 2 (some .int), Cond.methodLink RX1 134 yX1_slotOf, Cond.instanceMethod yX1_slotOf, Cond.selects RX1 yX1_slotOf yX1_slotOf, Cond.code yX1_slotOf cX1_slotOf 2 (some .int), Cond.methodLink RX2 201 yX1_noteTime, Cond.instanceMethod yX1_noteTime, Cond.selects RX1 yX1_noteTime yX1_noteTime, Cond.code yX1_noteTime cX1_noteTime 2 (some .int), Cond.methodLink RL 168 yX3_note, Cond.instanceMethod yX3_note, Cond.selects RX3 yX3_note yX3_note, Cond.code yX3_note cX3_note 3 (some .int), Cond.methodLink RL 169 yL_count, Cond.static yL_count, Cond.codeWith yL_count cL_count 4 (some .int) [(0, 9, 12, 21)], Cond.methodLink RL 77 yX2_count, Cond.instanceMethod yX2_count, Cond.selects RX2 yX2_count yX2_count, Cond.code yX2_count cX2_count 2 (some .int), Cond.methodLink RX2 206 yX2_numberNow, Cond.instanceMethod yX2_numberNow]
noncomputable def wsL_law0_r31 : List Cond := [Cond.selects RX2 yX2_numberNow yX2_numberNow, Cond.code yX2_numberNow cX2_numberNow 2 (some .int), Cond.methodLink RX2 297 yX1_numberOfState, Cond.instanceMethod yX1_numberOfState, Cond.selects RX1 yX1_numberOfState yX1_numberOfState, Cond.code yX1_numberOfState cX1_numberOfState 2 (some .int), Cond.methodLink RX1 152 yX1_teethRinging, Cond.instanceMethod yX1_teethRinging, Cond.selects RX1 yX1_teethRinging yX1_teethRinging, Cond.code yX1_teethRinging cX1_teethRinging 3 (some .int), Cond.methodLink RX1 156 yX1_teethBroken, Cond.instanceMethod yX1_teethBroken, Cond.selects RX1 yX1_teethBroken yX1_teethBroken, Cond.code yX1_teethBroken cX1_teethBroken 1 (some .int), Cond.methodLink RX1 159 yX1_pinsOfAll, Cond.methodLink RL 171 yX3_count, Cond.instanceMethod yX3_count, Cond.selects RX3 yX3_count yX3_count, Cond.code yX3_count cX3_count 2 (some .int), Cond.methodLink RX3 175 yX3_counted, Cond.instanceMethod yX3_counted, Cond.selects RX3 yX3_counted yX3_counted, Cond.code yX3_counted cX3_counted 2 (some .int), Cond.methodLink RX3 172 yX3_teethThat]
noncomputable def wsL_law0_r32 : List Cond := [Cond.instanceMethod yX3_teethThat, Cond.selects RX3 yX3_teethThat yX3_teethThat, Cond.code yX3_teethThat cX3_teethThat 4 (some .int), Cond.methodLink RL 172 yL_ifPlayed, Cond.static yL_ifPlayed, Cond.codeWith yL_ifPlayed cL_ifPlayed 5 (some .int) [(0, 10, 13, 21)], Cond.methodLink RL 80 yX2_ifPlayed, Cond.instanceMethod yX2_ifPlayed, Cond.selects RX2 yX2_ifPlayed yX2_ifPlayed, Cond.code yX2_ifPlayed cX2_ifPlayed 3 (some .int), Cond.methodLink RX2 211 yX2_tryOut, Cond.instanceMethod yX2_tryOut, Cond.selects RX2 yX2_tryOut yX2_tryOut, Cond.code yX2_tryOut cX2_tryOut 3 none, Cond.methodLink RX2 215 yX2_outcome, Cond.instanceMethod yX2_outcome, Cond.selects RX2 yX2_outcome yX2_outcome, Cond.code yX2_outcome cX2_outcome 2 (some .int), Cond.methodLink RX2 294 yX1_teethBroken, Cond.methodLink RL 174 yX3_ifPlayed, Cond.instanceMethod yX3_ifPlayed, Cond.selects RX3 yX3_ifPlayed yX3_ifPlayed, Cond.code yX3_ifPlayed cX3_ifPlayed 3 (some .int), Cond.methodLink RX3 184 yX3_wouldBe]
noncomputable def wsL_law0_r33 : List Cond := [Cond.instanceMethod yX3_wouldBe, Cond.selects RX3 yX3_wouldBe yX3_wouldBe, Cond.code yX3_wouldBe cX3_wouldBe 8 (some .int), Cond.methodLink RX3 178 yX3_putAside, Cond.instanceMethod yX3_putAside, Cond.selects RX3 yX3_putAside yX3_putAside, Cond.code yX3_putAside cX3_putAside 2 none, Cond.methodLink RX3 181 yX3_putBack, Cond.instanceMethod yX3_putBack, Cond.selects RX3 yX3_putBack yX3_putBack, Cond.code yX3_putBack cX3_putBack 2 none, Cond.methodLink RL 175 yX2_fewestVanes, Cond.instanceMethod yX2_fewestVanes, Cond.selects RX2 yX2_fewestVanes yX2_fewestVanes, Cond.code yX2_fewestVanes cX2_fewestVanes 1 (some .int), Cond.methodLink RX2 218 yX2_fewestQuietVanes, Cond.instanceMethod yX2_fewestQuietVanes, Cond.selects RX2 yX2_fewestQuietVanes yX2_fewestQuietVanes, Cond.code yX2_fewestQuietVanes cX2_fewestQuietVanes 2 (some .int), Cond.methodLink RL 178 yX3_fewestVanes, Cond.instanceMethod yX3_fewestVanes, Cond.selects RX3 yX3_fewestVanes yX3_fewestVanes, Cond.code yX3_fewestVanes cX3_fewestVanes 1 (some .int), Cond.methodLink RX3 187 yX3_quietVanes]
noncomputable def wsL_law0_r34 : List Cond := [Cond.instanceMethod yX3_quietVanes, Cond.selects RX3 yX3_quietVanes yX3_quietVanes, Cond.code yX3_quietVanes cX3_quietVanes 4 (some .int), Cond.methodLink RL 179 yL_windFor, Cond.static yL_windFor, Cond.codeWith yL_windFor cL_windFor 4 (some .int) [(0, 9, 12, 21)], Cond.methodLink RL 83 yX2_windFor, Cond.instanceMethod yX2_windFor, Cond.selects RX2 yX2_windFor yX2_windFor, Cond.code yX2_windFor cX2_windFor 2 (some .int), Cond.methodLink RX2 221 yX1_windOfSteps, Cond.instanceMethod yX1_windOfSteps, Cond.selects RX1 yX1_windOfSteps yX1_windOfSteps, Cond.code yX1_windOfSteps cX1_windOfSteps 6 (some .int), Cond.methodLink RL 181 yX3_windFor, Cond.instanceMethod yX3_windFor, Cond.selects RX3 yX3_windFor yX3_windFor, Cond.code yX3_windFor cX3_windFor 2 (some .int), Cond.methodLink RX3 190 yX3_windOf, Cond.instanceMethod yX3_windOf, Cond.selects RX3 yX3_windOf yX3_windOf, Cond.code yX3_windOf cX3_windOf 4 (some .int), Cond.methodLink RL 182 yX2_clean, Cond.instanceMethod yX2_clean]
noncomputable def wsL_law0_r35 : List Cond := [Cond.selects RX2 yX2_clean yX2_clean, Cond.code yX2_clean cX2_clean 1 (some .double), Cond.methodLink RX2 224 yX2_cleanShare, Cond.instanceMethod yX2_cleanShare, Cond.selects RX2 yX2_cleanShare yX2_cleanShare, Cond.code yX2_cleanShare cX2_cleanShare 1 (some .double), Cond.methodLink RX2 300 Lib.Math.max.name, Cond.methodLink RL 186 yX3_clean, Cond.instanceMethod yX3_clean, Cond.selects RX3 yX3_clean yX3_clean, Cond.code yX3_clean cX3_clean 1 (some .double), Cond.methodLink RX3 193 yX3_share, Cond.instanceMethod yX3_share, Cond.selects RX3 yX3_share yX3_share, Cond.code yX3_share cX3_share 2 (some .double), Cond.methodLink RL 187 yX2_digest, Cond.instanceMethod yX2_digest, Cond.selects RX2 yX2_digest yX2_digest, Cond.code yX2_digest cX2_digest 4 (some .long), Cond.constantLong RX2 228 (3797), Cond.methodLink RX2 230 yX2_mixed, Cond.static yX2_mixed, Cond.code yX2_mixed cX2_mixed 4 (some .long), Cond.constantLong RX2 309 (31)]
noncomputable def wsL_law0_r36 : List Cond := [Cond.methodLink RX2 234 yX2_mixedTunes, Cond.instanceMethod yX2_mixedTunes, Cond.selects RX2 yX2_mixedTunes yX2_mixedTunes, Cond.code yX2_mixedTunes cX2_mixedTunes 7 (some .long), Cond.methodLink RX2 238 yX2_mixedTeeth, Cond.instanceMethod yX2_mixedTeeth, Cond.selects RX2 yX2_mixedTeeth yX2_mixedTeeth, Cond.code yX2_mixedTeeth cX2_mixedTeeth 7 (some .long), Cond.methodLink RX2 241 yX2_mixedNotes, Cond.instanceMethod yX2_mixedNotes, Cond.selects RX2 yX2_mixedNotes yX2_mixedNotes, Cond.code yX2_mixedNotes cX2_mixedNotes 7 (some .long), Cond.methodLink RX2 244 yX2_mixedProspects, Cond.instanceMethod yX2_mixedProspects, Cond.selects RX2 yX2_mixedProspects yX2_mixedProspects, Cond.code yX2_mixedProspects cX2_mixedProspects 6 (some .long), Cond.methodLink RX2 247 yX2_bitsOfShare, Cond.static yX2_bitsOfShare, Cond.code yX2_bitsOfShare cX2_bitsOfShare 7 (some .long), Cond.constantLong RX2 303 (1023), Cond.constantDouble RX2 305 (4611686018427387904), Cond.constantDouble RX2 307 (4841369599423283200), Cond.methodLink RX2 251 yX2_mixedBuffer, Cond.instanceMethod yX2_mixedBuffer]
noncomputable def wsL_law0_r37 : List Cond := [Cond.selects RX2 yX2_mixedBuffer yX2_mixedBuffer, Cond.code yX2_mixedBuffer cX2_mixedBuffer 6 (some .long), Cond.methodLink RL 191 yX3_digest, Cond.instanceMethod yX3_digest, Cond.selects RX3 yX3_digest yX3_digest, Cond.code yX3_digest cX3_digest 2 (some .long), Cond.constantLong RX3 215 (3797), Cond.fieldLink RX3 207 "PinCylinderModel" "digested" "J", Cond.methodLink RX3 211 yX3_digestOne, Cond.instanceMethod yX3_digestOne, Cond.selects RX3 yX3_digestOne yX3_digestOne, Cond.code yX3_digestOne cX3_digestOne 3 none, Cond.constantLong RX3 205 (31), Cond.methodLink RX3 217 yX3_digestCylinder, Cond.instanceMethod yX3_digestCylinder, Cond.selects RX3 yX3_digestCylinder yX3_digestCylinder, Cond.code yX3_digestCylinder cX3_digestCylinder 3 none, Cond.methodLink RX3 220 yX3_bitsOf, Cond.static yX3_bitsOf, Cond.code yX3_bitsOf cX3_bitsOf 6 (some .long), Cond.constantLong RX3 197 (1023), Cond.constantDouble RX3 199 (4611686018427387904), Cond.constantLong RX3 201 (4503599627370496), Cond.constantDouble RX3 203 (4841369599423283200)]
noncomputable def wsL_law0 : List Cond := (wsL_law0_r1 ++ (wsL_law0_r2 ++ (wsL_law0_r3 ++ (wsL_law0_r4 ++ (wsL_law0_r5 ++ (wsL_law0_r6 ++ (wsL_law0_r7 ++ (wsL_law0_r8 ++ (wsL_law0_r9 ++ (wsL_law0_r10 ++ (wsL_law0_r11 ++ (wsL_law0_r12 ++ (wsL_law0_r13 ++ (wsL_law0_r14 ++ (wsL_law0_r15 ++ (wsL_law0_r16 ++ (wsL_law0_r17 ++ (wsL_law0_r18 ++ (wsL_law0_r19 ++ (wsL_law0_r20 ++ (wsL_law0_r21 ++ (wsL_law0_r22 ++ (wsL_law0_r23 ++ (wsL_law0_r24 ++ (wsL_law0_r25 ++ (wsL_law0_r26 ++ (wsL_law0_r27 ++ (wsL_law0_r28 ++ (wsL_law0_r29 ++ (wsL_law0_r30 ++ (wsL_law0_r31 ++ (wsL_law0_r32 ++ (wsL_law0_r33 ++ (wsL_law0_r34 ++ (wsL_law0_r35 ++ (wsL_law0_r36 ++ wsL_law0_r37)))))))))))))))))))))))))))))))))))) ++ wsX20 ++ wsX30 ++ wsX10 ++ wsX00 ++ ([] : List Cond)
noncomputable def wsL_law : List Cond := wsL_law0 ++ (vx_atS RX2 59 "java/lang/IndexOutOfBoundsException" ["java/lang/RuntimeException", "java/lang/Exception"]).filter goodWord ++ (vx_atS RX2 70 "java/lang/IllegalStateException" ["java/lang/RuntimeException", "java/lang/Exception"]).filter goodWord ++ (vx_atS RX2 90 "java/lang/IllegalArgumentException" ["java/lang/RuntimeException", "java/lang/Exception"]).filter goodWord
abbrev vwCl : List vw_C := [(RX0, TX0, 5), (RX1, TX1, 17), (RX2, TX2, 10), (RX3, TX3, 13)]
end
section
theorem dJ6_bitCount_0f7a4_0 : decode cJ6_bitCount_0f7a4 0 = .ok (.iload_n 0, 1) := by decide +kernel
theorem dJ6_bitCount_0f7a4_1 : decode cJ6_bitCount_0f7a4 1 = .ok (.iload_n 0, 1) := by decide +kernel
theorem dJ6_bitCount_0f7a4_2 : decode cJ6_bitCount_0f7a4 2 = .ok (.iconst 1, 1) := by decide +kernel
theorem dJ6_bitCount_0f7a4_3 : decode cJ6_bitCount_0f7a4 3 = .ok (.iushr, 1) := by decide +kernel
theorem dJ6_bitCount_0f7a4_4 : decode cJ6_bitCount_0f7a4 4 = .ok (.ldc_w 265, 3) := by decide +kernel
theorem dJ6_bitCount_0f7a4_7 : decode cJ6_bitCount_0f7a4 7 = .ok (.iand, 1) := by decide +kernel
theorem dJ6_bitCount_0f7a4_8 : decode cJ6_bitCount_0f7a4 8 = .ok (.isub, 1) := by decide +kernel
theorem dJ6_bitCount_0f7a4_9 : decode cJ6_bitCount_0f7a4 9 = .ok (.istore_n 0, 1) := by decide +kernel
theorem dJ6_bitCount_0f7a4_10 : decode cJ6_bitCount_0f7a4 10 = .ok (.iload_n 0, 1) := by decide +kernel
theorem dJ6_bitCount_0f7a4_11 : decode cJ6_bitCount_0f7a4 11 = .ok (.ldc_w 266, 3) := by decide +kernel
theorem dJ6_bitCount_0f7a4_14 : decode cJ6_bitCount_0f7a4 14 = .ok (.iand, 1) := by decide +kernel
theorem dJ6_bitCount_0f7a4_15 : decode cJ6_bitCount_0f7a4 15 = .ok (.iload_n 0, 1) := by decide +kernel
theorem dJ6_bitCount_0f7a4_16 : decode cJ6_bitCount_0f7a4 16 = .ok (.iconst 2, 1) := by decide +kernel
theorem dJ6_bitCount_0f7a4_17 : decode cJ6_bitCount_0f7a4 17 = .ok (.iushr, 1) := by decide +kernel
theorem dJ6_bitCount_0f7a4_18 : decode cJ6_bitCount_0f7a4 18 = .ok (.ldc_w 266, 3) := by decide +kernel
theorem dJ6_bitCount_0f7a4_21 : decode cJ6_bitCount_0f7a4 21 = .ok (.iand, 1) := by decide +kernel
theorem dJ6_bitCount_0f7a4_22 : decode cJ6_bitCount_0f7a4 22 = .ok (.iadd, 1) := by decide +kernel
theorem dJ6_bitCount_0f7a4_23 : decode cJ6_bitCount_0f7a4 23 = .ok (.istore_n 0, 1) := by decide +kernel
theorem dJ6_bitCount_0f7a4_24 : decode cJ6_bitCount_0f7a4 24 = .ok (.iload_n 0, 1) := by decide +kernel
theorem dJ6_bitCount_0f7a4_25 : decode cJ6_bitCount_0f7a4 25 = .ok (.iload_n 0, 1) := by decide +kernel
theorem dJ6_bitCount_0f7a4_26 : decode cJ6_bitCount_0f7a4 26 = .ok (.iconst 4, 1) := by decide +kernel
theorem dJ6_bitCount_0f7a4_27 : decode cJ6_bitCount_0f7a4 27 = .ok (.iushr, 1) := by decide +kernel
theorem dJ6_bitCount_0f7a4_28 : decode cJ6_bitCount_0f7a4 28 = .ok (.iadd, 1) := by decide +kernel
theorem dJ6_bitCount_0f7a4_29 : decode cJ6_bitCount_0f7a4 29 = .ok (.ldc_w 267, 3) := by decide +kernel
theorem dJ6_bitCount_0f7a4_32 : decode cJ6_bitCount_0f7a4 32 = .ok (.iand, 1) := by decide +kernel
theorem dJ6_bitCount_0f7a4_33 : decode cJ6_bitCount_0f7a4 33 = .ok (.istore_n 0, 1) := by decide +kernel
theorem dJ6_bitCount_0f7a4_34 : decode cJ6_bitCount_0f7a4 34 = .ok (.iload_n 0, 1) := by decide +kernel
theorem dJ6_bitCount_0f7a4_35 : decode cJ6_bitCount_0f7a4 35 = .ok (.iload_n 0, 1) := by decide +kernel
theorem dJ6_bitCount_0f7a4_36 : decode cJ6_bitCount_0f7a4 36 = .ok (.bipush 8, 2) := by decide +kernel
theorem dJ6_bitCount_0f7a4_38 : decode cJ6_bitCount_0f7a4 38 = .ok (.iushr, 1) := by decide +kernel
theorem dJ6_bitCount_0f7a4_39 : decode cJ6_bitCount_0f7a4 39 = .ok (.iadd, 1) := by decide +kernel
theorem dJ6_bitCount_0f7a4_40 : decode cJ6_bitCount_0f7a4 40 = .ok (.istore_n 0, 1) := by decide +kernel
theorem dJ6_bitCount_0f7a4_41 : decode cJ6_bitCount_0f7a4 41 = .ok (.iload_n 0, 1) := by decide +kernel
theorem dJ6_bitCount_0f7a4_42 : decode cJ6_bitCount_0f7a4 42 = .ok (.iload_n 0, 1) := by decide +kernel
theorem dJ6_bitCount_0f7a4_43 : decode cJ6_bitCount_0f7a4 43 = .ok (.bipush 16, 2) := by decide +kernel
theorem dJ6_bitCount_0f7a4_45 : decode cJ6_bitCount_0f7a4 45 = .ok (.iushr, 1) := by decide +kernel
theorem dJ6_bitCount_0f7a4_46 : decode cJ6_bitCount_0f7a4 46 = .ok (.iadd, 1) := by decide +kernel
theorem dJ6_bitCount_0f7a4_47 : decode cJ6_bitCount_0f7a4 47 = .ok (.istore_n 0, 1) := by decide +kernel
theorem dJ6_bitCount_0f7a4_48 : decode cJ6_bitCount_0f7a4 48 = .ok (.iload_n 0, 1) := by decide +kernel
theorem dJ6_bitCount_0f7a4_49 : decode cJ6_bitCount_0f7a4 49 = .ok (.bipush 63, 2) := by decide +kernel
theorem dJ6_bitCount_0f7a4_51 : decode cJ6_bitCount_0f7a4 51 = .ok (.iand, 1) := by decide +kernel
theorem dJ6_bitCount_0f7a4_52 : decode cJ6_bitCount_0f7a4 52 = .ok (.ireturn, 1) := by decide +kernel
theorem dJ9_floorMod_7cf53_0 : decode cJ9_floorMod_7cf53 0 = .ok (.iload_n 0, 1) := by decide +kernel
theorem dJ9_floorMod_7cf53_1 : decode cJ9_floorMod_7cf53 1 = .ok (.iload_n 1, 1) := by decide +kernel
theorem dJ9_floorMod_7cf53_2 : decode cJ9_floorMod_7cf53 2 = .ok (.irem, 1) := by decide +kernel
theorem dJ9_floorMod_7cf53_3 : decode cJ9_floorMod_7cf53 3 = .ok (.istore_n 2, 1) := by decide +kernel
theorem dJ9_floorMod_7cf53_4 : decode cJ9_floorMod_7cf53 4 = .ok (.iload_n 0, 1) := by decide +kernel
theorem dJ9_floorMod_7cf53_5 : decode cJ9_floorMod_7cf53 5 = .ok (.iload_n 1, 1) := by decide +kernel
theorem dJ9_floorMod_7cf53_6 : decode cJ9_floorMod_7cf53 6 = .ok (.ixor, 1) := by decide +kernel
theorem dJ9_floorMod_7cf53_7 : decode cJ9_floorMod_7cf53 7 = .ok (.ifCond .ge 11, 3) := by decide +kernel
theorem dJ9_floorMod_7cf53_10 : decode cJ9_floorMod_7cf53 10 = .ok (.iload_n 2, 1) := by decide +kernel
theorem dJ9_floorMod_7cf53_11 : decode cJ9_floorMod_7cf53 11 = .ok (.ifCond .eq 7, 3) := by decide +kernel
theorem dJ9_floorMod_7cf53_14 : decode cJ9_floorMod_7cf53 14 = .ok (.iload_n 2, 1) := by decide +kernel
theorem dJ9_floorMod_7cf53_15 : decode cJ9_floorMod_7cf53 15 = .ok (.iload_n 1, 1) := by decide +kernel
theorem dJ9_floorMod_7cf53_16 : decode cJ9_floorMod_7cf53 16 = .ok (.iadd, 1) := by decide +kernel
theorem dJ9_floorMod_7cf53_17 : decode cJ9_floorMod_7cf53 17 = .ok (.ireturn, 1) := by decide +kernel
theorem dJ9_floorMod_7cf53_18 : decode cJ9_floorMod_7cf53 18 = .ok (.iload_n 2, 1) := by decide +kernel
theorem dJ9_floorMod_7cf53_19 : decode cJ9_floorMod_7cf53 19 = .ok (.ireturn, 1) := by decide +kernel
theorem dJ9_max_7cf53_0 : decode cJ9_max_7cf53 0 = .ok (.iload_n 0, 1) := by decide +kernel
theorem dJ9_max_7cf53_1 : decode cJ9_max_7cf53 1 = .ok (.iload_n 1, 1) := by decide +kernel
theorem dJ9_max_7cf53_2 : decode cJ9_max_7cf53 2 = .ok (.if_icmp .lt 7, 3) := by decide +kernel
theorem dJ9_max_7cf53_5 : decode cJ9_max_7cf53 5 = .ok (.iload_n 0, 1) := by decide +kernel
theorem dJ9_max_7cf53_6 : decode cJ9_max_7cf53 6 = .ok (.goto 4, 3) := by decide +kernel
theorem dJ9_max_7cf53_9 : decode cJ9_max_7cf53 9 = .ok (.iload_n 1, 1) := by decide +kernel
theorem dJ9_max_7cf53_10 : decode cJ9_max_7cf53 10 = .ok (.ireturn, 1) := by decide +kernel
theorem dJ9_min_7cf53_0 : decode cJ9_min_7cf53 0 = .ok (.iload_n 0, 1) := by decide +kernel
theorem dJ9_min_7cf53_1 : decode cJ9_min_7cf53 1 = .ok (.iload_n 1, 1) := by decide +kernel
theorem dJ9_min_7cf53_2 : decode cJ9_min_7cf53 2 = .ok (.if_icmp .gt 7, 3) := by decide +kernel
theorem dJ9_min_7cf53_5 : decode cJ9_min_7cf53 5 = .ok (.iload_n 0, 1) := by decide +kernel
theorem dJ9_min_7cf53_6 : decode cJ9_min_7cf53 6 = .ok (.goto 4, 3) := by decide +kernel
theorem dJ9_min_7cf53_9 : decode cJ9_min_7cf53 9 = .ok (.iload_n 1, 1) := by decide +kernel
theorem dJ9_min_7cf53_10 : decode cJ9_min_7cf53 10 = .ok (.ireturn, 1) := by decide +kernel
end
section
theorem dX3_init_0 : decode cX3_init 0 = .ok (.aload_n 0, 1) := by decide +kernel
theorem dX3_init_1 : decode cX3_init 1 = .ok (.invokespecial 1, 3) := by decide +kernel
theorem dX3_init_4 : decode cX3_init 4 = .ok (.aload_n 0, 1) := by decide +kernel
theorem dX3_init_5 : decode cX3_init 5 = .ok (.sipush 147, 3) := by decide +kernel
theorem dX3_init_8 : decode cX3_init 8 = .ok (.newarray .int, 2) := by decide +kernel
theorem dX3_init_10 : decode cX3_init 10 = .ok (.putfield 7, 3) := by decide +kernel
theorem dX3_init_13 : decode cX3_init 13 = .ok (.aload_n 0, 1) := by decide +kernel
theorem dX3_init_14 : decode cX3_init 14 = .ok (.sipush 147, 3) := by decide +kernel
theorem dX3_init_17 : decode cX3_init 17 = .ok (.newarray .int, 2) := by decide +kernel
theorem dX3_init_19 : decode cX3_init 19 = .ok (.putfield 13, 3) := by decide +kernel
theorem dX3_init_22 : decode cX3_init 22 = .ok (.aload_n 0, 1) := by decide +kernel
theorem dX3_init_23 : decode cX3_init 23 = .ok (.sipush 882, 3) := by decide +kernel
theorem dX3_init_26 : decode cX3_init 26 = .ok (.newarray .int, 2) := by decide +kernel
theorem dX3_init_28 : decode cX3_init 28 = .ok (.putfield 16, 3) := by decide +kernel
theorem dX3_init_31 : decode cX3_init 31 = .ok (.aload_n 0, 1) := by decide +kernel
theorem dX3_init_32 : decode cX3_init 32 = .ok (.sipush 147, 3) := by decide +kernel
theorem dX3_init_35 : decode cX3_init 35 = .ok (.newarray .int, 2) := by decide +kernel
theorem dX3_init_37 : decode cX3_init 37 = .ok (.putfield 19, 3) := by decide +kernel
theorem dX3_init_40 : decode cX3_init 40 = .ok (.aload_n 0, 1) := by decide +kernel
theorem dX3_init_41 : decode cX3_init 41 = .ok (.bipush 60, 2) := by decide +kernel
theorem dX3_init_43 : decode cX3_init 43 = .ok (.newarray .int, 2) := by decide +kernel
theorem dX3_init_45 : decode cX3_init 45 = .ok (.putfield 22, 3) := by decide +kernel
theorem dX3_init_48 : decode cX3_init 48 = .ok (.aload_n 0, 1) := by decide +kernel
theorem dX3_init_49 : decode cX3_init 49 = .ok (.getfield 7, 3) := by decide +kernel
theorem dX3_init_52 : decode cX3_init 52 = .ok (.sipush 133, 3) := by decide +kernel
theorem dX3_init_55 : decode cX3_init 55 = .ok (.bipush 31, 2) := by decide +kernel
theorem dX3_init_57 : decode cX3_init 57 = .ok (.iastore, 1) := by decide +kernel
theorem dX3_init_58 : decode cX3_init 58 = .ok (.aload_n 0, 1) := by decide +kernel
theorem dX3_init_59 : decode cX3_init 59 = .ok (.getfield 7, 3) := by decide +kernel
theorem dX3_init_62 : decode cX3_init 62 = .ok (.sipush 136, 3) := by decide +kernel
theorem dX3_init_65 : decode cX3_init 65 = .ok (.iconst 5, 1) := by decide +kernel
theorem dX3_init_66 : decode cX3_init 66 = .ok (.iastore, 1) := by decide +kernel
theorem dX3_init_67 : decode cX3_init 67 = .ok (.aload_n 0, 1) := by decide +kernel
theorem dX3_init_68 : decode cX3_init 68 = .ok (.getfield 7, 3) := by decide +kernel
theorem dX3_init_71 : decode cX3_init 71 = .ok (.sipush 142, 3) := by decide +kernel
theorem dX3_init_74 : decode cX3_init 74 = .ok (.bipush 40, 2) := by decide +kernel
theorem dX3_init_76 : decode cX3_init 76 = .ok (.iastore, 1) := by decide +kernel
theorem dX3_init_77 : decode cX3_init 77 = .ok (.aload_n 0, 1) := by decide +kernel
theorem dX3_init_78 : decode cX3_init 78 = .ok (.getfield 7, 3) := by decide +kernel
theorem dX3_init_81 : decode cX3_init 81 = .ok (.sipush 143, 3) := by decide +kernel
theorem dX3_init_84 : decode cX3_init 84 = .ok (.bipush 6, 2) := by decide +kernel
theorem dX3_init_86 : decode cX3_init 86 = .ok (.iastore, 1) := by decide +kernel
theorem dX3_init_87 : decode cX3_init 87 = .ok (.aload_n 0, 1) := by decide +kernel
theorem dX3_init_88 : decode cX3_init 88 = .ok (.getfield 7, 3) := by decide +kernel
theorem dX3_init_91 : decode cX3_init 91 = .ok (.sipush 145, 3) := by decide +kernel
theorem dX3_init_94 : decode cX3_init 94 = .ok (.iconst 1, 1) := by decide +kernel
theorem dX3_init_95 : decode cX3_init 95 = .ok (.iastore, 1) := by decide +kernel
theorem dX3_init_96 : decode cX3_init 96 = .ok (.aload_n 0, 1) := by decide +kernel
theorem dX3_init_97 : decode cX3_init 97 = .ok (.getfield 7, 3) := by decide +kernel
theorem dX3_init_100 : decode cX3_init 100 = .ok (.sipush 146, 3) := by decide +kernel
theorem dX3_init_103 : decode cX3_init 103 = .ok (.bipush 6, 2) := by decide +kernel
theorem dX3_init_105 : decode cX3_init 105 = .ok (.iastore, 1) := by decide +kernel
theorem dX3_init_106 : decode cX3_init 106 = .ok (.return_, 1) := by decide +kernel
theorem dX3_thrown_0 : decode cX3_thrown 0 = .ok (.aload_n 0, 1) := by decide +kernel
theorem dX3_thrown_1 : decode cX3_thrown 1 = .ok (.getfield 25, 3) := by decide +kernel
theorem dX3_thrown_4 : decode cX3_thrown 4 = .ok (.ireturn, 1) := by decide +kernel
theorem dX3_in_0 : decode cX3_in 0 = .ok (.iload_n 0, 1) := by decide +kernel
theorem dX3_in_1 : decode cX3_in 1 = .ok (.iload_n 1, 1) := by decide +kernel
theorem dX3_in_2 : decode cX3_in 2 = .ok (.if_icmp .lt 12, 3) := by decide +kernel
theorem dX3_in_5 : decode cX3_in 5 = .ok (.iload_n 0, 1) := by decide +kernel
theorem dX3_in_6 : decode cX3_in 6 = .ok (.iload_n 2, 1) := by decide +kernel
theorem dX3_in_7 : decode cX3_in 7 = .ok (.if_icmp .gt 7, 3) := by decide +kernel
theorem dX3_in_10 : decode cX3_in 10 = .ok (.iconst 1, 1) := by decide +kernel
theorem dX3_in_11 : decode cX3_in 11 = .ok (.goto 4, 3) := by decide +kernel
theorem dX3_in_14 : decode cX3_in 14 = .ok (.iconst 0, 1) := by decide +kernel
theorem dX3_in_15 : decode cX3_in 15 = .ok (.ireturn, 1) := by decide +kernel
theorem dX3_holds_0 : decode cX3_holds 0 = .ok (.aload_n 0, 1) := by decide +kernel
theorem dX3_holds_1 : decode cX3_holds 1 = .ok (.iload_n 1, 1) := by decide +kernel
theorem dX3_holds_2 : decode cX3_holds 2 = .ok (.putfield 25, 3) := by decide +kernel
theorem dX3_holds_5 : decode cX3_holds 5 = .ok (.iload_n 1, 1) := by decide +kernel
theorem dX3_holds_6 : decode cX3_holds 6 = .ok (.ifCond .ne 7, 3) := by decide +kernel
theorem dX3_holds_9 : decode cX3_holds 9 = .ok (.iconst 1, 1) := by decide +kernel
theorem dX3_holds_10 : decode cX3_holds 10 = .ok (.goto 4, 3) := by decide +kernel
theorem dX3_holds_13 : decode cX3_holds 13 = .ok (.iconst 0, 1) := by decide +kernel
theorem dX3_holds_14 : decode cX3_holds 14 = .ok (.ireturn, 1) := by decide +kernel
set_option maxRecDepth 20000 in
theorem ggX3_isTune_X3_in : GoodIn wsX3_isTune wsX3_in := goodIn_r _ [4] rfl (by decide +kernel)
set_option maxRecDepth 20000 in
theorem gX3_isTune_X3_in : GoodIn wsX3_isTune (va_wsS RX3 29 yX3_in wsX3_in) := goodIn_app (goodIn_r _ [1, 2, 3] rfl (by decide +kernel)) ggX3_isTune_X3_in
theorem dX3_isTune_0 : decode cX3_isTune 0 = .ok (.iload_n 0, 1) := by decide +kernel
theorem dX3_isTune_1 : decode cX3_isTune 1 = .ok (.iconst 0, 1) := by decide +kernel
theorem dX3_isTune_2 : decode cX3_isTune 2 = .ok (.iconst 2, 1) := by decide +kernel
theorem dX3_isTune_3 : decode cX3_isTune 3 = .ok (.invokestatic 29, 3) := by decide +kernel
theorem dX3_isTune_6 : decode cX3_isTune 6 = .ok (.ireturn, 1) := by decide +kernel
set_option maxRecDepth 20000 in
theorem ggX3_isTooth_X3_in : GoodIn wsX3_isTooth wsX3_in := goodIn_r _ [4] rfl (by decide +kernel)
set_option maxRecDepth 20000 in
theorem gX3_isTooth_X3_in : GoodIn wsX3_isTooth (va_wsS RX3 29 yX3_in wsX3_in) := goodIn_app (goodIn_r _ [1, 2, 3] rfl (by decide +kernel)) ggX3_isTooth_X3_in
theorem dX3_isTooth_0 : decode cX3_isTooth 0 = .ok (.iload_n 0, 1) := by decide +kernel
theorem dX3_isTooth_1 : decode cX3_isTooth 1 = .ok (.iconst 0, 1) := by decide +kernel
theorem dX3_isTooth_2 : decode cX3_isTooth 2 = .ok (.bipush 11, 2) := by decide +kernel
theorem dX3_isTooth_4 : decode cX3_isTooth 4 = .ok (.invokestatic 29, 3) := by decide +kernel
theorem dX3_isTooth_7 : decode cX3_isTooth 7 = .ok (.ireturn, 1) := by decide +kernel
set_option maxRecDepth 20000 in
theorem ggX3_isStep_X3_in : GoodIn wsX3_isStep wsX3_in := goodIn_r _ [4] rfl (by decide +kernel)
set_option maxRecDepth 20000 in
theorem gX3_isStep_X3_in : GoodIn wsX3_isStep (va_wsS RX3 29 yX3_in wsX3_in) := goodIn_app (goodIn_r _ [1, 2, 3] rfl (by decide +kernel)) ggX3_isStep_X3_in
theorem dX3_isStep_0 : decode cX3_isStep 0 = .ok (.iload_n 0, 1) := by decide +kernel
theorem dX3_isStep_1 : decode cX3_isStep 1 = .ok (.iconst 0, 1) := by decide +kernel
theorem dX3_isStep_2 : decode cX3_isStep 2 = .ok (.bipush 31, 2) := by decide +kernel
theorem dX3_isStep_4 : decode cX3_isStep 4 = .ok (.invokestatic 29, 3) := by decide +kernel
theorem dX3_isStep_7 : decode cX3_isStep 7 = .ok (.ireturn, 1) := by decide +kernel
set_option maxRecDepth 20000 in
theorem ggX3_areThere_X3_isTune : GoodIn wsX3_areThere wsX3_isTune := goodIn_r _ [4, 5, 6, 3, 7] rfl (by decide +kernel)
set_option maxRecDepth 20000 in
theorem gX3_areThere_X3_isTune : GoodIn wsX3_areThere (va_wsS RX3 33 yX3_isTune wsX3_isTune) := goodIn_app (goodIn_r _ [1, 2, 3] rfl (by decide +kernel)) ggX3_areThere_X3_isTune
set_option maxRecDepth 20000 in
theorem ggX3_areThere_X3_isTooth : GoodIn wsX3_areThere wsX3_isTooth := goodIn_r _ [10, 5, 6, 3, 7] rfl (by decide +kernel)
set_option maxRecDepth 20000 in
theorem gX3_areThere_X3_isTooth : GoodIn wsX3_areThere (va_wsS RX3 37 yX3_isTooth wsX3_isTooth) := goodIn_app (goodIn_r _ [8, 9, 3] rfl (by decide +kernel)) ggX3_areThere_X3_isTooth
set_option maxRecDepth 20000 in
theorem ggX3_areThere_X3_isStep : GoodIn wsX3_areThere wsX3_isStep := goodIn_r _ [13, 5, 6, 3, 7] rfl (by decide +kernel)
set_option maxRecDepth 20000 in
theorem gX3_areThere_X3_isStep : GoodIn wsX3_areThere (va_wsS RX3 40 yX3_isStep wsX3_isStep) := goodIn_app (goodIn_r _ [11, 12, 3] rfl (by decide +kernel)) ggX3_areThere_X3_isStep
theorem dX3_areThere_0 : decode cX3_areThere 0 = .ok (.iload_n 0, 1) := by decide +kernel
theorem dX3_areThere_1 : decode cX3_areThere 1 = .ok (.invokestatic 33, 3) := by decide +kernel
theorem dX3_areThere_4 : decode cX3_areThere 4 = .ok (.ifCond .eq 21, 3) := by decide +kernel
theorem dX3_areThere_7 : decode cX3_areThere 7 = .ok (.iload_n 1, 1) := by decide +kernel
theorem dX3_areThere_8 : decode cX3_areThere 8 = .ok (.invokestatic 37, 3) := by decide +kernel
theorem dX3_areThere_11 : decode cX3_areThere 11 = .ok (.ifCond .eq 14, 3) := by decide +kernel
theorem dX3_areThere_14 : decode cX3_areThere 14 = .ok (.iload_n 2, 1) := by decide +kernel
theorem dX3_areThere_15 : decode cX3_areThere 15 = .ok (.invokestatic 40, 3) := by decide +kernel
theorem dX3_areThere_18 : decode cX3_areThere 18 = .ok (.ifCond .eq 7, 3) := by decide +kernel
theorem dX3_areThere_21 : decode cX3_areThere 21 = .ok (.iconst 1, 1) := by decide +kernel
theorem dX3_areThere_22 : decode cX3_areThere 22 = .ok (.goto 4, 3) := by decide +kernel
theorem dX3_areThere_25 : decode cX3_areThere 25 = .ok (.iconst 0, 1) := by decide +kernel
theorem dX3_areThere_26 : decode cX3_areThere 26 = .ok (.ireturn, 1) := by decide +kernel
theorem dX3_ofPins_0 : decode cX3_ofPins 0 = .ok (.iconst 0, 1) := by decide +kernel
theorem dX3_ofPins_1 : decode cX3_ofPins 1 = .ok (.bipush 12, 2) := by decide +kernel
theorem dX3_ofPins_3 : decode cX3_ofPins 3 = .ok (.iload_n 0, 1) := by decide +kernel
theorem dX3_ofPins_4 : decode cX3_ofPins 4 = .ok (.imul, 1) := by decide +kernel
theorem dX3_ofPins_5 : decode cX3_ofPins 5 = .ok (.iadd, 1) := by decide +kernel
theorem dX3_ofPins_6 : decode cX3_ofPins 6 = .ok (.iload_n 1, 1) := by decide +kernel
theorem dX3_ofPins_7 : decode cX3_ofPins 7 = .ok (.iadd, 1) := by decide +kernel
theorem dX3_ofPins_8 : decode cX3_ofPins 8 = .ok (.ireturn, 1) := by decide +kernel
theorem dX3_of_0 : decode cX3_of 0 = .ok (.bipush 36, 2) := by decide +kernel
theorem dX3_of_2 : decode cX3_of 2 = .ok (.iconst 4, 1) := by decide +kernel
theorem dX3_of_3 : decode cX3_of 3 = .ok (.iload_n 0, 1) := by decide +kernel
theorem dX3_of_4 : decode cX3_of 4 = .ok (.imul, 1) := by decide +kernel
theorem dX3_of_5 : decode cX3_of 5 = .ok (.iadd, 1) := by decide +kernel
theorem dX3_of_6 : decode cX3_of 6 = .ok (.iload_n 1, 1) := by decide +kernel
theorem dX3_of_7 : decode cX3_of 7 = .ok (.iadd, 1) := by decide +kernel
theorem dX3_of_8 : decode cX3_of 8 = .ok (.ireturn, 1) := by decide +kernel
theorem dX3_save_0 : decode cX3_save 0 = .ok (.aload_n 0, 1) := by decide +kernel
theorem dX3_save_1 : decode cX3_save 1 = .ok (.getfield 43, 3) := by decide +kernel
theorem dX3_save_4 : decode cX3_save 4 = .ok (.bipush 6, 2) := by decide +kernel
theorem dX3_save_6 : decode cX3_save 6 = .ok (.if_icmp .ne 44, 3) := by decide +kernel
theorem dX3_save_9 : decode cX3_save 9 = .ok (.iconst 0, 1) := by decide +kernel
theorem dX3_save_10 : decode cX3_save 10 = .ok (.istore_n 1, 1) := by decide +kernel
theorem dX3_save_11 : decode cX3_save 11 = .ok (.iload_n 1, 1) := by decide +kernel
theorem dX3_save_12 : decode cX3_save 12 = .ok (.sipush 735, 3) := by decide +kernel
theorem dX3_save_15 : decode cX3_save 15 = .ok (.if_icmp .ge 25, 3) := by decide +kernel
theorem dX3_save_18 : decode cX3_save 18 = .ok (.aload_n 0, 1) := by decide +kernel
theorem dX3_save_19 : decode cX3_save 19 = .ok (.getfield 16, 3) := by decide +kernel
theorem dX3_save_22 : decode cX3_save 22 = .ok (.iload_n 1, 1) := by decide +kernel
theorem dX3_save_23 : decode cX3_save 23 = .ok (.aload_n 0, 1) := by decide +kernel
theorem dX3_save_24 : decode cX3_save 24 = .ok (.getfield 16, 3) := by decide +kernel
theorem dX3_save_27 : decode cX3_save 27 = .ok (.iload_n 1, 1) := by decide +kernel
theorem dX3_save_28 : decode cX3_save 28 = .ok (.sipush 147, 3) := by decide +kernel
theorem dX3_save_31 : decode cX3_save 31 = .ok (.iadd, 1) := by decide +kernel
theorem dX3_save_32 : decode cX3_save 32 = .ok (.iaload, 1) := by decide +kernel
theorem dX3_save_33 : decode cX3_save 33 = .ok (.iastore, 1) := by decide +kernel
theorem dX3_save_34 : decode cX3_save 34 = .ok (.iinc 1 1, 3) := by decide +kernel
theorem dX3_save_37 : decode cX3_save 37 = .ok (.goto (-26), 3) := by decide +kernel
theorem dX3_save_40 : decode cX3_save 40 = .ok (.aload_n 0, 1) := by decide +kernel
theorem dX3_save_41 : decode cX3_save 41 = .ok (.dup, 1) := by decide +kernel
theorem dX3_save_42 : decode cX3_save 42 = .ok (.getfield 43, 3) := by decide +kernel
theorem dX3_save_45 : decode cX3_save 45 = .ok (.iconst 1, 1) := by decide +kernel
theorem dX3_save_46 : decode cX3_save 46 = .ok (.isub, 1) := by decide +kernel
theorem dX3_save_47 : decode cX3_save 47 = .ok (.putfield 43, 3) := by decide +kernel
theorem dX3_save_50 : decode cX3_save 50 = .ok (.iconst 0, 1) := by decide +kernel
theorem dX3_save_51 : decode cX3_save 51 = .ok (.istore_n 1, 1) := by decide +kernel
theorem dX3_save_52 : decode cX3_save 52 = .ok (.iload_n 1, 1) := by decide +kernel
theorem dX3_save_53 : decode cX3_save 53 = .ok (.sipush 147, 3) := by decide +kernel
theorem dX3_save_56 : decode cX3_save 56 = .ok (.if_icmp .ge 30, 3) := by decide +kernel
theorem dX3_save_59 : decode cX3_save 59 = .ok (.aload_n 0, 1) := by decide +kernel
theorem dX3_save_60 : decode cX3_save 60 = .ok (.getfield 16, 3) := by decide +kernel
theorem dX3_save_63 : decode cX3_save 63 = .ok (.sipush 147, 3) := by decide +kernel
theorem dX3_save_66 : decode cX3_save 66 = .ok (.aload_n 0, 1) := by decide +kernel
theorem dX3_save_67 : decode cX3_save 67 = .ok (.getfield 43, 3) := by decide +kernel
theorem dX3_save_70 : decode cX3_save 70 = .ok (.imul, 1) := by decide +kernel
theorem dX3_save_71 : decode cX3_save 71 = .ok (.iload_n 1, 1) := by decide +kernel
theorem dX3_save_72 : decode cX3_save 72 = .ok (.iadd, 1) := by decide +kernel
theorem dX3_save_73 : decode cX3_save 73 = .ok (.aload_n 0, 1) := by decide +kernel
theorem dX3_save_74 : decode cX3_save 74 = .ok (.getfield 7, 3) := by decide +kernel
theorem dX3_save_77 : decode cX3_save 77 = .ok (.iload_n 1, 1) := by decide +kernel
theorem dX3_save_78 : decode cX3_save 78 = .ok (.iaload, 1) := by decide +kernel
theorem dX3_save_79 : decode cX3_save 79 = .ok (.iastore, 1) := by decide +kernel
theorem dX3_save_80 : decode cX3_save 80 = .ok (.iinc 1 1, 3) := by decide +kernel
theorem dX3_save_83 : decode cX3_save 83 = .ok (.goto (-31), 3) := by decide +kernel
theorem dX3_save_86 : decode cX3_save 86 = .ok (.aload_n 0, 1) := by decide +kernel
theorem dX3_save_87 : decode cX3_save 87 = .ok (.dup, 1) := by decide +kernel
theorem dX3_save_88 : decode cX3_save 88 = .ok (.getfield 43, 3) := by decide +kernel
theorem dX3_save_91 : decode cX3_save 91 = .ok (.iconst 1, 1) := by decide +kernel
theorem dX3_save_92 : decode cX3_save 92 = .ok (.iadd, 1) := by decide +kernel
theorem dX3_save_93 : decode cX3_save 93 = .ok (.putfield 43, 3) := by decide +kernel
theorem dX3_save_96 : decode cX3_save 96 = .ok (.return_, 1) := by decide +kernel
theorem dX3_putAside_0 : decode cX3_putAside 0 = .ok (.iconst 0, 1) := by decide +kernel
theorem dX3_putAside_1 : decode cX3_putAside 1 = .ok (.istore_n 1, 1) := by decide +kernel
theorem dX3_putAside_2 : decode cX3_putAside 2 = .ok (.iload_n 1, 1) := by decide +kernel
theorem dX3_putAside_3 : decode cX3_putAside 3 = .ok (.sipush 147, 3) := by decide +kernel
theorem dX3_putAside_6 : decode cX3_putAside 6 = .ok (.if_icmp .ge 21, 3) := by decide +kernel
theorem dX3_putAside_9 : decode cX3_putAside 9 = .ok (.aload_n 0, 1) := by decide +kernel
theorem dX3_putAside_10 : decode cX3_putAside 10 = .ok (.getfield 13, 3) := by decide +kernel
theorem dX3_putAside_13 : decode cX3_putAside 13 = .ok (.iload_n 1, 1) := by decide +kernel
theorem dX3_putAside_14 : decode cX3_putAside 14 = .ok (.aload_n 0, 1) := by decide +kernel
theorem dX3_putAside_15 : decode cX3_putAside 15 = .ok (.getfield 7, 3) := by decide +kernel
theorem dX3_putAside_18 : decode cX3_putAside 18 = .ok (.iload_n 1, 1) := by decide +kernel
theorem dX3_putAside_19 : decode cX3_putAside 19 = .ok (.iaload, 1) := by decide +kernel
theorem dX3_putAside_20 : decode cX3_putAside 20 = .ok (.iastore, 1) := by decide +kernel
theorem dX3_putAside_21 : decode cX3_putAside 21 = .ok (.iinc 1 1, 3) := by decide +kernel
theorem dX3_putAside_24 : decode cX3_putAside 24 = .ok (.goto (-22), 3) := by decide +kernel
theorem dX3_putAside_27 : decode cX3_putAside 27 = .ok (.return_, 1) := by decide +kernel
theorem dX3_putBack_0 : decode cX3_putBack 0 = .ok (.iconst 0, 1) := by decide +kernel
theorem dX3_putBack_1 : decode cX3_putBack 1 = .ok (.istore_n 1, 1) := by decide +kernel
theorem dX3_putBack_2 : decode cX3_putBack 2 = .ok (.iload_n 1, 1) := by decide +kernel
theorem dX3_putBack_3 : decode cX3_putBack 3 = .ok (.sipush 147, 3) := by decide +kernel
theorem dX3_putBack_6 : decode cX3_putBack 6 = .ok (.if_icmp .ge 21, 3) := by decide +kernel
theorem dX3_putBack_9 : decode cX3_putBack 9 = .ok (.aload_n 0, 1) := by decide +kernel
theorem dX3_putBack_10 : decode cX3_putBack 10 = .ok (.getfield 7, 3) := by decide +kernel
theorem dX3_putBack_13 : decode cX3_putBack 13 = .ok (.iload_n 1, 1) := by decide +kernel
theorem dX3_putBack_14 : decode cX3_putBack 14 = .ok (.aload_n 0, 1) := by decide +kernel
theorem dX3_putBack_15 : decode cX3_putBack 15 = .ok (.getfield 13, 3) := by decide +kernel
theorem dX3_putBack_18 : decode cX3_putBack 18 = .ok (.iload_n 1, 1) := by decide +kernel
theorem dX3_putBack_19 : decode cX3_putBack 19 = .ok (.iaload, 1) := by decide +kernel
theorem dX3_putBack_20 : decode cX3_putBack 20 = .ok (.iastore, 1) := by decide +kernel
theorem dX3_putBack_21 : decode cX3_putBack 21 = .ok (.iinc 1 1, 3) := by decide +kernel
theorem dX3_putBack_24 : decode cX3_putBack 24 = .ok (.goto (-22), 3) := by decide +kernel
theorem dX3_putBack_27 : decode cX3_putBack 27 = .ok (.return_, 1) := by decide +kernel
set_option maxRecDepth 20000 in
theorem ggX3_isPin_X3_ofPins : GoodIn wsX3_isPin wsX3_ofPins := goodIn_r _ [5] rfl (by decide +kernel)
set_option maxRecDepth 20000 in
theorem gX3_isPin_X3_ofPins : GoodIn wsX3_isPin (va_wsS RX3 46 yX3_ofPins wsX3_ofPins) := goodIn_app (goodIn_r _ [2, 3, 4] rfl (by decide +kernel)) ggX3_isPin_X3_ofPins
theorem dX3_isPin_0 : decode cX3_isPin 0 = .ok (.aload_n 0, 1) := by decide +kernel
theorem dX3_isPin_1 : decode cX3_isPin 1 = .ok (.getfield 7, 3) := by decide +kernel
theorem dX3_isPin_4 : decode cX3_isPin 4 = .ok (.iload_n 1, 1) := by decide +kernel
theorem dX3_isPin_5 : decode cX3_isPin 5 = .ok (.iload_n 2, 1) := by decide +kernel
theorem dX3_isPin_6 : decode cX3_isPin 6 = .ok (.invokestatic 46, 3) := by decide +kernel
theorem dX3_isPin_9 : decode cX3_isPin 9 = .ok (.iaload, 1) := by decide +kernel
theorem dX3_isPin_10 : decode cX3_isPin 10 = .ok (.iload_n 3, 1) := by decide +kernel
theorem dX3_isPin_11 : decode cX3_isPin 11 = .ok (.ishr, 1) := by decide +kernel
theorem dX3_isPin_12 : decode cX3_isPin 12 = .ok (.iconst 1, 1) := by decide +kernel
theorem dX3_isPin_13 : decode cX3_isPin 13 = .ok (.iand, 1) := by decide +kernel
theorem dX3_isPin_14 : decode cX3_isPin 14 = .ok (.iconst 1, 1) := by decide +kernel
theorem dX3_isPin_15 : decode cX3_isPin 15 = .ok (.if_icmp .ne 7, 3) := by decide +kernel
theorem dX3_isPin_18 : decode cX3_isPin 18 = .ok (.iconst 1, 1) := by decide +kernel
theorem dX3_isPin_19 : decode cX3_isPin 19 = .ok (.goto 4, 3) := by decide +kernel
theorem dX3_isPin_22 : decode cX3_isPin 22 = .ok (.iconst 0, 1) := by decide +kernel
theorem dX3_isPin_23 : decode cX3_isPin 23 = .ok (.ireturn, 1) := by decide +kernel
set_option maxRecDepth 20000 in
theorem ggX3_pinsAt_X3_isPin : GoodIn wsX3_pinsAt wsX3_isPin := goodIn_r _ [5, 6, 7, 8, 4, 9, 10, 11, 12, 13, 14, 15, 16, 17, 18, 19, 20, 21, 22] rfl (by decide +kernel)
set_option maxRecDepth 20000 in
theorem gX3_pinsAt_X3_isPin : GoodIn wsX3_pinsAt (wsV RX3 50 RX3 yX3_isPin wsX3_isPin) := goodIn_app (goodIn_r _ [1, 2, 3, 4] rfl (by decide +kernel)) ggX3_pinsAt_X3_isPin
theorem dX3_pinsAt_0 : decode cX3_pinsAt 0 = .ok (.iconst 0, 1) := by decide +kernel
theorem dX3_pinsAt_1 : decode cX3_pinsAt 1 = .ok (.istore_n 3, 1) := by decide +kernel
theorem dX3_pinsAt_2 : decode cX3_pinsAt 2 = .ok (.iconst 0, 1) := by decide +kernel
theorem dX3_pinsAt_3 : decode cX3_pinsAt 3 = .ok (.istore 4, 2) := by decide +kernel
theorem dX3_pinsAt_5 : decode cX3_pinsAt 5 = .ok (.iload 4, 2) := by decide +kernel
theorem dX3_pinsAt_7 : decode cX3_pinsAt 7 = .ok (.bipush 12, 2) := by decide +kernel
theorem dX3_pinsAt_9 : decode cX3_pinsAt 9 = .ok (.if_icmp .ge 31, 3) := by decide +kernel
theorem dX3_pinsAt_12 : decode cX3_pinsAt 12 = .ok (.iload_n 3, 1) := by decide +kernel
theorem dX3_pinsAt_13 : decode cX3_pinsAt 13 = .ok (.aload_n 0, 1) := by decide +kernel
theorem dX3_pinsAt_14 : decode cX3_pinsAt 14 = .ok (.iload_n 1, 1) := by decide +kernel
theorem dX3_pinsAt_15 : decode cX3_pinsAt 15 = .ok (.iload 4, 2) := by decide +kernel
theorem dX3_pinsAt_17 : decode cX3_pinsAt 17 = .ok (.iload_n 2, 1) := by decide +kernel
theorem dX3_pinsAt_18 : decode cX3_pinsAt 18 = .ok (.invokevirtual 50, 3) := by decide +kernel
theorem dX3_pinsAt_21 : decode cX3_pinsAt 21 = .ok (.ifCond .eq 10, 3) := by decide +kernel
theorem dX3_pinsAt_24 : decode cX3_pinsAt 24 = .ok (.iconst 1, 1) := by decide +kernel
theorem dX3_pinsAt_25 : decode cX3_pinsAt 25 = .ok (.iload 4, 2) := by decide +kernel
theorem dX3_pinsAt_27 : decode cX3_pinsAt 27 = .ok (.ishl, 1) := by decide +kernel
theorem dX3_pinsAt_28 : decode cX3_pinsAt 28 = .ok (.goto 4, 3) := by decide +kernel
theorem dX3_pinsAt_31 : decode cX3_pinsAt 31 = .ok (.iconst 0, 1) := by decide +kernel
theorem dX3_pinsAt_32 : decode cX3_pinsAt 32 = .ok (.ior, 1) := by decide +kernel
theorem dX3_pinsAt_33 : decode cX3_pinsAt 33 = .ok (.istore_n 3, 1) := by decide +kernel
theorem dX3_pinsAt_34 : decode cX3_pinsAt 34 = .ok (.iinc 4 1, 3) := by decide +kernel
theorem dX3_pinsAt_37 : decode cX3_pinsAt 37 = .ok (.goto (-32), 3) := by decide +kernel
theorem dX3_pinsAt_40 : decode cX3_pinsAt 40 = .ok (.iload_n 3, 1) := by decide +kernel
theorem dX3_pinsAt_41 : decode cX3_pinsAt 41 = .ok (.ireturn, 1) := by decide +kernel
theorem dX3_ones_0 : decode cX3_ones 0 = .ok (.iconst 0, 1) := by decide +kernel
theorem dX3_ones_1 : decode cX3_ones 1 = .ok (.istore_n 1, 1) := by decide +kernel
theorem dX3_ones_2 : decode cX3_ones 2 = .ok (.iconst 0, 1) := by decide +kernel
theorem dX3_ones_3 : decode cX3_ones 3 = .ok (.istore_n 2, 1) := by decide +kernel
theorem dX3_ones_4 : decode cX3_ones 4 = .ok (.iload_n 2, 1) := by decide +kernel
theorem dX3_ones_5 : decode cX3_ones 5 = .ok (.bipush 32, 2) := by decide +kernel
theorem dX3_ones_7 : decode cX3_ones 7 = .ok (.if_icmp .ge 17, 3) := by decide +kernel
theorem dX3_ones_10 : decode cX3_ones 10 = .ok (.iload_n 1, 1) := by decide +kernel
theorem dX3_ones_11 : decode cX3_ones 11 = .ok (.iload_n 0, 1) := by decide +kernel
theorem dX3_ones_12 : decode cX3_ones 12 = .ok (.iload_n 2, 1) := by decide +kernel
theorem dX3_ones_13 : decode cX3_ones 13 = .ok (.ishr, 1) := by decide +kernel
theorem dX3_ones_14 : decode cX3_ones 14 = .ok (.iconst 1, 1) := by decide +kernel
theorem dX3_ones_15 : decode cX3_ones 15 = .ok (.iand, 1) := by decide +kernel
theorem dX3_ones_16 : decode cX3_ones 16 = .ok (.iadd, 1) := by decide +kernel
theorem dX3_ones_17 : decode cX3_ones 17 = .ok (.istore_n 1, 1) := by decide +kernel
theorem dX3_ones_18 : decode cX3_ones 18 = .ok (.iinc 2 1, 3) := by decide +kernel
theorem dX3_ones_21 : decode cX3_ones 21 = .ok (.goto (-17), 3) := by decide +kernel
theorem dX3_ones_24 : decode cX3_ones 24 = .ok (.iload_n 1, 1) := by decide +kernel
theorem dX3_ones_25 : decode cX3_ones 25 = .ok (.ireturn, 1) := by decide +kernel
set_option maxRecDepth 20000 in
theorem ggX3_isNear_X3_isPin : GoodIn wsX3_isNear wsX3_isPin := goodIn_r _ [6, 1, 7, 8, 5, 9, 10, 11, 12, 13, 14, 15, 16, 17, 18, 19, 20, 21, 22] rfl (by decide +kernel)
set_option maxRecDepth 20000 in
theorem gX3_isNear_X3_isPin : GoodIn wsX3_isNear (wsV RX3 50 RX3 yX3_isPin wsX3_isPin) := goodIn_app (goodIn_r _ [2, 3, 4, 5] rfl (by decide +kernel)) ggX3_isNear_X3_isPin
theorem dX3_isNear_0 : decode cX3_isNear 0 = .ok (.iconst 0, 1) := by decide +kernel
theorem dX3_isNear_1 : decode cX3_isNear 1 = .ok (.istore 4, 2) := by decide +kernel
theorem dX3_isNear_3 : decode cX3_isNear 3 = .ok (.iconst 1, 1) := by decide +kernel
theorem dX3_isNear_4 : decode cX3_isNear 4 = .ok (.istore 5, 2) := by decide +kernel
theorem dX3_isNear_6 : decode cX3_isNear 6 = .ok (.iload 5, 2) := by decide +kernel
theorem dX3_isNear_8 : decode cX3_isNear 8 = .ok (.aload_n 0, 1) := by decide +kernel
theorem dX3_isNear_9 : decode cX3_isNear 9 = .ok (.getfield 7, 3) := by decide +kernel
theorem dX3_isNear_12 : decode cX3_isNear 12 = .ok (.sipush 145, 3) := by decide +kernel
theorem dX3_isNear_15 : decode cX3_isNear 15 = .ok (.iaload, 1) := by decide +kernel
theorem dX3_isNear_16 : decode cX3_isNear 16 = .ok (.if_icmp .ge 56, 3) := by decide +kernel
theorem dX3_isNear_19 : decode cX3_isNear 19 = .ok (.iload 4, 2) := by decide +kernel
theorem dX3_isNear_21 : decode cX3_isNear 21 = .ok (.ifCond .ne 38, 3) := by decide +kernel
theorem dX3_isNear_24 : decode cX3_isNear 24 = .ok (.aload_n 0, 1) := by decide +kernel
theorem dX3_isNear_25 : decode cX3_isNear 25 = .ok (.iload_n 1, 1) := by decide +kernel
theorem dX3_isNear_26 : decode cX3_isNear 26 = .ok (.iload_n 2, 1) := by decide +kernel
theorem dX3_isNear_27 : decode cX3_isNear 27 = .ok (.iload_n 3, 1) := by decide +kernel
theorem dX3_isNear_28 : decode cX3_isNear 28 = .ok (.iload 5, 2) := by decide +kernel
theorem dX3_isNear_30 : decode cX3_isNear 30 = .ok (.iadd, 1) := by decide +kernel
theorem dX3_isNear_31 : decode cX3_isNear 31 = .ok (.bipush 32, 2) := by decide +kernel
theorem dX3_isNear_33 : decode cX3_isNear 33 = .ok (.irem, 1) := by decide +kernel
theorem dX3_isNear_34 : decode cX3_isNear 34 = .ok (.invokevirtual 50, 3) := by decide +kernel
theorem dX3_isNear_37 : decode cX3_isNear 37 = .ok (.ifCond .ne 22, 3) := by decide +kernel
theorem dX3_isNear_40 : decode cX3_isNear 40 = .ok (.aload_n 0, 1) := by decide +kernel
theorem dX3_isNear_41 : decode cX3_isNear 41 = .ok (.iload_n 1, 1) := by decide +kernel
theorem dX3_isNear_42 : decode cX3_isNear 42 = .ok (.iload_n 2, 1) := by decide +kernel
theorem dX3_isNear_43 : decode cX3_isNear 43 = .ok (.iload_n 3, 1) := by decide +kernel
theorem dX3_isNear_44 : decode cX3_isNear 44 = .ok (.bipush 32, 2) := by decide +kernel
theorem dX3_isNear_46 : decode cX3_isNear 46 = .ok (.iadd, 1) := by decide +kernel
theorem dX3_isNear_47 : decode cX3_isNear 47 = .ok (.iload 5, 2) := by decide +kernel
theorem dX3_isNear_49 : decode cX3_isNear 49 = .ok (.isub, 1) := by decide +kernel
theorem dX3_isNear_50 : decode cX3_isNear 50 = .ok (.bipush 32, 2) := by decide +kernel
theorem dX3_isNear_52 : decode cX3_isNear 52 = .ok (.irem, 1) := by decide +kernel
theorem dX3_isNear_53 : decode cX3_isNear 53 = .ok (.invokevirtual 50, 3) := by decide +kernel
theorem dX3_isNear_56 : decode cX3_isNear 56 = .ok (.ifCond .eq 7, 3) := by decide +kernel
theorem dX3_isNear_59 : decode cX3_isNear 59 = .ok (.iconst 1, 1) := by decide +kernel
theorem dX3_isNear_60 : decode cX3_isNear 60 = .ok (.goto 4, 3) := by decide +kernel
theorem dX3_isNear_63 : decode cX3_isNear 63 = .ok (.iconst 0, 1) := by decide +kernel
theorem dX3_isNear_64 : decode cX3_isNear 64 = .ok (.istore 4, 2) := by decide +kernel
theorem dX3_isNear_66 : decode cX3_isNear 66 = .ok (.iinc 5 1, 3) := by decide +kernel
theorem dX3_isNear_69 : decode cX3_isNear 69 = .ok (.goto (-63), 3) := by decide +kernel
theorem dX3_isNear_72 : decode cX3_isNear 72 = .ok (.iload 4, 2) := by decide +kernel
theorem dX3_isNear_74 : decode cX3_isNear 74 = .ok (.ireturn, 1) := by decide +kernel
set_option maxRecDepth 20000 in
theorem ggX3_hindrance_X3_isPin : GoodIn wsX3_hindrance wsX3_isPin := goodIn_r _ [6, 1, 7, 8, 5, 9, 21, 22, 23, 24, 25, 26, 27, 28, 29, 30, 31, 32, 33] rfl (by decide +kernel)
set_option maxRecDepth 20000 in
theorem gX3_hindrance_X3_isPin : GoodIn wsX3_hindrance (wsV RX3 50 RX3 yX3_isPin wsX3_isPin) := goodIn_app (goodIn_r _ [2, 3, 4, 5] rfl (by decide +kernel)) ggX3_hindrance_X3_isPin
set_option maxRecDepth 20000 in
theorem ggX3_hindrance_X3_isNear : GoodIn wsX3_hindrance wsX3_isNear := goodIn_r _ [13, 1, 2, 3, 4, 5, 6, 7, 8, 9, 21, 22, 23, 24, 25, 26, 27, 28, 29, 30, 31, 32, 33] rfl (by decide +kernel)
set_option maxRecDepth 20000 in
theorem gX3_hindrance_X3_isNear : GoodIn wsX3_hindrance (wsV RX3 53 RX3 yX3_isNear wsX3_isNear) := goodIn_app (goodIn_r _ [10, 11, 12, 5] rfl (by decide +kernel)) ggX3_hindrance_X3_isNear
set_option maxRecDepth 20000 in
theorem ggX3_hindrance_X3_pinsAt : GoodIn wsX3_hindrance wsX3_pinsAt := goodIn_r _ [17, 2, 3, 4, 5, 6, 1, 7, 8, 9, 21, 22, 23, 24, 25, 26, 27, 28, 29, 30, 31, 32, 33] rfl (by decide +kernel)
set_option maxRecDepth 20000 in
theorem gX3_hindrance_X3_pinsAt : GoodIn wsX3_hindrance (wsV RX3 56 RX3 yX3_pinsAt wsX3_pinsAt) := goodIn_app (goodIn_r _ [14, 15, 16, 5] rfl (by decide +kernel)) ggX3_hindrance_X3_pinsAt
set_option maxRecDepth 20000 in
theorem ggX3_hindrance_X3_ones : GoodIn wsX3_hindrance wsX3_ones := goodIn_r _ [20] rfl (by decide +kernel)
set_option maxRecDepth 20000 in
theorem gX3_hindrance_X3_ones : GoodIn wsX3_hindrance (va_wsS RX3 59 yX3_ones wsX3_ones) := goodIn_app (goodIn_r _ [18, 19, 5] rfl (by decide +kernel)) ggX3_hindrance_X3_ones
theorem dX3_hindrance_0 : decode cX3_hindrance 0 = .ok (.aload_n 0, 1) := by decide +kernel
theorem dX3_hindrance_1 : decode cX3_hindrance 1 = .ok (.iload_n 1, 1) := by decide +kernel
theorem dX3_hindrance_2 : decode cX3_hindrance 2 = .ok (.iload_n 2, 1) := by decide +kernel
theorem dX3_hindrance_3 : decode cX3_hindrance 3 = .ok (.iload_n 3, 1) := by decide +kernel
theorem dX3_hindrance_4 : decode cX3_hindrance 4 = .ok (.invokevirtual 50, 3) := by decide +kernel
theorem dX3_hindrance_7 : decode cX3_hindrance 7 = .ok (.ifCond .ne 13, 3) := by decide +kernel
theorem dX3_hindrance_10 : decode cX3_hindrance 10 = .ok (.aload_n 0, 1) := by decide +kernel
theorem dX3_hindrance_11 : decode cX3_hindrance 11 = .ok (.iload_n 1, 1) := by decide +kernel
theorem dX3_hindrance_12 : decode cX3_hindrance 12 = .ok (.iload_n 2, 1) := by decide +kernel
theorem dX3_hindrance_13 : decode cX3_hindrance 13 = .ok (.iload_n 3, 1) := by decide +kernel
theorem dX3_hindrance_14 : decode cX3_hindrance 14 = .ok (.invokevirtual 53, 3) := by decide +kernel
theorem dX3_hindrance_17 : decode cX3_hindrance 17 = .ok (.ifCond .eq 19, 3) := by decide +kernel
theorem dX3_hindrance_20 : decode cX3_hindrance 20 = .ok (.aload_n 0, 1) := by decide +kernel
theorem dX3_hindrance_21 : decode cX3_hindrance 21 = .ok (.iload_n 1, 1) := by decide +kernel
theorem dX3_hindrance_22 : decode cX3_hindrance 22 = .ok (.iload_n 2, 1) := by decide +kernel
theorem dX3_hindrance_23 : decode cX3_hindrance 23 = .ok (.iload_n 3, 1) := by decide +kernel
theorem dX3_hindrance_24 : decode cX3_hindrance 24 = .ok (.invokevirtual 50, 3) := by decide +kernel
theorem dX3_hindrance_27 : decode cX3_hindrance 27 = .ok (.ifCond .eq 7, 3) := by decide +kernel
theorem dX3_hindrance_30 : decode cX3_hindrance 30 = .ok (.iconst 1, 1) := by decide +kernel
theorem dX3_hindrance_31 : decode cX3_hindrance 31 = .ok (.goto 4, 3) := by decide +kernel
theorem dX3_hindrance_34 : decode cX3_hindrance 34 = .ok (.iconst 2, 1) := by decide +kernel
theorem dX3_hindrance_35 : decode cX3_hindrance 35 = .ok (.ireturn, 1) := by decide +kernel
theorem dX3_hindrance_36 : decode cX3_hindrance 36 = .ok (.aload_n 0, 1) := by decide +kernel
theorem dX3_hindrance_37 : decode cX3_hindrance 37 = .ok (.iload_n 1, 1) := by decide +kernel
theorem dX3_hindrance_38 : decode cX3_hindrance 38 = .ok (.iload_n 3, 1) := by decide +kernel
theorem dX3_hindrance_39 : decode cX3_hindrance 39 = .ok (.invokevirtual 56, 3) := by decide +kernel
theorem dX3_hindrance_42 : decode cX3_hindrance 42 = .ok (.invokestatic 59, 3) := by decide +kernel
theorem dX3_hindrance_45 : decode cX3_hindrance 45 = .ok (.aload_n 0, 1) := by decide +kernel
theorem dX3_hindrance_46 : decode cX3_hindrance 46 = .ok (.getfield 7, 3) := by decide +kernel
theorem dX3_hindrance_49 : decode cX3_hindrance 49 = .ok (.sipush 146, 3) := by decide +kernel
theorem dX3_hindrance_52 : decode cX3_hindrance 52 = .ok (.iaload, 1) := by decide +kernel
theorem dX3_hindrance_53 : decode cX3_hindrance 53 = .ok (.if_icmp .lt 7, 3) := by decide +kernel
theorem dX3_hindrance_56 : decode cX3_hindrance 56 = .ok (.iconst 3, 1) := by decide +kernel
theorem dX3_hindrance_57 : decode cX3_hindrance 57 = .ok (.goto 4, 3) := by decide +kernel
theorem dX3_hindrance_60 : decode cX3_hindrance 60 = .ok (.iconst 0, 1) := by decide +kernel
theorem dX3_hindrance_61 : decode cX3_hindrance 61 = .ok (.ireturn, 1) := by decide +kernel
set_option maxRecDepth 20000 in
theorem ggX3_pinsOf_X3_ofPins : GoodIn wsX3_pinsOf wsX3_ofPins := goodIn_r _ [5] rfl (by decide +kernel)
set_option maxRecDepth 20000 in
theorem gX3_pinsOf_X3_ofPins : GoodIn wsX3_pinsOf (va_wsS RX3 46 yX3_ofPins wsX3_ofPins) := goodIn_app (goodIn_r _ [2, 3, 4] rfl (by decide +kernel)) ggX3_pinsOf_X3_ofPins
set_option maxRecDepth 20000 in
theorem ggX3_pinsOf_X3_ones : GoodIn wsX3_pinsOf wsX3_ones := goodIn_r _ [8] rfl (by decide +kernel)
set_option maxRecDepth 20000 in
theorem gX3_pinsOf_X3_ones : GoodIn wsX3_pinsOf (va_wsS RX3 59 yX3_ones wsX3_ones) := goodIn_app (goodIn_r _ [6, 7, 4] rfl (by decide +kernel)) ggX3_pinsOf_X3_ones
theorem dX3_pinsOf_0 : decode cX3_pinsOf 0 = .ok (.iconst 0, 1) := by decide +kernel
theorem dX3_pinsOf_1 : decode cX3_pinsOf 1 = .ok (.istore_n 2, 1) := by decide +kernel
theorem dX3_pinsOf_2 : decode cX3_pinsOf 2 = .ok (.iconst 0, 1) := by decide +kernel
theorem dX3_pinsOf_3 : decode cX3_pinsOf 3 = .ok (.istore_n 3, 1) := by decide +kernel
theorem dX3_pinsOf_4 : decode cX3_pinsOf 4 = .ok (.iload_n 3, 1) := by decide +kernel
theorem dX3_pinsOf_5 : decode cX3_pinsOf 5 = .ok (.bipush 12, 2) := by decide +kernel
theorem dX3_pinsOf_7 : decode cX3_pinsOf 7 = .ok (.if_icmp .ge 25, 3) := by decide +kernel
theorem dX3_pinsOf_10 : decode cX3_pinsOf 10 = .ok (.iload_n 2, 1) := by decide +kernel
theorem dX3_pinsOf_11 : decode cX3_pinsOf 11 = .ok (.aload_n 0, 1) := by decide +kernel
theorem dX3_pinsOf_12 : decode cX3_pinsOf 12 = .ok (.getfield 7, 3) := by decide +kernel
theorem dX3_pinsOf_15 : decode cX3_pinsOf 15 = .ok (.iload_n 1, 1) := by decide +kernel
theorem dX3_pinsOf_16 : decode cX3_pinsOf 16 = .ok (.iload_n 3, 1) := by decide +kernel
theorem dX3_pinsOf_17 : decode cX3_pinsOf 17 = .ok (.invokestatic 46, 3) := by decide +kernel
theorem dX3_pinsOf_20 : decode cX3_pinsOf 20 = .ok (.iaload, 1) := by decide +kernel
theorem dX3_pinsOf_21 : decode cX3_pinsOf 21 = .ok (.invokestatic 59, 3) := by decide +kernel
theorem dX3_pinsOf_24 : decode cX3_pinsOf 24 = .ok (.iadd, 1) := by decide +kernel
theorem dX3_pinsOf_25 : decode cX3_pinsOf 25 = .ok (.istore_n 2, 1) := by decide +kernel
theorem dX3_pinsOf_26 : decode cX3_pinsOf 26 = .ok (.iinc 3 1, 3) := by decide +kernel
theorem dX3_pinsOf_29 : decode cX3_pinsOf 29 = .ok (.goto (-25), 3) := by decide +kernel
theorem dX3_pinsOf_32 : decode cX3_pinsOf 32 = .ok (.iload_n 2, 1) := by decide +kernel
theorem dX3_pinsOf_33 : decode cX3_pinsOf 33 = .ok (.ireturn, 1) := by decide +kernel
set_option maxRecDepth 20000 in
theorem ggX3_allPins_X3_pinsOf : GoodIn wsX3_allPins wsX3_pinsOf := goodIn_r _ [5, 6, 7, 8, 4, 9, 10, 11, 12, 13, 14, 15, 16, 17, 18, 19, 20, 21, 22, 23, 24, 25] rfl (by decide +kernel)
set_option maxRecDepth 20000 in
theorem gX3_allPins_X3_pinsOf : GoodIn wsX3_allPins (wsV RX3 63 RX3 yX3_pinsOf wsX3_pinsOf) := goodIn_app (goodIn_r _ [1, 2, 3, 4] rfl (by decide +kernel)) ggX3_allPins_X3_pinsOf
theorem dX3_allPins_0 : decode cX3_allPins 0 = .ok (.aload_n 0, 1) := by decide +kernel
theorem dX3_allPins_1 : decode cX3_allPins 1 = .ok (.iconst 0, 1) := by decide +kernel
theorem dX3_allPins_2 : decode cX3_allPins 2 = .ok (.invokevirtual 63, 3) := by decide +kernel
theorem dX3_allPins_5 : decode cX3_allPins 5 = .ok (.aload_n 0, 1) := by decide +kernel
theorem dX3_allPins_6 : decode cX3_allPins 6 = .ok (.iconst 1, 1) := by decide +kernel
theorem dX3_allPins_7 : decode cX3_allPins 7 = .ok (.invokevirtual 63, 3) := by decide +kernel
theorem dX3_allPins_10 : decode cX3_allPins 10 = .ok (.iadd, 1) := by decide +kernel
theorem dX3_allPins_11 : decode cX3_allPins 11 = .ok (.aload_n 0, 1) := by decide +kernel
theorem dX3_allPins_12 : decode cX3_allPins 12 = .ok (.iconst 2, 1) := by decide +kernel
theorem dX3_allPins_13 : decode cX3_allPins 13 = .ok (.invokevirtual 63, 3) := by decide +kernel
theorem dX3_allPins_16 : decode cX3_allPins 16 = .ok (.iadd, 1) := by decide +kernel
theorem dX3_allPins_17 : decode cX3_allPins 17 = .ok (.ireturn, 1) := by decide +kernel
set_option maxRecDepth 20000 in
theorem ggX3_pin_X3_areThere : GoodIn wsX3_pin wsX3_areThere := goodIn_r _ [5, 6, 7, 4, 8, 9, 10, 11, 12, 13, 14, 15, 16, 17] rfl (by decide +kernel)
set_option maxRecDepth 20000 in
theorem gX3_pin_X3_areThere : GoodIn wsX3_pin (va_wsS RX3 66 yX3_areThere wsX3_areThere) := goodIn_app (goodIn_r _ [2, 3, 4] rfl (by decide +kernel)) ggX3_pin_X3_areThere
set_option maxRecDepth 20000 in
theorem ggX3_pin_X3_hindrance : GoodIn wsX3_pin wsX3_hindrance := goodIn_r _ [21, 1, 22, 23, 24, 4, 25, 26, 27, 28, 29, 30, 31, 32, 33, 34, 35, 36, 37, 38, 39, 55, 56, 57, 58, 59, 60, 61, 62, 63, 64, 65, 66, 67] rfl (by decide +kernel)
set_option maxRecDepth 20000 in
theorem gX3_pin_X3_hindrance : GoodIn wsX3_pin (wsV RX3 69 RX3 yX3_hindrance wsX3_hindrance) := goodIn_app (goodIn_r _ [18, 19, 20, 4] rfl (by decide +kernel)) ggX3_pin_X3_hindrance
set_option maxRecDepth 20000 in
theorem ggX3_pin_X3_holds : GoodIn wsX3_pin wsX3_holds := goodIn_r _ [43, 44, 55, 56, 57, 58, 59, 60, 61, 62, 63, 64, 65, 66, 67] rfl (by decide +kernel)
set_option maxRecDepth 20000 in
theorem gX3_pin_X3_holds : GoodIn wsX3_pin (wsV RX3 73 RX3 yX3_holds wsX3_holds) := goodIn_app (goodIn_r _ [40, 41, 42, 4] rfl (by decide +kernel)) ggX3_pin_X3_holds
set_option maxRecDepth 20000 in
theorem ggX3_pin_X3_save : GoodIn wsX3_pin wsX3_save := goodIn_r _ [48, 49, 50, 1, 55, 56, 57, 58, 59, 60, 61, 62, 63, 64, 65, 66, 67] rfl (by decide +kernel)
set_option maxRecDepth 20000 in
theorem gX3_pin_X3_save : GoodIn wsX3_pin (wsV RX3 76 RX3 yX3_save wsX3_save) := goodIn_app (goodIn_r _ [45, 46, 47, 4] rfl (by decide +kernel)) ggX3_pin_X3_save
set_option maxRecDepth 20000 in
theorem ggX3_pin_X3_ofPins : GoodIn wsX3_pin wsX3_ofPins := goodIn_r _ [28] rfl (by decide +kernel)
set_option maxRecDepth 20000 in
theorem gX3_pin_X3_ofPins : GoodIn wsX3_pin (va_wsS RX3 46 yX3_ofPins wsX3_ofPins) := goodIn_app (goodIn_r _ [26, 27, 4] rfl (by decide +kernel)) ggX3_pin_X3_ofPins
set_option maxRecDepth 20000 in
theorem ggX3_pin_X3_pinsOf : GoodIn wsX3_pin wsX3_pinsOf := goodIn_r _ [54, 1, 26, 27, 4, 28, 37, 38, 39, 55, 56, 57, 58, 59, 60, 61, 62, 63, 64, 65, 66, 67] rfl (by decide +kernel)
set_option maxRecDepth 20000 in
theorem gX3_pin_X3_pinsOf : GoodIn wsX3_pin (wsV RX3 63 RX3 yX3_pinsOf wsX3_pinsOf) := goodIn_app (goodIn_r _ [51, 52, 53, 4] rfl (by decide +kernel)) ggX3_pin_X3_pinsOf
theorem dX3_pin_0 : decode cX3_pin 0 = .ok (.aload_n 0, 1) := by decide +kernel
theorem dX3_pin_1 : decode cX3_pin 1 = .ok (.iload_n 1, 1) := by decide +kernel
theorem dX3_pin_2 : decode cX3_pin 2 = .ok (.iload_n 2, 1) := by decide +kernel
theorem dX3_pin_3 : decode cX3_pin 3 = .ok (.iload_n 3, 1) := by decide +kernel
theorem dX3_pin_4 : decode cX3_pin 4 = .ok (.invokestatic 66, 3) := by decide +kernel
theorem dX3_pin_7 : decode cX3_pin 7 = .ok (.ifCond .ne 7, 3) := by decide +kernel
theorem dX3_pin_10 : decode cX3_pin 10 = .ok (.iconst 1, 1) := by decide +kernel
theorem dX3_pin_11 : decode cX3_pin 11 = .ok (.goto 18, 3) := by decide +kernel
theorem dX3_pin_14 : decode cX3_pin 14 = .ok (.aload_n 0, 1) := by decide +kernel
theorem dX3_pin_15 : decode cX3_pin 15 = .ok (.iload_n 1, 1) := by decide +kernel
theorem dX3_pin_16 : decode cX3_pin 16 = .ok (.iload_n 2, 1) := by decide +kernel
theorem dX3_pin_17 : decode cX3_pin 17 = .ok (.iload_n 3, 1) := by decide +kernel
theorem dX3_pin_18 : decode cX3_pin 18 = .ok (.invokevirtual 69, 3) := by decide +kernel
theorem dX3_pin_21 : decode cX3_pin 21 = .ok (.ifCond .le 7, 3) := by decide +kernel
theorem dX3_pin_24 : decode cX3_pin 24 = .ok (.iconst 2, 1) := by decide +kernel
theorem dX3_pin_25 : decode cX3_pin 25 = .ok (.goto 4, 3) := by decide +kernel
theorem dX3_pin_28 : decode cX3_pin 28 = .ok (.iconst 0, 1) := by decide +kernel
theorem dX3_pin_29 : decode cX3_pin 29 = .ok (.invokevirtual 73, 3) := by decide +kernel
theorem dX3_pin_32 : decode cX3_pin 32 = .ok (.ifCond .ne 5, 3) := by decide +kernel
theorem dX3_pin_35 : decode cX3_pin 35 = .ok (.iconst 0, 1) := by decide +kernel
theorem dX3_pin_36 : decode cX3_pin 36 = .ok (.ireturn, 1) := by decide +kernel
theorem dX3_pin_37 : decode cX3_pin 37 = .ok (.aload_n 0, 1) := by decide +kernel
theorem dX3_pin_38 : decode cX3_pin 38 = .ok (.invokevirtual 76, 3) := by decide +kernel
theorem dX3_pin_41 : decode cX3_pin 41 = .ok (.aload_n 0, 1) := by decide +kernel
theorem dX3_pin_42 : decode cX3_pin 42 = .ok (.getfield 7, 3) := by decide +kernel
theorem dX3_pin_45 : decode cX3_pin 45 = .ok (.iload_n 1, 1) := by decide +kernel
theorem dX3_pin_46 : decode cX3_pin 46 = .ok (.iload_n 2, 1) := by decide +kernel
theorem dX3_pin_47 : decode cX3_pin 47 = .ok (.invokestatic 46, 3) := by decide +kernel
theorem dX3_pin_50 : decode cX3_pin 50 = .ok (.dup2, 1) := by decide +kernel
theorem dX3_pin_51 : decode cX3_pin 51 = .ok (.iaload, 1) := by decide +kernel
theorem dX3_pin_52 : decode cX3_pin 52 = .ok (.iconst 1, 1) := by decide +kernel
theorem dX3_pin_53 : decode cX3_pin 53 = .ok (.iload_n 3, 1) := by decide +kernel
theorem dX3_pin_54 : decode cX3_pin 54 = .ok (.ishl, 1) := by decide +kernel
theorem dX3_pin_55 : decode cX3_pin 55 = .ok (.ior, 1) := by decide +kernel
theorem dX3_pin_56 : decode cX3_pin 56 = .ok (.iastore, 1) := by decide +kernel
theorem dX3_pin_57 : decode cX3_pin 57 = .ok (.aload_n 0, 1) := by decide +kernel
theorem dX3_pin_58 : decode cX3_pin 58 = .ok (.iload_n 1, 1) := by decide +kernel
theorem dX3_pin_59 : decode cX3_pin 59 = .ok (.invokevirtual 63, 3) := by decide +kernel
theorem dX3_pin_62 : decode cX3_pin 62 = .ok (.ireturn, 1) := by decide +kernel
set_option maxRecDepth 20000 in
theorem ggX3_pull_X3_areThere : GoodIn wsX3_pull wsX3_areThere := goodIn_r _ [5, 6, 7, 4, 8, 9, 10, 11, 12, 13, 14, 15, 16, 17] rfl (by decide +kernel)
set_option maxRecDepth 20000 in
theorem gX3_pull_X3_areThere : GoodIn wsX3_pull (va_wsS RX3 66 yX3_areThere wsX3_areThere) := goodIn_app (goodIn_r _ [2, 3, 4] rfl (by decide +kernel)) ggX3_pull_X3_areThere
set_option maxRecDepth 20000 in
theorem ggX3_pull_X3_isStep : GoodIn wsX3_pull wsX3_isStep := goodIn_r _ [17, 9, 10, 4, 11] rfl (by decide +kernel)
set_option maxRecDepth 20000 in
theorem gX3_pull_X3_isStep : GoodIn wsX3_pull (va_wsS RX3 40 yX3_isStep wsX3_isStep) := goodIn_app (goodIn_r _ [15, 16, 4] rfl (by decide +kernel)) ggX3_pull_X3_isStep
set_option maxRecDepth 20000 in
theorem ggX3_pull_X3_holds : GoodIn wsX3_pull wsX3_holds := goodIn_r _ [21, 22, 36, 37, 38, 39, 40, 41, 42, 43, 44, 45, 46, 47, 48] rfl (by decide +kernel)
set_option maxRecDepth 20000 in
theorem gX3_pull_X3_holds : GoodIn wsX3_pull (wsV RX3 73 RX3 yX3_holds wsX3_holds) := goodIn_app (goodIn_r _ [18, 19, 20, 4] rfl (by decide +kernel)) ggX3_pull_X3_holds
set_option maxRecDepth 20000 in
theorem ggX3_pull_X3_save : GoodIn wsX3_pull wsX3_save := goodIn_r _ [26, 27, 28, 1, 36, 37, 38, 39, 40, 41, 42, 43, 44, 45, 46, 47, 48] rfl (by decide +kernel)
set_option maxRecDepth 20000 in
theorem gX3_pull_X3_save : GoodIn wsX3_pull (wsV RX3 76 RX3 yX3_save wsX3_save) := goodIn_app (goodIn_r _ [23, 24, 25, 4] rfl (by decide +kernel)) ggX3_pull_X3_save
set_option maxRecDepth 20000 in
theorem ggX3_pull_X3_isPin : GoodIn wsX3_pull wsX3_isPin := goodIn_r _ [32, 1, 33, 34, 4, 35, 36, 37, 38, 39, 40, 41, 42, 43, 44, 45, 46, 47, 48] rfl (by decide +kernel)
set_option maxRecDepth 20000 in
theorem gX3_pull_X3_isPin : GoodIn wsX3_pull (wsV RX3 50 RX3 yX3_isPin wsX3_isPin) := goodIn_app (goodIn_r _ [29, 30, 31, 4] rfl (by decide +kernel)) ggX3_pull_X3_isPin
set_option maxRecDepth 20000 in
theorem ggX3_pull_X3_ofPins : GoodIn wsX3_pull wsX3_ofPins := goodIn_r _ [35] rfl (by decide +kernel)
set_option maxRecDepth 20000 in
theorem gX3_pull_X3_ofPins : GoodIn wsX3_pull (va_wsS RX3 46 yX3_ofPins wsX3_ofPins) := goodIn_app (goodIn_r _ [33, 34, 4] rfl (by decide +kernel)) ggX3_pull_X3_ofPins
theorem dX3_pull_0 : decode cX3_pull 0 = .ok (.aload_n 0, 1) := by decide +kernel
theorem dX3_pull_1 : decode cX3_pull 1 = .ok (.iload_n 1, 1) := by decide +kernel
theorem dX3_pull_2 : decode cX3_pull 2 = .ok (.iload_n 2, 1) := by decide +kernel
theorem dX3_pull_3 : decode cX3_pull 3 = .ok (.iload_n 3, 1) := by decide +kernel
theorem dX3_pull_4 : decode cX3_pull 4 = .ok (.invokestatic 66, 3) := by decide +kernel
theorem dX3_pull_7 : decode cX3_pull 7 = .ok (.ifCond .eq 11, 3) := by decide +kernel
theorem dX3_pull_10 : decode cX3_pull 10 = .ok (.iload 4, 2) := by decide +kernel
theorem dX3_pull_12 : decode cX3_pull 12 = .ok (.invokestatic 40, 3) := by decide +kernel
theorem dX3_pull_15 : decode cX3_pull 15 = .ok (.ifCond .ne 7, 3) := by decide +kernel
theorem dX3_pull_18 : decode cX3_pull 18 = .ok (.iconst 1, 1) := by decide +kernel
theorem dX3_pull_19 : decode cX3_pull 19 = .ok (.goto 14, 3) := by decide +kernel
theorem dX3_pull_22 : decode cX3_pull 22 = .ok (.iload 4, 2) := by decide +kernel
theorem dX3_pull_24 : decode cX3_pull 24 = .ok (.iload_n 3, 1) := by decide +kernel
theorem dX3_pull_25 : decode cX3_pull 25 = .ok (.if_icmp .ge 7, 3) := by decide +kernel
theorem dX3_pull_28 : decode cX3_pull 28 = .ok (.iconst 2, 1) := by decide +kernel
theorem dX3_pull_29 : decode cX3_pull 29 = .ok (.goto 4, 3) := by decide +kernel
theorem dX3_pull_32 : decode cX3_pull 32 = .ok (.iconst 0, 1) := by decide +kernel
theorem dX3_pull_33 : decode cX3_pull 33 = .ok (.invokevirtual 73, 3) := by decide +kernel
theorem dX3_pull_36 : decode cX3_pull 36 = .ok (.ifCond .ne 5, 3) := by decide +kernel
theorem dX3_pull_39 : decode cX3_pull 39 = .ok (.iconst 0, 1) := by decide +kernel
theorem dX3_pull_40 : decode cX3_pull 40 = .ok (.ireturn, 1) := by decide +kernel
theorem dX3_pull_41 : decode cX3_pull 41 = .ok (.aload_n 0, 1) := by decide +kernel
theorem dX3_pull_42 : decode cX3_pull 42 = .ok (.invokevirtual 76, 3) := by decide +kernel
theorem dX3_pull_45 : decode cX3_pull 45 = .ok (.iconst 0, 1) := by decide +kernel
theorem dX3_pull_46 : decode cX3_pull 46 = .ok (.istore 5, 2) := by decide +kernel
theorem dX3_pull_48 : decode cX3_pull 48 = .ok (.iload_n 3, 1) := by decide +kernel
theorem dX3_pull_49 : decode cX3_pull 49 = .ok (.istore 6, 2) := by decide +kernel
theorem dX3_pull_51 : decode cX3_pull 51 = .ok (.iload 6, 2) := by decide +kernel
theorem dX3_pull_53 : decode cX3_pull 53 = .ok (.iload 4, 2) := by decide +kernel
theorem dX3_pull_55 : decode cX3_pull 55 = .ok (.if_icmp .gt 49, 3) := by decide +kernel
theorem dX3_pull_58 : decode cX3_pull 58 = .ok (.iload 5, 2) := by decide +kernel
theorem dX3_pull_60 : decode cX3_pull 60 = .ok (.aload_n 0, 1) := by decide +kernel
theorem dX3_pull_61 : decode cX3_pull 61 = .ok (.iload_n 1, 1) := by decide +kernel
theorem dX3_pull_62 : decode cX3_pull 62 = .ok (.iload_n 2, 1) := by decide +kernel
theorem dX3_pull_63 : decode cX3_pull 63 = .ok (.iload 6, 2) := by decide +kernel
theorem dX3_pull_65 : decode cX3_pull 65 = .ok (.invokevirtual 50, 3) := by decide +kernel
theorem dX3_pull_68 : decode cX3_pull 68 = .ok (.ifCond .eq 7, 3) := by decide +kernel
theorem dX3_pull_71 : decode cX3_pull 71 = .ok (.iconst 1, 1) := by decide +kernel
theorem dX3_pull_72 : decode cX3_pull 72 = .ok (.goto 4, 3) := by decide +kernel
theorem dX3_pull_75 : decode cX3_pull 75 = .ok (.iconst 0, 1) := by decide +kernel
theorem dX3_pull_76 : decode cX3_pull 76 = .ok (.iadd, 1) := by decide +kernel
theorem dX3_pull_77 : decode cX3_pull 77 = .ok (.istore 5, 2) := by decide +kernel
theorem dX3_pull_79 : decode cX3_pull 79 = .ok (.aload_n 0, 1) := by decide +kernel
theorem dX3_pull_80 : decode cX3_pull 80 = .ok (.getfield 7, 3) := by decide +kernel
theorem dX3_pull_83 : decode cX3_pull 83 = .ok (.iload_n 1, 1) := by decide +kernel
theorem dX3_pull_84 : decode cX3_pull 84 = .ok (.iload_n 2, 1) := by decide +kernel
theorem dX3_pull_85 : decode cX3_pull 85 = .ok (.invokestatic 46, 3) := by decide +kernel
theorem dX3_pull_88 : decode cX3_pull 88 = .ok (.dup2, 1) := by decide +kernel
theorem dX3_pull_89 : decode cX3_pull 89 = .ok (.iaload, 1) := by decide +kernel
theorem dX3_pull_90 : decode cX3_pull 90 = .ok (.iconst 1, 1) := by decide +kernel
theorem dX3_pull_91 : decode cX3_pull 91 = .ok (.iload 6, 2) := by decide +kernel
theorem dX3_pull_93 : decode cX3_pull 93 = .ok (.ishl, 1) := by decide +kernel
theorem dX3_pull_94 : decode cX3_pull 94 = .ok (.iconst (-1), 1) := by decide +kernel
theorem dX3_pull_95 : decode cX3_pull 95 = .ok (.ixor, 1) := by decide +kernel
theorem dX3_pull_96 : decode cX3_pull 96 = .ok (.iand, 1) := by decide +kernel
theorem dX3_pull_97 : decode cX3_pull 97 = .ok (.iastore, 1) := by decide +kernel
theorem dX3_pull_98 : decode cX3_pull 98 = .ok (.iinc 6 1, 3) := by decide +kernel
theorem dX3_pull_101 : decode cX3_pull 101 = .ok (.goto (-50), 3) := by decide +kernel
theorem dX3_pull_104 : decode cX3_pull 104 = .ok (.iload 5, 2) := by decide +kernel
theorem dX3_pull_106 : decode cX3_pull 106 = .ok (.ireturn, 1) := by decide +kernel
set_option maxRecDepth 20000 in
theorem ggX3_copy_X3_in : GoodIn wsX3_copy wsX3_in := goodIn_r _ [5] rfl (by decide +kernel)
set_option maxRecDepth 20000 in
theorem gX3_copy_X3_in : GoodIn wsX3_copy (va_wsS RX3 29 yX3_in wsX3_in) := goodIn_app (goodIn_r _ [2, 3, 4] rfl (by decide +kernel)) ggX3_copy_X3_in
set_option maxRecDepth 20000 in
theorem ggX3_copy_X3_isTune : GoodIn wsX3_copy wsX3_isTune := goodIn_r _ [8, 2, 3, 4, 5] rfl (by decide +kernel)
set_option maxRecDepth 20000 in
theorem gX3_copy_X3_isTune : GoodIn wsX3_copy (va_wsS RX3 33 yX3_isTune wsX3_isTune) := goodIn_app (goodIn_r _ [6, 7, 4] rfl (by decide +kernel)) ggX3_copy_X3_isTune
set_option maxRecDepth 20000 in
theorem ggX3_copy_X3_holds : GoodIn wsX3_copy wsX3_holds := goodIn_r _ [12, 13, 37, 38, 39, 40, 41, 42, 43, 44, 45, 46, 47, 48, 49] rfl (by decide +kernel)
set_option maxRecDepth 20000 in
theorem gX3_copy_X3_holds : GoodIn wsX3_copy (wsV RX3 73 RX3 yX3_holds wsX3_holds) := goodIn_app (goodIn_r _ [9, 10, 11, 4] rfl (by decide +kernel)) ggX3_copy_X3_holds
set_option maxRecDepth 20000 in
theorem ggX3_copy_X3_save : GoodIn wsX3_copy wsX3_save := goodIn_r _ [17, 18, 19, 1, 37, 38, 39, 40, 41, 42, 43, 44, 45, 46, 47, 48, 49] rfl (by decide +kernel)
set_option maxRecDepth 20000 in
theorem gX3_copy_X3_save : GoodIn wsX3_copy (wsV RX3 76 RX3 yX3_save wsX3_save) := goodIn_app (goodIn_r _ [14, 15, 16, 4] rfl (by decide +kernel)) ggX3_copy_X3_save
set_option maxRecDepth 20000 in
theorem ggX3_copy_X3_ofPins : GoodIn wsX3_copy wsX3_ofPins := goodIn_r _ [22] rfl (by decide +kernel)
set_option maxRecDepth 20000 in
theorem gX3_copy_X3_ofPins : GoodIn wsX3_copy (va_wsS RX3 46 yX3_ofPins wsX3_ofPins) := goodIn_app (goodIn_r _ [20, 21, 4] rfl (by decide +kernel)) ggX3_copy_X3_ofPins
set_option maxRecDepth 20000 in
theorem ggX3_copy_X3_isPin : GoodIn wsX3_copy wsX3_isPin := goodIn_r _ [26, 1, 20, 21, 4, 22, 37, 38, 39, 40, 41, 42, 43, 44, 45, 46, 47, 48, 49] rfl (by decide +kernel)
set_option maxRecDepth 20000 in
theorem gX3_copy_X3_isPin : GoodIn wsX3_copy (wsV RX3 50 RX3 yX3_isPin wsX3_isPin) := goodIn_app (goodIn_r _ [23, 24, 25, 4] rfl (by decide +kernel)) ggX3_copy_X3_isPin
set_option maxRecDepth 20000 in
theorem ggX3_copy_X3_isTooth : GoodIn wsX3_copy wsX3_isTooth := goodIn_r _ [29, 2, 3, 4, 5] rfl (by decide +kernel)
set_option maxRecDepth 20000 in
theorem gX3_copy_X3_isTooth : GoodIn wsX3_copy (va_wsS RX3 37 yX3_isTooth wsX3_isTooth) := goodIn_app (goodIn_r _ [27, 28, 4] rfl (by decide +kernel)) ggX3_copy_X3_isTooth
set_option maxRecDepth 20000 in
theorem ggX3_copy_X3_pinsOf : GoodIn wsX3_copy wsX3_pinsOf := goodIn_r _ [33, 1, 20, 21, 4, 22, 34, 35, 36, 37, 38, 39, 40, 41, 42, 43, 44, 45, 46, 47, 48, 49] rfl (by decide +kernel)
set_option maxRecDepth 20000 in
theorem gX3_copy_X3_pinsOf : GoodIn wsX3_copy (wsV RX3 63 RX3 yX3_pinsOf wsX3_pinsOf) := goodIn_app (goodIn_r _ [30, 31, 32, 4] rfl (by decide +kernel)) ggX3_copy_X3_pinsOf
theorem dX3_copy_0 : decode cX3_copy 0 = .ok (.iload_n 1, 1) := by decide +kernel
theorem dX3_copy_1 : decode cX3_copy 1 = .ok (.iload_n 2, 1) := by decide +kernel
theorem dX3_copy_2 : decode cX3_copy 2 = .ok (.if_icmp .eq 30, 3) := by decide +kernel
theorem dX3_copy_5 : decode cX3_copy 5 = .ok (.iload_n 3, 1) := by decide +kernel
theorem dX3_copy_6 : decode cX3_copy 6 = .ok (.bipush (-31), 2) := by decide +kernel
theorem dX3_copy_8 : decode cX3_copy 8 = .ok (.bipush 31, 2) := by decide +kernel
theorem dX3_copy_10 : decode cX3_copy 10 = .ok (.invokestatic 29, 3) := by decide +kernel
theorem dX3_copy_13 : decode cX3_copy 13 = .ok (.ifCond .eq 19, 3) := by decide +kernel
theorem dX3_copy_16 : decode cX3_copy 16 = .ok (.iload 4, 2) := by decide +kernel
theorem dX3_copy_18 : decode cX3_copy 18 = .ok (.bipush (-11), 2) := by decide +kernel
theorem dX3_copy_20 : decode cX3_copy 20 = .ok (.bipush 11, 2) := by decide +kernel
theorem dX3_copy_22 : decode cX3_copy 22 = .ok (.invokestatic 29, 3) := by decide +kernel
theorem dX3_copy_25 : decode cX3_copy 25 = .ok (.ifCond .eq 7, 3) := by decide +kernel
theorem dX3_copy_28 : decode cX3_copy 28 = .ok (.iconst 1, 1) := by decide +kernel
theorem dX3_copy_29 : decode cX3_copy 29 = .ok (.goto 4, 3) := by decide +kernel
theorem dX3_copy_32 : decode cX3_copy 32 = .ok (.iconst 0, 1) := by decide +kernel
theorem dX3_copy_33 : decode cX3_copy 33 = .ok (.istore 5, 2) := by decide +kernel
theorem dX3_copy_35 : decode cX3_copy 35 = .ok (.aload_n 0, 1) := by decide +kernel
theorem dX3_copy_36 : decode cX3_copy 36 = .ok (.iload_n 1, 1) := by decide +kernel
theorem dX3_copy_37 : decode cX3_copy 37 = .ok (.invokestatic 33, 3) := by decide +kernel
theorem dX3_copy_40 : decode cX3_copy 40 = .ok (.ifCond .eq 10, 3) := by decide +kernel
theorem dX3_copy_43 : decode cX3_copy 43 = .ok (.iload_n 2, 1) := by decide +kernel
theorem dX3_copy_44 : decode cX3_copy 44 = .ok (.invokestatic 33, 3) := by decide +kernel
theorem dX3_copy_47 : decode cX3_copy 47 = .ok (.ifCond .ne 7, 3) := by decide +kernel
theorem dX3_copy_50 : decode cX3_copy 50 = .ok (.iconst 1, 1) := by decide +kernel
theorem dX3_copy_51 : decode cX3_copy 51 = .ok (.goto 13, 3) := by decide +kernel
theorem dX3_copy_54 : decode cX3_copy 54 = .ok (.iload 5, 2) := by decide +kernel
theorem dX3_copy_56 : decode cX3_copy 56 = .ok (.ifCond .eq 7, 3) := by decide +kernel
theorem dX3_copy_59 : decode cX3_copy 59 = .ok (.iconst 0, 1) := by decide +kernel
theorem dX3_copy_60 : decode cX3_copy 60 = .ok (.goto 4, 3) := by decide +kernel
theorem dX3_copy_63 : decode cX3_copy 63 = .ok (.iconst 2, 1) := by decide +kernel
theorem dX3_copy_64 : decode cX3_copy 64 = .ok (.invokevirtual 73, 3) := by decide +kernel
theorem dX3_copy_67 : decode cX3_copy 67 = .ok (.ifCond .ne 5, 3) := by decide +kernel
theorem dX3_copy_70 : decode cX3_copy 70 = .ok (.iconst 0, 1) := by decide +kernel
theorem dX3_copy_71 : decode cX3_copy 71 = .ok (.ireturn, 1) := by decide +kernel
theorem dX3_copy_72 : decode cX3_copy 72 = .ok (.aload_n 0, 1) := by decide +kernel
theorem dX3_copy_73 : decode cX3_copy 73 = .ok (.invokevirtual 76, 3) := by decide +kernel
theorem dX3_copy_76 : decode cX3_copy 76 = .ok (.iconst 0, 1) := by decide +kernel
theorem dX3_copy_77 : decode cX3_copy 77 = .ok (.istore 6, 2) := by decide +kernel
theorem dX3_copy_79 : decode cX3_copy 79 = .ok (.iload 6, 2) := by decide +kernel
theorem dX3_copy_81 : decode cX3_copy 81 = .ok (.bipush 12, 2) := by decide +kernel
theorem dX3_copy_83 : decode cX3_copy 83 = .ok (.if_icmp .ge 21, 3) := by decide +kernel
theorem dX3_copy_86 : decode cX3_copy 86 = .ok (.aload_n 0, 1) := by decide +kernel
theorem dX3_copy_87 : decode cX3_copy 87 = .ok (.getfield 7, 3) := by decide +kernel
theorem dX3_copy_90 : decode cX3_copy 90 = .ok (.iload_n 2, 1) := by decide +kernel
theorem dX3_copy_91 : decode cX3_copy 91 = .ok (.iload 6, 2) := by decide +kernel
theorem dX3_copy_93 : decode cX3_copy 93 = .ok (.invokestatic 46, 3) := by decide +kernel
theorem dX3_copy_96 : decode cX3_copy 96 = .ok (.iconst 0, 1) := by decide +kernel
theorem dX3_copy_97 : decode cX3_copy 97 = .ok (.iastore, 1) := by decide +kernel
theorem dX3_copy_98 : decode cX3_copy 98 = .ok (.iinc 6 1, 3) := by decide +kernel
theorem dX3_copy_101 : decode cX3_copy 101 = .ok (.goto (-22), 3) := by decide +kernel
theorem dX3_copy_104 : decode cX3_copy 104 = .ok (.iconst 0, 1) := by decide +kernel
theorem dX3_copy_105 : decode cX3_copy 105 = .ok (.istore 6, 2) := by decide +kernel
theorem dX3_copy_107 : decode cX3_copy 107 = .ok (.iload 6, 2) := by decide +kernel
theorem dX3_copy_109 : decode cX3_copy 109 = .ok (.sipush 384, 3) := by decide +kernel
theorem dX3_copy_112 : decode cX3_copy 112 = .ok (.if_icmp .ge 86, 3) := by decide +kernel
theorem dX3_copy_115 : decode cX3_copy 115 = .ok (.iload 6, 2) := by decide +kernel
theorem dX3_copy_117 : decode cX3_copy 117 = .ok (.bipush 32, 2) := by decide +kernel
theorem dX3_copy_119 : decode cX3_copy 119 = .ok (.idiv, 1) := by decide +kernel
theorem dX3_copy_120 : decode cX3_copy 120 = .ok (.iload 4, 2) := by decide +kernel
theorem dX3_copy_122 : decode cX3_copy 122 = .ok (.iadd, 1) := by decide +kernel
theorem dX3_copy_123 : decode cX3_copy 123 = .ok (.istore 7, 2) := by decide +kernel
theorem dX3_copy_125 : decode cX3_copy 125 = .ok (.aload_n 0, 1) := by decide +kernel
theorem dX3_copy_126 : decode cX3_copy 126 = .ok (.iload_n 1, 1) := by decide +kernel
theorem dX3_copy_127 : decode cX3_copy 127 = .ok (.iload 6, 2) := by decide +kernel
theorem dX3_copy_129 : decode cX3_copy 129 = .ok (.bipush 32, 2) := by decide +kernel
theorem dX3_copy_131 : decode cX3_copy 131 = .ok (.idiv, 1) := by decide +kernel
theorem dX3_copy_132 : decode cX3_copy 132 = .ok (.iload 6, 2) := by decide +kernel
theorem dX3_copy_134 : decode cX3_copy 134 = .ok (.bipush 32, 2) := by decide +kernel
theorem dX3_copy_136 : decode cX3_copy 136 = .ok (.irem, 1) := by decide +kernel
theorem dX3_copy_137 : decode cX3_copy 137 = .ok (.invokevirtual 50, 3) := by decide +kernel
theorem dX3_copy_140 : decode cX3_copy 140 = .ok (.ifCond .eq 15, 3) := by decide +kernel
theorem dX3_copy_143 : decode cX3_copy 143 = .ok (.iload 7, 2) := by decide +kernel
theorem dX3_copy_145 : decode cX3_copy 145 = .ok (.invokestatic 37, 3) := by decide +kernel
theorem dX3_copy_148 : decode cX3_copy 148 = .ok (.ifCond .eq 7, 3) := by decide +kernel
theorem dX3_copy_151 : decode cX3_copy 151 = .ok (.iconst 1, 1) := by decide +kernel
theorem dX3_copy_152 : decode cX3_copy 152 = .ok (.goto 4, 3) := by decide +kernel
theorem dX3_copy_155 : decode cX3_copy 155 = .ok (.iconst 0, 1) := by decide +kernel
theorem dX3_copy_156 : decode cX3_copy 156 = .ok (.istore 8, 2) := by decide +kernel
theorem dX3_copy_158 : decode cX3_copy 158 = .ok (.iload 8, 2) := by decide +kernel
theorem dX3_copy_160 : decode cX3_copy 160 = .ok (.ifCond .eq 32, 3) := by decide +kernel
theorem dX3_copy_163 : decode cX3_copy 163 = .ok (.aload_n 0, 1) := by decide +kernel
theorem dX3_copy_164 : decode cX3_copy 164 = .ok (.getfield 7, 3) := by decide +kernel
theorem dX3_copy_167 : decode cX3_copy 167 = .ok (.iload_n 2, 1) := by decide +kernel
theorem dX3_copy_168 : decode cX3_copy 168 = .ok (.iload 7, 2) := by decide +kernel
theorem dX3_copy_170 : decode cX3_copy 170 = .ok (.invokestatic 46, 3) := by decide +kernel
theorem dX3_copy_173 : decode cX3_copy 173 = .ok (.dup2, 1) := by decide +kernel
theorem dX3_copy_174 : decode cX3_copy 174 = .ok (.iaload, 1) := by decide +kernel
theorem dX3_copy_175 : decode cX3_copy 175 = .ok (.iconst 1, 1) := by decide +kernel
theorem dX3_copy_176 : decode cX3_copy 176 = .ok (.iload 6, 2) := by decide +kernel
theorem dX3_copy_178 : decode cX3_copy 178 = .ok (.bipush 32, 2) := by decide +kernel
theorem dX3_copy_180 : decode cX3_copy 180 = .ok (.irem, 1) := by decide +kernel
theorem dX3_copy_181 : decode cX3_copy 181 = .ok (.iload_n 3, 1) := by decide +kernel
theorem dX3_copy_182 : decode cX3_copy 182 = .ok (.iadd, 1) := by decide +kernel
theorem dX3_copy_183 : decode cX3_copy 183 = .ok (.bipush 32, 2) := by decide +kernel
theorem dX3_copy_185 : decode cX3_copy 185 = .ok (.iadd, 1) := by decide +kernel
theorem dX3_copy_186 : decode cX3_copy 186 = .ok (.bipush 32, 2) := by decide +kernel
theorem dX3_copy_188 : decode cX3_copy 188 = .ok (.irem, 1) := by decide +kernel
theorem dX3_copy_189 : decode cX3_copy 189 = .ok (.ishl, 1) := by decide +kernel
theorem dX3_copy_190 : decode cX3_copy 190 = .ok (.ior, 1) := by decide +kernel
theorem dX3_copy_191 : decode cX3_copy 191 = .ok (.iastore, 1) := by decide +kernel
theorem dX3_copy_192 : decode cX3_copy 192 = .ok (.iinc 6 1, 3) := by decide +kernel
theorem dX3_copy_195 : decode cX3_copy 195 = .ok (.goto (-88), 3) := by decide +kernel
theorem dX3_copy_198 : decode cX3_copy 198 = .ok (.aload_n 0, 1) := by decide +kernel
theorem dX3_copy_199 : decode cX3_copy 199 = .ok (.iload_n 2, 1) := by decide +kernel
theorem dX3_copy_200 : decode cX3_copy 200 = .ok (.invokevirtual 63, 3) := by decide +kernel
theorem dX3_copy_203 : decode cX3_copy 203 = .ok (.ireturn, 1) := by decide +kernel
theorem dX3_nextStep_0 : decode cX3_nextStep 0 = .ok (.aload_n 0, 1) := by decide +kernel
theorem dX3_nextStep_1 : decode cX3_nextStep 1 = .ok (.getfield 7, 3) := by decide +kernel
theorem dX3_nextStep_4 : decode cX3_nextStep 4 = .ok (.sipush 133, 3) := by decide +kernel
theorem dX3_nextStep_7 : decode cX3_nextStep 7 = .ok (.iaload, 1) := by decide +kernel
theorem dX3_nextStep_8 : decode cX3_nextStep 8 = .ok (.iconst 1, 1) := by decide +kernel
theorem dX3_nextStep_9 : decode cX3_nextStep 9 = .ok (.iadd, 1) := by decide +kernel
theorem dX3_nextStep_10 : decode cX3_nextStep 10 = .ok (.bipush 32, 2) := by decide +kernel
theorem dX3_nextStep_12 : decode cX3_nextStep 12 = .ok (.irem, 1) := by decide +kernel
theorem dX3_nextStep_13 : decode cX3_nextStep 13 = .ok (.ireturn, 1) := by decide +kernel
set_option maxRecDepth 20000 in
theorem ggX3_nextTune_X3_nextStep : GoodIn wsX3_nextTune wsX3_nextStep := goodIn_r _ [6, 1, 7, 8, 9, 10, 11, 12, 13, 14, 15, 16, 17, 18, 19] rfl (by decide +kernel)
set_option maxRecDepth 20000 in
theorem gX3_nextTune_X3_nextStep : GoodIn wsX3_nextTune (wsV RX3 79 RX3 yX3_nextStep wsX3_nextStep) := goodIn_app (goodIn_r _ [2, 3, 4, 5] rfl (by decide +kernel)) ggX3_nextTune_X3_nextStep
theorem dX3_nextTune_0 : decode cX3_nextTune 0 = .ok (.aload_n 0, 1) := by decide +kernel
theorem dX3_nextTune_1 : decode cX3_nextTune 1 = .ok (.invokevirtual 79, 3) := by decide +kernel
theorem dX3_nextTune_4 : decode cX3_nextTune 4 = .ok (.ifCond .ne 29, 3) := by decide +kernel
theorem dX3_nextTune_7 : decode cX3_nextTune 7 = .ok (.aload_n 0, 1) := by decide +kernel
theorem dX3_nextTune_8 : decode cX3_nextTune 8 = .ok (.getfield 7, 3) := by decide +kernel
theorem dX3_nextTune_11 : decode cX3_nextTune 11 = .ok (.sipush 144, 3) := by decide +kernel
theorem dX3_nextTune_14 : decode cX3_nextTune 14 = .ok (.iaload, 1) := by decide +kernel
theorem dX3_nextTune_15 : decode cX3_nextTune 15 = .ok (.ifCond .eq 18, 3) := by decide +kernel
theorem dX3_nextTune_18 : decode cX3_nextTune 18 = .ok (.aload_n 0, 1) := by decide +kernel
theorem dX3_nextTune_19 : decode cX3_nextTune 19 = .ok (.getfield 7, 3) := by decide +kernel
theorem dX3_nextTune_22 : decode cX3_nextTune 22 = .ok (.sipush 134, 3) := by decide +kernel
theorem dX3_nextTune_25 : decode cX3_nextTune 25 = .ok (.iaload, 1) := by decide +kernel
theorem dX3_nextTune_26 : decode cX3_nextTune 26 = .ok (.iconst 1, 1) := by decide +kernel
theorem dX3_nextTune_27 : decode cX3_nextTune 27 = .ok (.iadd, 1) := by decide +kernel
theorem dX3_nextTune_28 : decode cX3_nextTune 28 = .ok (.iconst 3, 1) := by decide +kernel
theorem dX3_nextTune_29 : decode cX3_nextTune 29 = .ok (.irem, 1) := by decide +kernel
theorem dX3_nextTune_30 : decode cX3_nextTune 30 = .ok (.goto 11, 3) := by decide +kernel
theorem dX3_nextTune_33 : decode cX3_nextTune 33 = .ok (.aload_n 0, 1) := by decide +kernel
theorem dX3_nextTune_34 : decode cX3_nextTune 34 = .ok (.getfield 7, 3) := by decide +kernel
theorem dX3_nextTune_37 : decode cX3_nextTune 37 = .ok (.sipush 134, 3) := by decide +kernel
theorem dX3_nextTune_40 : decode cX3_nextTune 40 = .ok (.iaload, 1) := by decide +kernel
theorem dX3_nextTune_41 : decode cX3_nextTune 41 = .ok (.ireturn, 1) := by decide +kernel
set_option maxRecDepth 20000 in
theorem ggX3_need_X3_nextTune : GoodIn wsX3_need wsX3_nextTune := goodIn_r _ [6, 1, 7, 8, 9, 5, 10, 21, 22, 23, 24, 25, 26, 27, 28, 29, 30, 31, 32, 33] rfl (by decide +kernel)
set_option maxRecDepth 20000 in
theorem gX3_need_X3_nextTune : GoodIn wsX3_need (wsV RX3 83 RX3 yX3_nextTune wsX3_nextTune) := goodIn_app (goodIn_r _ [2, 3, 4, 5] rfl (by decide +kernel)) ggX3_need_X3_nextTune
set_option maxRecDepth 20000 in
theorem ggX3_need_X3_nextStep : GoodIn wsX3_need wsX3_nextStep := goodIn_r _ [10, 1, 21, 22, 23, 24, 25, 26, 27, 28, 29, 30, 31, 32, 33] rfl (by decide +kernel)
set_option maxRecDepth 20000 in
theorem gX3_need_X3_nextStep : GoodIn wsX3_need (wsV RX3 79 RX3 yX3_nextStep wsX3_nextStep) := goodIn_app (goodIn_r _ [7, 8, 9, 5] rfl (by decide +kernel)) ggX3_need_X3_nextStep
set_option maxRecDepth 20000 in
theorem ggX3_need_X3_isPin : GoodIn wsX3_need wsX3_isPin := goodIn_r _ [14, 1, 15, 16, 5, 17, 21, 22, 23, 24, 25, 26, 27, 28, 29, 30, 31, 32, 33] rfl (by decide +kernel)
set_option maxRecDepth 20000 in
theorem gX3_need_X3_isPin : GoodIn wsX3_need (wsV RX3 50 RX3 yX3_isPin wsX3_isPin) := goodIn_app (goodIn_r _ [11, 12, 13, 5] rfl (by decide +kernel)) ggX3_need_X3_isPin
set_option maxRecDepth 20000 in
theorem ggX3_need_X3_of : GoodIn wsX3_need wsX3_of := goodIn_r _ [20] rfl (by decide +kernel)
set_option maxRecDepth 20000 in
theorem gX3_need_X3_of : GoodIn wsX3_need (va_wsS RX3 86 yX3_of wsX3_of) := goodIn_app (goodIn_r _ [18, 19, 5] rfl (by decide +kernel)) ggX3_need_X3_of
theorem dX3_need_0 : decode cX3_need 0 = .ok (.iconst 1, 1) := by decide +kernel
theorem dX3_need_1 : decode cX3_need 1 = .ok (.istore_n 1, 1) := by decide +kernel
theorem dX3_need_2 : decode cX3_need 2 = .ok (.iconst 0, 1) := by decide +kernel
theorem dX3_need_3 : decode cX3_need 3 = .ok (.istore_n 2, 1) := by decide +kernel
theorem dX3_need_4 : decode cX3_need 4 = .ok (.iload_n 2, 1) := by decide +kernel
theorem dX3_need_5 : decode cX3_need 5 = .ok (.bipush 12, 2) := by decide +kernel
theorem dX3_need_7 : decode cX3_need 7 = .ok (.if_icmp .ge 46, 3) := by decide +kernel
theorem dX3_need_10 : decode cX3_need 10 = .ok (.iload_n 1, 1) := by decide +kernel
theorem dX3_need_11 : decode cX3_need 11 = .ok (.aload_n 0, 1) := by decide +kernel
theorem dX3_need_12 : decode cX3_need 12 = .ok (.aload_n 0, 1) := by decide +kernel
theorem dX3_need_13 : decode cX3_need 13 = .ok (.invokevirtual 83, 3) := by decide +kernel
theorem dX3_need_16 : decode cX3_need 16 = .ok (.iload_n 2, 1) := by decide +kernel
theorem dX3_need_17 : decode cX3_need 17 = .ok (.aload_n 0, 1) := by decide +kernel
theorem dX3_need_18 : decode cX3_need 18 = .ok (.invokevirtual 79, 3) := by decide +kernel
theorem dX3_need_21 : decode cX3_need 21 = .ok (.invokevirtual 50, 3) := by decide +kernel
theorem dX3_need_24 : decode cX3_need 24 = .ok (.ifCond .eq 20, 3) := by decide +kernel
theorem dX3_need_27 : decode cX3_need 27 = .ok (.aload_n 0, 1) := by decide +kernel
theorem dX3_need_28 : decode cX3_need 28 = .ok (.getfield 7, 3) := by decide +kernel
theorem dX3_need_31 : decode cX3_need 31 = .ok (.iload_n 2, 1) := by decide +kernel
theorem dX3_need_32 : decode cX3_need 32 = .ok (.iconst 2, 1) := by decide +kernel
theorem dX3_need_33 : decode cX3_need 33 = .ok (.invokestatic 86, 3) := by decide +kernel
theorem dX3_need_36 : decode cX3_need 36 = .ok (.iaload, 1) := by decide +kernel
theorem dX3_need_37 : decode cX3_need 37 = .ok (.ifCond .ne 7, 3) := by decide +kernel
theorem dX3_need_40 : decode cX3_need 40 = .ok (.iconst 1, 1) := by decide +kernel
theorem dX3_need_41 : decode cX3_need 41 = .ok (.goto 4, 3) := by decide +kernel
theorem dX3_need_44 : decode cX3_need 44 = .ok (.iconst 0, 1) := by decide +kernel
theorem dX3_need_45 : decode cX3_need 45 = .ok (.iadd, 1) := by decide +kernel
theorem dX3_need_46 : decode cX3_need 46 = .ok (.istore_n 1, 1) := by decide +kernel
theorem dX3_need_47 : decode cX3_need 47 = .ok (.iinc 2 1, 3) := by decide +kernel
theorem dX3_need_50 : decode cX3_need 50 = .ok (.goto (-46), 3) := by decide +kernel
theorem dX3_need_53 : decode cX3_need 53 = .ok (.iload_n 1, 1) := by decide +kernel
theorem dX3_need_54 : decode cX3_need 54 = .ok (.ireturn, 1) := by decide +kernel
set_option maxRecDepth 20000 in
theorem ggX3_sounds_X3_of : GoodIn wsX3_sounds wsX3_of := goodIn_r _ [5] rfl (by decide +kernel)
set_option maxRecDepth 20000 in
theorem gX3_sounds_X3_of : GoodIn wsX3_sounds (va_wsS RX3 86 yX3_of wsX3_of) := goodIn_app (goodIn_r _ [2, 3, 4] rfl (by decide +kernel)) ggX3_sounds_X3_of
theorem dX3_sounds_0 : decode cX3_sounds 0 = .ok (.aload_n 0, 1) := by decide +kernel
theorem dX3_sounds_1 : decode cX3_sounds 1 = .ok (.getfield 7, 3) := by decide +kernel
theorem dX3_sounds_4 : decode cX3_sounds 4 = .ok (.sipush 142, 3) := by decide +kernel
theorem dX3_sounds_7 : decode cX3_sounds 7 = .ok (.iaload, 1) := by decide +kernel
theorem dX3_sounds_8 : decode cX3_sounds 8 = .ok (.iconst 2, 1) := by decide +kernel
theorem dX3_sounds_9 : decode cX3_sounds 9 = .ok (.iload_n 1, 1) := by decide +kernel
theorem dX3_sounds_10 : decode cX3_sounds 10 = .ok (.imul, 1) := by decide +kernel
theorem dX3_sounds_11 : decode cX3_sounds 11 = .ok (.isub, 1) := by decide +kernel
theorem dX3_sounds_12 : decode cX3_sounds 12 = .ok (.istore_n 2, 1) := by decide +kernel
theorem dX3_sounds_13 : decode cX3_sounds 13 = .ok (.aload_n 0, 1) := by decide +kernel
theorem dX3_sounds_14 : decode cX3_sounds 14 = .ok (.getfield 7, 3) := by decide +kernel
theorem dX3_sounds_17 : decode cX3_sounds 17 = .ok (.iload_n 1, 1) := by decide +kernel
theorem dX3_sounds_18 : decode cX3_sounds 18 = .ok (.iconst 0, 1) := by decide +kernel
theorem dX3_sounds_19 : decode cX3_sounds 19 = .ok (.invokestatic 86, 3) := by decide +kernel
theorem dX3_sounds_22 : decode cX3_sounds 22 = .ok (.iload_n 2, 1) := by decide +kernel
theorem dX3_sounds_23 : decode cX3_sounds 23 = .ok (.iconst 4, 1) := by decide +kernel
theorem dX3_sounds_24 : decode cX3_sounds 24 = .ok (.if_icmp .ge 7, 3) := by decide +kernel
theorem dX3_sounds_27 : decode cX3_sounds 27 = .ok (.iconst 4, 1) := by decide +kernel
theorem dX3_sounds_28 : decode cX3_sounds 28 = .ok (.goto 4, 3) := by decide +kernel
theorem dX3_sounds_31 : decode cX3_sounds 31 = .ok (.iload_n 2, 1) := by decide +kernel
theorem dX3_sounds_32 : decode cX3_sounds 32 = .ok (.iastore, 1) := by decide +kernel
theorem dX3_sounds_33 : decode cX3_sounds 33 = .ok (.aload_n 0, 1) := by decide +kernel
theorem dX3_sounds_34 : decode cX3_sounds 34 = .ok (.getfield 7, 3) := by decide +kernel
theorem dX3_sounds_37 : decode cX3_sounds 37 = .ok (.iload_n 1, 1) := by decide +kernel
theorem dX3_sounds_38 : decode cX3_sounds 38 = .ok (.iconst 3, 1) := by decide +kernel
theorem dX3_sounds_39 : decode cX3_sounds 39 = .ok (.invokestatic 86, 3) := by decide +kernel
theorem dX3_sounds_42 : decode cX3_sounds 42 = .ok (.dup2, 1) := by decide +kernel
theorem dX3_sounds_43 : decode cX3_sounds 43 = .ok (.iaload, 1) := by decide +kernel
theorem dX3_sounds_44 : decode cX3_sounds 44 = .ok (.iconst 1, 1) := by decide +kernel
theorem dX3_sounds_45 : decode cX3_sounds 45 = .ok (.iadd, 1) := by decide +kernel
theorem dX3_sounds_46 : decode cX3_sounds 46 = .ok (.iastore, 1) := by decide +kernel
theorem dX3_sounds_47 : decode cX3_sounds 47 = .ok (.aload_n 0, 1) := by decide +kernel
theorem dX3_sounds_48 : decode cX3_sounds 48 = .ok (.getfield 7, 3) := by decide +kernel
theorem dX3_sounds_51 : decode cX3_sounds 51 = .ok (.sipush 139, 3) := by decide +kernel
theorem dX3_sounds_54 : decode cX3_sounds 54 = .ok (.dup2, 1) := by decide +kernel
theorem dX3_sounds_55 : decode cX3_sounds 55 = .ok (.iaload, 1) := by decide +kernel
theorem dX3_sounds_56 : decode cX3_sounds 56 = .ok (.iconst 1, 1) := by decide +kernel
theorem dX3_sounds_57 : decode cX3_sounds 57 = .ok (.iadd, 1) := by decide +kernel
theorem dX3_sounds_58 : decode cX3_sounds 58 = .ok (.iastore, 1) := by decide +kernel
theorem dX3_sounds_59 : decode cX3_sounds 59 = .ok (.bipush 47, 2) := by decide +kernel
theorem dX3_sounds_61 : decode cX3_sounds 61 = .ok (.istore_n 3, 1) := by decide +kernel
theorem dX3_sounds_62 : decode cX3_sounds 62 = .ok (.iload_n 3, 1) := by decide +kernel
theorem dX3_sounds_63 : decode cX3_sounds 63 = .ok (.iconst 1, 1) := by decide +kernel
theorem dX3_sounds_64 : decode cX3_sounds 64 = .ok (.if_icmp .le 29, 3) := by decide +kernel
theorem dX3_sounds_67 : decode cX3_sounds 67 = .ok (.aload_n 0, 1) := by decide +kernel
theorem dX3_sounds_68 : decode cX3_sounds 68 = .ok (.getfield 7, 3) := by decide +kernel
theorem dX3_sounds_71 : decode cX3_sounds 71 = .ok (.bipush 84, 2) := by decide +kernel
theorem dX3_sounds_73 : decode cX3_sounds 73 = .ok (.iload_n 3, 1) := by decide +kernel
theorem dX3_sounds_74 : decode cX3_sounds 74 = .ok (.iadd, 1) := by decide +kernel
theorem dX3_sounds_75 : decode cX3_sounds 75 = .ok (.aload_n 0, 1) := by decide +kernel
theorem dX3_sounds_76 : decode cX3_sounds 76 = .ok (.getfield 7, 3) := by decide +kernel
theorem dX3_sounds_79 : decode cX3_sounds 79 = .ok (.bipush 84, 2) := by decide +kernel
theorem dX3_sounds_81 : decode cX3_sounds 81 = .ok (.iload_n 3, 1) := by decide +kernel
theorem dX3_sounds_82 : decode cX3_sounds 82 = .ok (.iadd, 1) := by decide +kernel
theorem dX3_sounds_83 : decode cX3_sounds 83 = .ok (.iconst 2, 1) := by decide +kernel
theorem dX3_sounds_84 : decode cX3_sounds 84 = .ok (.isub, 1) := by decide +kernel
theorem dX3_sounds_85 : decode cX3_sounds 85 = .ok (.iaload, 1) := by decide +kernel
theorem dX3_sounds_86 : decode cX3_sounds 86 = .ok (.iastore, 1) := by decide +kernel
theorem dX3_sounds_87 : decode cX3_sounds 87 = .ok (.iinc 3 (-1), 3) := by decide +kernel
theorem dX3_sounds_90 : decode cX3_sounds 90 = .ok (.goto (-28), 3) := by decide +kernel
theorem dX3_sounds_93 : decode cX3_sounds 93 = .ok (.aload_n 0, 1) := by decide +kernel
theorem dX3_sounds_94 : decode cX3_sounds 94 = .ok (.getfield 7, 3) := by decide +kernel
theorem dX3_sounds_97 : decode cX3_sounds 97 = .ok (.bipush 84, 2) := by decide +kernel
theorem dX3_sounds_99 : decode cX3_sounds 99 = .ok (.iload_n 1, 1) := by decide +kernel
theorem dX3_sounds_100 : decode cX3_sounds 100 = .ok (.iastore, 1) := by decide +kernel
theorem dX3_sounds_101 : decode cX3_sounds 101 = .ok (.aload_n 0, 1) := by decide +kernel
theorem dX3_sounds_102 : decode cX3_sounds 102 = .ok (.getfield 7, 3) := by decide +kernel
theorem dX3_sounds_105 : decode cX3_sounds 105 = .ok (.bipush 85, 2) := by decide +kernel
theorem dX3_sounds_107 : decode cX3_sounds 107 = .ok (.aload_n 0, 1) := by decide +kernel
theorem dX3_sounds_108 : decode cX3_sounds 108 = .ok (.getfield 7, 3) := by decide +kernel
theorem dX3_sounds_111 : decode cX3_sounds 111 = .ok (.sipush 137, 3) := by decide +kernel
theorem dX3_sounds_114 : decode cX3_sounds 114 = .ok (.iaload, 1) := by decide +kernel
theorem dX3_sounds_115 : decode cX3_sounds 115 = .ok (.iastore, 1) := by decide +kernel
theorem dX3_sounds_116 : decode cX3_sounds 116 = .ok (.aload_n 0, 1) := by decide +kernel
theorem dX3_sounds_117 : decode cX3_sounds 117 = .ok (.getfield 7, 3) := by decide +kernel
theorem dX3_sounds_120 : decode cX3_sounds 120 = .ok (.sipush 132, 3) := by decide +kernel
theorem dX3_sounds_123 : decode cX3_sounds 123 = .ok (.dup2, 1) := by decide +kernel
theorem dX3_sounds_124 : decode cX3_sounds 124 = .ok (.iaload, 1) := by decide +kernel
theorem dX3_sounds_125 : decode cX3_sounds 125 = .ok (.aload_n 0, 1) := by decide +kernel
theorem dX3_sounds_126 : decode cX3_sounds 126 = .ok (.getfield 7, 3) := by decide +kernel
theorem dX3_sounds_129 : decode cX3_sounds 129 = .ok (.sipush 132, 3) := by decide +kernel
theorem dX3_sounds_132 : decode cX3_sounds 132 = .ok (.iaload, 1) := by decide +kernel
theorem dX3_sounds_133 : decode cX3_sounds 133 = .ok (.bipush 24, 2) := by decide +kernel
theorem dX3_sounds_135 : decode cX3_sounds 135 = .ok (.if_icmp .ge 7, 3) := by decide +kernel
theorem dX3_sounds_138 : decode cX3_sounds 138 = .ok (.iconst 1, 1) := by decide +kernel
theorem dX3_sounds_139 : decode cX3_sounds 139 = .ok (.goto 4, 3) := by decide +kernel
theorem dX3_sounds_142 : decode cX3_sounds 142 = .ok (.iconst 0, 1) := by decide +kernel
theorem dX3_sounds_143 : decode cX3_sounds 143 = .ok (.iadd, 1) := by decide +kernel
theorem dX3_sounds_144 : decode cX3_sounds 144 = .ok (.iastore, 1) := by decide +kernel
theorem dX3_sounds_145 : decode cX3_sounds 145 = .ok (.return_, 1) := by decide +kernel
set_option maxRecDepth 20000 in
theorem ggX3_plucks_X3_of : GoodIn wsX3_plucks wsX3_of := goodIn_r _ [5] rfl (by decide +kernel)
set_option maxRecDepth 20000 in
theorem gX3_plucks_X3_of : GoodIn wsX3_plucks (va_wsS RX3 86 yX3_of wsX3_of) := goodIn_app (goodIn_r _ [2, 3, 4] rfl (by decide +kernel)) ggX3_plucks_X3_of
set_option maxRecDepth 20000 in
theorem ggX3_plucks_X3_sounds : GoodIn wsX3_plucks wsX3_sounds := goodIn_r _ [9, 1, 2, 3, 4, 5, 10, 11, 12, 13, 14, 15, 16, 17, 18, 19, 20, 21, 22] rfl (by decide +kernel)
set_option maxRecDepth 20000 in
theorem gX3_plucks_X3_sounds : GoodIn wsX3_plucks (wsV RX3 89 RX3 yX3_sounds wsX3_sounds) := goodIn_app (goodIn_r _ [6, 7, 8, 4] rfl (by decide +kernel)) ggX3_plucks_X3_sounds
theorem dX3_plucks_0 : decode cX3_plucks 0 = .ok (.aload_n 0, 1) := by decide +kernel
theorem dX3_plucks_1 : decode cX3_plucks 1 = .ok (.getfield 7, 3) := by decide +kernel
theorem dX3_plucks_4 : decode cX3_plucks 4 = .ok (.iload_n 1, 1) := by decide +kernel
theorem dX3_plucks_5 : decode cX3_plucks 5 = .ok (.iconst 0, 1) := by decide +kernel
theorem dX3_plucks_6 : decode cX3_plucks 6 = .ok (.invokestatic 86, 3) := by decide +kernel
theorem dX3_plucks_9 : decode cX3_plucks 9 = .ok (.iaload, 1) := by decide +kernel
theorem dX3_plucks_10 : decode cX3_plucks 10 = .ok (.ifCond .le 128, 3) := by decide +kernel
theorem dX3_plucks_13 : decode cX3_plucks 13 = .ok (.iload_n 2, 1) := by decide +kernel
theorem dX3_plucks_14 : decode cX3_plucks 14 = .ok (.aload_n 0, 1) := by decide +kernel
theorem dX3_plucks_15 : decode cX3_plucks 15 = .ok (.getfield 7, 3) := by decide +kernel
theorem dX3_plucks_18 : decode cX3_plucks 18 = .ok (.sipush 143, 3) := by decide +kernel
theorem dX3_plucks_21 : decode cX3_plucks 21 = .ok (.iaload, 1) := by decide +kernel
theorem dX3_plucks_22 : decode cX3_plucks 22 = .ok (.aload_n 0, 1) := by decide +kernel
theorem dX3_plucks_23 : decode cX3_plucks 23 = .ok (.getfield 7, 3) := by decide +kernel
theorem dX3_plucks_26 : decode cX3_plucks 26 = .ok (.iload_n 1, 1) := by decide +kernel
theorem dX3_plucks_27 : decode cX3_plucks 27 = .ok (.iconst 1, 1) := by decide +kernel
theorem dX3_plucks_28 : decode cX3_plucks 28 = .ok (.invokestatic 86, 3) := by decide +kernel
theorem dX3_plucks_31 : decode cX3_plucks 31 = .ok (.iaload, 1) := by decide +kernel
theorem dX3_plucks_32 : decode cX3_plucks 32 = .ok (.iadd, 1) := by decide +kernel
theorem dX3_plucks_33 : decode cX3_plucks 33 = .ok (.if_icmp .gt 105, 3) := by decide +kernel
theorem dX3_plucks_36 : decode cX3_plucks 36 = .ok (.aload_n 0, 1) := by decide +kernel
theorem dX3_plucks_37 : decode cX3_plucks 37 = .ok (.getfield 7, 3) := by decide +kernel
theorem dX3_plucks_40 : decode cX3_plucks 40 = .ok (.sipush 140, 3) := by decide +kernel
theorem dX3_plucks_43 : decode cX3_plucks 43 = .ok (.dup2, 1) := by decide +kernel
theorem dX3_plucks_44 : decode cX3_plucks 44 = .ok (.iaload, 1) := by decide +kernel
theorem dX3_plucks_45 : decode cX3_plucks 45 = .ok (.iconst 1, 1) := by decide +kernel
theorem dX3_plucks_46 : decode cX3_plucks 46 = .ok (.iadd, 1) := by decide +kernel
theorem dX3_plucks_47 : decode cX3_plucks 47 = .ok (.iastore, 1) := by decide +kernel
theorem dX3_plucks_48 : decode cX3_plucks 48 = .ok (.aload_n 0, 1) := by decide +kernel
theorem dX3_plucks_49 : decode cX3_plucks 49 = .ok (.getfield 7, 3) := by decide +kernel
theorem dX3_plucks_52 : decode cX3_plucks 52 = .ok (.iload_n 1, 1) := by decide +kernel
theorem dX3_plucks_53 : decode cX3_plucks 53 = .ok (.iconst 1, 1) := by decide +kernel
theorem dX3_plucks_54 : decode cX3_plucks 54 = .ok (.invokestatic 86, 3) := by decide +kernel
theorem dX3_plucks_57 : decode cX3_plucks 57 = .ok (.iaload, 1) := by decide +kernel
theorem dX3_plucks_58 : decode cX3_plucks 58 = .ok (.bipush 9, 2) := by decide +kernel
theorem dX3_plucks_60 : decode cX3_plucks 60 = .ok (.if_icmp .ne 7, 3) := by decide +kernel
theorem dX3_plucks_63 : decode cX3_plucks 63 = .ok (.iconst 1, 1) := by decide +kernel
theorem dX3_plucks_64 : decode cX3_plucks 64 = .ok (.goto 4, 3) := by decide +kernel
theorem dX3_plucks_67 : decode cX3_plucks 67 = .ok (.iconst 0, 1) := by decide +kernel
theorem dX3_plucks_68 : decode cX3_plucks 68 = .ok (.istore_n 3, 1) := by decide +kernel
theorem dX3_plucks_69 : decode cX3_plucks 69 = .ok (.aload_n 0, 1) := by decide +kernel
theorem dX3_plucks_70 : decode cX3_plucks 70 = .ok (.getfield 7, 3) := by decide +kernel
theorem dX3_plucks_73 : decode cX3_plucks 73 = .ok (.iload_n 1, 1) := by decide +kernel
theorem dX3_plucks_74 : decode cX3_plucks 74 = .ok (.iconst 1, 1) := by decide +kernel
theorem dX3_plucks_75 : decode cX3_plucks 75 = .ok (.invokestatic 86, 3) := by decide +kernel
theorem dX3_plucks_78 : decode cX3_plucks 78 = .ok (.dup2, 1) := by decide +kernel
theorem dX3_plucks_79 : decode cX3_plucks 79 = .ok (.iaload, 1) := by decide +kernel
theorem dX3_plucks_80 : decode cX3_plucks 80 = .ok (.iload_n 3, 1) := by decide +kernel
theorem dX3_plucks_81 : decode cX3_plucks 81 = .ok (.ifCond .eq 7, 3) := by decide +kernel
theorem dX3_plucks_84 : decode cX3_plucks 84 = .ok (.iconst 0, 1) := by decide +kernel
theorem dX3_plucks_85 : decode cX3_plucks 85 = .ok (.goto 4, 3) := by decide +kernel
theorem dX3_plucks_88 : decode cX3_plucks 88 = .ok (.iconst 1, 1) := by decide +kernel
theorem dX3_plucks_89 : decode cX3_plucks 89 = .ok (.iadd, 1) := by decide +kernel
theorem dX3_plucks_90 : decode cX3_plucks 90 = .ok (.iastore, 1) := by decide +kernel
theorem dX3_plucks_91 : decode cX3_plucks 91 = .ok (.aload_n 0, 1) := by decide +kernel
theorem dX3_plucks_92 : decode cX3_plucks 92 = .ok (.getfield 7, 3) := by decide +kernel
theorem dX3_plucks_95 : decode cX3_plucks 95 = .ok (.iload_n 1, 1) := by decide +kernel
theorem dX3_plucks_96 : decode cX3_plucks 96 = .ok (.iconst 2, 1) := by decide +kernel
theorem dX3_plucks_97 : decode cX3_plucks 97 = .ok (.invokestatic 86, 3) := by decide +kernel
theorem dX3_plucks_100 : decode cX3_plucks 100 = .ok (.iload_n 3, 1) := by decide +kernel
theorem dX3_plucks_101 : decode cX3_plucks 101 = .ok (.ifCond .eq 7, 3) := by decide +kernel
theorem dX3_plucks_104 : decode cX3_plucks 104 = .ok (.iconst 1, 1) := by decide +kernel
theorem dX3_plucks_105 : decode cX3_plucks 105 = .ok (.goto 4, 3) := by decide +kernel
theorem dX3_plucks_108 : decode cX3_plucks 108 = .ok (.iconst 0, 1) := by decide +kernel
theorem dX3_plucks_109 : decode cX3_plucks 109 = .ok (.iastore, 1) := by decide +kernel
theorem dX3_plucks_110 : decode cX3_plucks 110 = .ok (.aload_n 0, 1) := by decide +kernel
theorem dX3_plucks_111 : decode cX3_plucks 111 = .ok (.getfield 7, 3) := by decide +kernel
theorem dX3_plucks_114 : decode cX3_plucks 114 = .ok (.iload_n 1, 1) := by decide +kernel
theorem dX3_plucks_115 : decode cX3_plucks 115 = .ok (.iconst 0, 1) := by decide +kernel
theorem dX3_plucks_116 : decode cX3_plucks 116 = .ok (.invokestatic 86, 3) := by decide +kernel
theorem dX3_plucks_119 : decode cX3_plucks 119 = .ok (.iload_n 3, 1) := by decide +kernel
theorem dX3_plucks_120 : decode cX3_plucks 120 = .ok (.ifCond .eq 7, 3) := by decide +kernel
theorem dX3_plucks_123 : decode cX3_plucks 123 = .ok (.iconst 0, 1) := by decide +kernel
theorem dX3_plucks_124 : decode cX3_plucks 124 = .ok (.goto 13, 3) := by decide +kernel
theorem dX3_plucks_127 : decode cX3_plucks 127 = .ok (.aload_n 0, 1) := by decide +kernel
theorem dX3_plucks_128 : decode cX3_plucks 128 = .ok (.getfield 7, 3) := by decide +kernel
theorem dX3_plucks_131 : decode cX3_plucks 131 = .ok (.iload_n 1, 1) := by decide +kernel
theorem dX3_plucks_132 : decode cX3_plucks 132 = .ok (.iconst 0, 1) := by decide +kernel
theorem dX3_plucks_133 : decode cX3_plucks 133 = .ok (.invokestatic 86, 3) := by decide +kernel
theorem dX3_plucks_136 : decode cX3_plucks 136 = .ok (.iaload, 1) := by decide +kernel
theorem dX3_plucks_137 : decode cX3_plucks 137 = .ok (.iastore, 1) := by decide +kernel
theorem dX3_plucks_138 : decode cX3_plucks 138 = .ok (.aload_n 0, 1) := by decide +kernel
theorem dX3_plucks_139 : decode cX3_plucks 139 = .ok (.getfield 7, 3) := by decide +kernel
theorem dX3_plucks_142 : decode cX3_plucks 142 = .ok (.iload_n 1, 1) := by decide +kernel
theorem dX3_plucks_143 : decode cX3_plucks 143 = .ok (.iconst 2, 1) := by decide +kernel
theorem dX3_plucks_144 : decode cX3_plucks 144 = .ok (.invokestatic 86, 3) := by decide +kernel
theorem dX3_plucks_147 : decode cX3_plucks 147 = .ok (.iaload, 1) := by decide +kernel
theorem dX3_plucks_148 : decode cX3_plucks 148 = .ok (.ifCond .ne 8, 3) := by decide +kernel
theorem dX3_plucks_151 : decode cX3_plucks 151 = .ok (.aload_n 0, 1) := by decide +kernel
theorem dX3_plucks_152 : decode cX3_plucks 152 = .ok (.iload_n 1, 1) := by decide +kernel
theorem dX3_plucks_153 : decode cX3_plucks 153 = .ok (.invokevirtual 89, 3) := by decide +kernel
theorem dX3_plucks_156 : decode cX3_plucks 156 = .ok (.return_, 1) := by decide +kernel
set_option maxRecDepth 20000 in
theorem ggX3_goes_X3_need : GoodIn wsX3_goes wsX3_need := goodIn_r _ [6, 1, 7, 8, 9, 5, 10, 11, 12, 13, 14, 15, 16, 17, 18, 19, 20, 21, 22, 23, 24, 33, 34, 35, 36, 37, 38, 39, 40, 41, 42, 43, 44, 45] rfl (by decide +kernel)
set_option maxRecDepth 20000 in
theorem gX3_goes_X3_need : GoodIn wsX3_goes (wsV RX3 93 RX3 yX3_need wsX3_need) := goodIn_app (goodIn_r _ [2, 3, 4, 5] rfl (by decide +kernel)) ggX3_goes_X3_need
set_option maxRecDepth 20000 in
theorem ggX3_goes_X3_nextTune : GoodIn wsX3_goes wsX3_nextTune := goodIn_r _ [10, 1, 11, 12, 13, 5, 14, 33, 34, 35, 36, 37, 38, 39, 40, 41, 42, 43, 44, 45] rfl (by decide +kernel)
set_option maxRecDepth 20000 in
theorem gX3_goes_X3_nextTune : GoodIn wsX3_goes (wsV RX3 83 RX3 yX3_nextTune wsX3_nextTune) := goodIn_app (goodIn_r _ [7, 8, 9, 5] rfl (by decide +kernel)) ggX3_goes_X3_nextTune
set_option maxRecDepth 20000 in
theorem ggX3_goes_X3_nextStep : GoodIn wsX3_goes wsX3_nextStep := goodIn_r _ [14, 1, 33, 34, 35, 36, 37, 38, 39, 40, 41, 42, 43, 44, 45] rfl (by decide +kernel)
set_option maxRecDepth 20000 in
theorem gX3_goes_X3_nextStep : GoodIn wsX3_goes (wsV RX3 79 RX3 yX3_nextStep wsX3_nextStep) := goodIn_app (goodIn_r _ [11, 12, 13, 5] rfl (by decide +kernel)) ggX3_goes_X3_nextStep
set_option maxRecDepth 20000 in
theorem ggX3_goes_X3_of : GoodIn wsX3_goes wsX3_of := goodIn_r _ [24] rfl (by decide +kernel)
set_option maxRecDepth 20000 in
theorem gX3_goes_X3_of : GoodIn wsX3_goes (va_wsS RX3 86 yX3_of wsX3_of) := goodIn_app (goodIn_r _ [22, 23, 5] rfl (by decide +kernel)) ggX3_goes_X3_of
set_option maxRecDepth 20000 in
theorem ggX3_goes_X3_isPin : GoodIn wsX3_goes wsX3_isPin := goodIn_r _ [18, 1, 19, 20, 5, 21, 33, 34, 35, 36, 37, 38, 39, 40, 41, 42, 43, 44, 45] rfl (by decide +kernel)
set_option maxRecDepth 20000 in
theorem gX3_goes_X3_isPin : GoodIn wsX3_goes (wsV RX3 50 RX3 yX3_isPin wsX3_isPin) := goodIn_app (goodIn_r _ [15, 16, 17, 5] rfl (by decide +kernel)) ggX3_goes_X3_isPin
set_option maxRecDepth 20000 in
theorem ggX3_goes_X3_plucks : GoodIn wsX3_goes wsX3_plucks := goodIn_r _ [28, 1, 22, 23, 5, 24, 29, 30, 31, 32, 33, 34, 35, 36, 37, 38, 39, 40, 41, 42, 43, 44, 45] rfl (by decide +kernel)
set_option maxRecDepth 20000 in
theorem gX3_goes_X3_plucks : GoodIn wsX3_goes (wsV RX3 96 RX3 yX3_plucks wsX3_plucks) := goodIn_app (goodIn_r _ [25, 26, 27, 5] rfl (by decide +kernel)) ggX3_goes_X3_plucks
theorem dX3_goes_0 : decode cX3_goes 0 = .ok (.aload_n 0, 1) := by decide +kernel
theorem dX3_goes_1 : decode cX3_goes 1 = .ok (.invokevirtual 93, 3) := by decide +kernel
theorem dX3_goes_4 : decode cX3_goes 4 = .ok (.istore_n 1, 1) := by decide +kernel
theorem dX3_goes_5 : decode cX3_goes 5 = .ok (.aload_n 0, 1) := by decide +kernel
theorem dX3_goes_6 : decode cX3_goes 6 = .ok (.getfield 7, 3) := by decide +kernel
theorem dX3_goes_9 : decode cX3_goes 9 = .ok (.sipush 135, 3) := by decide +kernel
theorem dX3_goes_12 : decode cX3_goes 12 = .ok (.iaload, 1) := by decide +kernel
theorem dX3_goes_13 : decode cX3_goes 13 = .ok (.iload_n 1, 1) := by decide +kernel
theorem dX3_goes_14 : decode cX3_goes 14 = .ok (.if_icmp .ge 5, 3) := by decide +kernel
theorem dX3_goes_17 : decode cX3_goes 17 = .ok (.iconst 0, 1) := by decide +kernel
theorem dX3_goes_18 : decode cX3_goes 18 = .ok (.ireturn, 1) := by decide +kernel
theorem dX3_goes_19 : decode cX3_goes 19 = .ok (.aload_n 0, 1) := by decide +kernel
theorem dX3_goes_20 : decode cX3_goes 20 = .ok (.getfield 7, 3) := by decide +kernel
theorem dX3_goes_23 : decode cX3_goes 23 = .ok (.sipush 134, 3) := by decide +kernel
theorem dX3_goes_26 : decode cX3_goes 26 = .ok (.aload_n 0, 1) := by decide +kernel
theorem dX3_goes_27 : decode cX3_goes 27 = .ok (.invokevirtual 83, 3) := by decide +kernel
theorem dX3_goes_30 : decode cX3_goes 30 = .ok (.iastore, 1) := by decide +kernel
theorem dX3_goes_31 : decode cX3_goes 31 = .ok (.aload_n 0, 1) := by decide +kernel
theorem dX3_goes_32 : decode cX3_goes 32 = .ok (.getfield 7, 3) := by decide +kernel
theorem dX3_goes_35 : decode cX3_goes 35 = .ok (.sipush 133, 3) := by decide +kernel
theorem dX3_goes_38 : decode cX3_goes 38 = .ok (.aload_n 0, 1) := by decide +kernel
theorem dX3_goes_39 : decode cX3_goes 39 = .ok (.invokevirtual 79, 3) := by decide +kernel
theorem dX3_goes_42 : decode cX3_goes 42 = .ok (.iastore, 1) := by decide +kernel
theorem dX3_goes_43 : decode cX3_goes 43 = .ok (.aload_n 0, 1) := by decide +kernel
theorem dX3_goes_44 : decode cX3_goes 44 = .ok (.getfield 7, 3) := by decide +kernel
theorem dX3_goes_47 : decode cX3_goes 47 = .ok (.sipush 135, 3) := by decide +kernel
theorem dX3_goes_50 : decode cX3_goes 50 = .ok (.dup2, 1) := by decide +kernel
theorem dX3_goes_51 : decode cX3_goes 51 = .ok (.iaload, 1) := by decide +kernel
theorem dX3_goes_52 : decode cX3_goes 52 = .ok (.iload_n 1, 1) := by decide +kernel
theorem dX3_goes_53 : decode cX3_goes 53 = .ok (.isub, 1) := by decide +kernel
theorem dX3_goes_54 : decode cX3_goes 54 = .ok (.iastore, 1) := by decide +kernel
theorem dX3_goes_55 : decode cX3_goes 55 = .ok (.aload_n 0, 1) := by decide +kernel
theorem dX3_goes_56 : decode cX3_goes 56 = .ok (.getfield 7, 3) := by decide +kernel
theorem dX3_goes_59 : decode cX3_goes 59 = .ok (.sipush 141, 3) := by decide +kernel
theorem dX3_goes_62 : decode cX3_goes 62 = .ok (.dup2, 1) := by decide +kernel
theorem dX3_goes_63 : decode cX3_goes 63 = .ok (.iaload, 1) := by decide +kernel
theorem dX3_goes_64 : decode cX3_goes 64 = .ok (.iload_n 1, 1) := by decide +kernel
theorem dX3_goes_65 : decode cX3_goes 65 = .ok (.iadd, 1) := by decide +kernel
theorem dX3_goes_66 : decode cX3_goes 66 = .ok (.iastore, 1) := by decide +kernel
theorem dX3_goes_67 : decode cX3_goes 67 = .ok (.aload_n 0, 1) := by decide +kernel
theorem dX3_goes_68 : decode cX3_goes 68 = .ok (.getfield 7, 3) := by decide +kernel
theorem dX3_goes_71 : decode cX3_goes 71 = .ok (.sipush 138, 3) := by decide +kernel
theorem dX3_goes_74 : decode cX3_goes 74 = .ok (.dup2, 1) := by decide +kernel
theorem dX3_goes_75 : decode cX3_goes 75 = .ok (.iaload, 1) := by decide +kernel
theorem dX3_goes_76 : decode cX3_goes 76 = .ok (.iconst 1, 1) := by decide +kernel
theorem dX3_goes_77 : decode cX3_goes 77 = .ok (.iadd, 1) := by decide +kernel
theorem dX3_goes_78 : decode cX3_goes 78 = .ok (.iastore, 1) := by decide +kernel
theorem dX3_goes_79 : decode cX3_goes 79 = .ok (.bipush 12, 2) := by decide +kernel
theorem dX3_goes_81 : decode cX3_goes 81 = .ok (.aload_n 0, 1) := by decide +kernel
theorem dX3_goes_82 : decode cX3_goes 82 = .ok (.getfield 7, 3) := by decide +kernel
theorem dX3_goes_85 : decode cX3_goes 85 = .ok (.sipush 135, 3) := by decide +kernel
theorem dX3_goes_88 : decode cX3_goes 88 = .ok (.iaload, 1) := by decide +kernel
theorem dX3_goes_89 : decode cX3_goes 89 = .ok (.bipush 50, 2) := by decide +kernel
theorem dX3_goes_91 : decode cX3_goes 91 = .ok (.idiv, 1) := by decide +kernel
theorem dX3_goes_92 : decode cX3_goes 92 = .ok (.isub, 1) := by decide +kernel
theorem dX3_goes_93 : decode cX3_goes 93 = .ok (.aload_n 0, 1) := by decide +kernel
theorem dX3_goes_94 : decode cX3_goes 94 = .ok (.getfield 7, 3) := by decide +kernel
theorem dX3_goes_97 : decode cX3_goes 97 = .ok (.sipush 136, 3) := by decide +kernel
theorem dX3_goes_100 : decode cX3_goes 100 = .ok (.iaload, 1) := by decide +kernel
theorem dX3_goes_101 : decode cX3_goes 101 = .ok (.iadd, 1) := by decide +kernel
theorem dX3_goes_102 : decode cX3_goes 102 = .ok (.istore_n 2, 1) := by decide +kernel
theorem dX3_goes_103 : decode cX3_goes 103 = .ok (.iload_n 2, 1) := by decide +kernel
theorem dX3_goes_104 : decode cX3_goes 104 = .ok (.iconst 2, 1) := by decide +kernel
theorem dX3_goes_105 : decode cX3_goes 105 = .ok (.if_icmp .ge 7, 3) := by decide +kernel
theorem dX3_goes_108 : decode cX3_goes 108 = .ok (.iconst 2, 1) := by decide +kernel
theorem dX3_goes_109 : decode cX3_goes 109 = .ok (.goto 4, 3) := by decide +kernel
theorem dX3_goes_112 : decode cX3_goes 112 = .ok (.iload_n 2, 1) := by decide +kernel
theorem dX3_goes_113 : decode cX3_goes 113 = .ok (.istore_n 2, 1) := by decide +kernel
theorem dX3_goes_114 : decode cX3_goes 114 = .ok (.aload_n 0, 1) := by decide +kernel
theorem dX3_goes_115 : decode cX3_goes 115 = .ok (.getfield 7, 3) := by decide +kernel
theorem dX3_goes_118 : decode cX3_goes 118 = .ok (.sipush 137, 3) := by decide +kernel
theorem dX3_goes_121 : decode cX3_goes 121 = .ok (.dup2, 1) := by decide +kernel
theorem dX3_goes_122 : decode cX3_goes 122 = .ok (.iaload, 1) := by decide +kernel
theorem dX3_goes_123 : decode cX3_goes 123 = .ok (.iload_n 2, 1) := by decide +kernel
theorem dX3_goes_124 : decode cX3_goes 124 = .ok (.iadd, 1) := by decide +kernel
theorem dX3_goes_125 : decode cX3_goes 125 = .ok (.iastore, 1) := by decide +kernel
theorem dX3_goes_126 : decode cX3_goes 126 = .ok (.iconst 0, 1) := by decide +kernel
theorem dX3_goes_127 : decode cX3_goes 127 = .ok (.istore_n 3, 1) := by decide +kernel
theorem dX3_goes_128 : decode cX3_goes 128 = .ok (.iload_n 3, 1) := by decide +kernel
theorem dX3_goes_129 : decode cX3_goes 129 = .ok (.bipush 12, 2) := by decide +kernel
theorem dX3_goes_131 : decode cX3_goes 131 = .ok (.if_icmp .ge 49, 3) := by decide +kernel
theorem dX3_goes_134 : decode cX3_goes 134 = .ok (.aload_n 0, 1) := by decide +kernel
theorem dX3_goes_135 : decode cX3_goes 135 = .ok (.getfield 7, 3) := by decide +kernel
theorem dX3_goes_138 : decode cX3_goes 138 = .ok (.iload_n 3, 1) := by decide +kernel
theorem dX3_goes_139 : decode cX3_goes 139 = .ok (.iconst 0, 1) := by decide +kernel
theorem dX3_goes_140 : decode cX3_goes 140 = .ok (.invokestatic 86, 3) := by decide +kernel
theorem dX3_goes_143 : decode cX3_goes 143 = .ok (.aload_n 0, 1) := by decide +kernel
theorem dX3_goes_144 : decode cX3_goes 144 = .ok (.getfield 7, 3) := by decide +kernel
theorem dX3_goes_147 : decode cX3_goes 147 = .ok (.iload_n 3, 1) := by decide +kernel
theorem dX3_goes_148 : decode cX3_goes 148 = .ok (.iconst 0, 1) := by decide +kernel
theorem dX3_goes_149 : decode cX3_goes 149 = .ok (.invokestatic 86, 3) := by decide +kernel
theorem dX3_goes_152 : decode cX3_goes 152 = .ok (.iaload, 1) := by decide +kernel
theorem dX3_goes_153 : decode cX3_goes 153 = .ok (.iload_n 2, 1) := by decide +kernel
theorem dX3_goes_154 : decode cX3_goes 154 = .ok (.if_icmp .le 18, 3) := by decide +kernel
theorem dX3_goes_157 : decode cX3_goes 157 = .ok (.aload_n 0, 1) := by decide +kernel
theorem dX3_goes_158 : decode cX3_goes 158 = .ok (.getfield 7, 3) := by decide +kernel
theorem dX3_goes_161 : decode cX3_goes 161 = .ok (.iload_n 3, 1) := by decide +kernel
theorem dX3_goes_162 : decode cX3_goes 162 = .ok (.iconst 0, 1) := by decide +kernel
theorem dX3_goes_163 : decode cX3_goes 163 = .ok (.invokestatic 86, 3) := by decide +kernel
theorem dX3_goes_166 : decode cX3_goes 166 = .ok (.iaload, 1) := by decide +kernel
theorem dX3_goes_167 : decode cX3_goes 167 = .ok (.iload_n 2, 1) := by decide +kernel
theorem dX3_goes_168 : decode cX3_goes 168 = .ok (.isub, 1) := by decide +kernel
theorem dX3_goes_169 : decode cX3_goes 169 = .ok (.goto 4, 3) := by decide +kernel
theorem dX3_goes_172 : decode cX3_goes 172 = .ok (.iconst 0, 1) := by decide +kernel
theorem dX3_goes_173 : decode cX3_goes 173 = .ok (.iastore, 1) := by decide +kernel
theorem dX3_goes_174 : decode cX3_goes 174 = .ok (.iinc 3 1, 3) := by decide +kernel
theorem dX3_goes_177 : decode cX3_goes 177 = .ok (.goto (-49), 3) := by decide +kernel
theorem dX3_goes_180 : decode cX3_goes 180 = .ok (.iconst 0, 1) := by decide +kernel
theorem dX3_goes_181 : decode cX3_goes 181 = .ok (.istore_n 3, 1) := by decide +kernel
theorem dX3_goes_182 : decode cX3_goes 182 = .ok (.iload_n 3, 1) := by decide +kernel
theorem dX3_goes_183 : decode cX3_goes 183 = .ok (.bipush 12, 2) := by decide +kernel
theorem dX3_goes_185 : decode cX3_goes 185 = .ok (.if_icmp .ge 52, 3) := by decide +kernel
theorem dX3_goes_188 : decode cX3_goes 188 = .ok (.aload_n 0, 1) := by decide +kernel
theorem dX3_goes_189 : decode cX3_goes 189 = .ok (.aload_n 0, 1) := by decide +kernel
theorem dX3_goes_190 : decode cX3_goes 190 = .ok (.getfield 7, 3) := by decide +kernel
theorem dX3_goes_193 : decode cX3_goes 193 = .ok (.sipush 134, 3) := by decide +kernel
theorem dX3_goes_196 : decode cX3_goes 196 = .ok (.iaload, 1) := by decide +kernel
theorem dX3_goes_197 : decode cX3_goes 197 = .ok (.iload_n 3, 1) := by decide +kernel
theorem dX3_goes_198 : decode cX3_goes 198 = .ok (.aload_n 0, 1) := by decide +kernel
theorem dX3_goes_199 : decode cX3_goes 199 = .ok (.getfield 7, 3) := by decide +kernel
theorem dX3_goes_202 : decode cX3_goes 202 = .ok (.sipush 133, 3) := by decide +kernel
theorem dX3_goes_205 : decode cX3_goes 205 = .ok (.iaload, 1) := by decide +kernel
theorem dX3_goes_206 : decode cX3_goes 206 = .ok (.invokevirtual 50, 3) := by decide +kernel
theorem dX3_goes_209 : decode cX3_goes 209 = .ok (.ifCond .eq 22, 3) := by decide +kernel
theorem dX3_goes_212 : decode cX3_goes 212 = .ok (.aload_n 0, 1) := by decide +kernel
theorem dX3_goes_213 : decode cX3_goes 213 = .ok (.getfield 7, 3) := by decide +kernel
theorem dX3_goes_216 : decode cX3_goes 216 = .ok (.iload_n 3, 1) := by decide +kernel
theorem dX3_goes_217 : decode cX3_goes 217 = .ok (.iconst 2, 1) := by decide +kernel
theorem dX3_goes_218 : decode cX3_goes 218 = .ok (.invokestatic 86, 3) := by decide +kernel
theorem dX3_goes_221 : decode cX3_goes 221 = .ok (.iaload, 1) := by decide +kernel
theorem dX3_goes_222 : decode cX3_goes 222 = .ok (.ifCond .ne 9, 3) := by decide +kernel
theorem dX3_goes_225 : decode cX3_goes 225 = .ok (.aload_n 0, 1) := by decide +kernel
theorem dX3_goes_226 : decode cX3_goes 226 = .ok (.iload_n 3, 1) := by decide +kernel
theorem dX3_goes_227 : decode cX3_goes 227 = .ok (.iload_n 2, 1) := by decide +kernel
theorem dX3_goes_228 : decode cX3_goes 228 = .ok (.invokevirtual 96, 3) := by decide +kernel
theorem dX3_goes_231 : decode cX3_goes 231 = .ok (.iinc 3 1, 3) := by decide +kernel
theorem dX3_goes_234 : decode cX3_goes 234 = .ok (.goto (-52), 3) := by decide +kernel
theorem dX3_goes_237 : decode cX3_goes 237 = .ok (.iconst 1, 1) := by decide +kernel
theorem dX3_goes_238 : decode cX3_goes 238 = .ok (.ireturn, 1) := by decide +kernel
set_option maxRecDepth 20000 in
theorem ggX3_goesOn_X3_goes : GoodIn wsX3_goesOn wsX3_goes := goodIn_r _ [5, 6, 7, 8, 9, 4, 10, 11, 12, 13, 14, 15, 16, 17, 18, 19, 20, 21, 22, 23, 24, 25, 26, 27, 28, 29, 30, 31, 32, 33, 34, 35, 36, 37, 38, 39, 40, 41, 42, 43, 44, 45, 46, 47, 48, 49] rfl (by decide +kernel)
set_option maxRecDepth 20000 in
theorem gX3_goesOn_X3_goes : GoodIn wsX3_goesOn (wsV RX3 100 RX3 yX3_goes wsX3_goes) := goodIn_app (goodIn_r _ [1, 2, 3, 4] rfl (by decide +kernel)) ggX3_goesOn_X3_goes
theorem dX3_goesOn_0 : decode cX3_goesOn 0 = .ok (.iconst 0, 1) := by decide +kernel
theorem dX3_goesOn_1 : decode cX3_goesOn 1 = .ok (.istore_n 2, 1) := by decide +kernel
theorem dX3_goesOn_2 : decode cX3_goesOn 2 = .ok (.iload_n 2, 1) := by decide +kernel
theorem dX3_goesOn_3 : decode cX3_goesOn 3 = .ok (.iload_n 1, 1) := by decide +kernel
theorem dX3_goesOn_4 : decode cX3_goesOn 4 = .ok (.if_icmp .ge 16, 3) := by decide +kernel
theorem dX3_goesOn_7 : decode cX3_goesOn 7 = .ok (.aload_n 0, 1) := by decide +kernel
theorem dX3_goesOn_8 : decode cX3_goesOn 8 = .ok (.invokevirtual 100, 3) := by decide +kernel
theorem dX3_goesOn_11 : decode cX3_goesOn 11 = .ok (.ifCond .eq 9, 3) := by decide +kernel
theorem dX3_goesOn_14 : decode cX3_goesOn 14 = .ok (.iinc 2 1, 3) := by decide +kernel
theorem dX3_goesOn_17 : decode cX3_goesOn 17 = .ok (.goto (-15), 3) := by decide +kernel
theorem dX3_goesOn_20 : decode cX3_goesOn 20 = .ok (.iload_n 2, 1) := by decide +kernel
theorem dX3_goesOn_21 : decode cX3_goesOn 21 = .ok (.ireturn, 1) := by decide +kernel
set_option maxRecDepth 20000 in
theorem ggX3_wind_X3_in : GoodIn wsX3_wind wsX3_in := goodIn_r _ [5] rfl (by decide +kernel)
set_option maxRecDepth 20000 in
theorem gX3_wind_X3_in : GoodIn wsX3_wind (va_wsS RX3 29 yX3_in wsX3_in) := goodIn_app (goodIn_r _ [2, 3, 4] rfl (by decide +kernel)) ggX3_wind_X3_in
set_option maxRecDepth 20000 in
theorem ggX3_wind_X3_holds : GoodIn wsX3_wind wsX3_holds := goodIn_r _ [9, 10, 17, 18, 19, 20, 21, 22, 23, 24, 25, 26, 27, 28, 29] rfl (by decide +kernel)
set_option maxRecDepth 20000 in
theorem gX3_wind_X3_holds : GoodIn wsX3_wind (wsV RX3 73 RX3 yX3_holds wsX3_holds) := goodIn_app (goodIn_r _ [6, 7, 8, 4] rfl (by decide +kernel)) ggX3_wind_X3_holds
set_option maxRecDepth 20000 in
theorem ggX3_wind_X3_save : GoodIn wsX3_wind wsX3_save := goodIn_r _ [14, 15, 16, 1, 17, 18, 19, 20, 21, 22, 23, 24, 25, 26, 27, 28, 29] rfl (by decide +kernel)
set_option maxRecDepth 20000 in
theorem gX3_wind_X3_save : GoodIn wsX3_wind (wsV RX3 76 RX3 yX3_save wsX3_save) := goodIn_app (goodIn_r _ [11, 12, 13, 4] rfl (by decide +kernel)) ggX3_wind_X3_save
theorem dX3_wind_0 : decode cX3_wind 0 = .ok (.aload_n 0, 1) := by decide +kernel
theorem dX3_wind_1 : decode cX3_wind 1 = .ok (.iload_n 1, 1) := by decide +kernel
theorem dX3_wind_2 : decode cX3_wind 2 = .ok (.iconst 1, 1) := by decide +kernel
theorem dX3_wind_3 : decode cX3_wind 3 = .ok (.sipush 400, 3) := by decide +kernel
theorem dX3_wind_6 : decode cX3_wind 6 = .ok (.invokestatic 29, 3) := by decide +kernel
theorem dX3_wind_9 : decode cX3_wind 9 = .ok (.ifCond .eq 7, 3) := by decide +kernel
theorem dX3_wind_12 : decode cX3_wind 12 = .ok (.iconst 0, 1) := by decide +kernel
theorem dX3_wind_13 : decode cX3_wind 13 = .ok (.goto 4, 3) := by decide +kernel
theorem dX3_wind_16 : decode cX3_wind 16 = .ok (.iconst 1, 1) := by decide +kernel
theorem dX3_wind_17 : decode cX3_wind 17 = .ok (.invokevirtual 73, 3) := by decide +kernel
theorem dX3_wind_20 : decode cX3_wind 20 = .ok (.ifCond .ne 5, 3) := by decide +kernel
theorem dX3_wind_23 : decode cX3_wind 23 = .ok (.iconst 0, 1) := by decide +kernel
theorem dX3_wind_24 : decode cX3_wind 24 = .ok (.ireturn, 1) := by decide +kernel
theorem dX3_wind_25 : decode cX3_wind 25 = .ok (.aload_n 0, 1) := by decide +kernel
theorem dX3_wind_26 : decode cX3_wind 26 = .ok (.invokevirtual 76, 3) := by decide +kernel
theorem dX3_wind_29 : decode cX3_wind 29 = .ok (.aload_n 0, 1) := by decide +kernel
theorem dX3_wind_30 : decode cX3_wind 30 = .ok (.getfield 7, 3) := by decide +kernel
theorem dX3_wind_33 : decode cX3_wind 33 = .ok (.sipush 135, 3) := by decide +kernel
theorem dX3_wind_36 : decode cX3_wind 36 = .ok (.aload_n 0, 1) := by decide +kernel
theorem dX3_wind_37 : decode cX3_wind 37 = .ok (.getfield 7, 3) := by decide +kernel
theorem dX3_wind_40 : decode cX3_wind 40 = .ok (.sipush 135, 3) := by decide +kernel
theorem dX3_wind_43 : decode cX3_wind 43 = .ok (.iaload, 1) := by decide +kernel
theorem dX3_wind_44 : decode cX3_wind 44 = .ok (.iload_n 1, 1) := by decide +kernel
theorem dX3_wind_45 : decode cX3_wind 45 = .ok (.iadd, 1) := by decide +kernel
theorem dX3_wind_46 : decode cX3_wind 46 = .ok (.sipush 400, 3) := by decide +kernel
theorem dX3_wind_49 : decode cX3_wind 49 = .ok (.if_icmp .le 9, 3) := by decide +kernel
theorem dX3_wind_52 : decode cX3_wind 52 = .ok (.sipush 400, 3) := by decide +kernel
theorem dX3_wind_55 : decode cX3_wind 55 = .ok (.goto 13, 3) := by decide +kernel
theorem dX3_wind_58 : decode cX3_wind 58 = .ok (.aload_n 0, 1) := by decide +kernel
theorem dX3_wind_59 : decode cX3_wind 59 = .ok (.getfield 7, 3) := by decide +kernel
theorem dX3_wind_62 : decode cX3_wind 62 = .ok (.sipush 135, 3) := by decide +kernel
theorem dX3_wind_65 : decode cX3_wind 65 = .ok (.iaload, 1) := by decide +kernel
theorem dX3_wind_66 : decode cX3_wind 66 = .ok (.iload_n 1, 1) := by decide +kernel
theorem dX3_wind_67 : decode cX3_wind 67 = .ok (.iadd, 1) := by decide +kernel
theorem dX3_wind_68 : decode cX3_wind 68 = .ok (.iastore, 1) := by decide +kernel
theorem dX3_wind_69 : decode cX3_wind 69 = .ok (.aload_n 0, 1) := by decide +kernel
theorem dX3_wind_70 : decode cX3_wind 70 = .ok (.getfield 7, 3) := by decide +kernel
theorem dX3_wind_73 : decode cX3_wind 73 = .ok (.sipush 135, 3) := by decide +kernel
theorem dX3_wind_76 : decode cX3_wind 76 = .ok (.iaload, 1) := by decide +kernel
theorem dX3_wind_77 : decode cX3_wind 77 = .ok (.ireturn, 1) := by decide +kernel
set_option maxRecDepth 20000 in
theorem ggX3_becomes_X3_save : GoodIn wsX3_becomes wsX3_save := goodIn_r _ [6, 7, 8, 1, 9, 10, 11, 12, 13, 14, 15, 16, 17, 18, 19, 20, 21] rfl (by decide +kernel)
set_option maxRecDepth 20000 in
theorem gX3_becomes_X3_save : GoodIn wsX3_becomes (wsV RX3 76 RX3 yX3_save wsX3_save) := goodIn_app (goodIn_r _ [2, 3, 4, 5] rfl (by decide +kernel)) ggX3_becomes_X3_save
theorem dX3_becomes_0 : decode cX3_becomes 0 = .ok (.aload_n 0, 1) := by decide +kernel
theorem dX3_becomes_1 : decode cX3_becomes 1 = .ok (.invokevirtual 76, 3) := by decide +kernel
theorem dX3_becomes_4 : decode cX3_becomes 4 = .ok (.aload_n 0, 1) := by decide +kernel
theorem dX3_becomes_5 : decode cX3_becomes 5 = .ok (.getfield 7, 3) := by decide +kernel
theorem dX3_becomes_8 : decode cX3_becomes 8 = .ok (.iload_n 1, 1) := by decide +kernel
theorem dX3_becomes_9 : decode cX3_becomes 9 = .ok (.iaload, 1) := by decide +kernel
theorem dX3_becomes_10 : decode cX3_becomes 10 = .ok (.istore_n 3, 1) := by decide +kernel
theorem dX3_becomes_11 : decode cX3_becomes 11 = .ok (.aload_n 0, 1) := by decide +kernel
theorem dX3_becomes_12 : decode cX3_becomes 12 = .ok (.getfield 7, 3) := by decide +kernel
theorem dX3_becomes_15 : decode cX3_becomes 15 = .ok (.iload_n 1, 1) := by decide +kernel
theorem dX3_becomes_16 : decode cX3_becomes 16 = .ok (.iload_n 2, 1) := by decide +kernel
theorem dX3_becomes_17 : decode cX3_becomes 17 = .ok (.iastore, 1) := by decide +kernel
theorem dX3_becomes_18 : decode cX3_becomes 18 = .ok (.iload_n 3, 1) := by decide +kernel
theorem dX3_becomes_19 : decode cX3_becomes 19 = .ok (.ireturn, 1) := by decide +kernel
set_option maxRecDepth 20000 in
theorem ggX3_vanes_X3_in : GoodIn wsX3_vanes wsX3_in := goodIn_r _ [4] rfl (by decide +kernel)
set_option maxRecDepth 20000 in
theorem gX3_vanes_X3_in : GoodIn wsX3_vanes (va_wsS RX3 29 yX3_in wsX3_in) := goodIn_app (goodIn_r _ [1, 2, 3] rfl (by decide +kernel)) ggX3_vanes_X3_in
set_option maxRecDepth 20000 in
theorem ggX3_vanes_X3_holds : GoodIn wsX3_vanes wsX3_holds := goodIn_r _ [8, 9, 21, 22, 23, 24, 25, 26, 27, 28, 29, 30, 31, 32, 33] rfl (by decide +kernel)
set_option maxRecDepth 20000 in
theorem gX3_vanes_X3_holds : GoodIn wsX3_vanes (wsV RX3 73 RX3 yX3_holds wsX3_holds) := goodIn_app (goodIn_r _ [5, 6, 7, 3] rfl (by decide +kernel)) ggX3_vanes_X3_holds
set_option maxRecDepth 20000 in
theorem ggX3_vanes_X3_becomes : GoodIn wsX3_vanes wsX3_becomes := goodIn_r _ [13, 14, 15, 16, 17, 3, 18, 19, 20, 21, 22, 23, 24, 25, 26, 27, 28, 29, 30, 31, 32, 33] rfl (by decide +kernel)
set_option maxRecDepth 20000 in
theorem gX3_vanes_X3_becomes : GoodIn wsX3_vanes (wsV RX3 104 RX3 yX3_becomes wsX3_becomes) := goodIn_app (goodIn_r _ [10, 11, 12, 3] rfl (by decide +kernel)) ggX3_vanes_X3_becomes
theorem dX3_vanes_0 : decode cX3_vanes 0 = .ok (.aload_n 0, 1) := by decide +kernel
theorem dX3_vanes_1 : decode cX3_vanes 1 = .ok (.iload_n 1, 1) := by decide +kernel
theorem dX3_vanes_2 : decode cX3_vanes 2 = .ok (.iconst 1, 1) := by decide +kernel
theorem dX3_vanes_3 : decode cX3_vanes 3 = .ok (.bipush 9, 2) := by decide +kernel
theorem dX3_vanes_5 : decode cX3_vanes 5 = .ok (.invokestatic 29, 3) := by decide +kernel
theorem dX3_vanes_8 : decode cX3_vanes 8 = .ok (.ifCond .eq 7, 3) := by decide +kernel
theorem dX3_vanes_11 : decode cX3_vanes 11 = .ok (.iconst 0, 1) := by decide +kernel
theorem dX3_vanes_12 : decode cX3_vanes 12 = .ok (.goto 4, 3) := by decide +kernel
theorem dX3_vanes_15 : decode cX3_vanes 15 = .ok (.iconst 1, 1) := by decide +kernel
theorem dX3_vanes_16 : decode cX3_vanes 16 = .ok (.invokevirtual 73, 3) := by decide +kernel
theorem dX3_vanes_19 : decode cX3_vanes 19 = .ok (.ifCond .eq 14, 3) := by decide +kernel
theorem dX3_vanes_22 : decode cX3_vanes 22 = .ok (.aload_n 0, 1) := by decide +kernel
theorem dX3_vanes_23 : decode cX3_vanes 23 = .ok (.sipush 136, 3) := by decide +kernel
theorem dX3_vanes_26 : decode cX3_vanes 26 = .ok (.iload_n 1, 1) := by decide +kernel
theorem dX3_vanes_27 : decode cX3_vanes 27 = .ok (.invokevirtual 104, 3) := by decide +kernel
theorem dX3_vanes_30 : decode cX3_vanes 30 = .ok (.goto 4, 3) := by decide +kernel
theorem dX3_vanes_33 : decode cX3_vanes 33 = .ok (.iconst 0, 1) := by decide +kernel
theorem dX3_vanes_34 : decode cX3_vanes 34 = .ok (.ireturn, 1) := by decide +kernel
set_option maxRecDepth 20000 in
theorem ggX3_shift_X3_isTune : GoodIn wsX3_shift wsX3_isTune := goodIn_r _ [4, 5, 6, 3, 7] rfl (by decide +kernel)
set_option maxRecDepth 20000 in
theorem gX3_shift_X3_isTune : GoodIn wsX3_shift (va_wsS RX3 33 yX3_isTune wsX3_isTune) := goodIn_app (goodIn_r _ [1, 2, 3] rfl (by decide +kernel)) ggX3_shift_X3_isTune
set_option maxRecDepth 20000 in
theorem ggX3_shift_X3_holds : GoodIn wsX3_shift wsX3_holds := goodIn_r _ [11, 12, 24, 25, 26, 27, 28, 29, 30, 31, 32, 33, 34, 35, 36] rfl (by decide +kernel)
set_option maxRecDepth 20000 in
theorem gX3_shift_X3_holds : GoodIn wsX3_shift (wsV RX3 73 RX3 yX3_holds wsX3_holds) := goodIn_app (goodIn_r _ [8, 9, 10, 3] rfl (by decide +kernel)) ggX3_shift_X3_holds
set_option maxRecDepth 20000 in
theorem ggX3_shift_X3_becomes : GoodIn wsX3_shift wsX3_becomes := goodIn_r _ [16, 17, 18, 19, 20, 3, 21, 22, 23, 24, 25, 26, 27, 28, 29, 30, 31, 32, 33, 34, 35, 36] rfl (by decide +kernel)
set_option maxRecDepth 20000 in
theorem gX3_shift_X3_becomes : GoodIn wsX3_shift (wsV RX3 104 RX3 yX3_becomes wsX3_becomes) := goodIn_app (goodIn_r _ [13, 14, 15, 3] rfl (by decide +kernel)) ggX3_shift_X3_becomes
theorem dX3_shift_0 : decode cX3_shift 0 = .ok (.aload_n 0, 1) := by decide +kernel
theorem dX3_shift_1 : decode cX3_shift 1 = .ok (.iload_n 1, 1) := by decide +kernel
theorem dX3_shift_2 : decode cX3_shift 2 = .ok (.invokestatic 33, 3) := by decide +kernel
theorem dX3_shift_5 : decode cX3_shift 5 = .ok (.ifCond .eq 7, 3) := by decide +kernel
theorem dX3_shift_8 : decode cX3_shift 8 = .ok (.iconst 0, 1) := by decide +kernel
theorem dX3_shift_9 : decode cX3_shift 9 = .ok (.goto 4, 3) := by decide +kernel
theorem dX3_shift_12 : decode cX3_shift 12 = .ok (.iconst 1, 1) := by decide +kernel
theorem dX3_shift_13 : decode cX3_shift 13 = .ok (.invokevirtual 73, 3) := by decide +kernel
theorem dX3_shift_16 : decode cX3_shift 16 = .ok (.ifCond .eq 14, 3) := by decide +kernel
theorem dX3_shift_19 : decode cX3_shift 19 = .ok (.aload_n 0, 1) := by decide +kernel
theorem dX3_shift_20 : decode cX3_shift 20 = .ok (.sipush 134, 3) := by decide +kernel
theorem dX3_shift_23 : decode cX3_shift 23 = .ok (.iload_n 1, 1) := by decide +kernel
theorem dX3_shift_24 : decode cX3_shift 24 = .ok (.invokevirtual 104, 3) := by decide +kernel
theorem dX3_shift_27 : decode cX3_shift 27 = .ok (.goto 4, 3) := by decide +kernel
theorem dX3_shift_30 : decode cX3_shift 30 = .ok (.iconst 0, 1) := by decide +kernel
theorem dX3_shift_31 : decode cX3_shift 31 = .ok (.ireturn, 1) := by decide +kernel
set_option maxRecDepth 20000 in
theorem ggX3_play_X3_in : GoodIn wsX3_play wsX3_in := goodIn_r _ [4] rfl (by decide +kernel)
set_option maxRecDepth 20000 in
theorem gX3_play_X3_in : GoodIn wsX3_play (va_wsS RX3 29 yX3_in wsX3_in) := goodIn_app (goodIn_r _ [1, 2, 3] rfl (by decide +kernel)) ggX3_play_X3_in
set_option maxRecDepth 20000 in
theorem ggX3_play_X3_holds : GoodIn wsX3_play wsX3_holds := goodIn_r _ [8, 9, 55, 56, 57, 58, 59, 60, 61, 62, 63, 64, 65, 66, 67] rfl (by decide +kernel)
set_option maxRecDepth 20000 in
theorem gX3_play_X3_holds : GoodIn wsX3_play (wsV RX3 73 RX3 yX3_holds wsX3_holds) := goodIn_app (goodIn_r _ [5, 6, 7, 3] rfl (by decide +kernel)) ggX3_play_X3_holds
set_option maxRecDepth 20000 in
theorem ggX3_play_X3_save : GoodIn wsX3_play wsX3_save := goodIn_r _ [13, 14, 15, 16, 55, 56, 57, 58, 59, 60, 61, 62, 63, 64, 65, 66, 67] rfl (by decide +kernel)
set_option maxRecDepth 20000 in
theorem gX3_play_X3_save : GoodIn wsX3_play (wsV RX3 76 RX3 yX3_save wsX3_save) := goodIn_app (goodIn_r _ [10, 11, 12, 3] rfl (by decide +kernel)) ggX3_play_X3_save
set_option maxRecDepth 20000 in
theorem ggX3_play_X3_goesOn : GoodIn wsX3_play wsX3_goesOn := goodIn_r _ [20, 21, 22, 23, 3, 24, 16, 25, 26, 27, 28, 29, 30, 31, 32, 33, 34, 35, 36, 37, 38, 39, 40, 41, 42, 43, 44, 45, 46, 47, 48, 49, 50, 51, 52, 53, 54, 55, 56, 57, 58, 59, 60, 61, 62, 63, 64, 65, 66, 67] rfl (by decide +kernel)
set_option maxRecDepth 20000 in
theorem gX3_play_X3_goesOn : GoodIn wsX3_play (wsV RX3 107 RX3 yX3_goesOn wsX3_goesOn) := goodIn_app (goodIn_r _ [17, 18, 19, 3] rfl (by decide +kernel)) ggX3_play_X3_goesOn
theorem dX3_play_0 : decode cX3_play 0 = .ok (.aload_n 0, 1) := by decide +kernel
theorem dX3_play_1 : decode cX3_play 1 = .ok (.iload_n 1, 1) := by decide +kernel
theorem dX3_play_2 : decode cX3_play 2 = .ok (.iconst 1, 1) := by decide +kernel
theorem dX3_play_3 : decode cX3_play 3 = .ok (.sipush 128, 3) := by decide +kernel
theorem dX3_play_6 : decode cX3_play 6 = .ok (.invokestatic 29, 3) := by decide +kernel
theorem dX3_play_9 : decode cX3_play 9 = .ok (.ifCond .eq 7, 3) := by decide +kernel
theorem dX3_play_12 : decode cX3_play 12 = .ok (.iconst 0, 1) := by decide +kernel
theorem dX3_play_13 : decode cX3_play 13 = .ok (.goto 4, 3) := by decide +kernel
theorem dX3_play_16 : decode cX3_play 16 = .ok (.iconst 1, 1) := by decide +kernel
theorem dX3_play_17 : decode cX3_play 17 = .ok (.invokevirtual 73, 3) := by decide +kernel
theorem dX3_play_20 : decode cX3_play 20 = .ok (.ifCond .ne 5, 3) := by decide +kernel
theorem dX3_play_23 : decode cX3_play 23 = .ok (.iconst 0, 1) := by decide +kernel
theorem dX3_play_24 : decode cX3_play 24 = .ok (.ireturn, 1) := by decide +kernel
theorem dX3_play_25 : decode cX3_play 25 = .ok (.aload_n 0, 1) := by decide +kernel
theorem dX3_play_26 : decode cX3_play 26 = .ok (.invokevirtual 76, 3) := by decide +kernel
theorem dX3_play_29 : decode cX3_play 29 = .ok (.aload_n 0, 1) := by decide +kernel
theorem dX3_play_30 : decode cX3_play 30 = .ok (.iload_n 1, 1) := by decide +kernel
theorem dX3_play_31 : decode cX3_play 31 = .ok (.invokevirtual 107, 3) := by decide +kernel
theorem dX3_play_34 : decode cX3_play 34 = .ok (.ireturn, 1) := by decide +kernel
set_option maxRecDepth 20000 in
theorem ggX3_mend_X3_isTooth : GoodIn wsX3_mend wsX3_isTooth := goodIn_r _ [5, 6, 7, 4, 8] rfl (by decide +kernel)
set_option maxRecDepth 20000 in
theorem gX3_mend_X3_isTooth : GoodIn wsX3_mend (va_wsS RX3 37 yX3_isTooth wsX3_isTooth) := goodIn_app (goodIn_r _ [2, 3, 4] rfl (by decide +kernel)) ggX3_mend_X3_isTooth
set_option maxRecDepth 20000 in
theorem ggX3_mend_X3_holds : GoodIn wsX3_mend wsX3_holds := goodIn_r _ [12, 13, 27, 28, 29, 30, 31, 32, 33, 34, 35, 36, 37, 38, 39] rfl (by decide +kernel)
set_option maxRecDepth 20000 in
theorem gX3_mend_X3_holds : GoodIn wsX3_mend (wsV RX3 73 RX3 yX3_holds wsX3_holds) := goodIn_app (goodIn_r _ [9, 10, 11, 4] rfl (by decide +kernel)) ggX3_mend_X3_holds
set_option maxRecDepth 20000 in
theorem ggX3_mend_X3_of : GoodIn wsX3_mend wsX3_of := goodIn_r _ [16] rfl (by decide +kernel)
set_option maxRecDepth 20000 in
theorem gX3_mend_X3_of : GoodIn wsX3_mend (va_wsS RX3 86 yX3_of wsX3_of) := goodIn_app (goodIn_r _ [14, 15, 4] rfl (by decide +kernel)) ggX3_mend_X3_of
set_option maxRecDepth 20000 in
theorem ggX3_mend_X3_becomes : GoodIn wsX3_mend wsX3_becomes := goodIn_r _ [20, 1, 21, 22, 23, 4, 24, 25, 26, 27, 28, 29, 30, 31, 32, 33, 34, 35, 36, 37, 38, 39] rfl (by decide +kernel)
set_option maxRecDepth 20000 in
theorem gX3_mend_X3_becomes : GoodIn wsX3_mend (wsV RX3 104 RX3 yX3_becomes wsX3_becomes) := goodIn_app (goodIn_r _ [17, 18, 19, 4] rfl (by decide +kernel)) ggX3_mend_X3_becomes
theorem dX3_mend_0 : decode cX3_mend 0 = .ok (.aload_n 0, 1) := by decide +kernel
theorem dX3_mend_1 : decode cX3_mend 1 = .ok (.iload_n 1, 1) := by decide +kernel
theorem dX3_mend_2 : decode cX3_mend 2 = .ok (.invokestatic 37, 3) := by decide +kernel
theorem dX3_mend_5 : decode cX3_mend 5 = .ok (.ifCond .eq 7, 3) := by decide +kernel
theorem dX3_mend_8 : decode cX3_mend 8 = .ok (.iconst 0, 1) := by decide +kernel
theorem dX3_mend_9 : decode cX3_mend 9 = .ok (.goto 4, 3) := by decide +kernel
theorem dX3_mend_12 : decode cX3_mend 12 = .ok (.iconst 1, 1) := by decide +kernel
theorem dX3_mend_13 : decode cX3_mend 13 = .ok (.invokevirtual 73, 3) := by decide +kernel
theorem dX3_mend_16 : decode cX3_mend 16 = .ok (.ifCond .ne 5, 3) := by decide +kernel
theorem dX3_mend_19 : decode cX3_mend 19 = .ok (.iconst 0, 1) := by decide +kernel
theorem dX3_mend_20 : decode cX3_mend 20 = .ok (.ireturn, 1) := by decide +kernel
theorem dX3_mend_21 : decode cX3_mend 21 = .ok (.aload_n 0, 1) := by decide +kernel
theorem dX3_mend_22 : decode cX3_mend 22 = .ok (.iload_n 1, 1) := by decide +kernel
theorem dX3_mend_23 : decode cX3_mend 23 = .ok (.iconst 1, 1) := by decide +kernel
theorem dX3_mend_24 : decode cX3_mend 24 = .ok (.invokestatic 86, 3) := by decide +kernel
theorem dX3_mend_27 : decode cX3_mend 27 = .ok (.iconst 0, 1) := by decide +kernel
theorem dX3_mend_28 : decode cX3_mend 28 = .ok (.invokevirtual 104, 3) := by decide +kernel
theorem dX3_mend_31 : decode cX3_mend 31 = .ok (.istore_n 2, 1) := by decide +kernel
theorem dX3_mend_32 : decode cX3_mend 32 = .ok (.aload_n 0, 1) := by decide +kernel
theorem dX3_mend_33 : decode cX3_mend 33 = .ok (.getfield 7, 3) := by decide +kernel
theorem dX3_mend_36 : decode cX3_mend 36 = .ok (.iload_n 1, 1) := by decide +kernel
theorem dX3_mend_37 : decode cX3_mend 37 = .ok (.iconst 0, 1) := by decide +kernel
theorem dX3_mend_38 : decode cX3_mend 38 = .ok (.invokestatic 86, 3) := by decide +kernel
theorem dX3_mend_41 : decode cX3_mend 41 = .ok (.iconst 0, 1) := by decide +kernel
theorem dX3_mend_42 : decode cX3_mend 42 = .ok (.iastore, 1) := by decide +kernel
theorem dX3_mend_43 : decode cX3_mend 43 = .ok (.aload_n 0, 1) := by decide +kernel
theorem dX3_mend_44 : decode cX3_mend 44 = .ok (.getfield 7, 3) := by decide +kernel
theorem dX3_mend_47 : decode cX3_mend 47 = .ok (.iload_n 1, 1) := by decide +kernel
theorem dX3_mend_48 : decode cX3_mend 48 = .ok (.iconst 2, 1) := by decide +kernel
theorem dX3_mend_49 : decode cX3_mend 49 = .ok (.invokestatic 86, 3) := by decide +kernel
theorem dX3_mend_52 : decode cX3_mend 52 = .ok (.iconst 0, 1) := by decide +kernel
theorem dX3_mend_53 : decode cX3_mend 53 = .ok (.iastore, 1) := by decide +kernel
theorem dX3_mend_54 : decode cX3_mend 54 = .ok (.iload_n 2, 1) := by decide +kernel
theorem dX3_mend_55 : decode cX3_mend 55 = .ok (.ireturn, 1) := by decide +kernel
set_option maxRecDepth 20000 in
theorem ggX3_isValue_X3_in : GoodIn wsX3_isValue wsX3_in := goodIn_r _ [4] rfl (by decide +kernel)
set_option maxRecDepth 20000 in
theorem gX3_isValue_X3_in : GoodIn wsX3_isValue (va_wsS RX3 29 yX3_in wsX3_in) := goodIn_app (goodIn_r _ [1, 2, 3] rfl (by decide +kernel)) ggX3_isValue_X3_in
theorem dX3_isValue_0 : decode cX3_isValue 0 = .ok (.iload_n 0, 1) := by decide +kernel
theorem dX3_isValue_1 : decode cX3_isValue 1 = .ok (.tableswitch 62 0 3 #[31, 39, 47, 54], 31) := by decide +kernel
theorem dX3_isValue_32 : decode cX3_isValue 32 = .ok (.iload_n 1, 1) := by decide +kernel
theorem dX3_isValue_33 : decode cX3_isValue 33 = .ok (.iconst 4, 1) := by decide +kernel
theorem dX3_isValue_34 : decode cX3_isValue 34 = .ok (.bipush 90, 2) := by decide +kernel
theorem dX3_isValue_36 : decode cX3_isValue 36 = .ok (.invokestatic 29, 3) := by decide +kernel
theorem dX3_isValue_39 : decode cX3_isValue 39 = .ok (.ireturn, 1) := by decide +kernel
theorem dX3_isValue_40 : decode cX3_isValue 40 = .ok (.iload_n 1, 1) := by decide +kernel
theorem dX3_isValue_41 : decode cX3_isValue 41 = .ok (.iconst 0, 1) := by decide +kernel
theorem dX3_isValue_42 : decode cX3_isValue 42 = .ok (.bipush 20, 2) := by decide +kernel
theorem dX3_isValue_44 : decode cX3_isValue 44 = .ok (.invokestatic 29, 3) := by decide +kernel
theorem dX3_isValue_47 : decode cX3_isValue 47 = .ok (.ireturn, 1) := by decide +kernel
theorem dX3_isValue_48 : decode cX3_isValue 48 = .ok (.iload_n 1, 1) := by decide +kernel
theorem dX3_isValue_49 : decode cX3_isValue 49 = .ok (.iconst 0, 1) := by decide +kernel
theorem dX3_isValue_50 : decode cX3_isValue 50 = .ok (.iconst 1, 1) := by decide +kernel
theorem dX3_isValue_51 : decode cX3_isValue 51 = .ok (.invokestatic 29, 3) := by decide +kernel
theorem dX3_isValue_54 : decode cX3_isValue 54 = .ok (.ireturn, 1) := by decide +kernel
theorem dX3_isValue_55 : decode cX3_isValue 55 = .ok (.iload_n 1, 1) := by decide +kernel
theorem dX3_isValue_56 : decode cX3_isValue 56 = .ok (.iconst 1, 1) := by decide +kernel
theorem dX3_isValue_57 : decode cX3_isValue 57 = .ok (.bipush 8, 2) := by decide +kernel
theorem dX3_isValue_59 : decode cX3_isValue 59 = .ok (.invokestatic 29, 3) := by decide +kernel
theorem dX3_isValue_62 : decode cX3_isValue 62 = .ok (.ireturn, 1) := by decide +kernel
theorem dX3_isValue_63 : decode cX3_isValue 63 = .ok (.iload_n 1, 1) := by decide +kernel
theorem dX3_isValue_64 : decode cX3_isValue 64 = .ok (.iconst 1, 1) := by decide +kernel
theorem dX3_isValue_65 : decode cX3_isValue 65 = .ok (.bipush 12, 2) := by decide +kernel
theorem dX3_isValue_67 : decode cX3_isValue 67 = .ok (.invokestatic 29, 3) := by decide +kernel
theorem dX3_isValue_70 : decode cX3_isValue 70 = .ok (.ireturn, 1) := by decide +kernel
set_option maxRecDepth 20000 in
theorem ggX3_set_X3_in : GoodIn wsX3_set wsX3_in := goodIn_r _ [4] rfl (by decide +kernel)
set_option maxRecDepth 20000 in
theorem gX3_set_X3_in : GoodIn wsX3_set (va_wsS RX3 29 yX3_in wsX3_in) := goodIn_app (goodIn_r _ [1, 2, 3] rfl (by decide +kernel)) ggX3_set_X3_in
set_option maxRecDepth 20000 in
theorem ggX3_set_X3_isValue : GoodIn wsX3_set wsX3_isValue := goodIn_r _ [7, 1, 2, 3, 4] rfl (by decide +kernel)
set_option maxRecDepth 20000 in
theorem gX3_set_X3_isValue : GoodIn wsX3_set (va_wsS RX3 110 yX3_isValue wsX3_isValue) := goodIn_app (goodIn_r _ [5, 6, 3] rfl (by decide +kernel)) ggX3_set_X3_isValue
set_option maxRecDepth 20000 in
theorem ggX3_set_X3_holds : GoodIn wsX3_set wsX3_holds := goodIn_r _ [11, 12, 24, 25, 26, 27, 28, 29, 30, 31, 32, 33, 34, 35, 36] rfl (by decide +kernel)
set_option maxRecDepth 20000 in
theorem gX3_set_X3_holds : GoodIn wsX3_set (wsV RX3 73 RX3 yX3_holds wsX3_holds) := goodIn_app (goodIn_r _ [8, 9, 10, 3] rfl (by decide +kernel)) ggX3_set_X3_holds
set_option maxRecDepth 20000 in
theorem ggX3_set_X3_becomes : GoodIn wsX3_set wsX3_becomes := goodIn_r _ [16, 17, 18, 19, 20, 3, 21, 22, 23, 24, 25, 26, 27, 28, 29, 30, 31, 32, 33, 34, 35, 36] rfl (by decide +kernel)
set_option maxRecDepth 20000 in
theorem gX3_set_X3_becomes : GoodIn wsX3_set (wsV RX3 104 RX3 yX3_becomes wsX3_becomes) := goodIn_app (goodIn_r _ [13, 14, 15, 3] rfl (by decide +kernel)) ggX3_set_X3_becomes
theorem dX3_set_0 : decode cX3_set 0 = .ok (.aload_n 0, 1) := by decide +kernel
theorem dX3_set_1 : decode cX3_set 1 = .ok (.iload_n 1, 1) := by decide +kernel
theorem dX3_set_2 : decode cX3_set 2 = .ok (.iconst 0, 1) := by decide +kernel
theorem dX3_set_3 : decode cX3_set 3 = .ok (.iconst 4, 1) := by decide +kernel
theorem dX3_set_4 : decode cX3_set 4 = .ok (.invokestatic 29, 3) := by decide +kernel
theorem dX3_set_7 : decode cX3_set 7 = .ok (.ifCond .ne 7, 3) := by decide +kernel
theorem dX3_set_10 : decode cX3_set 10 = .ok (.iconst 1, 1) := by decide +kernel
theorem dX3_set_11 : decode cX3_set 11 = .ok (.goto 16, 3) := by decide +kernel
theorem dX3_set_14 : decode cX3_set 14 = .ok (.iload_n 1, 1) := by decide +kernel
theorem dX3_set_15 : decode cX3_set 15 = .ok (.iload_n 2, 1) := by decide +kernel
theorem dX3_set_16 : decode cX3_set 16 = .ok (.invokestatic 110, 3) := by decide +kernel
theorem dX3_set_19 : decode cX3_set 19 = .ok (.ifCond .eq 7, 3) := by decide +kernel
theorem dX3_set_22 : decode cX3_set 22 = .ok (.iconst 0, 1) := by decide +kernel
theorem dX3_set_23 : decode cX3_set 23 = .ok (.goto 4, 3) := by decide +kernel
theorem dX3_set_26 : decode cX3_set 26 = .ok (.iconst 2, 1) := by decide +kernel
theorem dX3_set_27 : decode cX3_set 27 = .ok (.invokevirtual 73, 3) := by decide +kernel
theorem dX3_set_30 : decode cX3_set 30 = .ok (.ifCond .eq 16, 3) := by decide +kernel
theorem dX3_set_33 : decode cX3_set 33 = .ok (.aload_n 0, 1) := by decide +kernel
theorem dX3_set_34 : decode cX3_set 34 = .ok (.sipush 142, 3) := by decide +kernel
theorem dX3_set_37 : decode cX3_set 37 = .ok (.iload_n 1, 1) := by decide +kernel
theorem dX3_set_38 : decode cX3_set 38 = .ok (.iadd, 1) := by decide +kernel
theorem dX3_set_39 : decode cX3_set 39 = .ok (.iload_n 2, 1) := by decide +kernel
theorem dX3_set_40 : decode cX3_set 40 = .ok (.invokevirtual 104, 3) := by decide +kernel
theorem dX3_set_43 : decode cX3_set 43 = .ok (.goto 4, 3) := by decide +kernel
theorem dX3_set_46 : decode cX3_set 46 = .ok (.iconst 0, 1) := by decide +kernel
theorem dX3_set_47 : decode cX3_set 47 = .ok (.ireturn, 1) := by decide +kernel
set_option maxRecDepth 20000 in
theorem ggX3_append_X3_in : GoodIn wsX3_append wsX3_in := goodIn_r _ [6] rfl (by decide +kernel)
set_option maxRecDepth 20000 in
theorem gX3_append_X3_in : GoodIn wsX3_append (va_wsS RX3 29 yX3_in wsX3_in) := goodIn_app (goodIn_r _ [3, 4, 5] rfl (by decide +kernel)) ggX3_append_X3_in
set_option maxRecDepth 20000 in
theorem ggX3_append_X3_holds : GoodIn wsX3_append wsX3_holds := goodIn_r _ [10, 11, 12, 13, 14, 15, 16, 17, 18, 19, 20, 21, 22, 23, 24] rfl (by decide +kernel)
set_option maxRecDepth 20000 in
theorem gX3_append_X3_holds : GoodIn wsX3_append (wsV RX3 73 RX3 yX3_holds wsX3_holds) := goodIn_app (goodIn_r _ [7, 8, 9, 5] rfl (by decide +kernel)) ggX3_append_X3_holds
theorem dX3_append_0 : decode cX3_append 0 = .ok (.aload_n 0, 1) := by decide +kernel
theorem dX3_append_1 : decode cX3_append 1 = .ok (.iload_n 1, 1) := by decide +kernel
theorem dX3_append_2 : decode cX3_append 2 = .ok (.bipush 33, 2) := by decide +kernel
theorem dX3_append_4 : decode cX3_append 4 = .ok (.bipush 126, 2) := by decide +kernel
theorem dX3_append_6 : decode cX3_append 6 = .ok (.invokestatic 29, 3) := by decide +kernel
theorem dX3_append_9 : decode cX3_append 9 = .ok (.ifCond .ne 7, 3) := by decide +kernel
theorem dX3_append_12 : decode cX3_append 12 = .ok (.iconst 1, 1) := by decide +kernel
theorem dX3_append_13 : decode cX3_append 13 = .ok (.goto 17, 3) := by decide +kernel
theorem dX3_append_16 : decode cX3_append 16 = .ok (.aload_n 0, 1) := by decide +kernel
theorem dX3_append_17 : decode cX3_append 17 = .ok (.getfield 114, 3) := by decide +kernel
theorem dX3_append_20 : decode cX3_append 20 = .ok (.bipush 60, 2) := by decide +kernel
theorem dX3_append_22 : decode cX3_append 22 = .ok (.if_icmp .ne 7, 3) := by decide +kernel
theorem dX3_append_25 : decode cX3_append 25 = .ok (.iconst 2, 1) := by decide +kernel
theorem dX3_append_26 : decode cX3_append 26 = .ok (.goto 4, 3) := by decide +kernel
theorem dX3_append_29 : decode cX3_append 29 = .ok (.iconst 0, 1) := by decide +kernel
theorem dX3_append_30 : decode cX3_append 30 = .ok (.invokevirtual 73, 3) := by decide +kernel
theorem dX3_append_33 : decode cX3_append 33 = .ok (.ifCond .ne 5, 3) := by decide +kernel
theorem dX3_append_36 : decode cX3_append 36 = .ok (.iconst 0, 1) := by decide +kernel
theorem dX3_append_37 : decode cX3_append 37 = .ok (.ireturn, 1) := by decide +kernel
theorem dX3_append_38 : decode cX3_append 38 = .ok (.aload_n 0, 1) := by decide +kernel
theorem dX3_append_39 : decode cX3_append 39 = .ok (.getfield 22, 3) := by decide +kernel
theorem dX3_append_42 : decode cX3_append 42 = .ok (.aload_n 0, 1) := by decide +kernel
theorem dX3_append_43 : decode cX3_append 43 = .ok (.getfield 114, 3) := by decide +kernel
theorem dX3_append_46 : decode cX3_append 46 = .ok (.iload_n 1, 1) := by decide +kernel
theorem dX3_append_47 : decode cX3_append 47 = .ok (.iastore, 1) := by decide +kernel
theorem dX3_append_48 : decode cX3_append 48 = .ok (.aload_n 0, 1) := by decide +kernel
theorem dX3_append_49 : decode cX3_append 49 = .ok (.dup, 1) := by decide +kernel
theorem dX3_append_50 : decode cX3_append 50 = .ok (.getfield 114, 3) := by decide +kernel
theorem dX3_append_53 : decode cX3_append 53 = .ok (.iconst 1, 1) := by decide +kernel
theorem dX3_append_54 : decode cX3_append 54 = .ok (.iadd, 1) := by decide +kernel
theorem dX3_append_55 : decode cX3_append 55 = .ok (.putfield 114, 3) := by decide +kernel
theorem dX3_append_58 : decode cX3_append 58 = .ok (.aload_n 0, 1) := by decide +kernel
theorem dX3_append_59 : decode cX3_append 59 = .ok (.getfield 114, 3) := by decide +kernel
theorem dX3_append_62 : decode cX3_append 62 = .ok (.ireturn, 1) := by decide +kernel
theorem dX3_clearBuffer_0 : decode cX3_clearBuffer 0 = .ok (.aload_n 0, 1) := by decide +kernel
theorem dX3_clearBuffer_1 : decode cX3_clearBuffer 1 = .ok (.iconst 0, 1) := by decide +kernel
theorem dX3_clearBuffer_2 : decode cX3_clearBuffer 2 = .ok (.putfield 25, 3) := by decide +kernel
theorem dX3_clearBuffer_5 : decode cX3_clearBuffer 5 = .ok (.aload_n 0, 1) := by decide +kernel
theorem dX3_clearBuffer_6 : decode cX3_clearBuffer 6 = .ok (.getfield 114, 3) := by decide +kernel
theorem dX3_clearBuffer_9 : decode cX3_clearBuffer 9 = .ok (.istore_n 1, 1) := by decide +kernel
theorem dX3_clearBuffer_10 : decode cX3_clearBuffer 10 = .ok (.aload_n 0, 1) := by decide +kernel
theorem dX3_clearBuffer_11 : decode cX3_clearBuffer 11 = .ok (.iconst 0, 1) := by decide +kernel
theorem dX3_clearBuffer_12 : decode cX3_clearBuffer 12 = .ok (.putfield 114, 3) := by decide +kernel
theorem dX3_clearBuffer_15 : decode cX3_clearBuffer 15 = .ok (.iload_n 1, 1) := by decide +kernel
theorem dX3_clearBuffer_16 : decode cX3_clearBuffer 16 = .ok (.ireturn, 1) := by decide +kernel
set_option maxRecDepth 20000 in
theorem ggX3_isNext_X3_in : GoodIn wsX3_isNext wsX3_in := goodIn_r _ [8] rfl (by decide +kernel)
set_option maxRecDepth 20000 in
theorem gX3_isNext_X3_in : GoodIn wsX3_isNext (va_wsS RX3 29 yX3_in wsX3_in) := goodIn_app (goodIn_r _ [5, 6, 7] rfl (by decide +kernel)) ggX3_isNext_X3_in
theorem dX3_isNext_0 : decode cX3_isNext 0 = .ok (.aload_n 0, 1) := by decide +kernel
theorem dX3_isNext_1 : decode cX3_isNext 1 = .ok (.getfield 117, 3) := by decide +kernel
theorem dX3_isNext_4 : decode cX3_isNext 4 = .ok (.ifCond .ne 35, 3) := by decide +kernel
theorem dX3_isNext_7 : decode cX3_isNext 7 = .ok (.aload_n 0, 1) := by decide +kernel
theorem dX3_isNext_8 : decode cX3_isNext 8 = .ok (.getfield 121, 3) := by decide +kernel
theorem dX3_isNext_11 : decode cX3_isNext 11 = .ok (.aload_n 0, 1) := by decide +kernel
theorem dX3_isNext_12 : decode cX3_isNext 12 = .ok (.getfield 114, 3) := by decide +kernel
theorem dX3_isNext_15 : decode cX3_isNext 15 = .ok (.if_icmp .ge 24, 3) := by decide +kernel
theorem dX3_isNext_18 : decode cX3_isNext 18 = .ok (.aload_n 0, 1) := by decide +kernel
theorem dX3_isNext_19 : decode cX3_isNext 19 = .ok (.getfield 22, 3) := by decide +kernel
theorem dX3_isNext_22 : decode cX3_isNext 22 = .ok (.aload_n 0, 1) := by decide +kernel
theorem dX3_isNext_23 : decode cX3_isNext 23 = .ok (.getfield 121, 3) := by decide +kernel
theorem dX3_isNext_26 : decode cX3_isNext 26 = .ok (.iaload, 1) := by decide +kernel
theorem dX3_isNext_27 : decode cX3_isNext 27 = .ok (.iload_n 1, 1) := by decide +kernel
theorem dX3_isNext_28 : decode cX3_isNext 28 = .ok (.iload_n 2, 1) := by decide +kernel
theorem dX3_isNext_29 : decode cX3_isNext 29 = .ok (.invokestatic 29, 3) := by decide +kernel
theorem dX3_isNext_32 : decode cX3_isNext 32 = .ok (.ifCond .eq 7, 3) := by decide +kernel
theorem dX3_isNext_35 : decode cX3_isNext 35 = .ok (.iconst 1, 1) := by decide +kernel
theorem dX3_isNext_36 : decode cX3_isNext 36 = .ok (.goto 4, 3) := by decide +kernel
theorem dX3_isNext_39 : decode cX3_isNext 39 = .ok (.iconst 0, 1) := by decide +kernel
theorem dX3_isNext_40 : decode cX3_isNext 40 = .ok (.ireturn, 1) := by decide +kernel
set_option maxRecDepth 20000 in
theorem ggX3_takes_X3_isNext : GoodIn wsX3_takes wsX3_isNext := goodIn_r _ [8, 3, 2, 9, 1, 10, 11, 7, 12, 13, 14, 15, 16, 17, 18, 19, 20, 21, 22, 23, 24, 25] rfl (by decide +kernel)
set_option maxRecDepth 20000 in
theorem gX3_takes_X3_isNext : GoodIn wsX3_takes (wsV RX3 124 RX3 yX3_isNext wsX3_isNext) := goodIn_app (goodIn_r _ [4, 5, 6, 7] rfl (by decide +kernel)) ggX3_takes_X3_isNext
theorem dX3_takes_0 : decode cX3_takes 0 = .ok (.aload_n 0, 1) := by decide +kernel
theorem dX3_takes_1 : decode cX3_takes 1 = .ok (.iload_n 1, 1) := by decide +kernel
theorem dX3_takes_2 : decode cX3_takes 2 = .ok (.iload_n 2, 1) := by decide +kernel
theorem dX3_takes_3 : decode cX3_takes 3 = .ok (.invokevirtual 124, 3) := by decide +kernel
theorem dX3_takes_6 : decode cX3_takes 6 = .ok (.istore_n 3, 1) := by decide +kernel
theorem dX3_takes_7 : decode cX3_takes 7 = .ok (.iload_n 3, 1) := by decide +kernel
theorem dX3_takes_8 : decode cX3_takes 8 = .ok (.ifCond .eq 17, 3) := by decide +kernel
theorem dX3_takes_11 : decode cX3_takes 11 = .ok (.aload_n 0, 1) := by decide +kernel
theorem dX3_takes_12 : decode cX3_takes 12 = .ok (.getfield 22, 3) := by decide +kernel
theorem dX3_takes_15 : decode cX3_takes 15 = .ok (.aload_n 0, 1) := by decide +kernel
theorem dX3_takes_16 : decode cX3_takes 16 = .ok (.getfield 121, 3) := by decide +kernel
theorem dX3_takes_19 : decode cX3_takes 19 = .ok (.iaload, 1) := by decide +kernel
theorem dX3_takes_20 : decode cX3_takes 20 = .ok (.iload_n 1, 1) := by decide +kernel
theorem dX3_takes_21 : decode cX3_takes 21 = .ok (.isub, 1) := by decide +kernel
theorem dX3_takes_22 : decode cX3_takes 22 = .ok (.goto 4, 3) := by decide +kernel
theorem dX3_takes_25 : decode cX3_takes 25 = .ok (.iconst 0, 1) := by decide +kernel
theorem dX3_takes_26 : decode cX3_takes 26 = .ok (.istore 4, 2) := by decide +kernel
theorem dX3_takes_28 : decode cX3_takes 28 = .ok (.aload_n 0, 1) := by decide +kernel
theorem dX3_takes_29 : decode cX3_takes 29 = .ok (.dup, 1) := by decide +kernel
theorem dX3_takes_30 : decode cX3_takes 30 = .ok (.getfield 121, 3) := by decide +kernel
theorem dX3_takes_33 : decode cX3_takes 33 = .ok (.iload_n 3, 1) := by decide +kernel
theorem dX3_takes_34 : decode cX3_takes 34 = .ok (.ifCond .eq 7, 3) := by decide +kernel
theorem dX3_takes_37 : decode cX3_takes 37 = .ok (.iconst 1, 1) := by decide +kernel
theorem dX3_takes_38 : decode cX3_takes 38 = .ok (.goto 4, 3) := by decide +kernel
theorem dX3_takes_41 : decode cX3_takes 41 = .ok (.iconst 0, 1) := by decide +kernel
theorem dX3_takes_42 : decode cX3_takes 42 = .ok (.iadd, 1) := by decide +kernel
theorem dX3_takes_43 : decode cX3_takes 43 = .ok (.putfield 121, 3) := by decide +kernel
theorem dX3_takes_46 : decode cX3_takes 46 = .ok (.aload_n 0, 1) := by decide +kernel
theorem dX3_takes_47 : decode cX3_takes 47 = .ok (.aload_n 0, 1) := by decide +kernel
theorem dX3_takes_48 : decode cX3_takes 48 = .ok (.getfield 117, 3) := by decide +kernel
theorem dX3_takes_51 : decode cX3_takes 51 = .ok (.ifCond .ne 7, 3) := by decide +kernel
theorem dX3_takes_54 : decode cX3_takes 54 = .ok (.iload_n 3, 1) := by decide +kernel
theorem dX3_takes_55 : decode cX3_takes 55 = .ok (.ifCond .ne 7, 3) := by decide +kernel
theorem dX3_takes_58 : decode cX3_takes 58 = .ok (.iconst 1, 1) := by decide +kernel
theorem dX3_takes_59 : decode cX3_takes 59 = .ok (.goto 4, 3) := by decide +kernel
theorem dX3_takes_62 : decode cX3_takes 62 = .ok (.iconst 0, 1) := by decide +kernel
theorem dX3_takes_63 : decode cX3_takes 63 = .ok (.putfield 117, 3) := by decide +kernel
theorem dX3_takes_66 : decode cX3_takes 66 = .ok (.iload 4, 2) := by decide +kernel
theorem dX3_takes_68 : decode cX3_takes 68 = .ok (.ireturn, 1) := by decide +kernel
set_option maxRecDepth 20000 in
theorem ggX3_begins_X3_in : GoodIn wsX3_begins wsX3_in := goodIn_r _ [4] rfl (by decide +kernel)
set_option maxRecDepth 20000 in
theorem gX3_begins_X3_in : GoodIn wsX3_begins (va_wsS RX3 29 yX3_in wsX3_in) := goodIn_app (goodIn_r _ [1, 2, 3] rfl (by decide +kernel)) ggX3_begins_X3_in
theorem dX3_begins_0 : decode cX3_begins 0 = .ok (.iload_n 0, 1) := by decide +kernel
theorem dX3_begins_1 : decode cX3_begins 1 = .ok (.iload_n 1, 1) := by decide +kernel
theorem dX3_begins_2 : decode cX3_begins 2 = .ok (.iload_n 2, 1) := by decide +kernel
theorem dX3_begins_3 : decode cX3_begins 3 = .ok (.invokestatic 29, 3) := by decide +kernel
theorem dX3_begins_6 : decode cX3_begins 6 = .ok (.ifCond .ne 26, 3) := by decide +kernel
theorem dX3_begins_9 : decode cX3_begins 9 = .ok (.iload_n 0, 1) := by decide +kernel
theorem dX3_begins_10 : decode cX3_begins 10 = .ok (.ifCond .le 26, 3) := by decide +kernel
theorem dX3_begins_13 : decode cX3_begins 13 = .ok (.bipush 10, 2) := by decide +kernel
theorem dX3_begins_15 : decode cX3_begins 15 = .ok (.iload_n 0, 1) := by decide +kernel
theorem dX3_begins_16 : decode cX3_begins 16 = .ok (.imul, 1) := by decide +kernel
theorem dX3_begins_17 : decode cX3_begins 17 = .ok (.iload_n 2, 1) := by decide +kernel
theorem dX3_begins_18 : decode cX3_begins 18 = .ok (.if_icmp .gt 18, 3) := by decide +kernel
theorem dX3_begins_21 : decode cX3_begins 21 = .ok (.bipush 10, 2) := by decide +kernel
theorem dX3_begins_23 : decode cX3_begins 23 = .ok (.iload_n 0, 1) := by decide +kernel
theorem dX3_begins_24 : decode cX3_begins 24 = .ok (.imul, 1) := by decide +kernel
theorem dX3_begins_25 : decode cX3_begins 25 = .ok (.bipush 9, 2) := by decide +kernel
theorem dX3_begins_27 : decode cX3_begins 27 = .ok (.iadd, 1) := by decide +kernel
theorem dX3_begins_28 : decode cX3_begins 28 = .ok (.iload_n 1, 1) := by decide +kernel
theorem dX3_begins_29 : decode cX3_begins 29 = .ok (.if_icmp .lt 7, 3) := by decide +kernel
theorem dX3_begins_32 : decode cX3_begins 32 = .ok (.iconst 1, 1) := by decide +kernel
theorem dX3_begins_33 : decode cX3_begins 33 = .ok (.goto 4, 3) := by decide +kernel
theorem dX3_begins_36 : decode cX3_begins 36 = .ok (.iconst 0, 1) := by decide +kernel
theorem dX3_begins_37 : decode cX3_begins 37 = .ok (.ireturn, 1) := by decide +kernel
set_option maxRecDepth 20000 in
theorem ggX3_number_X3_isNext : GoodIn wsX3_number wsX3_isNext := goodIn_r _ [8, 3, 2, 9, 1, 10, 11, 7, 12, 16, 17, 18, 19, 20, 21, 22, 23, 24, 25, 26, 27, 28] rfl (by decide +kernel)
set_option maxRecDepth 20000 in
theorem gX3_number_X3_isNext : GoodIn wsX3_number (wsV RX3 124 RX3 yX3_isNext wsX3_isNext) := goodIn_app (goodIn_r _ [4, 5, 6, 7] rfl (by decide +kernel)) ggX3_number_X3_isNext
set_option maxRecDepth 20000 in
theorem ggX3_number_X3_begins : GoodIn wsX3_number wsX3_begins := goodIn_r _ [15, 10, 11, 7, 12] rfl (by decide +kernel)
set_option maxRecDepth 20000 in
theorem gX3_number_X3_begins : GoodIn wsX3_number (va_wsS RX3 127 yX3_begins wsX3_begins) := goodIn_app (goodIn_r _ [13, 14, 7] rfl (by decide +kernel)) ggX3_number_X3_begins
set_option maxRecDepth 20000 in
theorem ggX3_number_X3_in : GoodIn wsX3_number wsX3_in := goodIn_r _ [12] rfl (by decide +kernel)
set_option maxRecDepth 20000 in
theorem gX3_number_X3_in : GoodIn wsX3_number (va_wsS RX3 29 yX3_in wsX3_in) := goodIn_app (goodIn_r _ [10, 11, 7] rfl (by decide +kernel)) ggX3_number_X3_in
theorem dX3_number_0 : decode cX3_number 0 = .ok (.aload_n 0, 1) := by decide +kernel
theorem dX3_number_1 : decode cX3_number 1 = .ok (.bipush 48, 2) := by decide +kernel
theorem dX3_number_3 : decode cX3_number 3 = .ok (.bipush 57, 2) := by decide +kernel
theorem dX3_number_5 : decode cX3_number 5 = .ok (.invokevirtual 124, 3) := by decide +kernel
theorem dX3_number_8 : decode cX3_number 8 = .ok (.ifCond .eq 18, 3) := by decide +kernel
theorem dX3_number_11 : decode cX3_number 11 = .ok (.aload_n 0, 1) := by decide +kernel
theorem dX3_number_12 : decode cX3_number 12 = .ok (.getfield 22, 3) := by decide +kernel
theorem dX3_number_15 : decode cX3_number 15 = .ok (.aload_n 0, 1) := by decide +kernel
theorem dX3_number_16 : decode cX3_number 16 = .ok (.getfield 121, 3) := by decide +kernel
theorem dX3_number_19 : decode cX3_number 19 = .ok (.iaload, 1) := by decide +kernel
theorem dX3_number_20 : decode cX3_number 20 = .ok (.bipush 48, 2) := by decide +kernel
theorem dX3_number_22 : decode cX3_number 22 = .ok (.isub, 1) := by decide +kernel
theorem dX3_number_23 : decode cX3_number 23 = .ok (.goto 4, 3) := by decide +kernel
theorem dX3_number_26 : decode cX3_number 26 = .ok (.iconst (-1), 1) := by decide +kernel
theorem dX3_number_27 : decode cX3_number 27 = .ok (.istore_n 3, 1) := by decide +kernel
theorem dX3_number_28 : decode cX3_number 28 = .ok (.aload_n 0, 1) := by decide +kernel
theorem dX3_number_29 : decode cX3_number 29 = .ok (.aload_n 0, 1) := by decide +kernel
theorem dX3_number_30 : decode cX3_number 30 = .ok (.getfield 117, 3) := by decide +kernel
theorem dX3_number_33 : decode cX3_number 33 = .ok (.ifCond .ne 12, 3) := by decide +kernel
theorem dX3_number_36 : decode cX3_number 36 = .ok (.iload_n 3, 1) := by decide +kernel
theorem dX3_number_37 : decode cX3_number 37 = .ok (.iload_n 1, 1) := by decide +kernel
theorem dX3_number_38 : decode cX3_number 38 = .ok (.iload_n 2, 1) := by decide +kernel
theorem dX3_number_39 : decode cX3_number 39 = .ok (.invokestatic 127, 3) := by decide +kernel
theorem dX3_number_42 : decode cX3_number 42 = .ok (.ifCond .ne 7, 3) := by decide +kernel
theorem dX3_number_45 : decode cX3_number 45 = .ok (.iconst 1, 1) := by decide +kernel
theorem dX3_number_46 : decode cX3_number 46 = .ok (.goto 4, 3) := by decide +kernel
theorem dX3_number_49 : decode cX3_number 49 = .ok (.iconst 0, 1) := by decide +kernel
theorem dX3_number_50 : decode cX3_number 50 = .ok (.putfield 117, 3) := by decide +kernel
theorem dX3_number_53 : decode cX3_number 53 = .ok (.aload_n 0, 1) := by decide +kernel
theorem dX3_number_54 : decode cX3_number 54 = .ok (.dup, 1) := by decide +kernel
theorem dX3_number_55 : decode cX3_number 55 = .ok (.getfield 121, 3) := by decide +kernel
theorem dX3_number_58 : decode cX3_number 58 = .ok (.aload_n 0, 1) := by decide +kernel
theorem dX3_number_59 : decode cX3_number 59 = .ok (.getfield 117, 3) := by decide +kernel
theorem dX3_number_62 : decode cX3_number 62 = .ok (.ifCond .eq 7, 3) := by decide +kernel
theorem dX3_number_65 : decode cX3_number 65 = .ok (.iconst 0, 1) := by decide +kernel
theorem dX3_number_66 : decode cX3_number 66 = .ok (.goto 4, 3) := by decide +kernel
theorem dX3_number_69 : decode cX3_number 69 = .ok (.iconst 1, 1) := by decide +kernel
theorem dX3_number_70 : decode cX3_number 70 = .ok (.iadd, 1) := by decide +kernel
theorem dX3_number_71 : decode cX3_number 71 = .ok (.putfield 121, 3) := by decide +kernel
theorem dX3_number_74 : decode cX3_number 74 = .ok (.iload_n 3, 1) := by decide +kernel
theorem dX3_number_75 : decode cX3_number 75 = .ok (.ifCond .le 67, 3) := by decide +kernel
theorem dX3_number_78 : decode cX3_number 78 = .ok (.aload_n 0, 1) := by decide +kernel
theorem dX3_number_79 : decode cX3_number 79 = .ok (.bipush 48, 2) := by decide +kernel
theorem dX3_number_81 : decode cX3_number 81 = .ok (.bipush 57, 2) := by decide +kernel
theorem dX3_number_83 : decode cX3_number 83 = .ok (.invokevirtual 124, 3) := by decide +kernel
theorem dX3_number_86 : decode cX3_number 86 = .ok (.ifCond .eq 56, 3) := by decide +kernel
theorem dX3_number_89 : decode cX3_number 89 = .ok (.bipush 10, 2) := by decide +kernel
theorem dX3_number_91 : decode cX3_number 91 = .ok (.iload_n 3, 1) := by decide +kernel
theorem dX3_number_92 : decode cX3_number 92 = .ok (.imul, 1) := by decide +kernel
theorem dX3_number_93 : decode cX3_number 93 = .ok (.aload_n 0, 1) := by decide +kernel
theorem dX3_number_94 : decode cX3_number 94 = .ok (.getfield 22, 3) := by decide +kernel
theorem dX3_number_97 : decode cX3_number 97 = .ok (.aload_n 0, 1) := by decide +kernel
theorem dX3_number_98 : decode cX3_number 98 = .ok (.getfield 121, 3) := by decide +kernel
theorem dX3_number_101 : decode cX3_number 101 = .ok (.iaload, 1) := by decide +kernel
theorem dX3_number_102 : decode cX3_number 102 = .ok (.iadd, 1) := by decide +kernel
theorem dX3_number_103 : decode cX3_number 103 = .ok (.bipush 48, 2) := by decide +kernel
theorem dX3_number_105 : decode cX3_number 105 = .ok (.isub, 1) := by decide +kernel
theorem dX3_number_106 : decode cX3_number 106 = .ok (.iload_n 1, 1) := by decide +kernel
theorem dX3_number_107 : decode cX3_number 107 = .ok (.iload_n 2, 1) := by decide +kernel
theorem dX3_number_108 : decode cX3_number 108 = .ok (.invokestatic 29, 3) := by decide +kernel
theorem dX3_number_111 : decode cX3_number 111 = .ok (.ifCond .eq 31, 3) := by decide +kernel
theorem dX3_number_114 : decode cX3_number 114 = .ok (.bipush 10, 2) := by decide +kernel
theorem dX3_number_116 : decode cX3_number 116 = .ok (.iload_n 3, 1) := by decide +kernel
theorem dX3_number_117 : decode cX3_number 117 = .ok (.imul, 1) := by decide +kernel
theorem dX3_number_118 : decode cX3_number 118 = .ok (.aload_n 0, 1) := by decide +kernel
theorem dX3_number_119 : decode cX3_number 119 = .ok (.getfield 22, 3) := by decide +kernel
theorem dX3_number_122 : decode cX3_number 122 = .ok (.aload_n 0, 1) := by decide +kernel
theorem dX3_number_123 : decode cX3_number 123 = .ok (.getfield 121, 3) := by decide +kernel
theorem dX3_number_126 : decode cX3_number 126 = .ok (.iaload, 1) := by decide +kernel
theorem dX3_number_127 : decode cX3_number 127 = .ok (.iadd, 1) := by decide +kernel
theorem dX3_number_128 : decode cX3_number 128 = .ok (.bipush 48, 2) := by decide +kernel
theorem dX3_number_130 : decode cX3_number 130 = .ok (.isub, 1) := by decide +kernel
theorem dX3_number_131 : decode cX3_number 131 = .ok (.istore_n 3, 1) := by decide +kernel
theorem dX3_number_132 : decode cX3_number 132 = .ok (.aload_n 0, 1) := by decide +kernel
theorem dX3_number_133 : decode cX3_number 133 = .ok (.dup, 1) := by decide +kernel
theorem dX3_number_134 : decode cX3_number 134 = .ok (.getfield 121, 3) := by decide +kernel
theorem dX3_number_137 : decode cX3_number 137 = .ok (.iconst 1, 1) := by decide +kernel
theorem dX3_number_138 : decode cX3_number 138 = .ok (.iadd, 1) := by decide +kernel
theorem dX3_number_139 : decode cX3_number 139 = .ok (.putfield 121, 3) := by decide +kernel
theorem dX3_number_142 : decode cX3_number 142 = .ok (.aload_n 0, 1) := by decide +kernel
theorem dX3_number_143 : decode cX3_number 143 = .ok (.aload_n 0, 1) := by decide +kernel
theorem dX3_number_144 : decode cX3_number 144 = .ok (.getfield 117, 3) := by decide +kernel
theorem dX3_number_147 : decode cX3_number 147 = .ok (.ifCond .ne 12, 3) := by decide +kernel
theorem dX3_number_150 : decode cX3_number 150 = .ok (.iload_n 3, 1) := by decide +kernel
theorem dX3_number_151 : decode cX3_number 151 = .ok (.iload_n 1, 1) := by decide +kernel
theorem dX3_number_152 : decode cX3_number 152 = .ok (.iload_n 2, 1) := by decide +kernel
theorem dX3_number_153 : decode cX3_number 153 = .ok (.invokestatic 29, 3) := by decide +kernel
theorem dX3_number_156 : decode cX3_number 156 = .ok (.ifCond .ne 7, 3) := by decide +kernel
theorem dX3_number_159 : decode cX3_number 159 = .ok (.iconst 1, 1) := by decide +kernel
theorem dX3_number_160 : decode cX3_number 160 = .ok (.goto 4, 3) := by decide +kernel
theorem dX3_number_163 : decode cX3_number 163 = .ok (.iconst 0, 1) := by decide +kernel
theorem dX3_number_164 : decode cX3_number 164 = .ok (.putfield 117, 3) := by decide +kernel
theorem dX3_number_167 : decode cX3_number 167 = .ok (.iload_n 3, 1) := by decide +kernel
theorem dX3_number_168 : decode cX3_number 168 = .ok (.ireturn, 1) := by decide +kernel
set_option maxRecDepth 20000 in
theorem ggX3_readSteps_X3_number : GoodIn wsX3_readSteps wsX3_number := goodIn_r _ [8, 9, 1, 10, 11, 12, 13, 7, 14, 15, 16, 17, 18, 19, 20, 21, 44, 45, 46, 47, 48, 49, 50, 51, 52, 53, 54, 55, 56] rfl (by decide +kernel)
set_option maxRecDepth 20000 in
theorem gX3_readSteps_X3_number : GoodIn wsX3_readSteps (wsV RX3 130 RX3 yX3_number wsX3_number) := goodIn_app (goodIn_r _ [4, 5, 6, 7] rfl (by decide +kernel)) ggX3_readSteps_X3_number
set_option maxRecDepth 20000 in
theorem ggX3_readSteps_X3_isNext : GoodIn wsX3_readSteps wsX3_isNext := goodIn_r _ [14, 10, 1, 15, 9, 16, 17, 7, 18, 44, 45, 46, 47, 48, 49, 50, 51, 52, 53, 54, 55, 56] rfl (by decide +kernel)
set_option maxRecDepth 20000 in
theorem gX3_readSteps_X3_isNext : GoodIn wsX3_readSteps (wsV RX3 124 RX3 yX3_isNext wsX3_isNext) := goodIn_app (goodIn_r _ [11, 12, 13, 7] rfl (by decide +kernel)) ggX3_readSteps_X3_isNext
set_option maxRecDepth 20000 in
theorem ggX3_readSteps_X3_hindrance : GoodIn wsX3_readSteps wsX3_hindrance := goodIn_r _ [25, 2, 26, 27, 28, 7, 29, 30, 31, 32, 33, 34, 35, 36, 37, 38, 39, 40, 41, 42, 43, 44, 45, 46, 47, 48, 49, 50, 51, 52, 53, 54, 55, 56] rfl (by decide +kernel)
set_option maxRecDepth 20000 in
theorem gX3_readSteps_X3_hindrance : GoodIn wsX3_readSteps (wsV RX3 69 RX3 yX3_hindrance wsX3_hindrance) := goodIn_app (goodIn_r _ [22, 23, 24, 7] rfl (by decide +kernel)) ggX3_readSteps_X3_hindrance
set_option maxRecDepth 20000 in
theorem ggX3_readSteps_X3_ofPins : GoodIn wsX3_readSteps wsX3_ofPins := goodIn_r _ [32] rfl (by decide +kernel)
set_option maxRecDepth 20000 in
theorem gX3_readSteps_X3_ofPins : GoodIn wsX3_readSteps (va_wsS RX3 46 yX3_ofPins wsX3_ofPins) := goodIn_app (goodIn_r _ [30, 31, 7] rfl (by decide +kernel)) ggX3_readSteps_X3_ofPins
theorem dX3_readSteps_0 : decode cX3_readSteps 0 = .ok (.aload_n 0, 1) := by decide +kernel
theorem dX3_readSteps_1 : decode cX3_readSteps 1 = .ok (.iconst 0, 1) := by decide +kernel
theorem dX3_readSteps_2 : decode cX3_readSteps 2 = .ok (.bipush 31, 2) := by decide +kernel
theorem dX3_readSteps_4 : decode cX3_readSteps 4 = .ok (.invokevirtual 130, 3) := by decide +kernel
theorem dX3_readSteps_7 : decode cX3_readSteps 7 = .ok (.istore 4, 2) := by decide +kernel
theorem dX3_readSteps_9 : decode cX3_readSteps 9 = .ok (.iload 4, 2) := by decide +kernel
theorem dX3_readSteps_11 : decode cX3_readSteps 11 = .ok (.istore 5, 2) := by decide +kernel
theorem dX3_readSteps_13 : decode cX3_readSteps 13 = .ok (.iload 4, 2) := by decide +kernel
theorem dX3_readSteps_15 : decode cX3_readSteps 15 = .ok (.bipush 31, 2) := by decide +kernel
theorem dX3_readSteps_17 : decode cX3_readSteps 17 = .ok (.if_icmp .ge 36, 3) := by decide +kernel
theorem dX3_readSteps_20 : decode cX3_readSteps 20 = .ok (.aload_n 0, 1) := by decide +kernel
theorem dX3_readSteps_21 : decode cX3_readSteps 21 = .ok (.bipush 45, 2) := by decide +kernel
theorem dX3_readSteps_23 : decode cX3_readSteps 23 = .ok (.bipush 45, 2) := by decide +kernel
theorem dX3_readSteps_25 : decode cX3_readSteps 25 = .ok (.invokevirtual 124, 3) := by decide +kernel
theorem dX3_readSteps_28 : decode cX3_readSteps 28 = .ok (.ifCond .eq 25, 3) := by decide +kernel
theorem dX3_readSteps_31 : decode cX3_readSteps 31 = .ok (.aload_n 0, 1) := by decide +kernel
theorem dX3_readSteps_32 : decode cX3_readSteps 32 = .ok (.dup, 1) := by decide +kernel
theorem dX3_readSteps_33 : decode cX3_readSteps 33 = .ok (.getfield 121, 3) := by decide +kernel
theorem dX3_readSteps_36 : decode cX3_readSteps 36 = .ok (.iconst 1, 1) := by decide +kernel
theorem dX3_readSteps_37 : decode cX3_readSteps 37 = .ok (.iadd, 1) := by decide +kernel
theorem dX3_readSteps_38 : decode cX3_readSteps 38 = .ok (.putfield 121, 3) := by decide +kernel
theorem dX3_readSteps_41 : decode cX3_readSteps 41 = .ok (.aload_n 0, 1) := by decide +kernel
theorem dX3_readSteps_42 : decode cX3_readSteps 42 = .ok (.iload 4, 2) := by decide +kernel
theorem dX3_readSteps_44 : decode cX3_readSteps 44 = .ok (.iconst 1, 1) := by decide +kernel
theorem dX3_readSteps_45 : decode cX3_readSteps 45 = .ok (.iadd, 1) := by decide +kernel
theorem dX3_readSteps_46 : decode cX3_readSteps 46 = .ok (.bipush 31, 2) := by decide +kernel
theorem dX3_readSteps_48 : decode cX3_readSteps 48 = .ok (.invokevirtual 130, 3) := by decide +kernel
theorem dX3_readSteps_51 : decode cX3_readSteps 51 = .ok (.istore 5, 2) := by decide +kernel
theorem dX3_readSteps_53 : decode cX3_readSteps 53 = .ok (.iload 4, 2) := by decide +kernel
theorem dX3_readSteps_55 : decode cX3_readSteps 55 = .ok (.istore 6, 2) := by decide +kernel
theorem dX3_readSteps_57 : decode cX3_readSteps 57 = .ok (.iload 6, 2) := by decide +kernel
theorem dX3_readSteps_59 : decode cX3_readSteps 59 = .ok (.iload 5, 2) := by decide +kernel
theorem dX3_readSteps_61 : decode cX3_readSteps 61 = .ok (.if_icmp .gt 51, 3) := by decide +kernel
theorem dX3_readSteps_64 : decode cX3_readSteps 64 = .ok (.iload_n 3, 1) := by decide +kernel
theorem dX3_readSteps_65 : decode cX3_readSteps 65 = .ok (.ifCond .eq 47, 3) := by decide +kernel
theorem dX3_readSteps_68 : decode cX3_readSteps 68 = .ok (.aload_n 0, 1) := by decide +kernel
theorem dX3_readSteps_69 : decode cX3_readSteps 69 = .ok (.iload_n 1, 1) := by decide +kernel
theorem dX3_readSteps_70 : decode cX3_readSteps 70 = .ok (.iload_n 2, 1) := by decide +kernel
theorem dX3_readSteps_71 : decode cX3_readSteps 71 = .ok (.iload 6, 2) := by decide +kernel
theorem dX3_readSteps_73 : decode cX3_readSteps 73 = .ok (.invokevirtual 69, 3) := by decide +kernel
theorem dX3_readSteps_76 : decode cX3_readSteps 76 = .ok (.ifCond .ne 30, 3) := by decide +kernel
theorem dX3_readSteps_79 : decode cX3_readSteps 79 = .ok (.aload_n 0, 1) := by decide +kernel
theorem dX3_readSteps_80 : decode cX3_readSteps 80 = .ok (.getfield 7, 3) := by decide +kernel
theorem dX3_readSteps_83 : decode cX3_readSteps 83 = .ok (.iload_n 1, 1) := by decide +kernel
theorem dX3_readSteps_84 : decode cX3_readSteps 84 = .ok (.iload_n 2, 1) := by decide +kernel
theorem dX3_readSteps_85 : decode cX3_readSteps 85 = .ok (.invokestatic 46, 3) := by decide +kernel
theorem dX3_readSteps_88 : decode cX3_readSteps 88 = .ok (.dup2, 1) := by decide +kernel
theorem dX3_readSteps_89 : decode cX3_readSteps 89 = .ok (.iaload, 1) := by decide +kernel
theorem dX3_readSteps_90 : decode cX3_readSteps 90 = .ok (.iconst 1, 1) := by decide +kernel
theorem dX3_readSteps_91 : decode cX3_readSteps 91 = .ok (.iload 6, 2) := by decide +kernel
theorem dX3_readSteps_93 : decode cX3_readSteps 93 = .ok (.ishl, 1) := by decide +kernel
theorem dX3_readSteps_94 : decode cX3_readSteps 94 = .ok (.ior, 1) := by decide +kernel
theorem dX3_readSteps_95 : decode cX3_readSteps 95 = .ok (.iastore, 1) := by decide +kernel
theorem dX3_readSteps_96 : decode cX3_readSteps 96 = .ok (.aload_n 0, 1) := by decide +kernel
theorem dX3_readSteps_97 : decode cX3_readSteps 97 = .ok (.dup, 1) := by decide +kernel
theorem dX3_readSteps_98 : decode cX3_readSteps 98 = .ok (.getfield 133, 3) := by decide +kernel
theorem dX3_readSteps_101 : decode cX3_readSteps 101 = .ok (.iconst 1, 1) := by decide +kernel
theorem dX3_readSteps_102 : decode cX3_readSteps 102 = .ok (.iadd, 1) := by decide +kernel
theorem dX3_readSteps_103 : decode cX3_readSteps 103 = .ok (.putfield 133, 3) := by decide +kernel
theorem dX3_readSteps_106 : decode cX3_readSteps 106 = .ok (.iinc 6 1, 3) := by decide +kernel
theorem dX3_readSteps_109 : decode cX3_readSteps 109 = .ok (.goto (-52), 3) := by decide +kernel
theorem dX3_readSteps_112 : decode cX3_readSteps 112 = .ok (.return_, 1) := by decide +kernel
set_option maxRecDepth 20000 in
theorem ggX3_readPart_X3_takes : GoodIn wsX3_readPart wsX3_takes := goodIn_r _ [6, 7, 1, 8, 9, 10, 11, 5, 12, 13, 14, 15, 16, 52, 53, 54, 55, 56, 57, 58, 59, 60, 61, 62, 63, 64] rfl (by decide +kernel)
set_option maxRecDepth 20000 in
theorem gX3_readPart_X3_takes : GoodIn wsX3_readPart (wsV RX3 136 RX3 yX3_takes wsX3_takes) := goodIn_app (goodIn_r _ [2, 3, 4, 5] rfl (by decide +kernel)) ggX3_readPart_X3_takes
set_option maxRecDepth 20000 in
theorem ggX3_readPart_X3_number : GoodIn wsX3_readPart wsX3_number := goodIn_r _ [20, 7, 1, 8, 9, 10, 11, 5, 12, 13, 14, 15, 16, 21, 22, 23, 52, 53, 54, 55, 56, 57, 58, 59, 60, 61, 62, 63, 64] rfl (by decide +kernel)
set_option maxRecDepth 20000 in
theorem gX3_readPart_X3_number : GoodIn wsX3_readPart (wsV RX3 130 RX3 yX3_number wsX3_number) := goodIn_app (goodIn_r _ [17, 18, 19, 5] rfl (by decide +kernel)) ggX3_readPart_X3_number
set_option maxRecDepth 20000 in
theorem ggX3_readPart_X3_readSteps : GoodIn wsX3_readPart wsX3_readSteps := goodIn_r _ [27, 1, 28, 29, 17, 18, 19, 5, 20, 7, 8, 9, 10, 11, 12, 13, 14, 15, 16, 21, 22, 23, 30, 31, 32, 33, 34, 35, 36, 37, 38, 39, 40, 41, 42, 43, 44, 45, 46, 47, 48, 49, 50, 51, 52, 53, 54, 55, 56, 57, 58, 59, 60, 61, 62, 63, 64] rfl (by decide +kernel)
set_option maxRecDepth 20000 in
theorem gX3_readPart_X3_readSteps : GoodIn wsX3_readPart (wsV RX3 139 RX3 yX3_readSteps wsX3_readSteps) := goodIn_app (goodIn_r _ [24, 25, 26, 5] rfl (by decide +kernel)) ggX3_readPart_X3_readSteps
set_option maxRecDepth 20000 in
theorem ggX3_readPart_X3_isNext : GoodIn wsX3_readPart wsX3_isNext := goodIn_r _ [12, 8, 1, 13, 7, 14, 15, 5, 16, 52, 53, 54, 55, 56, 57, 58, 59, 60, 61, 62, 63, 64] rfl (by decide +kernel)
set_option maxRecDepth 20000 in
theorem gX3_readPart_X3_isNext : GoodIn wsX3_readPart (wsV RX3 124 RX3 yX3_isNext wsX3_isNext) := goodIn_app (goodIn_r _ [9, 10, 11, 5] rfl (by decide +kernel)) ggX3_readPart_X3_isNext
theorem dX3_readPart_0 : decode cX3_readPart 0 = .ok (.aload_n 0, 1) := by decide +kernel
theorem dX3_readPart_1 : decode cX3_readPart 1 = .ok (.bipush 48, 2) := by decide +kernel
theorem dX3_readPart_3 : decode cX3_readPart 3 = .ok (.bipush 50, 2) := by decide +kernel
theorem dX3_readPart_5 : decode cX3_readPart 5 = .ok (.invokevirtual 136, 3) := by decide +kernel
theorem dX3_readPart_8 : decode cX3_readPart 8 = .ok (.istore_n 2, 1) := by decide +kernel
theorem dX3_readPart_9 : decode cX3_readPart 9 = .ok (.aload_n 0, 1) := by decide +kernel
theorem dX3_readPart_10 : decode cX3_readPart 10 = .ok (.bipush 47, 2) := by decide +kernel
theorem dX3_readPart_12 : decode cX3_readPart 12 = .ok (.bipush 47, 2) := by decide +kernel
theorem dX3_readPart_14 : decode cX3_readPart 14 = .ok (.invokevirtual 136, 3) := by decide +kernel
theorem dX3_readPart_17 : decode cX3_readPart 17 = .ok (.istore_n 3, 1) := by decide +kernel
theorem dX3_readPart_18 : decode cX3_readPart 18 = .ok (.aload_n 0, 1) := by decide +kernel
theorem dX3_readPart_19 : decode cX3_readPart 19 = .ok (.iconst 0, 1) := by decide +kernel
theorem dX3_readPart_20 : decode cX3_readPart 20 = .ok (.bipush 11, 2) := by decide +kernel
theorem dX3_readPart_22 : decode cX3_readPart 22 = .ok (.invokevirtual 130, 3) := by decide +kernel
theorem dX3_readPart_25 : decode cX3_readPart 25 = .ok (.istore 4, 2) := by decide +kernel
theorem dX3_readPart_27 : decode cX3_readPart 27 = .ok (.aload_n 0, 1) := by decide +kernel
theorem dX3_readPart_28 : decode cX3_readPart 28 = .ok (.bipush 58, 2) := by decide +kernel
theorem dX3_readPart_30 : decode cX3_readPart 30 = .ok (.bipush 58, 2) := by decide +kernel
theorem dX3_readPart_32 : decode cX3_readPart 32 = .ok (.invokevirtual 136, 3) := by decide +kernel
theorem dX3_readPart_35 : decode cX3_readPart 35 = .ok (.istore_n 3, 1) := by decide +kernel
theorem dX3_readPart_36 : decode cX3_readPart 36 = .ok (.aload_n 0, 1) := by decide +kernel
theorem dX3_readPart_37 : decode cX3_readPart 37 = .ok (.iload_n 2, 1) := by decide +kernel
theorem dX3_readPart_38 : decode cX3_readPart 38 = .ok (.iload 4, 2) := by decide +kernel
theorem dX3_readPart_40 : decode cX3_readPart 40 = .ok (.iload_n 1, 1) := by decide +kernel
theorem dX3_readPart_41 : decode cX3_readPart 41 = .ok (.invokevirtual 139, 3) := by decide +kernel
theorem dX3_readPart_44 : decode cX3_readPart 44 = .ok (.aload_n 0, 1) := by decide +kernel
theorem dX3_readPart_45 : decode cX3_readPart 45 = .ok (.bipush 44, 2) := by decide +kernel
theorem dX3_readPart_47 : decode cX3_readPart 47 = .ok (.bipush 44, 2) := by decide +kernel
theorem dX3_readPart_49 : decode cX3_readPart 49 = .ok (.invokevirtual 124, 3) := by decide +kernel
theorem dX3_readPart_52 : decode cX3_readPart 52 = .ok (.ifCond .eq 24, 3) := by decide +kernel
theorem dX3_readPart_55 : decode cX3_readPart 55 = .ok (.aload_n 0, 1) := by decide +kernel
theorem dX3_readPart_56 : decode cX3_readPart 56 = .ok (.dup, 1) := by decide +kernel
theorem dX3_readPart_57 : decode cX3_readPart 57 = .ok (.getfield 121, 3) := by decide +kernel
theorem dX3_readPart_60 : decode cX3_readPart 60 = .ok (.iconst 1, 1) := by decide +kernel
theorem dX3_readPart_61 : decode cX3_readPart 61 = .ok (.iadd, 1) := by decide +kernel
theorem dX3_readPart_62 : decode cX3_readPart 62 = .ok (.putfield 121, 3) := by decide +kernel
theorem dX3_readPart_65 : decode cX3_readPart 65 = .ok (.aload_n 0, 1) := by decide +kernel
theorem dX3_readPart_66 : decode cX3_readPart 66 = .ok (.iload_n 2, 1) := by decide +kernel
theorem dX3_readPart_67 : decode cX3_readPart 67 = .ok (.iload 4, 2) := by decide +kernel
theorem dX3_readPart_69 : decode cX3_readPart 69 = .ok (.iload_n 1, 1) := by decide +kernel
theorem dX3_readPart_70 : decode cX3_readPart 70 = .ok (.invokevirtual 139, 3) := by decide +kernel
theorem dX3_readPart_73 : decode cX3_readPart 73 = .ok (.goto (-29), 3) := by decide +kernel
theorem dX3_readPart_76 : decode cX3_readPart 76 = .ok (.return_, 1) := by decide +kernel
set_option maxRecDepth 20000 in
theorem ggX3_reads_X3_readPart : GoodIn wsX3_reads wsX3_readPart := goodIn_r _ [9, 1, 10, 11, 12, 8, 13, 14, 2, 15, 16, 17, 18, 4, 19, 20, 21, 22, 23, 24, 25, 26, 27, 28, 29, 30, 31, 32, 33, 3, 34, 35, 36, 37, 38, 39, 40, 41, 42, 43, 44, 45, 46, 47, 48, 49, 50, 51, 52, 53, 54, 55, 56, 57, 58, 59, 60, 61, 62, 63, 64, 65, 66, 67, 68] rfl (by decide +kernel)
set_option maxRecDepth 20000 in
theorem gX3_reads_X3_readPart : GoodIn wsX3_reads (wsV RX3 143 RX3 yX3_readPart wsX3_readPart) := goodIn_app (goodIn_r _ [5, 6, 7, 8] rfl (by decide +kernel)) ggX3_reads_X3_readPart
set_option maxRecDepth 20000 in
theorem ggX3_reads_X3_isNext : GoodIn wsX3_reads wsX3_isNext := goodIn_r _ [18, 2, 1, 4, 14, 19, 20, 8, 21, 56, 57, 58, 59, 60, 61, 62, 63, 64, 65, 66, 67, 68] rfl (by decide +kernel)
set_option maxRecDepth 20000 in
theorem gX3_reads_X3_isNext : GoodIn wsX3_reads (wsV RX3 124 RX3 yX3_isNext wsX3_isNext) := goodIn_app (goodIn_r _ [15, 16, 17, 8] rfl (by decide +kernel)) ggX3_reads_X3_isNext
theorem dX3_reads_0 : decode cX3_reads 0 = .ok (.aload_n 0, 1) := by decide +kernel
theorem dX3_reads_1 : decode cX3_reads 1 = .ok (.iconst 0, 1) := by decide +kernel
theorem dX3_reads_2 : decode cX3_reads 2 = .ok (.putfield 121, 3) := by decide +kernel
theorem dX3_reads_5 : decode cX3_reads 5 = .ok (.aload_n 0, 1) := by decide +kernel
theorem dX3_reads_6 : decode cX3_reads 6 = .ok (.iconst 0, 1) := by decide +kernel
theorem dX3_reads_7 : decode cX3_reads 7 = .ok (.putfield 117, 3) := by decide +kernel
theorem dX3_reads_10 : decode cX3_reads 10 = .ok (.aload_n 0, 1) := by decide +kernel
theorem dX3_reads_11 : decode cX3_reads 11 = .ok (.iconst 0, 1) := by decide +kernel
theorem dX3_reads_12 : decode cX3_reads 12 = .ok (.putfield 133, 3) := by decide +kernel
theorem dX3_reads_15 : decode cX3_reads 15 = .ok (.aload_n 0, 1) := by decide +kernel
theorem dX3_reads_16 : decode cX3_reads 16 = .ok (.iload_n 1, 1) := by decide +kernel
theorem dX3_reads_17 : decode cX3_reads 17 = .ok (.invokevirtual 143, 3) := by decide +kernel
theorem dX3_reads_20 : decode cX3_reads 20 = .ok (.aload_n 0, 1) := by decide +kernel
theorem dX3_reads_21 : decode cX3_reads 21 = .ok (.bipush 59, 2) := by decide +kernel
theorem dX3_reads_23 : decode cX3_reads 23 = .ok (.bipush 59, 2) := by decide +kernel
theorem dX3_reads_25 : decode cX3_reads 25 = .ok (.invokevirtual 124, 3) := by decide +kernel
theorem dX3_reads_28 : decode cX3_reads 28 = .ok (.ifCond .eq 21, 3) := by decide +kernel
theorem dX3_reads_31 : decode cX3_reads 31 = .ok (.aload_n 0, 1) := by decide +kernel
theorem dX3_reads_32 : decode cX3_reads 32 = .ok (.dup, 1) := by decide +kernel
theorem dX3_reads_33 : decode cX3_reads 33 = .ok (.getfield 121, 3) := by decide +kernel
theorem dX3_reads_36 : decode cX3_reads 36 = .ok (.iconst 1, 1) := by decide +kernel
theorem dX3_reads_37 : decode cX3_reads 37 = .ok (.iadd, 1) := by decide +kernel
theorem dX3_reads_38 : decode cX3_reads 38 = .ok (.putfield 121, 3) := by decide +kernel
theorem dX3_reads_41 : decode cX3_reads 41 = .ok (.aload_n 0, 1) := by decide +kernel
theorem dX3_reads_42 : decode cX3_reads 42 = .ok (.iload_n 1, 1) := by decide +kernel
theorem dX3_reads_43 : decode cX3_reads 43 = .ok (.invokevirtual 143, 3) := by decide +kernel
theorem dX3_reads_46 : decode cX3_reads 46 = .ok (.goto (-26), 3) := by decide +kernel
theorem dX3_reads_49 : decode cX3_reads 49 = .ok (.aload_n 0, 1) := by decide +kernel
theorem dX3_reads_50 : decode cX3_reads 50 = .ok (.getfield 117, 3) := by decide +kernel
theorem dX3_reads_53 : decode cX3_reads 53 = .ok (.ifCond .ne 18, 3) := by decide +kernel
theorem dX3_reads_56 : decode cX3_reads 56 = .ok (.aload_n 0, 1) := by decide +kernel
theorem dX3_reads_57 : decode cX3_reads 57 = .ok (.getfield 121, 3) := by decide +kernel
theorem dX3_reads_60 : decode cX3_reads 60 = .ok (.aload_n 0, 1) := by decide +kernel
theorem dX3_reads_61 : decode cX3_reads 61 = .ok (.getfield 114, 3) := by decide +kernel
theorem dX3_reads_64 : decode cX3_reads 64 = .ok (.if_icmp .ne 7, 3) := by decide +kernel
theorem dX3_reads_67 : decode cX3_reads 67 = .ok (.iconst 1, 1) := by decide +kernel
theorem dX3_reads_68 : decode cX3_reads 68 = .ok (.goto 4, 3) := by decide +kernel
theorem dX3_reads_71 : decode cX3_reads 71 = .ok (.iconst 0, 1) := by decide +kernel
theorem dX3_reads_72 : decode cX3_reads 72 = .ok (.ireturn, 1) := by decide +kernel
set_option maxRecDepth 20000 in
theorem ggX3_firstError_X3_reads : GoodIn wsX3_firstError wsX3_reads := goodIn_r _ [8, 3, 9, 10, 2, 11, 12, 13, 7, 14, 15, 16, 17, 18, 19, 20, 21, 22, 23, 24, 25, 26, 27, 28, 29, 30, 31, 32, 33, 34, 35, 36, 37, 38, 39, 40, 41, 42, 43, 44, 45, 46, 47, 48, 49, 50, 51, 52, 53, 54, 55, 56, 57, 58, 59, 60, 61, 62, 63, 64, 65, 66, 67, 68, 69, 70, 71, 72, 73] rfl (by decide +kernel)
set_option maxRecDepth 20000 in
theorem gX3_firstError_X3_reads : GoodIn wsX3_firstError (wsV RX3 147 RX3 yX3_reads wsX3_reads) := goodIn_app (goodIn_r _ [4, 5, 6, 7] rfl (by decide +kernel)) ggX3_firstError_X3_reads
theorem dX3_firstError_0 : decode cX3_firstError 0 = .ok (.aload_n 0, 1) := by decide +kernel
theorem dX3_firstError_1 : decode cX3_firstError 1 = .ok (.iconst 0, 1) := by decide +kernel
theorem dX3_firstError_2 : decode cX3_firstError 2 = .ok (.putfield 25, 3) := by decide +kernel
theorem dX3_firstError_5 : decode cX3_firstError 5 = .ok (.aload_n 0, 1) := by decide +kernel
theorem dX3_firstError_6 : decode cX3_firstError 6 = .ok (.iconst 0, 1) := by decide +kernel
theorem dX3_firstError_7 : decode cX3_firstError 7 = .ok (.invokevirtual 147, 3) := by decide +kernel
theorem dX3_firstError_10 : decode cX3_firstError 10 = .ok (.istore_n 1, 1) := by decide +kernel
theorem dX3_firstError_11 : decode cX3_firstError 11 = .ok (.iload_n 1, 1) := by decide +kernel
theorem dX3_firstError_12 : decode cX3_firstError 12 = .ok (.ifCond .eq 10, 3) := by decide +kernel
theorem dX3_firstError_15 : decode cX3_firstError 15 = .ok (.aload_n 0, 1) := by decide +kernel
theorem dX3_firstError_16 : decode cX3_firstError 16 = .ok (.getfield 114, 3) := by decide +kernel
theorem dX3_firstError_19 : decode cX3_firstError 19 = .ok (.goto 7, 3) := by decide +kernel
theorem dX3_firstError_22 : decode cX3_firstError 22 = .ok (.aload_n 0, 1) := by decide +kernel
theorem dX3_firstError_23 : decode cX3_firstError 23 = .ok (.getfield 121, 3) := by decide +kernel
theorem dX3_firstError_26 : decode cX3_firstError 26 = .ok (.ireturn, 1) := by decide +kernel
set_option maxRecDepth 20000 in
theorem ggX3_pins_X3_reads : GoodIn wsX3_pins wsX3_reads := goodIn_r _ [7, 8, 9, 2, 1, 10, 11, 12, 6, 13, 14, 15, 16, 17, 18, 19, 20, 21, 22, 23, 24, 25, 26, 27, 28, 29, 30, 31, 32, 33, 34, 35, 36, 37, 38, 39, 40, 41, 42, 43, 44, 45, 46, 47, 48, 49, 50, 51, 52, 53, 54, 55, 56, 57, 58, 59, 71, 72, 73, 74, 75, 76, 77, 78, 79, 80, 81, 82, 83] rfl (by decide +kernel)
set_option maxRecDepth 20000 in
theorem gX3_pins_X3_reads : GoodIn wsX3_pins (wsV RX3 147 RX3 yX3_reads wsX3_reads) := goodIn_app (goodIn_r _ [3, 4, 5, 6] rfl (by decide +kernel)) ggX3_pins_X3_reads
set_option maxRecDepth 20000 in
theorem ggX3_pins_X3_holds : GoodIn wsX3_pins wsX3_holds := goodIn_r _ [63, 64, 71, 72, 73, 74, 75, 76, 77, 78, 79, 80, 81, 82, 83] rfl (by decide +kernel)
set_option maxRecDepth 20000 in
theorem gX3_pins_X3_holds : GoodIn wsX3_pins (wsV RX3 73 RX3 yX3_holds wsX3_holds) := goodIn_app (goodIn_r _ [60, 61, 62, 6] rfl (by decide +kernel)) ggX3_pins_X3_holds
set_option maxRecDepth 20000 in
theorem ggX3_pins_X3_save : GoodIn wsX3_pins wsX3_save := goodIn_r _ [68, 69, 70, 37, 71, 72, 73, 74, 75, 76, 77, 78, 79, 80, 81, 82, 83] rfl (by decide +kernel)
set_option maxRecDepth 20000 in
theorem gX3_pins_X3_save : GoodIn wsX3_pins (wsV RX3 76 RX3 yX3_save wsX3_save) := goodIn_app (goodIn_r _ [65, 66, 67, 6] rfl (by decide +kernel)) ggX3_pins_X3_save
theorem dX3_pins_0 : decode cX3_pins 0 = .ok (.aload_n 0, 1) := by decide +kernel
theorem dX3_pins_1 : decode cX3_pins 1 = .ok (.aload_n 0, 1) := by decide +kernel
theorem dX3_pins_2 : decode cX3_pins 2 = .ok (.iconst 0, 1) := by decide +kernel
theorem dX3_pins_3 : decode cX3_pins 3 = .ok (.invokevirtual 147, 3) := by decide +kernel
theorem dX3_pins_6 : decode cX3_pins 6 = .ok (.ifCond .eq 7, 3) := by decide +kernel
theorem dX3_pins_9 : decode cX3_pins 9 = .ok (.iconst 0, 1) := by decide +kernel
theorem dX3_pins_10 : decode cX3_pins 10 = .ok (.goto 4, 3) := by decide +kernel
theorem dX3_pins_13 : decode cX3_pins 13 = .ok (.iconst 1, 1) := by decide +kernel
theorem dX3_pins_14 : decode cX3_pins 14 = .ok (.invokevirtual 73, 3) := by decide +kernel
theorem dX3_pins_17 : decode cX3_pins 17 = .ok (.ifCond .ne 5, 3) := by decide +kernel
theorem dX3_pins_20 : decode cX3_pins 20 = .ok (.iconst 0, 1) := by decide +kernel
theorem dX3_pins_21 : decode cX3_pins 21 = .ok (.ireturn, 1) := by decide +kernel
theorem dX3_pins_22 : decode cX3_pins 22 = .ok (.aload_n 0, 1) := by decide +kernel
theorem dX3_pins_23 : decode cX3_pins 23 = .ok (.invokevirtual 76, 3) := by decide +kernel
theorem dX3_pins_26 : decode cX3_pins 26 = .ok (.aload_n 0, 1) := by decide +kernel
theorem dX3_pins_27 : decode cX3_pins 27 = .ok (.iconst 1, 1) := by decide +kernel
theorem dX3_pins_28 : decode cX3_pins 28 = .ok (.invokevirtual 147, 3) := by decide +kernel
theorem dX3_pins_31 : decode cX3_pins 31 = .ok (.istore_n 1, 1) := by decide +kernel
theorem dX3_pins_32 : decode cX3_pins 32 = .ok (.aload_n 0, 1) := by decide +kernel
theorem dX3_pins_33 : decode cX3_pins 33 = .ok (.iconst 0, 1) := by decide +kernel
theorem dX3_pins_34 : decode cX3_pins 34 = .ok (.putfield 114, 3) := by decide +kernel
theorem dX3_pins_37 : decode cX3_pins 37 = .ok (.aload_n 0, 1) := by decide +kernel
theorem dX3_pins_38 : decode cX3_pins 38 = .ok (.getfield 133, 3) := by decide +kernel
theorem dX3_pins_41 : decode cX3_pins 41 = .ok (.ireturn, 1) := by decide +kernel
set_option maxRecDepth 20000 in
theorem ggX3_undo_X3_holds : GoodIn wsX3_undo wsX3_holds := goodIn_r _ [8, 9, 10, 11, 12, 13, 14, 15, 16, 17, 18, 19, 20, 21, 22] rfl (by decide +kernel)
set_option maxRecDepth 20000 in
theorem gX3_undo_X3_holds : GoodIn wsX3_undo (wsV RX3 73 RX3 yX3_holds wsX3_holds) := goodIn_app (goodIn_r _ [4, 5, 6, 7] rfl (by decide +kernel)) ggX3_undo_X3_holds
theorem dX3_undo_0 : decode cX3_undo 0 = .ok (.aload_n 0, 1) := by decide +kernel
theorem dX3_undo_1 : decode cX3_undo 1 = .ok (.aload_n 0, 1) := by decide +kernel
theorem dX3_undo_2 : decode cX3_undo 2 = .ok (.getfield 43, 3) := by decide +kernel
theorem dX3_undo_5 : decode cX3_undo 5 = .ok (.ifCond .le 7, 3) := by decide +kernel
theorem dX3_undo_8 : decode cX3_undo 8 = .ok (.iconst 0, 1) := by decide +kernel
theorem dX3_undo_9 : decode cX3_undo 9 = .ok (.goto 4, 3) := by decide +kernel
theorem dX3_undo_12 : decode cX3_undo 12 = .ok (.iconst 1, 1) := by decide +kernel
theorem dX3_undo_13 : decode cX3_undo 13 = .ok (.invokevirtual 73, 3) := by decide +kernel
theorem dX3_undo_16 : decode cX3_undo 16 = .ok (.ifCond .ne 5, 3) := by decide +kernel
theorem dX3_undo_19 : decode cX3_undo 19 = .ok (.iconst 0, 1) := by decide +kernel
theorem dX3_undo_20 : decode cX3_undo 20 = .ok (.ireturn, 1) := by decide +kernel
theorem dX3_undo_21 : decode cX3_undo 21 = .ok (.aload_n 0, 1) := by decide +kernel
theorem dX3_undo_22 : decode cX3_undo 22 = .ok (.dup, 1) := by decide +kernel
theorem dX3_undo_23 : decode cX3_undo 23 = .ok (.getfield 43, 3) := by decide +kernel
theorem dX3_undo_26 : decode cX3_undo 26 = .ok (.iconst 1, 1) := by decide +kernel
theorem dX3_undo_27 : decode cX3_undo 27 = .ok (.isub, 1) := by decide +kernel
theorem dX3_undo_28 : decode cX3_undo 28 = .ok (.putfield 43, 3) := by decide +kernel
theorem dX3_undo_31 : decode cX3_undo 31 = .ok (.iconst 0, 1) := by decide +kernel
theorem dX3_undo_32 : decode cX3_undo 32 = .ok (.istore_n 1, 1) := by decide +kernel
theorem dX3_undo_33 : decode cX3_undo 33 = .ok (.iload_n 1, 1) := by decide +kernel
theorem dX3_undo_34 : decode cX3_undo 34 = .ok (.sipush 147, 3) := by decide +kernel
theorem dX3_undo_37 : decode cX3_undo 37 = .ok (.if_icmp .ge 30, 3) := by decide +kernel
theorem dX3_undo_40 : decode cX3_undo 40 = .ok (.aload_n 0, 1) := by decide +kernel
theorem dX3_undo_41 : decode cX3_undo 41 = .ok (.getfield 7, 3) := by decide +kernel
theorem dX3_undo_44 : decode cX3_undo 44 = .ok (.iload_n 1, 1) := by decide +kernel
theorem dX3_undo_45 : decode cX3_undo 45 = .ok (.aload_n 0, 1) := by decide +kernel
theorem dX3_undo_46 : decode cX3_undo 46 = .ok (.getfield 16, 3) := by decide +kernel
theorem dX3_undo_49 : decode cX3_undo 49 = .ok (.sipush 147, 3) := by decide +kernel
theorem dX3_undo_52 : decode cX3_undo 52 = .ok (.aload_n 0, 1) := by decide +kernel
theorem dX3_undo_53 : decode cX3_undo 53 = .ok (.getfield 43, 3) := by decide +kernel
theorem dX3_undo_56 : decode cX3_undo 56 = .ok (.imul, 1) := by decide +kernel
theorem dX3_undo_57 : decode cX3_undo 57 = .ok (.iload_n 1, 1) := by decide +kernel
theorem dX3_undo_58 : decode cX3_undo 58 = .ok (.iadd, 1) := by decide +kernel
theorem dX3_undo_59 : decode cX3_undo 59 = .ok (.iaload, 1) := by decide +kernel
theorem dX3_undo_60 : decode cX3_undo 60 = .ok (.iastore, 1) := by decide +kernel
theorem dX3_undo_61 : decode cX3_undo 61 = .ok (.iinc 1 1, 3) := by decide +kernel
theorem dX3_undo_64 : decode cX3_undo 64 = .ok (.goto (-31), 3) := by decide +kernel
theorem dX3_undo_67 : decode cX3_undo 67 = .ok (.aload_n 0, 1) := by decide +kernel
theorem dX3_undo_68 : decode cX3_undo 68 = .ok (.getfield 43, 3) := by decide +kernel
theorem dX3_undo_71 : decode cX3_undo 71 = .ok (.ireturn, 1) := by decide +kernel
set_option maxRecDepth 20000 in
theorem ggX3_keep_X3_allPins : GoodIn wsX3_keep wsX3_allPins := goodIn_r _ [9, 10, 11, 12, 8, 13, 3, 14, 15, 16, 17, 18, 19, 20, 21, 22, 23, 24, 25, 26, 27, 28, 29, 30, 31, 32] rfl (by decide +kernel)
set_option maxRecDepth 20000 in
theorem gX3_keep_X3_allPins : GoodIn wsX3_keep (wsV RX3 154 RX3 yX3_allPins wsX3_allPins) := goodIn_app (goodIn_r _ [5, 6, 7, 8] rfl (by decide +kernel)) ggX3_keep_X3_allPins
theorem dX3_keep_0 : decode cX3_keep 0 = .ok (.aload_n 0, 1) := by decide +kernel
theorem dX3_keep_1 : decode cX3_keep 1 = .ok (.iconst 0, 1) := by decide +kernel
theorem dX3_keep_2 : decode cX3_keep 2 = .ok (.putfield 25, 3) := by decide +kernel
theorem dX3_keep_5 : decode cX3_keep 5 = .ok (.iconst 0, 1) := by decide +kernel
theorem dX3_keep_6 : decode cX3_keep 6 = .ok (.istore_n 1, 1) := by decide +kernel
theorem dX3_keep_7 : decode cX3_keep 7 = .ok (.iload_n 1, 1) := by decide +kernel
theorem dX3_keep_8 : decode cX3_keep 8 = .ok (.sipush 147, 3) := by decide +kernel
theorem dX3_keep_11 : decode cX3_keep 11 = .ok (.if_icmp .ge 21, 3) := by decide +kernel
theorem dX3_keep_14 : decode cX3_keep 14 = .ok (.aload_n 0, 1) := by decide +kernel
theorem dX3_keep_15 : decode cX3_keep 15 = .ok (.getfield 19, 3) := by decide +kernel
theorem dX3_keep_18 : decode cX3_keep 18 = .ok (.iload_n 1, 1) := by decide +kernel
theorem dX3_keep_19 : decode cX3_keep 19 = .ok (.aload_n 0, 1) := by decide +kernel
theorem dX3_keep_20 : decode cX3_keep 20 = .ok (.getfield 7, 3) := by decide +kernel
theorem dX3_keep_23 : decode cX3_keep 23 = .ok (.iload_n 1, 1) := by decide +kernel
theorem dX3_keep_24 : decode cX3_keep 24 = .ok (.iaload, 1) := by decide +kernel
theorem dX3_keep_25 : decode cX3_keep 25 = .ok (.iastore, 1) := by decide +kernel
theorem dX3_keep_26 : decode cX3_keep 26 = .ok (.iinc 1 1, 3) := by decide +kernel
theorem dX3_keep_29 : decode cX3_keep 29 = .ok (.goto (-22), 3) := by decide +kernel
theorem dX3_keep_32 : decode cX3_keep 32 = .ok (.aload_n 0, 1) := by decide +kernel
theorem dX3_keep_33 : decode cX3_keep 33 = .ok (.iconst 1, 1) := by decide +kernel
theorem dX3_keep_34 : decode cX3_keep 34 = .ok (.putfield 151, 3) := by decide +kernel
theorem dX3_keep_37 : decode cX3_keep 37 = .ok (.aload_n 0, 1) := by decide +kernel
theorem dX3_keep_38 : decode cX3_keep 38 = .ok (.invokevirtual 154, 3) := by decide +kernel
theorem dX3_keep_41 : decode cX3_keep 41 = .ok (.ireturn, 1) := by decide +kernel
set_option maxRecDepth 20000 in
theorem ggX3_restore_X3_holds : GoodIn wsX3_restore wsX3_holds := goodIn_r _ [8, 9, 30, 31, 32, 33, 34, 35, 36, 37, 38, 39, 40, 41, 42] rfl (by decide +kernel)
set_option maxRecDepth 20000 in
theorem gX3_restore_X3_holds : GoodIn wsX3_restore (wsV RX3 73 RX3 yX3_holds wsX3_holds) := goodIn_app (goodIn_r _ [4, 5, 6, 7] rfl (by decide +kernel)) ggX3_restore_X3_holds
set_option maxRecDepth 20000 in
theorem ggX3_restore_X3_save : GoodIn wsX3_restore wsX3_save := goodIn_r _ [13, 14, 15, 2, 30, 31, 32, 33, 34, 35, 36, 37, 38, 39, 40, 41, 42] rfl (by decide +kernel)
set_option maxRecDepth 20000 in
theorem gX3_restore_X3_save : GoodIn wsX3_restore (wsV RX3 76 RX3 yX3_save wsX3_save) := goodIn_app (goodIn_r _ [10, 11, 12, 7] rfl (by decide +kernel)) ggX3_restore_X3_save
set_option maxRecDepth 20000 in
theorem ggX3_restore_X3_allPins : GoodIn wsX3_restore wsX3_allPins := goodIn_r _ [19, 20, 21, 22, 7, 23, 2, 24, 25, 26, 27, 28, 29, 30, 31, 32, 33, 34, 35, 36, 37, 38, 39, 40, 41, 42] rfl (by decide +kernel)
set_option maxRecDepth 20000 in
theorem gX3_restore_X3_allPins : GoodIn wsX3_restore (wsV RX3 154 RX3 yX3_allPins wsX3_allPins) := goodIn_app (goodIn_r _ [16, 17, 18, 7] rfl (by decide +kernel)) ggX3_restore_X3_allPins
theorem dX3_restore_0 : decode cX3_restore 0 = .ok (.aload_n 0, 1) := by decide +kernel
theorem dX3_restore_1 : decode cX3_restore 1 = .ok (.aload_n 0, 1) := by decide +kernel
theorem dX3_restore_2 : decode cX3_restore 2 = .ok (.getfield 151, 3) := by decide +kernel
theorem dX3_restore_5 : decode cX3_restore 5 = .ok (.ifCond .eq 7, 3) := by decide +kernel
theorem dX3_restore_8 : decode cX3_restore 8 = .ok (.iconst 0, 1) := by decide +kernel
theorem dX3_restore_9 : decode cX3_restore 9 = .ok (.goto 4, 3) := by decide +kernel
theorem dX3_restore_12 : decode cX3_restore 12 = .ok (.iconst 1, 1) := by decide +kernel
theorem dX3_restore_13 : decode cX3_restore 13 = .ok (.invokevirtual 73, 3) := by decide +kernel
theorem dX3_restore_16 : decode cX3_restore 16 = .ok (.ifCond .ne 5, 3) := by decide +kernel
theorem dX3_restore_19 : decode cX3_restore 19 = .ok (.iconst 0, 1) := by decide +kernel
theorem dX3_restore_20 : decode cX3_restore 20 = .ok (.ireturn, 1) := by decide +kernel
theorem dX3_restore_21 : decode cX3_restore 21 = .ok (.aload_n 0, 1) := by decide +kernel
theorem dX3_restore_22 : decode cX3_restore 22 = .ok (.invokevirtual 76, 3) := by decide +kernel
theorem dX3_restore_25 : decode cX3_restore 25 = .ok (.iconst 0, 1) := by decide +kernel
theorem dX3_restore_26 : decode cX3_restore 26 = .ok (.istore_n 1, 1) := by decide +kernel
theorem dX3_restore_27 : decode cX3_restore 27 = .ok (.iload_n 1, 1) := by decide +kernel
theorem dX3_restore_28 : decode cX3_restore 28 = .ok (.sipush 147, 3) := by decide +kernel
theorem dX3_restore_31 : decode cX3_restore 31 = .ok (.if_icmp .ge 21, 3) := by decide +kernel
theorem dX3_restore_34 : decode cX3_restore 34 = .ok (.aload_n 0, 1) := by decide +kernel
theorem dX3_restore_35 : decode cX3_restore 35 = .ok (.getfield 7, 3) := by decide +kernel
theorem dX3_restore_38 : decode cX3_restore 38 = .ok (.iload_n 1, 1) := by decide +kernel
theorem dX3_restore_39 : decode cX3_restore 39 = .ok (.aload_n 0, 1) := by decide +kernel
theorem dX3_restore_40 : decode cX3_restore 40 = .ok (.getfield 19, 3) := by decide +kernel
theorem dX3_restore_43 : decode cX3_restore 43 = .ok (.iload_n 1, 1) := by decide +kernel
theorem dX3_restore_44 : decode cX3_restore 44 = .ok (.iaload, 1) := by decide +kernel
theorem dX3_restore_45 : decode cX3_restore 45 = .ok (.iastore, 1) := by decide +kernel
theorem dX3_restore_46 : decode cX3_restore 46 = .ok (.iinc 1 1, 3) := by decide +kernel
theorem dX3_restore_49 : decode cX3_restore 49 = .ok (.goto (-22), 3) := by decide +kernel
theorem dX3_restore_52 : decode cX3_restore 52 = .ok (.aload_n 0, 1) := by decide +kernel
theorem dX3_restore_53 : decode cX3_restore 53 = .ok (.invokevirtual 154, 3) := by decide +kernel
theorem dX3_restore_56 : decode cX3_restore 56 = .ok (.ireturn, 1) := by decide +kernel
set_option maxRecDepth 20000 in
theorem ggX3_whyNot_X3_areThere : GoodIn wsX3_whyNot wsX3_areThere := goodIn_r _ [4, 5, 6, 3, 7, 8, 9, 10, 11, 12, 13, 14, 15, 16] rfl (by decide +kernel)
set_option maxRecDepth 20000 in
theorem gX3_whyNot_X3_areThere : GoodIn wsX3_whyNot (va_wsS RX3 66 yX3_areThere wsX3_areThere) := goodIn_app (goodIn_r _ [1, 2, 3] rfl (by decide +kernel)) ggX3_whyNot_X3_areThere
set_option maxRecDepth 20000 in
theorem ggX3_whyNot_X3_holds : GoodIn wsX3_whyNot wsX3_holds := goodIn_r _ [20, 21, 45, 46, 47, 48, 49, 50, 51, 52, 53, 54, 55, 56, 57] rfl (by decide +kernel)
set_option maxRecDepth 20000 in
theorem gX3_whyNot_X3_holds : GoodIn wsX3_whyNot (wsV RX3 73 RX3 yX3_holds wsX3_holds) := goodIn_app (goodIn_r _ [17, 18, 19, 3] rfl (by decide +kernel)) ggX3_whyNot_X3_holds
set_option maxRecDepth 20000 in
theorem ggX3_whyNot_X3_hindrance : GoodIn wsX3_whyNot wsX3_hindrance := goodIn_r _ [25, 26, 27, 28, 29, 3, 30, 31, 32, 33, 34, 35, 36, 37, 38, 39, 40, 41, 42, 43, 44, 45, 46, 47, 48, 49, 50, 51, 52, 53, 54, 55, 56, 57] rfl (by decide +kernel)
set_option maxRecDepth 20000 in
theorem gX3_whyNot_X3_hindrance : GoodIn wsX3_whyNot (wsV RX3 69 RX3 yX3_hindrance wsX3_hindrance) := goodIn_app (goodIn_r _ [22, 23, 24, 3] rfl (by decide +kernel)) ggX3_whyNot_X3_hindrance
theorem dX3_whyNot_0 : decode cX3_whyNot 0 = .ok (.aload_n 0, 1) := by decide +kernel
theorem dX3_whyNot_1 : decode cX3_whyNot 1 = .ok (.iload_n 1, 1) := by decide +kernel
theorem dX3_whyNot_2 : decode cX3_whyNot 2 = .ok (.iload_n 2, 1) := by decide +kernel
theorem dX3_whyNot_3 : decode cX3_whyNot 3 = .ok (.iload_n 3, 1) := by decide +kernel
theorem dX3_whyNot_4 : decode cX3_whyNot 4 = .ok (.invokestatic 66, 3) := by decide +kernel
theorem dX3_whyNot_7 : decode cX3_whyNot 7 = .ok (.ifCond .eq 7, 3) := by decide +kernel
theorem dX3_whyNot_10 : decode cX3_whyNot 10 = .ok (.iconst 0, 1) := by decide +kernel
theorem dX3_whyNot_11 : decode cX3_whyNot 11 = .ok (.goto 4, 3) := by decide +kernel
theorem dX3_whyNot_14 : decode cX3_whyNot 14 = .ok (.iconst 1, 1) := by decide +kernel
theorem dX3_whyNot_15 : decode cX3_whyNot 15 = .ok (.invokevirtual 73, 3) := by decide +kernel
theorem dX3_whyNot_18 : decode cX3_whyNot 18 = .ok (.ifCond .eq 13, 3) := by decide +kernel
theorem dX3_whyNot_21 : decode cX3_whyNot 21 = .ok (.aload_n 0, 1) := by decide +kernel
theorem dX3_whyNot_22 : decode cX3_whyNot 22 = .ok (.iload_n 1, 1) := by decide +kernel
theorem dX3_whyNot_23 : decode cX3_whyNot 23 = .ok (.iload_n 2, 1) := by decide +kernel
theorem dX3_whyNot_24 : decode cX3_whyNot 24 = .ok (.iload_n 3, 1) := by decide +kernel
theorem dX3_whyNot_25 : decode cX3_whyNot 25 = .ok (.invokevirtual 69, 3) := by decide +kernel
theorem dX3_whyNot_28 : decode cX3_whyNot 28 = .ok (.goto 4, 3) := by decide +kernel
theorem dX3_whyNot_31 : decode cX3_whyNot 31 = .ok (.iconst 0, 1) := by decide +kernel
theorem dX3_whyNot_32 : decode cX3_whyNot 32 = .ok (.ireturn, 1) := by decide +kernel
set_option maxRecDepth 20000 in
theorem ggX3_next_X3_areThere : GoodIn wsX3_next wsX3_areThere := goodIn_r _ [4, 5, 6, 3, 7, 8, 9, 10, 11, 12, 13, 14, 15, 16] rfl (by decide +kernel)
set_option maxRecDepth 20000 in
theorem gX3_next_X3_areThere : GoodIn wsX3_next (va_wsS RX3 66 yX3_areThere wsX3_areThere) := goodIn_app (goodIn_r _ [1, 2, 3] rfl (by decide +kernel)) ggX3_next_X3_areThere
set_option maxRecDepth 20000 in
theorem ggX3_next_X3_holds : GoodIn wsX3_next wsX3_holds := goodIn_r _ [20, 21, 30, 31, 32, 33, 34, 35, 36, 37, 38, 39, 40, 41, 42] rfl (by decide +kernel)
set_option maxRecDepth 20000 in
theorem gX3_next_X3_holds : GoodIn wsX3_next (wsV RX3 73 RX3 yX3_holds wsX3_holds) := goodIn_app (goodIn_r _ [17, 18, 19, 3] rfl (by decide +kernel)) ggX3_next_X3_holds
set_option maxRecDepth 20000 in
theorem ggX3_next_X3_isPin : GoodIn wsX3_next wsX3_isPin := goodIn_r _ [25, 26, 27, 28, 3, 29, 30, 31, 32, 33, 34, 35, 36, 37, 38, 39, 40, 41, 42] rfl (by decide +kernel)
set_option maxRecDepth 20000 in
theorem gX3_next_X3_isPin : GoodIn wsX3_next (wsV RX3 50 RX3 yX3_isPin wsX3_isPin) := goodIn_app (goodIn_r _ [22, 23, 24, 3] rfl (by decide +kernel)) ggX3_next_X3_isPin
theorem dX3_next_0 : decode cX3_next 0 = .ok (.aload_n 0, 1) := by decide +kernel
theorem dX3_next_1 : decode cX3_next 1 = .ok (.iload_n 1, 1) := by decide +kernel
theorem dX3_next_2 : decode cX3_next 2 = .ok (.iload_n 2, 1) := by decide +kernel
theorem dX3_next_3 : decode cX3_next 3 = .ok (.iload_n 3, 1) := by decide +kernel
theorem dX3_next_4 : decode cX3_next 4 = .ok (.invokestatic 66, 3) := by decide +kernel
theorem dX3_next_7 : decode cX3_next 7 = .ok (.ifCond .eq 7, 3) := by decide +kernel
theorem dX3_next_10 : decode cX3_next 10 = .ok (.iconst 0, 1) := by decide +kernel
theorem dX3_next_11 : decode cX3_next 11 = .ok (.goto 4, 3) := by decide +kernel
theorem dX3_next_14 : decode cX3_next 14 = .ok (.iconst 1, 1) := by decide +kernel
theorem dX3_next_15 : decode cX3_next 15 = .ok (.invokevirtual 73, 3) := by decide +kernel
theorem dX3_next_18 : decode cX3_next 18 = .ok (.ifCond .ne 5, 3) := by decide +kernel
theorem dX3_next_21 : decode cX3_next 21 = .ok (.iconst 0, 1) := by decide +kernel
theorem dX3_next_22 : decode cX3_next 22 = .ok (.ireturn, 1) := by decide +kernel
theorem dX3_next_23 : decode cX3_next 23 = .ok (.iconst (-1), 1) := by decide +kernel
theorem dX3_next_24 : decode cX3_next 24 = .ok (.istore 4, 2) := by decide +kernel
theorem dX3_next_26 : decode cX3_next 26 = .ok (.bipush 31, 2) := by decide +kernel
theorem dX3_next_28 : decode cX3_next 28 = .ok (.istore 5, 2) := by decide +kernel
theorem dX3_next_30 : decode cX3_next 30 = .ok (.iload 5, 2) := by decide +kernel
theorem dX3_next_32 : decode cX3_next 32 = .ok (.ifCond .lt 39, 3) := by decide +kernel
theorem dX3_next_35 : decode cX3_next 35 = .ok (.aload_n 0, 1) := by decide +kernel
theorem dX3_next_36 : decode cX3_next 36 = .ok (.iload_n 1, 1) := by decide +kernel
theorem dX3_next_37 : decode cX3_next 37 = .ok (.iload_n 2, 1) := by decide +kernel
theorem dX3_next_38 : decode cX3_next 38 = .ok (.iload_n 3, 1) := by decide +kernel
theorem dX3_next_39 : decode cX3_next 39 = .ok (.iload 5, 2) := by decide +kernel
theorem dX3_next_41 : decode cX3_next 41 = .ok (.iadd, 1) := by decide +kernel
theorem dX3_next_42 : decode cX3_next 42 = .ok (.bipush 32, 2) := by decide +kernel
theorem dX3_next_44 : decode cX3_next 44 = .ok (.irem, 1) := by decide +kernel
theorem dX3_next_45 : decode cX3_next 45 = .ok (.invokevirtual 50, 3) := by decide +kernel
theorem dX3_next_48 : decode cX3_next 48 = .ok (.ifCond .eq 13, 3) := by decide +kernel
theorem dX3_next_51 : decode cX3_next 51 = .ok (.iload_n 3, 1) := by decide +kernel
theorem dX3_next_52 : decode cX3_next 52 = .ok (.iload 5, 2) := by decide +kernel
theorem dX3_next_54 : decode cX3_next 54 = .ok (.iadd, 1) := by decide +kernel
theorem dX3_next_55 : decode cX3_next 55 = .ok (.bipush 32, 2) := by decide +kernel
theorem dX3_next_57 : decode cX3_next 57 = .ok (.irem, 1) := by decide +kernel
theorem dX3_next_58 : decode cX3_next 58 = .ok (.goto 5, 3) := by decide +kernel
theorem dX3_next_61 : decode cX3_next 61 = .ok (.iload 4, 2) := by decide +kernel
theorem dX3_next_63 : decode cX3_next 63 = .ok (.istore 4, 2) := by decide +kernel
theorem dX3_next_65 : decode cX3_next 65 = .ok (.iinc 5 (-1), 3) := by decide +kernel
theorem dX3_next_68 : decode cX3_next 68 = .ok (.goto (-38), 3) := by decide +kernel
theorem dX3_next_71 : decode cX3_next 71 = .ok (.iload 4, 2) := by decide +kernel
theorem dX3_next_73 : decode cX3_next 73 = .ok (.ireturn, 1) := by decide +kernel
set_option maxRecDepth 20000 in
theorem ggX3_fullest_X3_pinsAt : GoodIn wsX3_fullest wsX3_pinsAt := goodIn_r _ [5, 6, 7, 8, 4, 9, 10, 11, 12, 13, 17, 18, 19, 20, 21, 22, 23, 24, 25, 26, 27, 28, 29] rfl (by decide +kernel)
set_option maxRecDepth 20000 in
theorem gX3_fullest_X3_pinsAt : GoodIn wsX3_fullest (wsV RX3 56 RX3 yX3_pinsAt wsX3_pinsAt) := goodIn_app (goodIn_r _ [1, 2, 3, 4] rfl (by decide +kernel)) ggX3_fullest_X3_pinsAt
set_option maxRecDepth 20000 in
theorem ggX3_fullest_X3_ones : GoodIn wsX3_fullest wsX3_ones := goodIn_r _ [16] rfl (by decide +kernel)
set_option maxRecDepth 20000 in
theorem gX3_fullest_X3_ones : GoodIn wsX3_fullest (va_wsS RX3 59 yX3_ones wsX3_ones) := goodIn_app (goodIn_r _ [14, 15, 4] rfl (by decide +kernel)) ggX3_fullest_X3_ones
theorem dX3_fullest_0 : decode cX3_fullest 0 = .ok (.iconst 0, 1) := by decide +kernel
theorem dX3_fullest_1 : decode cX3_fullest 1 = .ok (.istore_n 2, 1) := by decide +kernel
theorem dX3_fullest_2 : decode cX3_fullest 2 = .ok (.iconst 1, 1) := by decide +kernel
theorem dX3_fullest_3 : decode cX3_fullest 3 = .ok (.istore_n 3, 1) := by decide +kernel
theorem dX3_fullest_4 : decode cX3_fullest 4 = .ok (.iload_n 3, 1) := by decide +kernel
theorem dX3_fullest_5 : decode cX3_fullest 5 = .ok (.bipush 32, 2) := by decide +kernel
theorem dX3_fullest_7 : decode cX3_fullest 7 = .ok (.if_icmp .ge 36, 3) := by decide +kernel
theorem dX3_fullest_10 : decode cX3_fullest 10 = .ok (.aload_n 0, 1) := by decide +kernel
theorem dX3_fullest_11 : decode cX3_fullest 11 = .ok (.iload_n 1, 1) := by decide +kernel
theorem dX3_fullest_12 : decode cX3_fullest 12 = .ok (.iload_n 3, 1) := by decide +kernel
theorem dX3_fullest_13 : decode cX3_fullest 13 = .ok (.invokevirtual 56, 3) := by decide +kernel
theorem dX3_fullest_16 : decode cX3_fullest 16 = .ok (.invokestatic 59, 3) := by decide +kernel
theorem dX3_fullest_19 : decode cX3_fullest 19 = .ok (.aload_n 0, 1) := by decide +kernel
theorem dX3_fullest_20 : decode cX3_fullest 20 = .ok (.iload_n 1, 1) := by decide +kernel
theorem dX3_fullest_21 : decode cX3_fullest 21 = .ok (.iload_n 2, 1) := by decide +kernel
theorem dX3_fullest_22 : decode cX3_fullest 22 = .ok (.invokevirtual 56, 3) := by decide +kernel
theorem dX3_fullest_25 : decode cX3_fullest 25 = .ok (.invokestatic 59, 3) := by decide +kernel
theorem dX3_fullest_28 : decode cX3_fullest 28 = .ok (.if_icmp .le 7, 3) := by decide +kernel
theorem dX3_fullest_31 : decode cX3_fullest 31 = .ok (.iload_n 3, 1) := by decide +kernel
theorem dX3_fullest_32 : decode cX3_fullest 32 = .ok (.goto 4, 3) := by decide +kernel
theorem dX3_fullest_35 : decode cX3_fullest 35 = .ok (.iload_n 2, 1) := by decide +kernel
theorem dX3_fullest_36 : decode cX3_fullest 36 = .ok (.istore_n 2, 1) := by decide +kernel
theorem dX3_fullest_37 : decode cX3_fullest 37 = .ok (.iinc 3 1, 3) := by decide +kernel
theorem dX3_fullest_40 : decode cX3_fullest 40 = .ok (.goto (-36), 3) := by decide +kernel
theorem dX3_fullest_43 : decode cX3_fullest 43 = .ok (.iload_n 2, 1) := by decide +kernel
theorem dX3_fullest_44 : decode cX3_fullest 44 = .ok (.ireturn, 1) := by decide +kernel
set_option maxRecDepth 20000 in
theorem ggX3_teethOf_X3_ofPins : GoodIn wsX3_teethOf wsX3_ofPins := goodIn_r _ [5] rfl (by decide +kernel)
set_option maxRecDepth 20000 in
theorem gX3_teethOf_X3_ofPins : GoodIn wsX3_teethOf (va_wsS RX3 46 yX3_ofPins wsX3_ofPins) := goodIn_app (goodIn_r _ [2, 3, 4] rfl (by decide +kernel)) ggX3_teethOf_X3_ofPins
theorem dX3_teethOf_0 : decode cX3_teethOf 0 = .ok (.iconst 0, 1) := by decide +kernel
theorem dX3_teethOf_1 : decode cX3_teethOf 1 = .ok (.istore_n 2, 1) := by decide +kernel
theorem dX3_teethOf_2 : decode cX3_teethOf 2 = .ok (.iconst 0, 1) := by decide +kernel
theorem dX3_teethOf_3 : decode cX3_teethOf 3 = .ok (.istore_n 3, 1) := by decide +kernel
theorem dX3_teethOf_4 : decode cX3_teethOf 4 = .ok (.iload_n 3, 1) := by decide +kernel
theorem dX3_teethOf_5 : decode cX3_teethOf 5 = .ok (.bipush 12, 2) := by decide +kernel
theorem dX3_teethOf_7 : decode cX3_teethOf 7 = .ok (.if_icmp .ge 32, 3) := by decide +kernel
theorem dX3_teethOf_10 : decode cX3_teethOf 10 = .ok (.iload_n 2, 1) := by decide +kernel
theorem dX3_teethOf_11 : decode cX3_teethOf 11 = .ok (.aload_n 0, 1) := by decide +kernel
theorem dX3_teethOf_12 : decode cX3_teethOf 12 = .ok (.getfield 7, 3) := by decide +kernel
theorem dX3_teethOf_15 : decode cX3_teethOf 15 = .ok (.iload_n 1, 1) := by decide +kernel
theorem dX3_teethOf_16 : decode cX3_teethOf 16 = .ok (.iload_n 3, 1) := by decide +kernel
theorem dX3_teethOf_17 : decode cX3_teethOf 17 = .ok (.invokestatic 46, 3) := by decide +kernel
theorem dX3_teethOf_20 : decode cX3_teethOf 20 = .ok (.iaload, 1) := by decide +kernel
theorem dX3_teethOf_21 : decode cX3_teethOf 21 = .ok (.ifCond .eq 9, 3) := by decide +kernel
theorem dX3_teethOf_24 : decode cX3_teethOf 24 = .ok (.iconst 1, 1) := by decide +kernel
theorem dX3_teethOf_25 : decode cX3_teethOf 25 = .ok (.iload_n 3, 1) := by decide +kernel
theorem dX3_teethOf_26 : decode cX3_teethOf 26 = .ok (.ishl, 1) := by decide +kernel
theorem dX3_teethOf_27 : decode cX3_teethOf 27 = .ok (.goto 4, 3) := by decide +kernel
theorem dX3_teethOf_30 : decode cX3_teethOf 30 = .ok (.iconst 0, 1) := by decide +kernel
theorem dX3_teethOf_31 : decode cX3_teethOf 31 = .ok (.ior, 1) := by decide +kernel
theorem dX3_teethOf_32 : decode cX3_teethOf 32 = .ok (.istore_n 2, 1) := by decide +kernel
theorem dX3_teethOf_33 : decode cX3_teethOf 33 = .ok (.iinc 3 1, 3) := by decide +kernel
theorem dX3_teethOf_36 : decode cX3_teethOf 36 = .ok (.goto (-32), 3) := by decide +kernel
theorem dX3_teethOf_39 : decode cX3_teethOf 39 = .ok (.iload_n 2, 1) := by decide +kernel
theorem dX3_teethOf_40 : decode cX3_teethOf 40 = .ok (.ireturn, 1) := by decide +kernel
set_option maxRecDepth 20000 in
theorem ggX3_ofTune_X3_pinsOf : GoodIn wsX3_ofTune wsX3_pinsOf := goodIn_r _ [5, 6, 7, 8, 4, 9, 10, 11, 12, 29, 30, 31, 32, 33, 34, 35, 36, 37, 38, 39, 40, 41] rfl (by decide +kernel)
set_option maxRecDepth 20000 in
theorem gX3_ofTune_X3_pinsOf : GoodIn wsX3_ofTune (wsV RX3 63 RX3 yX3_pinsOf wsX3_pinsOf) := goodIn_app (goodIn_r _ [1, 2, 3, 4] rfl (by decide +kernel)) ggX3_ofTune_X3_pinsOf
set_option maxRecDepth 20000 in
theorem ggX3_ofTune_X3_fullest : GoodIn wsX3_ofTune wsX3_fullest := goodIn_r _ [16, 17, 18, 19, 4, 20, 21, 22, 23, 24, 6, 7, 8, 9, 10, 11, 12, 29, 30, 31, 32, 33, 34, 35, 36, 37, 38, 39, 40, 41] rfl (by decide +kernel)
set_option maxRecDepth 20000 in
theorem gX3_ofTune_X3_fullest : GoodIn wsX3_ofTune (wsV RX3 157 RX3 yX3_fullest wsX3_fullest) := goodIn_app (goodIn_r _ [13, 14, 15, 4] rfl (by decide +kernel)) ggX3_ofTune_X3_fullest
set_option maxRecDepth 20000 in
theorem ggX3_ofTune_X3_pinsAt : GoodIn wsX3_ofTune wsX3_pinsAt := goodIn_r _ [20, 21, 22, 23, 4, 24, 6, 7, 8, 9, 29, 30, 31, 32, 33, 34, 35, 36, 37, 38, 39, 40, 41] rfl (by decide +kernel)
set_option maxRecDepth 20000 in
theorem gX3_ofTune_X3_pinsAt : GoodIn wsX3_ofTune (wsV RX3 56 RX3 yX3_pinsAt wsX3_pinsAt) := goodIn_app (goodIn_r _ [17, 18, 19, 4] rfl (by decide +kernel)) ggX3_ofTune_X3_pinsAt
set_option maxRecDepth 20000 in
theorem ggX3_ofTune_X3_ones : GoodIn wsX3_ofTune wsX3_ones := goodIn_r _ [12] rfl (by decide +kernel)
set_option maxRecDepth 20000 in
theorem gX3_ofTune_X3_ones : GoodIn wsX3_ofTune (va_wsS RX3 59 yX3_ones wsX3_ones) := goodIn_app (goodIn_r _ [10, 11, 4] rfl (by decide +kernel)) ggX3_ofTune_X3_ones
set_option maxRecDepth 20000 in
theorem ggX3_ofTune_X3_teethOf : GoodIn wsX3_ofTune wsX3_teethOf := goodIn_r _ [28, 6, 7, 8, 4, 9, 29, 30, 31, 32, 33, 34, 35, 36, 37, 38, 39, 40, 41] rfl (by decide +kernel)
set_option maxRecDepth 20000 in
theorem gX3_ofTune_X3_teethOf : GoodIn wsX3_ofTune (wsV RX3 160 RX3 yX3_teethOf wsX3_teethOf) := goodIn_app (goodIn_r _ [25, 26, 27, 4] rfl (by decide +kernel)) ggX3_ofTune_X3_teethOf
theorem dX3_ofTune_0 : decode cX3_ofTune 0 = .ok (.iload_n 2, 1) := by decide +kernel
theorem dX3_ofTune_1 : decode cX3_ofTune 1 = .ok (.tableswitch 57 0 3 #[31, 31, 37, 51], 31) := by decide +kernel
theorem dX3_ofTune_32 : decode cX3_ofTune 32 = .ok (.aload_n 0, 1) := by decide +kernel
theorem dX3_ofTune_33 : decode cX3_ofTune 33 = .ok (.iload_n 1, 1) := by decide +kernel
theorem dX3_ofTune_34 : decode cX3_ofTune 34 = .ok (.invokevirtual 63, 3) := by decide +kernel
theorem dX3_ofTune_37 : decode cX3_ofTune 37 = .ok (.ireturn, 1) := by decide +kernel
theorem dX3_ofTune_38 : decode cX3_ofTune 38 = .ok (.aload_n 0, 1) := by decide +kernel
theorem dX3_ofTune_39 : decode cX3_ofTune 39 = .ok (.iload_n 1, 1) := by decide +kernel
theorem dX3_ofTune_40 : decode cX3_ofTune 40 = .ok (.aload_n 0, 1) := by decide +kernel
theorem dX3_ofTune_41 : decode cX3_ofTune 41 = .ok (.iload_n 1, 1) := by decide +kernel
theorem dX3_ofTune_42 : decode cX3_ofTune 42 = .ok (.invokevirtual 157, 3) := by decide +kernel
theorem dX3_ofTune_45 : decode cX3_ofTune 45 = .ok (.invokevirtual 56, 3) := by decide +kernel
theorem dX3_ofTune_48 : decode cX3_ofTune 48 = .ok (.invokestatic 59, 3) := by decide +kernel
theorem dX3_ofTune_51 : decode cX3_ofTune 51 = .ok (.ireturn, 1) := by decide +kernel
theorem dX3_ofTune_52 : decode cX3_ofTune 52 = .ok (.aload_n 0, 1) := by decide +kernel
theorem dX3_ofTune_53 : decode cX3_ofTune 53 = .ok (.iload_n 1, 1) := by decide +kernel
theorem dX3_ofTune_54 : decode cX3_ofTune 54 = .ok (.invokevirtual 157, 3) := by decide +kernel
theorem dX3_ofTune_57 : decode cX3_ofTune 57 = .ok (.ireturn, 1) := by decide +kernel
theorem dX3_ofTune_58 : decode cX3_ofTune 58 = .ok (.aload_n 0, 1) := by decide +kernel
theorem dX3_ofTune_59 : decode cX3_ofTune 59 = .ok (.iload_n 1, 1) := by decide +kernel
theorem dX3_ofTune_60 : decode cX3_ofTune 60 = .ok (.invokevirtual 160, 3) := by decide +kernel
theorem dX3_ofTune_63 : decode cX3_ofTune 63 = .ok (.ireturn, 1) := by decide +kernel
set_option maxRecDepth 20000 in
theorem ggX3_tune_X3_isTune : GoodIn wsX3_tune wsX3_isTune := goodIn_r _ [4, 5, 6, 3, 7] rfl (by decide +kernel)
set_option maxRecDepth 20000 in
theorem gX3_tune_X3_isTune : GoodIn wsX3_tune (va_wsS RX3 33 yX3_isTune wsX3_isTune) := goodIn_app (goodIn_r _ [1, 2, 3] rfl (by decide +kernel)) ggX3_tune_X3_isTune
set_option maxRecDepth 20000 in
theorem ggX3_tune_X3_in : GoodIn wsX3_tune wsX3_in := goodIn_r _ [7] rfl (by decide +kernel)
set_option maxRecDepth 20000 in
theorem gX3_tune_X3_in : GoodIn wsX3_tune (va_wsS RX3 29 yX3_in wsX3_in) := goodIn_app (goodIn_r _ [5, 6, 3] rfl (by decide +kernel)) ggX3_tune_X3_in
set_option maxRecDepth 20000 in
theorem ggX3_tune_X3_holds : GoodIn wsX3_tune wsX3_holds := goodIn_r _ [11, 12, 44, 45, 46, 47, 48, 49, 50, 51, 52, 53, 54, 55, 56] rfl (by decide +kernel)
set_option maxRecDepth 20000 in
theorem gX3_tune_X3_holds : GoodIn wsX3_tune (wsV RX3 73 RX3 yX3_holds wsX3_holds) := goodIn_app (goodIn_r _ [8, 9, 10, 3] rfl (by decide +kernel)) ggX3_tune_X3_holds
set_option maxRecDepth 20000 in
theorem ggX3_tune_X3_ofTune : GoodIn wsX3_tune wsX3_ofTune := goodIn_r _ [16, 17, 18, 19, 3, 20, 21, 22, 23, 24, 25, 26, 27, 28, 29, 30, 31, 32, 33, 34, 35, 36, 37, 38, 39, 40, 41, 42, 43, 44, 45, 46, 47, 48, 49, 50, 51, 52, 53, 54, 55, 56] rfl (by decide +kernel)
set_option maxRecDepth 20000 in
theorem gX3_tune_X3_ofTune : GoodIn wsX3_tune (wsV RX3 163 RX3 yX3_ofTune wsX3_ofTune) := goodIn_app (goodIn_r _ [13, 14, 15, 3] rfl (by decide +kernel)) ggX3_tune_X3_ofTune
theorem dX3_tune_0 : decode cX3_tune 0 = .ok (.aload_n 0, 1) := by decide +kernel
theorem dX3_tune_1 : decode cX3_tune 1 = .ok (.iload_n 1, 1) := by decide +kernel
theorem dX3_tune_2 : decode cX3_tune 2 = .ok (.invokestatic 33, 3) := by decide +kernel
theorem dX3_tune_5 : decode cX3_tune 5 = .ok (.ifCond .ne 7, 3) := by decide +kernel
theorem dX3_tune_8 : decode cX3_tune 8 = .ok (.iconst 1, 1) := by decide +kernel
theorem dX3_tune_9 : decode cX3_tune 9 = .ok (.goto 17, 3) := by decide +kernel
theorem dX3_tune_12 : decode cX3_tune 12 = .ok (.iload_n 2, 1) := by decide +kernel
theorem dX3_tune_13 : decode cX3_tune 13 = .ok (.iconst 0, 1) := by decide +kernel
theorem dX3_tune_14 : decode cX3_tune 14 = .ok (.iconst 4, 1) := by decide +kernel
theorem dX3_tune_15 : decode cX3_tune 15 = .ok (.invokestatic 29, 3) := by decide +kernel
theorem dX3_tune_18 : decode cX3_tune 18 = .ok (.ifCond .eq 7, 3) := by decide +kernel
theorem dX3_tune_21 : decode cX3_tune 21 = .ok (.iconst 0, 1) := by decide +kernel
theorem dX3_tune_22 : decode cX3_tune 22 = .ok (.goto 4, 3) := by decide +kernel
theorem dX3_tune_25 : decode cX3_tune 25 = .ok (.iconst 2, 1) := by decide +kernel
theorem dX3_tune_26 : decode cX3_tune 26 = .ok (.invokevirtual 73, 3) := by decide +kernel
theorem dX3_tune_29 : decode cX3_tune 29 = .ok (.ifCond .eq 12, 3) := by decide +kernel
theorem dX3_tune_32 : decode cX3_tune 32 = .ok (.aload_n 0, 1) := by decide +kernel
theorem dX3_tune_33 : decode cX3_tune 33 = .ok (.iload_n 1, 1) := by decide +kernel
theorem dX3_tune_34 : decode cX3_tune 34 = .ok (.iload_n 2, 1) := by decide +kernel
theorem dX3_tune_35 : decode cX3_tune 35 = .ok (.invokevirtual 163, 3) := by decide +kernel
theorem dX3_tune_38 : decode cX3_tune 38 = .ok (.goto 4, 3) := by decide +kernel
theorem dX3_tune_41 : decode cX3_tune 41 = .ok (.iconst 0, 1) := by decide +kernel
theorem dX3_tune_42 : decode cX3_tune 42 = .ok (.ireturn, 1) := by decide +kernel
set_option maxRecDepth 20000 in
theorem ggX3_chord_X3_isTune : GoodIn wsX3_chord wsX3_isTune := goodIn_r _ [4, 5, 6, 3, 7] rfl (by decide +kernel)
set_option maxRecDepth 20000 in
theorem gX3_chord_X3_isTune : GoodIn wsX3_chord (va_wsS RX3 33 yX3_isTune wsX3_isTune) := goodIn_app (goodIn_r _ [1, 2, 3] rfl (by decide +kernel)) ggX3_chord_X3_isTune
set_option maxRecDepth 20000 in
theorem ggX3_chord_X3_isStep : GoodIn wsX3_chord wsX3_isStep := goodIn_r _ [10, 5, 6, 3, 7] rfl (by decide +kernel)
set_option maxRecDepth 20000 in
theorem gX3_chord_X3_isStep : GoodIn wsX3_chord (va_wsS RX3 40 yX3_isStep wsX3_isStep) := goodIn_app (goodIn_r _ [8, 9, 3] rfl (by decide +kernel)) ggX3_chord_X3_isStep
set_option maxRecDepth 20000 in
theorem ggX3_chord_X3_holds : GoodIn wsX3_chord wsX3_holds := goodIn_r _ [14, 15, 28, 29, 30, 31, 32, 33, 34, 35, 36, 37, 38, 39, 40] rfl (by decide +kernel)
set_option maxRecDepth 20000 in
theorem gX3_chord_X3_holds : GoodIn wsX3_chord (wsV RX3 73 RX3 yX3_holds wsX3_holds) := goodIn_app (goodIn_r _ [11, 12, 13, 3] rfl (by decide +kernel)) ggX3_chord_X3_holds
set_option maxRecDepth 20000 in
theorem ggX3_chord_X3_pinsAt : GoodIn wsX3_chord wsX3_pinsAt := goodIn_r _ [19, 20, 21, 22, 3, 23, 24, 25, 26, 27, 28, 29, 30, 31, 32, 33, 34, 35, 36, 37, 38, 39, 40] rfl (by decide +kernel)
set_option maxRecDepth 20000 in
theorem gX3_chord_X3_pinsAt : GoodIn wsX3_chord (wsV RX3 56 RX3 yX3_pinsAt wsX3_pinsAt) := goodIn_app (goodIn_r _ [16, 17, 18, 3] rfl (by decide +kernel)) ggX3_chord_X3_pinsAt
theorem dX3_chord_0 : decode cX3_chord 0 = .ok (.aload_n 0, 1) := by decide +kernel
theorem dX3_chord_1 : decode cX3_chord 1 = .ok (.iload_n 1, 1) := by decide +kernel
theorem dX3_chord_2 : decode cX3_chord 2 = .ok (.invokestatic 33, 3) := by decide +kernel
theorem dX3_chord_5 : decode cX3_chord 5 = .ok (.ifCond .eq 14, 3) := by decide +kernel
theorem dX3_chord_8 : decode cX3_chord 8 = .ok (.iload_n 2, 1) := by decide +kernel
theorem dX3_chord_9 : decode cX3_chord 9 = .ok (.invokestatic 40, 3) := by decide +kernel
theorem dX3_chord_12 : decode cX3_chord 12 = .ok (.ifCond .eq 7, 3) := by decide +kernel
theorem dX3_chord_15 : decode cX3_chord 15 = .ok (.iconst 0, 1) := by decide +kernel
theorem dX3_chord_16 : decode cX3_chord 16 = .ok (.goto 4, 3) := by decide +kernel
theorem dX3_chord_19 : decode cX3_chord 19 = .ok (.iconst 1, 1) := by decide +kernel
theorem dX3_chord_20 : decode cX3_chord 20 = .ok (.invokevirtual 73, 3) := by decide +kernel
theorem dX3_chord_23 : decode cX3_chord 23 = .ok (.ifCond .eq 12, 3) := by decide +kernel
theorem dX3_chord_26 : decode cX3_chord 26 = .ok (.aload_n 0, 1) := by decide +kernel
theorem dX3_chord_27 : decode cX3_chord 27 = .ok (.iload_n 1, 1) := by decide +kernel
theorem dX3_chord_28 : decode cX3_chord 28 = .ok (.iload_n 2, 1) := by decide +kernel
theorem dX3_chord_29 : decode cX3_chord 29 = .ok (.invokevirtual 56, 3) := by decide +kernel
theorem dX3_chord_32 : decode cX3_chord 32 = .ok (.goto 4, 3) := by decide +kernel
theorem dX3_chord_35 : decode cX3_chord 35 = .ok (.iconst 0, 1) := by decide +kernel
theorem dX3_chord_36 : decode cX3_chord 36 = .ok (.ireturn, 1) := by decide +kernel
set_option maxRecDepth 20000 in
theorem ggX3_widest_X3_ofPins : GoodIn wsX3_widest wsX3_ofPins := goodIn_r _ [5] rfl (by decide +kernel)
set_option maxRecDepth 20000 in
theorem gX3_widest_X3_ofPins : GoodIn wsX3_widest (va_wsS RX3 46 yX3_ofPins wsX3_ofPins) := goodIn_app (goodIn_r _ [2, 3, 4] rfl (by decide +kernel)) ggX3_widest_X3_ofPins
theorem dX3_widest_0 : decode cX3_widest 0 = .ok (.aload_n 0, 1) := by decide +kernel
theorem dX3_widest_1 : decode cX3_widest 1 = .ok (.getfield 7, 3) := by decide +kernel
theorem dX3_widest_4 : decode cX3_widest 4 = .ok (.aload_n 0, 1) := by decide +kernel
theorem dX3_widest_5 : decode cX3_widest 5 = .ok (.getfield 7, 3) := by decide +kernel
theorem dX3_widest_8 : decode cX3_widest 8 = .ok (.sipush 134, 3) := by decide +kernel
theorem dX3_widest_11 : decode cX3_widest 11 = .ok (.iaload, 1) := by decide +kernel
theorem dX3_widest_12 : decode cX3_widest 12 = .ok (.iload_n 1, 1) := by decide +kernel
theorem dX3_widest_13 : decode cX3_widest 13 = .ok (.invokestatic 46, 3) := by decide +kernel
theorem dX3_widest_16 : decode cX3_widest 16 = .ok (.iaload, 1) := by decide +kernel
theorem dX3_widest_17 : decode cX3_widest 17 = .ok (.istore_n 2, 1) := by decide +kernel
theorem dX3_widest_18 : decode cX3_widest 18 = .ok (.iconst 0, 1) := by decide +kernel
theorem dX3_widest_19 : decode cX3_widest 19 = .ok (.istore_n 3, 1) := by decide +kernel
theorem dX3_widest_20 : decode cX3_widest 20 = .ok (.iconst 0, 1) := by decide +kernel
theorem dX3_widest_21 : decode cX3_widest 21 = .ok (.istore 4, 2) := by decide +kernel
theorem dX3_widest_23 : decode cX3_widest 23 = .ok (.iconst 0, 1) := by decide +kernel
theorem dX3_widest_24 : decode cX3_widest 24 = .ok (.istore 5, 2) := by decide +kernel
theorem dX3_widest_26 : decode cX3_widest 26 = .ok (.iload 5, 2) := by decide +kernel
theorem dX3_widest_28 : decode cX3_widest 28 = .ok (.bipush 64, 2) := by decide +kernel
theorem dX3_widest_30 : decode cX3_widest 30 = .ok (.if_icmp .ge 74, 3) := by decide +kernel
theorem dX3_widest_33 : decode cX3_widest 33 = .ok (.iload_n 2, 1) := by decide +kernel
theorem dX3_widest_34 : decode cX3_widest 34 = .ok (.ifCond .eq 70, 3) := by decide +kernel
theorem dX3_widest_37 : decode cX3_widest 37 = .ok (.iinc 4 1, 3) := by decide +kernel
theorem dX3_widest_40 : decode cX3_widest 40 = .ok (.iload_n 2, 1) := by decide +kernel
theorem dX3_widest_41 : decode cX3_widest 41 = .ok (.iload 5, 2) := by decide +kernel
theorem dX3_widest_43 : decode cX3_widest 43 = .ok (.bipush 32, 2) := by decide +kernel
theorem dX3_widest_45 : decode cX3_widest 45 = .ok (.irem, 1) := by decide +kernel
theorem dX3_widest_46 : decode cX3_widest 46 = .ok (.ishr, 1) := by decide +kernel
theorem dX3_widest_47 : decode cX3_widest 47 = .ok (.iconst 1, 1) := by decide +kernel
theorem dX3_widest_48 : decode cX3_widest 48 = .ok (.iand, 1) := by decide +kernel
theorem dX3_widest_49 : decode cX3_widest 49 = .ok (.iconst 1, 1) := by decide +kernel
theorem dX3_widest_50 : decode cX3_widest 50 = .ok (.if_icmp .ne 7, 3) := by decide +kernel
theorem dX3_widest_53 : decode cX3_widest 53 = .ok (.iconst 1, 1) := by decide +kernel
theorem dX3_widest_54 : decode cX3_widest 54 = .ok (.goto 4, 3) := by decide +kernel
theorem dX3_widest_57 : decode cX3_widest 57 = .ok (.iconst 0, 1) := by decide +kernel
theorem dX3_widest_58 : decode cX3_widest 58 = .ok (.istore 6, 2) := by decide +kernel
theorem dX3_widest_60 : decode cX3_widest 60 = .ok (.iload 6, 2) := by decide +kernel
theorem dX3_widest_62 : decode cX3_widest 62 = .ok (.ifCond .eq 21, 3) := by decide +kernel
theorem dX3_widest_65 : decode cX3_widest 65 = .ok (.iload 5, 2) := by decide +kernel
theorem dX3_widest_67 : decode cX3_widest 67 = .ok (.bipush 32, 2) := by decide +kernel
theorem dX3_widest_69 : decode cX3_widest 69 = .ok (.if_icmp .lt 14, 3) := by decide +kernel
theorem dX3_widest_72 : decode cX3_widest 72 = .ok (.iload 4, 2) := by decide +kernel
theorem dX3_widest_74 : decode cX3_widest 74 = .ok (.iload_n 3, 1) := by decide +kernel
theorem dX3_widest_75 : decode cX3_widest 75 = .ok (.if_icmp .le 8, 3) := by decide +kernel
theorem dX3_widest_78 : decode cX3_widest 78 = .ok (.iload 4, 2) := by decide +kernel
theorem dX3_widest_80 : decode cX3_widest 80 = .ok (.goto 4, 3) := by decide +kernel
theorem dX3_widest_83 : decode cX3_widest 83 = .ok (.iload_n 3, 1) := by decide +kernel
theorem dX3_widest_84 : decode cX3_widest 84 = .ok (.istore_n 3, 1) := by decide +kernel
theorem dX3_widest_85 : decode cX3_widest 85 = .ok (.iload 6, 2) := by decide +kernel
theorem dX3_widest_87 : decode cX3_widest 87 = .ok (.ifCond .eq 7, 3) := by decide +kernel
theorem dX3_widest_90 : decode cX3_widest 90 = .ok (.iconst 0, 1) := by decide +kernel
theorem dX3_widest_91 : decode cX3_widest 91 = .ok (.goto 5, 3) := by decide +kernel
theorem dX3_widest_94 : decode cX3_widest 94 = .ok (.iload 4, 2) := by decide +kernel
theorem dX3_widest_96 : decode cX3_widest 96 = .ok (.istore 4, 2) := by decide +kernel
theorem dX3_widest_98 : decode cX3_widest 98 = .ok (.iinc 5 1, 3) := by decide +kernel
theorem dX3_widest_101 : decode cX3_widest 101 = .ok (.goto (-75), 3) := by decide +kernel
theorem dX3_widest_104 : decode cX3_widest 104 = .ok (.iload_n 3, 1) := by decide +kernel
theorem dX3_widest_105 : decode cX3_widest 105 = .ok (.ireturn, 1) := by decide +kernel
set_option maxRecDepth 20000 in
theorem ggX3_ofTooth_X3_of : GoodIn wsX3_ofTooth wsX3_of := goodIn_r _ [5] rfl (by decide +kernel)
set_option maxRecDepth 20000 in
theorem gX3_ofTooth_X3_of : GoodIn wsX3_ofTooth (va_wsS RX3 86 yX3_of wsX3_of) := goodIn_app (goodIn_r _ [2, 3, 4] rfl (by decide +kernel)) ggX3_ofTooth_X3_of
set_option maxRecDepth 20000 in
theorem ggX3_ofTooth_X3_widest : GoodIn wsX3_ofTooth wsX3_widest := goodIn_r _ [9, 1, 10, 11, 4, 12, 13, 14, 15, 16, 17, 18, 19, 20, 21, 22, 23, 24, 25] rfl (by decide +kernel)
set_option maxRecDepth 20000 in
theorem gX3_ofTooth_X3_widest : GoodIn wsX3_ofTooth (wsV RX3 166 RX3 yX3_widest wsX3_widest) := goodIn_app (goodIn_r _ [6, 7, 8, 4] rfl (by decide +kernel)) ggX3_ofTooth_X3_widest
theorem dX3_ofTooth_0 : decode cX3_ofTooth 0 = .ok (.iload_n 2, 1) := by decide +kernel
theorem dX3_ofTooth_1 : decode cX3_ofTooth 1 = .ok (.iconst 4, 1) := by decide +kernel
theorem dX3_ofTooth_2 : decode cX3_ofTooth 2 = .ok (.if_icmp .ge 16, 3) := by decide +kernel
theorem dX3_ofTooth_5 : decode cX3_ofTooth 5 = .ok (.aload_n 0, 1) := by decide +kernel
theorem dX3_ofTooth_6 : decode cX3_ofTooth 6 = .ok (.getfield 7, 3) := by decide +kernel
theorem dX3_ofTooth_9 : decode cX3_ofTooth 9 = .ok (.iload_n 1, 1) := by decide +kernel
theorem dX3_ofTooth_10 : decode cX3_ofTooth 10 = .ok (.iload_n 2, 1) := by decide +kernel
theorem dX3_ofTooth_11 : decode cX3_ofTooth 11 = .ok (.invokestatic 86, 3) := by decide +kernel
theorem dX3_ofTooth_14 : decode cX3_ofTooth 14 = .ok (.iaload, 1) := by decide +kernel
theorem dX3_ofTooth_15 : decode cX3_ofTooth 15 = .ok (.goto 8, 3) := by decide +kernel
theorem dX3_ofTooth_18 : decode cX3_ofTooth 18 = .ok (.aload_n 0, 1) := by decide +kernel
theorem dX3_ofTooth_19 : decode cX3_ofTooth 19 = .ok (.iload_n 1, 1) := by decide +kernel
theorem dX3_ofTooth_20 : decode cX3_ofTooth 20 = .ok (.invokevirtual 166, 3) := by decide +kernel
theorem dX3_ofTooth_23 : decode cX3_ofTooth 23 = .ok (.ireturn, 1) := by decide +kernel
set_option maxRecDepth 20000 in
theorem ggX3_tooth_X3_isTooth : GoodIn wsX3_tooth wsX3_isTooth := goodIn_r _ [4, 5, 6, 3, 7] rfl (by decide +kernel)
set_option maxRecDepth 20000 in
theorem gX3_tooth_X3_isTooth : GoodIn wsX3_tooth (va_wsS RX3 37 yX3_isTooth wsX3_isTooth) := goodIn_app (goodIn_r _ [1, 2, 3] rfl (by decide +kernel)) ggX3_tooth_X3_isTooth
set_option maxRecDepth 20000 in
theorem ggX3_tooth_X3_in : GoodIn wsX3_tooth wsX3_in := goodIn_r _ [7] rfl (by decide +kernel)
set_option maxRecDepth 20000 in
theorem gX3_tooth_X3_in : GoodIn wsX3_tooth (va_wsS RX3 29 yX3_in wsX3_in) := goodIn_app (goodIn_r _ [5, 6, 3] rfl (by decide +kernel)) ggX3_tooth_X3_in
set_option maxRecDepth 20000 in
theorem ggX3_tooth_X3_holds : GoodIn wsX3_tooth wsX3_holds := goodIn_r _ [11, 12, 28, 29, 30, 31, 32, 33, 34, 35, 36, 37, 38, 39, 40] rfl (by decide +kernel)
set_option maxRecDepth 20000 in
theorem gX3_tooth_X3_holds : GoodIn wsX3_tooth (wsV RX3 73 RX3 yX3_holds wsX3_holds) := goodIn_app (goodIn_r _ [8, 9, 10, 3] rfl (by decide +kernel)) ggX3_tooth_X3_holds
set_option maxRecDepth 20000 in
theorem ggX3_tooth_X3_ofTooth : GoodIn wsX3_tooth wsX3_ofTooth := goodIn_r _ [16, 17, 18, 19, 3, 20, 21, 22, 23, 24, 25, 26, 27, 28, 29, 30, 31, 32, 33, 34, 35, 36, 37, 38, 39, 40] rfl (by decide +kernel)
set_option maxRecDepth 20000 in
theorem gX3_tooth_X3_ofTooth : GoodIn wsX3_tooth (wsV RX3 169 RX3 yX3_ofTooth wsX3_ofTooth) := goodIn_app (goodIn_r _ [13, 14, 15, 3] rfl (by decide +kernel)) ggX3_tooth_X3_ofTooth
theorem dX3_tooth_0 : decode cX3_tooth 0 = .ok (.aload_n 0, 1) := by decide +kernel
theorem dX3_tooth_1 : decode cX3_tooth 1 = .ok (.iload_n 1, 1) := by decide +kernel
theorem dX3_tooth_2 : decode cX3_tooth 2 = .ok (.invokestatic 37, 3) := by decide +kernel
theorem dX3_tooth_5 : decode cX3_tooth 5 = .ok (.ifCond .ne 7, 3) := by decide +kernel
theorem dX3_tooth_8 : decode cX3_tooth 8 = .ok (.iconst 1, 1) := by decide +kernel
theorem dX3_tooth_9 : decode cX3_tooth 9 = .ok (.goto 17, 3) := by decide +kernel
theorem dX3_tooth_12 : decode cX3_tooth 12 = .ok (.iload_n 2, 1) := by decide +kernel
theorem dX3_tooth_13 : decode cX3_tooth 13 = .ok (.iconst 0, 1) := by decide +kernel
theorem dX3_tooth_14 : decode cX3_tooth 14 = .ok (.iconst 4, 1) := by decide +kernel
theorem dX3_tooth_15 : decode cX3_tooth 15 = .ok (.invokestatic 29, 3) := by decide +kernel
theorem dX3_tooth_18 : decode cX3_tooth 18 = .ok (.ifCond .eq 7, 3) := by decide +kernel
theorem dX3_tooth_21 : decode cX3_tooth 21 = .ok (.iconst 0, 1) := by decide +kernel
theorem dX3_tooth_22 : decode cX3_tooth 22 = .ok (.goto 4, 3) := by decide +kernel
theorem dX3_tooth_25 : decode cX3_tooth 25 = .ok (.iconst 2, 1) := by decide +kernel
theorem dX3_tooth_26 : decode cX3_tooth 26 = .ok (.invokevirtual 73, 3) := by decide +kernel
theorem dX3_tooth_29 : decode cX3_tooth 29 = .ok (.ifCond .eq 12, 3) := by decide +kernel
theorem dX3_tooth_32 : decode cX3_tooth 32 = .ok (.aload_n 0, 1) := by decide +kernel
theorem dX3_tooth_33 : decode cX3_tooth 33 = .ok (.iload_n 1, 1) := by decide +kernel
theorem dX3_tooth_34 : decode cX3_tooth 34 = .ok (.iload_n 2, 1) := by decide +kernel
theorem dX3_tooth_35 : decode cX3_tooth 35 = .ok (.invokevirtual 169, 3) := by decide +kernel
theorem dX3_tooth_38 : decode cX3_tooth 38 = .ok (.goto 4, 3) := by decide +kernel
theorem dX3_tooth_41 : decode cX3_tooth 41 = .ok (.iconst 0, 1) := by decide +kernel
theorem dX3_tooth_42 : decode cX3_tooth 42 = .ok (.ireturn, 1) := by decide +kernel
set_option maxRecDepth 20000 in
theorem ggX3_note_X3_in : GoodIn wsX3_note wsX3_in := goodIn_r _ [5] rfl (by decide +kernel)
set_option maxRecDepth 20000 in
theorem gX3_note_X3_in : GoodIn wsX3_note (va_wsS RX3 29 yX3_in wsX3_in) := goodIn_app (goodIn_r _ [2, 3, 4] rfl (by decide +kernel)) ggX3_note_X3_in
set_option maxRecDepth 20000 in
theorem ggX3_note_X3_holds : GoodIn wsX3_note wsX3_holds := goodIn_r _ [9, 10, 11, 12, 13, 14, 15, 16, 17, 18, 19, 20, 21, 22, 23] rfl (by decide +kernel)
set_option maxRecDepth 20000 in
theorem gX3_note_X3_holds : GoodIn wsX3_note (wsV RX3 73 RX3 yX3_holds wsX3_holds) := goodIn_app (goodIn_r _ [6, 7, 8, 4] rfl (by decide +kernel)) ggX3_note_X3_holds
theorem dX3_note_0 : decode cX3_note 0 = .ok (.aload_n 0, 1) := by decide +kernel
theorem dX3_note_1 : decode cX3_note 1 = .ok (.iload_n 1, 1) := by decide +kernel
theorem dX3_note_2 : decode cX3_note 2 = .ok (.iconst 0, 1) := by decide +kernel
theorem dX3_note_3 : decode cX3_note 3 = .ok (.bipush 23, 2) := by decide +kernel
theorem dX3_note_5 : decode cX3_note 5 = .ok (.invokestatic 29, 3) := by decide +kernel
theorem dX3_note_8 : decode cX3_note 8 = .ok (.ifCond .eq 16, 3) := by decide +kernel
theorem dX3_note_11 : decode cX3_note 11 = .ok (.iload_n 2, 1) := by decide +kernel
theorem dX3_note_12 : decode cX3_note 12 = .ok (.iconst 0, 1) := by decide +kernel
theorem dX3_note_13 : decode cX3_note 13 = .ok (.iconst 1, 1) := by decide +kernel
theorem dX3_note_14 : decode cX3_note 14 = .ok (.invokestatic 29, 3) := by decide +kernel
theorem dX3_note_17 : decode cX3_note 17 = .ok (.ifCond .eq 7, 3) := by decide +kernel
theorem dX3_note_20 : decode cX3_note 20 = .ok (.iconst 0, 1) := by decide +kernel
theorem dX3_note_21 : decode cX3_note 21 = .ok (.goto 4, 3) := by decide +kernel
theorem dX3_note_24 : decode cX3_note 24 = .ok (.iconst 1, 1) := by decide +kernel
theorem dX3_note_25 : decode cX3_note 25 = .ok (.invokevirtual 73, 3) := by decide +kernel
theorem dX3_note_28 : decode cX3_note 28 = .ok (.ifCond .ne 5, 3) := by decide +kernel
theorem dX3_note_31 : decode cX3_note 31 = .ok (.iconst 0, 1) := by decide +kernel
theorem dX3_note_32 : decode cX3_note 32 = .ok (.ireturn, 1) := by decide +kernel
theorem dX3_note_33 : decode cX3_note 33 = .ok (.iload_n 1, 1) := by decide +kernel
theorem dX3_note_34 : decode cX3_note 34 = .ok (.aload_n 0, 1) := by decide +kernel
theorem dX3_note_35 : decode cX3_note 35 = .ok (.getfield 7, 3) := by decide +kernel
theorem dX3_note_38 : decode cX3_note 38 = .ok (.sipush 132, 3) := by decide +kernel
theorem dX3_note_41 : decode cX3_note 41 = .ok (.iaload, 1) := by decide +kernel
theorem dX3_note_42 : decode cX3_note 42 = .ok (.if_icmp .ge 19, 3) := by decide +kernel
theorem dX3_note_45 : decode cX3_note 45 = .ok (.aload_n 0, 1) := by decide +kernel
theorem dX3_note_46 : decode cX3_note 46 = .ok (.getfield 7, 3) := by decide +kernel
theorem dX3_note_49 : decode cX3_note 49 = .ok (.bipush 84, 2) := by decide +kernel
theorem dX3_note_51 : decode cX3_note 51 = .ok (.iconst 2, 1) := by decide +kernel
theorem dX3_note_52 : decode cX3_note 52 = .ok (.iload_n 1, 1) := by decide +kernel
theorem dX3_note_53 : decode cX3_note 53 = .ok (.imul, 1) := by decide +kernel
theorem dX3_note_54 : decode cX3_note 54 = .ok (.iadd, 1) := by decide +kernel
theorem dX3_note_55 : decode cX3_note 55 = .ok (.iload_n 2, 1) := by decide +kernel
theorem dX3_note_56 : decode cX3_note 56 = .ok (.iadd, 1) := by decide +kernel
theorem dX3_note_57 : decode cX3_note 57 = .ok (.iaload, 1) := by decide +kernel
theorem dX3_note_58 : decode cX3_note 58 = .ok (.goto 4, 3) := by decide +kernel
theorem dX3_note_61 : decode cX3_note 61 = .ok (.iconst (-1), 1) := by decide +kernel
theorem dX3_note_62 : decode cX3_note 62 = .ok (.ireturn, 1) := by decide +kernel
set_option maxRecDepth 20000 in
theorem ggX3_teethThat_X3_of : GoodIn wsX3_teethThat wsX3_of := goodIn_r _ [5] rfl (by decide +kernel)
set_option maxRecDepth 20000 in
theorem gX3_teethThat_X3_of : GoodIn wsX3_teethThat (va_wsS RX3 86 yX3_of wsX3_of) := goodIn_app (goodIn_r _ [2, 3, 4] rfl (by decide +kernel)) ggX3_teethThat_X3_of
theorem dX3_teethThat_0 : decode cX3_teethThat 0 = .ok (.iconst 0, 1) := by decide +kernel
theorem dX3_teethThat_1 : decode cX3_teethThat 1 = .ok (.istore_n 2, 1) := by decide +kernel
theorem dX3_teethThat_2 : decode cX3_teethThat 2 = .ok (.iconst 0, 1) := by decide +kernel
theorem dX3_teethThat_3 : decode cX3_teethThat 3 = .ok (.istore_n 3, 1) := by decide +kernel
theorem dX3_teethThat_4 : decode cX3_teethThat 4 = .ok (.iload_n 3, 1) := by decide +kernel
theorem dX3_teethThat_5 : decode cX3_teethThat 5 = .ok (.bipush 12, 2) := by decide +kernel
theorem dX3_teethThat_7 : decode cX3_teethThat 7 = .ok (.if_icmp .ge 30, 3) := by decide +kernel
theorem dX3_teethThat_10 : decode cX3_teethThat 10 = .ok (.iload_n 2, 1) := by decide +kernel
theorem dX3_teethThat_11 : decode cX3_teethThat 11 = .ok (.aload_n 0, 1) := by decide +kernel
theorem dX3_teethThat_12 : decode cX3_teethThat 12 = .ok (.getfield 7, 3) := by decide +kernel
theorem dX3_teethThat_15 : decode cX3_teethThat 15 = .ok (.iload_n 3, 1) := by decide +kernel
theorem dX3_teethThat_16 : decode cX3_teethThat 16 = .ok (.iload_n 1, 1) := by decide +kernel
theorem dX3_teethThat_17 : decode cX3_teethThat 17 = .ok (.invokestatic 86, 3) := by decide +kernel
theorem dX3_teethThat_20 : decode cX3_teethThat 20 = .ok (.iaload, 1) := by decide +kernel
theorem dX3_teethThat_21 : decode cX3_teethThat 21 = .ok (.ifCond .le 7, 3) := by decide +kernel
theorem dX3_teethThat_24 : decode cX3_teethThat 24 = .ok (.iconst 1, 1) := by decide +kernel
theorem dX3_teethThat_25 : decode cX3_teethThat 25 = .ok (.goto 4, 3) := by decide +kernel
theorem dX3_teethThat_28 : decode cX3_teethThat 28 = .ok (.iconst 0, 1) := by decide +kernel
theorem dX3_teethThat_29 : decode cX3_teethThat 29 = .ok (.iadd, 1) := by decide +kernel
theorem dX3_teethThat_30 : decode cX3_teethThat 30 = .ok (.istore_n 2, 1) := by decide +kernel
theorem dX3_teethThat_31 : decode cX3_teethThat 31 = .ok (.iinc 3 1, 3) := by decide +kernel
theorem dX3_teethThat_34 : decode cX3_teethThat 34 = .ok (.goto (-30), 3) := by decide +kernel
theorem dX3_teethThat_37 : decode cX3_teethThat 37 = .ok (.iload_n 2, 1) := by decide +kernel
theorem dX3_teethThat_38 : decode cX3_teethThat 38 = .ok (.ireturn, 1) := by decide +kernel
set_option maxRecDepth 20000 in
theorem ggX3_counted_X3_teethThat : GoodIn wsX3_counted wsX3_teethThat := goodIn_r _ [7, 1, 8, 9, 6, 10, 25, 26, 27, 28, 29, 30, 31, 32, 33, 34, 35, 36, 37] rfl (by decide +kernel)
set_option maxRecDepth 20000 in
theorem gX3_counted_X3_teethThat : GoodIn wsX3_counted (wsV RX3 172 RX3 yX3_teethThat wsX3_teethThat) := goodIn_app (goodIn_r _ [3, 4, 5, 6] rfl (by decide +kernel)) ggX3_counted_X3_teethThat
set_option maxRecDepth 20000 in
theorem ggX3_counted_X3_allPins : GoodIn wsX3_counted wsX3_allPins := goodIn_r _ [14, 15, 16, 17, 6, 18, 1, 19, 20, 21, 22, 23, 24, 25, 26, 27, 28, 29, 30, 31, 32, 33, 34, 35, 36, 37] rfl (by decide +kernel)
set_option maxRecDepth 20000 in
theorem gX3_counted_X3_allPins : GoodIn wsX3_counted (wsV RX3 154 RX3 yX3_allPins wsX3_allPins) := goodIn_app (goodIn_r _ [11, 12, 13, 6] rfl (by decide +kernel)) ggX3_counted_X3_allPins
theorem dX3_counted_0 : decode cX3_counted 0 = .ok (.iload_n 1, 1) := by decide +kernel
theorem dX3_counted_1 : decode cX3_counted 1 = .ok (.tableswitch 100 8 17 #[55, 61, 67, 72, 81, 81, 81, 81, 81, 95], 55) := by decide +kernel
theorem dX3_counted_56 : decode cX3_counted 56 = .ok (.aload_n 0, 1) := by decide +kernel
theorem dX3_counted_57 : decode cX3_counted 57 = .ok (.iconst 0, 1) := by decide +kernel
theorem dX3_counted_58 : decode cX3_counted 58 = .ok (.invokevirtual 172, 3) := by decide +kernel
theorem dX3_counted_61 : decode cX3_counted 61 = .ok (.ireturn, 1) := by decide +kernel
theorem dX3_counted_62 : decode cX3_counted 62 = .ok (.aload_n 0, 1) := by decide +kernel
theorem dX3_counted_63 : decode cX3_counted 63 = .ok (.iconst 2, 1) := by decide +kernel
theorem dX3_counted_64 : decode cX3_counted 64 = .ok (.invokevirtual 172, 3) := by decide +kernel
theorem dX3_counted_67 : decode cX3_counted 67 = .ok (.ireturn, 1) := by decide +kernel
theorem dX3_counted_68 : decode cX3_counted 68 = .ok (.aload_n 0, 1) := by decide +kernel
theorem dX3_counted_69 : decode cX3_counted 69 = .ok (.invokevirtual 154, 3) := by decide +kernel
theorem dX3_counted_72 : decode cX3_counted 72 = .ok (.ireturn, 1) := by decide +kernel
theorem dX3_counted_73 : decode cX3_counted 73 = .ok (.aload_n 0, 1) := by decide +kernel
theorem dX3_counted_74 : decode cX3_counted 74 = .ok (.getfield 7, 3) := by decide +kernel
theorem dX3_counted_77 : decode cX3_counted 77 = .ok (.sipush 141, 3) := by decide +kernel
theorem dX3_counted_80 : decode cX3_counted 80 = .ok (.iaload, 1) := by decide +kernel
theorem dX3_counted_81 : decode cX3_counted 81 = .ok (.ireturn, 1) := by decide +kernel
theorem dX3_counted_82 : decode cX3_counted 82 = .ok (.aload_n 0, 1) := by decide +kernel
theorem dX3_counted_83 : decode cX3_counted 83 = .ok (.getfield 7, 3) := by decide +kernel
theorem dX3_counted_86 : decode cX3_counted 86 = .ok (.sipush 142, 3) := by decide +kernel
theorem dX3_counted_89 : decode cX3_counted 89 = .ok (.iload_n 1, 1) := by decide +kernel
theorem dX3_counted_90 : decode cX3_counted 90 = .ok (.iadd, 1) := by decide +kernel
theorem dX3_counted_91 : decode cX3_counted 91 = .ok (.bipush 12, 2) := by decide +kernel
theorem dX3_counted_93 : decode cX3_counted 93 = .ok (.isub, 1) := by decide +kernel
theorem dX3_counted_94 : decode cX3_counted 94 = .ok (.iaload, 1) := by decide +kernel
theorem dX3_counted_95 : decode cX3_counted 95 = .ok (.ireturn, 1) := by decide +kernel
theorem dX3_counted_96 : decode cX3_counted 96 = .ok (.aload_n 0, 1) := by decide +kernel
theorem dX3_counted_97 : decode cX3_counted 97 = .ok (.getfield 43, 3) := by decide +kernel
theorem dX3_counted_100 : decode cX3_counted 100 = .ok (.ireturn, 1) := by decide +kernel
theorem dX3_counted_101 : decode cX3_counted 101 = .ok (.aload_n 0, 1) := by decide +kernel
theorem dX3_counted_102 : decode cX3_counted 102 = .ok (.getfield 7, 3) := by decide +kernel
theorem dX3_counted_105 : decode cX3_counted 105 = .ok (.sipush 133, 3) := by decide +kernel
theorem dX3_counted_108 : decode cX3_counted 108 = .ok (.iload_n 1, 1) := by decide +kernel
theorem dX3_counted_109 : decode cX3_counted 109 = .ok (.iadd, 1) := by decide +kernel
theorem dX3_counted_110 : decode cX3_counted 110 = .ok (.iaload, 1) := by decide +kernel
theorem dX3_counted_111 : decode cX3_counted 111 = .ok (.ireturn, 1) := by decide +kernel
set_option maxRecDepth 20000 in
theorem ggX3_count_X3_in : GoodIn wsX3_count wsX3_in := goodIn_r _ [4] rfl (by decide +kernel)
set_option maxRecDepth 20000 in
theorem gX3_count_X3_in : GoodIn wsX3_count (va_wsS RX3 29 yX3_in wsX3_in) := goodIn_app (goodIn_r _ [1, 2, 3] rfl (by decide +kernel)) ggX3_count_X3_in
set_option maxRecDepth 20000 in
theorem ggX3_count_X3_holds : GoodIn wsX3_count wsX3_holds := goodIn_r _ [8, 9, 37, 38, 39, 40, 41, 42, 43, 44, 45, 46, 47, 48, 49] rfl (by decide +kernel)
set_option maxRecDepth 20000 in
theorem gX3_count_X3_holds : GoodIn wsX3_count (wsV RX3 73 RX3 yX3_holds wsX3_holds) := goodIn_app (goodIn_r _ [5, 6, 7, 3] rfl (by decide +kernel)) ggX3_count_X3_holds
set_option maxRecDepth 20000 in
theorem ggX3_count_X3_counted : GoodIn wsX3_count wsX3_counted := goodIn_r _ [13, 14, 15, 16, 17, 18, 3, 19, 20, 21, 22, 23, 24, 25, 26, 27, 28, 29, 30, 31, 32, 33, 34, 35, 36, 37, 38, 39, 40, 41, 42, 43, 44, 45, 46, 47, 48, 49] rfl (by decide +kernel)
set_option maxRecDepth 20000 in
theorem gX3_count_X3_counted : GoodIn wsX3_count (wsV RX3 175 RX3 yX3_counted wsX3_counted) := goodIn_app (goodIn_r _ [10, 11, 12, 3] rfl (by decide +kernel)) ggX3_count_X3_counted
theorem dX3_count_0 : decode cX3_count 0 = .ok (.aload_n 0, 1) := by decide +kernel
theorem dX3_count_1 : decode cX3_count 1 = .ok (.iload_n 1, 1) := by decide +kernel
theorem dX3_count_2 : decode cX3_count 2 = .ok (.iconst 0, 1) := by decide +kernel
theorem dX3_count_3 : decode cX3_count 3 = .ok (.bipush 17, 2) := by decide +kernel
theorem dX3_count_5 : decode cX3_count 5 = .ok (.invokestatic 29, 3) := by decide +kernel
theorem dX3_count_8 : decode cX3_count 8 = .ok (.ifCond .eq 7, 3) := by decide +kernel
theorem dX3_count_11 : decode cX3_count 11 = .ok (.iconst 0, 1) := by decide +kernel
theorem dX3_count_12 : decode cX3_count 12 = .ok (.goto 4, 3) := by decide +kernel
theorem dX3_count_15 : decode cX3_count 15 = .ok (.iconst 1, 1) := by decide +kernel
theorem dX3_count_16 : decode cX3_count 16 = .ok (.invokevirtual 73, 3) := by decide +kernel
theorem dX3_count_19 : decode cX3_count 19 = .ok (.ifCond .eq 11, 3) := by decide +kernel
theorem dX3_count_22 : decode cX3_count 22 = .ok (.aload_n 0, 1) := by decide +kernel
theorem dX3_count_23 : decode cX3_count 23 = .ok (.iload_n 1, 1) := by decide +kernel
theorem dX3_count_24 : decode cX3_count 24 = .ok (.invokevirtual 175, 3) := by decide +kernel
theorem dX3_count_27 : decode cX3_count 27 = .ok (.goto 4, 3) := by decide +kernel
theorem dX3_count_30 : decode cX3_count 30 = .ok (.iconst 0, 1) := by decide +kernel
theorem dX3_count_31 : decode cX3_count 31 = .ok (.ireturn, 1) := by decide +kernel
set_option maxRecDepth 20000 in
theorem ggX3_wouldBe_X3_putAside : GoodIn wsX3_wouldBe wsX3_putAside := goodIn_r _ [7, 2, 1, 54, 55, 56, 57, 58, 59, 60, 61, 62, 63, 64, 65, 66] rfl (by decide +kernel)
set_option maxRecDepth 20000 in
theorem gX3_wouldBe_X3_putAside : GoodIn wsX3_wouldBe (wsV RX3 178 RX3 yX3_putAside wsX3_putAside) := goodIn_app (goodIn_r _ [3, 4, 5, 6] rfl (by decide +kernel)) ggX3_wouldBe_X3_putAside
set_option maxRecDepth 20000 in
theorem ggX3_wouldBe_X3_teethThat : GoodIn wsX3_wouldBe wsX3_teethThat := goodIn_r _ [11, 1, 12, 13, 6, 14, 54, 55, 56, 57, 58, 59, 60, 61, 62, 63, 64, 65, 66] rfl (by decide +kernel)
set_option maxRecDepth 20000 in
theorem gX3_wouldBe_X3_teethThat : GoodIn wsX3_wouldBe (wsV RX3 172 RX3 yX3_teethThat wsX3_teethThat) := goodIn_app (goodIn_r _ [8, 9, 10, 6] rfl (by decide +kernel)) ggX3_wouldBe_X3_teethThat
set_option maxRecDepth 20000 in
theorem ggX3_wouldBe_X3_goesOn : GoodIn wsX3_wouldBe wsX3_goesOn := goodIn_r _ [18, 19, 20, 21, 6, 22, 1, 23, 24, 25, 26, 27, 28, 29, 30, 31, 32, 33, 34, 35, 36, 37, 38, 39, 40, 41, 12, 13, 14, 42, 43, 44, 45, 46, 47, 48, 49, 54, 55, 56, 57, 58, 59, 60, 61, 62, 63, 64, 65, 66] rfl (by decide +kernel)
set_option maxRecDepth 20000 in
theorem gX3_wouldBe_X3_goesOn : GoodIn wsX3_wouldBe (wsV RX3 107 RX3 yX3_goesOn wsX3_goesOn) := goodIn_app (goodIn_r _ [15, 16, 17, 6] rfl (by decide +kernel)) ggX3_wouldBe_X3_goesOn
set_option maxRecDepth 20000 in
theorem ggX3_wouldBe_X3_putBack : GoodIn wsX3_wouldBe wsX3_putBack := goodIn_r _ [53, 1, 2, 54, 55, 56, 57, 58, 59, 60, 61, 62, 63, 64, 65, 66] rfl (by decide +kernel)
set_option maxRecDepth 20000 in
theorem gX3_wouldBe_X3_putBack : GoodIn wsX3_wouldBe (wsV RX3 181 RX3 yX3_putBack wsX3_putBack) := goodIn_app (goodIn_r _ [50, 51, 52, 6] rfl (by decide +kernel)) ggX3_wouldBe_X3_putBack
theorem dX3_wouldBe_0 : decode cX3_wouldBe 0 = .ok (.aload_n 0, 1) := by decide +kernel
theorem dX3_wouldBe_1 : decode cX3_wouldBe 1 = .ok (.invokevirtual 178, 3) := by decide +kernel
theorem dX3_wouldBe_4 : decode cX3_wouldBe 4 = .ok (.aload_n 0, 1) := by decide +kernel
theorem dX3_wouldBe_5 : decode cX3_wouldBe 5 = .ok (.iconst 2, 1) := by decide +kernel
theorem dX3_wouldBe_6 : decode cX3_wouldBe 6 = .ok (.invokevirtual 172, 3) := by decide +kernel
theorem dX3_wouldBe_9 : decode cX3_wouldBe 9 = .ok (.istore_n 3, 1) := by decide +kernel
theorem dX3_wouldBe_10 : decode cX3_wouldBe 10 = .ok (.aload_n 0, 1) := by decide +kernel
theorem dX3_wouldBe_11 : decode cX3_wouldBe 11 = .ok (.iload_n 1, 1) := by decide +kernel
theorem dX3_wouldBe_12 : decode cX3_wouldBe 12 = .ok (.invokevirtual 107, 3) := by decide +kernel
theorem dX3_wouldBe_15 : decode cX3_wouldBe 15 = .ok (.istore 4, 2) := by decide +kernel
theorem dX3_wouldBe_17 : decode cX3_wouldBe 17 = .ok (.aload_n 0, 1) := by decide +kernel
theorem dX3_wouldBe_18 : decode cX3_wouldBe 18 = .ok (.getfield 7, 3) := by decide +kernel
theorem dX3_wouldBe_21 : decode cX3_wouldBe 21 = .ok (.sipush 139, 3) := by decide +kernel
theorem dX3_wouldBe_24 : decode cX3_wouldBe 24 = .ok (.iaload, 1) := by decide +kernel
theorem dX3_wouldBe_25 : decode cX3_wouldBe 25 = .ok (.aload_n 0, 1) := by decide +kernel
theorem dX3_wouldBe_26 : decode cX3_wouldBe 26 = .ok (.getfield 13, 3) := by decide +kernel
theorem dX3_wouldBe_29 : decode cX3_wouldBe 29 = .ok (.sipush 139, 3) := by decide +kernel
theorem dX3_wouldBe_32 : decode cX3_wouldBe 32 = .ok (.iaload, 1) := by decide +kernel
theorem dX3_wouldBe_33 : decode cX3_wouldBe 33 = .ok (.isub, 1) := by decide +kernel
theorem dX3_wouldBe_34 : decode cX3_wouldBe 34 = .ok (.istore 5, 2) := by decide +kernel
theorem dX3_wouldBe_36 : decode cX3_wouldBe 36 = .ok (.aload_n 0, 1) := by decide +kernel
theorem dX3_wouldBe_37 : decode cX3_wouldBe 37 = .ok (.getfield 7, 3) := by decide +kernel
theorem dX3_wouldBe_40 : decode cX3_wouldBe 40 = .ok (.sipush 140, 3) := by decide +kernel
theorem dX3_wouldBe_43 : decode cX3_wouldBe 43 = .ok (.iaload, 1) := by decide +kernel
theorem dX3_wouldBe_44 : decode cX3_wouldBe 44 = .ok (.aload_n 0, 1) := by decide +kernel
theorem dX3_wouldBe_45 : decode cX3_wouldBe 45 = .ok (.getfield 13, 3) := by decide +kernel
theorem dX3_wouldBe_48 : decode cX3_wouldBe 48 = .ok (.sipush 140, 3) := by decide +kernel
theorem dX3_wouldBe_51 : decode cX3_wouldBe 51 = .ok (.iaload, 1) := by decide +kernel
theorem dX3_wouldBe_52 : decode cX3_wouldBe 52 = .ok (.isub, 1) := by decide +kernel
theorem dX3_wouldBe_53 : decode cX3_wouldBe 53 = .ok (.istore 6, 2) := by decide +kernel
theorem dX3_wouldBe_55 : decode cX3_wouldBe 55 = .ok (.aload_n 0, 1) := by decide +kernel
theorem dX3_wouldBe_56 : decode cX3_wouldBe 56 = .ok (.getfield 7, 3) := by decide +kernel
theorem dX3_wouldBe_59 : decode cX3_wouldBe 59 = .ok (.sipush 137, 3) := by decide +kernel
theorem dX3_wouldBe_62 : decode cX3_wouldBe 62 = .ok (.iaload, 1) := by decide +kernel
theorem dX3_wouldBe_63 : decode cX3_wouldBe 63 = .ok (.aload_n 0, 1) := by decide +kernel
theorem dX3_wouldBe_64 : decode cX3_wouldBe 64 = .ok (.getfield 13, 3) := by decide +kernel
theorem dX3_wouldBe_67 : decode cX3_wouldBe 67 = .ok (.sipush 137, 3) := by decide +kernel
theorem dX3_wouldBe_70 : decode cX3_wouldBe 70 = .ok (.iaload, 1) := by decide +kernel
theorem dX3_wouldBe_71 : decode cX3_wouldBe 71 = .ok (.isub, 1) := by decide +kernel
theorem dX3_wouldBe_72 : decode cX3_wouldBe 72 = .ok (.istore 7, 2) := by decide +kernel
theorem dX3_wouldBe_74 : decode cX3_wouldBe 74 = .ok (.aload_n 0, 1) := by decide +kernel
theorem dX3_wouldBe_75 : decode cX3_wouldBe 75 = .ok (.iconst 2, 1) := by decide +kernel
theorem dX3_wouldBe_76 : decode cX3_wouldBe 76 = .ok (.invokevirtual 172, 3) := by decide +kernel
theorem dX3_wouldBe_79 : decode cX3_wouldBe 79 = .ok (.iload_n 3, 1) := by decide +kernel
theorem dX3_wouldBe_80 : decode cX3_wouldBe 80 = .ok (.isub, 1) := by decide +kernel
theorem dX3_wouldBe_81 : decode cX3_wouldBe 81 = .ok (.istore_n 3, 1) := by decide +kernel
theorem dX3_wouldBe_82 : decode cX3_wouldBe 82 = .ok (.aload_n 0, 1) := by decide +kernel
theorem dX3_wouldBe_83 : decode cX3_wouldBe 83 = .ok (.invokevirtual 181, 3) := by decide +kernel
theorem dX3_wouldBe_86 : decode cX3_wouldBe 86 = .ok (.iload_n 2, 1) := by decide +kernel
theorem dX3_wouldBe_87 : decode cX3_wouldBe 87 = .ok (.ifCond .ne 8, 3) := by decide +kernel
theorem dX3_wouldBe_90 : decode cX3_wouldBe 90 = .ok (.iload 4, 2) := by decide +kernel
theorem dX3_wouldBe_92 : decode cX3_wouldBe 92 = .ok (.goto 34, 3) := by decide +kernel
theorem dX3_wouldBe_95 : decode cX3_wouldBe 95 = .ok (.iload_n 2, 1) := by decide +kernel
theorem dX3_wouldBe_96 : decode cX3_wouldBe 96 = .ok (.iconst 1, 1) := by decide +kernel
theorem dX3_wouldBe_97 : decode cX3_wouldBe 97 = .ok (.if_icmp .ne 8, 3) := by decide +kernel
theorem dX3_wouldBe_100 : decode cX3_wouldBe 100 = .ok (.iload 5, 2) := by decide +kernel
theorem dX3_wouldBe_102 : decode cX3_wouldBe 102 = .ok (.goto 24, 3) := by decide +kernel
theorem dX3_wouldBe_105 : decode cX3_wouldBe 105 = .ok (.iload_n 2, 1) := by decide +kernel
theorem dX3_wouldBe_106 : decode cX3_wouldBe 106 = .ok (.iconst 2, 1) := by decide +kernel
theorem dX3_wouldBe_107 : decode cX3_wouldBe 107 = .ok (.if_icmp .ne 8, 3) := by decide +kernel
theorem dX3_wouldBe_110 : decode cX3_wouldBe 110 = .ok (.iload 6, 2) := by decide +kernel
theorem dX3_wouldBe_112 : decode cX3_wouldBe 112 = .ok (.goto 14, 3) := by decide +kernel
theorem dX3_wouldBe_115 : decode cX3_wouldBe 115 = .ok (.iload_n 2, 1) := by decide +kernel
theorem dX3_wouldBe_116 : decode cX3_wouldBe 116 = .ok (.iconst 3, 1) := by decide +kernel
theorem dX3_wouldBe_117 : decode cX3_wouldBe 117 = .ok (.if_icmp .ne 8, 3) := by decide +kernel
theorem dX3_wouldBe_120 : decode cX3_wouldBe 120 = .ok (.iload 7, 2) := by decide +kernel
theorem dX3_wouldBe_122 : decode cX3_wouldBe 122 = .ok (.goto 4, 3) := by decide +kernel
theorem dX3_wouldBe_125 : decode cX3_wouldBe 125 = .ok (.iload_n 3, 1) := by decide +kernel
theorem dX3_wouldBe_126 : decode cX3_wouldBe 126 = .ok (.ireturn, 1) := by decide +kernel
set_option maxRecDepth 20000 in
theorem ggX3_ifPlayed_X3_in : GoodIn wsX3_ifPlayed wsX3_in := goodIn_r _ [4] rfl (by decide +kernel)
set_option maxRecDepth 20000 in
theorem gX3_ifPlayed_X3_in : GoodIn wsX3_ifPlayed (va_wsS RX3 29 yX3_in wsX3_in) := goodIn_app (goodIn_r _ [1, 2, 3] rfl (by decide +kernel)) ggX3_ifPlayed_X3_in
set_option maxRecDepth 20000 in
theorem ggX3_ifPlayed_X3_holds : GoodIn wsX3_ifPlayed wsX3_holds := goodIn_r _ [8, 9, 66, 67, 68, 69, 70, 71, 72, 73, 74, 75, 76, 77, 78] rfl (by decide +kernel)
set_option maxRecDepth 20000 in
theorem gX3_ifPlayed_X3_holds : GoodIn wsX3_ifPlayed (wsV RX3 73 RX3 yX3_holds wsX3_holds) := goodIn_app (goodIn_r _ [5, 6, 7, 3] rfl (by decide +kernel)) ggX3_ifPlayed_X3_holds
set_option maxRecDepth 20000 in
theorem ggX3_ifPlayed_X3_wouldBe : GoodIn wsX3_ifPlayed wsX3_wouldBe := goodIn_r _ [13, 14, 15, 16, 17, 18, 3, 19, 20, 21, 22, 23, 24, 25, 26, 27, 28, 29, 30, 31, 32, 33, 34, 35, 36, 37, 38, 39, 40, 41, 42, 43, 44, 45, 46, 47, 48, 49, 50, 51, 52, 53, 54, 55, 56, 57, 58, 59, 60, 61, 62, 63, 64, 65, 66, 67, 68, 69, 70, 71, 72, 73, 74, 75, 76, 77, 78] rfl (by decide +kernel)
set_option maxRecDepth 20000 in
theorem gX3_ifPlayed_X3_wouldBe : GoodIn wsX3_ifPlayed (wsV RX3 184 RX3 yX3_wouldBe wsX3_wouldBe) := goodIn_app (goodIn_r _ [10, 11, 12, 3] rfl (by decide +kernel)) ggX3_ifPlayed_X3_wouldBe
theorem dX3_ifPlayed_0 : decode cX3_ifPlayed 0 = .ok (.aload_n 0, 1) := by decide +kernel
theorem dX3_ifPlayed_1 : decode cX3_ifPlayed 1 = .ok (.iload_n 1, 1) := by decide +kernel
theorem dX3_ifPlayed_2 : decode cX3_ifPlayed 2 = .ok (.iconst 1, 1) := by decide +kernel
theorem dX3_ifPlayed_3 : decode cX3_ifPlayed 3 = .ok (.sipush 128, 3) := by decide +kernel
theorem dX3_ifPlayed_6 : decode cX3_ifPlayed 6 = .ok (.invokestatic 29, 3) := by decide +kernel
theorem dX3_ifPlayed_9 : decode cX3_ifPlayed 9 = .ok (.ifCond .eq 16, 3) := by decide +kernel
theorem dX3_ifPlayed_12 : decode cX3_ifPlayed 12 = .ok (.iload_n 2, 1) := by decide +kernel
theorem dX3_ifPlayed_13 : decode cX3_ifPlayed 13 = .ok (.iconst 0, 1) := by decide +kernel
theorem dX3_ifPlayed_14 : decode cX3_ifPlayed 14 = .ok (.iconst 4, 1) := by decide +kernel
theorem dX3_ifPlayed_15 : decode cX3_ifPlayed 15 = .ok (.invokestatic 29, 3) := by decide +kernel
theorem dX3_ifPlayed_18 : decode cX3_ifPlayed 18 = .ok (.ifCond .eq 7, 3) := by decide +kernel
theorem dX3_ifPlayed_21 : decode cX3_ifPlayed 21 = .ok (.iconst 0, 1) := by decide +kernel
theorem dX3_ifPlayed_22 : decode cX3_ifPlayed 22 = .ok (.goto 4, 3) := by decide +kernel
theorem dX3_ifPlayed_25 : decode cX3_ifPlayed 25 = .ok (.iconst 1, 1) := by decide +kernel
theorem dX3_ifPlayed_26 : decode cX3_ifPlayed 26 = .ok (.invokevirtual 73, 3) := by decide +kernel
theorem dX3_ifPlayed_29 : decode cX3_ifPlayed 29 = .ok (.ifCond .eq 12, 3) := by decide +kernel
theorem dX3_ifPlayed_32 : decode cX3_ifPlayed 32 = .ok (.aload_n 0, 1) := by decide +kernel
theorem dX3_ifPlayed_33 : decode cX3_ifPlayed 33 = .ok (.iload_n 1, 1) := by decide +kernel
theorem dX3_ifPlayed_34 : decode cX3_ifPlayed 34 = .ok (.iload_n 2, 1) := by decide +kernel
theorem dX3_ifPlayed_35 : decode cX3_ifPlayed 35 = .ok (.invokevirtual 184, 3) := by decide +kernel
theorem dX3_ifPlayed_38 : decode cX3_ifPlayed 38 = .ok (.goto 4, 3) := by decide +kernel
theorem dX3_ifPlayed_41 : decode cX3_ifPlayed 41 = .ok (.iconst 0, 1) := by decide +kernel
theorem dX3_ifPlayed_42 : decode cX3_ifPlayed 42 = .ok (.ireturn, 1) := by decide +kernel
set_option maxRecDepth 20000 in
theorem ggX3_quietVanes_X3_wouldBe : GoodIn wsX3_quietVanes wsX3_wouldBe := goodIn_r _ [6, 1, 7, 8, 9, 10, 5, 11, 12, 13, 14, 15, 16, 17, 18, 19, 20, 21, 22, 23, 24, 25, 26, 27, 28, 29, 30, 31, 32, 33, 34, 35, 36, 37, 38, 39, 40, 41, 42, 43, 44, 45, 46, 47, 48, 49, 50, 51, 52, 53, 54, 55, 56, 57, 58, 59, 60, 61, 62, 63, 64, 65, 66, 67, 68, 69, 70] rfl (by decide +kernel)
set_option maxRecDepth 20000 in
theorem gX3_quietVanes_X3_wouldBe : GoodIn wsX3_quietVanes (wsV RX3 184 RX3 yX3_wouldBe wsX3_wouldBe) := goodIn_app (goodIn_r _ [2, 3, 4, 5] rfl (by decide +kernel)) ggX3_quietVanes_X3_wouldBe
theorem dX3_quietVanes_0 : decode cX3_quietVanes 0 = .ok (.aload_n 0, 1) := by decide +kernel
theorem dX3_quietVanes_1 : decode cX3_quietVanes 1 = .ok (.getfield 7, 3) := by decide +kernel
theorem dX3_quietVanes_4 : decode cX3_quietVanes 4 = .ok (.sipush 136, 3) := by decide +kernel
theorem dX3_quietVanes_7 : decode cX3_quietVanes 7 = .ok (.iaload, 1) := by decide +kernel
theorem dX3_quietVanes_8 : decode cX3_quietVanes 8 = .ok (.istore_n 1, 1) := by decide +kernel
theorem dX3_quietVanes_9 : decode cX3_quietVanes 9 = .ok (.iconst (-1), 1) := by decide +kernel
theorem dX3_quietVanes_10 : decode cX3_quietVanes 10 = .ok (.istore_n 2, 1) := by decide +kernel
theorem dX3_quietVanes_11 : decode cX3_quietVanes 11 = .ok (.bipush 9, 2) := by decide +kernel
theorem dX3_quietVanes_13 : decode cX3_quietVanes 13 = .ok (.istore_n 3, 1) := by decide +kernel
theorem dX3_quietVanes_14 : decode cX3_quietVanes 14 = .ok (.iload_n 3, 1) := by decide +kernel
theorem dX3_quietVanes_15 : decode cX3_quietVanes 15 = .ok (.ifCond .le 34, 3) := by decide +kernel
theorem dX3_quietVanes_18 : decode cX3_quietVanes 18 = .ok (.aload_n 0, 1) := by decide +kernel
theorem dX3_quietVanes_19 : decode cX3_quietVanes 19 = .ok (.getfield 7, 3) := by decide +kernel
theorem dX3_quietVanes_22 : decode cX3_quietVanes 22 = .ok (.sipush 136, 3) := by decide +kernel
theorem dX3_quietVanes_25 : decode cX3_quietVanes 25 = .ok (.iload_n 3, 1) := by decide +kernel
theorem dX3_quietVanes_26 : decode cX3_quietVanes 26 = .ok (.iastore, 1) := by decide +kernel
theorem dX3_quietVanes_27 : decode cX3_quietVanes 27 = .ok (.aload_n 0, 1) := by decide +kernel
theorem dX3_quietVanes_28 : decode cX3_quietVanes 28 = .ok (.bipush 32, 2) := by decide +kernel
theorem dX3_quietVanes_30 : decode cX3_quietVanes 30 = .ok (.iconst 2, 1) := by decide +kernel
theorem dX3_quietVanes_31 : decode cX3_quietVanes 31 = .ok (.invokevirtual 184, 3) := by decide +kernel
theorem dX3_quietVanes_34 : decode cX3_quietVanes 34 = .ok (.ifCond .ne 7, 3) := by decide +kernel
theorem dX3_quietVanes_37 : decode cX3_quietVanes 37 = .ok (.iload_n 3, 1) := by decide +kernel
theorem dX3_quietVanes_38 : decode cX3_quietVanes 38 = .ok (.goto 4, 3) := by decide +kernel
theorem dX3_quietVanes_41 : decode cX3_quietVanes 41 = .ok (.iload_n 2, 1) := by decide +kernel
theorem dX3_quietVanes_42 : decode cX3_quietVanes 42 = .ok (.istore_n 2, 1) := by decide +kernel
theorem dX3_quietVanes_43 : decode cX3_quietVanes 43 = .ok (.iinc 3 (-1), 3) := by decide +kernel
theorem dX3_quietVanes_46 : decode cX3_quietVanes 46 = .ok (.goto (-32), 3) := by decide +kernel
theorem dX3_quietVanes_49 : decode cX3_quietVanes 49 = .ok (.aload_n 0, 1) := by decide +kernel
theorem dX3_quietVanes_50 : decode cX3_quietVanes 50 = .ok (.getfield 7, 3) := by decide +kernel
theorem dX3_quietVanes_53 : decode cX3_quietVanes 53 = .ok (.sipush 136, 3) := by decide +kernel
theorem dX3_quietVanes_56 : decode cX3_quietVanes 56 = .ok (.iload_n 1, 1) := by decide +kernel
theorem dX3_quietVanes_57 : decode cX3_quietVanes 57 = .ok (.iastore, 1) := by decide +kernel
theorem dX3_quietVanes_58 : decode cX3_quietVanes 58 = .ok (.iload_n 2, 1) := by decide +kernel
theorem dX3_quietVanes_59 : decode cX3_quietVanes 59 = .ok (.ireturn, 1) := by decide +kernel
set_option maxRecDepth 20000 in
theorem ggX3_fewestVanes_X3_quietVanes : GoodIn wsX3_fewestVanes wsX3_quietVanes := goodIn_r _ [6, 7, 8, 9, 10, 5, 11, 12, 13, 14, 15, 16, 17, 18, 19, 20, 21, 22, 23, 24, 25, 26, 27, 28, 29, 30, 31, 32, 33, 34, 35, 36, 37, 38, 39, 40, 41, 42, 43, 44, 45, 46, 47, 48, 49, 50, 51, 52, 53, 54, 55, 56, 57, 58, 59, 60, 61, 62, 63, 64, 65, 66, 67, 68, 69, 70, 71, 72, 73, 74, 75] rfl (by decide +kernel)
set_option maxRecDepth 20000 in
theorem gX3_fewestVanes_X3_quietVanes : GoodIn wsX3_fewestVanes (wsV RX3 187 RX3 yX3_quietVanes wsX3_quietVanes) := goodIn_app (goodIn_r _ [2, 3, 4, 5] rfl (by decide +kernel)) ggX3_fewestVanes_X3_quietVanes
theorem dX3_fewestVanes_0 : decode cX3_fewestVanes 0 = .ok (.aload_n 0, 1) := by decide +kernel
theorem dX3_fewestVanes_1 : decode cX3_fewestVanes 1 = .ok (.iconst 0, 1) := by decide +kernel
theorem dX3_fewestVanes_2 : decode cX3_fewestVanes 2 = .ok (.putfield 25, 3) := by decide +kernel
theorem dX3_fewestVanes_5 : decode cX3_fewestVanes 5 = .ok (.aload_n 0, 1) := by decide +kernel
theorem dX3_fewestVanes_6 : decode cX3_fewestVanes 6 = .ok (.invokevirtual 187, 3) := by decide +kernel
theorem dX3_fewestVanes_9 : decode cX3_fewestVanes 9 = .ok (.ireturn, 1) := by decide +kernel
set_option maxRecDepth 20000 in
theorem ggX3_windOf_X3_putAside : GoodIn wsX3_windOf wsX3_putAside := goodIn_r _ [6, 7, 1, 34, 35, 36, 37, 38, 39, 40, 41, 42, 43, 44, 45, 46] rfl (by decide +kernel)
set_option maxRecDepth 20000 in
theorem gX3_windOf_X3_putAside : GoodIn wsX3_windOf (wsV RX3 178 RX3 yX3_putAside wsX3_putAside) := goodIn_app (goodIn_r _ [2, 3, 4, 5] rfl (by decide +kernel)) ggX3_windOf_X3_putAside
set_option maxRecDepth 20000 in
theorem ggX3_windOf_X3_need : GoodIn wsX3_windOf wsX3_need := goodIn_r _ [11, 1, 12, 13, 14, 5, 15, 16, 17, 18, 19, 20, 21, 22, 23, 24, 25, 26, 27, 28, 29, 34, 35, 36, 37, 38, 39, 40, 41, 42, 43, 44, 45, 46] rfl (by decide +kernel)
set_option maxRecDepth 20000 in
theorem gX3_windOf_X3_need : GoodIn wsX3_windOf (wsV RX3 93 RX3 yX3_need wsX3_need) := goodIn_app (goodIn_r _ [8, 9, 10, 5] rfl (by decide +kernel)) ggX3_windOf_X3_need
set_option maxRecDepth 20000 in
theorem ggX3_windOf_X3_nextTune : GoodIn wsX3_windOf wsX3_nextTune := goodIn_r _ [15, 1, 16, 17, 18, 5, 19, 34, 35, 36, 37, 38, 39, 40, 41, 42, 43, 44, 45, 46] rfl (by decide +kernel)
set_option maxRecDepth 20000 in
theorem gX3_windOf_X3_nextTune : GoodIn wsX3_windOf (wsV RX3 83 RX3 yX3_nextTune wsX3_nextTune) := goodIn_app (goodIn_r _ [12, 13, 14, 5] rfl (by decide +kernel)) ggX3_windOf_X3_nextTune
set_option maxRecDepth 20000 in
theorem ggX3_windOf_X3_nextStep : GoodIn wsX3_windOf wsX3_nextStep := goodIn_r _ [19, 1, 34, 35, 36, 37, 38, 39, 40, 41, 42, 43, 44, 45, 46] rfl (by decide +kernel)
set_option maxRecDepth 20000 in
theorem gX3_windOf_X3_nextStep : GoodIn wsX3_windOf (wsV RX3 79 RX3 yX3_nextStep wsX3_nextStep) := goodIn_app (goodIn_r _ [16, 17, 18, 5] rfl (by decide +kernel)) ggX3_windOf_X3_nextStep
set_option maxRecDepth 20000 in
theorem ggX3_windOf_X3_putBack : GoodIn wsX3_windOf wsX3_putBack := goodIn_r _ [33, 1, 7, 34, 35, 36, 37, 38, 39, 40, 41, 42, 43, 44, 45, 46] rfl (by decide +kernel)
set_option maxRecDepth 20000 in
theorem gX3_windOf_X3_putBack : GoodIn wsX3_windOf (wsV RX3 181 RX3 yX3_putBack wsX3_putBack) := goodIn_app (goodIn_r _ [30, 31, 32, 5] rfl (by decide +kernel)) ggX3_windOf_X3_putBack
theorem dX3_windOf_0 : decode cX3_windOf 0 = .ok (.aload_n 0, 1) := by decide +kernel
theorem dX3_windOf_1 : decode cX3_windOf 1 = .ok (.invokevirtual 178, 3) := by decide +kernel
theorem dX3_windOf_4 : decode cX3_windOf 4 = .ok (.iconst 0, 1) := by decide +kernel
theorem dX3_windOf_5 : decode cX3_windOf 5 = .ok (.istore_n 2, 1) := by decide +kernel
theorem dX3_windOf_6 : decode cX3_windOf 6 = .ok (.iconst 0, 1) := by decide +kernel
theorem dX3_windOf_7 : decode cX3_windOf 7 = .ok (.istore_n 3, 1) := by decide +kernel
theorem dX3_windOf_8 : decode cX3_windOf 8 = .ok (.iload_n 3, 1) := by decide +kernel
theorem dX3_windOf_9 : decode cX3_windOf 9 = .ok (.bipush 32, 2) := by decide +kernel
theorem dX3_windOf_11 : decode cX3_windOf 11 = .ok (.iload_n 1, 1) := by decide +kernel
theorem dX3_windOf_12 : decode cX3_windOf 12 = .ok (.imul, 1) := by decide +kernel
theorem dX3_windOf_13 : decode cX3_windOf 13 = .ok (.if_icmp .ge 40, 3) := by decide +kernel
theorem dX3_windOf_16 : decode cX3_windOf 16 = .ok (.iload_n 2, 1) := by decide +kernel
theorem dX3_windOf_17 : decode cX3_windOf 17 = .ok (.aload_n 0, 1) := by decide +kernel
theorem dX3_windOf_18 : decode cX3_windOf 18 = .ok (.invokevirtual 93, 3) := by decide +kernel
theorem dX3_windOf_21 : decode cX3_windOf 21 = .ok (.iadd, 1) := by decide +kernel
theorem dX3_windOf_22 : decode cX3_windOf 22 = .ok (.istore_n 2, 1) := by decide +kernel
theorem dX3_windOf_23 : decode cX3_windOf 23 = .ok (.aload_n 0, 1) := by decide +kernel
theorem dX3_windOf_24 : decode cX3_windOf 24 = .ok (.getfield 7, 3) := by decide +kernel
theorem dX3_windOf_27 : decode cX3_windOf 27 = .ok (.sipush 134, 3) := by decide +kernel
theorem dX3_windOf_30 : decode cX3_windOf 30 = .ok (.aload_n 0, 1) := by decide +kernel
theorem dX3_windOf_31 : decode cX3_windOf 31 = .ok (.invokevirtual 83, 3) := by decide +kernel
theorem dX3_windOf_34 : decode cX3_windOf 34 = .ok (.iastore, 1) := by decide +kernel
theorem dX3_windOf_35 : decode cX3_windOf 35 = .ok (.aload_n 0, 1) := by decide +kernel
theorem dX3_windOf_36 : decode cX3_windOf 36 = .ok (.getfield 7, 3) := by decide +kernel
theorem dX3_windOf_39 : decode cX3_windOf 39 = .ok (.sipush 133, 3) := by decide +kernel
theorem dX3_windOf_42 : decode cX3_windOf 42 = .ok (.aload_n 0, 1) := by decide +kernel
theorem dX3_windOf_43 : decode cX3_windOf 43 = .ok (.invokevirtual 79, 3) := by decide +kernel
theorem dX3_windOf_46 : decode cX3_windOf 46 = .ok (.iastore, 1) := by decide +kernel
theorem dX3_windOf_47 : decode cX3_windOf 47 = .ok (.iinc 3 1, 3) := by decide +kernel
theorem dX3_windOf_50 : decode cX3_windOf 50 = .ok (.goto (-42), 3) := by decide +kernel
theorem dX3_windOf_53 : decode cX3_windOf 53 = .ok (.aload_n 0, 1) := by decide +kernel
theorem dX3_windOf_54 : decode cX3_windOf 54 = .ok (.invokevirtual 181, 3) := by decide +kernel
theorem dX3_windOf_57 : decode cX3_windOf 57 = .ok (.iload_n 2, 1) := by decide +kernel
theorem dX3_windOf_58 : decode cX3_windOf 58 = .ok (.ireturn, 1) := by decide +kernel
set_option maxRecDepth 20000 in
theorem ggX3_windFor_X3_in : GoodIn wsX3_windFor wsX3_in := goodIn_r _ [4] rfl (by decide +kernel)
set_option maxRecDepth 20000 in
theorem gX3_windFor_X3_in : GoodIn wsX3_windFor (va_wsS RX3 29 yX3_in wsX3_in) := goodIn_app (goodIn_r _ [1, 2, 3] rfl (by decide +kernel)) ggX3_windFor_X3_in
set_option maxRecDepth 20000 in
theorem ggX3_windFor_X3_holds : GoodIn wsX3_windFor wsX3_holds := goodIn_r _ [8, 9, 46, 47, 48, 49, 50, 51, 52, 53, 54, 55, 56, 57, 58] rfl (by decide +kernel)
set_option maxRecDepth 20000 in
theorem gX3_windFor_X3_holds : GoodIn wsX3_windFor (wsV RX3 73 RX3 yX3_holds wsX3_holds) := goodIn_app (goodIn_r _ [5, 6, 7, 3] rfl (by decide +kernel)) ggX3_windFor_X3_holds
set_option maxRecDepth 20000 in
theorem ggX3_windFor_X3_windOf : GoodIn wsX3_windFor wsX3_windOf := goodIn_r _ [13, 14, 15, 16, 17, 3, 18, 19, 20, 21, 22, 23, 24, 25, 26, 27, 28, 29, 30, 31, 32, 33, 34, 35, 36, 37, 38, 39, 40, 41, 42, 43, 44, 45, 46, 47, 48, 49, 50, 51, 52, 53, 54, 55, 56, 57, 58] rfl (by decide +kernel)
set_option maxRecDepth 20000 in
theorem gX3_windFor_X3_windOf : GoodIn wsX3_windFor (wsV RX3 190 RX3 yX3_windOf wsX3_windOf) := goodIn_app (goodIn_r _ [10, 11, 12, 3] rfl (by decide +kernel)) ggX3_windFor_X3_windOf
theorem dX3_windFor_0 : decode cX3_windFor 0 = .ok (.aload_n 0, 1) := by decide +kernel
theorem dX3_windFor_1 : decode cX3_windFor 1 = .ok (.iload_n 1, 1) := by decide +kernel
theorem dX3_windFor_2 : decode cX3_windFor 2 = .ok (.iconst 1, 1) := by decide +kernel
theorem dX3_windFor_3 : decode cX3_windFor 3 = .ok (.bipush 9, 2) := by decide +kernel
theorem dX3_windFor_5 : decode cX3_windFor 5 = .ok (.invokestatic 29, 3) := by decide +kernel
theorem dX3_windFor_8 : decode cX3_windFor 8 = .ok (.ifCond .eq 7, 3) := by decide +kernel
theorem dX3_windFor_11 : decode cX3_windFor 11 = .ok (.iconst 0, 1) := by decide +kernel
theorem dX3_windFor_12 : decode cX3_windFor 12 = .ok (.goto 4, 3) := by decide +kernel
theorem dX3_windFor_15 : decode cX3_windFor 15 = .ok (.iconst 1, 1) := by decide +kernel
theorem dX3_windFor_16 : decode cX3_windFor 16 = .ok (.invokevirtual 73, 3) := by decide +kernel
theorem dX3_windFor_19 : decode cX3_windFor 19 = .ok (.ifCond .eq 11, 3) := by decide +kernel
theorem dX3_windFor_22 : decode cX3_windFor 22 = .ok (.aload_n 0, 1) := by decide +kernel
theorem dX3_windFor_23 : decode cX3_windFor 23 = .ok (.iload_n 1, 1) := by decide +kernel
theorem dX3_windFor_24 : decode cX3_windFor 24 = .ok (.invokevirtual 190, 3) := by decide +kernel
theorem dX3_windFor_27 : decode cX3_windFor 27 = .ok (.goto 4, 3) := by decide +kernel
theorem dX3_windFor_30 : decode cX3_windFor 30 = .ok (.iconst 0, 1) := by decide +kernel
theorem dX3_windFor_31 : decode cX3_windFor 31 = .ok (.ireturn, 1) := by decide +kernel
theorem dX3_share_0 : decode cX3_share 0 = .ok (.aload_n 0, 1) := by decide +kernel
theorem dX3_share_1 : decode cX3_share 1 = .ok (.getfield 7, 3) := by decide +kernel
theorem dX3_share_4 : decode cX3_share 4 = .ok (.sipush 139, 3) := by decide +kernel
theorem dX3_share_7 : decode cX3_share 7 = .ok (.iaload, 1) := by decide +kernel
theorem dX3_share_8 : decode cX3_share 8 = .ok (.aload_n 0, 1) := by decide +kernel
theorem dX3_share_9 : decode cX3_share 9 = .ok (.getfield 7, 3) := by decide +kernel
theorem dX3_share_12 : decode cX3_share 12 = .ok (.sipush 140, 3) := by decide +kernel
theorem dX3_share_15 : decode cX3_share 15 = .ok (.iaload, 1) := by decide +kernel
theorem dX3_share_16 : decode cX3_share 16 = .ok (.if_icmp .le 23, 3) := by decide +kernel
theorem dX3_share_19 : decode cX3_share 19 = .ok (.aload_n 0, 1) := by decide +kernel
theorem dX3_share_20 : decode cX3_share 20 = .ok (.getfield 7, 3) := by decide +kernel
theorem dX3_share_23 : decode cX3_share 23 = .ok (.sipush 139, 3) := by decide +kernel
theorem dX3_share_26 : decode cX3_share 26 = .ok (.iaload, 1) := by decide +kernel
theorem dX3_share_27 : decode cX3_share 27 = .ok (.aload_n 0, 1) := by decide +kernel
theorem dX3_share_28 : decode cX3_share 28 = .ok (.getfield 7, 3) := by decide +kernel
theorem dX3_share_31 : decode cX3_share 31 = .ok (.sipush 140, 3) := by decide +kernel
theorem dX3_share_34 : decode cX3_share 34 = .ok (.iaload, 1) := by decide +kernel
theorem dX3_share_35 : decode cX3_share 35 = .ok (.isub, 1) := by decide +kernel
theorem dX3_share_36 : decode cX3_share 36 = .ok (.goto 4, 3) := by decide +kernel
theorem dX3_share_39 : decode cX3_share 39 = .ok (.iconst 0, 1) := by decide +kernel
theorem dX3_share_40 : decode cX3_share 40 = .ok (.istore_n 1, 1) := by decide +kernel
theorem dX3_share_41 : decode cX3_share 41 = .ok (.aload_n 0, 1) := by decide +kernel
theorem dX3_share_42 : decode cX3_share 42 = .ok (.getfield 7, 3) := by decide +kernel
theorem dX3_share_45 : decode cX3_share 45 = .ok (.sipush 139, 3) := by decide +kernel
theorem dX3_share_48 : decode cX3_share 48 = .ok (.iaload, 1) := by decide +kernel
theorem dX3_share_49 : decode cX3_share 49 = .ok (.ifCond .ne 7, 3) := by decide +kernel
theorem dX3_share_52 : decode cX3_share 52 = .ok (.dconst 1, 1) := by decide +kernel
theorem dX3_share_53 : decode cX3_share 53 = .ok (.goto 15, 3) := by decide +kernel
theorem dX3_share_56 : decode cX3_share 56 = .ok (.iload_n 1, 1) := by decide +kernel
theorem dX3_share_57 : decode cX3_share 57 = .ok (.i2d, 1) := by decide +kernel
theorem dX3_share_58 : decode cX3_share 58 = .ok (.aload_n 0, 1) := by decide +kernel
theorem dX3_share_59 : decode cX3_share 59 = .ok (.getfield 7, 3) := by decide +kernel
theorem dX3_share_62 : decode cX3_share 62 = .ok (.sipush 139, 3) := by decide +kernel
theorem dX3_share_65 : decode cX3_share 65 = .ok (.iaload, 1) := by decide +kernel
theorem dX3_share_66 : decode cX3_share 66 = .ok (.i2d, 1) := by decide +kernel
theorem dX3_share_67 : decode cX3_share 67 = .ok (.ddiv, 1) := by decide +kernel
theorem dX3_share_68 : decode cX3_share 68 = .ok (.dreturn, 1) := by decide +kernel
set_option maxRecDepth 20000 in
theorem ggX3_clean_X3_share : GoodIn wsX3_clean wsX3_share := goodIn_r _ [6, 7, 8, 9, 10, 11, 12, 13, 14, 15, 16, 17, 18, 19, 20] rfl (by decide +kernel)
set_option maxRecDepth 20000 in
theorem gX3_clean_X3_share : GoodIn wsX3_clean (wsV RX3 193 RX3 yX3_share wsX3_share) := goodIn_app (goodIn_r _ [2, 3, 4, 5] rfl (by decide +kernel)) ggX3_clean_X3_share
theorem dX3_clean_0 : decode cX3_clean 0 = .ok (.aload_n 0, 1) := by decide +kernel
theorem dX3_clean_1 : decode cX3_clean 1 = .ok (.iconst 0, 1) := by decide +kernel
theorem dX3_clean_2 : decode cX3_clean 2 = .ok (.putfield 25, 3) := by decide +kernel
theorem dX3_clean_5 : decode cX3_clean 5 = .ok (.aload_n 0, 1) := by decide +kernel
theorem dX3_clean_6 : decode cX3_clean 6 = .ok (.invokevirtual 193, 3) := by decide +kernel
theorem dX3_clean_9 : decode cX3_clean 9 = .ok (.dreturn, 1) := by decide +kernel
theorem dX3_bitsOf_0 : decode cX3_bitsOf 0 = .ok (.dload_n 0, 1) := by decide +kernel
theorem dX3_bitsOf_1 : decode cX3_bitsOf 1 = .ok (.dconst 0, 1) := by decide +kernel
theorem dX3_bitsOf_2 : decode cX3_bitsOf 2 = .ok (.dcmp .l, 1) := by decide +kernel
theorem dX3_bitsOf_3 : decode cX3_bitsOf 3 = .ok (.ifCond .ne 5, 3) := by decide +kernel
theorem dX3_bitsOf_6 : decode cX3_bitsOf 6 = .ok (.lconst 0, 1) := by decide +kernel
theorem dX3_bitsOf_7 : decode cX3_bitsOf 7 = .ok (.lreturn, 1) := by decide +kernel
theorem dX3_bitsOf_8 : decode cX3_bitsOf 8 = .ok (.ldc2_w 197, 3) := by decide +kernel
theorem dX3_bitsOf_11 : decode cX3_bitsOf 11 = .ok (.lstore_n 2, 1) := by decide +kernel
theorem dX3_bitsOf_12 : decode cX3_bitsOf 12 = .ok (.dload_n 0, 1) := by decide +kernel
theorem dX3_bitsOf_13 : decode cX3_bitsOf 13 = .ok (.dstore 4, 2) := by decide +kernel
theorem dX3_bitsOf_15 : decode cX3_bitsOf 15 = .ok (.dload 4, 2) := by decide +kernel
theorem dX3_bitsOf_17 : decode cX3_bitsOf 17 = .ok (.dconst 1, 1) := by decide +kernel
theorem dX3_bitsOf_18 : decode cX3_bitsOf 18 = .ok (.dcmp .g, 1) := by decide +kernel
theorem dX3_bitsOf_19 : decode cX3_bitsOf 19 = .ok (.ifCond .ge 18, 3) := by decide +kernel
theorem dX3_bitsOf_22 : decode cX3_bitsOf 22 = .ok (.dload 4, 2) := by decide +kernel
theorem dX3_bitsOf_24 : decode cX3_bitsOf 24 = .ok (.ldc2_w 199, 3) := by decide +kernel
theorem dX3_bitsOf_27 : decode cX3_bitsOf 27 = .ok (.dmul, 1) := by decide +kernel
theorem dX3_bitsOf_28 : decode cX3_bitsOf 28 = .ok (.dstore 4, 2) := by decide +kernel
theorem dX3_bitsOf_30 : decode cX3_bitsOf 30 = .ok (.lload_n 2, 1) := by decide +kernel
theorem dX3_bitsOf_31 : decode cX3_bitsOf 31 = .ok (.lconst 1, 1) := by decide +kernel
theorem dX3_bitsOf_32 : decode cX3_bitsOf 32 = .ok (.lsub, 1) := by decide +kernel
theorem dX3_bitsOf_33 : decode cX3_bitsOf 33 = .ok (.lstore_n 2, 1) := by decide +kernel
theorem dX3_bitsOf_34 : decode cX3_bitsOf 34 = .ok (.goto (-19), 3) := by decide +kernel
theorem dX3_bitsOf_37 : decode cX3_bitsOf 37 = .ok (.lload_n 2, 1) := by decide +kernel
theorem dX3_bitsOf_38 : decode cX3_bitsOf 38 = .ok (.ldc2_w 201, 3) := by decide +kernel
theorem dX3_bitsOf_41 : decode cX3_bitsOf 41 = .ok (.lmul, 1) := by decide +kernel
theorem dX3_bitsOf_42 : decode cX3_bitsOf 42 = .ok (.dload 4, 2) := by decide +kernel
theorem dX3_bitsOf_44 : decode cX3_bitsOf 44 = .ok (.dconst 1, 1) := by decide +kernel
theorem dX3_bitsOf_45 : decode cX3_bitsOf 45 = .ok (.dsub, 1) := by decide +kernel
theorem dX3_bitsOf_46 : decode cX3_bitsOf 46 = .ok (.ldc2_w 203, 3) := by decide +kernel
theorem dX3_bitsOf_49 : decode cX3_bitsOf 49 = .ok (.dmul, 1) := by decide +kernel
theorem dX3_bitsOf_50 : decode cX3_bitsOf 50 = .ok (.d2l, 1) := by decide +kernel
theorem dX3_bitsOf_51 : decode cX3_bitsOf 51 = .ok (.ladd, 1) := by decide +kernel
theorem dX3_bitsOf_52 : decode cX3_bitsOf 52 = .ok (.lreturn, 1) := by decide +kernel
theorem dX3_digestOne_0 : decode cX3_digestOne 0 = .ok (.aload_n 0, 1) := by decide +kernel
theorem dX3_digestOne_1 : decode cX3_digestOne 1 = .ok (.ldc2_w 205, 3) := by decide +kernel
theorem dX3_digestOne_4 : decode cX3_digestOne 4 = .ok (.aload_n 0, 1) := by decide +kernel
theorem dX3_digestOne_5 : decode cX3_digestOne 5 = .ok (.getfield 207, 3) := by decide +kernel
theorem dX3_digestOne_8 : decode cX3_digestOne 8 = .ok (.lmul, 1) := by decide +kernel
theorem dX3_digestOne_9 : decode cX3_digestOne 9 = .ok (.lload_n 1, 1) := by decide +kernel
theorem dX3_digestOne_10 : decode cX3_digestOne 10 = .ok (.ladd, 1) := by decide +kernel
theorem dX3_digestOne_11 : decode cX3_digestOne 11 = .ok (.putfield 207, 3) := by decide +kernel
theorem dX3_digestOne_14 : decode cX3_digestOne 14 = .ok (.return_, 1) := by decide +kernel
set_option maxRecDepth 20000 in
theorem ggX3_digestCylinder_X3_ofTune : GoodIn wsX3_digestCylinder wsX3_ofTune := goodIn_r _ [6, 7, 8, 9, 5, 10, 1, 11, 12, 13, 14, 15, 16, 17, 18, 19, 20, 21, 22, 23, 24, 25, 26, 27, 28, 29, 30, 31, 32, 50, 51, 52, 53, 54, 55, 56, 57, 58, 59, 60, 61, 62] rfl (by decide +kernel)
set_option maxRecDepth 20000 in
theorem gX3_digestCylinder_X3_ofTune : GoodIn wsX3_digestCylinder (wsV RX3 163 RX3 yX3_ofTune wsX3_ofTune) := goodIn_app (goodIn_r _ [2, 3, 4, 5] rfl (by decide +kernel)) ggX3_digestCylinder_X3_ofTune
set_option maxRecDepth 20000 in
theorem ggX3_digestCylinder_X3_digestOne : GoodIn wsX3_digestCylinder wsX3_digestOne := goodIn_r _ [36, 37, 38, 50, 51, 52, 53, 54, 55, 56, 57, 58, 59, 60, 61, 62] rfl (by decide +kernel)
set_option maxRecDepth 20000 in
theorem gX3_digestCylinder_X3_digestOne : GoodIn wsX3_digestCylinder (wsV RX3 211 RX3 yX3_digestOne wsX3_digestOne) := goodIn_app (goodIn_r _ [33, 34, 35, 5] rfl (by decide +kernel)) ggX3_digestCylinder_X3_digestOne
set_option maxRecDepth 20000 in
theorem ggX3_digestCylinder_X3_pinsAt : GoodIn wsX3_digestCylinder wsX3_pinsAt := goodIn_r _ [24, 25, 26, 27, 5, 28, 1, 11, 12, 13, 50, 51, 52, 53, 54, 55, 56, 57, 58, 59, 60, 61, 62] rfl (by decide +kernel)
set_option maxRecDepth 20000 in
theorem gX3_digestCylinder_X3_pinsAt : GoodIn wsX3_digestCylinder (wsV RX3 56 RX3 yX3_pinsAt wsX3_pinsAt) := goodIn_app (goodIn_r _ [21, 22, 23, 5] rfl (by decide +kernel)) ggX3_digestCylinder_X3_pinsAt
set_option maxRecDepth 20000 in
theorem ggX3_digestCylinder_X3_ofTooth : GoodIn wsX3_digestCylinder wsX3_ofTooth := goodIn_r _ [42, 1, 43, 44, 5, 45, 46, 47, 48, 49, 11, 12, 13, 50, 51, 52, 53, 54, 55, 56, 57, 58, 59, 60, 61, 62] rfl (by decide +kernel)
set_option maxRecDepth 20000 in
theorem gX3_digestCylinder_X3_ofTooth : GoodIn wsX3_digestCylinder (wsV RX3 169 RX3 yX3_ofTooth wsX3_ofTooth) := goodIn_app (goodIn_r _ [39, 40, 41, 5] rfl (by decide +kernel)) ggX3_digestCylinder_X3_ofTooth
theorem dX3_digestCylinder_0 : decode cX3_digestCylinder 0 = .ok (.iconst 0, 1) := by decide +kernel
theorem dX3_digestCylinder_1 : decode cX3_digestCylinder 1 = .ok (.istore_n 1, 1) := by decide +kernel
theorem dX3_digestCylinder_2 : decode cX3_digestCylinder 2 = .ok (.iload_n 1, 1) := by decide +kernel
theorem dX3_digestCylinder_3 : decode cX3_digestCylinder 3 = .ok (.iconst 3, 1) := by decide +kernel
theorem dX3_digestCylinder_4 : decode cX3_digestCylinder 4 = .ok (.if_icmp .ge 58, 3) := by decide +kernel
theorem dX3_digestCylinder_7 : decode cX3_digestCylinder 7 = .ok (.iconst 0, 1) := by decide +kernel
theorem dX3_digestCylinder_8 : decode cX3_digestCylinder 8 = .ok (.istore_n 2, 1) := by decide +kernel
theorem dX3_digestCylinder_9 : decode cX3_digestCylinder 9 = .ok (.iload_n 2, 1) := by decide +kernel
theorem dX3_digestCylinder_10 : decode cX3_digestCylinder 10 = .ok (.iconst 5, 1) := by decide +kernel
theorem dX3_digestCylinder_11 : decode cX3_digestCylinder 11 = .ok (.if_icmp .ge 20, 3) := by decide +kernel
theorem dX3_digestCylinder_14 : decode cX3_digestCylinder 14 = .ok (.aload_n 0, 1) := by decide +kernel
theorem dX3_digestCylinder_15 : decode cX3_digestCylinder 15 = .ok (.aload_n 0, 1) := by decide +kernel
theorem dX3_digestCylinder_16 : decode cX3_digestCylinder 16 = .ok (.iload_n 1, 1) := by decide +kernel
theorem dX3_digestCylinder_17 : decode cX3_digestCylinder 17 = .ok (.iload_n 2, 1) := by decide +kernel
theorem dX3_digestCylinder_18 : decode cX3_digestCylinder 18 = .ok (.invokevirtual 163, 3) := by decide +kernel
theorem dX3_digestCylinder_21 : decode cX3_digestCylinder 21 = .ok (.i2l, 1) := by decide +kernel
theorem dX3_digestCylinder_22 : decode cX3_digestCylinder 22 = .ok (.invokevirtual 211, 3) := by decide +kernel
theorem dX3_digestCylinder_25 : decode cX3_digestCylinder 25 = .ok (.iinc 2 1, 3) := by decide +kernel
theorem dX3_digestCylinder_28 : decode cX3_digestCylinder 28 = .ok (.goto (-19), 3) := by decide +kernel
theorem dX3_digestCylinder_31 : decode cX3_digestCylinder 31 = .ok (.iconst 0, 1) := by decide +kernel
theorem dX3_digestCylinder_32 : decode cX3_digestCylinder 32 = .ok (.istore_n 2, 1) := by decide +kernel
theorem dX3_digestCylinder_33 : decode cX3_digestCylinder 33 = .ok (.iload_n 2, 1) := by decide +kernel
theorem dX3_digestCylinder_34 : decode cX3_digestCylinder 34 = .ok (.bipush 32, 2) := by decide +kernel
theorem dX3_digestCylinder_36 : decode cX3_digestCylinder 36 = .ok (.if_icmp .ge 20, 3) := by decide +kernel
theorem dX3_digestCylinder_39 : decode cX3_digestCylinder 39 = .ok (.aload_n 0, 1) := by decide +kernel
theorem dX3_digestCylinder_40 : decode cX3_digestCylinder 40 = .ok (.aload_n 0, 1) := by decide +kernel
theorem dX3_digestCylinder_41 : decode cX3_digestCylinder 41 = .ok (.iload_n 1, 1) := by decide +kernel
theorem dX3_digestCylinder_42 : decode cX3_digestCylinder 42 = .ok (.iload_n 2, 1) := by decide +kernel
theorem dX3_digestCylinder_43 : decode cX3_digestCylinder 43 = .ok (.invokevirtual 56, 3) := by decide +kernel
theorem dX3_digestCylinder_46 : decode cX3_digestCylinder 46 = .ok (.i2l, 1) := by decide +kernel
theorem dX3_digestCylinder_47 : decode cX3_digestCylinder 47 = .ok (.invokevirtual 211, 3) := by decide +kernel
theorem dX3_digestCylinder_50 : decode cX3_digestCylinder 50 = .ok (.iinc 2 1, 3) := by decide +kernel
theorem dX3_digestCylinder_53 : decode cX3_digestCylinder 53 = .ok (.goto (-20), 3) := by decide +kernel
theorem dX3_digestCylinder_56 : decode cX3_digestCylinder 56 = .ok (.iinc 1 1, 3) := by decide +kernel
theorem dX3_digestCylinder_59 : decode cX3_digestCylinder 59 = .ok (.goto (-57), 3) := by decide +kernel
theorem dX3_digestCylinder_62 : decode cX3_digestCylinder 62 = .ok (.iconst 0, 1) := by decide +kernel
theorem dX3_digestCylinder_63 : decode cX3_digestCylinder 63 = .ok (.istore_n 1, 1) := by decide +kernel
theorem dX3_digestCylinder_64 : decode cX3_digestCylinder 64 = .ok (.iload_n 1, 1) := by decide +kernel
theorem dX3_digestCylinder_65 : decode cX3_digestCylinder 65 = .ok (.bipush 60, 2) := by decide +kernel
theorem dX3_digestCylinder_67 : decode cX3_digestCylinder 67 = .ok (.if_icmp .ge 24, 3) := by decide +kernel
theorem dX3_digestCylinder_70 : decode cX3_digestCylinder 70 = .ok (.aload_n 0, 1) := by decide +kernel
theorem dX3_digestCylinder_71 : decode cX3_digestCylinder 71 = .ok (.aload_n 0, 1) := by decide +kernel
theorem dX3_digestCylinder_72 : decode cX3_digestCylinder 72 = .ok (.iload_n 1, 1) := by decide +kernel
theorem dX3_digestCylinder_73 : decode cX3_digestCylinder 73 = .ok (.iconst 5, 1) := by decide +kernel
theorem dX3_digestCylinder_74 : decode cX3_digestCylinder 74 = .ok (.idiv, 1) := by decide +kernel
theorem dX3_digestCylinder_75 : decode cX3_digestCylinder 75 = .ok (.iload_n 1, 1) := by decide +kernel
theorem dX3_digestCylinder_76 : decode cX3_digestCylinder 76 = .ok (.iconst 5, 1) := by decide +kernel
theorem dX3_digestCylinder_77 : decode cX3_digestCylinder 77 = .ok (.irem, 1) := by decide +kernel
theorem dX3_digestCylinder_78 : decode cX3_digestCylinder 78 = .ok (.invokevirtual 169, 3) := by decide +kernel
theorem dX3_digestCylinder_81 : decode cX3_digestCylinder 81 = .ok (.i2l, 1) := by decide +kernel
theorem dX3_digestCylinder_82 : decode cX3_digestCylinder 82 = .ok (.invokevirtual 211, 3) := by decide +kernel
theorem dX3_digestCylinder_85 : decode cX3_digestCylinder 85 = .ok (.iinc 1 1, 3) := by decide +kernel
theorem dX3_digestCylinder_88 : decode cX3_digestCylinder 88 = .ok (.goto (-24), 3) := by decide +kernel
theorem dX3_digestCylinder_91 : decode cX3_digestCylinder 91 = .ok (.iconst 0, 1) := by decide +kernel
theorem dX3_digestCylinder_92 : decode cX3_digestCylinder 92 = .ok (.istore_n 1, 1) := by decide +kernel
theorem dX3_digestCylinder_93 : decode cX3_digestCylinder 93 = .ok (.iload_n 1, 1) := by decide +kernel
theorem dX3_digestCylinder_94 : decode cX3_digestCylinder 94 = .ok (.iconst 2, 1) := by decide +kernel
theorem dX3_digestCylinder_95 : decode cX3_digestCylinder 95 = .ok (.aload_n 0, 1) := by decide +kernel
theorem dX3_digestCylinder_96 : decode cX3_digestCylinder 96 = .ok (.getfield 7, 3) := by decide +kernel
theorem dX3_digestCylinder_99 : decode cX3_digestCylinder 99 = .ok (.sipush 132, 3) := by decide +kernel
theorem dX3_digestCylinder_102 : decode cX3_digestCylinder 102 = .ok (.iaload, 1) := by decide +kernel
theorem dX3_digestCylinder_103 : decode cX3_digestCylinder 103 = .ok (.imul, 1) := by decide +kernel
theorem dX3_digestCylinder_104 : decode cX3_digestCylinder 104 = .ok (.if_icmp .ge 23, 3) := by decide +kernel
theorem dX3_digestCylinder_107 : decode cX3_digestCylinder 107 = .ok (.aload_n 0, 1) := by decide +kernel
theorem dX3_digestCylinder_108 : decode cX3_digestCylinder 108 = .ok (.aload_n 0, 1) := by decide +kernel
theorem dX3_digestCylinder_109 : decode cX3_digestCylinder 109 = .ok (.getfield 7, 3) := by decide +kernel
theorem dX3_digestCylinder_112 : decode cX3_digestCylinder 112 = .ok (.bipush 84, 2) := by decide +kernel
theorem dX3_digestCylinder_114 : decode cX3_digestCylinder 114 = .ok (.iload_n 1, 1) := by decide +kernel
theorem dX3_digestCylinder_115 : decode cX3_digestCylinder 115 = .ok (.iadd, 1) := by decide +kernel
theorem dX3_digestCylinder_116 : decode cX3_digestCylinder 116 = .ok (.iaload, 1) := by decide +kernel
theorem dX3_digestCylinder_117 : decode cX3_digestCylinder 117 = .ok (.i2l, 1) := by decide +kernel
theorem dX3_digestCylinder_118 : decode cX3_digestCylinder 118 = .ok (.invokevirtual 211, 3) := by decide +kernel
theorem dX3_digestCylinder_121 : decode cX3_digestCylinder 121 = .ok (.iinc 1 1, 3) := by decide +kernel
theorem dX3_digestCylinder_124 : decode cX3_digestCylinder 124 = .ok (.goto (-31), 3) := by decide +kernel
theorem dX3_digestCylinder_127 : decode cX3_digestCylinder 127 = .ok (.return_, 1) := by decide +kernel
set_option maxRecDepth 20000 in
theorem ggX3_digest_X3_counted : GoodIn wsX3_digest wsX3_counted := goodIn_r _ [10, 11, 12, 13, 14, 15, 9, 16, 17, 18, 19, 20, 21, 22, 23, 24, 25, 26, 27, 28, 29, 30, 31, 32, 33, 131, 132, 133, 134, 135, 136, 137, 138, 139, 140, 141, 142, 143] rfl (by decide +kernel)
set_option maxRecDepth 20000 in
theorem gX3_digest_X3_counted : GoodIn wsX3_digest (wsV RX3 175 RX3 yX3_counted wsX3_counted) := goodIn_app (goodIn_r _ [6, 7, 8, 9] rfl (by decide +kernel)) ggX3_digest_X3_counted
set_option maxRecDepth 20000 in
theorem ggX3_digest_X3_digestOne : GoodIn wsX3_digest wsX3_digestOne := goodIn_r _ [37, 38, 3, 131, 132, 133, 134, 135, 136, 137, 138, 139, 140, 141, 142, 143] rfl (by decide +kernel)
set_option maxRecDepth 20000 in
theorem gX3_digest_X3_digestOne : GoodIn wsX3_digest (wsV RX3 211 RX3 yX3_digestOne wsX3_digestOne) := goodIn_app (goodIn_r _ [34, 35, 36, 9] rfl (by decide +kernel)) ggX3_digest_X3_digestOne
set_option maxRecDepth 20000 in
theorem ggX3_digest_X3_digestCylinder : GoodIn wsX3_digest wsX3_digestCylinder := goodIn_r _ [42, 11, 43, 44, 45, 9, 46, 24, 25, 26, 27, 28, 29, 30, 31, 32, 33, 47, 48, 49, 50, 51, 52, 53, 54, 55, 56, 57, 58, 59, 60, 61, 62, 34, 35, 36, 37, 38, 3, 63, 64, 65, 66, 17, 18, 19, 67, 68, 69, 70, 131, 132, 133, 134, 135, 136, 137, 138, 139, 140, 141, 142, 143] rfl (by decide +kernel)
set_option maxRecDepth 20000 in
theorem gX3_digest_X3_digestCylinder : GoodIn wsX3_digest (wsV RX3 217 RX3 yX3_digestCylinder wsX3_digestCylinder) := goodIn_app (goodIn_r _ [39, 40, 41, 9] rfl (by decide +kernel)) ggX3_digest_X3_digestCylinder
set_option maxRecDepth 20000 in
theorem ggX3_digest_X3_wouldBe : GoodIn wsX3_digest wsX3_wouldBe := goodIn_r _ [74, 11, 75, 76, 77, 78, 9, 79, 13, 14, 15, 16, 17, 18, 19, 80, 81, 82, 83, 84, 85, 86, 87, 88, 89, 90, 91, 92, 93, 94, 95, 96, 97, 98, 99, 55, 56, 57, 58, 28, 29, 30, 100, 101, 102, 103, 104, 105, 106, 107, 108, 109, 110, 111, 131, 132, 133, 134, 135, 136, 137, 138, 139, 140, 141, 142, 143] rfl (by decide +kernel)
set_option maxRecDepth 20000 in
theorem gX3_digest_X3_wouldBe : GoodIn wsX3_digest (wsV RX3 184 RX3 yX3_wouldBe wsX3_wouldBe) := goodIn_app (goodIn_r _ [71, 72, 73, 9] rfl (by decide +kernel)) ggX3_digest_X3_wouldBe
set_option maxRecDepth 20000 in
theorem ggX3_digest_X3_quietVanes : GoodIn wsX3_digest wsX3_quietVanes := goodIn_r _ [115, 11, 71, 72, 73, 9, 74, 75, 76, 77, 78, 79, 13, 14, 15, 16, 17, 18, 19, 80, 81, 82, 83, 84, 85, 86, 87, 88, 89, 90, 91, 92, 93, 94, 95, 96, 97, 98, 99, 55, 56, 57, 58, 28, 29, 30, 100, 101, 102, 103, 104, 105, 106, 107, 108, 109, 110, 111, 131, 132, 133, 134, 135, 136, 137, 138, 139, 140, 141, 142, 143] rfl (by decide +kernel)
set_option maxRecDepth 20000 in
theorem gX3_digest_X3_quietVanes : GoodIn wsX3_digest (wsV RX3 187 RX3 yX3_quietVanes wsX3_quietVanes) := goodIn_app (goodIn_r _ [112, 113, 114, 9] rfl (by decide +kernel)) ggX3_digest_X3_quietVanes
set_option maxRecDepth 20000 in
theorem ggX3_digest_X3_windOf : GoodIn wsX3_digest wsX3_windOf := goodIn_r _ [119, 11, 76, 77, 78, 9, 79, 75, 88, 89, 90, 91, 92, 93, 94, 95, 96, 97, 98, 99, 55, 56, 57, 58, 28, 29, 30, 17, 18, 19, 108, 109, 110, 111, 131, 132, 133, 134, 135, 136, 137, 138, 139, 140, 141, 142, 143] rfl (by decide +kernel)
set_option maxRecDepth 20000 in
theorem gX3_digest_X3_windOf : GoodIn wsX3_digest (wsV RX3 190 RX3 yX3_windOf wsX3_windOf) := goodIn_app (goodIn_r _ [116, 117, 118, 9] rfl (by decide +kernel)) ggX3_digest_X3_windOf
set_option maxRecDepth 20000 in
theorem ggX3_digest_X3_share : GoodIn wsX3_digest wsX3_share := goodIn_r _ [123, 11, 131, 132, 133, 134, 135, 136, 137, 138, 139, 140, 141, 142, 143] rfl (by decide +kernel)
set_option maxRecDepth 20000 in
theorem gX3_digest_X3_share : GoodIn wsX3_digest (wsV RX3 193 RX3 yX3_share wsX3_share) := goodIn_app (goodIn_r _ [120, 121, 122, 9] rfl (by decide +kernel)) ggX3_digest_X3_share
set_option maxRecDepth 20000 in
theorem ggX3_digest_X3_bitsOf : GoodIn wsX3_digest wsX3_bitsOf := goodIn_r _ [126, 127, 128, 129, 130] rfl (by decide +kernel)
set_option maxRecDepth 20000 in
theorem gX3_digest_X3_bitsOf : GoodIn wsX3_digest (va_wsS RX3 220 yX3_bitsOf wsX3_bitsOf) := goodIn_app (goodIn_r _ [124, 125, 9] rfl (by decide +kernel)) ggX3_digest_X3_bitsOf
theorem dX3_digest_0 : decode cX3_digest 0 = .ok (.aload_n 0, 1) := by decide +kernel
theorem dX3_digest_1 : decode cX3_digest 1 = .ok (.iconst 0, 1) := by decide +kernel
theorem dX3_digest_2 : decode cX3_digest 2 = .ok (.putfield 25, 3) := by decide +kernel
theorem dX3_digest_5 : decode cX3_digest 5 = .ok (.aload_n 0, 1) := by decide +kernel
theorem dX3_digest_6 : decode cX3_digest 6 = .ok (.ldc2_w 215, 3) := by decide +kernel
theorem dX3_digest_9 : decode cX3_digest 9 = .ok (.putfield 207, 3) := by decide +kernel
theorem dX3_digest_12 : decode cX3_digest 12 = .ok (.iconst 0, 1) := by decide +kernel
theorem dX3_digest_13 : decode cX3_digest 13 = .ok (.istore_n 1, 1) := by decide +kernel
theorem dX3_digest_14 : decode cX3_digest 14 = .ok (.iload_n 1, 1) := by decide +kernel
theorem dX3_digest_15 : decode cX3_digest 15 = .ok (.bipush 18, 2) := by decide +kernel
theorem dX3_digest_17 : decode cX3_digest 17 = .ok (.if_icmp .ge 19, 3) := by decide +kernel
theorem dX3_digest_20 : decode cX3_digest 20 = .ok (.aload_n 0, 1) := by decide +kernel
theorem dX3_digest_21 : decode cX3_digest 21 = .ok (.aload_n 0, 1) := by decide +kernel
theorem dX3_digest_22 : decode cX3_digest 22 = .ok (.iload_n 1, 1) := by decide +kernel
theorem dX3_digest_23 : decode cX3_digest 23 = .ok (.invokevirtual 175, 3) := by decide +kernel
theorem dX3_digest_26 : decode cX3_digest 26 = .ok (.i2l, 1) := by decide +kernel
theorem dX3_digest_27 : decode cX3_digest 27 = .ok (.invokevirtual 211, 3) := by decide +kernel
theorem dX3_digest_30 : decode cX3_digest 30 = .ok (.iinc 1 1, 3) := by decide +kernel
theorem dX3_digest_33 : decode cX3_digest 33 = .ok (.goto (-19), 3) := by decide +kernel
theorem dX3_digest_36 : decode cX3_digest 36 = .ok (.aload_n 0, 1) := by decide +kernel
theorem dX3_digest_37 : decode cX3_digest 37 = .ok (.invokevirtual 217, 3) := by decide +kernel
theorem dX3_digest_40 : decode cX3_digest 40 = .ok (.iconst 0, 1) := by decide +kernel
theorem dX3_digest_41 : decode cX3_digest 41 = .ok (.istore_n 1, 1) := by decide +kernel
theorem dX3_digest_42 : decode cX3_digest 42 = .ok (.iload_n 1, 1) := by decide +kernel
theorem dX3_digest_43 : decode cX3_digest 43 = .ok (.iconst 5, 1) := by decide +kernel
theorem dX3_digest_44 : decode cX3_digest 44 = .ok (.if_icmp .ge 21, 3) := by decide +kernel
theorem dX3_digest_47 : decode cX3_digest 47 = .ok (.aload_n 0, 1) := by decide +kernel
theorem dX3_digest_48 : decode cX3_digest 48 = .ok (.aload_n 0, 1) := by decide +kernel
theorem dX3_digest_49 : decode cX3_digest 49 = .ok (.bipush 40, 2) := by decide +kernel
theorem dX3_digest_51 : decode cX3_digest 51 = .ok (.iload_n 1, 1) := by decide +kernel
theorem dX3_digest_52 : decode cX3_digest 52 = .ok (.invokevirtual 184, 3) := by decide +kernel
theorem dX3_digest_55 : decode cX3_digest 55 = .ok (.i2l, 1) := by decide +kernel
theorem dX3_digest_56 : decode cX3_digest 56 = .ok (.invokevirtual 211, 3) := by decide +kernel
theorem dX3_digest_59 : decode cX3_digest 59 = .ok (.iinc 1 1, 3) := by decide +kernel
theorem dX3_digest_62 : decode cX3_digest 62 = .ok (.goto (-20), 3) := by decide +kernel
theorem dX3_digest_65 : decode cX3_digest 65 = .ok (.aload_n 0, 1) := by decide +kernel
theorem dX3_digest_66 : decode cX3_digest 66 = .ok (.aload_n 0, 1) := by decide +kernel
theorem dX3_digest_67 : decode cX3_digest 67 = .ok (.invokevirtual 187, 3) := by decide +kernel
theorem dX3_digest_70 : decode cX3_digest 70 = .ok (.i2l, 1) := by decide +kernel
theorem dX3_digest_71 : decode cX3_digest 71 = .ok (.invokevirtual 211, 3) := by decide +kernel
theorem dX3_digest_74 : decode cX3_digest 74 = .ok (.aload_n 0, 1) := by decide +kernel
theorem dX3_digest_75 : decode cX3_digest 75 = .ok (.aload_n 0, 1) := by decide +kernel
theorem dX3_digest_76 : decode cX3_digest 76 = .ok (.iconst 2, 1) := by decide +kernel
theorem dX3_digest_77 : decode cX3_digest 77 = .ok (.invokevirtual 190, 3) := by decide +kernel
theorem dX3_digest_80 : decode cX3_digest 80 = .ok (.i2l, 1) := by decide +kernel
theorem dX3_digest_81 : decode cX3_digest 81 = .ok (.invokevirtual 211, 3) := by decide +kernel
theorem dX3_digest_84 : decode cX3_digest 84 = .ok (.aload_n 0, 1) := by decide +kernel
theorem dX3_digest_85 : decode cX3_digest 85 = .ok (.aload_n 0, 1) := by decide +kernel
theorem dX3_digest_86 : decode cX3_digest 86 = .ok (.invokevirtual 193, 3) := by decide +kernel
theorem dX3_digest_89 : decode cX3_digest 89 = .ok (.invokestatic 220, 3) := by decide +kernel
theorem dX3_digest_92 : decode cX3_digest 92 = .ok (.invokevirtual 211, 3) := by decide +kernel
theorem dX3_digest_95 : decode cX3_digest 95 = .ok (.aload_n 0, 1) := by decide +kernel
theorem dX3_digest_96 : decode cX3_digest 96 = .ok (.aload_n 0, 1) := by decide +kernel
theorem dX3_digest_97 : decode cX3_digest 97 = .ok (.getfield 114, 3) := by decide +kernel
theorem dX3_digest_100 : decode cX3_digest 100 = .ok (.i2l, 1) := by decide +kernel
theorem dX3_digest_101 : decode cX3_digest 101 = .ok (.invokevirtual 211, 3) := by decide +kernel
theorem dX3_digest_104 : decode cX3_digest 104 = .ok (.iconst 0, 1) := by decide +kernel
theorem dX3_digest_105 : decode cX3_digest 105 = .ok (.istore_n 1, 1) := by decide +kernel
theorem dX3_digest_106 : decode cX3_digest 106 = .ok (.iload_n 1, 1) := by decide +kernel
theorem dX3_digest_107 : decode cX3_digest 107 = .ok (.aload_n 0, 1) := by decide +kernel
theorem dX3_digest_108 : decode cX3_digest 108 = .ok (.getfield 114, 3) := by decide +kernel
theorem dX3_digest_111 : decode cX3_digest 111 = .ok (.if_icmp .ge 20, 3) := by decide +kernel
theorem dX3_digest_114 : decode cX3_digest 114 = .ok (.aload_n 0, 1) := by decide +kernel
theorem dX3_digest_115 : decode cX3_digest 115 = .ok (.aload_n 0, 1) := by decide +kernel
theorem dX3_digest_116 : decode cX3_digest 116 = .ok (.getfield 22, 3) := by decide +kernel
theorem dX3_digest_119 : decode cX3_digest 119 = .ok (.iload_n 1, 1) := by decide +kernel
theorem dX3_digest_120 : decode cX3_digest 120 = .ok (.iaload, 1) := by decide +kernel
theorem dX3_digest_121 : decode cX3_digest 121 = .ok (.i2l, 1) := by decide +kernel
theorem dX3_digest_122 : decode cX3_digest 122 = .ok (.invokevirtual 211, 3) := by decide +kernel
theorem dX3_digest_125 : decode cX3_digest 125 = .ok (.iinc 1 1, 3) := by decide +kernel
theorem dX3_digest_128 : decode cX3_digest 128 = .ok (.goto (-22), 3) := by decide +kernel
theorem dX3_digest_131 : decode cX3_digest 131 = .ok (.aload_n 0, 1) := by decide +kernel
theorem dX3_digest_132 : decode cX3_digest 132 = .ok (.getfield 207, 3) := by decide +kernel
theorem dX3_digest_135 : decode cX3_digest 135 = .ok (.lreturn, 1) := by decide +kernel
end
section
/-! ===== worlds as bundles; contracts with one answer and one world; calls, loops and branches over numbers that are natural ===== -/
abbrev vT (c : Nat → ClassId) : List (ClassId × FieldType) := [(c 0, .int), (c 1, .char), (c 2, .object RX1), (c 3, .long)]
def kw (D : va_G) (A : Nat → Prop) (H0 : Heap) (ws : va_W) (H : Heap) (locs : List Loc) : Prop := va_P D vwCl ws H ∧ va_D A ws ∧ va_S A H0 H locs
def kP (D : va_G) (c : Nat → ClassId) (sz : Nat) (ws : va_W) : State → Prop := fun U => U.heap.size = sz ∧ va_P D vwCl ws U.heap ∧ va_K D vwCl (vT c) U ∧ va_D (fun _ => True) ws
def kB (D : va_G) (wd : va_W) (sz : Nat) (w : va_W) (t : State) : Prop := va_P D vwCl w t.heap ∧ va_D (va_A wd sz) w
/-- a method that makes nothing: its answer is r, its world w' -/
def MI (l : Launch) (y : MethodName) (ws : List Cond) (rm : Room) (D : va_G) (c : Nat → ClassId) (sz : Nat) (wd : va_W) (av : List Value) (r : Int32) (w' : va_W) : Prop :=
  Met l y ws rm (va_Pc av (kP D c sz wd)) (va_Qi (fun (x : Int32) (w : va_W) => x = r ∧ w = w') (kB D wd sz) (va_A wd sz)) 0 0 (va_A wd sz)
def ML (l : Launch) (y : MethodName) (ws : List Cond) (rm : Room) (D : va_G) (c : Nat → ClassId) (sz : Nat) (wd : va_W) (av : List Value) (r : Int64) (w' : va_W) : Prop :=
  Met l y ws rm (va_Pc av (kP D c sz wd)) (va_Ql (fun (x : Int64) (w : va_W) => x = r ∧ w = w') (kB D wd sz) (va_A wd sz)) 0 0 (va_A wd sz)
def MF (l : Launch) (y : MethodName) (ws : List Cond) (rm : Room) (D : va_G) (c : Nat → ClassId) (sz : Nat) (wd : va_W) (av : List Value) (r : UInt64) (w' : va_W) : Prop :=
  Met l y ws rm (va_Pc av (kP D c sz wd)) (va_Qd (fun (x : UInt64) (w : va_W) => x = r ∧ w = w') (kB D wd sz) (va_A wd sz)) 0 0 (va_A wd sz)
def MV (l : Launch) (y : MethodName) (ws : List Cond) (rm : Room) (D : va_G) (c : Nat → ClassId) (sz : Nat) (wd : va_W) (av : List Value) (w' : va_W) : Prop :=
  Met l y ws rm (va_Pc av (kP D c sz wd)) (va_Qv (fun (w : va_W) => w = w') (kB D wd sz) (va_A wd sz)) 0 0 (va_A wd sz)
theorem kP_blind {av : List Value} {D : va_G} {c : Nat → ClassId} {sz : Nat} {ws : va_W} : FrameBlind (va_Pc av (kP D c sz ws)) := fun a U g mk q => by
  obtain ⟨q0, q1, qP, qK, qD⟩ := q
  exact ⟨q0, q1, qP, va_K.moved (u := U) (U := U.calling g mk a) (Vm.Alike.refl U.vm) qK, qD⟩
theorem k_msub {ws wc : va_W} {is : List Nat} (h : is.map (fun i => ws[i]?) = wc.map some) : is.filterMap (fun i => ws[i]?) = wc := by
  have e : ∀ (l : List Nat), l.filterMap (fun i => ws[i]?) = (l.map (fun i => ws[i]?)).filterMap id := by
    intro l; rw [List.filterMap_map]; rfl
  rw [e, h]
  clear h e
  induction wc with
  | nil => rfl
  | cons a t ih => simp
theorem MI.of {l : Launch} {y : MethodName} {ws ws' : List Cond} {rm : Room} {D : va_G} {c : Nat → ClassId} {sz : Nat} {wd : va_W} {av : List Value} {r : Int32} {w' : va_W} {cc : ByteArray} {maxL : Nat} {ty : FieldType}
    (hy : plainName y.cls = true) (hw : ws = Cond.code y cc maxL (some ty) :: ws') (hlen : (lg_sl av).length ≤ maxL) (hnar : narrow ty (.int r) = .int r)
    (body : ∀ (p : Program) (e : Env) (s : State) (m : MethodId) (below : List Frame) (meth : Method) (cd : Code) (A : Nat → Prop) (Q : State → Prop) (ls : Array Slot), s.heap.size = sz → CallFix p m cd cc maxL s av.toArray ws y.cls → va_K D vwCl (vT c) s → kw D A s.heap wd s.heap [] → (∀ q, s.heap.size ≤ q → A q) → lv_has ls maxL (lv_args 0 av) →
      (∀ (pc : Nat) (ls1 : Array Slot) (H : Heap) (locs : List Loc) (v : Int32) (w : va_W), decode cc pc = .ok (.ireturn, 1) → kw D A s.heap w H locs → v = r → w = w' → W p l e rm s m av.toArray below meth cd H locs 0 0 Q (F0 m pc ls1 [.int v])) →
      W p l e rm s m av.toArray below meth cd s.heap [] 0 0 Q (F0 m 0 ls [])) : MI l y ws rm D c sz wd av r w' := by
  refine Met.ofW (cc := cc) (maxL := maxL) (ret := some ty) hy hw ?_
  intro p e s m args below meth cd s₁ B hml hv
  obtain ⟨rfl, hsz, hP, hK, hD0⟩ := hv
  have hts := atoms_spec (ws := ws) B.pre
  have hown : s.vm.findClass y.cls = some m.cls := findClass_of_methodNamed B.named
  have hlocks := B.notSynchronized
  have hr := B.returns
  have hb := B.bytes
  have hx := B.exec
  subst hsz
  have hl := lv_entry av (n := maxL) hlen
  rw [lg_entry_eq]
  generalize (lg_sl av ++ List.replicate (maxL - (lg_sl av).length) Slot.unset).toArray = ls at hl ⊢
  refine body p e s m below meth cd (va_A wd s.heap.size) _ ls rfl ⟨hx, hb, hml, hown, hts⟩ hK ⟨hP, hD0.self, va_S.rf⟩ (fun q h => Or.inr h) hl ?_
  intro pc ls1 H locs v w hd hW hv hw
  subst hv; subst hw
  exact W.zret hx hb hr hnar (fun t ht hW' => ⟨⟨v, w, rfl, ⟨rfl, rfl⟩, by rw [ht]; exact hW.1, hW.2.1⟩, hW.2.2.F ht⟩) hW.2.2.2.2 hd hlocks
theorem MV.of {l : Launch} {y : MethodName} {ws ws' : List Cond} {rm : Room} {D : va_G} {c : Nat → ClassId} {sz : Nat} {wd : va_W} {av : List Value} {w' : va_W} {cc : ByteArray} {maxL : Nat}
    (hy : plainName y.cls = true) (hw : ws = Cond.code y cc maxL none :: ws') (hlen : (lg_sl av).length ≤ maxL)
    (body : ∀ (p : Program) (e : Env) (s : State) (m : MethodId) (below : List Frame) (meth : Method) (cd : Code) (A : Nat → Prop) (Q : State → Prop) (ls : Array Slot), s.heap.size = sz → CallFix p m cd cc maxL s av.toArray ws y.cls → va_K D vwCl (vT c) s → kw D A s.heap wd s.heap [] → (∀ q, s.heap.size ≤ q → A q) → lv_has ls maxL (lv_args 0 av) →
      (∀ (pc : Nat) (ls1 : Array Slot) (H : Heap) (locs : List Loc) (w : va_W), decode cc pc = .ok (.return_, 1) → kw D A s.heap w H locs → w = w' → W p l e rm s m av.toArray below meth cd H locs 0 0 Q (F0 m pc ls1 [])) →
      W p l e rm s m av.toArray below meth cd s.heap [] 0 0 Q (F0 m 0 ls [])) : MV l y ws rm D c sz wd av w' := by
  refine Met.ofW (cc := cc) (maxL := maxL) (ret := none) hy hw ?_
  intro p e s m args below meth cd s₁ B hml hv
  obtain ⟨rfl, hsz, hP, hK, hD0⟩ := hv
  have hts := atoms_spec (ws := ws) B.pre
  have hown : s.vm.findClass y.cls = some m.cls := findClass_of_methodNamed B.named
  have hlocks := B.notSynchronized
  have hr := B.returns
  have hb := B.bytes
  have hx := B.exec
  subst hsz
  have hl := lv_entry av (n := maxL) hlen
  rw [lg_entry_eq]
  generalize (lg_sl av ++ List.replicate (maxL - (lg_sl av).length) Slot.unset).toArray = ls at hl ⊢
  refine body p e s m below meth cd (va_A wd s.heap.size) _ ls rfl ⟨hx, hb, hml, hown, hts⟩ hK ⟨hP, hD0.self, va_S.rf⟩ (fun q h => Or.inr h) hl ?_
  intro pc ls1 H locs w hd hW hw
  subst hw
  exact W.vret hx hb hr (fun t ht hW' => ⟨⟨w, rfl, rfl, by rw [ht]; exact hW.1, hW.2.1⟩, hW.2.2.F ht⟩) hW.2.2.2.2 hd hlocks
theorem ML.of {l : Launch} {y : MethodName} {ws ws' : List Cond} {rm : Room} {D : va_G} {c : Nat → ClassId} {sz : Nat} {wd : va_W} {av : List Value} {r : Int64} {w' : va_W} {cc : ByteArray} {maxL : Nat}
    (hy : plainName y.cls = true) (hw : ws = Cond.code y cc maxL (some .long) :: ws') (hlen : (lg_sl av).length ≤ maxL)
    (body : ∀ (p : Program) (e : Env) (s : State) (m : MethodId) (below : List Frame) (meth : Method) (cd : Code) (A : Nat → Prop) (Q : State → Prop) (ls : Array Slot), s.heap.size = sz → CallFix p m cd cc maxL s av.toArray ws y.cls → va_K D vwCl (vT c) s → kw D A s.heap wd s.heap [] → (∀ q, s.heap.size ≤ q → A q) → lv_has ls maxL (lv_args 0 av) →
      (∀ (pc : Nat) (ls1 : Array Slot) (H : Heap) (locs : List Loc) (v : Int64) (w : va_W), decode cc pc = .ok (.lreturn, 1) → kw D A s.heap w H locs → v = r → w = w' → W p l e rm s m av.toArray below meth cd H locs 0 0 Q (F0 m pc ls1 [.long v])) →
      W p l e rm s m av.toArray below meth cd s.heap [] 0 0 Q (F0 m 0 ls [])) : ML l y ws rm D c sz wd av r w' := by
  refine Met.ofW (cc := cc) (maxL := maxL) (ret := some .long) hy hw ?_
  intro p e s m args below meth cd s₁ B hml hv
  obtain ⟨rfl, hsz, hP, hK, hD0⟩ := hv
  have hts := atoms_spec (ws := ws) B.pre
  have hown : s.vm.findClass y.cls = some m.cls := findClass_of_methodNamed B.named
  have hlocks := B.notSynchronized
  have hr := B.returns
  have hb := B.bytes
  have hx := B.exec
  subst hsz
  have hl := lv_entry av (n := maxL) hlen
  rw [lg_entry_eq]
  generalize (lg_sl av ++ List.replicate (maxL - (lg_sl av).length) Slot.unset).toArray = ls at hl ⊢
  refine body p e s m below meth cd (va_A wd s.heap.size) _ ls rfl ⟨hx, hb, hml, hown, hts⟩ hK ⟨hP, hD0.self, va_S.rf⟩ (fun q h => Or.inr h) hl ?_
  intro pc ls1 H locs v w hd hW hv hw
  subst hv; subst hw
  exact W.lret hx hb hr (fun t ht hW' => ⟨⟨v, w, rfl, ⟨rfl, rfl⟩, by rw [ht]; exact hW.1, hW.2.1⟩, hW.2.2.F ht⟩) hW.2.2.2.2 hd hlocks
theorem MF.of {l : Launch} {y : MethodName} {ws ws' : List Cond} {rm : Room} {D : va_G} {c : Nat → ClassId} {sz : Nat} {wd : va_W} {av : List Value} {r : UInt64} {w' : va_W} {cc : ByteArray} {maxL : Nat}
    (hy : plainName y.cls = true) (hw : ws = Cond.code y cc maxL (some .double) :: ws') (hlen : (lg_sl av).length ≤ maxL)
    (body : ∀ (p : Program) (e : Env) (s : State) (m : MethodId) (below : List Frame) (meth : Method) (cd : Code) (A : Nat → Prop) (Q : State → Prop) (ls : Array Slot), s.heap.size = sz → CallFix p m cd cc maxL s av.toArray ws y.cls → va_K D vwCl (vT c) s → kw D A s.heap wd s.heap [] → (∀ q, s.heap.size ≤ q → A q) → lv_has ls maxL (lv_args 0 av) →
      (∀ (pc : Nat) (ls1 : Array Slot) (H : Heap) (locs : List Loc) (v : UInt64) (w : va_W), decode cc pc = .ok (.dreturn, 1) → kw D A s.heap w H locs → v = r → w = w' → W p l e rm s m av.toArray below meth cd H locs 0 0 Q (F0 m pc ls1 [.double v])) →
      W p l e rm s m av.toArray below meth cd s.heap [] 0 0 Q (F0 m 0 ls [])) : MF l y ws rm D c sz wd av r w' := by
  refine Met.ofW (cc := cc) (maxL := maxL) (ret := some .double) hy hw ?_
  intro p e s m args below meth cd s₁ B hml hv
  obtain ⟨rfl, hsz, hP, hK, hD0⟩ := hv
  have hts := atoms_spec (ws := ws) B.pre
  have hown : s.vm.findClass y.cls = some m.cls := findClass_of_methodNamed B.named
  have hlocks := B.notSynchronized
  have hr := B.returns
  have hb := B.bytes
  have hx := B.exec
  subst hsz
  have hl := lv_entry av (n := maxL) hlen
  rw [lg_entry_eq]
  generalize (lg_sl av ++ List.replicate (maxL - (lg_sl av).length) Slot.unset).toArray = ls at hl ⊢
  refine body p e s m below meth cd (va_A wd s.heap.size) _ ls rfl ⟨hx, hb, hml, hown, hts⟩ hK ⟨hP, hD0.self, va_S.rf⟩ (fun q h => Or.inr h) hl ?_
  intro pc ls1 H locs v w hd hW hv hw
  subst hv; subst hw
  exact W.dret hx hb hr (fun t ht hW' => ⟨⟨v, w, rfl, ⟨rfl, rfl⟩, by rw [ht]; exact hW.1, hW.2.1⟩, hW.2.2.F ht⟩) hW.2.2.2.2 hd hlocks
/-- what a call needs of its caller's world ws (its cells are wc), and how the world is put together behind it -/
def KFr (D : va_G) (A : Nat → Prop) (H0 : Heap) (wc w1 w2 : va_W) (H : Heap) : Prop :=
  va_P D vwCl wc H ∧ va_D (fun _ => True) wc ∧ (∀ q, va_A wc H.size q → A q) ∧ ∀ (H1 : Heap) (locs1 : List Loc), va_P D vwCl w1 H1 → va_D (va_A wc H.size) w1 → (∀ q : Nat, q < H.size → ¬ va_A wc H.size q → H1[q]? = H[q]?) → va_S A H0 H1 locs1 → kw D A H0 w2 H1 locs1
theorem KFr.all {D : va_G} {A : Nat → Prop} {H0 : Heap} {ws w1 : va_W} {H : Heap} {locs : List Loc} (hW : kw D A H0 ws H locs) (hA : ∀ q, H0.size ≤ q → A q) : KFr D A H0 ws w1 w1 H := by
  obtain ⟨hP, hD, hS⟩ := hW
  have hF : ∀ q, va_A ws H.size q → A q := by
    rintro q (⟨k, e, h⟩ | h)
    · exact hD.2 k (q, e) h
    · exact hA q (Nat.le_trans hS.1 h)
  exact ⟨hP, hD.weaken (fun _ _ _ _ => trivial), hF, fun H1 locs1 h1 h2 _ h4 => ⟨h1, h2.weaken (fun k q _ h => hF q.1 h), h4⟩⟩
theorem KFr.cut {D : va_G} {A : Nat → Prop} {H0 : Heap} {ws wc wr w1 w2 : va_W} {H : Heap} {locs : List Loc} (hW : kw D A H0 ws H locs) (hA : ∀ q, H0.size ≤ q → A q)
    (isC isR per : List Nat) (hC : isC.map (fun i => ws[i]?) = wc.map some) (hR : isR.map (fun i => ws[i]?) = wr.map some) (hnC : va_nd isC = true) (hn : va_nd isR = true) (hdis : ∀ i ∈ isR, i ∉ isC) (hper : per.map (fun i => (wr ++ w1)[i]?) = w2.map some) (hnd : va_nd per = true) : KFr D A H0 wc w1 w2 H := by
  obtain ⟨hP, hD, hS⟩ := hW
  have hF := va_free hD hS hA isC hC
  refine ⟨hP.sub isC (k_msub hC), (hD.sub isC hnC hC).weaken (fun _ _ _ _ => trivial), hF, fun H1 locs1 h1 h2 h3 h4 => ?_⟩
  obtain ⟨g1, g2⟩ := va_join hP hD isC isR hC hR hn hdis h3 hF h1 h2
  exact ⟨g1.sub per (k_msub hper), g2.sub per hnd hper, h4⟩
theorem KFr.nil {D : va_G} {A : Nat → Prop} {H0 : Heap} {ws : va_W} {H : Heap} {locs : List Loc} (hW : kw D A H0 ws H locs) (hA : ∀ q, H0.size ≤ q → A q) : KFr D A H0 [] [] ws H := by
  obtain ⟨hP, hD, hS⟩ := hW
  refine ⟨fun k q h => by simp at h, ⟨fun i j p q h => by simp at h, fun k q h => by simp at h⟩, ?_, fun H1 locs1 _ _ h3 h4 => ⟨fun k q hk => ?_, hD, h4⟩⟩
  · rintro q (⟨k, e, h⟩ | h)
    · simp at h
    · exact hA q (Nat.le_trans hS.1 h)
  · have hl := (hP k q hk).lt
    refine (hP k q hk).kept (h3 q.1 hl ?_)
    rintro (⟨k2, e, h⟩ | h)
    · simp at h
    · omega
section KX
variable {p : Program} {l : Launch} {e : Env} {R : Room} {s : State} {m : MethodId} {args : Array Value} {below : List Frame} {meth : Method} {cd : Code} {H : Heap} {locs : List Loc} {cells slots : Nat} {Q : State → Prop} {pc : Nat} {ls : Array Slot} {rest : List Value} {cc : ByteArray} {D : va_G} {c : Nat → ClassId} {A : Nat → Prop} {H0 : Heap} {ws : va_W}
theorem k_top {x y : Int32} (h : x = y) (k : W p l e R s m args below meth cd H locs cells slots Q (F0 m pc ls (.int y :: rest))) : W p l e R s m args below meth cd H locs cells slots Q (F0 m pc ls (.int x :: rest)) := h ▸ k
theorem k_topl {x y : Int64} (h : x = y) (k : W p l e R s m args below meth cd H locs cells slots Q (F0 m pc ls (.long y :: rest))) : W p l e R s m args below meth cd H locs cells slots Q (F0 m pc ls (.long x :: rest)) := h ▸ k
theorem k_loop {α : Type} (P : α → Heap → List Loc → Array Slot → Prop) (μ : α → Nat) (st : List Value)
    (h : ∀ x, (∀ y H1 lo1 ls1, P y H1 lo1 ls1 → μ y < μ x → W p l e R s m args below meth cd H1 lo1 cells slots Q (F0 m pc ls1 st)) → ∀ H1 lo1 ls1, P x H1 lo1 ls1 → W p l e R s m args below meth cd H1 lo1 cells slots Q (F0 m pc ls1 st)) :
    ∀ x H1 lo1 ls1, P x H1 lo1 ls1 → W p l e R s m args below meth cd H1 lo1 cells slots Q (F0 m pc ls1 st) := by
  have key : ∀ n x, μ x < n → ∀ H1 lo1 ls1, P x H1 lo1 ls1 → W p l e R s m args below meth cd H1 lo1 cells slots Q (F0 m pc ls1 st) := by
    intro n
    induction n with
    | zero => intro x hx; exact absurd hx (Nat.not_lt_zero _)
    | succ n ih =>
      intro x hx H1 lo1 ls1 hP
      exact h x (fun y H2 lo2 ls2 hP2 hy => ih y (by omega) H2 lo2 ls2 hP2) H1 lo1 ls1 hP
  exact fun x => key (μ x + 1) x (Nat.lt_succ_self _)
/-- a place where ways meet -/
theorem k_join {α : Type} (P : α → Heap → List Loc → Array Slot → Prop) (pj : Nat) (st : α → List Value) (h : ∀ x H1 lo1 ls1, P x H1 lo1 ls1 → W p l e R s m args below meth cd H1 lo1 cells slots Q (F0 m pj ls1 (st x)))
    (k : (∀ x H1 lo1 ls1, P x H1 lo1 ls1 → W p l e R s m args below meth cd H1 lo1 cells slots Q (F0 m pj ls1 (st x))) → W p l e R s m args below meth cd H locs cells slots Q (F0 m pc ls rest)) : W p l e R s m args below meth cd H locs cells slots Q (F0 m pc ls rest) := k h
end KX
end
section
section KY
variable {p : Program} {l : Launch} {e : Env} {R : Room} {s : State} {m : MethodId} {args : Array Value} {below : List Frame} {meth : Method} {cd : Code} {H : Heap} {locs : List Loc} {cells slots : Nat} {Q : State → Prop} {pc : Nat} {ls : Array Slot} {rest : List Value} {cc : ByteArray} {D : va_G} {c : Nat → ClassId} {A : Nat → Prop} {H0 : Heap} {ws : va_W}
variable {y : MethodName} {wsY ws' : List Cond} {rm : Room} {bytes : ByteArray} {maxL : Nat} {ret : Option FieldType} {index nL : Nat} {Ts : List Cond} {own host : String} {b : Nat} {As st0 : List Value} {wc w1 w2 : va_W}
abbrev kPd (y : MethodName) (n : Nat) : Prop := y.cls ≠ "java/lang/invoke/MethodHandle" ∧ y.cls ≠ "java/lang/invoke/VarHandle" ∧ (parseMethodDescriptor y.desc).map (fun d => d.parameters.length) = some n
abbrev kRm (rm R : Room) (maxL : Nat) : Prop := (rm.cells = 0 ∧ rm.slots = 0) ∧ rm.frames + 1 ≤ R.frames ∧ 8 + (maxL + 11) + rm.locals ≤ R.locals
theorem k_recv {wc : va_W} {s : State} {H : Heap} {b q0 ci : Nat} {fs : List Value} {qc : vw_C} {C : String} (hK : va_K D vwCl (vT c) s) (hP : va_P D vwCl wc H) (he : wc[q0]? = some (b, .inr (ci, fs))) (hc : vwCl[ci]? = some qc) (hq : qc.1 = C) : ∃ cell : Cell, H[b]? = some cell ∧ cell.vm.isStatics = false ∧ s.vm.findClass C = some cell.cls := by
  subst hq
  exact va_recv hK hP hc he
theorem k_pre {av : List Value} {U : State} (f1 : va_P D vwCl wc H) (f2 : va_D (fun _ => True) wc) (hK : va_K D vwCl (vT c) s) (hU : U.heap = H) (hWm : s.WarmedH U.vm) : va_Pc av (kP D c H.size wc) av.toArray U := ⟨rfl, by rw [hU], by rw [hU]; exact f1, va_K.moved hWm.alike hK, f2⟩

theorem k_VI (S : CallFix p m cd cc nL s args Ts own) (hK : va_K D vwCl (vT c) s) (hl : ls.size = nL) (hW : kw D A H0 ws H locs) (fr : KFr D A H0 wc w1 w2 H) {r : Int32} 
    (hM : MI l y wsY rm D c H.size wc (.ref b :: As) r w1) (hG : GoodIn Ts (wsV own index y.cls y wsY)) (hw : wsY = Cond.code y bytes maxL ret :: ws') (hd : kPd y As.length) (hR : kRm rm R maxL)
    (q0 ci : Nat) {fs : List Value} {qc : vw_C} (he : wc[q0]? = some (b, .inr (ci, fs))) (hc : vwCl[ci]? = some qc) (hq : qc.1 = y.cls)
    (hs : st0 = As.reverse ++ .ref b :: rest) (hst : (rest.map fun v => v.category).sum ≤ 8) (hdg : decode cc pc = .ok (.invokevirtual index, 3)) (hcs : cells ≤ R.cells ∧ slots ≤ R.slots)
    (kk : ∀ (H1 : Heap) (locs1 : List Loc), kw D A H0 w2 H1 locs1 → W p l e R s m args below meth cd H1 locs1 cells slots Q (F0 m (pc + 3) ls (.int r :: rest))) : W p l e R s m args below meth cd H locs cells slots Q (F0 m pc ls st0) := by
  obtain ⟨f1, f2, f3, f4⟩ := fr
  refine va_calli (va_runV (As := As) (rest := rest) S hM (cwV As.length S.2.2.2.2 hG hw hR.1.1 hR.1.2 ⟨rfl, hd⟩ hR.2) ⟨kP_blind, k_recv hK f1 he hc hq, fun U hU hWm => k_pre f1 f2 hK hU hWm⟩ rfl rfl hl hs (lv_room hst) hdg hcs) hW.2.2 (fun q _ h => f3 q h) f3 (fun x u t H1 locs1 ht hvm hw hB hz1 hk1 hS1 => ?_)
  obtain ⟨rfl, rfl⟩ := hw
  obtain ⟨g1, g2⟩ := hB
  rw [ht] at g1
  exact kk H1 locs1 (f4 H1 locs1 g1 g2 hk1 hS1)

theorem k_SI (S : CallFix p m cd cc nL s args Ts own) (hK : va_K D vwCl (vT c) s) (hl : ls.size = nL) (hW : kw D A H0 ws H locs) (fr : KFr D A H0 wc w1 w2 H) {r : Int32} 
    (hM : MI l y wsY rm D c H.size wc As r w1) (hG : GoodIn Ts (va_wsS own index y wsY)) (hw : wsY = Cond.code y bytes maxL ret :: ws') (hd : kPd y As.length) (hR : kRm rm R maxL)
    (hs : st0 = As.reverse ++ rest) (hst : (rest.map fun v => v.category).sum ≤ 8) (hdg : decode cc pc = .ok (.invokestatic index, 3)) (hcs : cells ≤ R.cells ∧ slots ≤ R.slots)
    (kk : ∀ (H1 : Heap) (locs1 : List Loc), kw D A H0 w2 H1 locs1 → W p l e R s m args below meth cd H1 locs1 cells slots Q (F0 m (pc + 3) ls (.int r :: rest))) : W p l e R s m args below meth cd H locs cells slots Q (F0 m pc ls st0) := by
  obtain ⟨f1, f2, f3, f4⟩ := fr
  refine va_calli (va_runS (As := As) (rest := rest) S hM (va_cwS As.length S.2.2.2.2 hG hw hR.1.1 hR.1.2 hd hR.2) ⟨kP_blind, fun U hU hWm => k_pre f1 f2 hK hU hWm⟩ rfl rfl hl hs (lv_room hst) hdg hcs) hW.2.2 (fun q _ h => f3 q h) f3 (fun x u t H1 locs1 ht hvm hw hB hz1 hk1 hS1 => ?_)
  obtain ⟨rfl, rfl⟩ := hw
  obtain ⟨g1, g2⟩ := hB
  rw [ht] at g1
  exact kk H1 locs1 (f4 H1 locs1 g1 g2 hk1 hS1)

theorem k_VL (S : CallFix p m cd cc nL s args Ts own) (hK : va_K D vwCl (vT c) s) (hl : ls.size = nL) (hW : kw D A H0 ws H locs) (fr : KFr D A H0 wc w1 w2 H) {r : Int64} 
    (hM : ML l y wsY rm D c H.size wc (.ref b :: As) r w1) (hG : GoodIn Ts (wsV own index y.cls y wsY)) (hw : wsY = Cond.code y bytes maxL ret :: ws') (hd : kPd y As.length) (hR : kRm rm R maxL)
    (q0 ci : Nat) {fs : List Value} {qc : vw_C} (he : wc[q0]? = some (b, .inr (ci, fs))) (hc : vwCl[ci]? = some qc) (hq : qc.1 = y.cls)
    (hs : st0 = As.reverse ++ .ref b :: rest) (hst : (rest.map fun v => v.category).sum ≤ 8) (hdg : decode cc pc = .ok (.invokevirtual index, 3)) (hcs : cells ≤ R.cells ∧ slots ≤ R.slots)
    (kk : ∀ (H1 : Heap) (locs1 : List Loc), kw D A H0 w2 H1 locs1 → W p l e R s m args below meth cd H1 locs1 cells slots Q (F0 m (pc + 3) ls (.long r :: rest))) : W p l e R s m args below meth cd H locs cells slots Q (F0 m pc ls st0) := by
  obtain ⟨f1, f2, f3, f4⟩ := fr
  refine va_calll (va_runV (As := As) (rest := rest) S hM (cwV As.length S.2.2.2.2 hG hw hR.1.1 hR.1.2 ⟨rfl, hd⟩ hR.2) ⟨kP_blind, k_recv hK f1 he hc hq, fun U hU hWm => k_pre f1 f2 hK hU hWm⟩ rfl rfl hl hs (lv_room hst) hdg hcs) hW.2.2 (fun q _ h => f3 q h) f3 (fun x u t H1 locs1 ht hvm hw hB hz1 hk1 hS1 => ?_)
  obtain ⟨rfl, rfl⟩ := hw
  obtain ⟨g1, g2⟩ := hB
  rw [ht] at g1
  exact kk H1 locs1 (f4 H1 locs1 g1 g2 hk1 hS1)

theorem k_SL (S : CallFix p m cd cc nL s args Ts own) (hK : va_K D vwCl (vT c) s) (hl : ls.size = nL) (hW : kw D A H0 ws H locs) (fr : KFr D A H0 wc w1 w2 H) {r : Int64} 
    (hM : ML l y wsY rm D c H.size wc As r w1) (hG : GoodIn Ts (va_wsS own index y wsY)) (hw : wsY = Cond.code y bytes maxL ret :: ws') (hd : kPd y As.length) (hR : kRm rm R maxL)
    (hs : st0 = As.reverse ++ rest) (hst : (rest.map fun v => v.category).sum ≤ 8) (hdg : decode cc pc = .ok (.invokestatic index, 3)) (hcs : cells ≤ R.cells ∧ slots ≤ R.slots)
    (kk : ∀ (H1 : Heap) (locs1 : List Loc), kw D A H0 w2 H1 locs1 → W p l e R s m args below meth cd H1 locs1 cells slots Q (F0 m (pc + 3) ls (.long r :: rest))) : W p l e R s m args below meth cd H locs cells slots Q (F0 m pc ls st0) := by
  obtain ⟨f1, f2, f3, f4⟩ := fr
  refine va_calll (va_runS (As := As) (rest := rest) S hM (va_cwS As.length S.2.2.2.2 hG hw hR.1.1 hR.1.2 hd hR.2) ⟨kP_blind, fun U hU hWm => k_pre f1 f2 hK hU hWm⟩ rfl rfl hl hs (lv_room hst) hdg hcs) hW.2.2 (fun q _ h => f3 q h) f3 (fun x u t H1 locs1 ht hvm hw hB hz1 hk1 hS1 => ?_)
  obtain ⟨rfl, rfl⟩ := hw
  obtain ⟨g1, g2⟩ := hB
  rw [ht] at g1
  exact kk H1 locs1 (f4 H1 locs1 g1 g2 hk1 hS1)

theorem k_VD (S : CallFix p m cd cc nL s args Ts own) (hK : va_K D vwCl (vT c) s) (hl : ls.size = nL) (hW : kw D A H0 ws H locs) (fr : KFr D A H0 wc w1 w2 H) {r : UInt64} 
    (hM : MF l y wsY rm D c H.size wc (.ref b :: As) r w1) (hG : GoodIn Ts (wsV own index y.cls y wsY)) (hw : wsY = Cond.code y bytes maxL ret :: ws') (hd : kPd y As.length) (hR : kRm rm R maxL)
    (q0 ci : Nat) {fs : List Value} {qc : vw_C} (he : wc[q0]? = some (b, .inr (ci, fs))) (hc : vwCl[ci]? = some qc) (hq : qc.1 = y.cls)
    (hs : st0 = As.reverse ++ .ref b :: rest) (hst : (rest.map fun v => v.category).sum ≤ 8) (hdg : decode cc pc = .ok (.invokevirtual index, 3)) (hcs : cells ≤ R.cells ∧ slots ≤ R.slots)
    (kk : ∀ (H1 : Heap) (locs1 : List Loc), kw D A H0 w2 H1 locs1 → W p l e R s m args below meth cd H1 locs1 cells slots Q (F0 m (pc + 3) ls (.double r :: rest))) : W p l e R s m args below meth cd H locs cells slots Q (F0 m pc ls st0) := by
  obtain ⟨f1, f2, f3, f4⟩ := fr
  refine va_calld (va_runV (As := As) (rest := rest) S hM (cwV As.length S.2.2.2.2 hG hw hR.1.1 hR.1.2 ⟨rfl, hd⟩ hR.2) ⟨kP_blind, k_recv hK f1 he hc hq, fun U hU hWm => k_pre f1 f2 hK hU hWm⟩ rfl rfl hl hs (lv_room hst) hdg hcs) hW.2.2 (fun q _ h => f3 q h) f3 (fun x u t H1 locs1 ht hvm hw hB hz1 hk1 hS1 => ?_)
  obtain ⟨rfl, rfl⟩ := hw
  obtain ⟨g1, g2⟩ := hB
  rw [ht] at g1
  exact kk H1 locs1 (f4 H1 locs1 g1 g2 hk1 hS1)

theorem k_SD (S : CallFix p m cd cc nL s args Ts own) (hK : va_K D vwCl (vT c) s) (hl : ls.size = nL) (hW : kw D A H0 ws H locs) (fr : KFr D A H0 wc w1 w2 H) {r : UInt64} 
    (hM : MF l y wsY rm D c H.size wc As r w1) (hG : GoodIn Ts (va_wsS own index y wsY)) (hw : wsY = Cond.code y bytes maxL ret :: ws') (hd : kPd y As.length) (hR : kRm rm R maxL)
    (hs : st0 = As.reverse ++ rest) (hst : (rest.map fun v => v.category).sum ≤ 8) (hdg : decode cc pc = .ok (.invokestatic index, 3)) (hcs : cells ≤ R.cells ∧ slots ≤ R.slots)
    (kk : ∀ (H1 : Heap) (locs1 : List Loc), kw D A H0 w2 H1 locs1 → W p l e R s m args below meth cd H1 locs1 cells slots Q (F0 m (pc + 3) ls (.double r :: rest))) : W p l e R s m args below meth cd H locs cells slots Q (F0 m pc ls st0) := by
  obtain ⟨f1, f2, f3, f4⟩ := fr
  refine va_calld (va_runS (As := As) (rest := rest) S hM (va_cwS As.length S.2.2.2.2 hG hw hR.1.1 hR.1.2 hd hR.2) ⟨kP_blind, fun U hU hWm => k_pre f1 f2 hK hU hWm⟩ rfl rfl hl hs (lv_room hst) hdg hcs) hW.2.2 (fun q _ h => f3 q h) f3 (fun x u t H1 locs1 ht hvm hw hB hz1 hk1 hS1 => ?_)
  obtain ⟨rfl, rfl⟩ := hw
  obtain ⟨g1, g2⟩ := hB
  rw [ht] at g1
  exact kk H1 locs1 (f4 H1 locs1 g1 g2 hk1 hS1)

theorem k_VV (S : CallFix p m cd cc nL s args Ts own) (hK : va_K D vwCl (vT c) s) (hl : ls.size = nL) (hW : kw D A H0 ws H locs) (fr : KFr D A H0 wc w1 w2 H) 
    (hM : MV l y wsY rm D c H.size wc (.ref b :: As) w1) (hG : GoodIn Ts (wsV own index y.cls y wsY)) (hw : wsY = Cond.code y bytes maxL ret :: ws') (hd : kPd y As.length) (hR : kRm rm R maxL)
    (q0 ci : Nat) {fs : List Value} {qc : vw_C} (he : wc[q0]? = some (b, .inr (ci, fs))) (hc : vwCl[ci]? = some qc) (hq : qc.1 = y.cls)
    (hs : st0 = As.reverse ++ .ref b :: rest) (hst : (rest.map fun v => v.category).sum ≤ 8) (hdg : decode cc pc = .ok (.invokevirtual index, 3)) (hcs : cells ≤ R.cells ∧ slots ≤ R.slots)
    (kk : ∀ (H1 : Heap) (locs1 : List Loc), kw D A H0 w2 H1 locs1 → W p l e R s m args below meth cd H1 locs1 cells slots Q (F0 m (pc + 3) ls (rest))) : W p l e R s m args below meth cd H locs cells slots Q (F0 m pc ls st0) := by
  obtain ⟨f1, f2, f3, f4⟩ := fr
  refine va_callv (va_runV (As := As) (rest := rest) S hM (cwV As.length S.2.2.2.2 hG hw hR.1.1 hR.1.2 ⟨rfl, hd⟩ hR.2) ⟨kP_blind, k_recv hK f1 he hc hq, fun U hU hWm => k_pre f1 f2 hK hU hWm⟩ rfl rfl hl hs (lv_room hst) hdg hcs) hW.2.2 (fun q _ h => f3 q h) f3 (fun u t H1 locs1 ht hvm hw hB hz1 hk1 hS1 => ?_)
  subst hw
  obtain ⟨g1, g2⟩ := hB
  rw [ht] at g1
  exact kk H1 locs1 (f4 H1 locs1 g1 g2 hk1 hS1)

theorem k_SV (S : CallFix p m cd cc nL s args Ts own) (hK : va_K D vwCl (vT c) s) (hl : ls.size = nL) (hW : kw D A H0 ws H locs) (fr : KFr D A H0 wc w1 w2 H) 
    (hM : MV l y wsY rm D c H.size wc As w1) (hG : GoodIn Ts (va_wsS own index y wsY)) (hw : wsY = Cond.code y bytes maxL ret :: ws') (hd : kPd y As.length) (hR : kRm rm R maxL)
    (hs : st0 = As.reverse ++ rest) (hst : (rest.map fun v => v.category).sum ≤ 8) (hdg : decode cc pc = .ok (.invokestatic index, 3)) (hcs : cells ≤ R.cells ∧ slots ≤ R.slots)
    (kk : ∀ (H1 : Heap) (locs1 : List Loc), kw D A H0 w2 H1 locs1 → W p l e R s m args below meth cd H1 locs1 cells slots Q (F0 m (pc + 3) ls (rest))) : W p l e R s m args below meth cd H locs cells slots Q (F0 m pc ls st0) := by
  obtain ⟨f1, f2, f3, f4⟩ := fr
  refine va_callv (va_runS (As := As) (rest := rest) S hM (va_cwS As.length S.2.2.2.2 hG hw hR.1.1 hR.1.2 hd hR.2) ⟨kP_blind, fun U hU hWm => k_pre f1 f2 hK hU hWm⟩ rfl rfl hl hs (lv_room hst) hdg hcs) hW.2.2 (fun q _ h => f3 q h) f3 (fun u t H1 locs1 ht hvm hw hB hz1 hk1 hS1 => ?_)
  subst hw
  obtain ⟨g1, g2⟩ := hB
  rw [ht] at g1
  exact kk H1 locs1 (f4 H1 locs1 g1 g2 hk1 hS1)

end KY
end
section
/-! ===== natural numbers as ints: one instruction each ===== -/
theorem kn_and (a b : Nat) : nI a &&& nI b = nI (a &&& b) := by
  apply Int32.toBitVec_inj.1
  show BitVec.ofNat 32 a &&& BitVec.ofNat 32 b = BitVec.ofNat 32 (a &&& b)
  apply BitVec.eq_of_getLsbD_eq
  intro i hi
  simp [hi]
theorem kn_or (a b : Nat) : nI a ||| nI b = nI (a ||| b) := by
  apply Int32.toBitVec_inj.1
  show BitVec.ofNat 32 a ||| BitVec.ofNat 32 b = BitVec.ofNat 32 (a ||| b)
  apply BitVec.eq_of_getLsbD_eq
  intro i hi
  simp [hi]
theorem kn_xor (a b : Nat) : nI a ^^^ nI b = nI (a ^^^ b) := by
  apply Int32.toBitVec_inj.1
  show BitVec.ofNat 32 a ^^^ BitVec.ofNat 32 b = BitVec.ofNat 32 (a ^^^ b)
  apply BitVec.eq_of_getLsbD_eq
  intro i hi
  simp [hi]
theorem kn_sm : ∀ n, n < 32 → ((nI n &&& 31).toBitVec.smod 32).toNat = n := by decide +kernel
/-- one bit of a mask of 32 -/
theorem kn_bit {n k : Nat} (hk : k < 32) : (nI n >>> (nI k &&& 31)) &&& nI 1 = nI ((n.testBit k).toNat) := by
  apply Int32.toBitVec_inj.1
  show ((BitVec.ofNat 32 n).sshiftRight ((nI k &&& 31).toBitVec.smod 32).toNat) &&& BitVec.ofNat 32 1 = BitVec.ofNat 32 _
  rw [kn_sm k hk]
  apply BitVec.eq_of_getLsbD_eq
  intro i hi
  rcases Nat.eq_zero_or_pos i with h0 | h0
  · subst h0
    rw [BitVec.getLsbD_and, BitVec.getLsbD_sshiftRight, Nat.add_zero, if_pos hk, BitVec.getLsbD_ofNat, BitVec.getLsbD_ofNat, BitVec.getLsbD_ofNat]
    cases n.testBit k <;> simp [hk]
  · have h1 : (1 : Nat).testBit i = false := Nat.testBit_lt_two_pow (Nat.lt_of_lt_of_le (by decide : 1 < 2 ^ 1) (Nat.pow_le_pow_right (by decide) h0))
    have h2 : ((n.testBit k).toNat).testBit i = false := by
      cases n.testBit k
      · exact Nat.zero_testBit i
      · exact h1
    rw [BitVec.getLsbD_and, BitVec.getLsbD_ofNat, BitVec.getLsbD_ofNat, h1, h2]
    simp
def fu (f : Nat → Nat) (n v : Nat) : Nat → Nat := fun k => if k = n then v else f k
def kc (v : Nat) : Nat → Nat := fun _ => v
def pu (φ : Nat → Nat → Nat) (i : Nat) (g : Nat → Nat) : Nat → Nat → Nat := fun i' => if i' = i then g else φ i'
theorem k_upd {f : Nat → Nat} {n v : Nat} (h : n < 2 ^ 31) : upd (fun k => nI (f k)) (nI n).toNatClampNeg (nI v) = fun k => nI (fu f n v k) := by
  rw [nI_clamp h]
  funext k
  unfold upd fu
  split <;> rfl
theorem k_narB (b : Bool) : narrow .boolean (.int (nI b.toNat)) = .int (nI b.toNat) := by cases b <;> rfl
theorem k_fitB (b : Bool) : fits .boolean (.int (nI b.toNat)) = true := by cases b <;> rfl
theorem k_bool {b : Bool} : nI b.toNat = 0 ↔ b = false := by cases b <;> decide
theorem k_btrue {b : Bool} (h : ¬ nI b.toNat = 0) : b = true := by
  cases b
  · exact absurd (k_bool.mpr rfl) h
  · rfl
section KA
variable {p : Program} {l : Launch} {e : Env} {R : Room} {s : State} {m : MethodId} {args : Array Value} {below : List Frame} {meth : Method} {cd : Code} {H : Heap} {locs : List Loc} {cells slots : Nat} {Q : State → Prop} {pc : Nat} {ls : Array Slot} {rest : List Value} {cc : ByteArray} {D : va_G} {c : Nat → ClassId} {A : Nat → Prop} {H0 : Heap} {ws : va_W}
variable {nL : Nat} {Ts : List Cond} {own : String} {b : Nat}
theorem kn_iadd (S : CallFix p m cd cc nL s args Ts own) {x y : Nat} (hdg : decode cc pc = .ok (.iadd, 1)) (k : W p l e R s m args below meth cd H locs cells slots Q (F0 m (pc + 1) ls (.int (nI (x + y)) :: rest))) : W p l e R s m args below meth cd H locs cells slots Q (F0 m pc ls (.int (nI y) :: .int (nI x) :: rest)) := lv_iadd S.1 S.2.1 hdg (k_top (nI_add x y) k)
theorem kn_isub (S : CallFix p m cd cc nL s args Ts own) {x y : Nat} (hdg : decode cc pc = .ok (.isub, 1)) (h : y ≤ x) (k : W p l e R s m args below meth cd H locs cells slots Q (F0 m (pc + 1) ls (.int (nI (x - y)) :: rest))) : W p l e R s m args below meth cd H locs cells slots Q (F0 m pc ls (.int (nI y) :: .int (nI x) :: rest)) := lv_isub S.1 S.2.1 hdg (k_top (pk_sub h) k)
theorem kn_imul (S : CallFix p m cd cc nL s args Ts own) {x y : Nat} (hdg : decode cc pc = .ok (.imul, 1)) (k : W p l e R s m args below meth cd H locs cells slots Q (F0 m (pc + 1) ls (.int (nI (x * y)) :: rest))) : W p l e R s m args below meth cd H locs cells slots Q (F0 m pc ls (.int (nI y) :: .int (nI x) :: rest)) := lv_imul S.1 S.2.1 hdg (k_top (pk_mul x y) k)
theorem kn_idiv (S : CallFix p m cd cc nL s args Ts own) {x y : Nat} (hdg : decode cc pc = .ok (.idiv, 1)) (hx : x < 2 ^ 31) (h0 : 0 < y) (hy : y < 2 ^ 31) (k : W p l e R s m args below meth cd H locs cells slots Q (F0 m (pc + 1) ls (.int (nI (x / y)) :: rest))) : W p l e R s m args below meth cd H locs cells slots Q (F0 m pc ls (.int (nI y) :: .int (nI x) :: rest)) := lv_idiv S.1 S.2.1 hdg (nI_ne0 h0 hy) (k_top (pk_div hx h0 hy) k)
theorem kn_irem (S : CallFix p m cd cc nL s args Ts own) {x y : Nat} (hdg : decode cc pc = .ok (.irem, 1)) (hx : x < 2 ^ 31) (h0 : 0 < y) (hy : y < 2 ^ 31) (k : W p l e R s m args below meth cd H locs cells slots Q (F0 m (pc + 1) ls (.int (nI (x % y)) :: rest))) : W p l e R s m args below meth cd H locs cells slots Q (F0 m pc ls (.int (nI y) :: .int (nI x) :: rest)) := lv_irem S.1 S.2.1 hdg (nI_ne0 h0 hy) (k_top (pk_rem hx h0 hy) k)
theorem kn_iand (S : CallFix p m cd cc nL s args Ts own) {x y : Nat} (hdg : decode cc pc = .ok (.iand, 1)) (k : W p l e R s m args below meth cd H locs cells slots Q (F0 m (pc + 1) ls (.int (nI (x &&& y)) :: rest))) : W p l e R s m args below meth cd H locs cells slots Q (F0 m pc ls (.int (nI y) :: .int (nI x) :: rest)) := lv_iand S.1 S.2.1 hdg (k_top (kn_and x y) k)
theorem kn_ior (S : CallFix p m cd cc nL s args Ts own) {x y : Nat} (hdg : decode cc pc = .ok (.ior, 1)) (k : W p l e R s m args below meth cd H locs cells slots Q (F0 m (pc + 1) ls (.int (nI (x ||| y)) :: rest))) : W p l e R s m args below meth cd H locs cells slots Q (F0 m pc ls (.int (nI y) :: .int (nI x) :: rest)) := lv_ior S.1 S.2.1 hdg (k_top (kn_or x y) k)
theorem kn_ixor (S : CallFix p m cd cc nL s args Ts own) {x y : Nat} (hdg : decode cc pc = .ok (.ixor, 1)) (k : W p l e R s m args below meth cd H locs cells slots Q (F0 m (pc + 1) ls (.int (nI (x ^^^ y)) :: rest))) : W p l e R s m args below meth cd H locs cells slots Q (F0 m pc ls (.int (nI y) :: .int (nI x) :: rest)) := lv_ixor S.1 S.2.1 hdg (k_top (kn_xor x y) k)
theorem kn_ishl (S : CallFix p m cd cc nL s args Ts own) {x y : Nat} (hdg : decode cc pc = .ok (.ishl, 1)) (hy : y < 32) (h : x * 2 ^ y < 2 ^ 32) (k : W p l e R s m args below meth cd H locs cells slots Q (F0 m (pc + 1) ls (.int (nI (x * 2 ^ y)) :: rest))) : W p l e R s m args below meth cd H locs cells slots Q (F0 m pc ls (.int (nI y) :: .int (nI x) :: rest)) := lv_ishl S.1 S.2.1 hdg (k_top (pk_shlN _ y (kn_sm y hy) h) k)
theorem kn_shl1 (S : CallFix p m cd cc nL s args Ts own) {y : Nat} (hdg : decode cc pc = .ok (.ishl, 1)) (hy : y < 32) (k : W p l e R s m args below meth cd H locs cells slots Q (F0 m (pc + 1) ls (.int (nI (2 ^ y)) :: rest))) : W p l e R s m args below meth cd H locs cells slots Q (F0 m pc ls (.int (nI y) :: .int (nI 1) :: rest)) := lv_ishl S.1 S.2.1 hdg (k_top ((pk_shlN _ y (kn_sm y hy) (by rw [Nat.one_mul]; exact Nat.pow_lt_pow_right (by decide) hy)).trans (by rw [Nat.one_mul])) k)
theorem kn_ishr (S : CallFix p m cd cc nL s args Ts own) {x y : Nat} (hdg : decode cc pc = .ok (.ishr, 1)) (hy : y < 32) (h : x < 2 ^ 31) (k : W p l e R s m args below meth cd H locs cells slots Q (F0 m (pc + 1) ls (.int (nI (x / 2 ^ y)) :: rest))) : W p l e R s m args below meth cd H locs cells slots Q (F0 m pc ls (.int (nI y) :: .int (nI x) :: rest)) := lv_ishr S.1 S.2.1 hdg (k_top (pk_shrN h _ y (kn_sm y hy)) k)
/-- '>> k & 1' -/
theorem kn_tbit (S : CallFix p m cd cc nL s args Ts own) {x y : Nat} (hy : y < 32) (hdg : decode cc pc = .ok (.iand, 1)) (k : W p l e R s m args below meth cd H locs cells slots Q (F0 m (pc + 1) ls (.int (nI ((x.testBit y).toNat)) :: rest))) : W p l e R s m args below meth cd H locs cells slots Q (F0 m pc ls (.int (nI 1) :: .int (nI x >>> (nI y &&& 31)) :: rest)) := lv_iand S.1 S.2.1 hdg (k_top (kn_bit hy) k)
theorem kn_lt (S : CallFix p m cd cc nL s args Ts own) {x y : Nat} {off : Int} {tgt : Nat} (hdg : decode cc pc = .ok (.if_icmp .lt off, 3)) (ht : (pc : Int) + off = (tgt : Int)) (hx : x < 2 ^ 31) (hy : y < 2 ^ 31) (kt : x < y → W p l e R s m args below meth cd H locs cells slots Q (F0 m tgt ls rest)) (kf : y ≤ x → W p l e R s m args below meth cd H locs cells slots Q (F0 m (pc + 3) ls rest)) : W p l e R s m args below meth cd H locs cells slots Q (F0 m pc ls (.int (nI y) :: .int (nI x) :: rest)) := lv_icmp_lt S.1 S.2.1 hdg ht (fun h => kt ((nI_ltI hx hy).mp h)) (fun h => kf (Nat.le_of_not_lt fun q => h ((nI_ltI hx hy).mpr q)))
theorem kn_ge (S : CallFix p m cd cc nL s args Ts own) {x y : Nat} {off : Int} {tgt : Nat} (hdg : decode cc pc = .ok (.if_icmp .ge off, 3)) (ht : (pc : Int) + off = (tgt : Int)) (hx : x < 2 ^ 31) (hy : y < 2 ^ 31) (kt : y ≤ x → W p l e R s m args below meth cd H locs cells slots Q (F0 m tgt ls rest)) (kf : x < y → W p l e R s m args below meth cd H locs cells slots Q (F0 m (pc + 3) ls rest)) : W p l e R s m args below meth cd H locs cells slots Q (F0 m pc ls (.int (nI y) :: .int (nI x) :: rest)) := lv_icmp_ge S.1 S.2.1 hdg ht (fun h => kt ((nI_leI hy hx).mp h)) (fun h => kf (Nat.lt_of_not_le fun q => h ((nI_leI hy hx).mpr q)))
theorem kn_gt (S : CallFix p m cd cc nL s args Ts own) {x y : Nat} {off : Int} {tgt : Nat} (hdg : decode cc pc = .ok (.if_icmp .gt off, 3)) (ht : (pc : Int) + off = (tgt : Int)) (hx : x < 2 ^ 31) (hy : y < 2 ^ 31) (kt : y < x → W p l e R s m args below meth cd H locs cells slots Q (F0 m tgt ls rest)) (kf : x ≤ y → W p l e R s m args below meth cd H locs cells slots Q (F0 m (pc + 3) ls rest)) : W p l e R s m args below meth cd H locs cells slots Q (F0 m pc ls (.int (nI y) :: .int (nI x) :: rest)) := lv_icmp_gt S.1 S.2.1 hdg ht (fun h => kt ((nI_ltI hy hx).mp h)) (fun h => kf (Nat.le_of_not_lt fun q => h ((nI_ltI hy hx).mpr q)))
theorem kn_le (S : CallFix p m cd cc nL s args Ts own) {x y : Nat} {off : Int} {tgt : Nat} (hdg : decode cc pc = .ok (.if_icmp .le off, 3)) (ht : (pc : Int) + off = (tgt : Int)) (hx : x < 2 ^ 31) (hy : y < 2 ^ 31) (kt : x ≤ y → W p l e R s m args below meth cd H locs cells slots Q (F0 m tgt ls rest)) (kf : y < x → W p l e R s m args below meth cd H locs cells slots Q (F0 m (pc + 3) ls rest)) : W p l e R s m args below meth cd H locs cells slots Q (F0 m pc ls (.int (nI y) :: .int (nI x) :: rest)) := lv_icmp_le S.1 S.2.1 hdg ht (fun h => kt ((nI_leI hx hy).mp h)) (fun h => kf (Nat.lt_of_not_le fun q => h ((nI_leI hx hy).mpr q)))
theorem kn_eq (S : CallFix p m cd cc nL s args Ts own) {x y : Nat} {off : Int} {tgt : Nat} (hdg : decode cc pc = .ok (.if_icmp .eq off, 3)) (ht : (pc : Int) + off = (tgt : Int)) (hx : x < 2 ^ 31) (hy : y < 2 ^ 31) (kt : x = y → W p l e R s m args below meth cd H locs cells slots Q (F0 m tgt ls rest)) (kf : ¬ x = y → W p l e R s m args below meth cd H locs cells slots Q (F0 m (pc + 3) ls rest)) : W p l e R s m args below meth cd H locs cells slots Q (F0 m pc ls (.int (nI y) :: .int (nI x) :: rest)) := lv_icmp_eq S.1 S.2.1 hdg ht (fun h => kt ((nI_eq hx hy).mp h)) (fun h => kf (fun q => h ((nI_eq hx hy).mpr q)))
theorem kn_ne (S : CallFix p m cd cc nL s args Ts own) {x y : Nat} {off : Int} {tgt : Nat} (hdg : decode cc pc = .ok (.if_icmp .ne off, 3)) (ht : (pc : Int) + off = (tgt : Int)) (hx : x < 2 ^ 31) (hy : y < 2 ^ 31) (kt : ¬ x = y → W p l e R s m args below meth cd H locs cells slots Q (F0 m tgt ls rest)) (kf : x = y → W p l e R s m args below meth cd H locs cells slots Q (F0 m (pc + 3) ls rest)) : W p l e R s m args below meth cd H locs cells slots Q (F0 m pc ls (.int (nI y) :: .int (nI x) :: rest)) := lv_icmp_ne S.1 S.2.1 hdg ht (fun h => kt (fun q => h ((nI_eq hx hy).mpr q))) (fun h => kf ((nI_eq hx hy).mp h))
theorem kz_eq (S : CallFix p m cd cc nL s args Ts own) {x : Nat} {off : Int} {tgt : Nat} (hdg : decode cc pc = .ok (.ifCond .eq off, 3)) (ht : (pc : Int) + off = (tgt : Int)) (hx : x < 2 ^ 31) (kt : x = 0 → W p l e R s m args below meth cd H locs cells slots Q (F0 m tgt ls rest)) (kf : ¬ x = 0 → W p l e R s m args below meth cd H locs cells slots Q (F0 m (pc + 3) ls rest)) : W p l e R s m args below meth cd H locs cells slots Q (F0 m pc ls (.int (nI x) :: rest)) := lv_if_eq S.1 S.2.1 hdg ht (fun h => kt (Nat.eq_zero_of_not_pos fun q => nI_ne0 q hx h)) (fun h => kf (fun q => h (by rw [q]; exact nI_0)))
theorem kz_ne (S : CallFix p m cd cc nL s args Ts own) {x : Nat} {off : Int} {tgt : Nat} (hdg : decode cc pc = .ok (.ifCond .ne off, 3)) (ht : (pc : Int) + off = (tgt : Int)) (hx : x < 2 ^ 31) (kt : ¬ x = 0 → W p l e R s m args below meth cd H locs cells slots Q (F0 m tgt ls rest)) (kf : x = 0 → W p l e R s m args below meth cd H locs cells slots Q (F0 m (pc + 3) ls rest)) : W p l e R s m args below meth cd H locs cells slots Q (F0 m pc ls (.int (nI x) :: rest)) := lv_if_ne S.1 S.2.1 hdg ht (fun h => kt (fun q => h (by rw [q]; exact nI_0))) (fun h => kf (Nat.eq_zero_of_not_pos fun q => nI_ne0 q hx h))
theorem kz_gt (S : CallFix p m cd cc nL s args Ts own) {x : Nat} {off : Int} {tgt : Nat} (hdg : decode cc pc = .ok (.ifCond .gt off, 3)) (ht : (pc : Int) + off = (tgt : Int)) (hx : x < 2 ^ 31) (kt : 0 < x → W p l e R s m args below meth cd H locs cells slots Q (F0 m tgt ls rest)) (kf : x = 0 → W p l e R s m args below meth cd H locs cells slots Q (F0 m (pc + 3) ls rest)) : W p l e R s m args below meth cd H locs cells slots Q (F0 m pc ls (.int (nI x) :: rest)) := by
  refine lv_if_gt S.1 S.2.1 hdg ht (fun h => ?_) (fun h => ?_)
  · refine kt (Nat.pos_of_ne_zero fun q => ?_)
    subst q
    exact absurd h (by decide)
  · refine kf (Nat.eq_zero_of_not_pos fun q => h ?_)
    first | exact nI_lt q hx | exact (nI_lt q hx : nI 0 < nI x) | simpa using nI_lt q hx
theorem kz_le (S : CallFix p m cd cc nL s args Ts own) {x : Nat} {off : Int} {tgt : Nat} (hdg : decode cc pc = .ok (.ifCond .le off, 3)) (ht : (pc : Int) + off = (tgt : Int)) (hx : x < 2 ^ 31) (kt : x = 0 → W p l e R s m args below meth cd H locs cells slots Q (F0 m tgt ls rest)) (kf : 0 < x → W p l e R s m args below meth cd H locs cells slots Q (F0 m (pc + 3) ls rest)) : W p l e R s m args below meth cd H locs cells slots Q (F0 m pc ls (.int (nI x) :: rest)) := by
  refine lv_if_le S.1 S.2.1 hdg ht (fun h => ?_) (fun h => ?_)
  · exact kt (Nat.eq_zero_of_not_pos fun q => nI_nle q hx h)
  · refine kf (Nat.pos_of_ne_zero fun q => ?_)
    subst q
    exact absurd h (by decide)
theorem kz_lt (S : CallFix p m cd cc nL s args Ts own) {x : Nat} {off : Int} {tgt : Nat} (hdg : decode cc pc = .ok (.ifCond .lt off, 3)) (ht : (pc : Int) + off = (tgt : Int)) (hx : x < 2 ^ 31) (kf : W p l e R s m args below meth cd H locs cells slots Q (F0 m (pc + 3) ls rest)) : W p l e R s m args below meth cd H locs cells slots Q (F0 m pc ls (.int (nI x) :: rest)) := lv_if_lt S.1 S.2.1 hdg ht (fun h => absurd h (nI_pos hx)) (fun _ => kf)
theorem kz_ge (S : CallFix p m cd cc nL s args Ts own) {x : Nat} {off : Int} {tgt : Nat} (hdg : decode cc pc = .ok (.ifCond .ge off, 3)) (ht : (pc : Int) + off = (tgt : Int)) (hx : x < 2 ^ 31) (kt : W p l e R s m args below meth cd H locs cells slots Q (F0 m tgt ls rest)) : W p l e R s m args below meth cd H locs cells slots Q (F0 m pc ls (.int (nI x) :: rest)) := lv_if_ge S.1 S.2.1 hdg ht (fun _ => kt) (fun h => absurd (nI_pos' hx) h)
theorem kb_eq (S : CallFix p m cd cc nL s args Ts own) {x : Bool} {off : Int} {tgt : Nat} (hdg : decode cc pc = .ok (.ifCond .eq off, 3)) (ht : (pc : Int) + off = (tgt : Int)) (kt : x = false → W p l e R s m args below meth cd H locs cells slots Q (F0 m tgt ls rest)) (kf : x = true → W p l e R s m args below meth cd H locs cells slots Q (F0 m (pc + 3) ls rest)) : W p l e R s m args below meth cd H locs cells slots Q (F0 m pc ls (.int (nI x.toNat) :: rest)) := lv_if_eq S.1 S.2.1 hdg ht (fun h => kt (k_bool.mp h)) (fun h => kf (k_btrue h))
theorem kb_ne (S : CallFix p m cd cc nL s args Ts own) {x : Bool} {off : Int} {tgt : Nat} (hdg : decode cc pc = .ok (.ifCond .ne off, 3)) (ht : (pc : Int) + off = (tgt : Int)) (kt : x = true → W p l e R s m args below meth cd H locs cells slots Q (F0 m tgt ls rest)) (kf : x = false → W p l e R s m args below meth cd H locs cells slots Q (F0 m (pc + 3) ls rest)) : W p l e R s m args below meth cd H locs cells slots Q (F0 m pc ls (.int (nI x.toNat) :: rest)) := lv_if_ne S.1 S.2.1 hdg ht (fun h => kt (k_btrue h)) (fun h => kf (k_bool.mp h))
theorem kn_ald (S : CallFix p m cd cc nL s args Ts own) (hK : va_K D vwCl (vT c) s) (hW : kw D A H0 ws H locs) (q0 : Nat) {n i : Nat} {f : Nat → Nat} (ha : ws[q0]? = some (b, .inl (c 0, n, .inl (fun k => nI (f k))))) (hi : i < n) (hn : n < 2 ^ 31) (hdg : decode cc pc = .ok (.iaload, 1)) (k : W p l e R s m args below meth cd H locs cells slots Q (F0 m (pc + 1) ls (.int (nI (f i)) :: rest))) : W p l e R s m args below meth cd H locs cells slots Q (F0 m pc ls (.int (nI i) :: .ref b :: rest)) := va_iald S.1 S.2.1 hK hW.1 q0 0 ha rfl (vp_in_nI hi hn) hdg (by
  have e1 : (nI i).toNatClampNeg = i := nI_clamp (Nat.lt_trans hi hn)
  rw [e1]; exact k)
theorem kn_cld (S : CallFix p m cd cc nL s args Ts own) (hK : va_K D vwCl (vT c) s) (hW : kw D A H0 ws H locs) (q0 : Nat) {n i : Nat} {f : Nat → Nat} (ha : ws[q0]? = some (b, .inl (c 1, n, .inl (fun k => nI (f k))))) (hi : i < n) (hn : n < 2 ^ 31) (hdg : decode cc pc = .ok (.caload, 1)) (k : W p l e R s m args below meth cd H locs cells slots Q (F0 m (pc + 1) ls (.int (nI (f i)) :: rest))) : W p l e R s m args below meth cd H locs cells slots Q (F0 m pc ls (.int (nI i) :: .ref b :: rest)) := va_cald S.1 S.2.1 hK hW.1 q0 1 ha rfl (vp_in_nI hi hn) hdg (by
  have e1 : (nI i).toNatClampNeg = i := nI_clamp (Nat.lt_trans hi hn)
  rw [e1]; exact k)
theorem kn_ast (S : CallFix p m cd cc nL s args Ts own) (hK : va_K D vwCl (vT c) s) (hW : kw D A H0 ws H locs) (q0 : Nat) {n i v : Nat} {f : Nat → Nat} (ha : ws[q0]? = some (b, .inl (c 0, n, .inl (fun k => nI (f k))))) (hi : i < n) (hn : n < 2 ^ 31) (hdg : decode cc pc = .ok (.iastore, 1)) (k : ∀ (H1 : Heap) (locs1 : List Loc), kw D A H0 (ws.set q0 (b, .inl (c 0, n, .inl (fun k => nI (fu f i v k))))) H1 locs1 → W p l e R s m args below meth cd H1 locs1 cells slots Q (F0 m (pc + 1) ls rest)) : W p l e R s m args below meth cd H locs cells slots Q (F0 m pc ls (.int (nI v) :: .int (nI i) :: .ref b :: rest)) := va_iast S.1 S.2.1 hK hW.1 hW.2.1 hW.2.2 q0 0 ha rfl (vp_in_nI hi hn) hdg (fun H1 locs1 h1 h2 h3 => by
  rw [k_upd (Nat.lt_trans hi hn)] at h1 h2
  exact k H1 locs1 ⟨h1, h2, h3⟩)
theorem kx_get (S : CallFix p m cd cc nL s args Ts own) (hK : va_K D vwCl (vT c) s) (hW : kw D A H0 ws H locs) {C : String} {T : u_T} {N : Nat} (hin : ∀ w ∈ u_ws C T N, w ∈ Ts) (q0 ci : Nat) {fs : List Value} (he : ws[q0]? = some (b, .inr (ci, fs))) (hc : vwCl[ci]? = some (C, T, N)) (k : Nat) (hk : k < N) {index : Nat} (hlink : Cond.fieldLink own index (T k).1 (T k).2.1 (T k).2.2.1 ∈ Ts) {v : Value} (hv : fs[k]? = some v) (hdg : decode cc pc = .ok (.getfield index, 3)) (kk : W p l e R s m args below meth cd H locs cells slots Q (F0 m (pc + 3) ls (v :: rest))) : W p l e R s m args below meth cd H locs cells slots Q (F0 m pc ls (.ref b :: rest)) := va_get S.1 S.2.1 S.2.2.2.2 hin S.2.2.2.1 hK hW.1 q0 he hc k hk (S.2.2.2.2 _ hlink) (fun _ h => h) hv hdg kk
theorem kx_getN (S : CallFix p m cd cc nL s args Ts own) (hK : va_K D vwCl (vT c) s) (hW : kw D A H0 ws H locs) {C host : String} {T : u_T} {N : Nat} (hin : ∀ w ∈ u_ws C T N, w ∈ Ts) (q0 ci : Nat) {fs : List Value} (he : ws[q0]? = some (b, .inr (ci, fs))) (hc : vwCl[ci]? = some (C, T, N)) (k : Nat) (hk : k < N) {index : Nat} (hlink : va_Nw (Cond.fieldLinkNest own index (T k).1 (T k).2.1 (T k).2.2.1 host) s) {v : Value} (hv : fs[k]? = some v) (hdg : decode cc pc = .ok (.getfield index, 3)) (kk : W p l e R s m args below meth cd H locs cells slots Q (F0 m (pc + 3) ls (v :: rest))) : W p l e R s m args below meth cd H locs cells slots Q (F0 m pc ls (.ref b :: rest)) := va_getN S.1 S.2.1 S.2.2.2.2 hin S.2.2.2.1 hK hW.1 q0 he hc k hk (hlink.use rfl) (fun _ h => h) hv hdg kk
theorem kx_put (S : CallFix p m cd cc nL s args Ts own) (hK : va_K D vwCl (vT c) s) (hW : kw D A H0 ws H locs) {C : String} {T : u_T} {N : Nat} (hin : ∀ w ∈ u_ws C T N, w ∈ Ts) {ty0 : Nat → FieldType} (hty : ∀ k, k < N → parseFieldDescriptor (T k).2.2.1 = some (ty0 k)) (hnm : ∀ a, a < N → ∀ b, b < N → a ≠ b → (T a).2.1 ≠ (T b).2.1) (q0 ci : Nat) {fs : List Value} (he : ws[q0]? = some (b, .inr (ci, fs))) (hc : vwCl[ci]? = some (C, T, N)) (k : Nat) (hk : k < N) {index : Nat} (hlink : Cond.fieldLink own index (T k).1 (T k).2.1 (T k).2.2.1 ∈ Ts) (hfin : (T k).2.2.2 = false) {v : Value} (hn : narrow (ty0 k) v = v) (hfit : fits (ty0 k) v = true) (hl : k < fs.length) (hdg : decode cc pc = .ok (.putfield index, 3)) (kk : ∀ (H1 : Heap) (locs1 : List Loc), kw D A H0 (ws.set q0 (b, .inr (ci, fs.set k v))) H1 locs1 → W p l e R s m args below meth cd H1 locs1 cells slots Q (F0 m (pc + 3) ls rest)) : W p l e R s m args below meth cd H locs cells slots Q (F0 m pc ls (v :: .ref b :: rest)) := va_put S.1 S.2.1 S.2.2.2.2 hin ty0 hty hnm S.2.2.2.1 hK hW.1 hW.2.1 hW.2.2 q0 he hc k hk (S.2.2.2.2 _ hlink) (fun _ h => h) hfin (hty k hk) hn hfit hl hdg (fun H1 locs1 h1 h2 h3 => kk H1 locs1 ⟨h1, h2, h3⟩)
theorem kx_putN (S : CallFix p m cd cc nL s args Ts own) (hK : va_K D vwCl (vT c) s) (hW : kw D A H0 ws H locs) {C host : String} {T : u_T} {N : Nat} (hin : ∀ w ∈ u_ws C T N, w ∈ Ts) {ty0 : Nat → FieldType} (hty : ∀ k, k < N → parseFieldDescriptor (T k).2.2.1 = some (ty0 k)) (hnm : ∀ a, a < N → ∀ b, b < N → a ≠ b → (T a).2.1 ≠ (T b).2.1) (q0 ci : Nat) {fs : List Value} (he : ws[q0]? = some (b, .inr (ci, fs))) (hc : vwCl[ci]? = some (C, T, N)) (k : Nat) (hk : k < N) {index : Nat} (hlink : va_Nw (Cond.fieldLinkNest own index (T k).1 (T k).2.1 (T k).2.2.1 host) s) (hfin : (T k).2.2.2 = false) {v : Value} (hn : narrow (ty0 k) v = v) (hfit : fits (ty0 k) v = true) (hl : k < fs.length) (hdg : decode cc pc = .ok (.putfield index, 3)) (kk : ∀ (H1 : Heap) (locs1 : List Loc), kw D A H0 (ws.set q0 (b, .inr (ci, fs.set k v))) H1 locs1 → W p l e R s m args below meth cd H1 locs1 cells slots Q (F0 m (pc + 3) ls rest)) : W p l e R s m args below meth cd H locs cells slots Q (F0 m pc ls (v :: .ref b :: rest)) := va_putN S.1 S.2.1 S.2.2.2.2 hin ty0 hty hnm S.2.2.2.1 hK hW.1 hW.2.1 hW.2.2 q0 he hc k hk (hlink.use rfl) (fun _ h => h) hfin (hty k hk) hn hfit hl hdg (fun H1 locs1 h1 h2 h3 => kk H1 locs1 ⟨h1, h2, h3⟩)
theorem kn_max (S : CallFix p m cd cc nL s args Ts own) {x y index : Nat} (hl : ls.size = nL) (h1 : Cond.methodLink own index Lib.Math.max.name ∈ Ts) (h2 : Cond.static Lib.Math.max.name ∈ Ts) (h3 : Cond.initialized "java/lang/Math" ∈ Ts) (h4 : Cond.code Lib.Math.max.name Lib.Math.max.code 2 (some .int) ∈ Ts) (hR : 1 ≤ R.frames ∧ (rest.map fun v => v.category).sum + 13 ≤ R.locals) (hcs : cells ≤ R.cells ∧ slots ≤ R.slots) (hx : x < 2 ^ 31) (hy : y < 2 ^ 31) (hdg : decode cc pc = .ok (.invokestatic index, 3)) (k : W p l e R s m args below meth cd H locs cells slots Q (F0 m (pc + 3) ls (.int (nI (max x y)) :: rest))) : W p l e R s m args below meth cd H locs cells slots Q (F0 m pc ls (.int (nI y) :: .int (nI x) :: rest)) := va_mmax S.1 S.2.1 (S.2.2.1.trans hl.symm) S.2.2.2.1 (S.2.2.2.2 _ h1) (S.2.2.2.2 _ h2) (S.2.2.2.2 _ h3) (S.2.2.2.2 _ h4) hR.1 hR.2 hcs.1 hcs.2 hdg (k_top (by
  by_cases h : x < y
  · rw [if_pos (nI_lt h hy), Nat.max_eq_right (Nat.le_of_lt h)]
  · rw [if_neg (nI_nlt (Nat.le_of_not_lt h) hx), Nat.max_eq_left (Nat.le_of_not_lt h)]) k)
theorem kn_min (S : CallFix p m cd cc nL s args Ts own) {x y index : Nat} (hl : ls.size = nL) (h1 : Cond.methodLink own index Lib.Math.min.name ∈ Ts) (h2 : Cond.static Lib.Math.min.name ∈ Ts) (h3 : Cond.initialized "java/lang/Math" ∈ Ts) (h4 : Cond.code Lib.Math.min.name Lib.Math.min.code 2 (some .int) ∈ Ts) (hR : 1 ≤ R.frames ∧ (rest.map fun v => v.category).sum + 13 ≤ R.locals) (hcs : cells ≤ R.cells ∧ slots ≤ R.slots) (hx : x < 2 ^ 31) (hy : y < 2 ^ 31) (hdg : decode cc pc = .ok (.invokestatic index, 3)) (k : W p l e R s m args below meth cd H locs cells slots Q (F0 m (pc + 3) ls (.int (nI (min x y)) :: rest))) : W p l e R s m args below meth cd H locs cells slots Q (F0 m pc ls (.int (nI y) :: .int (nI x) :: rest)) := va_mmin S.1 S.2.1 (S.2.2.1.trans hl.symm) S.2.2.2.1 (S.2.2.2.2 _ h1) (S.2.2.2.2 _ h2) (S.2.2.2.2 _ h3) (S.2.2.2.2 _ h4) hR.1 hR.2 hcs.1 hcs.2 hdg (k_top (by
  by_cases h : y < x
  · rw [if_pos (nI_lt h hx), Nat.min_eq_right (Nat.le_of_lt h)]
  · rw [if_neg (nI_nlt (Nat.le_of_not_lt h) hy), Nat.min_eq_left (Nat.le_of_not_lt h)]) k)
end KA
end
section
/-! ===== a row's cell speaks of its places alone ===== -/
theorem arrV_congr {cA : ClassId} {n : Nat} {f g : Nat → Value} (h : ∀ j, j < n → f j = g j) : arrV cA n f = arrV cA n g := by
  have e : (fun (j : Fin n) => f j.val) = (fun (j : Fin n) => g j.val) := funext fun j => h j.val j.isLt
  unfold arrV
  rw [e]
theorem kw_arr {D : va_G} {A : Nat → Prop} {H0 : Heap} {ws : va_W} {H : Heap} {locs : List Loc} (hW : kw D A H0 ws H locs) (q0 : Nat) {b : Nat} {cA : ClassId} {n : Nat} {f : Nat → Nat} (ha : ws[q0]? = some (b, .inl (cA, n, .inl (fun k => nI (f k))))) (g : Nat → Nat) (hfg : ∀ k, k < n → f k = g k) : kw D A H0 (ws.set q0 (b, .inl (cA, n, .inl (fun k => nI (g k))))) H locs := by
  obtain ⟨hP, hD, hS⟩ := hW
  have hlt : q0 < ws.length := (List.getElem?_eq_some_iff.mp ha).1
  have key : ∀ (k : Nat) (q : Nat × va_E), (ws.set q0 (b, .inl (cA, n, .inl (fun k => nI (g k)))))[k]? = some q → (k = q0 ∧ q = (b, .inl (cA, n, .inl (fun k => nI (g k))))) ∨ (k ≠ q0 ∧ ws[k]? = some q) := by
    intro k q h
    by_cases e : q0 = k
    · subst e
      rw [List.getElem?_set_self hlt] at h
      exact Or.inl ⟨rfl, (Option.some.inj h).symm⟩
    · rw [List.getElem?_set_ne e] at h
      exact Or.inr ⟨fun z => e z.symm, h⟩
  refine ⟨fun k q hq => ?_, ⟨fun i j x y hi hj hxy => ?_, fun k q hq => ?_⟩, hS⟩
  · rcases key k q hq with ⟨-, rfl⟩ | ⟨-, h⟩
    · have h1 := hP q0 _ ha
      show H[b]? = some (vp_cell cA (n, .inl (fun k => nI (g k))))
      have h2 : H[b]? = some (vp_cell cA (n, .inl (fun k => nI (f k)))) := h1
      rw [h2]
      show some (arrV cA n (fun j => .int (nI (f j)))) = some (arrV cA n (fun j => .int (nI (g j))))
      exact congrArg some (arrV_congr fun j hj => by
        show Value.int (nI (f j)) = Value.int (nI (g j))
        rw [hfg j hj])
    · exact hP k q h
  · rcases key i x hi with ⟨e1, e2⟩ | ⟨e1, h1⟩ <;> rcases key j y hj with ⟨e3, e4⟩ | ⟨e3, h3⟩
    · rw [e1, e3]
    · subst e2
      exact absurd (hD.1 _ _ _ _ ha h3 hxy).symm e3
    · subst e4
      exact absurd (hD.1 _ _ _ _ h1 ha hxy) e1
    · exact hD.1 _ _ _ _ h1 h3 hxy
  · rcases key k q hq with ⟨-, rfl⟩ | ⟨-, h⟩
    · exact hD.2 q0 (b, .inl (cA, n, .inl (fun k => nI (f k)))) ha
    · exact hD.2 k q h
end
section
/-! ===== the worlds ===== -/
/-- the reference at a 0, its rows s, aside, saved, snapshot, text at a 1 .. a 5; φ 0 .. φ 4 what they hold; φ 5 0 ..: thrown, savedMany, isKept, length, spot, isWrong, wereSet; δ: digested -/
def wM (c : Nat → ClassId) (a : Nat → Nat) (φ : Nat → Nat → Nat) (δ : Int64) : va_W :=
  [(a 0, .inr (3, [.int (nI (φ 5 0)), .ref (a 1), .ref (a 2), .ref (a 3), .int (nI (φ 6 0)), .ref (a 4), .int (nI (φ 7 0)), .ref (a 5), .int (nI (φ 8 0)), .int (nI (φ 9 0)), .int (nI (φ 10 0)), .int (nI (φ 11 0)), .long δ])),
   (a 1, .inl (c 0, 147, .inl (fun k => nI (φ 0 k)))), (a 2, .inl (c 0, 147, .inl (fun k => nI (φ 1 k)))), (a 3, .inl (c 0, 882, .inl (fun k => nI (φ 2 k)))), (a 4, .inl (c 0, 147, .inl (fun k => nI (φ 3 k)))), (a 5, .inl (c 0, 60, .inl (fun k => nI (φ 4 k))))]
/-- a State at a 0, its rows chords, restsAt, wear, notesOf, keptTeeth, keptTimes, settings at a 1 .. a 7; τ 0 .. τ 6 what they hold; τ 7 0 ..: broken, place, played, wind, vanes, time, stepsDone, notes, squeaks, windNeeded -/
def wS (c : Nat → ClassId) (a : Nat → Nat) (τ : Nat → Nat → Nat) : va_W :=
  [(a 0, .inr (1, [.ref (a 1), .ref (a 2), .ref (a 3), .ref (a 4), .ref (a 5), .ref (a 6), .ref (a 7), .int (nI (τ 7 0)), .int (nI (τ 8 0)), .int (nI (τ 9 0)), .int (nI (τ 10 0)), .int (nI (τ 11 0)), .int (nI (τ 12 0)), .int (nI (τ 13 0)), .int (nI (τ 14 0)), .int (nI (τ 15 0)), .int (nI (τ 16 0))])),
   (a 1, .inl (c 0, 96, .inl (fun k => nI (τ 0 k)))), (a 2, .inl (c 0, 12, .inl (fun k => nI (τ 1 k)))), (a 3, .inl (c 0, 12, .inl (fun k => nI (τ 2 k)))), (a 4, .inl (c 0, 12, .inl (fun k => nI (τ 3 k)))), (a 5, .inl (c 0, 24, .inl (fun k => nI (τ 4 k)))), (a 6, .inl (c 0, 24, .inl (fun k => nI (τ 5 k)))), (a 7, .inl (c 0, 5, .inl (fun k => nI (τ 6 k))))]
/-- the reader: phase, tune, tooth, from, number -/
def wR (a : Nat → Nat) (ρ : Nat → Nat → Nat) : va_W := [(a 0, .inr (0, [.int (nI (ρ 0 0)), .int (nI (ρ 1 0)), .int (nI (ρ 2 0)), .int (nI (ρ 3 0)), .int (nI (ρ 4 0))]))]
/-- 'low <= v and v <= high' as it is compared -/
def inb (v lo hi : Int32) : Bool := !(decide (v < lo)) && !(decide (hi < v))
theorem inb_nI {v k : Nat} (hv : v < 2 ^ 31) (hk : k < 2 ^ 31) : inb (nI v) (nI 0) (nI k) = decide (v ≤ k) := by
  have h0 : ¬ nI v < nI 0 := by
    have := nI_pos hv
    first | exact this | simpa using this
  have h1 : (nI k < nI v) ↔ k < v := nI_ltI hk hv
  unfold inb
  by_cases h : v ≤ k
  · simp [h0, h1, h, Nat.not_lt.mpr h]
  · simp [h0, h1, h, Nat.lt_of_not_le h]
theorem inb_of {v : Int32} {k : Nat} (hk : k < 2 ^ 31) (h : inb v (nI 0) (nI k) = true) : ∃ n : Nat, n ≤ k ∧ v = nI n := by
  unfold inb at h
  simp only [Bool.and_eq_true, Bool.not_eq_true', decide_eq_false_iff_not] at h
  have h0 : ¬ v < 0 := by
    have := h.1
    first | exact this | simpa using this
  obtain ⟨j, hj, rfl⟩ := nI_of h0
  exact ⟨j, Nat.le_of_not_lt (fun q => h.2 (nI_lt q hj)), rfl⟩
end
section
/-! ===== what the reference's looks say, over its row σ ===== -/
/-- is there a pin -/
def pb (σ : Nat → Nat) (t j p : Nat) : Bool := (σ (12 * t + j)).testBit p
/-- a mask of the first n places where f holds -/
def mk (f : Nat → Bool) : Nat → Nat
  | 0 => 0
  | n + 1 => mk f n ||| (if f n then 2 ^ n else 0)
/-- how many of the first n places -/
def ct (f : Nat → Bool) : Nat → Nat
  | 0 => 0
  | n + 1 => ct f n + (f n).toNat
def sm (f : Nat → Nat) : Nat → Nat
  | 0 => 0
  | n + 1 => sm f n + f n
theorem ct_le (f : Nat → Bool) : ∀ n, ct f n ≤ n
  | 0 => Nat.le_refl 0
  | n + 1 => by
    have h := ct_le f n
    have h2 : (f n).toNat ≤ 1 := by cases f n <;> decide
    show ct f n + (f n).toNat ≤ n + 1
    omega
theorem mk_lt (f : Nat → Bool) : ∀ n, mk f n < 2 ^ n
  | 0 => Nat.one_pos
  | n + 1 => by
    have h := mk_lt f n
    show mk f n ||| (if f n then 2 ^ n else 0) < 2 ^ (n + 1)
    refine Nat.or_lt_two_pow (Nat.lt_of_lt_of_le h (Nat.pow_le_pow_right (by decide) (Nat.le_succ n))) ?_
    split
    · exact Nat.pow_lt_pow_right (by decide) (Nat.lt_succ_self n)
    · exact Nat.two_pow_pos _
theorem mk_bit (f : Nat → Bool) (i : Nat) : ∀ n, (mk f n).testBit i = (decide (i < n) && f i)
  | 0 => by
    show (0 : Nat).testBit i = _
    rw [Nat.zero_testBit]
    simp
  | n + 1 => by
    show (mk f n ||| (if f n then 2 ^ n else 0)).testBit i = _
    rw [Nat.testBit_or, mk_bit f i n]
    by_cases h : f n = true
    · rw [if_pos h, Nat.testBit_two_pow]
      by_cases e : n = i
      · subst e; simp [h]
      · have e2 : (i < n + 1) ↔ (i < n) := by omega
        simp [e, e2]
    · rw [if_neg h, Nat.zero_testBit]
      by_cases e : n = i
      · subst e; simp [h]
      · have e2 : (i < n + 1) ↔ (i < n) := by omega
        simp [e2]
theorem mk_t {f : Nat → Bool} {n : Nat} (h : f n = true) : mk f n ||| 2 ^ n = mk f (n + 1) := by
  show _ = mk f n ||| (if f n then 2 ^ n else 0)
  rw [if_pos h]
theorem mk_f {f : Nat → Bool} {n : Nat} (h : f n = false) : mk f n ||| 0 = mk f (n + 1) := by
  show _ = mk f n ||| (if f n then 2 ^ n else 0)
  rw [h]; rfl
theorem ct_t {f : Nat → Bool} {n : Nat} (h : f n = true) : ct f n + 1 = ct f (n + 1) := by
  show _ = ct f n + (f n).toNat
  rw [h]; rfl
theorem ct_f {f : Nat → Bool} {n : Nat} (h : f n = false) : ct f n = ct f (n + 1) := by
  show _ = ct f n + (f n).toNat
  rw [h]; rfl
def ones (x : Nat) : Nat := ct (fun i => x.testBit i) 32
theorem ones_le (x : Nat) : ones x ≤ 32 := ct_le _ 32
def pins (σ : Nat → Nat) (t : Nat) : Nat := sm (fun j => ones (σ (12 * t + j))) 12
theorem sm_le {f : Nat → Nat} {b : Nat} (h : ∀ k, f k ≤ b) : ∀ n, sm f n ≤ n * b
  | 0 => by show 0 ≤ _; omega
  | n + 1 => by
    have h1 := sm_le h n
    have h2 := h n
    show sm f n + f n ≤ (n + 1) * b
    rw [Nat.succ_mul]
    omega
theorem pins_le (σ : Nat → Nat) (t : Nat) : pins σ t ≤ 384 := sm_le (fun _ => ones_le _) 12
def allp (σ : Nat → Nat) : Nat := pins σ 0 + pins σ 1 + pins σ 2
/-- one of the n - 1 steps next to a step has a pin, as the reference looks -/
def near (σ : Nat → Nat) (t j p : Nat) : Nat → Bool
  | 0 => false
  | n + 1 => near σ t j p n || pb σ t j ((p + (1 + n)) % 32) || pb σ t j ((p + 32 - (1 + n)) % 32)
def hind (σ : Nat → Nat) (t j p : Nat) : Nat := if pb σ t j p then 1 else if near σ t j p (σ 145 - 1) then 2 else if σ 146 ≤ ones (mk (fun j => pb σ t j p) 12) then 3 else 0
/-- what the reference's row keeps to -/
def bnd (i : Nat) : Nat := if i < 36 then 4294967295 else if i < 84 then (if (i - 36) % 4 = 0 then 90 else if (i - 36) % 4 = 1 then 9 else if (i - 36) % 4 = 2 then 1 else 0) else if i = 132 then 24 else if i = 133 then 31 else if i = 134 then 2 else if i = 135 then 400 else if i = 136 then 9 else if i = 142 then 90 else if i = 143 then 20 else if i = 144 then 1 else if i = 145 then 8 else if i = 146 then 12 else 0
def bnds (i : Nat) : Prop := (i < 36) ∨ (36 ≤ i ∧ i < 84 ∧ (i - 36) % 4 ≠ 3) ∨ (132 ≤ i ∧ i ≤ 136) ∨ (142 ≤ i ∧ i ≤ 146)
def okM (σ : Nat → Nat) : Prop := ∀ i, bnds i → σ i ≤ bnd i
theorem okM.put {σ : Nat → Nat} (h : okM σ) {i v : Nat} (hv : bnds i → v ≤ bnd i) : okM (fu σ i v) := by
  intro k hk
  unfold fu
  split
  · rename_i e; rw [e] at hk ⊢; exact hv hk
  · exact h k hk
theorem okM.at {σ : Nat → Nat} (h : okM σ) (i b : Nat) (hi : bnds i) (hb : bnd i = b) : σ i ≤ b := hb ▸ h i hi
theorem bnd_rw {j w : Nat} (hj : j < 12) (hw : w < 3) : bnds (36 + 4 * j + w) ∧ bnd (36 + 4 * j + w) = if w = 0 then 90 else if w = 1 then 9 else 1 := by
  have e : (36 + 4 * j + w - 36) % 4 = w := by omega
  refine ⟨Or.inr (Or.inl ⟨by omega, by omega, by omega⟩), ?_⟩
  unfold bnd
  rw [if_neg (by omega), if_pos (by omega), e]
  rcases (show w = 0 ∨ w = 1 ∨ w = 2 by omega) with rfl | rfl | rfl <;> rfl
theorem okM.rings {σ : Nat → Nat} (h : okM σ) {j : Nat} (hj : j < 12) : σ (36 + 4 * j + 0) ≤ 90 := h.at _ _ (bnd_rw hj (by decide)).1 (bnd_rw (w := 0) hj (by decide)).2
theorem okM.wear {σ : Nat → Nat} (h : okM σ) {j : Nat} (hj : j < 12) : σ (36 + 4 * j + 1) ≤ 9 := h.at _ _ (bnd_rw hj (by decide)).1 (bnd_rw (w := 1) hj (by decide)).2
theorem okM.broken {σ : Nat → Nat} (h : okM σ) {j : Nat} (hj : j < 12) : σ (36 + 4 * j + 2) ≤ 1 := h.at _ _ (bnd_rw hj (by decide)).1 (bnd_rw (w := 2) hj (by decide)).2
theorem okM.pin {σ : Nat → Nat} (h : okM σ) {i : Nat} (hi : i < 36) : σ i < 4294967296 := by
  have h1 := h i (Or.inl hi)
  unfold bnd at h1
  rw [if_pos hi] at h1
  omega
theorem okM.k132 {σ : Nat → Nat} (h : okM σ) : σ 132 ≤ 24 := h.at 132 24 (Or.inr (Or.inr (Or.inl (by omega)))) rfl
theorem okM.k133 {σ : Nat → Nat} (h : okM σ) : σ 133 ≤ 31 := h.at 133 31 (Or.inr (Or.inr (Or.inl (by omega)))) rfl
theorem okM.k134 {σ : Nat → Nat} (h : okM σ) : σ 134 ≤ 2 := h.at 134 2 (Or.inr (Or.inr (Or.inl (by omega)))) rfl
theorem okM.k135 {σ : Nat → Nat} (h : okM σ) : σ 135 ≤ 400 := h.at 135 400 (Or.inr (Or.inr (Or.inl (by omega)))) rfl
theorem okM.k136 {σ : Nat → Nat} (h : okM σ) : σ 136 ≤ 9 := h.at 136 9 (Or.inr (Or.inr (Or.inl (by omega)))) rfl
theorem okM.k142 {σ : Nat → Nat} (h : okM σ) : σ 142 ≤ 90 := h.at 142 90 (Or.inr (Or.inr (Or.inr (by omega)))) rfl
theorem okM.k143 {σ : Nat → Nat} (h : okM σ) : σ 143 ≤ 20 := h.at 143 20 (Or.inr (Or.inr (Or.inr (by omega)))) rfl
theorem okM.k144 {σ : Nat → Nat} (h : okM σ) : σ 144 ≤ 1 := h.at 144 1 (Or.inr (Or.inr (Or.inr (by omega)))) rfl
theorem okM.k145 {σ : Nat → Nat} (h : okM σ) : σ 145 ≤ 8 := h.at 145 8 (Or.inr (Or.inr (Or.inr (by omega)))) rfl
theorem okM.k146 {σ : Nat → Nat} (h : okM σ) : σ 146 ≤ 12 := h.at 146 12 (Or.inr (Or.inr (Or.inr (by omega)))) rfl
/-- the tune of the coming step -/
def ntu (σ : Nat → Nat) : Nat := if (σ 133 + 1) % 32 = 0 ∧ ¬ σ 144 = 0 then (σ 134 + 1) % 3 else σ 134
theorem ntu_lt {σ : Nat → Nat} (ok : okM σ) : ntu σ < 3 := by
  have h := ok.k134
  unfold ntu
  split <;> omega
/-- the tooth has a pin in the coming step, and is not broken -/
def strk (σ : Nat → Nat) (j : Nat) : Bool := pb σ (ntu σ) j ((σ 133 + 1) % 32) && decide (σ (36 + 4 * j + 2) = 0)
def need (σ : Nat → Nat) : Nat := 1 + ct (strk σ) 12
end
section
/-! ===== the reference's steps as functions of its row ===== -/
theorem fu_at (f : Nat → Nat) (i v : Nat) : fu f i v i = v := if_pos rfl
theorem fu_ne {f : Nat → Nat} {i v k : Nat} (h : k ≠ i) : fu f i v k = f k := if_neg h
/-- k places of f laid into g from o on, one by one -/
def cpo (f g : Nat → Nat) (o : Nat) : Nat → Nat → Nat
  | 0 => g
  | k + 1 => fu (cpo f g o k) (o + k) (f k)
theorem cpo_eq (f g : Nat → Nat) (o i : Nat) : ∀ k, cpo f g o k i = if o ≤ i ∧ i < o + k then f (i - o) else g i
  | 0 => by rw [if_neg (by omega)]; rfl
  | k + 1 => by
    show fu (cpo f g o k) (o + k) (f k) i = _
    by_cases e : i = o + k
    · rw [e, fu_at, if_pos ⟨by omega, by omega⟩, Nat.add_sub_cancel_left]
    · rw [fu_ne e, cpo_eq f g o i k]
      by_cases h : o ≤ i ∧ i < o + k
      · rw [if_pos h, if_pos ⟨h.1, by omega⟩]
      · rw [if_neg h, if_neg (by omega)]
/-- one by one, each from 147 places behind -/
def shl (v : Nat → Nat) : Nat → Nat → Nat
  | 0 => v
  | k + 1 => fu (shl v k) k (shl v k (k + 147))
theorem shl_eq (v : Nat → Nat) (i : Nat) : ∀ k, shl v k i = if i < k then v (i + 147) else v i
  | 0 => by rw [if_neg (by omega)]; rfl
  | k + 1 => by
    show fu (shl v k) k (shl v k (k + 147)) i = _
    by_cases e : i = k
    · rw [e, fu_at, shl_eq v (k + 147) k, if_neg (by omega), if_pos (by omega)]
    · rw [fu_ne e, shl_eq v i k]
      by_cases h : i < k
      · rw [if_pos h, if_pos (by omega)]
      · rw [if_neg h, if_neg (by omega)]
/-- the rows that are known, and how many, behind a save -/
def svn (n : Nat) : Nat := if n = 6 then 6 else n + 1
def svf (v σ : Nat → Nat) (n : Nat) : Nat → Nat := fun i => if n = 6 then (if i < 735 then v (i + 147) else if i < 882 then σ (i - 735) else v i) else if 147 * n ≤ i ∧ i < 147 * n + 147 then σ (i - 147 * n) else v i
theorem sv_full {v σ : Nat → Nat} {n : Nat} (hn : n = 6) (i : Nat) : cpo σ (shl v 735) (147 * (n - 1)) 147 i = svf v σ n i := by
  subst hn
  rw [cpo_eq]
  unfold svf
  rw [if_pos rfl]
  by_cases h : 147 * (6 - 1) ≤ i ∧ i < 147 * (6 - 1) + 147
  · rw [if_pos h, if_neg (by omega), if_pos (by omega)]
  · rw [if_neg h, shl_eq]
    by_cases h2 : i < 735
    · rw [if_pos h2, if_pos h2]
    · rw [if_neg h2, if_neg h2, if_neg (by omega)]
theorem sv_more {v σ : Nat → Nat} {n : Nat} (hn : ¬ n = 6) (i : Nat) : cpo σ v (147 * n) 147 i = svf v σ n i := by
  rw [cpo_eq]
  unfold svf
  rw [if_neg hn]
def sdA (σ : Nat → Nat) (j : Nat) : Nat → Nat := fu σ (36 + 4 * j + 0) (max 4 (σ 142 - 2 * j))
def sdB (σ : Nat → Nat) (j : Nat) : Nat → Nat := fu (sdA σ j) (36 + 4 * j + 3) (sdA σ j (36 + 4 * j + 3) + 1)
def sdC (σ : Nat → Nat) (j : Nat) : Nat → Nat := fu (sdB σ j) 139 (sdB σ j 139 + 1)
def shr (g : Nat → Nat) : Nat → Nat → Nat
  | 0 => g
  | n + 1 => fu (shr g n) (84 + (47 - n)) (shr g n (84 + (47 - n) - 2))
def sdE (σ : Nat → Nat) (j : Nat) : Nat → Nat := fu (shr (sdC σ j) 46) 84 j
def sdF (σ : Nat → Nat) (j : Nat) : Nat → Nat := fu (sdE σ j) 85 (sdE σ j 137)
/-- a tooth sounds -/
def sounds (σ : Nat → Nat) (j : Nat) : Nat → Nat := fu (sdF σ j) 132 (sdF σ j 132 + (if sdF σ j 132 < 24 then 1 else 0))
theorem shr_eq (g : Nat → Nat) (i : Nat) : ∀ n, n ≤ 46 → shr g n i = if 131 - n < i ∧ i < 132 then g (i - 2) else g i
  | 0, _ => by rw [if_neg (by omega)]; rfl
  | n + 1, hn => by
    show fu (shr g n) (84 + (47 - n)) (shr g n (84 + (47 - n) - 2)) i = _
    by_cases e : i = 84 + (47 - n)
    · rw [e, fu_at, shr_eq g _ n (by omega), if_neg (by omega), if_pos (by omega)]
    · rw [fu_ne e, shr_eq g i n (by omega)]
      by_cases h : 131 - n < i ∧ i < 132
      · rw [if_pos h, if_pos (by omega)]
      · rw [if_neg h, if_neg (by omega)]
theorem rg_int {x y : Nat} (hx : x ≤ 90) (hy : y ≤ 22) : (nI x - nI y).toInt = (x : Int) - y := pk_sub_toInt (by omega) (by omega)
theorem rg_lo {x y : Nat} (hx : x ≤ 90) (hy : y ≤ 22) (h : ¬ nI 4 ≤ nI x - nI y) : nI 4 = nI (max 4 (x - y)) := by
  rw [Int32.le_iff_toInt_le, rg_int hx hy, nI_toInt (by decide)] at h
  refine congrArg nI ?_
  omega
theorem rg_hi {x y : Nat} (hx : x ≤ 90) (hy : y ≤ 22) (h : nI 4 ≤ nI x - nI y) : nI x - nI y = nI (max 4 (x - y)) := by
  rw [Int32.le_iff_toInt_le, rg_int hx hy, nI_toInt (by decide)] at h
  rw [pk_sub (by omega)]
  refine congrArg nI ?_
  omega
/-- what sounds leaves -/
theorem sounds_out {σ : Nat → Nat} {j i : Nat} (hj : j < 12) (h1 : i < 84 ∨ 132 < i) (h2 : i ≠ 36 + 4 * j + 0) (h3 : i ≠ 36 + 4 * j + 3) (h4 : i ≠ 139) : sounds σ j i = σ i := by
  unfold sounds sdF sdE
  rw [fu_ne (by omega), fu_ne (by omega), fu_ne (by omega), shr_eq _ _ 46 (Nat.le_refl _), if_neg (by omega)]
  unfold sdC sdB sdA
  rw [fu_ne h4, fu_ne h3, fu_ne h2]
theorem sdF_132 {σ : Nat → Nat} {j : Nat} (hj : j < 12) : sdF σ j 132 = σ 132 := by
  unfold sdF sdE
  rw [fu_ne (by omega), fu_ne (by omega), shr_eq _ _ 46 (Nat.le_refl _), if_neg (by omega)]
  unfold sdC sdB sdA
  rw [fu_ne (by omega), fu_ne (by omega), fu_ne (by omega)]
theorem sounds_132 {σ : Nat → Nat} {j : Nat} (hj : j < 12) : sounds σ j 132 = σ 132 + (if σ 132 < 24 then 1 else 0) := by
  unfold sounds
  rw [fu_at, sdF_132 hj]
theorem sounds_ring {σ : Nat → Nat} {j : Nat} (hj : j < 12) : sounds σ j (36 + 4 * j + 0) = max 4 (σ 142 - 2 * j) := by
  unfold sounds sdF sdE
  rw [fu_ne (by omega), fu_ne (by omega), fu_ne (by omega), shr_eq _ _ 46 (Nat.le_refl _), if_neg (by omega)]
  unfold sdC sdB sdA
  rw [fu_ne (by omega), fu_ne (by omega), fu_at]
theorem okM.sounds {σ : Nat → Nat} (ok : okM σ) {j : Nat} (hj : j < 12) : okM (sounds σ j) := by
  intro i hi
  by_cases e1 : i = 36 + 4 * j + 0
  · subst e1
    rw [sounds_ring hj, (bnd_rw hj (by decide)).2, if_pos rfl]
    have := ok.k142
    omega
  by_cases e2 : i = 132
  · subst e2
    rw [sounds_132 hj]
    have := ok.k132
    show _ ≤ 24
    split <;> omega
  have h0 := ok i hi
  rw [sounds_out hj (by unfold bnds at hi; omega) e1 (by unfold bnds at hi; omega) (by unfold bnds at hi; omega)]
  exact h0
/-- a squeak: that breaks the tooth, or wears its damper -/
def pkX (σ : Nat → Nat) (j : Nat) : Nat → Nat := fu (fu (fu (fu σ 140 (σ 140 + 1)) (36 + 4 * j + 1) (fu σ 140 (σ 140 + 1) (36 + 4 * j + 1) + 0)) (36 + 4 * j + 2) 1) (36 + 4 * j + 0) 0
def pkZ (σ : Nat → Nat) (j : Nat) : Nat → Nat := fu (fu (fu σ 140 (σ 140 + 1)) (36 + 4 * j + 1) (fu σ 140 (σ 140 + 1) (36 + 4 * j + 1) + 1)) (36 + 4 * j + 2) 0
def pkY (σ : Nat → Nat) (j : Nat) : Nat → Nat := fu (pkZ σ j) (36 + 4 * j + 0) (pkZ σ j (36 + 4 * j + 0))
def plk (σ : Nat → Nat) (j T : Nat) : Nat → Nat := if 0 < σ (36 + 4 * j + 0) ∧ T ≤ σ 143 + σ (36 + 4 * j + 1) then (if σ (36 + 4 * j + 1) = 9 then pkX σ j else sounds (pkY σ j) j) else sounds σ j
theorem pkA_w {σ : Nat → Nat} {j : Nat} (hj : j < 12) : fu σ 140 (σ 140 + 1) (36 + 4 * j + 1) = σ (36 + 4 * j + 1) := fu_ne (by omega)
theorem pkX_b {σ : Nat → Nat} {j : Nat} : pkX σ j (36 + 4 * j + 2) = 1 := by
  unfold pkX
  rw [fu_ne (by omega), fu_at]
theorem pkY_b {σ : Nat → Nat} {j : Nat} : pkY σ j (36 + 4 * j + 2) = 0 := by
  unfold pkY pkZ
  rw [fu_ne (by omega), fu_at]
theorem okM.pkX {σ : Nat → Nat} (ok : okM σ) {j : Nat} (hj : j < 12) : okM (pkX σ j) := by
  refine (((ok.put ?_).put ?_).put ?_).put ?_
  · intro h; unfold bnds at h; omega
  · intro _; rw [pkA_w hj, (bnd_rw hj (by decide)).2]; exact ok.wear hj
  · intro _; rw [(bnd_rw hj (by decide)).2]; decide
  · intro _; exact Nat.zero_le _
theorem okM.pkY {σ : Nat → Nat} (ok : okM σ) {j : Nat} (hj : j < 12) (h9 : ¬ σ (36 + 4 * j + 1) = 9) : okM (pkY σ j) := by
  have hz : okM (pkZ σ j) := by
    refine ((ok.put ?_).put ?_).put ?_
    · intro h; unfold bnds at h; omega
    · intro _; rw [pkA_w hj, (bnd_rw hj (by decide)).2]
      have := ok.wear hj
      show _ ≤ 9
      omega
    · intro _; exact Nat.zero_le _
  refine hz.put ?_
  intro _
  rw [(bnd_rw hj (by decide)).2]
  exact hz.rings hj
theorem okM.plk {σ : Nat → Nat} (ok : okM σ) {j T : Nat} (hj : j < 12) : okM (plk σ j T) := by
  show okM (if _ then _ else _)
  split
  · split
    · exact ok.pkX hj
    · rename_i h9
      exact (ok.pkY hj h9).sounds hj
  · exact ok.sounds hj
end
section
abbrev rmX3_in : Room := { frames := 0, cells := 0, slots := 0, locals := 0 }
theorem pdX3_in : kPd yX3_in 3 := by decide +kernel
set_option maxHeartbeats 4000000 in
set_option maxRecDepth 100000 in
theorem mX3_in (l : Launch) (D : va_G) (c : Nat → ClassId) (sz : Nat) (v : Int32) (lo : Int32) (hi : Int32) : MI l yX3_in wsX3_in rmX3_in D c sz [] [.int (v), .int (lo), .int (hi)] (nI (inb v lo hi).toNat) [] := by
  refine MI.of (cc := cX3_in) (maxL := 3) (ty := .boolean) (by decide) rfl (Nat.le_of_ble_eq_true rfl) (k_narB _) ?_
  intro P e s m below meth cd A Q ls hsz S hK hW hA hl hret
  have hl : lv_has ls 3 [(0, .int (v)), (1, .int (lo)), (2, .int (hi))] := hl
  refine lv_iload_n S.1 S.2.1 dX3_in_0 rfl (lv_at hl 0 rfl) ?_
  refine lv_iload_n S.1 S.2.1 dX3_in_1 rfl (lv_at hl 1 rfl) ?_
  refine lv_icmp_lt (tgt := 14) S.1 S.2.1 dX3_in_2 (by decide) (fun c_2 => ?_) (fun c_2 => ?_)
  · refine lv_iconst (v := nI (0)) S.1 S.2.1 dX3_in_14 rfl ?_
    exact hret 15 _ _ _ _ _ dX3_in_15 hW (by simp [inb, *]) (rfl)
  · refine lv_iload_n S.1 S.2.1 dX3_in_5 rfl (lv_at hl 0 rfl) ?_
    refine lv_iload_n S.1 S.2.1 dX3_in_6 rfl (lv_at hl 2 rfl) ?_
    refine lv_icmp_gt (tgt := 14) S.1 S.2.1 dX3_in_7 (by decide) (fun c_7 => ?_) (fun c_7 => ?_)
    · refine lv_iconst (v := nI (0)) S.1 S.2.1 dX3_in_14 rfl ?_
      exact hret 15 _ _ _ _ _ dX3_in_15 hW (by simp [inb, *]) (rfl)
    · refine lv_iconst (v := nI (1)) S.1 S.2.1 dX3_in_10 rfl ?_
      refine lv_goto (tgt := 15) S.1 S.2.1 dX3_in_11 (by decide) ?_
      exact hret 15 _ _ _ _ _ dX3_in_15 hW (by simp [inb, *]) (rfl)
abbrev rmX3_isTune : Room := { frames := 1, cells := 0, slots := 0, locals := 22 }
theorem pdX3_isTune : kPd yX3_isTune 1 := by decide +kernel
set_option maxHeartbeats 4000000 in
set_option maxRecDepth 100000 in
theorem mX3_isTune (l : Launch) (D : va_G) (c : Nat → ClassId) (sz : Nat) (v : Int32) : MI l yX3_isTune wsX3_isTune rmX3_isTune D c sz [] [.int (v)] (nI (inb v (nI 0) (nI 2)).toNat) [] := by
  refine MI.of (cc := cX3_isTune) (maxL := 1) (ty := .boolean) (by decide) rfl (Nat.le_of_ble_eq_true rfl) (k_narB _) ?_
  intro P e s m below meth cd A Q ls hsz S hK hW hA hl hret
  have hl : lv_has ls 1 [(0, .int (v))] := hl
  refine lv_iload_n S.1 S.2.1 dX3_isTune_0 rfl (lv_at hl 0 rfl) ?_
  refine lv_iconst (v := nI (0)) S.1 S.2.1 dX3_isTune_1 rfl ?_
  refine lv_iconst (v := nI (2)) S.1 S.2.1 dX3_isTune_2 rfl ?_
  refine k_SI (rest := []) S hK hl.1 hW (KFr.nil hW hA) (mX3_in l D c  _ v (nI (0)) (nI (2))) gX3_isTune_X3_in rfl pdX3_in ⟨⟨rfl, rfl⟩, Nat.le_of_ble_eq_true rfl, Nat.le_of_ble_eq_true rfl⟩ rfl (Nat.le_of_ble_eq_true rfl) dX3_isTune_3 ⟨Nat.le_of_ble_eq_true rfl, Nat.le_of_ble_eq_true rfl⟩ (fun H locs hW => ?_)
  have hW : kw D A s.heap [] H locs := hW
  exact hret 6 _ _ _ _ _ dX3_isTune_6 hW (rfl) (rfl)
abbrev rmX3_isTooth : Room := { frames := 1, cells := 0, slots := 0, locals := 22 }
theorem pdX3_isTooth : kPd yX3_isTooth 1 := by decide +kernel
set_option maxHeartbeats 4000000 in
set_option maxRecDepth 100000 in
theorem mX3_isTooth (l : Launch) (D : va_G) (c : Nat → ClassId) (sz : Nat) (v : Int32) : MI l yX3_isTooth wsX3_isTooth rmX3_isTooth D c sz [] [.int (v)] (nI (inb v (nI 0) (nI 11)).toNat) [] := by
  refine MI.of (cc := cX3_isTooth) (maxL := 1) (ty := .boolean) (by decide) rfl (Nat.le_of_ble_eq_true rfl) (k_narB _) ?_
  intro P e s m below meth cd A Q ls hsz S hK hW hA hl hret
  have hl : lv_has ls 1 [(0, .int (v))] := hl
  refine lv_iload_n S.1 S.2.1 dX3_isTooth_0 rfl (lv_at hl 0 rfl) ?_
  refine lv_iconst (v := nI (0)) S.1 S.2.1 dX3_isTooth_1 rfl ?_
  refine lv_bipush (v := nI (11)) S.1 S.2.1 dX3_isTooth_2 rfl ?_
  refine k_SI (rest := []) S hK hl.1 hW (KFr.nil hW hA) (mX3_in l D c  _ v (nI (0)) (nI (11))) gX3_isTooth_X3_in rfl pdX3_in ⟨⟨rfl, rfl⟩, Nat.le_of_ble_eq_true rfl, Nat.le_of_ble_eq_true rfl⟩ rfl (Nat.le_of_ble_eq_true rfl) dX3_isTooth_4 ⟨Nat.le_of_ble_eq_true rfl, Nat.le_of_ble_eq_true rfl⟩ (fun H locs hW => ?_)
  have hW : kw D A s.heap [] H locs := hW
  exact hret 7 _ _ _ _ _ dX3_isTooth_7 hW (rfl) (rfl)
abbrev rmX3_isStep : Room := { frames := 1, cells := 0, slots := 0, locals := 22 }
theorem pdX3_isStep : kPd yX3_isStep 1 := by decide +kernel
set_option maxHeartbeats 4000000 in
set_option maxRecDepth 100000 in
theorem mX3_isStep (l : Launch) (D : va_G) (c : Nat → ClassId) (sz : Nat) (v : Int32) : MI l yX3_isStep wsX3_isStep rmX3_isStep D c sz [] [.int (v)] (nI (inb v (nI 0) (nI 31)).toNat) [] := by
  refine MI.of (cc := cX3_isStep) (maxL := 1) (ty := .boolean) (by decide) rfl (Nat.le_of_ble_eq_true rfl) (k_narB _) ?_
  intro P e s m below meth cd A Q ls hsz S hK hW hA hl hret
  have hl : lv_has ls 1 [(0, .int (v))] := hl
  refine lv_iload_n S.1 S.2.1 dX3_isStep_0 rfl (lv_at hl 0 rfl) ?_
  refine lv_iconst (v := nI (0)) S.1 S.2.1 dX3_isStep_1 rfl ?_
  refine lv_bipush (v := nI (31)) S.1 S.2.1 dX3_isStep_2 rfl ?_
  refine k_SI (rest := []) S hK hl.1 hW (KFr.nil hW hA) (mX3_in l D c  _ v (nI (0)) (nI (31))) gX3_isStep_X3_in rfl pdX3_in ⟨⟨rfl, rfl⟩, Nat.le_of_ble_eq_true rfl, Nat.le_of_ble_eq_true rfl⟩ rfl (Nat.le_of_ble_eq_true rfl) dX3_isStep_4 ⟨Nat.le_of_ble_eq_true rfl, Nat.le_of_ble_eq_true rfl⟩ (fun H locs hW => ?_)
  have hW : kw D A s.heap [] H locs := hW
  exact hret 7 _ _ _ _ _ dX3_isStep_7 hW (rfl) (rfl)
abbrev rmX3_areThere : Room := { frames := 2, cells := 0, slots := 0, locals := 42 }
theorem pdX3_areThere : kPd yX3_areThere 3 := by decide +kernel
set_option maxHeartbeats 4000000 in
set_option maxRecDepth 100000 in
theorem mX3_areThere (l : Launch) (D : va_G) (c : Nat → ClassId) (sz : Nat) (t : Int32) (j : Int32) (p : Int32) : MI l yX3_areThere wsX3_areThere rmX3_areThere D c sz [] [.int (t), .int (j), .int (p)] (nI (inb t (nI 0) (nI 2) && inb j (nI 0) (nI 11) && inb p (nI 0) (nI 31)).toNat) [] := by
  refine MI.of (cc := cX3_areThere) (maxL := 3) (ty := .boolean) (by decide) rfl (Nat.le_of_ble_eq_true rfl) (k_narB _) ?_
  intro P e s m below meth cd A Q ls hsz S hK hW hA hl hret
  have hl : lv_has ls 3 [(0, .int (t)), (1, .int (j)), (2, .int (p))] := hl
  refine lv_iload_n S.1 S.2.1 dX3_areThere_0 rfl (lv_at hl 0 rfl) ?_
  refine k_SI (rest := []) S hK hl.1 hW (KFr.nil hW hA) (mX3_isTune l D c  _ t) gX3_areThere_X3_isTune rfl pdX3_isTune ⟨⟨rfl, rfl⟩, Nat.le_of_ble_eq_true rfl, Nat.le_of_ble_eq_true rfl⟩ rfl (Nat.le_of_ble_eq_true rfl) dX3_areThere_1 ⟨Nat.le_of_ble_eq_true rfl, Nat.le_of_ble_eq_true rfl⟩ (fun H locs hW => ?_)
  have hW : kw D A s.heap [] H locs := hW
  refine kb_eq S (tgt := 25) dX3_areThere_4 (by decide) (fun c_4 => ?_) (fun c_4 => ?_)
  · refine lv_iconst (v := nI (0)) S.1 S.2.1 dX3_areThere_25 rfl ?_
    exact hret 26 _ _ _ _ _ dX3_areThere_26 hW (by simp [*]) (rfl)
  · refine lv_iload_n S.1 S.2.1 dX3_areThere_7 rfl (lv_at hl 1 rfl) ?_
    refine k_SI (rest := []) S hK hl.1 hW (KFr.nil hW hA) (mX3_isTooth l D c  _ j) gX3_areThere_X3_isTooth rfl pdX3_isTooth ⟨⟨rfl, rfl⟩, Nat.le_of_ble_eq_true rfl, Nat.le_of_ble_eq_true rfl⟩ rfl (Nat.le_of_ble_eq_true rfl) dX3_areThere_8 ⟨Nat.le_of_ble_eq_true rfl, Nat.le_of_ble_eq_true rfl⟩ (fun H locs hW => ?_)
    have hW : kw D A s.heap [] H locs := hW
    refine kb_eq S (tgt := 25) dX3_areThere_11 (by decide) (fun c_11 => ?_) (fun c_11 => ?_)
    · refine lv_iconst (v := nI (0)) S.1 S.2.1 dX3_areThere_25 rfl ?_
      exact hret 26 _ _ _ _ _ dX3_areThere_26 hW (by simp [*]) (rfl)
    · refine lv_iload_n S.1 S.2.1 dX3_areThere_14 rfl (lv_at hl 2 rfl) ?_
      refine k_SI (rest := []) S hK hl.1 hW (KFr.nil hW hA) (mX3_isStep l D c  _ p) gX3_areThere_X3_isStep rfl pdX3_isStep ⟨⟨rfl, rfl⟩, Nat.le_of_ble_eq_true rfl, Nat.le_of_ble_eq_true rfl⟩ rfl (Nat.le_of_ble_eq_true rfl) dX3_areThere_15 ⟨Nat.le_of_ble_eq_true rfl, Nat.le_of_ble_eq_true rfl⟩ (fun H locs hW => ?_)
      have hW : kw D A s.heap [] H locs := hW
      refine kb_eq S (tgt := 25) dX3_areThere_18 (by decide) (fun c_18 => ?_) (fun c_18 => ?_)
      · refine lv_iconst (v := nI (0)) S.1 S.2.1 dX3_areThere_25 rfl ?_
        exact hret 26 _ _ _ _ _ dX3_areThere_26 hW (by simp [*]) (rfl)
      · refine lv_iconst (v := nI (1)) S.1 S.2.1 dX3_areThere_21 rfl ?_
        refine lv_goto (tgt := 26) S.1 S.2.1 dX3_areThere_22 (by decide) ?_
        exact hret 26 _ _ _ _ _ dX3_areThere_26 hW (by simp [*]) (rfl)
abbrev rmX3_ofPins : Room := { frames := 0, cells := 0, slots := 0, locals := 0 }
theorem pdX3_ofPins : kPd yX3_ofPins 2 := by decide +kernel
set_option maxHeartbeats 4000000 in
set_option maxRecDepth 100000 in
theorem mX3_ofPins (l : Launch) (D : va_G) (c : Nat → ClassId) (sz : Nat) (t : Nat) (j : Nat) : MI l yX3_ofPins wsX3_ofPins rmX3_ofPins D c sz [] [.int (nI (t)), .int (nI (j))] (nI (12 * t + j)) [] := by
  refine MI.of (cc := cX3_ofPins) (maxL := 2) (ty := .int) (by decide) rfl (Nat.le_of_ble_eq_true rfl) rfl ?_
  intro P e s m below meth cd A Q ls hsz S hK hW hA hl hret
  have hl : lv_has ls 2 [(0, .int (nI (t))), (1, .int (nI (j)))] := hl
  refine lv_iconst (v := nI (0)) S.1 S.2.1 dX3_ofPins_0 rfl ?_
  refine lv_bipush (v := nI (12)) S.1 S.2.1 dX3_ofPins_1 rfl ?_
  refine lv_iload_n S.1 S.2.1 dX3_ofPins_3 rfl (lv_at hl 0 rfl) ?_
  refine kn_imul S dX3_ofPins_4 ?_
  refine kn_iadd S dX3_ofPins_5 ?_
  refine lv_iload_n S.1 S.2.1 dX3_ofPins_6 rfl (lv_at hl 1 rfl) ?_
  refine kn_iadd S dX3_ofPins_7 ?_
  exact hret 8 _ _ _ _ _ dX3_ofPins_8 hW (congrArg nI (by omega)) (rfl)
abbrev rmX3_of : Room := { frames := 0, cells := 0, slots := 0, locals := 0 }
theorem pdX3_of : kPd yX3_of 2 := by decide +kernel
set_option maxHeartbeats 4000000 in
set_option maxRecDepth 100000 in
theorem mX3_of (l : Launch) (D : va_G) (c : Nat → ClassId) (sz : Nat) (j : Nat) (w : Nat) : MI l yX3_of wsX3_of rmX3_of D c sz [] [.int (nI (j)), .int (nI (w))] (nI (36 + 4 * j + w)) [] := by
  refine MI.of (cc := cX3_of) (maxL := 2) (ty := .int) (by decide) rfl (Nat.le_of_ble_eq_true rfl) rfl ?_
  intro P e s m below meth cd A Q ls hsz S hK hW hA hl hret
  have hl : lv_has ls 2 [(0, .int (nI (j))), (1, .int (nI (w)))] := hl
  refine lv_bipush (v := nI (36)) S.1 S.2.1 dX3_of_0 rfl ?_
  refine lv_iconst (v := nI (4)) S.1 S.2.1 dX3_of_2 rfl ?_
  refine lv_iload_n S.1 S.2.1 dX3_of_3 rfl (lv_at hl 0 rfl) ?_
  refine kn_imul S dX3_of_4 ?_
  refine kn_iadd S dX3_of_5 ?_
  refine lv_iload_n S.1 S.2.1 dX3_of_6 rfl (lv_at hl 1 rfl) ?_
  refine kn_iadd S dX3_of_7 ?_
  exact hret 8 _ _ _ _ _ dX3_of_8 hW (congrArg nI (by omega)) (rfl)
abbrev rmX3_isPin : Room := { frames := 1, cells := 0, slots := 0, locals := 21 }
theorem pdX3_isPin : kPd yX3_isPin 3 := by decide +kernel
set_option maxHeartbeats 4000000 in
set_option maxRecDepth 100000 in
theorem mX3_isPin (l : Launch) (D : va_G) (c : Nat → ClassId) (a : Nat → Nat) (φ : Nat → Nat → Nat) (δ : Int64) (sz : Nat) (t : Nat) (j : Nat) (p : Nat) (ht : t < 3) (hj : j < 12) (hp : p < 32) : MI l yX3_isPin wsX3_isPin rmX3_isPin D c sz (wM c a φ δ) [.ref (a 0), .int (nI (t)), .int (nI (j)), .int (nI (p))] (nI (pb (φ 0) t j p).toNat) (wM c a φ δ) := by
  refine MI.of (cc := cX3_isPin) (maxL := 4) (ty := .boolean) (by decide) rfl (Nat.le_of_ble_eq_true rfl) (k_narB _) ?_
  intro P e s m below meth cd A Q ls hsz S hK hW hA hl hret
  have hl : lv_has ls 4 [(0, .ref (a 0)), (1, .int (nI (t))), (2, .int (nI (j))), (3, .int (nI (p)))] := hl
  have hinX3 : ∀ w ∈ u_ws RX3 TX3 13, w ∈ wsX3_isPin := by decide +kernel
  have hbt : ((φ 0 (12 * t + j)).testBit p).toNat ≤ 1 := by cases (φ 0 (12 * t + j)).testBit p <;> decide
  refine lv_aload_n S.1 S.2.1 dX3_isPin_0 rfl (lv_at hl 0 rfl) ?_
  refine kx_get S hK hW hinX3 0 3 rfl rfl 1 (by decide) (List.mem_of_getElem? (i := 1) rfl) (v := .ref (a 1)) rfl dX3_isPin_1 ?_
  refine lv_iload_n S.1 S.2.1 dX3_isPin_4 rfl (lv_at hl 1 rfl) ?_
  refine lv_iload_n S.1 S.2.1 dX3_isPin_5 rfl (lv_at hl 2 rfl) ?_
  refine k_SI (rest := [.ref (a 1)]) S hK hl.1 hW (KFr.nil hW hA) (mX3_ofPins l D c  _ t j) gX3_isPin_X3_ofPins rfl pdX3_ofPins ⟨⟨rfl, rfl⟩, Nat.le_of_ble_eq_true rfl, Nat.le_of_ble_eq_true rfl⟩ rfl (Nat.le_of_ble_eq_true rfl) dX3_isPin_6 ⟨Nat.le_of_ble_eq_true rfl, Nat.le_of_ble_eq_true rfl⟩ (fun H locs hW => ?_)
  have hW : kw D A s.heap (wM c a φ δ) H locs := hW
  refine kn_ald S hK hW 1 rfl (by omega) (by decide) dX3_isPin_9 ?_
  refine lv_iload_n S.1 S.2.1 dX3_isPin_10 rfl (lv_at hl 3 rfl) ?_
  refine lv_ishr S.1 S.2.1 dX3_isPin_11 ?_
  refine lv_iconst (v := nI (1)) S.1 S.2.1 dX3_isPin_12 rfl ?_
  refine kn_tbit S hp dX3_isPin_13 ?_
  refine lv_iconst (v := nI (1)) S.1 S.2.1 dX3_isPin_14 rfl ?_
  refine kn_ne S (tgt := 22) dX3_isPin_15 (by decide) (by omega) (by omega) (fun c_15 => ?_) (fun c_15 => ?_)
  · have c_15 : pb (φ 0) t j p = false := by unfold pb; cases h : (φ 0 (12 * t + j)).testBit p <;> simp_all
    refine lv_iconst (v := nI (0)) S.1 S.2.1 dX3_isPin_22 rfl ?_
    exact hret 23 _ _ _ _ _ dX3_isPin_23 hW (by rw [c_15]; rfl) (rfl)
  · have c_15 : pb (φ 0) t j p = true := by unfold pb; cases h : (φ 0 (12 * t + j)).testBit p <;> simp_all
    refine lv_iconst (v := nI (1)) S.1 S.2.1 dX3_isPin_18 rfl ?_
    refine lv_goto (tgt := 23) S.1 S.2.1 dX3_isPin_19 (by decide) ?_
    exact hret 23 _ _ _ _ _ dX3_isPin_23 hW (by rw [c_15]; rfl) (rfl)
abbrev rmX3_pinsAt : Room := { frames := 2, cells := 0, slots := 0, locals := 44 }
theorem pdX3_pinsAt : kPd yX3_pinsAt 2 := by decide +kernel
set_option maxHeartbeats 4000000 in
set_option maxRecDepth 100000 in
theorem mX3_pinsAt (l : Launch) (D : va_G) (c : Nat → ClassId) (a : Nat → Nat) (φ : Nat → Nat → Nat) (δ : Int64) (sz : Nat) (t : Nat) (p : Nat) (ht : t < 3) (hp : p < 32) : MI l yX3_pinsAt wsX3_pinsAt rmX3_pinsAt D c sz (wM c a φ δ) [.ref (a 0), .int (nI (t)), .int (nI (p))] (nI (mk (fun j => pb (φ 0) t j p) 12)) (wM c a φ δ) := by
  refine MI.of (cc := cX3_pinsAt) (maxL := 5) (ty := .int) (by decide) rfl (Nat.le_of_ble_eq_true rfl) rfl ?_
  intro P e s m below meth cd A Q ls hsz S hK hW hA hl hret
  have hl : lv_has ls 5 [(0, .ref (a 0)), (1, .int (nI (t))), (2, .int (nI (p)))] := hl
  refine lv_iconst (v := nI (0)) S.1 S.2.1 dX3_pinsAt_0 rfl ?_
  refine lv_istore_n (lv' := [(3, .int (nI (0))), (0, .ref (a 0)), (1, .int (nI (t))), (2, .int (nI (p)))]) S.1 S.2.1 dX3_pinsAt_1 rfl hl (by decide) rfl (fun ls hl => ?_)
  refine lv_iconst (v := nI (0)) S.1 S.2.1 dX3_pinsAt_2 rfl ?_
  refine lv_istore (lv' := [(4, .int (nI (0))), (3, .int (nI (0))), (0, .ref (a 0)), (1, .int (nI (t))), (2, .int (nI (p)))]) S.1 S.2.1 dX3_pinsAt_3 hl (by decide) rfl (fun ls hl => ?_)
  refine k_loop (fun (zz : Nat) H lo ls => match zz with | k => kw D A s.heap (wM c a φ δ) H lo ∧ lv_has ls 5 [(0, .ref (a 0)), (1, .int (nI (t))), (2, .int (nI (p))), (3, .int (nI (mk (fun j => pb (φ 0) t j p) k))), (4, .int (nI (k)))] ∧ k ≤ 12) (fun (zz : Nat) => match zz with | k => 12 - k) [] ?_ 0 _ _ _ ⟨hW, lv_sub hl [2, 3, 4, 1, 0] rfl, (by decide)⟩
  rintro k ih5 H locs ls ⟨hW, hl, hi5_0⟩
  refine lv_iload S.1 S.2.1 dX3_pinsAt_5 (lv_at hl 4 rfl) ?_
  refine lv_bipush (v := nI (12)) S.1 S.2.1 dX3_pinsAt_7 rfl ?_
  refine kn_ge S (tgt := 40) dX3_pinsAt_9 (by decide) (by omega) (by omega) (fun c_9 => ?_) (fun c_9 => ?_)
  · have e9 : k = 12 := by omega
    subst e9
    refine lv_iload_n S.1 S.2.1 dX3_pinsAt_40 rfl (lv_at hl 3 rfl) ?_
    exact hret 41 _ _ _ _ _ dX3_pinsAt_41 hW (rfl) (rfl)
  · refine lv_iload_n S.1 S.2.1 dX3_pinsAt_12 rfl (lv_at hl 3 rfl) ?_
    refine lv_aload_n S.1 S.2.1 dX3_pinsAt_13 rfl (lv_at hl 0 rfl) ?_
    refine lv_iload_n S.1 S.2.1 dX3_pinsAt_14 rfl (lv_at hl 1 rfl) ?_
    refine lv_iload S.1 S.2.1 dX3_pinsAt_15 (lv_at hl 4 rfl) ?_
    refine lv_iload_n S.1 S.2.1 dX3_pinsAt_17 rfl (lv_at hl 2 rfl) ?_
    refine k_VI (rest := [.int (nI (mk (fun j => pb (φ 0) t j p) k))]) S hK hl.1 hW (KFr.all hW hA) (mX3_isPin l D c a φ δ _ t k p (by omega) (by omega) (by omega)) gX3_pinsAt_X3_isPin rfl pdX3_isPin ⟨⟨rfl, rfl⟩, Nat.le_of_ble_eq_true rfl, Nat.le_of_ble_eq_true rfl⟩ 0 3 rfl rfl rfl rfl (Nat.le_of_ble_eq_true rfl) dX3_pinsAt_18 ⟨Nat.le_of_ble_eq_true rfl, Nat.le_of_ble_eq_true rfl⟩ (fun H locs hW => ?_)
    have hW : kw D A s.heap (wM c a φ δ) H locs := hW
    refine kb_eq S (tgt := 31) dX3_pinsAt_21 (by decide) (fun c_21 => ?_) (fun c_21 => ?_)
    · refine lv_iconst (v := nI (0)) S.1 S.2.1 dX3_pinsAt_31 rfl ?_
      refine kn_ior S dX3_pinsAt_32 ?_
      refine k_top (y := nI (mk (fun j => pb (φ 0) t j p) (k + 1))) (congrArg nI (by first | exact mk_t c_21 | exact mk_f c_21)) ?_
      refine lv_istore_n (lv' := [(3, .int (nI (mk (fun j => pb (φ 0) t j p) (k + 1)))), (0, .ref (a 0)), (1, .int (nI (t))), (2, .int (nI (p))), (4, .int (nI (k)))]) S.1 S.2.1 dX3_pinsAt_33 rfl hl (by decide) rfl (fun ls hl => ?_)
      refine lv_iinc (v := nI (k + 1)) (lv' := [(4, .int (nI (k + 1))), (3, .int (nI (mk (fun j => pb (φ 0) t j p) (k + 1)))), (0, .ref (a 0)), (1, .int (nI (t))), (2, .int (nI (p)))]) S.1 S.2.1 dX3_pinsAt_34 hl (k := 4) rfl (nI_add _ _) (by decide) rfl (fun ls hl => ?_)
      refine lv_goto (tgt := 5) S.1 S.2.1 dX3_pinsAt_37 (by decide) ?_
      exact ih5 (k + 1) _ _ _ ⟨hW, lv_sub hl [2, 3, 4, 1, 0] rfl, (by omega)⟩ (by show 12 - (k + 1) < 12 - k; omega)
    · refine lv_iconst (v := nI (1)) S.1 S.2.1 dX3_pinsAt_24 rfl ?_
      refine lv_iload S.1 S.2.1 dX3_pinsAt_25 (lv_at hl 4 rfl) ?_
      refine kn_shl1 S dX3_pinsAt_27 (by omega) ?_
      refine lv_goto (tgt := 32) S.1 S.2.1 dX3_pinsAt_28 (by decide) ?_
      refine kn_ior S dX3_pinsAt_32 ?_
      refine k_top (y := nI (mk (fun j => pb (φ 0) t j p) (k + 1))) (congrArg nI (by first | exact mk_t c_21 | exact mk_f c_21)) ?_
      refine lv_istore_n (lv' := [(3, .int (nI (mk (fun j => pb (φ 0) t j p) (k + 1)))), (0, .ref (a 0)), (1, .int (nI (t))), (2, .int (nI (p))), (4, .int (nI (k)))]) S.1 S.2.1 dX3_pinsAt_33 rfl hl (by decide) rfl (fun ls hl => ?_)
      refine lv_iinc (v := nI (k + 1)) (lv' := [(4, .int (nI (k + 1))), (3, .int (nI (mk (fun j => pb (φ 0) t j p) (k + 1)))), (0, .ref (a 0)), (1, .int (nI (t))), (2, .int (nI (p)))]) S.1 S.2.1 dX3_pinsAt_34 hl (k := 4) rfl (nI_add _ _) (by decide) rfl (fun ls hl => ?_)
      refine lv_goto (tgt := 5) S.1 S.2.1 dX3_pinsAt_37 (by decide) ?_
      exact ih5 (k + 1) _ _ _ ⟨hW, lv_sub hl [2, 3, 4, 1, 0] rfl, (by omega)⟩ (by show 12 - (k + 1) < 12 - k; omega)
abbrev rmX3_ones : Room := { frames := 0, cells := 0, slots := 0, locals := 0 }
theorem pdX3_ones : kPd yX3_ones 1 := by decide +kernel
set_option maxHeartbeats 4000000 in
set_option maxRecDepth 100000 in
theorem mX3_ones (l : Launch) (D : va_G) (c : Nat → ClassId) (sz : Nat) (x : Nat) : MI l yX3_ones wsX3_ones rmX3_ones D c sz [] [.int (nI (x))] (nI (ones x)) [] := by
  refine MI.of (cc := cX3_ones) (maxL := 3) (ty := .int) (by decide) rfl (Nat.le_of_ble_eq_true rfl) rfl ?_
  intro P e s m below meth cd A Q ls hsz S hK hW hA hl hret
  have hl : lv_has ls 3 [(0, .int (nI (x)))] := hl
  refine lv_iconst (v := nI (0)) S.1 S.2.1 dX3_ones_0 rfl ?_
  refine lv_istore_n (lv' := [(1, .int (nI (0))), (0, .int (nI (x)))]) S.1 S.2.1 dX3_ones_1 rfl hl (by decide) rfl (fun ls hl => ?_)
  refine lv_iconst (v := nI (0)) S.1 S.2.1 dX3_ones_2 rfl ?_
  refine lv_istore_n (lv' := [(2, .int (nI (0))), (1, .int (nI (0))), (0, .int (nI (x)))]) S.1 S.2.1 dX3_ones_3 rfl hl (by decide) rfl (fun ls hl => ?_)
  refine k_loop (fun (zz : Nat) H lo ls => match zz with | k => kw D A s.heap [] H lo ∧ lv_has ls 3 [(0, .int (nI (x))), (1, .int (nI (ct (fun i => x.testBit i) k))), (2, .int (nI (k)))] ∧ k ≤ 32) (fun (zz : Nat) => match zz with | k => 32 - k) [] ?_ 0 _ _ _ ⟨hW, lv_sub hl [2, 1, 0] rfl, (by decide)⟩
  rintro k ih4 H locs ls ⟨hW, hl, hi4_0⟩
  refine lv_iload_n S.1 S.2.1 dX3_ones_4 rfl (lv_at hl 2 rfl) ?_
  refine lv_bipush (v := nI (32)) S.1 S.2.1 dX3_ones_5 rfl ?_
  refine kn_ge S (tgt := 24) dX3_ones_7 (by decide) (by omega) (by omega) (fun c_7 => ?_) (fun c_7 => ?_)
  · have e9 : k = 32 := by omega
    subst e9
    refine lv_iload_n S.1 S.2.1 dX3_ones_24 rfl (lv_at hl 1 rfl) ?_
    exact hret 25 _ _ _ _ _ dX3_ones_25 hW (rfl) (rfl)
  · refine lv_iload_n S.1 S.2.1 dX3_ones_10 rfl (lv_at hl 1 rfl) ?_
    refine lv_iload_n S.1 S.2.1 dX3_ones_11 rfl (lv_at hl 0 rfl) ?_
    refine lv_iload_n S.1 S.2.1 dX3_ones_12 rfl (lv_at hl 2 rfl) ?_
    refine lv_ishr S.1 S.2.1 dX3_ones_13 ?_
    refine lv_iconst (v := nI (1)) S.1 S.2.1 dX3_ones_14 rfl ?_
    refine kn_tbit S (by omega) dX3_ones_15 ?_
    refine kn_iadd S dX3_ones_16 ?_
    refine lv_istore_n (lv' := [(1, .int (nI (ct (fun i => x.testBit i) k + ((x).testBit (k)).toNat))), (0, .int (nI (x))), (2, .int (nI (k)))]) S.1 S.2.1 dX3_ones_17 rfl hl (by decide) rfl (fun ls hl => ?_)
    refine lv_iinc (v := nI (k + 1)) (lv' := [(2, .int (nI (k + 1))), (1, .int (nI (ct (fun i => x.testBit i) k + ((x).testBit (k)).toNat))), (0, .int (nI (x)))]) S.1 S.2.1 dX3_ones_18 hl (k := 2) rfl (nI_add _ _) (by decide) rfl (fun ls hl => ?_)
    refine lv_goto (tgt := 4) S.1 S.2.1 dX3_ones_21 (by decide) ?_
    exact ih4 (k + 1) _ _ _ ⟨hW, lv_sub hl [2, 1, 0] rfl, (by omega)⟩ (by show 32 - (k + 1) < 32 - k; omega)
abbrev rmX3_isNear : Room := { frames := 2, cells := 0, slots := 0, locals := 44 }
theorem pdX3_isNear : kPd yX3_isNear 3 := by decide +kernel
set_option maxHeartbeats 4000000 in
set_option maxRecDepth 100000 in
theorem mX3_isNear (l : Launch) (D : va_G) (c : Nat → ClassId) (a : Nat → Nat) (φ : Nat → Nat → Nat) (δ : Int64) (sz : Nat) (t : Nat) (j : Nat) (p : Nat) (ht : t < 3) (hj : j < 12) (hp : p < 32) (ok : okM (φ 0)) : MI l yX3_isNear wsX3_isNear rmX3_isNear D c sz (wM c a φ δ) [.ref (a 0), .int (nI (t)), .int (nI (j)), .int (nI (p))] (nI (near (φ 0) t j p ((φ 0) 145 - 1)).toNat) (wM c a φ δ) := by
  refine MI.of (cc := cX3_isNear) (maxL := 6) (ty := .boolean) (by decide) rfl (Nat.le_of_ble_eq_true rfl) (k_narB _) ?_
  intro P e s m below meth cd A Q ls hsz S hK hW hA hl hret
  have hl : lv_has ls 6 [(0, .ref (a 0)), (1, .int (nI (t))), (2, .int (nI (j))), (3, .int (nI (p)))] := hl
  have hinX3 : ∀ w ∈ u_ws RX3 TX3 13, w ∈ wsX3_isNear := by decide +kernel
  have h5 := ok.k145
  refine lv_iconst (v := nI (0)) S.1 S.2.1 dX3_isNear_0 rfl ?_
  refine lv_istore (lv' := [(4, .int (nI (0))), (0, .ref (a 0)), (1, .int (nI (t))), (2, .int (nI (j))), (3, .int (nI (p)))]) S.1 S.2.1 dX3_isNear_1 hl (by decide) rfl (fun ls hl => ?_)
  refine lv_iconst (v := nI (1)) S.1 S.2.1 dX3_isNear_3 rfl ?_
  refine lv_istore (lv' := [(5, .int (nI (1))), (4, .int (nI (0))), (0, .ref (a 0)), (1, .int (nI (t))), (2, .int (nI (j))), (3, .int (nI (p)))]) S.1 S.2.1 dX3_isNear_4 hl (by decide) rfl (fun ls hl => ?_)
  refine k_loop (fun (zz : Nat) H lo ls => match zz with | k => kw D A s.heap (wM c a φ δ) H lo ∧ lv_has ls 6 [(0, .ref (a 0)), (1, .int (nI (t))), (2, .int (nI (j))), (3, .int (nI (p))), (4, .int (nI (near (φ 0) t j p k).toNat)), (5, .int (nI (1 + k)))] ∧ k ≤ φ 0 145 - 1) (fun (zz : Nat) => match zz with | k => 8 - k) [] ?_ 0 _ _ _ ⟨hW, lv_sub hl [2, 3, 4, 5, 1, 0] rfl, (Nat.zero_le _)⟩
  rintro k ih6 H locs ls ⟨hW, hl, hi6_0⟩
  refine lv_iload S.1 S.2.1 dX3_isNear_6 (lv_at hl 5 rfl) ?_
  refine lv_aload_n S.1 S.2.1 dX3_isNear_8 rfl (lv_at hl 0 rfl) ?_
  refine kx_get S hK hW hinX3 0 3 rfl rfl 1 (by decide) (List.mem_of_getElem? (i := 1) rfl) (v := .ref (a 1)) rfl dX3_isNear_9 ?_
  refine lv_sipush (v := nI (145)) S.1 S.2.1 dX3_isNear_12 rfl ?_
  refine kn_ald S hK hW 1 rfl (by omega) (by decide) dX3_isNear_15 ?_
  refine kn_ge S (tgt := 72) dX3_isNear_16 (by decide) (by omega) (by omega) (fun c_16 => ?_) (fun c_16 => ?_)
  · have e16 : k = φ 0 145 - 1 := by omega
    refine lv_iload S.1 S.2.1 dX3_isNear_72 (lv_at hl 4 rfl) ?_
    exact hret 74 _ _ _ _ _ dX3_isNear_74 hW (by rw [e16]) (rfl)
  · refine lv_iload S.1 S.2.1 dX3_isNear_19 (lv_at hl 4 rfl) ?_
    refine kb_ne S (tgt := 59) dX3_isNear_21 (by decide) (fun c_21 => ?_) (fun c_21 => ?_)
    · refine lv_iconst (v := nI (1)) S.1 S.2.1 dX3_isNear_59 rfl ?_
      refine k_top (y := nI ((near (φ 0) t j p (k + 1)).toNat)) (by rw [show near (φ 0) t j p (k + 1) = true from by simp [near, *]]; rfl) ?_
      refine lv_goto (tgt := 64) S.1 S.2.1 dX3_isNear_60 (by decide) ?_
      refine lv_istore (lv' := [(4, .int (nI (near (φ 0) t j p (k + 1)).toNat)), (0, .ref (a 0)), (1, .int (nI (t))), (2, .int (nI (j))), (3, .int (nI (p))), (5, .int (nI (1 + k)))]) S.1 S.2.1 dX3_isNear_64 hl (by decide) rfl (fun ls hl => ?_)
      refine lv_iinc (v := nI (1 + k + 1)) (lv' := [(5, .int (nI (1 + k + 1))), (4, .int (nI (near (φ 0) t j p (k + 1)).toNat)), (0, .ref (a 0)), (1, .int (nI (t))), (2, .int (nI (j))), (3, .int (nI (p)))]) S.1 S.2.1 dX3_isNear_66 hl (k := 5) rfl (nI_add _ _) (by decide) rfl (fun ls hl => ?_)
      refine lv_goto (tgt := 6) S.1 S.2.1 dX3_isNear_69 (by decide) ?_
      exact ih6 (k + 1) _ _ _ ⟨hW, lv_sub hl [2, 3, 4, 5, 1, 0] rfl, (by omega)⟩ (by show 8 - (k + 1) < 8 - k; omega)
    · refine lv_aload_n S.1 S.2.1 dX3_isNear_24 rfl (lv_at hl 0 rfl) ?_
      refine lv_iload_n S.1 S.2.1 dX3_isNear_25 rfl (lv_at hl 1 rfl) ?_
      refine lv_iload_n S.1 S.2.1 dX3_isNear_26 rfl (lv_at hl 2 rfl) ?_
      refine lv_iload_n S.1 S.2.1 dX3_isNear_27 rfl (lv_at hl 3 rfl) ?_
      refine lv_iload S.1 S.2.1 dX3_isNear_28 (lv_at hl 5 rfl) ?_
      refine kn_iadd S dX3_isNear_30 ?_
      refine lv_bipush (v := nI (32)) S.1 S.2.1 dX3_isNear_31 rfl ?_
      refine kn_irem S dX3_isNear_33 (by omega) (by omega) (by omega) ?_
      refine k_VI (rest := []) S hK hl.1 hW (KFr.all hW hA) (mX3_isPin l D c a φ δ _ t j ((p + (1 + k)) % 32) (by omega) (by omega) (by omega)) gX3_isNear_X3_isPin rfl pdX3_isPin ⟨⟨rfl, rfl⟩, Nat.le_of_ble_eq_true rfl, Nat.le_of_ble_eq_true rfl⟩ 0 3 rfl rfl rfl rfl (Nat.le_of_ble_eq_true rfl) dX3_isNear_34 ⟨Nat.le_of_ble_eq_true rfl, Nat.le_of_ble_eq_true rfl⟩ (fun H locs hW => ?_)
      have hW : kw D A s.heap (wM c a φ δ) H locs := hW
      refine kb_ne S (tgt := 59) dX3_isNear_37 (by decide) (fun c_37 => ?_) (fun c_37 => ?_)
      · refine lv_iconst (v := nI (1)) S.1 S.2.1 dX3_isNear_59 rfl ?_
        refine k_top (y := nI ((near (φ 0) t j p (k + 1)).toNat)) (by rw [show near (φ 0) t j p (k + 1) = true from by simp [near, *]]; rfl) ?_
        refine lv_goto (tgt := 64) S.1 S.2.1 dX3_isNear_60 (by decide) ?_
        refine lv_istore (lv' := [(4, .int (nI (near (φ 0) t j p (k + 1)).toNat)), (0, .ref (a 0)), (1, .int (nI (t))), (2, .int (nI (j))), (3, .int (nI (p))), (5, .int (nI (1 + k)))]) S.1 S.2.1 dX3_isNear_64 hl (by decide) rfl (fun ls hl => ?_)
        refine lv_iinc (v := nI (1 + k + 1)) (lv' := [(5, .int (nI (1 + k + 1))), (4, .int (nI (near (φ 0) t j p (k + 1)).toNat)), (0, .ref (a 0)), (1, .int (nI (t))), (2, .int (nI (j))), (3, .int (nI (p)))]) S.1 S.2.1 dX3_isNear_66 hl (k := 5) rfl (nI_add _ _) (by decide) rfl (fun ls hl => ?_)
        refine lv_goto (tgt := 6) S.1 S.2.1 dX3_isNear_69 (by decide) ?_
        exact ih6 (k + 1) _ _ _ ⟨hW, lv_sub hl [2, 3, 4, 5, 1, 0] rfl, (by omega)⟩ (by show 8 - (k + 1) < 8 - k; omega)
      · refine lv_aload_n S.1 S.2.1 dX3_isNear_40 rfl (lv_at hl 0 rfl) ?_
        refine lv_iload_n S.1 S.2.1 dX3_isNear_41 rfl (lv_at hl 1 rfl) ?_
        refine lv_iload_n S.1 S.2.1 dX3_isNear_42 rfl (lv_at hl 2 rfl) ?_
        refine lv_iload_n S.1 S.2.1 dX3_isNear_43 rfl (lv_at hl 3 rfl) ?_
        refine lv_bipush (v := nI (32)) S.1 S.2.1 dX3_isNear_44 rfl ?_
        refine kn_iadd S dX3_isNear_46 ?_
        refine lv_iload S.1 S.2.1 dX3_isNear_47 (lv_at hl 5 rfl) ?_
        refine kn_isub S dX3_isNear_49 (by omega) ?_
        refine lv_bipush (v := nI (32)) S.1 S.2.1 dX3_isNear_50 rfl ?_
        refine kn_irem S dX3_isNear_52 (by omega) (by omega) (by omega) ?_
        refine k_VI (rest := []) S hK hl.1 hW (KFr.all hW hA) (mX3_isPin l D c a φ δ _ t j (((p + 32) - (1 + k)) % 32) (by omega) (by omega) (by omega)) gX3_isNear_X3_isPin rfl pdX3_isPin ⟨⟨rfl, rfl⟩, Nat.le_of_ble_eq_true rfl, Nat.le_of_ble_eq_true rfl⟩ 0 3 rfl rfl rfl rfl (Nat.le_of_ble_eq_true rfl) dX3_isNear_53 ⟨Nat.le_of_ble_eq_true rfl, Nat.le_of_ble_eq_true rfl⟩ (fun H locs hW => ?_)
        have hW : kw D A s.heap (wM c a φ δ) H locs := hW
        refine kb_eq S (tgt := 63) dX3_isNear_56 (by decide) (fun c_56 => ?_) (fun c_56 => ?_)
        · refine lv_iconst (v := nI (0)) S.1 S.2.1 dX3_isNear_63 rfl ?_
          refine k_top (y := nI ((near (φ 0) t j p (k + 1)).toNat)) (by rw [show near (φ 0) t j p (k + 1) = false from by simp [near, *]]; rfl) ?_
          refine lv_istore (lv' := [(4, .int (nI (near (φ 0) t j p (k + 1)).toNat)), (0, .ref (a 0)), (1, .int (nI (t))), (2, .int (nI (j))), (3, .int (nI (p))), (5, .int (nI (1 + k)))]) S.1 S.2.1 dX3_isNear_64 hl (by decide) rfl (fun ls hl => ?_)
          refine lv_iinc (v := nI (1 + k + 1)) (lv' := [(5, .int (nI (1 + k + 1))), (4, .int (nI (near (φ 0) t j p (k + 1)).toNat)), (0, .ref (a 0)), (1, .int (nI (t))), (2, .int (nI (j))), (3, .int (nI (p)))]) S.1 S.2.1 dX3_isNear_66 hl (k := 5) rfl (nI_add _ _) (by decide) rfl (fun ls hl => ?_)
          refine lv_goto (tgt := 6) S.1 S.2.1 dX3_isNear_69 (by decide) ?_
          exact ih6 (k + 1) _ _ _ ⟨hW, lv_sub hl [2, 3, 4, 5, 1, 0] rfl, (by omega)⟩ (by show 8 - (k + 1) < 8 - k; omega)
        · refine lv_iconst (v := nI (1)) S.1 S.2.1 dX3_isNear_59 rfl ?_
          refine k_top (y := nI ((near (φ 0) t j p (k + 1)).toNat)) (by rw [show near (φ 0) t j p (k + 1) = true from by simp [near, *]]; rfl) ?_
          refine lv_goto (tgt := 64) S.1 S.2.1 dX3_isNear_60 (by decide) ?_
          refine lv_istore (lv' := [(4, .int (nI (near (φ 0) t j p (k + 1)).toNat)), (0, .ref (a 0)), (1, .int (nI (t))), (2, .int (nI (j))), (3, .int (nI (p))), (5, .int (nI (1 + k)))]) S.1 S.2.1 dX3_isNear_64 hl (by decide) rfl (fun ls hl => ?_)
          refine lv_iinc (v := nI (1 + k + 1)) (lv' := [(5, .int (nI (1 + k + 1))), (4, .int (nI (near (φ 0) t j p (k + 1)).toNat)), (0, .ref (a 0)), (1, .int (nI (t))), (2, .int (nI (j))), (3, .int (nI (p)))]) S.1 S.2.1 dX3_isNear_66 hl (k := 5) rfl (nI_add _ _) (by decide) rfl (fun ls hl => ?_)
          refine lv_goto (tgt := 6) S.1 S.2.1 dX3_isNear_69 (by decide) ?_
          exact ih6 (k + 1) _ _ _ ⟨hW, lv_sub hl [2, 3, 4, 5, 1, 0] rfl, (by omega)⟩ (by show 8 - (k + 1) < 8 - k; omega)
abbrev rmX3_hindrance : Room := { frames := 3, cells := 0, slots := 0, locals := 69 }
theorem pdX3_hindrance : kPd yX3_hindrance 3 := by decide +kernel
set_option maxHeartbeats 4000000 in
set_option maxRecDepth 100000 in
theorem mX3_hindrance (l : Launch) (D : va_G) (c : Nat → ClassId) (a : Nat → Nat) (φ : Nat → Nat → Nat) (δ : Int64) (sz : Nat) (t : Nat) (j : Nat) (p : Nat) (ht : t < 3) (hj : j < 12) (hp : p < 32) (ok : okM (φ 0)) : MI l yX3_hindrance wsX3_hindrance rmX3_hindrance D c sz (wM c a φ δ) [.ref (a 0), .int (nI (t)), .int (nI (j)), .int (nI (p))] (nI (hind (φ 0) t j p)) (wM c a φ δ) := by
  refine MI.of (cc := cX3_hindrance) (maxL := 4) (ty := .int) (by decide) rfl (Nat.le_of_ble_eq_true rfl) rfl ?_
  intro P e s m below meth cd A Q ls hsz S hK hW hA hl hret
  have hl : lv_has ls 4 [(0, .ref (a 0)), (1, .int (nI (t))), (2, .int (nI (j))), (3, .int (nI (p)))] := hl
  have hinX3 : ∀ w ∈ u_ws RX3 TX3 13, w ∈ wsX3_hindrance := by decide +kernel
  have h6 := ok.k146
  have h7 := ones_le (mk (fun j => pb (φ 0) t j p) 12)
  have h8 := mk_lt (fun j => pb (φ 0) t j p) 12
  refine lv_aload_n S.1 S.2.1 dX3_hindrance_0 rfl (lv_at hl 0 rfl) ?_
  refine lv_iload_n S.1 S.2.1 dX3_hindrance_1 rfl (lv_at hl 1 rfl) ?_
  refine lv_iload_n S.1 S.2.1 dX3_hindrance_2 rfl (lv_at hl 2 rfl) ?_
  refine lv_iload_n S.1 S.2.1 dX3_hindrance_3 rfl (lv_at hl 3 rfl) ?_
  refine k_VI (rest := []) S hK hl.1 hW (KFr.all hW hA) (mX3_isPin l D c a φ δ _ t j p (by omega) (by omega) (by omega)) gX3_hindrance_X3_isPin rfl pdX3_isPin ⟨⟨rfl, rfl⟩, Nat.le_of_ble_eq_true rfl, Nat.le_of_ble_eq_true rfl⟩ 0 3 rfl rfl rfl rfl (Nat.le_of_ble_eq_true rfl) dX3_hindrance_4 ⟨Nat.le_of_ble_eq_true rfl, Nat.le_of_ble_eq_true rfl⟩ (fun H locs hW => ?_)
  have hW : kw D A s.heap (wM c a φ δ) H locs := hW
  refine kb_ne S (tgt := 20) dX3_hindrance_7 (by decide) (fun c_7 => ?_) (fun c_7 => ?_)
  · refine lv_aload_n S.1 S.2.1 dX3_hindrance_20 rfl (lv_at hl 0 rfl) ?_
    refine lv_iload_n S.1 S.2.1 dX3_hindrance_21 rfl (lv_at hl 1 rfl) ?_
    refine lv_iload_n S.1 S.2.1 dX3_hindrance_22 rfl (lv_at hl 2 rfl) ?_
    refine lv_iload_n S.1 S.2.1 dX3_hindrance_23 rfl (lv_at hl 3 rfl) ?_
    refine k_VI (rest := []) S hK hl.1 hW (KFr.all hW hA) (mX3_isPin l D c a φ δ _ t j p (by omega) (by omega) (by omega)) gX3_hindrance_X3_isPin rfl pdX3_isPin ⟨⟨rfl, rfl⟩, Nat.le_of_ble_eq_true rfl, Nat.le_of_ble_eq_true rfl⟩ 0 3 rfl rfl rfl rfl (Nat.le_of_ble_eq_true rfl) dX3_hindrance_24 ⟨Nat.le_of_ble_eq_true rfl, Nat.le_of_ble_eq_true rfl⟩ (fun H locs hW => ?_)
    have hW : kw D A s.heap (wM c a φ δ) H locs := hW
    refine kb_eq S (tgt := 34) dX3_hindrance_27 (by decide) (fun c_27 => ?_) (fun c_27 => ?_)
    · refine lv_iconst (v := nI (2)) S.1 S.2.1 dX3_hindrance_34 rfl ?_
      exact hret 35 _ _ _ _ _ dX3_hindrance_35 hW (congrArg nI (by unfold hind; simp_all)) (rfl)
    · refine lv_iconst (v := nI (1)) S.1 S.2.1 dX3_hindrance_30 rfl ?_
      refine lv_goto (tgt := 35) S.1 S.2.1 dX3_hindrance_31 (by decide) ?_
      exact hret 35 _ _ _ _ _ dX3_hindrance_35 hW (congrArg nI (by unfold hind; simp_all)) (rfl)
  · refine lv_aload_n S.1 S.2.1 dX3_hindrance_10 rfl (lv_at hl 0 rfl) ?_
    refine lv_iload_n S.1 S.2.1 dX3_hindrance_11 rfl (lv_at hl 1 rfl) ?_
    refine lv_iload_n S.1 S.2.1 dX3_hindrance_12 rfl (lv_at hl 2 rfl) ?_
    refine lv_iload_n S.1 S.2.1 dX3_hindrance_13 rfl (lv_at hl 3 rfl) ?_
    refine k_VI (rest := []) S hK hl.1 hW (KFr.all hW hA) (mX3_isNear l D c a φ δ _ t j p (by omega) (by omega) (by omega) (by omega)) gX3_hindrance_X3_isNear rfl pdX3_isNear ⟨⟨rfl, rfl⟩, Nat.le_of_ble_eq_true rfl, Nat.le_of_ble_eq_true rfl⟩ 0 3 rfl rfl rfl rfl (Nat.le_of_ble_eq_true rfl) dX3_hindrance_14 ⟨Nat.le_of_ble_eq_true rfl, Nat.le_of_ble_eq_true rfl⟩ (fun H locs hW => ?_)
    have hW : kw D A s.heap (wM c a φ δ) H locs := hW
    refine kb_eq S (tgt := 36) dX3_hindrance_17 (by decide) (fun c_17 => ?_) (fun c_17 => ?_)
    · refine lv_aload_n S.1 S.2.1 dX3_hindrance_36 rfl (lv_at hl 0 rfl) ?_
      refine lv_iload_n S.1 S.2.1 dX3_hindrance_37 rfl (lv_at hl 1 rfl) ?_
      refine lv_iload_n S.1 S.2.1 dX3_hindrance_38 rfl (lv_at hl 3 rfl) ?_
      refine k_VI (rest := []) S hK hl.1 hW (KFr.all hW hA) (mX3_pinsAt l D c a φ δ _ t p (by omega) (by omega)) gX3_hindrance_X3_pinsAt rfl pdX3_pinsAt ⟨⟨rfl, rfl⟩, Nat.le_of_ble_eq_true rfl, Nat.le_of_ble_eq_true rfl⟩ 0 3 rfl rfl rfl rfl (Nat.le_of_ble_eq_true rfl) dX3_hindrance_39 ⟨Nat.le_of_ble_eq_true rfl, Nat.le_of_ble_eq_true rfl⟩ (fun H locs hW => ?_)
      have hW : kw D A s.heap (wM c a φ δ) H locs := hW
      refine k_SI (rest := []) S hK hl.1 hW (KFr.nil hW hA) (mX3_ones l D c  _ (mk (fun j => pb (φ 0) t j p) 12)) gX3_hindrance_X3_ones rfl pdX3_ones ⟨⟨rfl, rfl⟩, Nat.le_of_ble_eq_true rfl, Nat.le_of_ble_eq_true rfl⟩ rfl (Nat.le_of_ble_eq_true rfl) dX3_hindrance_42 ⟨Nat.le_of_ble_eq_true rfl, Nat.le_of_ble_eq_true rfl⟩ (fun H locs hW => ?_)
      have hW : kw D A s.heap (wM c a φ δ) H locs := hW
      refine lv_aload_n S.1 S.2.1 dX3_hindrance_45 rfl (lv_at hl 0 rfl) ?_
      refine kx_get S hK hW hinX3 0 3 rfl rfl 1 (by decide) (List.mem_of_getElem? (i := 1) rfl) (v := .ref (a 1)) rfl dX3_hindrance_46 ?_
      refine lv_sipush (v := nI (146)) S.1 S.2.1 dX3_hindrance_49 rfl ?_
      refine kn_ald S hK hW 1 rfl (by omega) (by decide) dX3_hindrance_52 ?_
      refine kn_lt S (tgt := 60) dX3_hindrance_53 (by decide) (by omega) (by omega) (fun c_53 => ?_) (fun c_53 => ?_)
      · refine lv_iconst (v := nI (0)) S.1 S.2.1 dX3_hindrance_60 rfl ?_
        exact hret 61 _ _ _ _ _ dX3_hindrance_61 hW (congrArg nI (by unfold hind; simp [*]; done)) (rfl)
      · refine lv_iconst (v := nI (3)) S.1 S.2.1 dX3_hindrance_56 rfl ?_
        refine lv_goto (tgt := 61) S.1 S.2.1 dX3_hindrance_57 (by decide) ?_
        exact hret 61 _ _ _ _ _ dX3_hindrance_61 hW (congrArg nI (by unfold hind; simp [*]; done)) (rfl)
    · refine lv_aload_n S.1 S.2.1 dX3_hindrance_20 rfl (lv_at hl 0 rfl) ?_
      refine lv_iload_n S.1 S.2.1 dX3_hindrance_21 rfl (lv_at hl 1 rfl) ?_
      refine lv_iload_n S.1 S.2.1 dX3_hindrance_22 rfl (lv_at hl 2 rfl) ?_
      refine lv_iload_n S.1 S.2.1 dX3_hindrance_23 rfl (lv_at hl 3 rfl) ?_
      refine k_VI (rest := []) S hK hl.1 hW (KFr.all hW hA) (mX3_isPin l D c a φ δ _ t j p (by omega) (by omega) (by omega)) gX3_hindrance_X3_isPin rfl pdX3_isPin ⟨⟨rfl, rfl⟩, Nat.le_of_ble_eq_true rfl, Nat.le_of_ble_eq_true rfl⟩ 0 3 rfl rfl rfl rfl (Nat.le_of_ble_eq_true rfl) dX3_hindrance_24 ⟨Nat.le_of_ble_eq_true rfl, Nat.le_of_ble_eq_true rfl⟩ (fun H locs hW => ?_)
      have hW : kw D A s.heap (wM c a φ δ) H locs := hW
      refine kb_eq S (tgt := 34) dX3_hindrance_27 (by decide) (fun c_27 => ?_) (fun c_27 => ?_)
      · refine lv_iconst (v := nI (2)) S.1 S.2.1 dX3_hindrance_34 rfl ?_
        exact hret 35 _ _ _ _ _ dX3_hindrance_35 hW (congrArg nI (by unfold hind; simp_all)) (rfl)
      · refine lv_iconst (v := nI (1)) S.1 S.2.1 dX3_hindrance_30 rfl ?_
        refine lv_goto (tgt := 35) S.1 S.2.1 dX3_hindrance_31 (by decide) ?_
        exact hret 35 _ _ _ _ _ dX3_hindrance_35 hW (congrArg nI (by unfold hind; simp_all)) (rfl)
abbrev rmX3_pinsOf : Room := { frames := 1, cells := 0, slots := 0, locals := 22 }
theorem pdX3_pinsOf : kPd yX3_pinsOf 1 := by decide +kernel
set_option maxHeartbeats 4000000 in
set_option maxRecDepth 100000 in
theorem mX3_pinsOf (l : Launch) (D : va_G) (c : Nat → ClassId) (a : Nat → Nat) (φ : Nat → Nat → Nat) (δ : Int64) (sz : Nat) (t : Nat) (ht : t < 3) : MI l yX3_pinsOf wsX3_pinsOf rmX3_pinsOf D c sz (wM c a φ δ) [.ref (a 0), .int (nI (t))] (nI (pins (φ 0) t)) (wM c a φ δ) := by
  refine MI.of (cc := cX3_pinsOf) (maxL := 4) (ty := .int) (by decide) rfl (Nat.le_of_ble_eq_true rfl) rfl ?_
  intro P e s m below meth cd A Q ls hsz S hK hW hA hl hret
  have hl : lv_has ls 4 [(0, .ref (a 0)), (1, .int (nI (t)))] := hl
  have hinX3 : ∀ w ∈ u_ws RX3 TX3 13, w ∈ wsX3_pinsOf := by decide +kernel
  refine lv_iconst (v := nI (0)) S.1 S.2.1 dX3_pinsOf_0 rfl ?_
  refine lv_istore_n (lv' := [(2, .int (nI (0))), (0, .ref (a 0)), (1, .int (nI (t)))]) S.1 S.2.1 dX3_pinsOf_1 rfl hl (by decide) rfl (fun ls hl => ?_)
  refine lv_iconst (v := nI (0)) S.1 S.2.1 dX3_pinsOf_2 rfl ?_
  refine lv_istore_n (lv' := [(3, .int (nI (0))), (2, .int (nI (0))), (0, .ref (a 0)), (1, .int (nI (t)))]) S.1 S.2.1 dX3_pinsOf_3 rfl hl (by decide) rfl (fun ls hl => ?_)
  refine k_loop (fun (zz : Nat) H lo ls => match zz with | k => kw D A s.heap (wM c a φ δ) H lo ∧ lv_has ls 4 [(0, .ref (a 0)), (1, .int (nI (t))), (2, .int (nI (sm (fun j => ones (φ 0 (12 * t + j))) k))), (3, .int (nI (k)))] ∧ k ≤ 12) (fun (zz : Nat) => match zz with | k => 12 - k) [] ?_ 0 _ _ _ ⟨hW, lv_sub hl [2, 3, 1, 0] rfl, (by decide)⟩
  rintro k ih4 H locs ls ⟨hW, hl, hi4_0⟩
  refine lv_iload_n S.1 S.2.1 dX3_pinsOf_4 rfl (lv_at hl 3 rfl) ?_
  refine lv_bipush (v := nI (12)) S.1 S.2.1 dX3_pinsOf_5 rfl ?_
  refine kn_ge S (tgt := 32) dX3_pinsOf_7 (by decide) (by omega) (by omega) (fun c_7 => ?_) (fun c_7 => ?_)
  · have e9 : k = 12 := by omega
    subst e9
    refine lv_iload_n S.1 S.2.1 dX3_pinsOf_32 rfl (lv_at hl 2 rfl) ?_
    exact hret 33 _ _ _ _ _ dX3_pinsOf_33 hW (rfl) (rfl)
  · refine lv_iload_n S.1 S.2.1 dX3_pinsOf_10 rfl (lv_at hl 2 rfl) ?_
    refine lv_aload_n S.1 S.2.1 dX3_pinsOf_11 rfl (lv_at hl 0 rfl) ?_
    refine kx_get S hK hW hinX3 0 3 rfl rfl 1 (by decide) (List.mem_of_getElem? (i := 1) rfl) (v := .ref (a 1)) rfl dX3_pinsOf_12 ?_
    refine lv_iload_n S.1 S.2.1 dX3_pinsOf_15 rfl (lv_at hl 1 rfl) ?_
    refine lv_iload_n S.1 S.2.1 dX3_pinsOf_16 rfl (lv_at hl 3 rfl) ?_
    refine k_SI (rest := [.ref (a 1), .int (nI (sm (fun j => ones (φ 0 (12 * t + j))) k))]) S hK hl.1 hW (KFr.nil hW hA) (mX3_ofPins l D c  _ t k) gX3_pinsOf_X3_ofPins rfl pdX3_ofPins ⟨⟨rfl, rfl⟩, Nat.le_of_ble_eq_true rfl, Nat.le_of_ble_eq_true rfl⟩ rfl (Nat.le_of_ble_eq_true rfl) dX3_pinsOf_17 ⟨Nat.le_of_ble_eq_true rfl, Nat.le_of_ble_eq_true rfl⟩ (fun H locs hW => ?_)
    have hW : kw D A s.heap (wM c a φ δ) H locs := hW
    refine kn_ald S hK hW 1 rfl (by omega) (by decide) dX3_pinsOf_20 ?_
    refine k_SI (rest := [.int (nI (sm (fun j => ones (φ 0 (12 * t + j))) k))]) S hK hl.1 hW (KFr.nil hW hA) (mX3_ones l D c  _ (φ 0 (12 * t + k))) gX3_pinsOf_X3_ones rfl pdX3_ones ⟨⟨rfl, rfl⟩, Nat.le_of_ble_eq_true rfl, Nat.le_of_ble_eq_true rfl⟩ rfl (Nat.le_of_ble_eq_true rfl) dX3_pinsOf_21 ⟨Nat.le_of_ble_eq_true rfl, Nat.le_of_ble_eq_true rfl⟩ (fun H locs hW => ?_)
    have hW : kw D A s.heap (wM c a φ δ) H locs := hW
    refine kn_iadd S dX3_pinsOf_24 ?_
    refine lv_istore_n (lv' := [(2, .int (nI (sm (fun j => ones (φ 0 (12 * t + j))) k + (ones (φ 0 (12 * t + k)))))), (0, .ref (a 0)), (1, .int (nI (t))), (3, .int (nI (k)))]) S.1 S.2.1 dX3_pinsOf_25 rfl hl (by decide) rfl (fun ls hl => ?_)
    refine lv_iinc (v := nI (k + 1)) (lv' := [(3, .int (nI (k + 1))), (2, .int (nI (sm (fun j => ones (φ 0 (12 * t + j))) k + (ones (φ 0 (12 * t + k)))))), (0, .ref (a 0)), (1, .int (nI (t)))]) S.1 S.2.1 dX3_pinsOf_26 hl (k := 3) rfl (nI_add _ _) (by decide) rfl (fun ls hl => ?_)
    refine lv_goto (tgt := 4) S.1 S.2.1 dX3_pinsOf_29 (by decide) ?_
    exact ih4 (k + 1) _ _ _ ⟨hW, lv_sub hl [2, 3, 1, 0] rfl, (by omega)⟩ (by show 12 - (k + 1) < 12 - k; omega)
abbrev rmX3_allPins : Room := { frames := 2, cells := 0, slots := 0, locals := 45 }
theorem pdX3_allPins : kPd yX3_allPins 0 := by decide +kernel
set_option maxHeartbeats 4000000 in
set_option maxRecDepth 100000 in
theorem mX3_allPins (l : Launch) (D : va_G) (c : Nat → ClassId) (a : Nat → Nat) (φ : Nat → Nat → Nat) (δ : Int64) (sz : Nat) : MI l yX3_allPins wsX3_allPins rmX3_allPins D c sz (wM c a φ δ) [.ref (a 0)] (nI (allp (φ 0))) (wM c a φ δ) := by
  refine MI.of (cc := cX3_allPins) (maxL := 1) (ty := .int) (by decide) rfl (Nat.le_of_ble_eq_true rfl) rfl ?_
  intro P e s m below meth cd A Q ls hsz S hK hW hA hl hret
  have hl : lv_has ls 1 [(0, .ref (a 0))] := hl
  refine lv_aload_n S.1 S.2.1 dX3_allPins_0 rfl (lv_at hl 0 rfl) ?_
  refine lv_iconst (v := nI (0)) S.1 S.2.1 dX3_allPins_1 rfl ?_
  refine k_VI (rest := []) S hK hl.1 hW (KFr.all hW hA) (mX3_pinsOf l D c a φ δ _ 0 (by omega)) gX3_allPins_X3_pinsOf rfl pdX3_pinsOf ⟨⟨rfl, rfl⟩, Nat.le_of_ble_eq_true rfl, Nat.le_of_ble_eq_true rfl⟩ 0 3 rfl rfl rfl rfl (Nat.le_of_ble_eq_true rfl) dX3_allPins_2 ⟨Nat.le_of_ble_eq_true rfl, Nat.le_of_ble_eq_true rfl⟩ (fun H locs hW => ?_)
  have hW : kw D A s.heap (wM c a φ δ) H locs := hW
  refine lv_aload_n S.1 S.2.1 dX3_allPins_5 rfl (lv_at hl 0 rfl) ?_
  refine lv_iconst (v := nI (1)) S.1 S.2.1 dX3_allPins_6 rfl ?_
  refine k_VI (rest := [.int (nI (pins (φ 0) 0))]) S hK hl.1 hW (KFr.all hW hA) (mX3_pinsOf l D c a φ δ _ 1 (by omega)) gX3_allPins_X3_pinsOf rfl pdX3_pinsOf ⟨⟨rfl, rfl⟩, Nat.le_of_ble_eq_true rfl, Nat.le_of_ble_eq_true rfl⟩ 0 3 rfl rfl rfl rfl (Nat.le_of_ble_eq_true rfl) dX3_allPins_7 ⟨Nat.le_of_ble_eq_true rfl, Nat.le_of_ble_eq_true rfl⟩ (fun H locs hW => ?_)
  have hW : kw D A s.heap (wM c a φ δ) H locs := hW
  refine kn_iadd S dX3_allPins_10 ?_
  refine lv_aload_n S.1 S.2.1 dX3_allPins_11 rfl (lv_at hl 0 rfl) ?_
  refine lv_iconst (v := nI (2)) S.1 S.2.1 dX3_allPins_12 rfl ?_
  refine k_VI (rest := [.int (nI (pins (φ 0) 0 + pins (φ 0) 1))]) S hK hl.1 hW (KFr.all hW hA) (mX3_pinsOf l D c a φ δ _ 2 (by omega)) gX3_allPins_X3_pinsOf rfl pdX3_pinsOf ⟨⟨rfl, rfl⟩, Nat.le_of_ble_eq_true rfl, Nat.le_of_ble_eq_true rfl⟩ 0 3 rfl rfl rfl rfl (Nat.le_of_ble_eq_true rfl) dX3_allPins_13 ⟨Nat.le_of_ble_eq_true rfl, Nat.le_of_ble_eq_true rfl⟩ (fun H locs hW => ?_)
  have hW : kw D A s.heap (wM c a φ δ) H locs := hW
  refine kn_iadd S dX3_allPins_16 ?_
  exact hret 17 _ _ _ _ _ dX3_allPins_17 hW (rfl) (rfl)
abbrev rmX3_nextStep : Room := { frames := 0, cells := 0, slots := 0, locals := 0 }
theorem pdX3_nextStep : kPd yX3_nextStep 0 := by decide +kernel
set_option maxHeartbeats 4000000 in
set_option maxRecDepth 100000 in
theorem mX3_nextStep (l : Launch) (D : va_G) (c : Nat → ClassId) (a : Nat → Nat) (φ : Nat → Nat → Nat) (δ : Int64) (sz : Nat) (ok : okM (φ 0)) : MI l yX3_nextStep wsX3_nextStep rmX3_nextStep D c sz (wM c a φ δ) [.ref (a 0)] (nI ((φ 0 133 + 1) % 32)) (wM c a φ δ) := by
  refine MI.of (cc := cX3_nextStep) (maxL := 1) (ty := .int) (by decide) rfl (Nat.le_of_ble_eq_true rfl) rfl ?_
  intro P e s m below meth cd A Q ls hsz S hK hW hA hl hret
  have hl : lv_has ls 1 [(0, .ref (a 0))] := hl
  have hinX3 : ∀ w ∈ u_ws RX3 TX3 13, w ∈ wsX3_nextStep := by decide +kernel
  have h3 := ok.k133
  refine lv_aload_n S.1 S.2.1 dX3_nextStep_0 rfl (lv_at hl 0 rfl) ?_
  refine kx_get S hK hW hinX3 0 3 rfl rfl 1 (by decide) (List.mem_of_getElem? (i := 1) rfl) (v := .ref (a 1)) rfl dX3_nextStep_1 ?_
  refine lv_sipush (v := nI (133)) S.1 S.2.1 dX3_nextStep_4 rfl ?_
  refine kn_ald S hK hW 1 rfl (by omega) (by decide) dX3_nextStep_7 ?_
  refine lv_iconst (v := nI (1)) S.1 S.2.1 dX3_nextStep_8 rfl ?_
  refine kn_iadd S dX3_nextStep_9 ?_
  refine lv_bipush (v := nI (32)) S.1 S.2.1 dX3_nextStep_10 rfl ?_
  refine kn_irem S dX3_nextStep_12 (by omega) (by omega) (by omega) ?_
  exact hret 13 _ _ _ _ _ dX3_nextStep_13 hW (rfl) (rfl)
abbrev rmX3_nextTune : Room := { frames := 1, cells := 0, slots := 0, locals := 20 }
theorem pdX3_nextTune : kPd yX3_nextTune 0 := by decide +kernel
set_option maxHeartbeats 4000000 in
set_option maxRecDepth 100000 in
theorem mX3_nextTune (l : Launch) (D : va_G) (c : Nat → ClassId) (a : Nat → Nat) (φ : Nat → Nat → Nat) (δ : Int64) (sz : Nat) (ok : okM (φ 0)) : MI l yX3_nextTune wsX3_nextTune rmX3_nextTune D c sz (wM c a φ δ) [.ref (a 0)] (nI (ntu (φ 0))) (wM c a φ δ) := by
  refine MI.of (cc := cX3_nextTune) (maxL := 1) (ty := .int) (by decide) rfl (Nat.le_of_ble_eq_true rfl) rfl ?_
  intro P e s m below meth cd A Q ls hsz S hK hW hA hl hret
  have hl : lv_has ls 1 [(0, .ref (a 0))] := hl
  have hinX3 : ∀ w ∈ u_ws RX3 TX3 13, w ∈ wsX3_nextTune := by decide +kernel
  have h4 := ok.k134
  have h5 := ok.k144
  refine lv_aload_n S.1 S.2.1 dX3_nextTune_0 rfl (lv_at hl 0 rfl) ?_
  refine k_VI (rest := []) S hK hl.1 hW (KFr.all hW hA) (mX3_nextStep l D c a φ δ _ (by omega)) gX3_nextTune_X3_nextStep rfl pdX3_nextStep ⟨⟨rfl, rfl⟩, Nat.le_of_ble_eq_true rfl, Nat.le_of_ble_eq_true rfl⟩ 0 3 rfl rfl rfl rfl (Nat.le_of_ble_eq_true rfl) dX3_nextTune_1 ⟨Nat.le_of_ble_eq_true rfl, Nat.le_of_ble_eq_true rfl⟩ (fun H locs hW => ?_)
  have hW : kw D A s.heap (wM c a φ δ) H locs := hW
  refine kz_ne S (tgt := 33) dX3_nextTune_4 (by decide) (by omega) (fun c_4 => ?_) (fun c_4 => ?_)
  · refine lv_aload_n S.1 S.2.1 dX3_nextTune_33 rfl (lv_at hl 0 rfl) ?_
    refine kx_get S hK hW hinX3 0 3 rfl rfl 1 (by decide) (List.mem_of_getElem? (i := 1) rfl) (v := .ref (a 1)) rfl dX3_nextTune_34 ?_
    refine lv_sipush (v := nI (134)) S.1 S.2.1 dX3_nextTune_37 rfl ?_
    refine kn_ald S hK hW 1 rfl (by omega) (by decide) dX3_nextTune_40 ?_
    exact hret 41 _ _ _ _ _ dX3_nextTune_41 hW (congrArg nI (by simp [ntu, *])) (rfl)
  · refine lv_aload_n S.1 S.2.1 dX3_nextTune_7 rfl (lv_at hl 0 rfl) ?_
    refine kx_get S hK hW hinX3 0 3 rfl rfl 1 (by decide) (List.mem_of_getElem? (i := 1) rfl) (v := .ref (a 1)) rfl dX3_nextTune_8 ?_
    refine lv_sipush (v := nI (144)) S.1 S.2.1 dX3_nextTune_11 rfl ?_
    refine kn_ald S hK hW 1 rfl (by omega) (by decide) dX3_nextTune_14 ?_
    refine kz_eq S (tgt := 33) dX3_nextTune_15 (by decide) (by omega) (fun c_15 => ?_) (fun c_15 => ?_)
    · refine lv_aload_n S.1 S.2.1 dX3_nextTune_33 rfl (lv_at hl 0 rfl) ?_
      refine kx_get S hK hW hinX3 0 3 rfl rfl 1 (by decide) (List.mem_of_getElem? (i := 1) rfl) (v := .ref (a 1)) rfl dX3_nextTune_34 ?_
      refine lv_sipush (v := nI (134)) S.1 S.2.1 dX3_nextTune_37 rfl ?_
      refine kn_ald S hK hW 1 rfl (by omega) (by decide) dX3_nextTune_40 ?_
      exact hret 41 _ _ _ _ _ dX3_nextTune_41 hW (congrArg nI (by simp [ntu, *])) (rfl)
    · refine lv_aload_n S.1 S.2.1 dX3_nextTune_18 rfl (lv_at hl 0 rfl) ?_
      refine kx_get S hK hW hinX3 0 3 rfl rfl 1 (by decide) (List.mem_of_getElem? (i := 1) rfl) (v := .ref (a 1)) rfl dX3_nextTune_19 ?_
      refine lv_sipush (v := nI (134)) S.1 S.2.1 dX3_nextTune_22 rfl ?_
      refine kn_ald S hK hW 1 rfl (by omega) (by decide) dX3_nextTune_25 ?_
      refine lv_iconst (v := nI (1)) S.1 S.2.1 dX3_nextTune_26 rfl ?_
      refine kn_iadd S dX3_nextTune_27 ?_
      refine lv_iconst (v := nI (3)) S.1 S.2.1 dX3_nextTune_28 rfl ?_
      refine kn_irem S dX3_nextTune_29 (by omega) (by omega) (by omega) ?_
      refine lv_goto (tgt := 41) S.1 S.2.1 dX3_nextTune_30 (by decide) ?_
      exact hret 41 _ _ _ _ _ dX3_nextTune_41 hW (congrArg nI (by simp [ntu, *])) (rfl)
abbrev rmX3_need : Room := { frames := 2, cells := 0, slots := 0, locals := 44 }
theorem pdX3_need : kPd yX3_need 0 := by decide +kernel
set_option maxHeartbeats 4000000 in
set_option maxRecDepth 100000 in
theorem mX3_need (l : Launch) (D : va_G) (c : Nat → ClassId) (a : Nat → Nat) (φ : Nat → Nat → Nat) (δ : Int64) (sz : Nat) (ok : okM (φ 0)) : MI l yX3_need wsX3_need rmX3_need D c sz (wM c a φ δ) [.ref (a 0)] (nI (need (φ 0))) (wM c a φ δ) := by
  refine MI.of (cc := cX3_need) (maxL := 3) (ty := .int) (by decide) rfl (Nat.le_of_ble_eq_true rfl) rfl ?_
  intro P e s m below meth cd A Q ls hsz S hK hW hA hl hret
  have hl : lv_has ls 3 [(0, .ref (a 0))] := hl
  have hinX3 : ∀ w ∈ u_ws RX3 TX3 13, w ∈ wsX3_need := by decide +kernel
  have hn := ntu_lt ok
  refine lv_iconst (v := nI (1)) S.1 S.2.1 dX3_need_0 rfl ?_
  refine lv_istore_n (lv' := [(1, .int (nI (1))), (0, .ref (a 0))]) S.1 S.2.1 dX3_need_1 rfl hl (by decide) rfl (fun ls hl => ?_)
  refine lv_iconst (v := nI (0)) S.1 S.2.1 dX3_need_2 rfl ?_
  refine lv_istore_n (lv' := [(2, .int (nI (0))), (1, .int (nI (1))), (0, .ref (a 0))]) S.1 S.2.1 dX3_need_3 rfl hl (by decide) rfl (fun ls hl => ?_)
  refine k_loop (fun (zz : Nat) H lo ls => match zz with | k => kw D A s.heap (wM c a φ δ) H lo ∧ lv_has ls 3 [(0, .ref (a 0)), (1, .int (nI (1 + ct (strk (φ 0)) k))), (2, .int (nI (k)))] ∧ k ≤ 12) (fun (zz : Nat) => match zz with | k => 12 - k) [] ?_ 0 _ _ _ ⟨hW, lv_sub hl [2, 1, 0] rfl, (by decide)⟩
  rintro k ih4 H locs ls ⟨hW, hl, hi4_0⟩
  refine lv_iload_n S.1 S.2.1 dX3_need_4 rfl (lv_at hl 2 rfl) ?_
  refine lv_bipush (v := nI (12)) S.1 S.2.1 dX3_need_5 rfl ?_
  refine kn_ge S (tgt := 53) dX3_need_7 (by decide) (by omega) (by omega) (fun c_7 => ?_) (fun c_7 => ?_)
  · have e9 : k = 12 := by omega
    subst e9
    refine lv_iload_n S.1 S.2.1 dX3_need_53 rfl (lv_at hl 1 rfl) ?_
    exact hret 54 _ _ _ _ _ dX3_need_54 hW (rfl) (rfl)
  · have hk2 := ok.broken c_7
    refine lv_iload_n S.1 S.2.1 dX3_need_10 rfl (lv_at hl 1 rfl) ?_
    refine lv_aload_n S.1 S.2.1 dX3_need_11 rfl (lv_at hl 0 rfl) ?_
    refine lv_aload_n S.1 S.2.1 dX3_need_12 rfl (lv_at hl 0 rfl) ?_
    refine k_VI (rest := [.ref (a 0), .int (nI (1 + ct (strk (φ 0)) k))]) S hK hl.1 hW (KFr.all hW hA) (mX3_nextTune l D c a φ δ _ (by omega)) gX3_need_X3_nextTune rfl pdX3_nextTune ⟨⟨rfl, rfl⟩, Nat.le_of_ble_eq_true rfl, Nat.le_of_ble_eq_true rfl⟩ 0 3 rfl rfl rfl rfl (Nat.le_of_ble_eq_true rfl) dX3_need_13 ⟨Nat.le_of_ble_eq_true rfl, Nat.le_of_ble_eq_true rfl⟩ (fun H locs hW => ?_)
    have hW : kw D A s.heap (wM c a φ δ) H locs := hW
    refine lv_iload_n S.1 S.2.1 dX3_need_16 rfl (lv_at hl 2 rfl) ?_
    refine lv_aload_n S.1 S.2.1 dX3_need_17 rfl (lv_at hl 0 rfl) ?_
    refine k_VI (rest := [.int (nI (k)), .int (nI (ntu (φ 0))), .ref (a 0), .int (nI (1 + ct (strk (φ 0)) k))]) S hK hl.1 hW (KFr.all hW hA) (mX3_nextStep l D c a φ δ _ (by omega)) gX3_need_X3_nextStep rfl pdX3_nextStep ⟨⟨rfl, rfl⟩, Nat.le_of_ble_eq_true rfl, Nat.le_of_ble_eq_true rfl⟩ 0 3 rfl rfl rfl rfl (Nat.le_of_ble_eq_true rfl) dX3_need_18 ⟨Nat.le_of_ble_eq_true rfl, Nat.le_of_ble_eq_true rfl⟩ (fun H locs hW => ?_)
    have hW : kw D A s.heap (wM c a φ δ) H locs := hW
    refine k_VI (rest := [.int (nI (1 + ct (strk (φ 0)) k))]) S hK hl.1 hW (KFr.all hW hA) (mX3_isPin l D c a φ δ _ (ntu (φ 0)) k ((φ 0 133 + 1) % 32) (by omega) (by omega) (by omega)) gX3_need_X3_isPin rfl pdX3_isPin ⟨⟨rfl, rfl⟩, Nat.le_of_ble_eq_true rfl, Nat.le_of_ble_eq_true rfl⟩ 0 3 rfl rfl rfl rfl (Nat.le_of_ble_eq_true rfl) dX3_need_21 ⟨Nat.le_of_ble_eq_true rfl, Nat.le_of_ble_eq_true rfl⟩ (fun H locs hW => ?_)
    have hW : kw D A s.heap (wM c a φ δ) H locs := hW
    refine kb_eq S (tgt := 44) dX3_need_24 (by decide) (fun c_24 => ?_) (fun c_24 => ?_)
    · refine lv_iconst (v := nI (0)) S.1 S.2.1 dX3_need_44 rfl ?_
      refine kn_iadd S dX3_need_45 ?_
      refine k_top (y := nI (1 + ct (strk (φ 0)) (k + 1))) (congrArg nI (by first | rw [← ct_t (f := strk (φ 0)) (show strk (φ 0) k = true from by simp [strk, *])]; omega | (rw [← ct_f (f := strk (φ 0)) (show strk (φ 0) k = false from by simp [strk, *])]; omega))) ?_
      refine lv_istore_n (lv' := [(1, .int (nI (1 + ct (strk (φ 0)) (k + 1)))), (0, .ref (a 0)), (2, .int (nI (k)))]) S.1 S.2.1 dX3_need_46 rfl hl (by decide) rfl (fun ls hl => ?_)
      refine lv_iinc (v := nI (k + 1)) (lv' := [(2, .int (nI (k + 1))), (1, .int (nI (1 + ct (strk (φ 0)) (k + 1)))), (0, .ref (a 0))]) S.1 S.2.1 dX3_need_47 hl (k := 2) rfl (nI_add _ _) (by decide) rfl (fun ls hl => ?_)
      refine lv_goto (tgt := 4) S.1 S.2.1 dX3_need_50 (by decide) ?_
      exact ih4 (k + 1) _ _ _ ⟨hW, lv_sub hl [2, 1, 0] rfl, (by omega)⟩ (by show 12 - (k + 1) < 12 - k; omega)
    · refine lv_aload_n S.1 S.2.1 dX3_need_27 rfl (lv_at hl 0 rfl) ?_
      refine kx_get S hK hW hinX3 0 3 rfl rfl 1 (by decide) (List.mem_of_getElem? (i := 1) rfl) (v := .ref (a 1)) rfl dX3_need_28 ?_
      refine lv_iload_n S.1 S.2.1 dX3_need_31 rfl (lv_at hl 2 rfl) ?_
      refine lv_iconst (v := nI (2)) S.1 S.2.1 dX3_need_32 rfl ?_
      refine k_SI (rest := [.ref (a 1), .int (nI (1 + ct (strk (φ 0)) k))]) S hK hl.1 hW (KFr.nil hW hA) (mX3_of l D c  _ k 2) gX3_need_X3_of rfl pdX3_of ⟨⟨rfl, rfl⟩, Nat.le_of_ble_eq_true rfl, Nat.le_of_ble_eq_true rfl⟩ rfl (Nat.le_of_ble_eq_true rfl) dX3_need_33 ⟨Nat.le_of_ble_eq_true rfl, Nat.le_of_ble_eq_true rfl⟩ (fun H locs hW => ?_)
      have hW : kw D A s.heap (wM c a φ δ) H locs := hW
      refine kn_ald S hK hW 1 rfl (by omega) (by decide) dX3_need_36 ?_
      refine kz_ne S (tgt := 44) dX3_need_37 (by decide) (by omega) (fun c_37 => ?_) (fun c_37 => ?_)
      · refine lv_iconst (v := nI (0)) S.1 S.2.1 dX3_need_44 rfl ?_
        refine kn_iadd S dX3_need_45 ?_
        refine k_top (y := nI (1 + ct (strk (φ 0)) (k + 1))) (congrArg nI (by first | rw [← ct_t (f := strk (φ 0)) (show strk (φ 0) k = true from by simp [strk, *])]; omega | (rw [← ct_f (f := strk (φ 0)) (show strk (φ 0) k = false from by simp [strk, *])]; omega))) ?_
        refine lv_istore_n (lv' := [(1, .int (nI (1 + ct (strk (φ 0)) (k + 1)))), (0, .ref (a 0)), (2, .int (nI (k)))]) S.1 S.2.1 dX3_need_46 rfl hl (by decide) rfl (fun ls hl => ?_)
        refine lv_iinc (v := nI (k + 1)) (lv' := [(2, .int (nI (k + 1))), (1, .int (nI (1 + ct (strk (φ 0)) (k + 1)))), (0, .ref (a 0))]) S.1 S.2.1 dX3_need_47 hl (k := 2) rfl (nI_add _ _) (by decide) rfl (fun ls hl => ?_)
        refine lv_goto (tgt := 4) S.1 S.2.1 dX3_need_50 (by decide) ?_
        exact ih4 (k + 1) _ _ _ ⟨hW, lv_sub hl [2, 1, 0] rfl, (by omega)⟩ (by show 12 - (k + 1) < 12 - k; omega)
      · refine lv_iconst (v := nI (1)) S.1 S.2.1 dX3_need_40 rfl ?_
        refine lv_goto (tgt := 45) S.1 S.2.1 dX3_need_41 (by decide) ?_
        refine kn_iadd S dX3_need_45 ?_
        refine k_top (y := nI (1 + ct (strk (φ 0)) (k + 1))) (congrArg nI (by first | rw [← ct_t (f := strk (φ 0)) (show strk (φ 0) k = true from by simp [strk, *])]; omega | (rw [← ct_f (f := strk (φ 0)) (show strk (φ 0) k = false from by simp [strk, *])]; omega))) ?_
        refine lv_istore_n (lv' := [(1, .int (nI (1 + ct (strk (φ 0)) (k + 1)))), (0, .ref (a 0)), (2, .int (nI (k)))]) S.1 S.2.1 dX3_need_46 rfl hl (by decide) rfl (fun ls hl => ?_)
        refine lv_iinc (v := nI (k + 1)) (lv' := [(2, .int (nI (k + 1))), (1, .int (nI (1 + ct (strk (φ 0)) (k + 1)))), (0, .ref (a 0))]) S.1 S.2.1 dX3_need_47 hl (k := 2) rfl (nI_add _ _) (by decide) rfl (fun ls hl => ?_)
        refine lv_goto (tgt := 4) S.1 S.2.1 dX3_need_50 (by decide) ?_
        exact ih4 (k + 1) _ _ _ ⟨hW, lv_sub hl [2, 1, 0] rfl, (by omega)⟩ (by show 12 - (k + 1) < 12 - k; omega)
end
