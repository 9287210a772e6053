section
-- ===== PART A: goes FIRST, ahead of the names: the tables' words, and 'selects' of the private methods out of them =====
/-- a private method of a class that the tables say can be made, by its rows of tables_1 -/
def lw_okq (q : MethodName × Nat) : Prop := (q.1.cls ≠ "java/lang/invoke/MethodHandle" ∧ q.1.cls ≠ "java/lang/invoke/VarHandle") ∧ Cond.instantiable q.1.cls q.2 ∈ tables_1 ∧ Cond.privateMethod q.1 ∈ tables_1 ∧ Cond.instanceMethod q.1 ∈ tables_1
theorem lw_p0 : lw_okq (⟨"WheelCount$Teller", "tell", "(LWheelCount$Row;)Z"⟩, 9) := ⟨⟨by decide +kernel, by decide +kernel⟩, List.mem_of_getElem? (i := 77) (by decide +kernel), List.mem_of_getElem? (i := 212) (by decide +kernel), List.mem_of_getElem? (i := 213) (by decide +kernel)⟩
theorem lw_p1 : lw_okq (⟨"WheelCount$Teller", "nextToken", "()Z"⟩, 9) := ⟨⟨by decide +kernel, by decide +kernel⟩, List.mem_of_getElem? (i := 77) (by decide +kernel), List.mem_of_getElem? (i := 216) (by decide +kernel), List.mem_of_getElem? (i := 217) (by decide +kernel)⟩
theorem lw_p2 : lw_okq (⟨"WheelCount$Teller", "endOfRun", "(II)I"⟩, 9) := ⟨⟨by decide +kernel, by decide +kernel⟩, List.mem_of_getElem? (i := 77) (by decide +kernel), List.mem_of_getElem? (i := 221) (by decide +kernel), List.mem_of_getElem? (i := 222) (by decide +kernel)⟩
theorem lw_p3 : lw_okq (⟨"WheelCount$Teller", "fail", "(I)Z"⟩, 9) := ⟨⟨by decide +kernel, by decide +kernel⟩, List.mem_of_getElem? (i := 77) (by decide +kernel), List.mem_of_getElem? (i := 225) (by decide +kernel), List.mem_of_getElem? (i := 226) (by decide +kernel)⟩
theorem lw_p4 : lw_okq (⟨"WheelCount$Teller", "valueOfFigures", "()I"⟩, 9) := ⟨⟨by decide +kernel, by decide +kernel⟩, List.mem_of_getElem? (i := 77) (by decide +kernel), List.mem_of_getElem? (i := 229) (by decide +kernel), List.mem_of_getElem? (i := 230) (by decide +kernel)⟩
theorem lw_p5 : lw_okq (⟨"WheelCount$Teller", "tellLine", "(LWheelCount$Row;)Z"⟩, 9) := ⟨⟨by decide +kernel, by decide +kernel⟩, List.mem_of_getElem? (i := 77) (by decide +kernel), List.mem_of_getElem? (i := 233) (by decide +kernel), List.mem_of_getElem? (i := 234) (by decide +kernel)⟩
theorem lw_p6 : lw_okq (⟨"WheelCount$Teller", "isName", "(Ljava/lang/String;)Z"⟩, 9) := ⟨⟨by decide +kernel, by decide +kernel⟩, List.mem_of_getElem? (i := 77) (by decide +kernel), List.mem_of_getElem? (i := 238) (by decide +kernel), List.mem_of_getElem? (i := 239) (by decide +kernel)⟩
theorem lw_p7 : lw_okq (⟨"WheelCount$Teller", "tellCount", "(LWheelCount$Row;)Z"⟩, 9) := ⟨⟨by decide +kernel, by decide +kernel⟩, List.mem_of_getElem? (i := 77) (by decide +kernel), List.mem_of_getElem? (i := 290) (by decide +kernel), List.mem_of_getElem? (i := 291) (by decide +kernel)⟩
theorem lw_p8 : lw_okq (⟨"WheelCount$Teller", "nextNumber", "(II)Z"⟩, 9) := ⟨⟨by decide +kernel, by decide +kernel⟩, List.mem_of_getElem? (i := 77) (by decide +kernel), List.mem_of_getElem? (i := 294) (by decide +kernel), List.mem_of_getElem? (i := 295) (by decide +kernel)⟩
theorem lw_p9 : lw_okq (⟨"WheelCount$Teller", "lineEnds", "()Z"⟩, 9) := ⟨⟨by decide +kernel, by decide +kernel⟩, List.mem_of_getElem? (i := 77) (by decide +kernel), List.mem_of_getElem? (i := 298) (by decide +kernel), List.mem_of_getElem? (i := 299) (by decide +kernel)⟩
theorem lw_p10 : lw_okq (⟨"WheelCount$Teller", "kindNamed", "()I"⟩, 9) := ⟨⟨by decide +kernel, by decide +kernel⟩, List.mem_of_getElem? (i := 77) (by decide +kernel), List.mem_of_getElem? (i := 302) (by decide +kernel), List.mem_of_getElem? (i := 303) (by decide +kernel)⟩
theorem lw_p11 : lw_okq (⟨"WheelCount$Teller", "tellWheel", "(LWheelCount$Row;I)Z"⟩, 9) := ⟨⟨by decide +kernel, by decide +kernel⟩, List.mem_of_getElem? (i := 77) (by decide +kernel), List.mem_of_getElem? (i := 310) (by decide +kernel), List.mem_of_getElem? (i := 311) (by decide +kernel)⟩
theorem lw_p12 : lw_okq (⟨"WheelCount$Row", "append", "(IIII)V"⟩, 7) := ⟨⟨by decide +kernel, by decide +kernel⟩, List.mem_of_getElem? (i := 22) (by decide +kernel), List.mem_of_getElem? (i := 314) (by decide +kernel), List.mem_of_getElem? (i := 315) (by decide +kernel)⟩
theorem lw_p13 : lw_okq (⟨"WheelCount$Row", "copyOf", "(LWheelCount$Row;)V"⟩, 7) := ⟨⟨by decide +kernel, by decide +kernel⟩, List.mem_of_getElem? (i := 22) (by decide +kernel), List.mem_of_getElem? (i := 318) (by decide +kernel), List.mem_of_getElem? (i := 319) (by decide +kernel)⟩
theorem lw_p14 : lw_okq (⟨"WheelCount$Row", "reading", "()I"⟩, 7) := ⟨⟨by decide +kernel, by decide +kernel⟩, List.mem_of_getElem? (i := 22) (by decide +kernel), List.mem_of_getElem? (i := 330) (by decide +kernel), List.mem_of_getElem? (i := 331) (by decide +kernel)⟩
theorem lw_p15 : lw_okq (⟨"WheelCount$Row", "product", "()I"⟩, 7) := ⟨⟨by decide +kernel, by decide +kernel⟩, List.mem_of_getElem? (i := 22) (by decide +kernel), List.mem_of_getElem? (i := 334) (by decide +kernel), List.mem_of_getElem? (i := 335) (by decide +kernel)⟩
def lw_privs_1 : List (MethodName × Nat) := [(⟨"WheelCount$Teller", "tell", "(LWheelCount$Row;)Z"⟩, 9), (⟨"WheelCount$Teller", "nextToken", "()Z"⟩, 9), (⟨"WheelCount$Teller", "endOfRun", "(II)I"⟩, 9), (⟨"WheelCount$Teller", "fail", "(I)Z"⟩, 9), (⟨"WheelCount$Teller", "valueOfFigures", "()I"⟩, 9), (⟨"WheelCount$Teller", "tellLine", "(LWheelCount$Row;)Z"⟩, 9), (⟨"WheelCount$Teller", "isName", "(Ljava/lang/String;)Z"⟩, 9), (⟨"WheelCount$Teller", "tellCount", "(LWheelCount$Row;)Z"⟩, 9), (⟨"WheelCount$Teller", "nextNumber", "(II)Z"⟩, 9), (⟨"WheelCount$Teller", "lineEnds", "()Z"⟩, 9), (⟨"WheelCount$Teller", "kindNamed", "()I"⟩, 9), (⟨"WheelCount$Teller", "tellWheel", "(LWheelCount$Row;I)Z"⟩, 9), (⟨"WheelCount$Row", "append", "(IIII)V"⟩, 7), (⟨"WheelCount$Row", "copyOf", "(LWheelCount$Row;)V"⟩, 7), (⟨"WheelCount$Row", "reading", "()I"⟩, 7), (⟨"WheelCount$Row", "product", "()I"⟩, 7)]
theorem lw_r1 : ∀ q ∈ lw_privs_1, lw_okq q := List.forall_mem_cons.mpr ⟨lw_p0, List.forall_mem_cons.mpr ⟨lw_p1, List.forall_mem_cons.mpr ⟨lw_p2, List.forall_mem_cons.mpr ⟨lw_p3, List.forall_mem_cons.mpr ⟨lw_p4, List.forall_mem_cons.mpr ⟨lw_p5, List.forall_mem_cons.mpr ⟨lw_p6, List.forall_mem_cons.mpr ⟨lw_p7, List.forall_mem_cons.mpr ⟨lw_p8, List.forall_mem_cons.mpr ⟨lw_p9, List.forall_mem_cons.mpr ⟨lw_p10, List.forall_mem_cons.mpr ⟨lw_p11, List.forall_mem_cons.mpr ⟨lw_p12, List.forall_mem_cons.mpr ⟨lw_p13, List.forall_mem_cons.mpr ⟨lw_p14, List.forall_mem_cons.mpr ⟨lw_p15, fun _ h => absurd h List.not_mem_nil⟩⟩⟩⟩⟩⟩⟩⟩⟩⟩⟩⟩⟩⟩⟩⟩
theorem lw_p16 : lw_okq (⟨"WheelCount$Row", "error", "()I"⟩, 7) := ⟨⟨by decide +kernel, by decide +kernel⟩, List.mem_of_getElem? (i := 22) (by decide +kernel), List.mem_of_getElem? (i := 338) (by decide +kernel), List.mem_of_getElem? (i := 339) (by decide +kernel)⟩
theorem lw_p17 : lw_okq (⟨"WheelCount$Row", "carrying", "()I"⟩, 7) := ⟨⟨by decide +kernel, by decide +kernel⟩, List.mem_of_getElem? (i := 22) (by decide +kernel), List.mem_of_getElem? (i := 347) (by decide +kernel), List.mem_of_getElem? (i := 348) (by decide +kernel)⟩
theorem lw_p18 : lw_okq (⟨"WheelCount$Row", "wouldCarry", "(I)Z"⟩, 7) := ⟨⟨by decide +kernel, by decide +kernel⟩, List.mem_of_getElem? (i := 22) (by decide +kernel), List.mem_of_getElem? (i := 351) (by decide +kernel), List.mem_of_getElem? (i := 352) (by decide +kernel)⟩
theorem lw_p19 : lw_okq (⟨"WheelCount$Row", "has", "(I)Z"⟩, 7) := ⟨⟨by decide +kernel, by decide +kernel⟩, List.mem_of_getElem? (i := 22) (by decide +kernel), List.mem_of_getElem? (i := 359) (by decide +kernel), List.mem_of_getElem? (i := 360) (by decide +kernel)⟩
theorem lw_p20 : lw_okq (⟨"WheelCount$Row", "nextDigit", "(I)I"⟩, 7) := ⟨⟨by decide +kernel, by decide +kernel⟩, List.mem_of_getElem? (i := 22) (by decide +kernel), List.mem_of_getElem? (i := 364) (by decide +kernel), List.mem_of_getElem? (i := 365) (by decide +kernel)⟩
theorem lw_p21 : lw_okq (⟨"WheelCount$Row", "part", "(II)I"⟩, 7) := ⟨⟨by decide +kernel, by decide +kernel⟩, List.mem_of_getElem? (i := 22) (by decide +kernel), List.mem_of_getElem? (i := 368) (by decide +kernel), List.mem_of_getElem? (i := 369) (by decide +kernel)⟩
theorem lw_p22 : lw_okq (⟨"WheelCount$Row", "change", "(III)I"⟩, 7) := ⟨⟨by decide +kernel, by decide +kernel⟩, List.mem_of_getElem? (i := 22) (by decide +kernel), List.mem_of_getElem? (i := 376) (by decide +kernel), List.mem_of_getElem? (i := 377) (by decide +kernel)⟩
theorem lw_p23 : lw_okq (⟨"WheelCount$Row", "mayBe", "(III)Z"⟩, 7) := ⟨⟨by decide +kernel, by decide +kernel⟩, List.mem_of_getElem? (i := 22) (by decide +kernel), List.mem_of_getElem? (i := 384) (by decide +kernel), List.mem_of_getElem? (i := 385) (by decide +kernel)⟩
theorem lw_p24 : lw_okq (⟨"WheelCount$Row", "set", "(III)V"⟩, 7) := ⟨⟨by decide +kernel, by decide +kernel⟩, List.mem_of_getElem? (i := 22) (by decide +kernel), List.mem_of_getElem? (i := 389) (by decide +kernel), List.mem_of_getElem? (i := 390) (by decide +kernel)⟩
theorem lw_p25 : lw_okq (⟨"WheelCount$Row", "turnFrom", "(I)V"⟩, 7) := ⟨⟨by decide +kernel, by decide +kernel⟩, List.mem_of_getElem? (i := 22) (by decide +kernel), List.mem_of_getElem? (i := 406) (by decide +kernel), List.mem_of_getElem? (i := 407) (by decide +kernel)⟩
theorem lw_p26 : lw_okq (⟨"WheelCount$Row", "push", "(I)V"⟩, 7) := ⟨⟨by decide +kernel, by decide +kernel⟩, List.mem_of_getElem? (i := 22) (by decide +kernel), List.mem_of_getElem? (i := 420) (by decide +kernel), List.mem_of_getElem? (i := 421) (by decide +kernel)⟩
theorem lw_p27 : lw_okq (⟨"WheelCount$Row", "pushOnce", "()V"⟩, 7) := ⟨⟨by decide +kernel, by decide +kernel⟩, List.mem_of_getElem? (i := 22) (by decide +kernel), List.mem_of_getElem? (i := 424) (by decide +kernel), List.mem_of_getElem? (i := 425) (by decide +kernel)⟩
theorem lw_p28 : lw_okq (⟨"WheelCount$Row", "isAllZero", "()Z"⟩, 7) := ⟨⟨by decide +kernel, by decide +kernel⟩, List.mem_of_getElem? (i := 22) (by decide +kernel), List.mem_of_getElem? (i := 437) (by decide +kernel), List.mem_of_getElem? (i := 438) (by decide +kernel)⟩
theorem lw_p29 : lw_okq (⟨"WheelCount$Row", "showsAs", "(LWheelCount$Row;)Z"⟩, 7) := ⟨⟨by decide +kernel, by decide +kernel⟩, List.mem_of_getElem? (i := 22) (by decide +kernel), List.mem_of_getElem? (i := 458) (by decide +kernel), List.mem_of_getElem? (i := 459) (by decide +kernel)⟩
theorem lw_p30 : lw_okq (⟨"WheelCount", "trialErrorBehind", "(I)I"⟩, 12) := ⟨⟨by decide +kernel, by decide +kernel⟩, List.mem_of_getElem? (i := 14) (by decide +kernel), List.mem_of_getElem? (i := 466) (by decide +kernel), List.mem_of_getElem? (i := 467) (by decide +kernel)⟩
theorem lw_p31 : lw_okq (⟨"WheelCount", "tryPart", "(III)V"⟩, 12) := ⟨⟨by decide +kernel, by decide +kernel⟩, List.mem_of_getElem? (i := 14) (by decide +kernel), List.mem_of_getElem? (i := 470) (by decide +kernel), List.mem_of_getElem? (i := 471) (by decide +kernel)⟩
def lw_privs_2 : List (MethodName × Nat) := [(⟨"WheelCount$Row", "error", "()I"⟩, 7), (⟨"WheelCount$Row", "carrying", "()I"⟩, 7), (⟨"WheelCount$Row", "wouldCarry", "(I)Z"⟩, 7), (⟨"WheelCount$Row", "has", "(I)Z"⟩, 7), (⟨"WheelCount$Row", "nextDigit", "(I)I"⟩, 7), (⟨"WheelCount$Row", "part", "(II)I"⟩, 7), (⟨"WheelCount$Row", "change", "(III)I"⟩, 7), (⟨"WheelCount$Row", "mayBe", "(III)Z"⟩, 7), (⟨"WheelCount$Row", "set", "(III)V"⟩, 7), (⟨"WheelCount$Row", "turnFrom", "(I)V"⟩, 7), (⟨"WheelCount$Row", "push", "(I)V"⟩, 7), (⟨"WheelCount$Row", "pushOnce", "()V"⟩, 7), (⟨"WheelCount$Row", "isAllZero", "()Z"⟩, 7), (⟨"WheelCount$Row", "showsAs", "(LWheelCount$Row;)Z"⟩, 7), (⟨"WheelCount", "trialErrorBehind", "(I)I"⟩, 12), (⟨"WheelCount", "tryPart", "(III)V"⟩, 12)]
theorem lw_r2 : ∀ q ∈ lw_privs_2, lw_okq q := List.forall_mem_cons.mpr ⟨lw_p16, List.forall_mem_cons.mpr ⟨lw_p17, List.forall_mem_cons.mpr ⟨lw_p18, List.forall_mem_cons.mpr ⟨lw_p19, List.forall_mem_cons.mpr ⟨lw_p20, List.forall_mem_cons.mpr ⟨lw_p21, List.forall_mem_cons.mpr ⟨lw_p22, List.forall_mem_cons.mpr ⟨lw_p23, List.forall_mem_cons.mpr ⟨lw_p24, List.forall_mem_cons.mpr ⟨lw_p25, List.forall_mem_cons.mpr ⟨lw_p26, List.forall_mem_cons.mpr ⟨lw_p27, List.forall_mem_cons.mpr ⟨lw_p28, List.forall_mem_cons.mpr ⟨lw_p29, List.forall_mem_cons.mpr ⟨lw_p30, List.forall_mem_cons.mpr ⟨lw_p31, fun _ h => absurd h List.not_mem_nil⟩⟩⟩⟩⟩⟩⟩⟩⟩⟩⟩⟩⟩⟩⟩⟩
theorem lw_p32 : lw_okq (⟨"WheelCount$Row", "exchange", "(II)V"⟩, 7) := ⟨⟨by decide +kernel, by decide +kernel⟩, List.mem_of_getElem? (i := 22) (by decide +kernel), List.mem_of_getElem? (i := 479) (by decide +kernel), List.mem_of_getElem? (i := 480) (by decide +kernel)⟩
theorem lw_p33 : lw_okq (⟨"WheelCount", "bestPart", "(IIII)I"⟩, 12) := ⟨⟨by decide +kernel, by decide +kernel⟩, List.mem_of_getElem? (i := 14) (by decide +kernel), List.mem_of_getElem? (i := 490) (by decide +kernel), List.mem_of_getElem? (i := 491) (by decide +kernel)⟩
theorem lw_p34 : lw_okq (⟨"WheelCount", "countWays", "(II)J"⟩, 12) := ⟨⟨by decide +kernel, by decide +kernel⟩, List.mem_of_getElem? (i := 14) (by decide +kernel), List.mem_of_getElem? (i := 508) (by decide +kernel), List.mem_of_getElem? (i := 509) (by decide +kernel)⟩
theorem lw_p35 : lw_okq (⟨"WheelCount", "fitsWith", "(III)Z"⟩, 12) := ⟨⟨by decide +kernel, by decide +kernel⟩, List.mem_of_getElem? (i := 14) (by decide +kernel), List.mem_of_getElem? (i := 532) (by decide +kernel), List.mem_of_getElem? (i := 533) (by decide +kernel)⟩
theorem lw_p36 : lw_okq (⟨"WheelCount$Seen", "fits", "(LWheelCount$Row;)Z"⟩, 3) := ⟨⟨by decide +kernel, by decide +kernel⟩, List.mem_of_getElem? (i := 114) (by decide +kernel), List.mem_of_getElem? (i := 536) (by decide +kernel), List.mem_of_getElem? (i := 537) (by decide +kernel)⟩
theorem lw_p37 : lw_okq (⟨"WheelCount$Seen", "isAgainst", "(ILWheelCount$Row;)Z"⟩, 3) := ⟨⟨by decide +kernel, by decide +kernel⟩, List.mem_of_getElem? (i := 114) (by decide +kernel), List.mem_of_getElem? (i := 541) (by decide +kernel), List.mem_of_getElem? (i := 542) (by decide +kernel)⟩
theorem lw_p38 : lw_okq (⟨"WheelCount", "listTeethLeft", "(I)I"⟩, 12) := ⟨⟨by decide +kernel, by decide +kernel⟩, List.mem_of_getElem? (i := 14) (by decide +kernel), List.mem_of_getElem? (i := 556) (by decide +kernel), List.mem_of_getElem? (i := 557) (by decide +kernel)⟩
theorem lw_p39 : lw_okq (⟨"WheelCount", "fillReadings", "(II[I)V"⟩, 12) := ⟨⟨by decide +kernel, by decide +kernel⟩, List.mem_of_getElem? (i := 14) (by decide +kernel), List.mem_of_getElem? (i := 560) (by decide +kernel), List.mem_of_getElem? (i := 561) (by decide +kernel)⟩
theorem lw_p40 : lw_okq (⟨"WheelCount", "mostAlike", "(II)I"⟩, 12) := ⟨⟨by decide +kernel, by decide +kernel⟩, List.mem_of_getElem? (i := 14) (by decide +kernel), List.mem_of_getElem? (i := 564) (by decide +kernel), List.mem_of_getElem? (i := 565) (by decide +kernel)⟩
theorem lw_p41 : lw_okq (⟨"WheelCount$Sheet", "renew", "(II)V"⟩, 4) := ⟨⟨by decide +kernel, by decide +kernel⟩, List.mem_of_getElem? (i := 134) (by decide +kernel), List.mem_of_getElem? (i := 585) (by decide +kernel), List.mem_of_getElem? (i := 586) (by decide +kernel)⟩
theorem lw_p42 : lw_okq (⟨"WheelCount$Sheet", "faultAt", "(II)I"⟩, 4) := ⟨⟨by decide +kernel, by decide +kernel⟩, List.mem_of_getElem? (i := 134) (by decide +kernel), List.mem_of_getElem? (i := 593) (by decide +kernel), List.mem_of_getElem? (i := 594) (by decide +kernel)⟩
theorem lw_p43 : lw_okq (⟨"WheelCount$Sheet", "put", "(II)V"⟩, 4) := ⟨⟨by decide +kernel, by decide +kernel⟩, List.mem_of_getElem? (i := 134) (by decide +kernel), List.mem_of_getElem? (i := 598) (by decide +kernel), List.mem_of_getElem? (i := 599) (by decide +kernel)⟩
theorem lw_p44 : lw_okq (⟨"WheelCount$Sheet", "faultAtPair", "(II)I"⟩, 4) := ⟨⟨by decide +kernel, by decide +kernel⟩, List.mem_of_getElem? (i := 134) (by decide +kernel), List.mem_of_getElem? (i := 606) (by decide +kernel), List.mem_of_getElem? (i := 607) (by decide +kernel)⟩
theorem lw_p45 : lw_okq (⟨"WheelCount$Row", "takeDigitAndPush", "(II)Z"⟩, 7) := ⟨⟨by decide +kernel, by decide +kernel⟩, List.mem_of_getElem? (i := 22) (by decide +kernel), List.mem_of_getElem? (i := 611) (by decide +kernel), List.mem_of_getElem? (i := 612) (by decide +kernel)⟩
theorem lw_p46 : lw_okq (⟨"WheelCount$Row", "teethInAll", "()I"⟩, 7) := ⟨⟨by decide +kernel, by decide +kernel⟩, List.mem_of_getElem? (i := 22) (by decide +kernel), List.mem_of_getElem? (i := 625) (by decide +kernel), List.mem_of_getElem? (i := 626) (by decide +kernel)⟩
theorem lw_p47 : lw_okq (⟨"WheelCount$Row", "brokenInAll", "()I"⟩, 7) := ⟨⟨by decide +kernel, by decide +kernel⟩, List.mem_of_getElem? (i := 22) (by decide +kernel), List.mem_of_getElem? (i := 629) (by decide +kernel), List.mem_of_getElem? (i := 630) (by decide +kernel)⟩
def lw_privs_3 : List (MethodName × Nat) := [(⟨"WheelCount$Row", "exchange", "(II)V"⟩, 7), (⟨"WheelCount", "bestPart", "(IIII)I"⟩, 12), (⟨"WheelCount", "countWays", "(II)J"⟩, 12), (⟨"WheelCount", "fitsWith", "(III)Z"⟩, 12), (⟨"WheelCount$Seen", "fits", "(LWheelCount$Row;)Z"⟩, 3), (⟨"WheelCount$Seen", "isAgainst", "(ILWheelCount$Row;)Z"⟩, 3), (⟨"WheelCount", "listTeethLeft", "(I)I"⟩, 12), (⟨"WheelCount", "fillReadings", "(II[I)V"⟩, 12), (⟨"WheelCount", "mostAlike", "(II)I"⟩, 12), (⟨"WheelCount$Sheet", "renew", "(II)V"⟩, 4), (⟨"WheelCount$Sheet", "faultAt", "(II)I"⟩, 4), (⟨"WheelCount$Sheet", "put", "(II)V"⟩, 4), (⟨"WheelCount$Sheet", "faultAtPair", "(II)I"⟩, 4), (⟨"WheelCount$Row", "takeDigitAndPush", "(II)Z"⟩, 7), (⟨"WheelCount$Row", "teethInAll", "()I"⟩, 7), (⟨"WheelCount$Row", "brokenInAll", "()I"⟩, 7)]
theorem lw_r3 : ∀ q ∈ lw_privs_3, lw_okq q := List.forall_mem_cons.mpr ⟨lw_p32, List.forall_mem_cons.mpr ⟨lw_p33, List.forall_mem_cons.mpr ⟨lw_p34, List.forall_mem_cons.mpr ⟨lw_p35, List.forall_mem_cons.mpr ⟨lw_p36, List.forall_mem_cons.mpr ⟨lw_p37, List.forall_mem_cons.mpr ⟨lw_p38, List.forall_mem_cons.mpr ⟨lw_p39, List.forall_mem_cons.mpr ⟨lw_p40, List.forall_mem_cons.mpr ⟨lw_p41, List.forall_mem_cons.mpr ⟨lw_p42, List.forall_mem_cons.mpr ⟨lw_p43, List.forall_mem_cons.mpr ⟨lw_p44, List.forall_mem_cons.mpr ⟨lw_p45, List.forall_mem_cons.mpr ⟨lw_p46, List.forall_mem_cons.mpr ⟨lw_p47, fun _ h => absurd h List.not_mem_nil⟩⟩⟩⟩⟩⟩⟩⟩⟩⟩⟩⟩⟩⟩⟩⟩
theorem lw_p48 : lw_okq (⟨"WheelCountModel", "step", "()V"⟩, 25) := ⟨⟨by decide +kernel, by decide +kernel⟩, List.mem_of_getElem? (i := 633) (by decide +kernel), List.mem_of_getElem? (i := 731) (by decide +kernel), List.mem_of_getElem? (i := 732) (by decide +kernel)⟩
theorem lw_p49 : lw_okq (⟨"WheelCountModel", "byteAt", "(I)I"⟩, 25) := ⟨⟨by decide +kernel, by decide +kernel⟩, List.mem_of_getElem? (i := 633) (by decide +kernel), List.mem_of_getElem? (i := 735) (by decide +kernel), List.mem_of_getElem? (i := 736) (by decide +kernel)⟩
theorem lw_p50 : lw_okq (⟨"WheelCountModel", "fails", "(I)V"⟩, 25) := ⟨⟨by decide +kernel, by decide +kernel⟩, List.mem_of_getElem? (i := 633) (by decide +kernel), List.mem_of_getElem? (i := 743) (by decide +kernel), List.mem_of_getElem? (i := 744) (by decide +kernel)⟩
theorem lw_p51 : lw_okq (⟨"WheelCountModel", "readLine", "()V"⟩, 25) := ⟨⟨by decide +kernel, by decide +kernel⟩, List.mem_of_getElem? (i := 633) (by decide +kernel), List.mem_of_getElem? (i := 747) (by decide +kernel), List.mem_of_getElem? (i := 748) (by decide +kernel)⟩
theorem lw_p52 : lw_okq (⟨"WheelCountModel", "nameHere", "()I"⟩, 25) := ⟨⟨by decide +kernel, by decide +kernel⟩, List.mem_of_getElem? (i := 633) (by decide +kernel), List.mem_of_getElem? (i := 751) (by decide +kernel), List.mem_of_getElem? (i := 752) (by decide +kernel)⟩
theorem lw_p53 : lw_okq (⟨"WheelCountModel", "readMore", "(I)V"⟩, 25) := ⟨⟨by decide +kernel, by decide +kernel⟩, List.mem_of_getElem? (i := 633) (by decide +kernel), List.mem_of_getElem? (i := 756) (by decide +kernel), List.mem_of_getElem? (i := 757) (by decide +kernel)⟩
theorem lw_p54 : lw_okq (⟨"WheelCountModel", "number", "(II)I"⟩, 25) := ⟨⟨by decide +kernel, by decide +kernel⟩, List.mem_of_getElem? (i := 633) (by decide +kernel), List.mem_of_getElem? (i := 760) (by decide +kernel), List.mem_of_getElem? (i := 761) (by decide +kernel)⟩
theorem lw_p55 : lw_okq (⟨"WheelCountModel", "carriesOn", "(II)Z"⟩, 25) := ⟨⟨by decide +kernel, by decide +kernel⟩, List.mem_of_getElem? (i := 633) (by decide +kernel), List.mem_of_getElem? (i := 772) (by decide +kernel), List.mem_of_getElem? (i := 773) (by decide +kernel)⟩
theorem lw_p56 : lw_okq (⟨"WheelCountModel", "readsOn", "(I)I"⟩, 25) := ⟨⟨by decide +kernel, by decide +kernel⟩, List.mem_of_getElem? (i := 633) (by decide +kernel), List.mem_of_getElem? (i := 776) (by decide +kernel), List.mem_of_getElem? (i := 777) (by decide +kernel)⟩
theorem lw_p57 : lw_okq (⟨"WheelCountModel", "allOn", "(I)I"⟩, 25) := ⟨⟨by decide +kernel, by decide +kernel⟩, List.mem_of_getElem? (i := 633) (by decide +kernel), List.mem_of_getElem? (i := 780) (by decide +kernel), List.mem_of_getElem? (i := 781) (by decide +kernel)⟩
theorem lw_p58 : lw_okq (⟨"WheelCountModel", "errorOn", "(I)I"⟩, 25) := ⟨⟨by decide +kernel, by decide +kernel⟩, List.mem_of_getElem? (i := 633) (by decide +kernel), List.mem_of_getElem? (i := 784) (by decide +kernel), List.mem_of_getElem? (i := 785) (by decide +kernel)⟩
theorem lw_p59 : lw_okq (⟨"WheelCountModel", "isWheel", "(I)Z"⟩, 25) := ⟨⟨by decide +kernel, by decide +kernel⟩, List.mem_of_getElem? (i := 633) (by decide +kernel), List.mem_of_getElem? (i := 792) (by decide +kernel), List.mem_of_getElem? (i := 793) (by decide +kernel)⟩
theorem lw_p60 : lw_okq (⟨"WheelCountModel", "turnsOn", "(II)I"⟩, 25) := ⟨⟨by decide +kernel, by decide +kernel⟩, List.mem_of_getElem? (i := 633) (by decide +kernel), List.mem_of_getElem? (i := 796) (by decide +kernel), List.mem_of_getElem? (i := 797) (by decide +kernel)⟩
theorem lw_p61 : lw_okq (⟨"WheelCountModel", "alters", "(III)I"⟩, 25) := ⟨⟨by decide +kernel, by decide +kernel⟩, List.mem_of_getElem? (i := 633) (by decide +kernel), List.mem_of_getElem? (i := 804) (by decide +kernel), List.mem_of_getElem? (i := 805) (by decide +kernel)⟩
theorem lw_p62 : lw_okq (⟨"WheelCountModel", "turnedOn", "(II)V"⟩, 25) := ⟨⟨by decide +kernel, by decide +kernel⟩, List.mem_of_getElem? (i := 633) (by decide +kernel), List.mem_of_getElem? (i := 827) (by decide +kernel), List.mem_of_getElem? (i := 828) (by decide +kernel)⟩
theorem lw_p63 : lw_okq (⟨"WheelCountModel", "pushOn", "(I)V"⟩, 25) := ⟨⟨by decide +kernel, by decide +kernel⟩, List.mem_of_getElem? (i := 633) (by decide +kernel), List.mem_of_getElem? (i := 841) (by decide +kernel), List.mem_of_getElem? (i := 842) (by decide +kernel)⟩
def lw_privs_4 : List (MethodName × Nat) := [(⟨"WheelCountModel", "step", "()V"⟩, 25), (⟨"WheelCountModel", "byteAt", "(I)I"⟩, 25), (⟨"WheelCountModel", "fails", "(I)V"⟩, 25), (⟨"WheelCountModel", "readLine", "()V"⟩, 25), (⟨"WheelCountModel", "nameHere", "()I"⟩, 25), (⟨"WheelCountModel", "readMore", "(I)V"⟩, 25), (⟨"WheelCountModel", "number", "(II)I"⟩, 25), (⟨"WheelCountModel", "carriesOn", "(II)Z"⟩, 25), (⟨"WheelCountModel", "readsOn", "(I)I"⟩, 25), (⟨"WheelCountModel", "allOn", "(I)I"⟩, 25), (⟨"WheelCountModel", "errorOn", "(I)I"⟩, 25), (⟨"WheelCountModel", "isWheel", "(I)Z"⟩, 25), (⟨"WheelCountModel", "turnsOn", "(II)I"⟩, 25), (⟨"WheelCountModel", "alters", "(III)I"⟩, 25), (⟨"WheelCountModel", "turnedOn", "(II)V"⟩, 25), (⟨"WheelCountModel", "pushOn", "(I)V"⟩, 25)]
theorem lw_r4 : ∀ q ∈ lw_privs_4, lw_okq q := List.forall_mem_cons.mpr ⟨lw_p48, List.forall_mem_cons.mpr ⟨lw_p49, List.forall_mem_cons.mpr ⟨lw_p50, List.forall_mem_cons.mpr ⟨lw_p51, List.forall_mem_cons.mpr ⟨lw_p52, List.forall_mem_cons.mpr ⟨lw_p53, List.forall_mem_cons.mpr ⟨lw_p54, List.forall_mem_cons.mpr ⟨lw_p55, List.forall_mem_cons.mpr ⟨lw_p56, List.forall_mem_cons.mpr ⟨lw_p57, List.forall_mem_cons.mpr ⟨lw_p58, List.forall_mem_cons.mpr ⟨lw_p59, List.forall_mem_cons.mpr ⟨lw_p60, List.forall_mem_cons.mpr ⟨lw_p61, List.forall_mem_cons.mpr ⟨lw_p62, List.forall_mem_cons.mpr ⟨lw_p63, fun _ h => absurd h List.not_mem_nil⟩⟩⟩⟩⟩⟩⟩⟩⟩⟩⟩⟩⟩⟩⟩⟩
theorem lw_p64 : lw_okq (⟨"WheelCountModel", "pushesGo", "(II)I"⟩, 25) := ⟨⟨by decide +kernel, by decide +kernel⟩, List.mem_of_getElem? (i := 633) (by decide +kernel), List.mem_of_getElem? (i := 849) (by decide +kernel), List.mem_of_getElem? (i := 850) (by decide +kernel)⟩
theorem lw_p65 : lw_okq (⟨"WheelCountModel", "copies", "(II)V"⟩, 25) := ⟨⟨by decide +kernel, by decide +kernel⟩, List.mem_of_getElem? (i := 633) (by decide +kernel), List.mem_of_getElem? (i := 853) (by decide +kernel), List.mem_of_getElem? (i := 854) (by decide +kernel)⟩
theorem lw_p66 : lw_okq (⟨"WheelCountModel", "firstTime", "(III)I"⟩, 25) := ⟨⟨by decide +kernel, by decide +kernel⟩, List.mem_of_getElem? (i := 633) (by decide +kernel), List.mem_of_getElem? (i := 869) (by decide +kernel), List.mem_of_getElem? (i := 870) (by decide +kernel)⟩
theorem lw_p67 : lw_okq (⟨"WheelCountModel", "errorBehind", "(II)I"⟩, 25) := ⟨⟨by decide +kernel, by decide +kernel⟩, List.mem_of_getElem? (i := 633) (by decide +kernel), List.mem_of_getElem? (i := 886) (by decide +kernel), List.mem_of_getElem? (i := 887) (by decide +kernel)⟩
theorem lw_p68 : lw_okq (⟨"WheelCountModel", "leastAt", "(IIIIZI)I"⟩, 25) := ⟨⟨by decide +kernel, by decide +kernel⟩, List.mem_of_getElem? (i := 633) (by decide +kernel), List.mem_of_getElem? (i := 898) (by decide +kernel), List.mem_of_getElem? (i := 899) (by decide +kernel)⟩
theorem lw_p69 : lw_okq (⟨"WheelCountModel", "byMisses", "(IIIII)J"⟩, 25) := ⟨⟨by decide +kernel, by decide +kernel⟩, List.mem_of_getElem? (i := 633) (by decide +kernel), List.mem_of_getElem? (i := 917) (by decide +kernel), List.mem_of_getElem? (i := 918) (by decide +kernel)⟩
theorem lw_p70 : lw_okq (⟨"WheelCountModel", "isAsSeen", "(I)Z"⟩, 25) := ⟨⟨by decide +kernel, by decide +kernel⟩, List.mem_of_getElem? (i := 633) (by decide +kernel), List.mem_of_getElem? (i := 941) (by decide +kernel), List.mem_of_getElem? (i := 942) (by decide +kernel)⟩
theorem lw_p71 : lw_okq (⟨"WheelCountModel", "brokenOf", "(I)I"⟩, 25) := ⟨⟨by decide +kernel, by decide +kernel⟩, List.mem_of_getElem? (i := 633) (by decide +kernel), List.mem_of_getElem? (i := 949) (by decide +kernel), List.mem_of_getElem? (i := 950) (by decide +kernel)⟩
theorem lw_p72 : lw_okq (⟨"WheelCountModel", "worstAt", "(II)I"⟩, 25) := ⟨⟨by decide +kernel, by decide +kernel⟩, List.mem_of_getElem? (i := 633) (by decide +kernel), List.mem_of_getElem? (i := 957) (by decide +kernel), List.mem_of_getElem? (i := 958) (by decide +kernel)⟩
def lw_privs_5 : List (MethodName × Nat) := [(⟨"WheelCountModel", "pushesGo", "(II)I"⟩, 25), (⟨"WheelCountModel", "copies", "(II)V"⟩, 25), (⟨"WheelCountModel", "firstTime", "(III)I"⟩, 25), (⟨"WheelCountModel", "errorBehind", "(II)I"⟩, 25), (⟨"WheelCountModel", "leastAt", "(IIIIZI)I"⟩, 25), (⟨"WheelCountModel", "byMisses", "(IIIII)J"⟩, 25), (⟨"WheelCountModel", "isAsSeen", "(I)Z"⟩, 25), (⟨"WheelCountModel", "brokenOf", "(I)I"⟩, 25), (⟨"WheelCountModel", "worstAt", "(II)I"⟩, 25)]
theorem lw_r5 : ∀ q ∈ lw_privs_5, lw_okq q := List.forall_mem_cons.mpr ⟨lw_p64, List.forall_mem_cons.mpr ⟨lw_p65, List.forall_mem_cons.mpr ⟨lw_p66, List.forall_mem_cons.mpr ⟨lw_p67, List.forall_mem_cons.mpr ⟨lw_p68, List.forall_mem_cons.mpr ⟨lw_p69, List.forall_mem_cons.mpr ⟨lw_p70, List.forall_mem_cons.mpr ⟨lw_p71, List.forall_mem_cons.mpr ⟨lw_p72, fun _ h => absurd h List.not_mem_nil⟩⟩⟩⟩⟩⟩⟩⟩⟩
def lw_privs : List (MethodName × Nat) := lw_privs_1 ++ (lw_privs_2 ++ (lw_privs_3 ++ (lw_privs_4 ++ (lw_privs_5))))
def lw_tbl : List Cond := k2_sels lw_privs ++ tables_1
theorem lw_privs_ok : ∀ q ∈ lw_privs, lw_okq q := by
  show ∀ q ∈ lw_privs_1 ++ (lw_privs_2 ++ (lw_privs_3 ++ (lw_privs_4 ++ (lw_privs_5)))), lw_okq q
  exact List.forall_mem_append.mpr ⟨lw_r1, List.forall_mem_append.mpr ⟨lw_r2, List.forall_mem_append.mpr ⟨lw_r3, List.forall_mem_append.mpr ⟨lw_r4, lw_r5⟩⟩⟩⟩
end
section
def RX0 : String := "WheelCount$Row"
def TX0 : u_T := fun k => match k with
  | 0 => ("WheelCount$Row", "size", "I", false)
  | 1 => ("WheelCount$Row", "pushed", "I", false)
  | 2 => ("WheelCount$Row", "carried", "I", false)
  | 3 => ("WheelCount$Row", "kind", "[I", true)
  | 4 => ("WheelCount$Row", "teeth", "[I", true)
  | 5 => ("WheelCount$Row", "digit", "[I", true)
  | _ => ("WheelCount$Row", "broken", "[I", true)
def tyX0 : Nat → FieldType := fun k => match k with
  | 0 => .int
  | 1 => .int
  | 2 => .int
  | 3 => .array .int
  | 4 => .array .int
  | 5 => .array .int
  | _ => .array .int
abbrev wsX00 : List Cond := u_ws RX0 TX0 7
theorem nmX0 : ∀ a, a < 7 → ∀ b, b < 7 → a ≠ b → (TX0 a).2.1 ≠ (TX0 b).2.1 := by decide +kernel
theorem tyX0_ok : ∀ k, k < 7 → parseFieldDescriptor (TX0 k).2.2.1 = some (tyX0 k) := by decide +kernel
abbrev cX0_init : ByteArray := prog_2_method_1_code
def yX0_init : MethodName := ⟨RX0, "<init>", "()V"⟩
abbrev cX0_has : ByteArray := prog_2_method_2_code
def yX0_has : MethodName := ⟨RX0, "has", "(I)Z"⟩
abbrev cX0_part : ByteArray := prog_2_method_3_code
def yX0_part : MethodName := ⟨RX0, "part", "(II)I"⟩
abbrev cX0_change : ByteArray := prog_2_method_4_code
def yX0_change : MethodName := ⟨RX0, "change", "(III)I"⟩
abbrev cX0_set : ByteArray := prog_2_method_5_code
def yX0_set : MethodName := ⟨RX0, "set", "(III)V"⟩
abbrev cX0_mayEverBe : ByteArray := prog_2_method_6_code
def yX0_mayEverBe : MethodName := ⟨RX0, "mayEverBe", "(II)Z"⟩
abbrev cX0_mayBe : ByteArray := prog_2_method_7_code
def yX0_mayBe : MethodName := ⟨RX0, "mayBe", "(III)Z"⟩
abbrev cX0_append : ByteArray := prog_2_method_8_code
def yX0_append : MethodName := ⟨RX0, "append", "(IIII)V"⟩
abbrev cX0_copyOf : ByteArray := prog_2_method_9_code
def yX0_copyOf : MethodName := ⟨RX0, "copyOf", "(LWheelCount$Row;)V"⟩
abbrev cX0_exchange : ByteArray := prog_2_method_10_code
def yX0_exchange : MethodName := ⟨RX0, "exchange", "(II)V"⟩
abbrev cX0_exchangeIn : ByteArray := prog_2_method_11_code
def yX0_exchangeIn : MethodName := ⟨RX0, "exchangeIn", "([III)V"⟩
abbrev cX0_nextDigit : ByteArray := prog_2_method_12_code
def yX0_nextDigit : MethodName := ⟨RX0, "nextDigit", "(I)I"⟩
abbrev cX0_wouldCarry : ByteArray := prog_2_method_13_code
def yX0_wouldCarry : MethodName := ⟨RX0, "wouldCarry", "(I)Z"⟩
abbrev cX0_turnFrom : ByteArray := prog_2_method_14_code
def yX0_turnFrom : MethodName := ⟨RX0, "turnFrom", "(I)V"⟩
abbrev cX0_pushOnce : ByteArray := prog_2_method_15_code
def yX0_pushOnce : MethodName := ⟨RX0, "pushOnce", "()V"⟩
abbrev cX0_push : ByteArray := prog_2_method_16_code
def yX0_push : MethodName := ⟨RX0, "push", "(I)V"⟩
abbrev cX0_takeDigitAndPush : ByteArray := prog_2_method_17_code
def yX0_takeDigitAndPush : MethodName := ⟨RX0, "takeDigitAndPush", "(II)Z"⟩
abbrev cX0_reading : ByteArray := prog_2_method_18_code
def yX0_reading : MethodName := ⟨RX0, "reading", "()I"⟩
abbrev cX0_product : ByteArray := prog_2_method_19_code
def yX0_product : MethodName := ⟨RX0, "product", "()I"⟩
abbrev cX0_error : ByteArray := prog_2_method_20_code
def yX0_error : MethodName := ⟨RX0, "error", "()I"⟩
abbrev cX0_carrying : ByteArray := prog_2_method_21_code
def yX0_carrying : MethodName := ⟨RX0, "carrying", "()I"⟩
abbrev cX0_isAllZero : ByteArray := prog_2_method_22_code
def yX0_isAllZero : MethodName := ⟨RX0, "isAllZero", "()Z"⟩
abbrev cX0_showsAs : ByteArray := prog_2_method_23_code
def yX0_showsAs : MethodName := ⟨RX0, "showsAs", "(LWheelCount$Row;)Z"⟩
abbrev cX0_teethInAll : ByteArray := prog_2_method_24_code
def yX0_teethInAll : MethodName := ⟨RX0, "teethInAll", "()I"⟩
abbrev cX0_brokenInAll : ByteArray := prog_2_method_25_code
def yX0_brokenInAll : MethodName := ⟨RX0, "brokenInAll", "()I"⟩
def RX1 : String := "WheelCount$Seen"
def TX1 : u_T := fun k => match k with
  | 0 => ("WheelCount$Seen", "size", "I", false)
  | 1 => ("WheelCount$Seen", "behind", "[I", true)
  | _ => ("WheelCount$Seen", "reads", "[I", true)
def tyX1 : Nat → FieldType := fun k => match k with
  | 0 => .int
  | 1 => .array .int
  | _ => .array .int
abbrev wsX10 : List Cond := u_ws RX1 TX1 3
theorem nmX1 : ∀ a, a < 3 → ∀ b, b < 3 → a ≠ b → (TX1 a).2.1 ≠ (TX1 b).2.1 := by decide +kernel
theorem tyX1_ok : ∀ k, k < 3 → parseFieldDescriptor (TX1 k).2.2.1 = some (tyX1 k) := by decide +kernel
abbrev cX1_init : ByteArray := prog_3_method_1_code
def yX1_init : MethodName := ⟨RX1, "<init>", "()V"⟩
abbrev cX1_fits : ByteArray := prog_3_method_2_code
def yX1_fits : MethodName := ⟨RX1, "fits", "(LWheelCount$Row;)Z"⟩
abbrev cX1_isAgainst : ByteArray := prog_3_method_3_code
def yX1_isAgainst : MethodName := ⟨RX1, "isAgainst", "(ILWheelCount$Row;)Z"⟩
def RX2 : String := "WheelCount$Sheet"
def TX2 : u_T := fun k => match k with
  | 0 => ("WheelCount$Sheet", "laid", "Z", false)
  | 1 => ("WheelCount$Sheet", "lane", "I", false)
  | 2 => ("WheelCount$Sheet", "size", "I", false)
  | _ => ("WheelCount$Sheet", "cells", "[I", true)
def tyX2 : Nat → FieldType := fun k => match k with
  | 0 => .boolean
  | 1 => .int
  | 2 => .int
  | _ => .array .int
abbrev wsX20 : List Cond := u_ws RX2 TX2 4
theorem nmX2 : ∀ a, a < 4 → ∀ b, b < 4 → a ≠ b → (TX2 a).2.1 ≠ (TX2 b).2.1 := by decide +kernel
theorem tyX2_ok : ∀ k, k < 4 → parseFieldDescriptor (TX2 k).2.2.1 = some (tyX2 k) := by decide +kernel
abbrev cX2_init : ByteArray := prog_4_method_1_code
def yX2_init : MethodName := ⟨RX2, "<init>", "()V"⟩
abbrev cX2_renew : ByteArray := prog_4_method_2_code
def yX2_renew : MethodName := ⟨RX2, "renew", "(II)V"⟩
abbrev cX2_faultAt : ByteArray := prog_4_method_3_code
def yX2_faultAt : MethodName := ⟨RX2, "faultAt", "(II)I"⟩
abbrev cX2_faultAtPair : ByteArray := prog_4_method_4_code
def yX2_faultAtPair : MethodName := ⟨RX2, "faultAtPair", "(II)I"⟩
abbrev cX2_put : ByteArray := prog_4_method_5_code
def yX2_put : MethodName := ⟨RX2, "put", "(II)V"⟩
def RX3 : String := "WheelCount$Tape"
def TX3 : u_T := fun k => match k with
  | 0 => ("WheelCount$Tape", "bytes", "[B", true)
  | _ => ("WheelCount$Tape", "length", "I", false)
def tyX3 : Nat → FieldType := fun k => match k with
  | 0 => .array .byte
  | _ => .int
abbrev wsX30 : List Cond := u_ws RX3 TX3 2
theorem nmX3 : ∀ a, a < 2 → ∀ b, b < 2 → a ≠ b → (TX3 a).2.1 ≠ (TX3 b).2.1 := by decide +kernel
theorem tyX3_ok : ∀ k, k < 2 → parseFieldDescriptor (TX3 k).2.2.1 = some (tyX3 k) := by decide +kernel
abbrev cX3_init : ByteArray := prog_5_method_1_code
def yX3_init : MethodName := ⟨RX3, "<init>", "()V"⟩
def RX4 : String := "WheelCount$Teller"
def TX4 : u_T := fun k => match k with
  | 0 => ("WheelCount$Teller", "tape", "LWheelCount$Tape;", true)
  | 1 => ("WheelCount$Teller", "faultFound", "I", false)
  | 2 => ("WheelCount$Teller", "faultPlace", "I", false)
  | 3 => ("WheelCount$Teller", "lines", "I", false)
  | 4 => ("WheelCount$Teller", "counted", "Z", false)
  | 5 => ("WheelCount$Teller", "token", "I", false)
  | 6 => ("WheelCount$Teller", "start", "I", false)
  | 7 => ("WheelCount$Teller", "stop", "I", false)
  | _ => ("WheelCount$Teller", "value", "I", false)
def tyX4 : Nat → FieldType := fun k => match k with
  | 0 => .object "WheelCount$Tape"
  | 1 => .int
  | 2 => .int
  | 3 => .int
  | 4 => .boolean
  | 5 => .int
  | 6 => .int
  | 7 => .int
  | _ => .int
abbrev wsX40 : List Cond := u_ws RX4 TX4 9
theorem nmX4 : ∀ a, a < 9 → ∀ b, b < 9 → a ≠ b → (TX4 a).2.1 ≠ (TX4 b).2.1 := by decide +kernel
theorem tyX4_ok : ∀ k, k < 9 → parseFieldDescriptor (TX4 k).2.2.1 = some (tyX4 k) := by decide +kernel
abbrev cX4_init : ByteArray := prog_6_method_1_code
def yX4_init : MethodName := ⟨RX4, "<init>", "(LWheelCount$Tape;)V"⟩
abbrev cX4_tell : ByteArray := prog_6_method_2_code
def yX4_tell : MethodName := ⟨RX4, "tell", "(LWheelCount$Row;)Z"⟩
abbrev cX4_tellLine : ByteArray := prog_6_method_3_code
def yX4_tellLine : MethodName := ⟨RX4, "tellLine", "(LWheelCount$Row;)Z"⟩
abbrev cX4_tellCount : ByteArray := prog_6_method_4_code
def yX4_tellCount : MethodName := ⟨RX4, "tellCount", "(LWheelCount$Row;)Z"⟩
abbrev cX4_tellWheel : ByteArray := prog_6_method_5_code
def yX4_tellWheel : MethodName := ⟨RX4, "tellWheel", "(LWheelCount$Row;I)Z"⟩
abbrev cX4_nextNumber : ByteArray := prog_6_method_6_code
def yX4_nextNumber : MethodName := ⟨RX4, "nextNumber", "(II)Z"⟩
abbrev cX4_lineEnds : ByteArray := prog_6_method_7_code
def yX4_lineEnds : MethodName := ⟨RX4, "lineEnds", "()Z"⟩
abbrev cX4_nextToken : ByteArray := prog_6_method_8_code
def yX4_nextToken : MethodName := ⟨RX4, "nextToken", "()Z"⟩
abbrev cX4_valueOfFigures : ByteArray := prog_6_method_9_code
def yX4_valueOfFigures : MethodName := ⟨RX4, "valueOfFigures", "()I"⟩
abbrev cX4_endOfRun : ByteArray := prog_6_method_10_code
def yX4_endOfRun : MethodName := ⟨RX4, "endOfRun", "(II)I"⟩
abbrev cX4_kindNamed : ByteArray := prog_6_method_11_code
def yX4_kindNamed : MethodName := ⟨RX4, "kindNamed", "()I"⟩
abbrev cX4_isName : ByteArray := prog_6_method_12_code
def yX4_isName : MethodName := ⟨RX4, "isName", "(Ljava/lang/String;)Z"⟩
abbrev cX4_fail : ByteArray := prog_6_method_13_code
def yX4_fail : MethodName := ⟨RX4, "fail", "(I)Z"⟩
def RX5 : String := "WheelCount"
def TX5 : u_T := fun k => match k with
  | 0 => ("WheelCount", "now", "LWheelCount$Row;", true)
  | 1 => ("WheelCount", "trial", "LWheelCount$Row;", true)
  | 2 => ("WheelCount", "images", "[LWheelCount$Row;", true)
  | 3 => ("WheelCount", "imageKept", "[Z", true)
  | 4 => ("WheelCount", "tape", "LWheelCount$Tape;", true)
  | 5 => ("WheelCount", "teller", "LWheelCount$Teller;", true)
  | 6 => ("WheelCount", "seen", "LWheelCount$Seen;", true)
  | 7 => ("WheelCount", "sheets", "[LWheelCount$Sheet;", true)
  | 8 => ("WheelCount", "latestTear", "I", false)
  | 9 => ("WheelCount", "ways", "[J", true)
  | 10 => ("WheelCount", "teethLeft", "[I", true)
  | _ => ("WheelCount", "readings", "[[I", true)
def tyX5 : Nat → FieldType := fun k => match k with
  | 0 => .object "WheelCount$Row"
  | 1 => .object "WheelCount$Row"
  | 2 => .array (.object "WheelCount$Row")
  | 3 => .array .boolean
  | 4 => .object "WheelCount$Tape"
  | 5 => .object "WheelCount$Teller"
  | 6 => .object "WheelCount$Seen"
  | 7 => .array (.object "WheelCount$Sheet")
  | 8 => .int
  | 9 => .array .long
  | 10 => .array .int
  | _ => .array (.array .int)
abbrev wsX50 : List Cond := u_ws RX5 TX5 12
theorem nmX5 : ∀ a, a < 12 → ∀ b, b < 12 → a ≠ b → (TX5 a).2.1 ≠ (TX5 b).2.1 := by decide +kernel
theorem tyX5_ok : ∀ k, k < 12 → parseFieldDescriptor (TX5 k).2.2.1 = some (tyX5 k) := by decide +kernel
abbrev cX5_init : ByteArray := prog_1_method_1_code
def yX5_init : MethodName := ⟨RX5, "<init>", "()V"⟩
abbrev cX5_feed : ByteArray := prog_1_method_2_code
def yX5_feed : MethodName := ⟨RX5, "feed", "(I)I"⟩
abbrev cX5_end : ByteArray := prog_1_method_3_code
def yX5_end : MethodName := ⟨RX5, "end", "(I)I"⟩
abbrev cX5_text : ByteArray := prog_1_method_4_code
def yX5_text : MethodName := ⟨RX5, "text", "()I"⟩
abbrev cX5_fault : ByteArray := prog_1_method_5_code
def yX5_fault : MethodName := ⟨RX5, "fault", "()I"⟩
abbrev cX5_rule : ByteArray := prog_1_method_6_code
def yX5_rule : MethodName := ⟨RX5, "rule", "(I)I"⟩
abbrev cX5_wheel : ByteArray := prog_1_method_7_code
def yX5_wheel : MethodName := ⟨RX5, "wheel", "(II)I"⟩
abbrev cX5_alter : ByteArray := prog_1_method_8_code
def yX5_alter : MethodName := ⟨RX5, "alter", "(III)I"⟩
abbrev cX5_add : ByteArray := prog_1_method_9_code
def yX5_add : MethodName := ⟨RX5, "add", "(II)I"⟩
abbrev cX5_cut : ByteArray := prog_1_method_10_code
def yX5_cut : MethodName := ⟨RX5, "cut", "(I)I"⟩
abbrev cX5_turn : ByteArray := prog_1_method_11_code
def yX5_turn : MethodName := ⟨RX5, "turn", "(I)I"⟩
abbrev cX5_clear : ByteArray := prog_1_method_12_code
def yX5_clear : MethodName := ⟨RX5, "clear", "()I"⟩
abbrev cX5_pushes : ByteArray := prog_1_method_13_code
def yX5_pushes : MethodName := ⟨RX5, "pushes", "(I)I"⟩
abbrev cX5_runs : ByteArray := prog_1_method_14_code
def yX5_runs : MethodName := ⟨RX5, "runs", "(II)I"⟩
abbrev cX5_ahead : ByteArray := prog_1_method_15_code
def yX5_ahead : MethodName := ⟨RX5, "ahead", "(II)I"⟩
abbrev cX5_when : ByteArray := prog_1_method_16_code
def yX5_when : MethodName := ⟨RX5, "when", "(I)I"⟩
abbrev cX5_shows : ByteArray := prog_1_method_17_code
def yX5_shows : MethodName := ⟨RX5, "shows", "(II)I"⟩
abbrev cX5_again : ByteArray := prog_1_method_18_code
def yX5_again : MethodName := ⟨RX5, "again", "()I"⟩
abbrev cX5_mend : ByteArray := prog_1_method_19_code
def yX5_mend : MethodName := ⟨RX5, "mend", "(II)I"⟩
abbrev cX5_swap : ByteArray := prog_1_method_20_code
def yX5_swap : MethodName := ⟨RX5, "swap", "(II)I"⟩
abbrev cX5_kind : ByteArray := prog_1_method_21_code
def yX5_kind : MethodName := ⟨RX5, "kind", "(III)I"⟩
abbrev cX5_begin : ByteArray := prog_1_method_22_code
def yX5_begin : MethodName := ⟨RX5, "begin", "(III)I"⟩
abbrev cX5_file : ByteArray := prog_1_method_23_code
def yX5_file : MethodName := ⟨RX5, "file", "(III)I"⟩
abbrev cX5_luck : ByteArray := prog_1_method_24_code
def yX5_luck : MethodName := ⟨RX5, "luck", "(IIIII)J"⟩
abbrev cX5_mean : ByteArray := prog_1_method_25_code
def yX5_mean : MethodName := ⟨RX5, "mean", "(III)J"⟩
abbrev cX5_see : ByteArray := prog_1_method_26_code
def yX5_see : MethodName := ⟨RX5, "see", "(II)I"⟩
abbrev cX5_forget : ByteArray := prog_1_method_27_code
def yX5_forget : MethodName := ⟨RX5, "forget", "(I)I"⟩
abbrev cX5_kinds : ByteArray := prog_1_method_28_code
def yX5_kinds : MethodName := ⟨RX5, "kinds", "(I)I"⟩
abbrev cX5_broken : ByteArray := prog_1_method_29_code
def yX5_broken : MethodName := ⟨RX5, "broken", "(I)I"⟩
abbrev cX5_ask : ByteArray := prog_1_method_30_code
def yX5_ask : MethodName := ⟨RX5, "ask", "(II)I"⟩
abbrev cX5_drift : ByteArray := prog_1_method_31_code
def yX5_drift : MethodName := ⟨RX5, "drift", "(III)I"⟩
abbrev cX5_keep : ByteArray := prog_1_method_32_code
def yX5_keep : MethodName := ⟨RX5, "keep", "(I)I"⟩
abbrev cX5_back : ByteArray := prog_1_method_33_code
def yX5_back : MethodName := ⟨RX5, "back", "(I)I"⟩
abbrev cX5_sheet : ByteArray := prog_1_method_34_code
def yX5_sheet : MethodName := ⟨RX5, "sheet", "(III)I"⟩
abbrev cX5_lay : ByteArray := prog_1_method_35_code
def yX5_lay : MethodName := ⟨RX5, "lay", "(III)I"⟩
abbrev cX5_read : ByteArray := prog_1_method_36_code
def yX5_read : MethodName := ⟨RX5, "read", "(IIII)I"⟩
abbrev cX5_torn : ByteArray := prog_1_method_37_code
def yX5_torn : MethodName := ⟨RX5, "torn", "()I"⟩
abbrev cX5_count : ByteArray := prog_1_method_38_code
def yX5_count : MethodName := ⟨RX5, "count", "(I)I"⟩
abbrev cX5_within : ByteArray := prog_1_method_39_code
def yX5_within : MethodName := ⟨RX5, "within", "(III)Z"⟩
abbrev cX5_tryPart : ByteArray := prog_1_method_40_code
def yX5_tryPart : MethodName := ⟨RX5, "tryPart", "(III)V"⟩
abbrev cX5_trialErrorBehind : ByteArray := prog_1_method_41_code
def yX5_trialErrorBehind : MethodName := ⟨RX5, "trialErrorBehind", "(I)I"⟩
abbrev cX5_bestPart : ByteArray := prog_1_method_42_code
def yX5_bestPart : MethodName := ⟨RX5, "bestPart", "(IIII)I"⟩
abbrev cX5_fitsWith : ByteArray := prog_1_method_43_code
def yX5_fitsWith : MethodName := ⟨RX5, "fitsWith", "(III)Z"⟩
abbrev cX5_countWays : ByteArray := prog_1_method_44_code
def yX5_countWays : MethodName := ⟨RX5, "countWays", "(II)J"⟩
abbrev cX5_partOfFraction : ByteArray := prog_1_method_45_code
def yX5_partOfFraction : MethodName := ⟨RX5, "partOfFraction", "(JJI)J"⟩
abbrev cX5_listTeethLeft : ByteArray := prog_1_method_46_code
def yX5_listTeethLeft : MethodName := ⟨RX5, "listTeethLeft", "(I)I"⟩
abbrev cX5_fillReadings : ByteArray := prog_1_method_47_code
def yX5_fillReadings : MethodName := ⟨RX5, "fillReadings", "(II[I)V"⟩
abbrev cX5_mostAlike : ByteArray := prog_1_method_48_code
def yX5_mostAlike : MethodName := ⟨RX5, "mostAlike", "(II)I"⟩
def RX6 : String := "WheelCountModel"
def TX6 : u_T := fun k => match k with
  | 0 => ("WheelCountModel", "state", "[I", true)
  | 1 => ("WheelCountModel", "readPage", "[I", true)
  | 2 => ("WheelCountModel", "isCountTold", "Z", false)
  | 3 => ("WheelCountModel", "tape", "[I", true)
  | 4 => ("WheelCountModel", "taped", "I", false)
  | 5 => ("WheelCountModel", "fault", "I", false)
  | 6 => ("WheelCountModel", "badCode", "I", false)
  | 7 => ("WheelCountModel", "badAt", "I", false)
  | 8 => ("WheelCountModel", "spot", "I", false)
  | 9 => ("WheelCountModel", "here", "I", false)
  | 10 => ("WheelCountModel", "token", "I", false)
  | 11 => ("WheelCountModel", "value", "I", false)
  | 12 => ("WheelCountModel", "ends", "[I", true)
  | 13 => ("WheelCountModel", "letters", "[I", true)
  | 14 => ("WheelCountModel", "carries", "I", false)
  | 15 => ("WheelCountModel", "greatest", "I", false)
  | 16 => ("WheelCountModel", "zeros", "I", false)
  | 17 => ("WheelCountModel", "seen", "[I", true)
  | 18 => ("WheelCountModel", "seenMany", "I", false)
  | 19 => ("WheelCountModel", "readBy", "[I", true)
  | 20 => ("WheelCountModel", "isKept", "[Z", true)
  | 21 => ("WheelCountModel", "lanes", "[I", true)
  | 22 => ("WheelCountModel", "lengths", "[I", true)
  | 23 => ("WheelCountModel", "cells", "[I", true)
  | _ => ("WheelCountModel", "torn", "I", false)
def tyX6 : Nat → FieldType := fun k => match k with
  | 0 => .array .int
  | 1 => .array .int
  | 2 => .boolean
  | 3 => .array .int
  | 4 => .int
  | 5 => .int
  | 6 => .int
  | 7 => .int
  | 8 => .int
  | 9 => .int
  | 10 => .int
  | 11 => .int
  | 12 => .array .int
  | 13 => .array .int
  | 14 => .int
  | 15 => .int
  | 16 => .int
  | 17 => .array .int
  | 18 => .int
  | 19 => .array .int
  | 20 => .array .boolean
  | 21 => .array .int
  | 22 => .array .int
  | 23 => .array .int
  | _ => .int
abbrev wsX60 : List Cond := u_ws RX6 TX6 25
theorem nmX6 : ∀ a, a < 25 → ∀ b, b < 25 → a ≠ b → (TX6 a).2.1 ≠ (TX6 b).2.1 := by decide +kernel
theorem tyX6_ok : ∀ k, k < 25 → parseFieldDescriptor (TX6 k).2.2.1 = some (tyX6 k) := by decide +kernel
abbrev cX6_init : ByteArray := prog_8_method_1_code
def yX6_init : MethodName := ⟨RX6, "<init>", "()V"⟩
abbrev cX6_in : ByteArray := prog_8_method_3_code
def yX6_in : MethodName := ⟨RX6, "in", "(JJJ)Z"⟩
abbrev cX6_feed : ByteArray := prog_8_method_4_code
def yX6_feed : MethodName := ⟨RX6, "feed", "(I)I"⟩
abbrev cX6_end : ByteArray := prog_8_method_5_code
def yX6_end : MethodName := ⟨RX6, "end", "(I)I"⟩
abbrev cX6_byteAt : ByteArray := prog_8_method_6_code
def yX6_byteAt : MethodName := ⟨RX6, "byteAt", "(I)I"⟩
abbrev cX6_fails : ByteArray := prog_8_method_7_code
def yX6_fails : MethodName := ⟨RX6, "fails", "(I)V"⟩
abbrev cX6_nameHere : ByteArray := prog_8_method_8_code
def yX6_nameHere : MethodName := ⟨RX6, "nameHere", "()I"⟩
abbrev cX6_step : ByteArray := prog_8_method_9_code
def yX6_step : MethodName := ⟨RX6, "step", "()V"⟩
abbrev cX6_number : ByteArray := prog_8_method_10_code
def yX6_number : MethodName := ⟨RX6, "number", "(II)I"⟩
abbrev cX6_readMore : ByteArray := prog_8_method_11_code
def yX6_readMore : MethodName := ⟨RX6, "readMore", "(I)V"⟩
abbrev cX6_readLine : ByteArray := prog_8_method_12_code
def yX6_readLine : MethodName := ⟨RX6, "readLine", "()V"⟩
abbrev cX6_text : ByteArray := prog_8_method_13_code
def yX6_text : MethodName := ⟨RX6, "text", "()I"⟩
abbrev cX6_fault : ByteArray := prog_8_method_14_code
def yX6_fault : MethodName := ⟨RX6, "fault", "()I"⟩
abbrev cX6_isWheel : ByteArray := prog_8_method_15_code
def yX6_isWheel : MethodName := ⟨RX6, "isWheel", "(I)Z"⟩
abbrev cX6_isDigit : ByteArray := prog_8_method_16_code
def yX6_isDigit : MethodName := ⟨RX6, "isDigit", "(I)Z"⟩
abbrev cX6_isReading : ByteArray := prog_8_method_17_code
def yX6_isReading : MethodName := ⟨RX6, "isReading", "(I)Z"⟩
abbrev cX6_turnsOn : ByteArray := prog_8_method_18_code
def yX6_turnsOn : MethodName := ⟨RX6, "turnsOn", "(II)I"⟩
abbrev cX6_carriesOn : ByteArray := prog_8_method_19_code
def yX6_carriesOn : MethodName := ⟨RX6, "carriesOn", "(II)Z"⟩
abbrev cX6_turnedOn : ByteArray := prog_8_method_20_code
def yX6_turnedOn : MethodName := ⟨RX6, "turnedOn", "(II)V"⟩
abbrev cX6_pushOn : ByteArray := prog_8_method_21_code
def yX6_pushOn : MethodName := ⟨RX6, "pushOn", "(I)V"⟩
abbrev cX6_allOn : ByteArray := prog_8_method_22_code
def yX6_allOn : MethodName := ⟨RX6, "allOn", "(I)I"⟩
abbrev cX6_readsOn : ByteArray := prog_8_method_23_code
def yX6_readsOn : MethodName := ⟨RX6, "readsOn", "(I)I"⟩
abbrev cX6_errorOn : ByteArray := prog_8_method_24_code
def yX6_errorOn : MethodName := ⟨RX6, "errorOn", "(I)I"⟩
abbrev cX6_rule : ByteArray := prog_8_method_25_code
def yX6_rule : MethodName := ⟨RX6, "rule", "(I)I"⟩
abbrev cX6_wheel : ByteArray := prog_8_method_26_code
def yX6_wheel : MethodName := ⟨RX6, "wheel", "(II)I"⟩
abbrev cX6_alters : ByteArray := prog_8_method_27_code
def yX6_alters : MethodName := ⟨RX6, "alters", "(III)I"⟩
abbrev cX6_alter : ByteArray := prog_8_method_28_code
def yX6_alter : MethodName := ⟨RX6, "alter", "(III)I"⟩
abbrev cX6_add : ByteArray := prog_8_method_29_code
def yX6_add : MethodName := ⟨RX6, "add", "(II)I"⟩
abbrev cX6_cut : ByteArray := prog_8_method_30_code
def yX6_cut : MethodName := ⟨RX6, "cut", "(I)I"⟩
abbrev cX6_turn : ByteArray := prog_8_method_31_code
def yX6_turn : MethodName := ⟨RX6, "turn", "(I)I"⟩
abbrev cX6_clear : ByteArray := prog_8_method_32_code
def yX6_clear : MethodName := ⟨RX6, "clear", "()I"⟩
abbrev cX6_pushes : ByteArray := prog_8_method_33_code
def yX6_pushes : MethodName := ⟨RX6, "pushes", "(I)I"⟩
abbrev cX6_copies : ByteArray := prog_8_method_34_code
def yX6_copies : MethodName := ⟨RX6, "copies", "(II)V"⟩
abbrev cX6_pushesGo : ByteArray := prog_8_method_35_code
def yX6_pushesGo : MethodName := ⟨RX6, "pushesGo", "(II)I"⟩
abbrev cX6_runs : ByteArray := prog_8_method_36_code
def yX6_runs : MethodName := ⟨RX6, "runs", "(II)I"⟩
abbrev cX6_ahead : ByteArray := prog_8_method_37_code
def yX6_ahead : MethodName := ⟨RX6, "ahead", "(II)I"⟩
abbrev cX6_firstTime : ByteArray := prog_8_method_38_code
def yX6_firstTime : MethodName := ⟨RX6, "firstTime", "(III)I"⟩
abbrev cX6_when : ByteArray := prog_8_method_39_code
def yX6_when : MethodName := ⟨RX6, "when", "(I)I"⟩
abbrev cX6_shows : ByteArray := prog_8_method_40_code
def yX6_shows : MethodName := ⟨RX6, "shows", "(II)I"⟩
abbrev cX6_again : ByteArray := prog_8_method_41_code
def yX6_again : MethodName := ⟨RX6, "again", "()I"⟩
abbrev cX6_errorBehind : ByteArray := prog_8_method_42_code
def yX6_errorBehind : MethodName := ⟨RX6, "errorBehind", "(II)I"⟩
abbrev cX6_mend : ByteArray := prog_8_method_43_code
def yX6_mend : MethodName := ⟨RX6, "mend", "(II)I"⟩
abbrev cX6_swap : ByteArray := prog_8_method_44_code
def yX6_swap : MethodName := ⟨RX6, "swap", "(II)I"⟩
abbrev cX6_leastAt : ByteArray := prog_8_method_45_code
def yX6_leastAt : MethodName := ⟨RX6, "leastAt", "(IIIIZI)I"⟩
abbrev cX6_kind : ByteArray := prog_8_method_46_code
def yX6_kind : MethodName := ⟨RX6, "kind", "(III)I"⟩
abbrev cX6_begin : ByteArray := prog_8_method_47_code
def yX6_begin : MethodName := ⟨RX6, "begin", "(III)I"⟩
abbrev cX6_file : ByteArray := prog_8_method_48_code
def yX6_file : MethodName := ⟨RX6, "file", "(III)I"⟩
abbrev cX6_lowest : ByteArray := prog_8_method_49_code
def yX6_lowest : MethodName := ⟨RX6, "lowest", "(JJI)J"⟩
abbrev cX6_byMisses : ByteArray := prog_8_method_50_code
def yX6_byMisses : MethodName := ⟨RX6, "byMisses", "(IIIII)J"⟩
abbrev cX6_luck : ByteArray := prog_8_method_51_code
def yX6_luck : MethodName := ⟨RX6, "luck", "(IIIII)J"⟩
abbrev cX6_mean : ByteArray := prog_8_method_52_code
def yX6_mean : MethodName := ⟨RX6, "mean", "(III)J"⟩
abbrev cX6_see : ByteArray := prog_8_method_53_code
def yX6_see : MethodName := ⟨RX6, "see", "(II)I"⟩
abbrev cX6_forget : ByteArray := prog_8_method_54_code
def yX6_forget : MethodName := ⟨RX6, "forget", "(I)I"⟩
abbrev cX6_isAsSeen : ByteArray := prog_8_method_55_code
def yX6_isAsSeen : MethodName := ⟨RX6, "isAsSeen", "(I)Z"⟩
abbrev cX6_kinds : ByteArray := prog_8_method_56_code
def yX6_kinds : MethodName := ⟨RX6, "kinds", "(I)I"⟩
abbrev cX6_brokenOf : ByteArray := prog_8_method_57_code
def yX6_brokenOf : MethodName := ⟨RX6, "brokenOf", "(I)I"⟩
abbrev cX6_broken : ByteArray := prog_8_method_58_code
def yX6_broken : MethodName := ⟨RX6, "broken", "(I)I"⟩
abbrev cX6_worstAt : ByteArray := prog_8_method_59_code
def yX6_worstAt : MethodName := ⟨RX6, "worstAt", "(II)I"⟩
abbrev cX6_ask : ByteArray := prog_8_method_60_code
def yX6_ask : MethodName := ⟨RX6, "ask", "(II)I"⟩
abbrev cX6_drift : ByteArray := prog_8_method_61_code
def yX6_drift : MethodName := ⟨RX6, "drift", "(III)I"⟩
abbrev cX6_keep : ByteArray := prog_8_method_62_code
def yX6_keep : MethodName := ⟨RX6, "keep", "(I)I"⟩
abbrev cX6_back : ByteArray := prog_8_method_63_code
def yX6_back : MethodName := ⟨RX6, "back", "(I)I"⟩
abbrev cX6_sheet : ByteArray := prog_8_method_64_code
def yX6_sheet : MethodName := ⟨RX6, "sheet", "(III)I"⟩
abbrev cX6_lay : ByteArray := prog_8_method_65_code
def yX6_lay : MethodName := ⟨RX6, "lay", "(III)I"⟩
abbrev cX6_read : ByteArray := prog_8_method_66_code
def yX6_read : MethodName := ⟨RX6, "read", "(IIII)I"⟩
abbrev cX6_torn : ByteArray := prog_8_method_67_code
def yX6_torn : MethodName := ⟨RX6, "torn", "()I"⟩
abbrev cX6_count : ByteArray := prog_8_method_68_code
def yX6_count : MethodName := ⟨RX6, "count", "(I)I"⟩
def RJ9 : String := "java/lang/Math"
def TJ9 : u_T := fun k => match k with
  | _ => ("", "", "", false)
def tyJ9 : Nat → FieldType := fun k => match k with
  | _ => .int
abbrev wsJ90 : List Cond := u_ws RJ9 TJ9 0
theorem nmJ9 : ∀ a, a < 0 → ∀ b, b < 0 → a ≠ b → (TJ9 a).2.1 ≠ (TJ9 b).2.1 := by decide +kernel
theorem tyJ9_ok : ∀ k, k < 0 → parseFieldDescriptor (TJ9 k).2.2.1 = some (tyJ9 k) := by decide +kernel
abbrev cJ9_abs_0f7a4 : ByteArray := prog_9_method_59_code
def yJ9_abs_0f7a4 : MethodName := ⟨RJ9, "abs", "(I)I"⟩
abbrev cJ9_max_7cf53 : ByteArray := prog_9_method_65_code
def yJ9_max_7cf53 : MethodName := ⟨RJ9, "max", "(II)I"⟩
def RJ0 : String := "java/lang/String"
def TJ0 : u_T := fun k => match k with
  | _ => ("", "", "", false)
def tyJ0 : Nat → FieldType := fun k => match k with
  | _ => .int
abbrev wsJ00 : List Cond := u_ws RJ0 TJ0 0
theorem nmJ0 : ∀ a, a < 0 → ∀ b, b < 0 → a ≠ b → (TJ0 a).2.1 ≠ (TJ0 b).2.1 := by decide +kernel
theorem tyJ0_ok : ∀ k, k < 0 → parseFieldDescriptor (TJ0 k).2.2.1 = some (tyJ0 k) := by decide +kernel
abbrev cJ0_length_8abf5 : ByteArray := prog_10_method_54_code
def yJ0_length_8abf5 : MethodName := ⟨RJ0, "length", "()I"⟩
abbrev cJ0_charAt_5068e : ByteArray := prog_10_method_56_code
def yJ0_charAt_5068e : MethodName := ⟨RJ0, "charAt", "(I)C"⟩
abbrev cJ0_coder_7d493 : ByteArray := prog_10_method_152_code
def yJ0_coder_7d493 : MethodName := ⟨RJ0, "coder", "()B"⟩
abbrev cJ0_isLatin1_aae02 : ByteArray := prog_10_method_154_code
def yJ0_isLatin1_aae02 : MethodName := ⟨RJ0, "isLatin1", "()Z"⟩
abbrev cJ0_checkIndex_df160 : ByteArray := prog_10_method_155_code
def yJ0_checkIndex_df160 : MethodName := ⟨RJ0, "checkIndex", "(II)V"⟩
def RJ1 : String := "java/lang/StringLatin1"
def TJ1 : u_T := fun k => match k with
  | _ => ("", "", "", false)
def tyJ1 : Nat → FieldType := fun k => match k with
  | _ => .int
abbrev wsJ10 : List Cond := u_ws RJ1 TJ1 0
theorem nmJ1 : ∀ a, a < 0 → ∀ b, b < 0 → a ≠ b → (TJ1 a).2.1 ≠ (TJ1 b).2.1 := by decide +kernel
theorem tyJ1_ok : ∀ k, k < 0 → parseFieldDescriptor (TJ1 k).2.2.1 = some (tyJ1 k) := by decide +kernel
abbrev cJ1_charAt_3b067 : ByteArray := prog_11_method_2_code
def yJ1_charAt_3b067 : MethodName := ⟨RJ1, "charAt", "([BI)C"⟩
def RJ2 : String := "java/lang/StringUTF16"
def TJ2 : u_T := fun k => match k with
  | _ => ("", "", "", false)
def tyJ2 : Nat → FieldType := fun k => match k with
  | _ => .int
abbrev wsJ20 : List Cond := u_ws RJ2 TJ2 0
theorem nmJ2 : ∀ a, a < 0 → ∀ b, b < 0 → a ≠ b → (TJ2 a).2.1 ≠ (TJ2 b).2.1 := by decide +kernel
theorem tyJ2_ok : ∀ k, k < 0 → parseFieldDescriptor (TJ2 k).2.2.1 = some (tyJ2 k) := by decide +kernel
abbrev cJ2_getChar_3b067 : ByteArray := prog_12_method_5_code
def yJ2_getChar_3b067 : MethodName := ⟨RJ2, "getChar", "([BI)C"⟩
abbrev cJ2_length_9d52b : ByteArray := prog_12_method_6_code
def yJ2_length_9d52b : MethodName := ⟨RJ2, "length", "([B)I"⟩
abbrev cJ2_charAt_3b067 : ByteArray := prog_12_method_83_code
def yJ2_charAt_3b067 : MethodName := ⟨RJ2, "charAt", "([BI)C"⟩
abbrev cJ2_checkIndex_2214a : ByteArray := prog_12_method_91_code
def yJ2_checkIndex_2214a : MethodName := ⟨RJ2, "checkIndex", "(I[B)V"⟩
def RJ3 : String := "jdk/internal/util/Preconditions"
def TJ3 : u_T := fun k => match k with
  | _ => ("", "", "", false)
def tyJ3 : Nat → FieldType := fun k => match k with
  | _ => .int
abbrev wsJ30 : List Cond := u_ws RJ3 TJ3 0
theorem nmJ3 : ∀ a, a < 0 → ∀ b, b < 0 → a ≠ b → (TJ3 a).2.1 ≠ (TJ3 b).2.1 := by decide +kernel
theorem tyJ3_ok : ∀ k, k < 0 → parseFieldDescriptor (TJ3 k).2.2.1 = some (tyJ3 k) := by decide +kernel
abbrev cJ3_checkIndex_8e157 : ByteArray := prog_13_method_11_code
def yJ3_checkIndex_8e157 : MethodName := ⟨RJ3, "checkIndex", "(IILjava/util/function/BiFunction;)I"⟩
def RL : String := "WheelCountLaw"
abbrev cL_law : ByteArray := code
def yL_law : MethodName := ⟨RL, "law", "([I)Z"⟩
abbrev vwCl : List vw_C := [(RX0, TX0, 7), (RX1, TX1, 3), (RX2, TX2, 4), (RX3, TX3, 2), (RX4, TX4, 9), (RX5, TX5, 12), (RX6, TX6, 25)]
end
section
theorem dX0_init_0 : decode cX0_init 0 = .ok (.aload_n 0, 1) := by decide +kernel
theorem dX0_init_1 : decode cX0_init 1 = .ok (.invokespecial 3, 3) := by decide +kernel
theorem dX0_init_4 : decode cX0_init 4 = .ok (.aload_n 0, 1) := by decide +kernel
theorem dX0_init_5 : decode cX0_init 5 = .ok (.iconst 5, 1) := by decide +kernel
theorem dX0_init_6 : decode cX0_init 6 = .ok (.newarray .int, 2) := by decide +kernel
theorem dX0_init_8 : decode cX0_init 8 = .ok (.putfield 9, 3) := by decide +kernel
theorem dX0_init_11 : decode cX0_init 11 = .ok (.aload_n 0, 1) := by decide +kernel
theorem dX0_init_12 : decode cX0_init 12 = .ok (.iconst 5, 1) := by decide +kernel
theorem dX0_init_13 : decode cX0_init 13 = .ok (.newarray .int, 2) := by decide +kernel
theorem dX0_init_15 : decode cX0_init 15 = .ok (.putfield 15, 3) := by decide +kernel
theorem dX0_init_18 : decode cX0_init 18 = .ok (.aload_n 0, 1) := by decide +kernel
theorem dX0_init_19 : decode cX0_init 19 = .ok (.iconst 5, 1) := by decide +kernel
theorem dX0_init_20 : decode cX0_init 20 = .ok (.newarray .int, 2) := by decide +kernel
theorem dX0_init_22 : decode cX0_init 22 = .ok (.putfield 18, 3) := by decide +kernel
theorem dX0_init_25 : decode cX0_init 25 = .ok (.aload_n 0, 1) := by decide +kernel
theorem dX0_init_26 : decode cX0_init 26 = .ok (.iconst 5, 1) := by decide +kernel
theorem dX0_init_27 : decode cX0_init 27 = .ok (.newarray .int, 2) := by decide +kernel
theorem dX0_init_29 : decode cX0_init 29 = .ok (.putfield 21, 3) := by decide +kernel
theorem dX0_init_32 : decode cX0_init 32 = .ok (.return_, 1) := by decide +kernel
theorem dX0_has_0 : decode cX0_has 0 = .ok (.iload_n 1, 1) := by decide +kernel
theorem dX0_has_1 : decode cX0_has 1 = .ok (.iconst 0, 1) := by decide +kernel
theorem dX0_has_2 : decode cX0_has 2 = .ok (.aload_n 0, 1) := by decide +kernel
theorem dX0_has_3 : decode cX0_has 3 = .ok (.getfield 24, 3) := by decide +kernel
theorem dX0_has_6 : decode cX0_has 6 = .ok (.iconst 1, 1) := by decide +kernel
theorem dX0_has_7 : decode cX0_has 7 = .ok (.isub, 1) := by decide +kernel
theorem dX0_has_8 : decode cX0_has 8 = .ok (.invokestatic 28, 3) := by decide +kernel
theorem dX0_has_11 : decode cX0_has 11 = .ok (.ireturn, 1) := by decide +kernel
theorem dX0_part_0 : decode cX0_part 0 = .ok (.iload_n 2, 1) := by decide +kernel
theorem dX0_part_1 : decode cX0_part 1 = .ok (.tableswitch 48 0 2 #[27, 34, 41], 27) := by decide +kernel
theorem dX0_part_28 : decode cX0_part 28 = .ok (.aload_n 0, 1) := by decide +kernel
theorem dX0_part_29 : decode cX0_part 29 = .ok (.getfield 9, 3) := by decide +kernel
theorem dX0_part_32 : decode cX0_part 32 = .ok (.iload_n 1, 1) := by decide +kernel
theorem dX0_part_33 : decode cX0_part 33 = .ok (.iaload, 1) := by decide +kernel
theorem dX0_part_34 : decode cX0_part 34 = .ok (.ireturn, 1) := by decide +kernel
theorem dX0_part_35 : decode cX0_part 35 = .ok (.aload_n 0, 1) := by decide +kernel
theorem dX0_part_36 : decode cX0_part 36 = .ok (.getfield 15, 3) := by decide +kernel
theorem dX0_part_39 : decode cX0_part 39 = .ok (.iload_n 1, 1) := by decide +kernel
theorem dX0_part_40 : decode cX0_part 40 = .ok (.iaload, 1) := by decide +kernel
theorem dX0_part_41 : decode cX0_part 41 = .ok (.ireturn, 1) := by decide +kernel
theorem dX0_part_42 : decode cX0_part 42 = .ok (.aload_n 0, 1) := by decide +kernel
theorem dX0_part_43 : decode cX0_part 43 = .ok (.getfield 18, 3) := by decide +kernel
theorem dX0_part_46 : decode cX0_part 46 = .ok (.iload_n 1, 1) := by decide +kernel
theorem dX0_part_47 : decode cX0_part 47 = .ok (.iaload, 1) := by decide +kernel
theorem dX0_part_48 : decode cX0_part 48 = .ok (.ireturn, 1) := by decide +kernel
theorem dX0_part_49 : decode cX0_part 49 = .ok (.aload_n 0, 1) := by decide +kernel
theorem dX0_part_50 : decode cX0_part 50 = .ok (.getfield 21, 3) := by decide +kernel
theorem dX0_part_53 : decode cX0_part 53 = .ok (.iload_n 1, 1) := by decide +kernel
theorem dX0_part_54 : decode cX0_part 54 = .ok (.iaload, 1) := by decide +kernel
theorem dX0_part_55 : decode cX0_part 55 = .ok (.ireturn, 1) := by decide +kernel
theorem dX0_change_0 : decode cX0_change 0 = .ok (.aload_n 0, 1) := by decide +kernel
theorem dX0_change_1 : decode cX0_change 1 = .ok (.iload_n 1, 1) := by decide +kernel
theorem dX0_change_2 : decode cX0_change 2 = .ok (.invokevirtual 32, 3) := by decide +kernel
theorem dX0_change_5 : decode cX0_change 5 = .ok (.ifCond .eq 20, 3) := by decide +kernel
theorem dX0_change_8 : decode cX0_change 8 = .ok (.iload_n 2, 1) := by decide +kernel
theorem dX0_change_9 : decode cX0_change 9 = .ok (.iconst 0, 1) := by decide +kernel
theorem dX0_change_10 : decode cX0_change 10 = .ok (.iconst 3, 1) := by decide +kernel
theorem dX0_change_11 : decode cX0_change 11 = .ok (.invokestatic 28, 3) := by decide +kernel
theorem dX0_change_14 : decode cX0_change 14 = .ok (.ifCond .eq 11, 3) := by decide +kernel
theorem dX0_change_17 : decode cX0_change 17 = .ok (.iload_n 2, 1) := by decide +kernel
theorem dX0_change_18 : decode cX0_change 18 = .ok (.iload_n 3, 1) := by decide +kernel
theorem dX0_change_19 : decode cX0_change 19 = .ok (.invokestatic 36, 3) := by decide +kernel
theorem dX0_change_22 : decode cX0_change 22 = .ok (.ifCond .ne 5, 3) := by decide +kernel
theorem dX0_change_25 : decode cX0_change 25 = .ok (.iconst (-1), 1) := by decide +kernel
theorem dX0_change_26 : decode cX0_change 26 = .ok (.ireturn, 1) := by decide +kernel
theorem dX0_change_27 : decode cX0_change 27 = .ok (.aload_n 0, 1) := by decide +kernel
theorem dX0_change_28 : decode cX0_change 28 = .ok (.iload_n 1, 1) := by decide +kernel
theorem dX0_change_29 : decode cX0_change 29 = .ok (.iload_n 2, 1) := by decide +kernel
theorem dX0_change_30 : decode cX0_change 30 = .ok (.iload_n 3, 1) := by decide +kernel
theorem dX0_change_31 : decode cX0_change 31 = .ok (.invokevirtual 40, 3) := by decide +kernel
theorem dX0_change_34 : decode cX0_change 34 = .ok (.ifCond .ne 6, 3) := by decide +kernel
theorem dX0_change_37 : decode cX0_change 37 = .ok (.bipush (-2), 2) := by decide +kernel
theorem dX0_change_39 : decode cX0_change 39 = .ok (.ireturn, 1) := by decide +kernel
theorem dX0_change_40 : decode cX0_change 40 = .ok (.aload_n 0, 1) := by decide +kernel
theorem dX0_change_41 : decode cX0_change 41 = .ok (.iload_n 1, 1) := by decide +kernel
theorem dX0_change_42 : decode cX0_change 42 = .ok (.iload_n 2, 1) := by decide +kernel
theorem dX0_change_43 : decode cX0_change 43 = .ok (.invokevirtual 43, 3) := by decide +kernel
theorem dX0_change_46 : decode cX0_change 46 = .ok (.istore 4, 2) := by decide +kernel
theorem dX0_change_48 : decode cX0_change 48 = .ok (.aload_n 0, 1) := by decide +kernel
theorem dX0_change_49 : decode cX0_change 49 = .ok (.iload_n 1, 1) := by decide +kernel
theorem dX0_change_50 : decode cX0_change 50 = .ok (.iload_n 2, 1) := by decide +kernel
theorem dX0_change_51 : decode cX0_change 51 = .ok (.iload_n 3, 1) := by decide +kernel
theorem dX0_change_52 : decode cX0_change 52 = .ok (.invokevirtual 47, 3) := by decide +kernel
theorem dX0_change_55 : decode cX0_change 55 = .ok (.iload 4, 2) := by decide +kernel
theorem dX0_change_57 : decode cX0_change 57 = .ok (.ireturn, 1) := by decide +kernel
theorem dX0_set_0 : decode cX0_set 0 = .ok (.iload_n 2, 1) := by decide +kernel
theorem dX0_set_1 : decode cX0_set 1 = .ok (.tableswitch 57 0 2 #[27, 37, 47], 27) := by decide +kernel
theorem dX0_set_28 : decode cX0_set 28 = .ok (.aload_n 0, 1) := by decide +kernel
theorem dX0_set_29 : decode cX0_set 29 = .ok (.getfield 9, 3) := by decide +kernel
theorem dX0_set_32 : decode cX0_set 32 = .ok (.iload_n 1, 1) := by decide +kernel
theorem dX0_set_33 : decode cX0_set 33 = .ok (.iload_n 3, 1) := by decide +kernel
theorem dX0_set_34 : decode cX0_set 34 = .ok (.iastore, 1) := by decide +kernel
theorem dX0_set_35 : decode cX0_set 35 = .ok (.goto 30, 3) := by decide +kernel
theorem dX0_set_38 : decode cX0_set 38 = .ok (.aload_n 0, 1) := by decide +kernel
theorem dX0_set_39 : decode cX0_set 39 = .ok (.getfield 15, 3) := by decide +kernel
theorem dX0_set_42 : decode cX0_set 42 = .ok (.iload_n 1, 1) := by decide +kernel
theorem dX0_set_43 : decode cX0_set 43 = .ok (.iload_n 3, 1) := by decide +kernel
theorem dX0_set_44 : decode cX0_set 44 = .ok (.iastore, 1) := by decide +kernel
theorem dX0_set_45 : decode cX0_set 45 = .ok (.goto 20, 3) := by decide +kernel
theorem dX0_set_48 : decode cX0_set 48 = .ok (.aload_n 0, 1) := by decide +kernel
theorem dX0_set_49 : decode cX0_set 49 = .ok (.getfield 18, 3) := by decide +kernel
theorem dX0_set_52 : decode cX0_set 52 = .ok (.iload_n 1, 1) := by decide +kernel
theorem dX0_set_53 : decode cX0_set 53 = .ok (.iload_n 3, 1) := by decide +kernel
theorem dX0_set_54 : decode cX0_set 54 = .ok (.iastore, 1) := by decide +kernel
theorem dX0_set_55 : decode cX0_set 55 = .ok (.goto 10, 3) := by decide +kernel
theorem dX0_set_58 : decode cX0_set 58 = .ok (.aload_n 0, 1) := by decide +kernel
theorem dX0_set_59 : decode cX0_set 59 = .ok (.getfield 21, 3) := by decide +kernel
theorem dX0_set_62 : decode cX0_set 62 = .ok (.iload_n 1, 1) := by decide +kernel
theorem dX0_set_63 : decode cX0_set 63 = .ok (.iload_n 3, 1) := by decide +kernel
theorem dX0_set_64 : decode cX0_set 64 = .ok (.iastore, 1) := by decide +kernel
theorem dX0_set_65 : decode cX0_set 65 = .ok (.return_, 1) := by decide +kernel
theorem dX0_mayEverBe_0 : decode cX0_mayEverBe 0 = .ok (.iload_n 0, 1) := by decide +kernel
theorem dX0_mayEverBe_1 : decode cX0_mayEverBe 1 = .ok (.tableswitch 50 0 2 #[27, 34, 42], 27) := by decide +kernel
theorem dX0_mayEverBe_28 : decode cX0_mayEverBe 28 = .ok (.iload_n 1, 1) := by decide +kernel
theorem dX0_mayEverBe_29 : decode cX0_mayEverBe 29 = .ok (.iconst 0, 1) := by decide +kernel
theorem dX0_mayEverBe_30 : decode cX0_mayEverBe 30 = .ok (.iconst 3, 1) := by decide +kernel
theorem dX0_mayEverBe_31 : decode cX0_mayEverBe 31 = .ok (.invokestatic 28, 3) := by decide +kernel
theorem dX0_mayEverBe_34 : decode cX0_mayEverBe 34 = .ok (.ireturn, 1) := by decide +kernel
theorem dX0_mayEverBe_35 : decode cX0_mayEverBe 35 = .ok (.iload_n 1, 1) := by decide +kernel
theorem dX0_mayEverBe_36 : decode cX0_mayEverBe 36 = .ok (.iconst 2, 1) := by decide +kernel
theorem dX0_mayEverBe_37 : decode cX0_mayEverBe 37 = .ok (.bipush 12, 2) := by decide +kernel
theorem dX0_mayEverBe_39 : decode cX0_mayEverBe 39 = .ok (.invokestatic 28, 3) := by decide +kernel
theorem dX0_mayEverBe_42 : decode cX0_mayEverBe 42 = .ok (.ireturn, 1) := by decide +kernel
theorem dX0_mayEverBe_43 : decode cX0_mayEverBe 43 = .ok (.iload_n 1, 1) := by decide +kernel
theorem dX0_mayEverBe_44 : decode cX0_mayEverBe 44 = .ok (.iconst 0, 1) := by decide +kernel
theorem dX0_mayEverBe_45 : decode cX0_mayEverBe 45 = .ok (.bipush 11, 2) := by decide +kernel
theorem dX0_mayEverBe_47 : decode cX0_mayEverBe 47 = .ok (.invokestatic 28, 3) := by decide +kernel
theorem dX0_mayEverBe_50 : decode cX0_mayEverBe 50 = .ok (.ireturn, 1) := by decide +kernel
theorem dX0_mayEverBe_51 : decode cX0_mayEverBe 51 = .ok (.iload_n 1, 1) := by decide +kernel
theorem dX0_mayEverBe_52 : decode cX0_mayEverBe 52 = .ok (.iconst 0, 1) := by decide +kernel
theorem dX0_mayEverBe_53 : decode cX0_mayEverBe 53 = .ok (.bipush 12, 2) := by decide +kernel
theorem dX0_mayEverBe_55 : decode cX0_mayEverBe 55 = .ok (.invokestatic 28, 3) := by decide +kernel
theorem dX0_mayEverBe_58 : decode cX0_mayEverBe 58 = .ok (.ireturn, 1) := by decide +kernel
theorem dX0_mayBe_0 : decode cX0_mayBe 0 = .ok (.iload_n 2, 1) := by decide +kernel
theorem dX0_mayBe_1 : decode cX0_mayBe 1 = .ok (.tableswitch 102 1 3 #[27, 64, 80], 27) := by decide +kernel
theorem dX0_mayBe_28 : decode cX0_mayBe 28 = .ok (.iload_n 3, 1) := by decide +kernel
theorem dX0_mayBe_29 : decode cX0_mayBe 29 = .ok (.aload_n 0, 1) := by decide +kernel
theorem dX0_mayBe_30 : decode cX0_mayBe 30 = .ok (.getfield 18, 3) := by decide +kernel
theorem dX0_mayBe_33 : decode cX0_mayBe 33 = .ok (.iload_n 1, 1) := by decide +kernel
theorem dX0_mayBe_34 : decode cX0_mayBe 34 = .ok (.iaload, 1) := by decide +kernel
theorem dX0_mayBe_35 : decode cX0_mayBe 35 = .ok (.if_icmp .le 28, 3) := by decide +kernel
theorem dX0_mayBe_38 : decode cX0_mayBe 38 = .ok (.aload_n 0, 1) := by decide +kernel
theorem dX0_mayBe_39 : decode cX0_mayBe 39 = .ok (.getfield 21, 3) := by decide +kernel
theorem dX0_mayBe_42 : decode cX0_mayBe 42 = .ok (.iload_n 1, 1) := by decide +kernel
theorem dX0_mayBe_43 : decode cX0_mayBe 43 = .ok (.iaload, 1) := by decide +kernel
theorem dX0_mayBe_44 : decode cX0_mayBe 44 = .ok (.bipush 12, 2) := by decide +kernel
theorem dX0_mayBe_46 : decode cX0_mayBe 46 = .ok (.if_icmp .eq 13, 3) := by decide +kernel
theorem dX0_mayBe_49 : decode cX0_mayBe 49 = .ok (.iload_n 3, 1) := by decide +kernel
theorem dX0_mayBe_50 : decode cX0_mayBe 50 = .ok (.aload_n 0, 1) := by decide +kernel
theorem dX0_mayBe_51 : decode cX0_mayBe 51 = .ok (.getfield 21, 3) := by decide +kernel
theorem dX0_mayBe_54 : decode cX0_mayBe 54 = .ok (.iload_n 1, 1) := by decide +kernel
theorem dX0_mayBe_55 : decode cX0_mayBe 55 = .ok (.iaload, 1) := by decide +kernel
theorem dX0_mayBe_56 : decode cX0_mayBe 56 = .ok (.if_icmp .le 7, 3) := by decide +kernel
theorem dX0_mayBe_59 : decode cX0_mayBe 59 = .ok (.iconst 1, 1) := by decide +kernel
theorem dX0_mayBe_60 : decode cX0_mayBe 60 = .ok (.goto 4, 3) := by decide +kernel
theorem dX0_mayBe_63 : decode cX0_mayBe 63 = .ok (.iconst 0, 1) := by decide +kernel
theorem dX0_mayBe_64 : decode cX0_mayBe 64 = .ok (.ireturn, 1) := by decide +kernel
theorem dX0_mayBe_65 : decode cX0_mayBe 65 = .ok (.iload_n 3, 1) := by decide +kernel
theorem dX0_mayBe_66 : decode cX0_mayBe 66 = .ok (.aload_n 0, 1) := by decide +kernel
theorem dX0_mayBe_67 : decode cX0_mayBe 67 = .ok (.getfield 15, 3) := by decide +kernel
theorem dX0_mayBe_70 : decode cX0_mayBe 70 = .ok (.iload_n 1, 1) := by decide +kernel
theorem dX0_mayBe_71 : decode cX0_mayBe 71 = .ok (.iaload, 1) := by decide +kernel
theorem dX0_mayBe_72 : decode cX0_mayBe 72 = .ok (.if_icmp .ge 7, 3) := by decide +kernel
theorem dX0_mayBe_75 : decode cX0_mayBe 75 = .ok (.iconst 1, 1) := by decide +kernel
theorem dX0_mayBe_76 : decode cX0_mayBe 76 = .ok (.goto 4, 3) := by decide +kernel
theorem dX0_mayBe_79 : decode cX0_mayBe 79 = .ok (.iconst 0, 1) := by decide +kernel
theorem dX0_mayBe_80 : decode cX0_mayBe 80 = .ok (.ireturn, 1) := by decide +kernel
theorem dX0_mayBe_81 : decode cX0_mayBe 81 = .ok (.iload_n 3, 1) := by decide +kernel
theorem dX0_mayBe_82 : decode cX0_mayBe 82 = .ok (.bipush 12, 2) := by decide +kernel
theorem dX0_mayBe_84 : decode cX0_mayBe 84 = .ok (.if_icmp .eq 13, 3) := by decide +kernel
theorem dX0_mayBe_87 : decode cX0_mayBe 87 = .ok (.iload_n 3, 1) := by decide +kernel
theorem dX0_mayBe_88 : decode cX0_mayBe 88 = .ok (.aload_n 0, 1) := by decide +kernel
theorem dX0_mayBe_89 : decode cX0_mayBe 89 = .ok (.getfield 15, 3) := by decide +kernel
theorem dX0_mayBe_92 : decode cX0_mayBe 92 = .ok (.iload_n 1, 1) := by decide +kernel
theorem dX0_mayBe_93 : decode cX0_mayBe 93 = .ok (.iaload, 1) := by decide +kernel
theorem dX0_mayBe_94 : decode cX0_mayBe 94 = .ok (.if_icmp .ge 7, 3) := by decide +kernel
theorem dX0_mayBe_97 : decode cX0_mayBe 97 = .ok (.iconst 1, 1) := by decide +kernel
theorem dX0_mayBe_98 : decode cX0_mayBe 98 = .ok (.goto 4, 3) := by decide +kernel
theorem dX0_mayBe_101 : decode cX0_mayBe 101 = .ok (.iconst 0, 1) := by decide +kernel
theorem dX0_mayBe_102 : decode cX0_mayBe 102 = .ok (.ireturn, 1) := by decide +kernel
theorem dX0_mayBe_103 : decode cX0_mayBe 103 = .ok (.iconst 1, 1) := by decide +kernel
theorem dX0_mayBe_104 : decode cX0_mayBe 104 = .ok (.ireturn, 1) := by decide +kernel
theorem dX0_append_0 : decode cX0_append 0 = .ok (.aload_n 0, 1) := by decide +kernel
theorem dX0_append_1 : decode cX0_append 1 = .ok (.getfield 24, 3) := by decide +kernel
theorem dX0_append_4 : decode cX0_append 4 = .ok (.iconst 5, 1) := by decide +kernel
theorem dX0_append_5 : decode cX0_append 5 = .ok (.if_icmp .lt 4, 3) := by decide +kernel
theorem dX0_append_8 : decode cX0_append 8 = .ok (.return_, 1) := by decide +kernel
theorem dX0_append_9 : decode cX0_append 9 = .ok (.aload_n 0, 1) := by decide +kernel
theorem dX0_append_10 : decode cX0_append 10 = .ok (.getfield 9, 3) := by decide +kernel
theorem dX0_append_13 : decode cX0_append 13 = .ok (.aload_n 0, 1) := by decide +kernel
theorem dX0_append_14 : decode cX0_append 14 = .ok (.getfield 24, 3) := by decide +kernel
theorem dX0_append_17 : decode cX0_append 17 = .ok (.iload_n 1, 1) := by decide +kernel
theorem dX0_append_18 : decode cX0_append 18 = .ok (.iastore, 1) := by decide +kernel
theorem dX0_append_19 : decode cX0_append 19 = .ok (.aload_n 0, 1) := by decide +kernel
theorem dX0_append_20 : decode cX0_append 20 = .ok (.getfield 15, 3) := by decide +kernel
theorem dX0_append_23 : decode cX0_append 23 = .ok (.aload_n 0, 1) := by decide +kernel
theorem dX0_append_24 : decode cX0_append 24 = .ok (.getfield 24, 3) := by decide +kernel
theorem dX0_append_27 : decode cX0_append 27 = .ok (.iload_n 2, 1) := by decide +kernel
theorem dX0_append_28 : decode cX0_append 28 = .ok (.iastore, 1) := by decide +kernel
theorem dX0_append_29 : decode cX0_append 29 = .ok (.aload_n 0, 1) := by decide +kernel
theorem dX0_append_30 : decode cX0_append 30 = .ok (.getfield 18, 3) := by decide +kernel
theorem dX0_append_33 : decode cX0_append 33 = .ok (.aload_n 0, 1) := by decide +kernel
theorem dX0_append_34 : decode cX0_append 34 = .ok (.getfield 24, 3) := by decide +kernel
theorem dX0_append_37 : decode cX0_append 37 = .ok (.iload_n 3, 1) := by decide +kernel
theorem dX0_append_38 : decode cX0_append 38 = .ok (.iastore, 1) := by decide +kernel
theorem dX0_append_39 : decode cX0_append 39 = .ok (.aload_n 0, 1) := by decide +kernel
theorem dX0_append_40 : decode cX0_append 40 = .ok (.getfield 21, 3) := by decide +kernel
theorem dX0_append_43 : decode cX0_append 43 = .ok (.aload_n 0, 1) := by decide +kernel
theorem dX0_append_44 : decode cX0_append 44 = .ok (.getfield 24, 3) := by decide +kernel
theorem dX0_append_47 : decode cX0_append 47 = .ok (.iload 4, 2) := by decide +kernel
theorem dX0_append_49 : decode cX0_append 49 = .ok (.iastore, 1) := by decide +kernel
theorem dX0_append_50 : decode cX0_append 50 = .ok (.aload_n 0, 1) := by decide +kernel
theorem dX0_append_51 : decode cX0_append 51 = .ok (.dup, 1) := by decide +kernel
theorem dX0_append_52 : decode cX0_append 52 = .ok (.getfield 24, 3) := by decide +kernel
theorem dX0_append_55 : decode cX0_append 55 = .ok (.iconst 1, 1) := by decide +kernel
theorem dX0_append_56 : decode cX0_append 56 = .ok (.iadd, 1) := by decide +kernel
theorem dX0_append_57 : decode cX0_append 57 = .ok (.putfield 24, 3) := by decide +kernel
theorem dX0_append_60 : decode cX0_append 60 = .ok (.return_, 1) := by decide +kernel
theorem dX0_copyOf_0 : decode cX0_copyOf 0 = .ok (.aload_n 0, 1) := by decide +kernel
theorem dX0_copyOf_1 : decode cX0_copyOf 1 = .ok (.aload_n 1, 1) := by decide +kernel
theorem dX0_copyOf_2 : decode cX0_copyOf 2 = .ok (.getfield 24, 3) := by decide +kernel
theorem dX0_copyOf_5 : decode cX0_copyOf 5 = .ok (.putfield 24, 3) := by decide +kernel
theorem dX0_copyOf_8 : decode cX0_copyOf 8 = .ok (.aload_n 0, 1) := by decide +kernel
theorem dX0_copyOf_9 : decode cX0_copyOf 9 = .ok (.aload_n 1, 1) := by decide +kernel
theorem dX0_copyOf_10 : decode cX0_copyOf 10 = .ok (.getfield 51, 3) := by decide +kernel
theorem dX0_copyOf_13 : decode cX0_copyOf 13 = .ok (.putfield 51, 3) := by decide +kernel
theorem dX0_copyOf_16 : decode cX0_copyOf 16 = .ok (.aload_n 0, 1) := by decide +kernel
theorem dX0_copyOf_17 : decode cX0_copyOf 17 = .ok (.iconst 0, 1) := by decide +kernel
theorem dX0_copyOf_18 : decode cX0_copyOf 18 = .ok (.putfield 54, 3) := by decide +kernel
theorem dX0_copyOf_21 : decode cX0_copyOf 21 = .ok (.iconst 0, 1) := by decide +kernel
theorem dX0_copyOf_22 : decode cX0_copyOf 22 = .ok (.istore_n 2, 1) := by decide +kernel
theorem dX0_copyOf_23 : decode cX0_copyOf 23 = .ok (.iload_n 2, 1) := by decide +kernel
theorem dX0_copyOf_24 : decode cX0_copyOf 24 = .ok (.aload_n 0, 1) := by decide +kernel
theorem dX0_copyOf_25 : decode cX0_copyOf 25 = .ok (.getfield 24, 3) := by decide +kernel
theorem dX0_copyOf_28 : decode cX0_copyOf 28 = .ok (.if_icmp .ge 57, 3) := by decide +kernel
theorem dX0_copyOf_31 : decode cX0_copyOf 31 = .ok (.aload_n 0, 1) := by decide +kernel
theorem dX0_copyOf_32 : decode cX0_copyOf 32 = .ok (.getfield 9, 3) := by decide +kernel
theorem dX0_copyOf_35 : decode cX0_copyOf 35 = .ok (.iload_n 2, 1) := by decide +kernel
theorem dX0_copyOf_36 : decode cX0_copyOf 36 = .ok (.aload_n 1, 1) := by decide +kernel
theorem dX0_copyOf_37 : decode cX0_copyOf 37 = .ok (.getfield 9, 3) := by decide +kernel
theorem dX0_copyOf_40 : decode cX0_copyOf 40 = .ok (.iload_n 2, 1) := by decide +kernel
theorem dX0_copyOf_41 : decode cX0_copyOf 41 = .ok (.iaload, 1) := by decide +kernel
theorem dX0_copyOf_42 : decode cX0_copyOf 42 = .ok (.iastore, 1) := by decide +kernel
theorem dX0_copyOf_43 : decode cX0_copyOf 43 = .ok (.aload_n 0, 1) := by decide +kernel
theorem dX0_copyOf_44 : decode cX0_copyOf 44 = .ok (.getfield 15, 3) := by decide +kernel
theorem dX0_copyOf_47 : decode cX0_copyOf 47 = .ok (.iload_n 2, 1) := by decide +kernel
theorem dX0_copyOf_48 : decode cX0_copyOf 48 = .ok (.aload_n 1, 1) := by decide +kernel
theorem dX0_copyOf_49 : decode cX0_copyOf 49 = .ok (.getfield 15, 3) := by decide +kernel
theorem dX0_copyOf_52 : decode cX0_copyOf 52 = .ok (.iload_n 2, 1) := by decide +kernel
theorem dX0_copyOf_53 : decode cX0_copyOf 53 = .ok (.iaload, 1) := by decide +kernel
theorem dX0_copyOf_54 : decode cX0_copyOf 54 = .ok (.iastore, 1) := by decide +kernel
theorem dX0_copyOf_55 : decode cX0_copyOf 55 = .ok (.aload_n 0, 1) := by decide +kernel
theorem dX0_copyOf_56 : decode cX0_copyOf 56 = .ok (.getfield 18, 3) := by decide +kernel
theorem dX0_copyOf_59 : decode cX0_copyOf 59 = .ok (.iload_n 2, 1) := by decide +kernel
theorem dX0_copyOf_60 : decode cX0_copyOf 60 = .ok (.aload_n 1, 1) := by decide +kernel
theorem dX0_copyOf_61 : decode cX0_copyOf 61 = .ok (.getfield 18, 3) := by decide +kernel
theorem dX0_copyOf_64 : decode cX0_copyOf 64 = .ok (.iload_n 2, 1) := by decide +kernel
theorem dX0_copyOf_65 : decode cX0_copyOf 65 = .ok (.iaload, 1) := by decide +kernel
theorem dX0_copyOf_66 : decode cX0_copyOf 66 = .ok (.iastore, 1) := by decide +kernel
theorem dX0_copyOf_67 : decode cX0_copyOf 67 = .ok (.aload_n 0, 1) := by decide +kernel
theorem dX0_copyOf_68 : decode cX0_copyOf 68 = .ok (.getfield 21, 3) := by decide +kernel
theorem dX0_copyOf_71 : decode cX0_copyOf 71 = .ok (.iload_n 2, 1) := by decide +kernel
theorem dX0_copyOf_72 : decode cX0_copyOf 72 = .ok (.aload_n 1, 1) := by decide +kernel
theorem dX0_copyOf_73 : decode cX0_copyOf 73 = .ok (.getfield 21, 3) := by decide +kernel
theorem dX0_copyOf_76 : decode cX0_copyOf 76 = .ok (.iload_n 2, 1) := by decide +kernel
theorem dX0_copyOf_77 : decode cX0_copyOf 77 = .ok (.iaload, 1) := by decide +kernel
theorem dX0_copyOf_78 : decode cX0_copyOf 78 = .ok (.iastore, 1) := by decide +kernel
theorem dX0_copyOf_79 : decode cX0_copyOf 79 = .ok (.iinc 2 1, 3) := by decide +kernel
theorem dX0_copyOf_82 : decode cX0_copyOf 82 = .ok (.goto (-59), 3) := by decide +kernel
theorem dX0_copyOf_85 : decode cX0_copyOf 85 = .ok (.return_, 1) := by decide +kernel
theorem dX0_exchange_0 : decode cX0_exchange 0 = .ok (.aload_n 0, 1) := by decide +kernel
theorem dX0_exchange_1 : decode cX0_exchange 1 = .ok (.getfield 9, 3) := by decide +kernel
theorem dX0_exchange_4 : decode cX0_exchange 4 = .ok (.iload_n 1, 1) := by decide +kernel
theorem dX0_exchange_5 : decode cX0_exchange 5 = .ok (.iload_n 2, 1) := by decide +kernel
theorem dX0_exchange_6 : decode cX0_exchange 6 = .ok (.invokestatic 57, 3) := by decide +kernel
theorem dX0_exchange_9 : decode cX0_exchange 9 = .ok (.aload_n 0, 1) := by decide +kernel
theorem dX0_exchange_10 : decode cX0_exchange 10 = .ok (.getfield 15, 3) := by decide +kernel
theorem dX0_exchange_13 : decode cX0_exchange 13 = .ok (.iload_n 1, 1) := by decide +kernel
theorem dX0_exchange_14 : decode cX0_exchange 14 = .ok (.iload_n 2, 1) := by decide +kernel
theorem dX0_exchange_15 : decode cX0_exchange 15 = .ok (.invokestatic 57, 3) := by decide +kernel
theorem dX0_exchange_18 : decode cX0_exchange 18 = .ok (.aload_n 0, 1) := by decide +kernel
theorem dX0_exchange_19 : decode cX0_exchange 19 = .ok (.getfield 18, 3) := by decide +kernel
theorem dX0_exchange_22 : decode cX0_exchange 22 = .ok (.iload_n 1, 1) := by decide +kernel
theorem dX0_exchange_23 : decode cX0_exchange 23 = .ok (.iload_n 2, 1) := by decide +kernel
theorem dX0_exchange_24 : decode cX0_exchange 24 = .ok (.invokestatic 57, 3) := by decide +kernel
theorem dX0_exchange_27 : decode cX0_exchange 27 = .ok (.aload_n 0, 1) := by decide +kernel
theorem dX0_exchange_28 : decode cX0_exchange 28 = .ok (.getfield 21, 3) := by decide +kernel
theorem dX0_exchange_31 : decode cX0_exchange 31 = .ok (.iload_n 1, 1) := by decide +kernel
theorem dX0_exchange_32 : decode cX0_exchange 32 = .ok (.iload_n 2, 1) := by decide +kernel
theorem dX0_exchange_33 : decode cX0_exchange 33 = .ok (.invokestatic 57, 3) := by decide +kernel
theorem dX0_exchange_36 : decode cX0_exchange 36 = .ok (.return_, 1) := by decide +kernel
theorem dX0_exchangeIn_0 : decode cX0_exchangeIn 0 = .ok (.aload_n 0, 1) := by decide +kernel
theorem dX0_exchangeIn_1 : decode cX0_exchangeIn 1 = .ok (.iload_n 1, 1) := by decide +kernel
theorem dX0_exchangeIn_2 : decode cX0_exchangeIn 2 = .ok (.iaload, 1) := by decide +kernel
theorem dX0_exchangeIn_3 : decode cX0_exchangeIn 3 = .ok (.istore_n 3, 1) := by decide +kernel
theorem dX0_exchangeIn_4 : decode cX0_exchangeIn 4 = .ok (.aload_n 0, 1) := by decide +kernel
theorem dX0_exchangeIn_5 : decode cX0_exchangeIn 5 = .ok (.iload_n 1, 1) := by decide +kernel
theorem dX0_exchangeIn_6 : decode cX0_exchangeIn 6 = .ok (.aload_n 0, 1) := by decide +kernel
theorem dX0_exchangeIn_7 : decode cX0_exchangeIn 7 = .ok (.iload_n 2, 1) := by decide +kernel
theorem dX0_exchangeIn_8 : decode cX0_exchangeIn 8 = .ok (.iaload, 1) := by decide +kernel
theorem dX0_exchangeIn_9 : decode cX0_exchangeIn 9 = .ok (.iastore, 1) := by decide +kernel
theorem dX0_exchangeIn_10 : decode cX0_exchangeIn 10 = .ok (.aload_n 0, 1) := by decide +kernel
theorem dX0_exchangeIn_11 : decode cX0_exchangeIn 11 = .ok (.iload_n 2, 1) := by decide +kernel
theorem dX0_exchangeIn_12 : decode cX0_exchangeIn 12 = .ok (.iload_n 3, 1) := by decide +kernel
theorem dX0_exchangeIn_13 : decode cX0_exchangeIn 13 = .ok (.iastore, 1) := by decide +kernel
theorem dX0_exchangeIn_14 : decode cX0_exchangeIn 14 = .ok (.return_, 1) := by decide +kernel
theorem dX0_nextDigit_0 : decode cX0_nextDigit 0 = .ok (.aload_n 0, 1) := by decide +kernel
theorem dX0_nextDigit_1 : decode cX0_nextDigit 1 = .ok (.getfield 18, 3) := by decide +kernel
theorem dX0_nextDigit_4 : decode cX0_nextDigit 4 = .ok (.iload_n 1, 1) := by decide +kernel
theorem dX0_nextDigit_5 : decode cX0_nextDigit 5 = .ok (.iaload, 1) := by decide +kernel
theorem dX0_nextDigit_6 : decode cX0_nextDigit 6 = .ok (.istore_n 2, 1) := by decide +kernel
theorem dX0_nextDigit_7 : decode cX0_nextDigit 7 = .ok (.aload_n 0, 1) := by decide +kernel
theorem dX0_nextDigit_8 : decode cX0_nextDigit 8 = .ok (.getfield 9, 3) := by decide +kernel
theorem dX0_nextDigit_11 : decode cX0_nextDigit 11 = .ok (.iload_n 1, 1) := by decide +kernel
theorem dX0_nextDigit_12 : decode cX0_nextDigit 12 = .ok (.iaload, 1) := by decide +kernel
theorem dX0_nextDigit_13 : decode cX0_nextDigit 13 = .ok (.lookupswitch 76 #[(0, 27), (1, 47)], 27) := by decide +kernel
theorem dX0_nextDigit_40 : decode cX0_nextDigit 40 = .ok (.iload_n 2, 1) := by decide +kernel
theorem dX0_nextDigit_41 : decode cX0_nextDigit 41 = .ok (.iconst 1, 1) := by decide +kernel
theorem dX0_nextDigit_42 : decode cX0_nextDigit 42 = .ok (.iadd, 1) := by decide +kernel
theorem dX0_nextDigit_43 : decode cX0_nextDigit 43 = .ok (.aload_n 0, 1) := by decide +kernel
theorem dX0_nextDigit_44 : decode cX0_nextDigit 44 = .ok (.getfield 15, 3) := by decide +kernel
theorem dX0_nextDigit_47 : decode cX0_nextDigit 47 = .ok (.iload_n 1, 1) := by decide +kernel
theorem dX0_nextDigit_48 : decode cX0_nextDigit 48 = .ok (.iaload, 1) := by decide +kernel
theorem dX0_nextDigit_49 : decode cX0_nextDigit 49 = .ok (.if_icmp .ge 9, 3) := by decide +kernel
theorem dX0_nextDigit_52 : decode cX0_nextDigit 52 = .ok (.iload_n 2, 1) := by decide +kernel
theorem dX0_nextDigit_53 : decode cX0_nextDigit 53 = .ok (.iconst 1, 1) := by decide +kernel
theorem dX0_nextDigit_54 : decode cX0_nextDigit 54 = .ok (.iadd, 1) := by decide +kernel
theorem dX0_nextDigit_55 : decode cX0_nextDigit 55 = .ok (.goto 4, 3) := by decide +kernel
theorem dX0_nextDigit_58 : decode cX0_nextDigit 58 = .ok (.iconst 0, 1) := by decide +kernel
theorem dX0_nextDigit_59 : decode cX0_nextDigit 59 = .ok (.ireturn, 1) := by decide +kernel
theorem dX0_nextDigit_60 : decode cX0_nextDigit 60 = .ok (.iload_n 2, 1) := by decide +kernel
theorem dX0_nextDigit_61 : decode cX0_nextDigit 61 = .ok (.iconst 2, 1) := by decide +kernel
theorem dX0_nextDigit_62 : decode cX0_nextDigit 62 = .ok (.iadd, 1) := by decide +kernel
theorem dX0_nextDigit_63 : decode cX0_nextDigit 63 = .ok (.aload_n 0, 1) := by decide +kernel
theorem dX0_nextDigit_64 : decode cX0_nextDigit 64 = .ok (.getfield 15, 3) := by decide +kernel
theorem dX0_nextDigit_67 : decode cX0_nextDigit 67 = .ok (.iload_n 1, 1) := by decide +kernel
theorem dX0_nextDigit_68 : decode cX0_nextDigit 68 = .ok (.iaload, 1) := by decide +kernel
theorem dX0_nextDigit_69 : decode cX0_nextDigit 69 = .ok (.if_icmp .ge 9, 3) := by decide +kernel
theorem dX0_nextDigit_72 : decode cX0_nextDigit 72 = .ok (.iload_n 2, 1) := by decide +kernel
theorem dX0_nextDigit_73 : decode cX0_nextDigit 73 = .ok (.iconst 2, 1) := by decide +kernel
theorem dX0_nextDigit_74 : decode cX0_nextDigit 74 = .ok (.iadd, 1) := by decide +kernel
theorem dX0_nextDigit_75 : decode cX0_nextDigit 75 = .ok (.goto 13, 3) := by decide +kernel
theorem dX0_nextDigit_78 : decode cX0_nextDigit 78 = .ok (.iload_n 2, 1) := by decide +kernel
theorem dX0_nextDigit_79 : decode cX0_nextDigit 79 = .ok (.iconst 2, 1) := by decide +kernel
theorem dX0_nextDigit_80 : decode cX0_nextDigit 80 = .ok (.iadd, 1) := by decide +kernel
theorem dX0_nextDigit_81 : decode cX0_nextDigit 81 = .ok (.aload_n 0, 1) := by decide +kernel
theorem dX0_nextDigit_82 : decode cX0_nextDigit 82 = .ok (.getfield 15, 3) := by decide +kernel
theorem dX0_nextDigit_85 : decode cX0_nextDigit 85 = .ok (.iload_n 1, 1) := by decide +kernel
theorem dX0_nextDigit_86 : decode cX0_nextDigit 86 = .ok (.iaload, 1) := by decide +kernel
theorem dX0_nextDigit_87 : decode cX0_nextDigit 87 = .ok (.isub, 1) := by decide +kernel
theorem dX0_nextDigit_88 : decode cX0_nextDigit 88 = .ok (.ireturn, 1) := by decide +kernel
theorem dX0_nextDigit_89 : decode cX0_nextDigit 89 = .ok (.iload_n 2, 1) := by decide +kernel
theorem dX0_nextDigit_90 : decode cX0_nextDigit 90 = .ok (.ifCond .le 9, 3) := by decide +kernel
theorem dX0_nextDigit_93 : decode cX0_nextDigit 93 = .ok (.iload_n 2, 1) := by decide +kernel
theorem dX0_nextDigit_94 : decode cX0_nextDigit 94 = .ok (.iconst 1, 1) := by decide +kernel
theorem dX0_nextDigit_95 : decode cX0_nextDigit 95 = .ok (.isub, 1) := by decide +kernel
theorem dX0_nextDigit_96 : decode cX0_nextDigit 96 = .ok (.goto 11, 3) := by decide +kernel
theorem dX0_nextDigit_99 : decode cX0_nextDigit 99 = .ok (.aload_n 0, 1) := by decide +kernel
theorem dX0_nextDigit_100 : decode cX0_nextDigit 100 = .ok (.getfield 15, 3) := by decide +kernel
theorem dX0_nextDigit_103 : decode cX0_nextDigit 103 = .ok (.iload_n 1, 1) := by decide +kernel
theorem dX0_nextDigit_104 : decode cX0_nextDigit 104 = .ok (.iaload, 1) := by decide +kernel
theorem dX0_nextDigit_105 : decode cX0_nextDigit 105 = .ok (.iconst 1, 1) := by decide +kernel
theorem dX0_nextDigit_106 : decode cX0_nextDigit 106 = .ok (.isub, 1) := by decide +kernel
theorem dX0_nextDigit_107 : decode cX0_nextDigit 107 = .ok (.ireturn, 1) := by decide +kernel
theorem dX0_wouldCarry_0 : decode cX0_wouldCarry 0 = .ok (.aload_n 0, 1) := by decide +kernel
theorem dX0_wouldCarry_1 : decode cX0_wouldCarry 1 = .ok (.getfield 18, 3) := by decide +kernel
theorem dX0_wouldCarry_4 : decode cX0_wouldCarry 4 = .ok (.iload_n 1, 1) := by decide +kernel
theorem dX0_wouldCarry_5 : decode cX0_wouldCarry 5 = .ok (.iaload, 1) := by decide +kernel
theorem dX0_wouldCarry_6 : decode cX0_wouldCarry 6 = .ok (.istore_n 2, 1) := by decide +kernel
theorem dX0_wouldCarry_7 : decode cX0_wouldCarry 7 = .ok (.iload_n 2, 1) := by decide +kernel
theorem dX0_wouldCarry_8 : decode cX0_wouldCarry 8 = .ok (.aload_n 0, 1) := by decide +kernel
theorem dX0_wouldCarry_9 : decode cX0_wouldCarry 9 = .ok (.getfield 21, 3) := by decide +kernel
theorem dX0_wouldCarry_12 : decode cX0_wouldCarry 12 = .ok (.iload_n 1, 1) := by decide +kernel
theorem dX0_wouldCarry_13 : decode cX0_wouldCarry 13 = .ok (.iaload, 1) := by decide +kernel
theorem dX0_wouldCarry_14 : decode cX0_wouldCarry 14 = .ok (.if_icmp .ne 5, 3) := by decide +kernel
theorem dX0_wouldCarry_17 : decode cX0_wouldCarry 17 = .ok (.iconst 0, 1) := by decide +kernel
theorem dX0_wouldCarry_18 : decode cX0_wouldCarry 18 = .ok (.ireturn, 1) := by decide +kernel
theorem dX0_wouldCarry_19 : decode cX0_wouldCarry 19 = .ok (.aload_n 0, 1) := by decide +kernel
theorem dX0_wouldCarry_20 : decode cX0_wouldCarry 20 = .ok (.getfield 9, 3) := by decide +kernel
theorem dX0_wouldCarry_23 : decode cX0_wouldCarry 23 = .ok (.iload_n 1, 1) := by decide +kernel
theorem dX0_wouldCarry_24 : decode cX0_wouldCarry 24 = .ok (.iaload, 1) := by decide +kernel
theorem dX0_wouldCarry_25 : decode cX0_wouldCarry 25 = .ok (.lookupswitch 55 #[(1, 27), (2, 45)], 27) := by decide +kernel
theorem dX0_wouldCarry_52 : decode cX0_wouldCarry 52 = .ok (.iload_n 2, 1) := by decide +kernel
theorem dX0_wouldCarry_53 : decode cX0_wouldCarry 53 = .ok (.aload_n 0, 1) := by decide +kernel
theorem dX0_wouldCarry_54 : decode cX0_wouldCarry 54 = .ok (.getfield 15, 3) := by decide +kernel
theorem dX0_wouldCarry_57 : decode cX0_wouldCarry 57 = .ok (.iload_n 1, 1) := by decide +kernel
theorem dX0_wouldCarry_58 : decode cX0_wouldCarry 58 = .ok (.iaload, 1) := by decide +kernel
theorem dX0_wouldCarry_59 : decode cX0_wouldCarry 59 = .ok (.iconst 2, 1) := by decide +kernel
theorem dX0_wouldCarry_60 : decode cX0_wouldCarry 60 = .ok (.isub, 1) := by decide +kernel
theorem dX0_wouldCarry_61 : decode cX0_wouldCarry 61 = .ok (.if_icmp .lt 7, 3) := by decide +kernel
theorem dX0_wouldCarry_64 : decode cX0_wouldCarry 64 = .ok (.iconst 1, 1) := by decide +kernel
theorem dX0_wouldCarry_65 : decode cX0_wouldCarry 65 = .ok (.goto 4, 3) := by decide +kernel
theorem dX0_wouldCarry_68 : decode cX0_wouldCarry 68 = .ok (.iconst 0, 1) := by decide +kernel
theorem dX0_wouldCarry_69 : decode cX0_wouldCarry 69 = .ok (.ireturn, 1) := by decide +kernel
theorem dX0_wouldCarry_70 : decode cX0_wouldCarry 70 = .ok (.iload_n 2, 1) := by decide +kernel
theorem dX0_wouldCarry_71 : decode cX0_wouldCarry 71 = .ok (.ifCond .ne 7, 3) := by decide +kernel
theorem dX0_wouldCarry_74 : decode cX0_wouldCarry 74 = .ok (.iconst 1, 1) := by decide +kernel
theorem dX0_wouldCarry_75 : decode cX0_wouldCarry 75 = .ok (.goto 4, 3) := by decide +kernel
theorem dX0_wouldCarry_78 : decode cX0_wouldCarry 78 = .ok (.iconst 0, 1) := by decide +kernel
theorem dX0_wouldCarry_79 : decode cX0_wouldCarry 79 = .ok (.ireturn, 1) := by decide +kernel
theorem dX0_wouldCarry_80 : decode cX0_wouldCarry 80 = .ok (.iload_n 2, 1) := by decide +kernel
theorem dX0_wouldCarry_81 : decode cX0_wouldCarry 81 = .ok (.aload_n 0, 1) := by decide +kernel
theorem dX0_wouldCarry_82 : decode cX0_wouldCarry 82 = .ok (.getfield 15, 3) := by decide +kernel
theorem dX0_wouldCarry_85 : decode cX0_wouldCarry 85 = .ok (.iload_n 1, 1) := by decide +kernel
theorem dX0_wouldCarry_86 : decode cX0_wouldCarry 86 = .ok (.iaload, 1) := by decide +kernel
theorem dX0_wouldCarry_87 : decode cX0_wouldCarry 87 = .ok (.iconst 1, 1) := by decide +kernel
theorem dX0_wouldCarry_88 : decode cX0_wouldCarry 88 = .ok (.isub, 1) := by decide +kernel
theorem dX0_wouldCarry_89 : decode cX0_wouldCarry 89 = .ok (.if_icmp .ne 7, 3) := by decide +kernel
theorem dX0_wouldCarry_92 : decode cX0_wouldCarry 92 = .ok (.iconst 1, 1) := by decide +kernel
theorem dX0_wouldCarry_93 : decode cX0_wouldCarry 93 = .ok (.goto 4, 3) := by decide +kernel
theorem dX0_wouldCarry_96 : decode cX0_wouldCarry 96 = .ok (.iconst 0, 1) := by decide +kernel
theorem dX0_wouldCarry_97 : decode cX0_wouldCarry 97 = .ok (.ireturn, 1) := by decide +kernel
theorem dX0_turnFrom_0 : decode cX0_turnFrom 0 = .ok (.iconst 1, 1) := by decide +kernel
theorem dX0_turnFrom_1 : decode cX0_turnFrom 1 = .ok (.istore_n 2, 1) := by decide +kernel
theorem dX0_turnFrom_2 : decode cX0_turnFrom 2 = .ok (.iload_n 1, 1) := by decide +kernel
theorem dX0_turnFrom_3 : decode cX0_turnFrom 3 = .ok (.istore_n 3, 1) := by decide +kernel
theorem dX0_turnFrom_4 : decode cX0_turnFrom 4 = .ok (.iload_n 2, 1) := by decide +kernel
theorem dX0_turnFrom_5 : decode cX0_turnFrom 5 = .ok (.ifCond .eq 48, 3) := by decide +kernel
theorem dX0_turnFrom_8 : decode cX0_turnFrom 8 = .ok (.iload_n 3, 1) := by decide +kernel
theorem dX0_turnFrom_9 : decode cX0_turnFrom 9 = .ok (.aload_n 0, 1) := by decide +kernel
theorem dX0_turnFrom_10 : decode cX0_turnFrom 10 = .ok (.getfield 24, 3) := by decide +kernel
theorem dX0_turnFrom_13 : decode cX0_turnFrom 13 = .ok (.if_icmp .ge 40, 3) := by decide +kernel
theorem dX0_turnFrom_16 : decode cX0_turnFrom 16 = .ok (.aload_n 0, 1) := by decide +kernel
theorem dX0_turnFrom_17 : decode cX0_turnFrom 17 = .ok (.iload_n 3, 1) := by decide +kernel
theorem dX0_turnFrom_18 : decode cX0_turnFrom 18 = .ok (.invokevirtual 61, 3) := by decide +kernel
theorem dX0_turnFrom_21 : decode cX0_turnFrom 21 = .ok (.istore_n 2, 1) := by decide +kernel
theorem dX0_turnFrom_22 : decode cX0_turnFrom 22 = .ok (.aload_n 0, 1) := by decide +kernel
theorem dX0_turnFrom_23 : decode cX0_turnFrom 23 = .ok (.getfield 18, 3) := by decide +kernel
theorem dX0_turnFrom_26 : decode cX0_turnFrom 26 = .ok (.iload_n 3, 1) := by decide +kernel
theorem dX0_turnFrom_27 : decode cX0_turnFrom 27 = .ok (.aload_n 0, 1) := by decide +kernel
theorem dX0_turnFrom_28 : decode cX0_turnFrom 28 = .ok (.iload_n 3, 1) := by decide +kernel
theorem dX0_turnFrom_29 : decode cX0_turnFrom 29 = .ok (.invokevirtual 64, 3) := by decide +kernel
theorem dX0_turnFrom_32 : decode cX0_turnFrom 32 = .ok (.iastore, 1) := by decide +kernel
theorem dX0_turnFrom_33 : decode cX0_turnFrom 33 = .ok (.iload_n 2, 1) := by decide +kernel
theorem dX0_turnFrom_34 : decode cX0_turnFrom 34 = .ok (.ifCond .eq 13, 3) := by decide +kernel
theorem dX0_turnFrom_37 : decode cX0_turnFrom 37 = .ok (.aload_n 0, 1) := by decide +kernel
theorem dX0_turnFrom_38 : decode cX0_turnFrom 38 = .ok (.dup, 1) := by decide +kernel
theorem dX0_turnFrom_39 : decode cX0_turnFrom 39 = .ok (.getfield 54, 3) := by decide +kernel
theorem dX0_turnFrom_42 : decode cX0_turnFrom 42 = .ok (.iconst 1, 1) := by decide +kernel
theorem dX0_turnFrom_43 : decode cX0_turnFrom 43 = .ok (.iadd, 1) := by decide +kernel
theorem dX0_turnFrom_44 : decode cX0_turnFrom 44 = .ok (.putfield 54, 3) := by decide +kernel
theorem dX0_turnFrom_47 : decode cX0_turnFrom 47 = .ok (.iinc 3 1, 3) := by decide +kernel
theorem dX0_turnFrom_50 : decode cX0_turnFrom 50 = .ok (.goto (-46), 3) := by decide +kernel
theorem dX0_turnFrom_53 : decode cX0_turnFrom 53 = .ok (.return_, 1) := by decide +kernel
theorem dX0_pushOnce_0 : decode cX0_pushOnce 0 = .ok (.aload_n 0, 1) := by decide +kernel
theorem dX0_pushOnce_1 : decode cX0_pushOnce 1 = .ok (.dup, 1) := by decide +kernel
theorem dX0_pushOnce_2 : decode cX0_pushOnce 2 = .ok (.getfield 51, 3) := by decide +kernel
theorem dX0_pushOnce_5 : decode cX0_pushOnce 5 = .ok (.iconst 1, 1) := by decide +kernel
theorem dX0_pushOnce_6 : decode cX0_pushOnce 6 = .ok (.iadd, 1) := by decide +kernel
theorem dX0_pushOnce_7 : decode cX0_pushOnce 7 = .ok (.putfield 51, 3) := by decide +kernel
theorem dX0_pushOnce_10 : decode cX0_pushOnce 10 = .ok (.aload_n 0, 1) := by decide +kernel
theorem dX0_pushOnce_11 : decode cX0_pushOnce 11 = .ok (.iconst 0, 1) := by decide +kernel
theorem dX0_pushOnce_12 : decode cX0_pushOnce 12 = .ok (.invokevirtual 68, 3) := by decide +kernel
theorem dX0_pushOnce_15 : decode cX0_pushOnce 15 = .ok (.return_, 1) := by decide +kernel
theorem dX0_push_0 : decode cX0_push 0 = .ok (.iconst 0, 1) := by decide +kernel
theorem dX0_push_1 : decode cX0_push 1 = .ok (.istore_n 2, 1) := by decide +kernel
theorem dX0_push_2 : decode cX0_push 2 = .ok (.iload_n 2, 1) := by decide +kernel
theorem dX0_push_3 : decode cX0_push 3 = .ok (.iload_n 1, 1) := by decide +kernel
theorem dX0_push_4 : decode cX0_push 4 = .ok (.if_icmp .ge 13, 3) := by decide +kernel
theorem dX0_push_7 : decode cX0_push 7 = .ok (.aload_n 0, 1) := by decide +kernel
theorem dX0_push_8 : decode cX0_push 8 = .ok (.invokevirtual 72, 3) := by decide +kernel
theorem dX0_push_11 : decode cX0_push 11 = .ok (.iinc 2 1, 3) := by decide +kernel
theorem dX0_push_14 : decode cX0_push 14 = .ok (.goto (-12), 3) := by decide +kernel
theorem dX0_push_17 : decode cX0_push 17 = .ok (.return_, 1) := by decide +kernel
theorem dX0_takeDigitAndPush_0 : decode cX0_takeDigitAndPush 0 = .ok (.aload_n 0, 1) := by decide +kernel
theorem dX0_takeDigitAndPush_1 : decode cX0_takeDigitAndPush 1 = .ok (.iload_n 1, 1) := by decide +kernel
theorem dX0_takeDigitAndPush_2 : decode cX0_takeDigitAndPush 2 = .ok (.iconst 2, 1) := by decide +kernel
theorem dX0_takeDigitAndPush_3 : decode cX0_takeDigitAndPush 3 = .ok (.iload_n 2, 1) := by decide +kernel
theorem dX0_takeDigitAndPush_4 : decode cX0_takeDigitAndPush 4 = .ok (.invokevirtual 75, 3) := by decide +kernel
theorem dX0_takeDigitAndPush_7 : decode cX0_takeDigitAndPush 7 = .ok (.ifCond .lt 12, 3) := by decide +kernel
theorem dX0_takeDigitAndPush_10 : decode cX0_takeDigitAndPush 10 = .ok (.aload_n 0, 1) := by decide +kernel
theorem dX0_takeDigitAndPush_11 : decode cX0_takeDigitAndPush 11 = .ok (.getfield 51, 3) := by decide +kernel
theorem dX0_takeDigitAndPush_14 : decode cX0_takeDigitAndPush 14 = .ok (.ldc 79, 2) := by decide +kernel
theorem dX0_takeDigitAndPush_16 : decode cX0_takeDigitAndPush 16 = .ok (.if_icmp .lt 5, 3) := by decide +kernel
theorem dX0_takeDigitAndPush_19 : decode cX0_takeDigitAndPush 19 = .ok (.iconst 0, 1) := by decide +kernel
theorem dX0_takeDigitAndPush_20 : decode cX0_takeDigitAndPush 20 = .ok (.ireturn, 1) := by decide +kernel
theorem dX0_takeDigitAndPush_21 : decode cX0_takeDigitAndPush 21 = .ok (.aload_n 0, 1) := by decide +kernel
theorem dX0_takeDigitAndPush_22 : decode cX0_takeDigitAndPush 22 = .ok (.invokevirtual 72, 3) := by decide +kernel
theorem dX0_takeDigitAndPush_25 : decode cX0_takeDigitAndPush 25 = .ok (.iconst 1, 1) := by decide +kernel
theorem dX0_takeDigitAndPush_26 : decode cX0_takeDigitAndPush 26 = .ok (.ireturn, 1) := by decide +kernel
theorem dX0_reading_0 : decode cX0_reading 0 = .ok (.iconst 0, 1) := by decide +kernel
theorem dX0_reading_1 : decode cX0_reading 1 = .ok (.istore_n 1, 1) := by decide +kernel
theorem dX0_reading_2 : decode cX0_reading 2 = .ok (.iconst 1, 1) := by decide +kernel
theorem dX0_reading_3 : decode cX0_reading 3 = .ok (.istore_n 2, 1) := by decide +kernel
theorem dX0_reading_4 : decode cX0_reading 4 = .ok (.iconst 0, 1) := by decide +kernel
theorem dX0_reading_5 : decode cX0_reading 5 = .ok (.istore_n 3, 1) := by decide +kernel
theorem dX0_reading_6 : decode cX0_reading 6 = .ok (.iload_n 3, 1) := by decide +kernel
theorem dX0_reading_7 : decode cX0_reading 7 = .ok (.aload_n 0, 1) := by decide +kernel
theorem dX0_reading_8 : decode cX0_reading 8 = .ok (.getfield 24, 3) := by decide +kernel
theorem dX0_reading_11 : decode cX0_reading 11 = .ok (.if_icmp .ge 29, 3) := by decide +kernel
theorem dX0_reading_14 : decode cX0_reading 14 = .ok (.iload_n 1, 1) := by decide +kernel
theorem dX0_reading_15 : decode cX0_reading 15 = .ok (.iload_n 2, 1) := by decide +kernel
theorem dX0_reading_16 : decode cX0_reading 16 = .ok (.aload_n 0, 1) := by decide +kernel
theorem dX0_reading_17 : decode cX0_reading 17 = .ok (.getfield 18, 3) := by decide +kernel
theorem dX0_reading_20 : decode cX0_reading 20 = .ok (.iload_n 3, 1) := by decide +kernel
theorem dX0_reading_21 : decode cX0_reading 21 = .ok (.iaload, 1) := by decide +kernel
theorem dX0_reading_22 : decode cX0_reading 22 = .ok (.imul, 1) := by decide +kernel
theorem dX0_reading_23 : decode cX0_reading 23 = .ok (.iadd, 1) := by decide +kernel
theorem dX0_reading_24 : decode cX0_reading 24 = .ok (.istore_n 1, 1) := by decide +kernel
theorem dX0_reading_25 : decode cX0_reading 25 = .ok (.iload_n 2, 1) := by decide +kernel
theorem dX0_reading_26 : decode cX0_reading 26 = .ok (.aload_n 0, 1) := by decide +kernel
theorem dX0_reading_27 : decode cX0_reading 27 = .ok (.getfield 15, 3) := by decide +kernel
theorem dX0_reading_30 : decode cX0_reading 30 = .ok (.iload_n 3, 1) := by decide +kernel
theorem dX0_reading_31 : decode cX0_reading 31 = .ok (.iaload, 1) := by decide +kernel
theorem dX0_reading_32 : decode cX0_reading 32 = .ok (.imul, 1) := by decide +kernel
theorem dX0_reading_33 : decode cX0_reading 33 = .ok (.istore_n 2, 1) := by decide +kernel
theorem dX0_reading_34 : decode cX0_reading 34 = .ok (.iinc 3 1, 3) := by decide +kernel
theorem dX0_reading_37 : decode cX0_reading 37 = .ok (.goto (-31), 3) := by decide +kernel
theorem dX0_reading_40 : decode cX0_reading 40 = .ok (.iload_n 1, 1) := by decide +kernel
theorem dX0_reading_41 : decode cX0_reading 41 = .ok (.ireturn, 1) := by decide +kernel
theorem dX0_product_0 : decode cX0_product 0 = .ok (.iconst 1, 1) := by decide +kernel
theorem dX0_product_1 : decode cX0_product 1 = .ok (.istore_n 1, 1) := by decide +kernel
theorem dX0_product_2 : decode cX0_product 2 = .ok (.iconst 0, 1) := by decide +kernel
theorem dX0_product_3 : decode cX0_product 3 = .ok (.istore_n 2, 1) := by decide +kernel
theorem dX0_product_4 : decode cX0_product 4 = .ok (.iload_n 2, 1) := by decide +kernel
theorem dX0_product_5 : decode cX0_product 5 = .ok (.aload_n 0, 1) := by decide +kernel
theorem dX0_product_6 : decode cX0_product 6 = .ok (.getfield 24, 3) := by decide +kernel
theorem dX0_product_9 : decode cX0_product 9 = .ok (.if_icmp .ge 18, 3) := by decide +kernel
theorem dX0_product_12 : decode cX0_product 12 = .ok (.iload_n 1, 1) := by decide +kernel
theorem dX0_product_13 : decode cX0_product 13 = .ok (.aload_n 0, 1) := by decide +kernel
theorem dX0_product_14 : decode cX0_product 14 = .ok (.getfield 15, 3) := by decide +kernel
theorem dX0_product_17 : decode cX0_product 17 = .ok (.iload_n 2, 1) := by decide +kernel
theorem dX0_product_18 : decode cX0_product 18 = .ok (.iaload, 1) := by decide +kernel
theorem dX0_product_19 : decode cX0_product 19 = .ok (.imul, 1) := by decide +kernel
theorem dX0_product_20 : decode cX0_product 20 = .ok (.istore_n 1, 1) := by decide +kernel
theorem dX0_product_21 : decode cX0_product 21 = .ok (.iinc 2 1, 3) := by decide +kernel
theorem dX0_product_24 : decode cX0_product 24 = .ok (.goto (-20), 3) := by decide +kernel
theorem dX0_product_27 : decode cX0_product 27 = .ok (.iload_n 1, 1) := by decide +kernel
theorem dX0_product_28 : decode cX0_product 28 = .ok (.ireturn, 1) := by decide +kernel
theorem dX0_error_0 : decode cX0_error 0 = .ok (.aload_n 0, 1) := by decide +kernel
theorem dX0_error_1 : decode cX0_error 1 = .ok (.invokevirtual 80, 3) := by decide +kernel
theorem dX0_error_4 : decode cX0_error 4 = .ok (.istore_n 1, 1) := by decide +kernel
theorem dX0_error_5 : decode cX0_error 5 = .ok (.iload_n 1, 1) := by decide +kernel
theorem dX0_error_6 : decode cX0_error 6 = .ok (.ifCond .le 12, 3) := by decide +kernel
theorem dX0_error_9 : decode cX0_error 9 = .ok (.aload_n 0, 1) := by decide +kernel
theorem dX0_error_10 : decode cX0_error 10 = .ok (.getfield 51, 3) := by decide +kernel
theorem dX0_error_13 : decode cX0_error 13 = .ok (.iload_n 1, 1) := by decide +kernel
theorem dX0_error_14 : decode cX0_error 14 = .ok (.irem, 1) := by decide +kernel
theorem dX0_error_15 : decode cX0_error 15 = .ok (.goto 4, 3) := by decide +kernel
theorem dX0_error_18 : decode cX0_error 18 = .ok (.iconst 0, 1) := by decide +kernel
theorem dX0_error_19 : decode cX0_error 19 = .ok (.istore_n 2, 1) := by decide +kernel
theorem dX0_error_20 : decode cX0_error 20 = .ok (.aload_n 0, 1) := by decide +kernel
theorem dX0_error_21 : decode cX0_error 21 = .ok (.invokevirtual 84, 3) := by decide +kernel
theorem dX0_error_24 : decode cX0_error 24 = .ok (.iload_n 2, 1) := by decide +kernel
theorem dX0_error_25 : decode cX0_error 25 = .ok (.isub, 1) := by decide +kernel
theorem dX0_error_26 : decode cX0_error 26 = .ok (.invokestatic 87, 3) := by decide +kernel
theorem dX0_error_29 : decode cX0_error 29 = .ok (.ireturn, 1) := by decide +kernel
theorem dX0_carrying_0 : decode cX0_carrying 0 = .ok (.iconst 0, 1) := by decide +kernel
theorem dX0_carrying_1 : decode cX0_carrying 1 = .ok (.istore_n 1, 1) := by decide +kernel
theorem dX0_carrying_2 : decode cX0_carrying 2 = .ok (.iconst 0, 1) := by decide +kernel
theorem dX0_carrying_3 : decode cX0_carrying 3 = .ok (.istore_n 2, 1) := by decide +kernel
theorem dX0_carrying_4 : decode cX0_carrying 4 = .ok (.iload_n 2, 1) := by decide +kernel
theorem dX0_carrying_5 : decode cX0_carrying 5 = .ok (.aload_n 0, 1) := by decide +kernel
theorem dX0_carrying_6 : decode cX0_carrying 6 = .ok (.getfield 24, 3) := by decide +kernel
theorem dX0_carrying_9 : decode cX0_carrying 9 = .ok (.if_icmp .ge 23, 3) := by decide +kernel
theorem dX0_carrying_12 : decode cX0_carrying 12 = .ok (.aload_n 0, 1) := by decide +kernel
theorem dX0_carrying_13 : decode cX0_carrying 13 = .ok (.iload_n 2, 1) := by decide +kernel
theorem dX0_carrying_14 : decode cX0_carrying 14 = .ok (.invokevirtual 61, 3) := by decide +kernel
theorem dX0_carrying_17 : decode cX0_carrying 17 = .ok (.ifCond .eq 9, 3) := by decide +kernel
theorem dX0_carrying_20 : decode cX0_carrying 20 = .ok (.iload_n 1, 1) := by decide +kernel
theorem dX0_carrying_21 : decode cX0_carrying 21 = .ok (.iconst 1, 1) := by decide +kernel
theorem dX0_carrying_22 : decode cX0_carrying 22 = .ok (.iload_n 2, 1) := by decide +kernel
theorem dX0_carrying_23 : decode cX0_carrying 23 = .ok (.ishl, 1) := by decide +kernel
theorem dX0_carrying_24 : decode cX0_carrying 24 = .ok (.ior, 1) := by decide +kernel
theorem dX0_carrying_25 : decode cX0_carrying 25 = .ok (.istore_n 1, 1) := by decide +kernel
theorem dX0_carrying_26 : decode cX0_carrying 26 = .ok (.iinc 2 1, 3) := by decide +kernel
theorem dX0_carrying_29 : decode cX0_carrying 29 = .ok (.goto (-25), 3) := by decide +kernel
theorem dX0_carrying_32 : decode cX0_carrying 32 = .ok (.iload_n 1, 1) := by decide +kernel
theorem dX0_carrying_33 : decode cX0_carrying 33 = .ok (.ireturn, 1) := by decide +kernel
theorem dX0_isAllZero_0 : decode cX0_isAllZero 0 = .ok (.iconst 0, 1) := by decide +kernel
theorem dX0_isAllZero_1 : decode cX0_isAllZero 1 = .ok (.istore_n 1, 1) := by decide +kernel
theorem dX0_isAllZero_2 : decode cX0_isAllZero 2 = .ok (.iload_n 1, 1) := by decide +kernel
theorem dX0_isAllZero_3 : decode cX0_isAllZero 3 = .ok (.aload_n 0, 1) := by decide +kernel
theorem dX0_isAllZero_4 : decode cX0_isAllZero 4 = .ok (.getfield 24, 3) := by decide +kernel
theorem dX0_isAllZero_7 : decode cX0_isAllZero 7 = .ok (.if_icmp .ge 20, 3) := by decide +kernel
theorem dX0_isAllZero_10 : decode cX0_isAllZero 10 = .ok (.aload_n 0, 1) := by decide +kernel
theorem dX0_isAllZero_11 : decode cX0_isAllZero 11 = .ok (.getfield 18, 3) := by decide +kernel
theorem dX0_isAllZero_14 : decode cX0_isAllZero 14 = .ok (.iload_n 1, 1) := by decide +kernel
theorem dX0_isAllZero_15 : decode cX0_isAllZero 15 = .ok (.iaload, 1) := by decide +kernel
theorem dX0_isAllZero_16 : decode cX0_isAllZero 16 = .ok (.ifCond .eq 5, 3) := by decide +kernel
theorem dX0_isAllZero_19 : decode cX0_isAllZero 19 = .ok (.iconst 0, 1) := by decide +kernel
theorem dX0_isAllZero_20 : decode cX0_isAllZero 20 = .ok (.ireturn, 1) := by decide +kernel
theorem dX0_isAllZero_21 : decode cX0_isAllZero 21 = .ok (.iinc 1 1, 3) := by decide +kernel
theorem dX0_isAllZero_24 : decode cX0_isAllZero 24 = .ok (.goto (-22), 3) := by decide +kernel
theorem dX0_isAllZero_27 : decode cX0_isAllZero 27 = .ok (.iconst 1, 1) := by decide +kernel
theorem dX0_isAllZero_28 : decode cX0_isAllZero 28 = .ok (.ireturn, 1) := by decide +kernel
theorem dX0_showsAs_0 : decode cX0_showsAs 0 = .ok (.iconst 0, 1) := by decide +kernel
theorem dX0_showsAs_1 : decode cX0_showsAs 1 = .ok (.istore_n 2, 1) := by decide +kernel
theorem dX0_showsAs_2 : decode cX0_showsAs 2 = .ok (.iload_n 2, 1) := by decide +kernel
theorem dX0_showsAs_3 : decode cX0_showsAs 3 = .ok (.aload_n 0, 1) := by decide +kernel
theorem dX0_showsAs_4 : decode cX0_showsAs 4 = .ok (.getfield 24, 3) := by decide +kernel
theorem dX0_showsAs_7 : decode cX0_showsAs 7 = .ok (.if_icmp .ge 26, 3) := by decide +kernel
theorem dX0_showsAs_10 : decode cX0_showsAs 10 = .ok (.aload_n 0, 1) := by decide +kernel
theorem dX0_showsAs_11 : decode cX0_showsAs 11 = .ok (.getfield 18, 3) := by decide +kernel
theorem dX0_showsAs_14 : decode cX0_showsAs 14 = .ok (.iload_n 2, 1) := by decide +kernel
theorem dX0_showsAs_15 : decode cX0_showsAs 15 = .ok (.iaload, 1) := by decide +kernel
theorem dX0_showsAs_16 : decode cX0_showsAs 16 = .ok (.aload_n 1, 1) := by decide +kernel
theorem dX0_showsAs_17 : decode cX0_showsAs 17 = .ok (.getfield 18, 3) := by decide +kernel
theorem dX0_showsAs_20 : decode cX0_showsAs 20 = .ok (.iload_n 2, 1) := by decide +kernel
theorem dX0_showsAs_21 : decode cX0_showsAs 21 = .ok (.iaload, 1) := by decide +kernel
theorem dX0_showsAs_22 : decode cX0_showsAs 22 = .ok (.if_icmp .eq 5, 3) := by decide +kernel
theorem dX0_showsAs_25 : decode cX0_showsAs 25 = .ok (.iconst 0, 1) := by decide +kernel
theorem dX0_showsAs_26 : decode cX0_showsAs 26 = .ok (.ireturn, 1) := by decide +kernel
theorem dX0_showsAs_27 : decode cX0_showsAs 27 = .ok (.iinc 2 1, 3) := by decide +kernel
theorem dX0_showsAs_30 : decode cX0_showsAs 30 = .ok (.goto (-28), 3) := by decide +kernel
theorem dX0_showsAs_33 : decode cX0_showsAs 33 = .ok (.iconst 1, 1) := by decide +kernel
theorem dX0_showsAs_34 : decode cX0_showsAs 34 = .ok (.ireturn, 1) := by decide +kernel
theorem dX0_teethInAll_0 : decode cX0_teethInAll 0 = .ok (.iconst 0, 1) := by decide +kernel
theorem dX0_teethInAll_1 : decode cX0_teethInAll 1 = .ok (.istore_n 1, 1) := by decide +kernel
theorem dX0_teethInAll_2 : decode cX0_teethInAll 2 = .ok (.iconst 0, 1) := by decide +kernel
theorem dX0_teethInAll_3 : decode cX0_teethInAll 3 = .ok (.istore_n 2, 1) := by decide +kernel
theorem dX0_teethInAll_4 : decode cX0_teethInAll 4 = .ok (.iload_n 2, 1) := by decide +kernel
theorem dX0_teethInAll_5 : decode cX0_teethInAll 5 = .ok (.aload_n 0, 1) := by decide +kernel
theorem dX0_teethInAll_6 : decode cX0_teethInAll 6 = .ok (.getfield 24, 3) := by decide +kernel
theorem dX0_teethInAll_9 : decode cX0_teethInAll 9 = .ok (.if_icmp .ge 18, 3) := by decide +kernel
theorem dX0_teethInAll_12 : decode cX0_teethInAll 12 = .ok (.iload_n 1, 1) := by decide +kernel
theorem dX0_teethInAll_13 : decode cX0_teethInAll 13 = .ok (.aload_n 0, 1) := by decide +kernel
theorem dX0_teethInAll_14 : decode cX0_teethInAll 14 = .ok (.getfield 15, 3) := by decide +kernel
theorem dX0_teethInAll_17 : decode cX0_teethInAll 17 = .ok (.iload_n 2, 1) := by decide +kernel
theorem dX0_teethInAll_18 : decode cX0_teethInAll 18 = .ok (.iaload, 1) := by decide +kernel
theorem dX0_teethInAll_19 : decode cX0_teethInAll 19 = .ok (.iadd, 1) := by decide +kernel
theorem dX0_teethInAll_20 : decode cX0_teethInAll 20 = .ok (.istore_n 1, 1) := by decide +kernel
theorem dX0_teethInAll_21 : decode cX0_teethInAll 21 = .ok (.iinc 2 1, 3) := by decide +kernel
theorem dX0_teethInAll_24 : decode cX0_teethInAll 24 = .ok (.goto (-20), 3) := by decide +kernel
theorem dX0_teethInAll_27 : decode cX0_teethInAll 27 = .ok (.iload_n 1, 1) := by decide +kernel
theorem dX0_teethInAll_28 : decode cX0_teethInAll 28 = .ok (.ireturn, 1) := by decide +kernel
theorem dX0_brokenInAll_0 : decode cX0_brokenInAll 0 = .ok (.iconst 0, 1) := by decide +kernel
theorem dX0_brokenInAll_1 : decode cX0_brokenInAll 1 = .ok (.istore_n 1, 1) := by decide +kernel
theorem dX0_brokenInAll_2 : decode cX0_brokenInAll 2 = .ok (.iconst 0, 1) := by decide +kernel
theorem dX0_brokenInAll_3 : decode cX0_brokenInAll 3 = .ok (.istore_n 2, 1) := by decide +kernel
theorem dX0_brokenInAll_4 : decode cX0_brokenInAll 4 = .ok (.iload_n 2, 1) := by decide +kernel
theorem dX0_brokenInAll_5 : decode cX0_brokenInAll 5 = .ok (.aload_n 0, 1) := by decide +kernel
theorem dX0_brokenInAll_6 : decode cX0_brokenInAll 6 = .ok (.getfield 24, 3) := by decide +kernel
theorem dX0_brokenInAll_9 : decode cX0_brokenInAll 9 = .ok (.if_icmp .ge 23, 3) := by decide +kernel
theorem dX0_brokenInAll_12 : decode cX0_brokenInAll 12 = .ok (.aload_n 0, 1) := by decide +kernel
theorem dX0_brokenInAll_13 : decode cX0_brokenInAll 13 = .ok (.getfield 21, 3) := by decide +kernel
theorem dX0_brokenInAll_16 : decode cX0_brokenInAll 16 = .ok (.iload_n 2, 1) := by decide +kernel
theorem dX0_brokenInAll_17 : decode cX0_brokenInAll 17 = .ok (.iaload, 1) := by decide +kernel
theorem dX0_brokenInAll_18 : decode cX0_brokenInAll 18 = .ok (.bipush 12, 2) := by decide +kernel
theorem dX0_brokenInAll_20 : decode cX0_brokenInAll 20 = .ok (.if_icmp .eq 6, 3) := by decide +kernel
theorem dX0_brokenInAll_23 : decode cX0_brokenInAll 23 = .ok (.iinc 1 1, 3) := by decide +kernel
theorem dX0_brokenInAll_26 : decode cX0_brokenInAll 26 = .ok (.iinc 2 1, 3) := by decide +kernel
theorem dX0_brokenInAll_29 : decode cX0_brokenInAll 29 = .ok (.goto (-25), 3) := by decide +kernel
theorem dX0_brokenInAll_32 : decode cX0_brokenInAll 32 = .ok (.iload_n 1, 1) := by decide +kernel
theorem dX0_brokenInAll_33 : decode cX0_brokenInAll 33 = .ok (.ireturn, 1) := by decide +kernel
theorem dX1_init_0 : decode cX1_init 0 = .ok (.aload_n 0, 1) := by decide +kernel
theorem dX1_init_1 : decode cX1_init 1 = .ok (.invokespecial 3, 3) := by decide +kernel
theorem dX1_init_4 : decode cX1_init 4 = .ok (.aload_n 0, 1) := by decide +kernel
theorem dX1_init_5 : decode cX1_init 5 = .ok (.bipush 6, 2) := by decide +kernel
theorem dX1_init_7 : decode cX1_init 7 = .ok (.newarray .int, 2) := by decide +kernel
theorem dX1_init_9 : decode cX1_init 9 = .ok (.putfield 9, 3) := by decide +kernel
theorem dX1_init_12 : decode cX1_init 12 = .ok (.aload_n 0, 1) := by decide +kernel
theorem dX1_init_13 : decode cX1_init 13 = .ok (.bipush 6, 2) := by decide +kernel
theorem dX1_init_15 : decode cX1_init 15 = .ok (.newarray .int, 2) := by decide +kernel
theorem dX1_init_17 : decode cX1_init 17 = .ok (.putfield 15, 3) := by decide +kernel
theorem dX1_init_20 : decode cX1_init 20 = .ok (.return_, 1) := by decide +kernel
theorem dX1_fits_0 : decode cX1_fits 0 = .ok (.iconst 0, 1) := by decide +kernel
theorem dX1_fits_1 : decode cX1_fits 1 = .ok (.istore_n 2, 1) := by decide +kernel
theorem dX1_fits_2 : decode cX1_fits 2 = .ok (.iconst 0, 1) := by decide +kernel
theorem dX1_fits_3 : decode cX1_fits 3 = .ok (.istore_n 3, 1) := by decide +kernel
theorem dX1_fits_4 : decode cX1_fits 4 = .ok (.iload_n 3, 1) := by decide +kernel
theorem dX1_fits_5 : decode cX1_fits 5 = .ok (.aload_n 0, 1) := by decide +kernel
theorem dX1_fits_6 : decode cX1_fits 6 = .ok (.getfield 18, 3) := by decide +kernel
theorem dX1_fits_9 : decode cX1_fits 9 = .ok (.if_icmp .ge 20, 3) := by decide +kernel
theorem dX1_fits_12 : decode cX1_fits 12 = .ok (.iload_n 2, 1) := by decide +kernel
theorem dX1_fits_13 : decode cX1_fits 13 = .ok (.aload_n 0, 1) := by decide +kernel
theorem dX1_fits_14 : decode cX1_fits 14 = .ok (.getfield 9, 3) := by decide +kernel
theorem dX1_fits_17 : decode cX1_fits 17 = .ok (.iload_n 3, 1) := by decide +kernel
theorem dX1_fits_18 : decode cX1_fits 18 = .ok (.iaload, 1) := by decide +kernel
theorem dX1_fits_19 : decode cX1_fits 19 = .ok (.invokestatic 22, 3) := by decide +kernel
theorem dX1_fits_22 : decode cX1_fits 22 = .ok (.istore_n 2, 1) := by decide +kernel
theorem dX1_fits_23 : decode cX1_fits 23 = .ok (.iinc 3 1, 3) := by decide +kernel
theorem dX1_fits_26 : decode cX1_fits 26 = .ok (.goto (-22), 3) := by decide +kernel
theorem dX1_fits_29 : decode cX1_fits 29 = .ok (.iconst 0, 1) := by decide +kernel
theorem dX1_fits_30 : decode cX1_fits 30 = .ok (.istore_n 3, 1) := by decide +kernel
theorem dX1_fits_31 : decode cX1_fits 31 = .ok (.iload_n 3, 1) := by decide +kernel
theorem dX1_fits_32 : decode cX1_fits 32 = .ok (.iload_n 2, 1) := by decide +kernel
theorem dX1_fits_33 : decode cX1_fits 33 = .ok (.if_icmp .gt 24, 3) := by decide +kernel
theorem dX1_fits_36 : decode cX1_fits 36 = .ok (.aload_n 0, 1) := by decide +kernel
theorem dX1_fits_37 : decode cX1_fits 37 = .ok (.iload_n 3, 1) := by decide +kernel
theorem dX1_fits_38 : decode cX1_fits 38 = .ok (.aload_n 1, 1) := by decide +kernel
theorem dX1_fits_39 : decode cX1_fits 39 = .ok (.invokevirtual 28, 3) := by decide +kernel
theorem dX1_fits_42 : decode cX1_fits 42 = .ok (.ifCond .eq 5, 3) := by decide +kernel
theorem dX1_fits_45 : decode cX1_fits 45 = .ok (.iconst 0, 1) := by decide +kernel
theorem dX1_fits_46 : decode cX1_fits 46 = .ok (.ireturn, 1) := by decide +kernel
theorem dX1_fits_47 : decode cX1_fits 47 = .ok (.aload_n 1, 1) := by decide +kernel
theorem dX1_fits_48 : decode cX1_fits 48 = .ok (.invokevirtual 32, 3) := by decide +kernel
theorem dX1_fits_51 : decode cX1_fits 51 = .ok (.iinc 3 1, 3) := by decide +kernel
theorem dX1_fits_54 : decode cX1_fits 54 = .ok (.goto (-23), 3) := by decide +kernel
theorem dX1_fits_57 : decode cX1_fits 57 = .ok (.iconst 1, 1) := by decide +kernel
theorem dX1_fits_58 : decode cX1_fits 58 = .ok (.ireturn, 1) := by decide +kernel
theorem dX1_isAgainst_0 : decode cX1_isAgainst 0 = .ok (.iconst 0, 1) := by decide +kernel
theorem dX1_isAgainst_1 : decode cX1_isAgainst 1 = .ok (.istore_n 3, 1) := by decide +kernel
theorem dX1_isAgainst_2 : decode cX1_isAgainst 2 = .ok (.iload_n 3, 1) := by decide +kernel
theorem dX1_isAgainst_3 : decode cX1_isAgainst 3 = .ok (.aload_n 0, 1) := by decide +kernel
theorem dX1_isAgainst_4 : decode cX1_isAgainst 4 = .ok (.getfield 18, 3) := by decide +kernel
theorem dX1_isAgainst_7 : decode cX1_isAgainst 7 = .ok (.if_icmp .ge 34, 3) := by decide +kernel
theorem dX1_isAgainst_10 : decode cX1_isAgainst 10 = .ok (.aload_n 0, 1) := by decide +kernel
theorem dX1_isAgainst_11 : decode cX1_isAgainst 11 = .ok (.getfield 9, 3) := by decide +kernel
theorem dX1_isAgainst_14 : decode cX1_isAgainst 14 = .ok (.iload_n 3, 1) := by decide +kernel
theorem dX1_isAgainst_15 : decode cX1_isAgainst 15 = .ok (.iaload, 1) := by decide +kernel
theorem dX1_isAgainst_16 : decode cX1_isAgainst 16 = .ok (.iload_n 1, 1) := by decide +kernel
theorem dX1_isAgainst_17 : decode cX1_isAgainst 17 = .ok (.if_icmp .ne 18, 3) := by decide +kernel
theorem dX1_isAgainst_20 : decode cX1_isAgainst 20 = .ok (.aload_n 0, 1) := by decide +kernel
theorem dX1_isAgainst_21 : decode cX1_isAgainst 21 = .ok (.getfield 15, 3) := by decide +kernel
theorem dX1_isAgainst_24 : decode cX1_isAgainst 24 = .ok (.iload_n 3, 1) := by decide +kernel
theorem dX1_isAgainst_25 : decode cX1_isAgainst 25 = .ok (.iaload, 1) := by decide +kernel
theorem dX1_isAgainst_26 : decode cX1_isAgainst 26 = .ok (.aload_n 2, 1) := by decide +kernel
theorem dX1_isAgainst_27 : decode cX1_isAgainst 27 = .ok (.invokevirtual 37, 3) := by decide +kernel
theorem dX1_isAgainst_30 : decode cX1_isAgainst 30 = .ok (.if_icmp .eq 5, 3) := by decide +kernel
theorem dX1_isAgainst_33 : decode cX1_isAgainst 33 = .ok (.iconst 1, 1) := by decide +kernel
theorem dX1_isAgainst_34 : decode cX1_isAgainst 34 = .ok (.ireturn, 1) := by decide +kernel
theorem dX1_isAgainst_35 : decode cX1_isAgainst 35 = .ok (.iinc 3 1, 3) := by decide +kernel
theorem dX1_isAgainst_38 : decode cX1_isAgainst 38 = .ok (.goto (-36), 3) := by decide +kernel
theorem dX1_isAgainst_41 : decode cX1_isAgainst 41 = .ok (.iconst 0, 1) := by decide +kernel
theorem dX1_isAgainst_42 : decode cX1_isAgainst 42 = .ok (.ireturn, 1) := by decide +kernel
theorem dX2_init_0 : decode cX2_init 0 = .ok (.aload_n 0, 1) := by decide +kernel
theorem dX2_init_1 : decode cX2_init 1 = .ok (.invokespecial 1, 3) := by decide +kernel
theorem dX2_init_4 : decode cX2_init 4 = .ok (.aload_n 0, 1) := by decide +kernel
theorem dX2_init_5 : decode cX2_init 5 = .ok (.bipush 40, 2) := by decide +kernel
theorem dX2_init_7 : decode cX2_init 7 = .ok (.newarray .int, 2) := by decide +kernel
theorem dX2_init_9 : decode cX2_init 9 = .ok (.putfield 9, 3) := by decide +kernel
theorem dX2_init_12 : decode cX2_init 12 = .ok (.return_, 1) := by decide +kernel
theorem dX2_renew_0 : decode cX2_renew 0 = .ok (.aload_n 0, 1) := by decide +kernel
theorem dX2_renew_1 : decode cX2_renew 1 = .ok (.iconst 1, 1) := by decide +kernel
theorem dX2_renew_2 : decode cX2_renew 2 = .ok (.putfield 13, 3) := by decide +kernel
theorem dX2_renew_5 : decode cX2_renew 5 = .ok (.aload_n 0, 1) := by decide +kernel
theorem dX2_renew_6 : decode cX2_renew 6 = .ok (.iload_n 1, 1) := by decide +kernel
theorem dX2_renew_7 : decode cX2_renew 7 = .ok (.putfield 17, 3) := by decide +kernel
theorem dX2_renew_10 : decode cX2_renew 10 = .ok (.aload_n 0, 1) := by decide +kernel
theorem dX2_renew_11 : decode cX2_renew 11 = .ok (.iload_n 2, 1) := by decide +kernel
theorem dX2_renew_12 : decode cX2_renew 12 = .ok (.putfield 21, 3) := by decide +kernel
theorem dX2_renew_15 : decode cX2_renew 15 = .ok (.iconst 0, 1) := by decide +kernel
theorem dX2_renew_16 : decode cX2_renew 16 = .ok (.istore_n 3, 1) := by decide +kernel
theorem dX2_renew_17 : decode cX2_renew 17 = .ok (.iload_n 3, 1) := by decide +kernel
theorem dX2_renew_18 : decode cX2_renew 18 = .ok (.bipush 40, 2) := by decide +kernel
theorem dX2_renew_20 : decode cX2_renew 20 = .ok (.if_icmp .ge 16, 3) := by decide +kernel
theorem dX2_renew_23 : decode cX2_renew 23 = .ok (.aload_n 0, 1) := by decide +kernel
theorem dX2_renew_24 : decode cX2_renew 24 = .ok (.getfield 9, 3) := by decide +kernel
theorem dX2_renew_27 : decode cX2_renew 27 = .ok (.iload_n 3, 1) := by decide +kernel
theorem dX2_renew_28 : decode cX2_renew 28 = .ok (.iconst 0, 1) := by decide +kernel
theorem dX2_renew_29 : decode cX2_renew 29 = .ok (.iastore, 1) := by decide +kernel
theorem dX2_renew_30 : decode cX2_renew 30 = .ok (.iinc 3 1, 3) := by decide +kernel
theorem dX2_renew_33 : decode cX2_renew 33 = .ok (.goto (-16), 3) := by decide +kernel
theorem dX2_renew_36 : decode cX2_renew 36 = .ok (.return_, 1) := by decide +kernel
theorem dX2_faultAt_0 : decode cX2_faultAt 0 = .ok (.aload_n 0, 1) := by decide +kernel
theorem dX2_faultAt_1 : decode cX2_faultAt 1 = .ok (.getfield 13, 3) := by decide +kernel
theorem dX2_faultAt_4 : decode cX2_faultAt 4 = .ok (.ifCond .ne 5, 3) := by decide +kernel
theorem dX2_faultAt_7 : decode cX2_faultAt 7 = .ok (.iconst 1, 1) := by decide +kernel
theorem dX2_faultAt_8 : decode cX2_faultAt 8 = .ok (.ireturn, 1) := by decide +kernel
theorem dX2_faultAt_9 : decode cX2_faultAt 9 = .ok (.iload_n 1, 1) := by decide +kernel
theorem dX2_faultAt_10 : decode cX2_faultAt 10 = .ok (.aload_n 0, 1) := by decide +kernel
theorem dX2_faultAt_11 : decode cX2_faultAt 11 = .ok (.getfield 17, 3) := by decide +kernel
theorem dX2_faultAt_14 : decode cX2_faultAt 14 = .ok (.if_icmp .eq 5, 3) := by decide +kernel
theorem dX2_faultAt_17 : decode cX2_faultAt 17 = .ok (.iconst 3, 1) := by decide +kernel
theorem dX2_faultAt_18 : decode cX2_faultAt 18 = .ok (.ireturn, 1) := by decide +kernel
theorem dX2_faultAt_19 : decode cX2_faultAt 19 = .ok (.iload_n 2, 1) := by decide +kernel
theorem dX2_faultAt_20 : decode cX2_faultAt 20 = .ok (.iconst 0, 1) := by decide +kernel
theorem dX2_faultAt_21 : decode cX2_faultAt 21 = .ok (.aload_n 0, 1) := by decide +kernel
theorem dX2_faultAt_22 : decode cX2_faultAt 22 = .ok (.getfield 21, 3) := by decide +kernel
theorem dX2_faultAt_25 : decode cX2_faultAt 25 = .ok (.iconst 1, 1) := by decide +kernel
theorem dX2_faultAt_26 : decode cX2_faultAt 26 = .ok (.isub, 1) := by decide +kernel
theorem dX2_faultAt_27 : decode cX2_faultAt 27 = .ok (.invokestatic 24, 3) := by decide +kernel
theorem dX2_faultAt_30 : decode cX2_faultAt 30 = .ok (.ifCond .eq 7, 3) := by decide +kernel
theorem dX2_faultAt_33 : decode cX2_faultAt 33 = .ok (.iconst 0, 1) := by decide +kernel
theorem dX2_faultAt_34 : decode cX2_faultAt 34 = .ok (.goto 4, 3) := by decide +kernel
theorem dX2_faultAt_37 : decode cX2_faultAt 37 = .ok (.iconst 2, 1) := by decide +kernel
theorem dX2_faultAt_38 : decode cX2_faultAt 38 = .ok (.ireturn, 1) := by decide +kernel
theorem dX2_faultAtPair_0 : decode cX2_faultAtPair 0 = .ok (.aload_n 0, 1) := by decide +kernel
theorem dX2_faultAtPair_1 : decode cX2_faultAtPair 1 = .ok (.iload_n 1, 1) := by decide +kernel
theorem dX2_faultAtPair_2 : decode cX2_faultAtPair 2 = .ok (.iload_n 2, 1) := by decide +kernel
theorem dX2_faultAtPair_3 : decode cX2_faultAtPair 3 = .ok (.invokevirtual 30, 3) := by decide +kernel
theorem dX2_faultAtPair_6 : decode cX2_faultAtPair 6 = .ok (.istore_n 3, 1) := by decide +kernel
theorem dX2_faultAtPair_7 : decode cX2_faultAtPair 7 = .ok (.iload_n 3, 1) := by decide +kernel
theorem dX2_faultAtPair_8 : decode cX2_faultAtPair 8 = .ok (.ifCond .ne 14, 3) := by decide +kernel
theorem dX2_faultAtPair_11 : decode cX2_faultAtPair 11 = .ok (.aload_n 0, 1) := by decide +kernel
theorem dX2_faultAtPair_12 : decode cX2_faultAtPair 12 = .ok (.iload_n 1, 1) := by decide +kernel
theorem dX2_faultAtPair_13 : decode cX2_faultAtPair 13 = .ok (.iload_n 2, 1) := by decide +kernel
theorem dX2_faultAtPair_14 : decode cX2_faultAtPair 14 = .ok (.iconst 1, 1) := by decide +kernel
theorem dX2_faultAtPair_15 : decode cX2_faultAtPair 15 = .ok (.iadd, 1) := by decide +kernel
theorem dX2_faultAtPair_16 : decode cX2_faultAtPair 16 = .ok (.invokevirtual 30, 3) := by decide +kernel
theorem dX2_faultAtPair_19 : decode cX2_faultAtPair 19 = .ok (.goto 4, 3) := by decide +kernel
theorem dX2_faultAtPair_22 : decode cX2_faultAtPair 22 = .ok (.iload_n 3, 1) := by decide +kernel
theorem dX2_faultAtPair_23 : decode cX2_faultAtPair 23 = .ok (.ireturn, 1) := by decide +kernel
theorem dX2_put_0 : decode cX2_put 0 = .ok (.aload_n 0, 1) := by decide +kernel
theorem dX2_put_1 : decode cX2_put 1 = .ok (.getfield 17, 3) := by decide +kernel
theorem dX2_put_4 : decode cX2_put 4 = .ok (.lookupswitch 50 #[(0, 28), (1, 39)], 28) := by decide +kernel
theorem dX2_put_32 : decode cX2_put 32 = .ok (.aload_n 0, 1) := by decide +kernel
theorem dX2_put_33 : decode cX2_put 33 = .ok (.getfield 9, 3) := by decide +kernel
theorem dX2_put_36 : decode cX2_put 36 = .ok (.iload_n 1, 1) := by decide +kernel
theorem dX2_put_37 : decode cX2_put 37 = .ok (.iload_n 2, 1) := by decide +kernel
theorem dX2_put_38 : decode cX2_put 38 = .ok (.i2b, 1) := by decide +kernel
theorem dX2_put_39 : decode cX2_put 39 = .ok (.iastore, 1) := by decide +kernel
theorem dX2_put_40 : decode cX2_put 40 = .ok (.goto 21, 3) := by decide +kernel
theorem dX2_put_43 : decode cX2_put 43 = .ok (.aload_n 0, 1) := by decide +kernel
theorem dX2_put_44 : decode cX2_put 44 = .ok (.getfield 9, 3) := by decide +kernel
theorem dX2_put_47 : decode cX2_put 47 = .ok (.iload_n 1, 1) := by decide +kernel
theorem dX2_put_48 : decode cX2_put 48 = .ok (.iload_n 2, 1) := by decide +kernel
theorem dX2_put_49 : decode cX2_put 49 = .ok (.i2s, 1) := by decide +kernel
theorem dX2_put_50 : decode cX2_put 50 = .ok (.iastore, 1) := by decide +kernel
theorem dX2_put_51 : decode cX2_put 51 = .ok (.goto 10, 3) := by decide +kernel
theorem dX2_put_54 : decode cX2_put 54 = .ok (.aload_n 0, 1) := by decide +kernel
theorem dX2_put_55 : decode cX2_put 55 = .ok (.getfield 9, 3) := by decide +kernel
theorem dX2_put_58 : decode cX2_put 58 = .ok (.iload_n 1, 1) := by decide +kernel
theorem dX2_put_59 : decode cX2_put 59 = .ok (.iload_n 2, 1) := by decide +kernel
theorem dX2_put_60 : decode cX2_put 60 = .ok (.iastore, 1) := by decide +kernel
theorem dX2_put_61 : decode cX2_put 61 = .ok (.return_, 1) := by decide +kernel
theorem dX3_init_0 : decode cX3_init 0 = .ok (.aload_n 0, 1) := by decide +kernel
theorem dX3_init_1 : decode cX3_init 1 = .ok (.invokespecial 1, 3) := by decide +kernel
theorem dX3_init_4 : decode cX3_init 4 = .ok (.aload_n 0, 1) := by decide +kernel
theorem dX3_init_5 : decode cX3_init 5 = .ok (.sipush 160, 3) := by decide +kernel
theorem dX3_init_8 : decode cX3_init 8 = .ok (.newarray .byte, 2) := by decide +kernel
theorem dX3_init_10 : decode cX3_init 10 = .ok (.putfield 9, 3) := by decide +kernel
theorem dX3_init_13 : decode cX3_init 13 = .ok (.return_, 1) := by decide +kernel
theorem dX4_init_0 : decode cX4_init 0 = .ok (.aload_n 0, 1) := by decide +kernel
theorem dX4_init_1 : decode cX4_init 1 = .ok (.invokespecial 3, 3) := by decide +kernel
theorem dX4_init_4 : decode cX4_init 4 = .ok (.aload_n 0, 1) := by decide +kernel
theorem dX4_init_5 : decode cX4_init 5 = .ok (.iconst 0, 1) := by decide +kernel
theorem dX4_init_6 : decode cX4_init 6 = .ok (.putfield 11, 3) := by decide +kernel
theorem dX4_init_9 : decode cX4_init 9 = .ok (.aload_n 0, 1) := by decide +kernel
theorem dX4_init_10 : decode cX4_init 10 = .ok (.aload_n 1, 1) := by decide +kernel
theorem dX4_init_11 : decode cX4_init 11 = .ok (.putfield 15, 3) := by decide +kernel
theorem dX4_init_14 : decode cX4_init 14 = .ok (.return_, 1) := by decide +kernel
theorem dX4_tell_0 : decode cX4_tell 0 = .ok (.aload_n 1, 1) := by decide +kernel
theorem dX4_tell_1 : decode cX4_tell 1 = .ok (.iconst 0, 1) := by decide +kernel
theorem dX4_tell_2 : decode cX4_tell 2 = .ok (.putfield 19, 3) := by decide +kernel
theorem dX4_tell_5 : decode cX4_tell 5 = .ok (.aload_n 1, 1) := by decide +kernel
theorem dX4_tell_6 : decode cX4_tell 6 = .ok (.iconst 0, 1) := by decide +kernel
theorem dX4_tell_7 : decode cX4_tell 7 = .ok (.putfield 24, 3) := by decide +kernel
theorem dX4_tell_10 : decode cX4_tell 10 = .ok (.aload_n 0, 1) := by decide +kernel
theorem dX4_tell_11 : decode cX4_tell 11 = .ok (.iconst 0, 1) := by decide +kernel
theorem dX4_tell_12 : decode cX4_tell 12 = .ok (.putfield 11, 3) := by decide +kernel
theorem dX4_tell_15 : decode cX4_tell 15 = .ok (.aload_n 0, 1) := by decide +kernel
theorem dX4_tell_16 : decode cX4_tell 16 = .ok (.iconst 0, 1) := by decide +kernel
theorem dX4_tell_17 : decode cX4_tell 17 = .ok (.putfield 27, 3) := by decide +kernel
theorem dX4_tell_20 : decode cX4_tell 20 = .ok (.aload_n 0, 1) := by decide +kernel
theorem dX4_tell_21 : decode cX4_tell 21 = .ok (.iconst 0, 1) := by decide +kernel
theorem dX4_tell_22 : decode cX4_tell 22 = .ok (.putfield 30, 3) := by decide +kernel
theorem dX4_tell_25 : decode cX4_tell 25 = .ok (.aload_n 0, 1) := by decide +kernel
theorem dX4_tell_26 : decode cX4_tell 26 = .ok (.iconst 0, 1) := by decide +kernel
theorem dX4_tell_27 : decode cX4_tell 27 = .ok (.putfield 34, 3) := by decide +kernel
theorem dX4_tell_30 : decode cX4_tell 30 = .ok (.iconst 0, 1) := by decide +kernel
theorem dX4_tell_31 : decode cX4_tell 31 = .ok (.istore_n 2, 1) := by decide +kernel
theorem dX4_tell_32 : decode cX4_tell 32 = .ok (.iload_n 2, 1) := by decide +kernel
theorem dX4_tell_33 : decode cX4_tell 33 = .ok (.aload_n 0, 1) := by decide +kernel
theorem dX4_tell_34 : decode cX4_tell 34 = .ok (.getfield 15, 3) := by decide +kernel
theorem dX4_tell_37 : decode cX4_tell 37 = .ok (.getfield 37, 3) := by decide +kernel
theorem dX4_tell_40 : decode cX4_tell 40 = .ok (.if_icmp .gt 47, 3) := by decide +kernel
theorem dX4_tell_43 : decode cX4_tell 43 = .ok (.aload_n 0, 1) := by decide +kernel
theorem dX4_tell_44 : decode cX4_tell 44 = .ok (.invokevirtual 42, 3) := by decide +kernel
theorem dX4_tell_47 : decode cX4_tell 47 = .ok (.ifCond .ne 5, 3) := by decide +kernel
theorem dX4_tell_50 : decode cX4_tell 50 = .ok (.iconst 0, 1) := by decide +kernel
theorem dX4_tell_51 : decode cX4_tell 51 = .ok (.ireturn, 1) := by decide +kernel
theorem dX4_tell_52 : decode cX4_tell 52 = .ok (.aload_n 0, 1) := by decide +kernel
theorem dX4_tell_53 : decode cX4_tell 53 = .ok (.getfield 46, 3) := by decide +kernel
theorem dX4_tell_56 : decode cX4_tell 56 = .ok (.ifCond .ne 5, 3) := by decide +kernel
theorem dX4_tell_59 : decode cX4_tell 59 = .ok (.iconst 1, 1) := by decide +kernel
theorem dX4_tell_60 : decode cX4_tell 60 = .ok (.ireturn, 1) := by decide +kernel
theorem dX4_tell_61 : decode cX4_tell 61 = .ok (.aload_n 0, 1) := by decide +kernel
theorem dX4_tell_62 : decode cX4_tell 62 = .ok (.aload_n 1, 1) := by decide +kernel
theorem dX4_tell_63 : decode cX4_tell 63 = .ok (.invokevirtual 49, 3) := by decide +kernel
theorem dX4_tell_66 : decode cX4_tell 66 = .ok (.ifCond .ne 5, 3) := by decide +kernel
theorem dX4_tell_69 : decode cX4_tell 69 = .ok (.iconst 0, 1) := by decide +kernel
theorem dX4_tell_70 : decode cX4_tell 70 = .ok (.ireturn, 1) := by decide +kernel
theorem dX4_tell_71 : decode cX4_tell 71 = .ok (.aload_n 0, 1) := by decide +kernel
theorem dX4_tell_72 : decode cX4_tell 72 = .ok (.dup, 1) := by decide +kernel
theorem dX4_tell_73 : decode cX4_tell 73 = .ok (.getfield 27, 3) := by decide +kernel
theorem dX4_tell_76 : decode cX4_tell 76 = .ok (.iconst 1, 1) := by decide +kernel
theorem dX4_tell_77 : decode cX4_tell 77 = .ok (.iadd, 1) := by decide +kernel
theorem dX4_tell_78 : decode cX4_tell 78 = .ok (.putfield 27, 3) := by decide +kernel
theorem dX4_tell_81 : decode cX4_tell 81 = .ok (.iinc 2 1, 3) := by decide +kernel
theorem dX4_tell_84 : decode cX4_tell 84 = .ok (.goto (-52), 3) := by decide +kernel
theorem dX4_tell_87 : decode cX4_tell 87 = .ok (.iconst 1, 1) := by decide +kernel
theorem dX4_tell_88 : decode cX4_tell 88 = .ok (.ireturn, 1) := by decide +kernel
theorem dX4_tellLine_0 : decode cX4_tellLine 0 = .ok (.aload_n 0, 1) := by decide +kernel
theorem dX4_tellLine_1 : decode cX4_tellLine 1 = .ok (.getfield 46, 3) := by decide +kernel
theorem dX4_tellLine_4 : decode cX4_tellLine 4 = .ok (.iconst 1, 1) := by decide +kernel
theorem dX4_tellLine_5 : decode cX4_tellLine 5 = .ok (.if_icmp .eq 9, 3) := by decide +kernel
theorem dX4_tellLine_8 : decode cX4_tellLine 8 = .ok (.aload_n 0, 1) := by decide +kernel
theorem dX4_tellLine_9 : decode cX4_tellLine 9 = .ok (.iconst 2, 1) := by decide +kernel
theorem dX4_tellLine_10 : decode cX4_tellLine 10 = .ok (.invokevirtual 53, 3) := by decide +kernel
theorem dX4_tellLine_13 : decode cX4_tellLine 13 = .ok (.ireturn, 1) := by decide +kernel
theorem dX4_tellLine_14 : decode cX4_tellLine 14 = .ok (.aload_n 0, 1) := by decide +kernel
theorem dX4_tellLine_15 : decode cX4_tellLine 15 = .ok (.ldc 57, 2) := by decide +kernel
theorem dX4_tellLine_17 : decode cX4_tellLine 17 = .ok (.invokevirtual 59, 3) := by decide +kernel
theorem dX4_tellLine_20 : decode cX4_tellLine 20 = .ok (.ifCond .eq 9, 3) := by decide +kernel
theorem dX4_tellLine_23 : decode cX4_tellLine 23 = .ok (.aload_n 0, 1) := by decide +kernel
theorem dX4_tellLine_24 : decode cX4_tellLine 24 = .ok (.aload_n 1, 1) := by decide +kernel
theorem dX4_tellLine_25 : decode cX4_tellLine 25 = .ok (.invokevirtual 63, 3) := by decide +kernel
theorem dX4_tellLine_28 : decode cX4_tellLine 28 = .ok (.ireturn, 1) := by decide +kernel
theorem dX4_tellLine_29 : decode cX4_tellLine 29 = .ok (.aload_n 0, 1) := by decide +kernel
theorem dX4_tellLine_30 : decode cX4_tellLine 30 = .ok (.invokevirtual 66, 3) := by decide +kernel
theorem dX4_tellLine_33 : decode cX4_tellLine 33 = .ok (.istore_n 2, 1) := by decide +kernel
theorem dX4_tellLine_34 : decode cX4_tellLine 34 = .ok (.iload_n 2, 1) := by decide +kernel
theorem dX4_tellLine_35 : decode cX4_tellLine 35 = .ok (.bipush (-4), 2) := by decide +kernel
theorem dX4_tellLine_37 : decode cX4_tellLine 37 = .ok (.if_icmp .ne 11, 3) := by decide +kernel
theorem dX4_tellLine_40 : decode cX4_tellLine 40 = .ok (.aload_n 0, 1) := by decide +kernel
theorem dX4_tellLine_41 : decode cX4_tellLine 41 = .ok (.iconst 2, 1) := by decide +kernel
theorem dX4_tellLine_42 : decode cX4_tellLine 42 = .ok (.invokevirtual 53, 3) := by decide +kernel
theorem dX4_tellLine_45 : decode cX4_tellLine 45 = .ok (.goto 9, 3) := by decide +kernel
theorem dX4_tellLine_48 : decode cX4_tellLine 48 = .ok (.aload_n 0, 1) := by decide +kernel
theorem dX4_tellLine_49 : decode cX4_tellLine 49 = .ok (.aload_n 1, 1) := by decide +kernel
theorem dX4_tellLine_50 : decode cX4_tellLine 50 = .ok (.iload_n 2, 1) := by decide +kernel
theorem dX4_tellLine_51 : decode cX4_tellLine 51 = .ok (.invokevirtual 70, 3) := by decide +kernel
theorem dX4_tellLine_54 : decode cX4_tellLine 54 = .ok (.ireturn, 1) := by decide +kernel
theorem dX4_tellCount_0 : decode cX4_tellCount 0 = .ok (.aload_n 0, 1) := by decide +kernel
theorem dX4_tellCount_1 : decode cX4_tellCount 1 = .ok (.getfield 30, 3) := by decide +kernel
theorem dX4_tellCount_4 : decode cX4_tellCount 4 = .ok (.ifCond .eq 9, 3) := by decide +kernel
theorem dX4_tellCount_7 : decode cX4_tellCount 7 = .ok (.aload_n 0, 1) := by decide +kernel
theorem dX4_tellCount_8 : decode cX4_tellCount 8 = .ok (.iconst 4, 1) := by decide +kernel
theorem dX4_tellCount_9 : decode cX4_tellCount 9 = .ok (.invokevirtual 53, 3) := by decide +kernel
theorem dX4_tellCount_12 : decode cX4_tellCount 12 = .ok (.ireturn, 1) := by decide +kernel
theorem dX4_tellCount_13 : decode cX4_tellCount 13 = .ok (.aload_n 0, 1) := by decide +kernel
theorem dX4_tellCount_14 : decode cX4_tellCount 14 = .ok (.iconst 1, 1) := by decide +kernel
theorem dX4_tellCount_15 : decode cX4_tellCount 15 = .ok (.putfield 30, 3) := by decide +kernel
theorem dX4_tellCount_18 : decode cX4_tellCount 18 = .ok (.aload_n 0, 1) := by decide +kernel
theorem dX4_tellCount_19 : decode cX4_tellCount 19 = .ok (.iconst 0, 1) := by decide +kernel
theorem dX4_tellCount_20 : decode cX4_tellCount 20 = .ok (.bipush 99, 2) := by decide +kernel
theorem dX4_tellCount_22 : decode cX4_tellCount 22 = .ok (.invokevirtual 74, 3) := by decide +kernel
theorem dX4_tellCount_25 : decode cX4_tellCount 25 = .ok (.ifCond .ne 5, 3) := by decide +kernel
theorem dX4_tellCount_28 : decode cX4_tellCount 28 = .ok (.iconst 0, 1) := by decide +kernel
theorem dX4_tellCount_29 : decode cX4_tellCount 29 = .ok (.ireturn, 1) := by decide +kernel
theorem dX4_tellCount_30 : decode cX4_tellCount 30 = .ok (.aload_n 1, 1) := by decide +kernel
theorem dX4_tellCount_31 : decode cX4_tellCount 31 = .ok (.aload_n 0, 1) := by decide +kernel
theorem dX4_tellCount_32 : decode cX4_tellCount 32 = .ok (.getfield 78, 3) := by decide +kernel
theorem dX4_tellCount_35 : decode cX4_tellCount 35 = .ok (.putfield 24, 3) := by decide +kernel
theorem dX4_tellCount_38 : decode cX4_tellCount 38 = .ok (.aload_n 0, 1) := by decide +kernel
theorem dX4_tellCount_39 : decode cX4_tellCount 39 = .ok (.invokevirtual 42, 3) := by decide +kernel
theorem dX4_tellCount_42 : decode cX4_tellCount 42 = .ok (.ifCond .eq 14, 3) := by decide +kernel
theorem dX4_tellCount_45 : decode cX4_tellCount 45 = .ok (.aload_n 0, 1) := by decide +kernel
theorem dX4_tellCount_46 : decode cX4_tellCount 46 = .ok (.invokevirtual 81, 3) := by decide +kernel
theorem dX4_tellCount_49 : decode cX4_tellCount 49 = .ok (.ifCond .eq 7, 3) := by decide +kernel
theorem dX4_tellCount_52 : decode cX4_tellCount 52 = .ok (.iconst 1, 1) := by decide +kernel
theorem dX4_tellCount_53 : decode cX4_tellCount 53 = .ok (.goto 4, 3) := by decide +kernel
theorem dX4_tellCount_56 : decode cX4_tellCount 56 = .ok (.iconst 0, 1) := by decide +kernel
theorem dX4_tellCount_57 : decode cX4_tellCount 57 = .ok (.ireturn, 1) := by decide +kernel
theorem dX4_tellWheel_0 : decode cX4_tellWheel 0 = .ok (.aload_n 1, 1) := by decide +kernel
theorem dX4_tellWheel_1 : decode cX4_tellWheel 1 = .ok (.getfield 19, 3) := by decide +kernel
theorem dX4_tellWheel_4 : decode cX4_tellWheel 4 = .ok (.iconst 5, 1) := by decide +kernel
theorem dX4_tellWheel_5 : decode cX4_tellWheel 5 = .ok (.if_icmp .lt 9, 3) := by decide +kernel
theorem dX4_tellWheel_8 : decode cX4_tellWheel 8 = .ok (.aload_n 0, 1) := by decide +kernel
theorem dX4_tellWheel_9 : decode cX4_tellWheel 9 = .ok (.iconst 5, 1) := by decide +kernel
theorem dX4_tellWheel_10 : decode cX4_tellWheel 10 = .ok (.invokevirtual 53, 3) := by decide +kernel
theorem dX4_tellWheel_13 : decode cX4_tellWheel 13 = .ok (.ireturn, 1) := by decide +kernel
theorem dX4_tellWheel_14 : decode cX4_tellWheel 14 = .ok (.aload_n 0, 1) := by decide +kernel
theorem dX4_tellWheel_15 : decode cX4_tellWheel 15 = .ok (.iconst 2, 1) := by decide +kernel
theorem dX4_tellWheel_16 : decode cX4_tellWheel 16 = .ok (.bipush 12, 2) := by decide +kernel
theorem dX4_tellWheel_18 : decode cX4_tellWheel 18 = .ok (.invokevirtual 74, 3) := by decide +kernel
theorem dX4_tellWheel_21 : decode cX4_tellWheel 21 = .ok (.ifCond .ne 5, 3) := by decide +kernel
theorem dX4_tellWheel_24 : decode cX4_tellWheel 24 = .ok (.iconst 0, 1) := by decide +kernel
theorem dX4_tellWheel_25 : decode cX4_tellWheel 25 = .ok (.ireturn, 1) := by decide +kernel
theorem dX4_tellWheel_26 : decode cX4_tellWheel 26 = .ok (.aload_n 0, 1) := by decide +kernel
theorem dX4_tellWheel_27 : decode cX4_tellWheel 27 = .ok (.getfield 78, 3) := by decide +kernel
theorem dX4_tellWheel_30 : decode cX4_tellWheel 30 = .ok (.istore_n 3, 1) := by decide +kernel
theorem dX4_tellWheel_31 : decode cX4_tellWheel 31 = .ok (.aload_n 0, 1) := by decide +kernel
theorem dX4_tellWheel_32 : decode cX4_tellWheel 32 = .ok (.iconst 0, 1) := by decide +kernel
theorem dX4_tellWheel_33 : decode cX4_tellWheel 33 = .ok (.iload_n 3, 1) := by decide +kernel
theorem dX4_tellWheel_34 : decode cX4_tellWheel 34 = .ok (.iconst 1, 1) := by decide +kernel
theorem dX4_tellWheel_35 : decode cX4_tellWheel 35 = .ok (.isub, 1) := by decide +kernel
theorem dX4_tellWheel_36 : decode cX4_tellWheel 36 = .ok (.invokevirtual 74, 3) := by decide +kernel
theorem dX4_tellWheel_39 : decode cX4_tellWheel 39 = .ok (.ifCond .ne 5, 3) := by decide +kernel
theorem dX4_tellWheel_42 : decode cX4_tellWheel 42 = .ok (.iconst 0, 1) := by decide +kernel
theorem dX4_tellWheel_43 : decode cX4_tellWheel 43 = .ok (.ireturn, 1) := by decide +kernel
theorem dX4_tellWheel_44 : decode cX4_tellWheel 44 = .ok (.aload_n 0, 1) := by decide +kernel
theorem dX4_tellWheel_45 : decode cX4_tellWheel 45 = .ok (.getfield 78, 3) := by decide +kernel
theorem dX4_tellWheel_48 : decode cX4_tellWheel 48 = .ok (.istore 4, 2) := by decide +kernel
theorem dX4_tellWheel_50 : decode cX4_tellWheel 50 = .ok (.bipush 12, 2) := by decide +kernel
theorem dX4_tellWheel_52 : decode cX4_tellWheel 52 = .ok (.istore 5, 2) := by decide +kernel
theorem dX4_tellWheel_54 : decode cX4_tellWheel 54 = .ok (.aload_n 0, 1) := by decide +kernel
theorem dX4_tellWheel_55 : decode cX4_tellWheel 55 = .ok (.invokevirtual 42, 3) := by decide +kernel
theorem dX4_tellWheel_58 : decode cX4_tellWheel 58 = .ok (.ifCond .ne 5, 3) := by decide +kernel
theorem dX4_tellWheel_61 : decode cX4_tellWheel 61 = .ok (.iconst 0, 1) := by decide +kernel
theorem dX4_tellWheel_62 : decode cX4_tellWheel 62 = .ok (.ireturn, 1) := by decide +kernel
theorem dX4_tellWheel_63 : decode cX4_tellWheel 63 = .ok (.aload_n 0, 1) := by decide +kernel
theorem dX4_tellWheel_64 : decode cX4_tellWheel 64 = .ok (.getfield 46, 3) := by decide +kernel
theorem dX4_tellWheel_67 : decode cX4_tellWheel 67 = .ok (.iconst 2, 1) := by decide +kernel
theorem dX4_tellWheel_68 : decode cX4_tellWheel 68 = .ok (.if_icmp .ne 32, 3) := by decide +kernel
theorem dX4_tellWheel_71 : decode cX4_tellWheel 71 = .ok (.aload_n 0, 1) := by decide +kernel
theorem dX4_tellWheel_72 : decode cX4_tellWheel 72 = .ok (.getfield 78, 3) := by decide +kernel
theorem dX4_tellWheel_75 : decode cX4_tellWheel 75 = .ok (.iload_n 3, 1) := by decide +kernel
theorem dX4_tellWheel_76 : decode cX4_tellWheel 76 = .ok (.if_icmp .lt 9, 3) := by decide +kernel
theorem dX4_tellWheel_79 : decode cX4_tellWheel 79 = .ok (.aload_n 0, 1) := by decide +kernel
theorem dX4_tellWheel_80 : decode cX4_tellWheel 80 = .ok (.iconst 3, 1) := by decide +kernel
theorem dX4_tellWheel_81 : decode cX4_tellWheel 81 = .ok (.invokevirtual 53, 3) := by decide +kernel
theorem dX4_tellWheel_84 : decode cX4_tellWheel 84 = .ok (.ireturn, 1) := by decide +kernel
theorem dX4_tellWheel_85 : decode cX4_tellWheel 85 = .ok (.aload_n 0, 1) := by decide +kernel
theorem dX4_tellWheel_86 : decode cX4_tellWheel 86 = .ok (.getfield 78, 3) := by decide +kernel
theorem dX4_tellWheel_89 : decode cX4_tellWheel 89 = .ok (.istore 5, 2) := by decide +kernel
theorem dX4_tellWheel_91 : decode cX4_tellWheel 91 = .ok (.aload_n 0, 1) := by decide +kernel
theorem dX4_tellWheel_92 : decode cX4_tellWheel 92 = .ok (.invokevirtual 42, 3) := by decide +kernel
theorem dX4_tellWheel_95 : decode cX4_tellWheel 95 = .ok (.ifCond .ne 5, 3) := by decide +kernel
theorem dX4_tellWheel_98 : decode cX4_tellWheel 98 = .ok (.iconst 0, 1) := by decide +kernel
theorem dX4_tellWheel_99 : decode cX4_tellWheel 99 = .ok (.ireturn, 1) := by decide +kernel
theorem dX4_tellWheel_100 : decode cX4_tellWheel 100 = .ok (.aload_n 1, 1) := by decide +kernel
theorem dX4_tellWheel_101 : decode cX4_tellWheel 101 = .ok (.iload_n 2, 1) := by decide +kernel
theorem dX4_tellWheel_102 : decode cX4_tellWheel 102 = .ok (.iload_n 3, 1) := by decide +kernel
theorem dX4_tellWheel_103 : decode cX4_tellWheel 103 = .ok (.iload 4, 2) := by decide +kernel
theorem dX4_tellWheel_105 : decode cX4_tellWheel 105 = .ok (.iload 5, 2) := by decide +kernel
theorem dX4_tellWheel_107 : decode cX4_tellWheel 107 = .ok (.invokevirtual 84, 3) := by decide +kernel
theorem dX4_tellWheel_110 : decode cX4_tellWheel 110 = .ok (.aload_n 0, 1) := by decide +kernel
theorem dX4_tellWheel_111 : decode cX4_tellWheel 111 = .ok (.invokevirtual 81, 3) := by decide +kernel
theorem dX4_tellWheel_114 : decode cX4_tellWheel 114 = .ok (.ireturn, 1) := by decide +kernel
theorem dX4_nextNumber_0 : decode cX4_nextNumber 0 = .ok (.aload_n 0, 1) := by decide +kernel
theorem dX4_nextNumber_1 : decode cX4_nextNumber 1 = .ok (.invokevirtual 42, 3) := by decide +kernel
theorem dX4_nextNumber_4 : decode cX4_nextNumber 4 = .ok (.ifCond .ne 5, 3) := by decide +kernel
theorem dX4_nextNumber_7 : decode cX4_nextNumber 7 = .ok (.iconst 0, 1) := by decide +kernel
theorem dX4_nextNumber_8 : decode cX4_nextNumber 8 = .ok (.ireturn, 1) := by decide +kernel
theorem dX4_nextNumber_9 : decode cX4_nextNumber 9 = .ok (.aload_n 0, 1) := by decide +kernel
theorem dX4_nextNumber_10 : decode cX4_nextNumber 10 = .ok (.getfield 46, 3) := by decide +kernel
theorem dX4_nextNumber_13 : decode cX4_nextNumber 13 = .ok (.iconst 2, 1) := by decide +kernel
theorem dX4_nextNumber_14 : decode cX4_nextNumber 14 = .ok (.if_icmp .eq 9, 3) := by decide +kernel
theorem dX4_nextNumber_17 : decode cX4_nextNumber 17 = .ok (.aload_n 0, 1) := by decide +kernel
theorem dX4_nextNumber_18 : decode cX4_nextNumber 18 = .ok (.iconst 2, 1) := by decide +kernel
theorem dX4_nextNumber_19 : decode cX4_nextNumber 19 = .ok (.invokevirtual 53, 3) := by decide +kernel
theorem dX4_nextNumber_22 : decode cX4_nextNumber 22 = .ok (.ireturn, 1) := by decide +kernel
theorem dX4_nextNumber_23 : decode cX4_nextNumber 23 = .ok (.aload_n 0, 1) := by decide +kernel
theorem dX4_nextNumber_24 : decode cX4_nextNumber 24 = .ok (.getfield 78, 3) := by decide +kernel
theorem dX4_nextNumber_27 : decode cX4_nextNumber 27 = .ok (.iload_n 1, 1) := by decide +kernel
theorem dX4_nextNumber_28 : decode cX4_nextNumber 28 = .ok (.iload_n 2, 1) := by decide +kernel
theorem dX4_nextNumber_29 : decode cX4_nextNumber 29 = .ok (.invokestatic 88, 3) := by decide +kernel
theorem dX4_nextNumber_32 : decode cX4_nextNumber 32 = .ok (.ifCond .ne 11, 3) := by decide +kernel
theorem dX4_nextNumber_35 : decode cX4_nextNumber 35 = .ok (.aload_n 0, 1) := by decide +kernel
theorem dX4_nextNumber_36 : decode cX4_nextNumber 36 = .ok (.iconst 3, 1) := by decide +kernel
theorem dX4_nextNumber_37 : decode cX4_nextNumber 37 = .ok (.invokevirtual 53, 3) := by decide +kernel
theorem dX4_nextNumber_40 : decode cX4_nextNumber 40 = .ok (.ifCond .eq 7, 3) := by decide +kernel
theorem dX4_nextNumber_43 : decode cX4_nextNumber 43 = .ok (.iconst 1, 1) := by decide +kernel
theorem dX4_nextNumber_44 : decode cX4_nextNumber 44 = .ok (.goto 4, 3) := by decide +kernel
theorem dX4_nextNumber_47 : decode cX4_nextNumber 47 = .ok (.iconst 0, 1) := by decide +kernel
theorem dX4_nextNumber_48 : decode cX4_nextNumber 48 = .ok (.ireturn, 1) := by decide +kernel
theorem dX4_lineEnds_0 : decode cX4_lineEnds 0 = .ok (.aload_n 0, 1) := by decide +kernel
theorem dX4_lineEnds_1 : decode cX4_lineEnds 1 = .ok (.getfield 46, 3) := by decide +kernel
theorem dX4_lineEnds_4 : decode cX4_lineEnds 4 = .ok (.iconst 3, 1) := by decide +kernel
theorem dX4_lineEnds_5 : decode cX4_lineEnds 5 = .ok (.if_icmp .eq 11, 3) := by decide +kernel
theorem dX4_lineEnds_8 : decode cX4_lineEnds 8 = .ok (.aload_n 0, 1) := by decide +kernel
theorem dX4_lineEnds_9 : decode cX4_lineEnds 9 = .ok (.iconst 2, 1) := by decide +kernel
theorem dX4_lineEnds_10 : decode cX4_lineEnds 10 = .ok (.invokevirtual 53, 3) := by decide +kernel
theorem dX4_lineEnds_13 : decode cX4_lineEnds 13 = .ok (.ifCond .eq 7, 3) := by decide +kernel
theorem dX4_lineEnds_16 : decode cX4_lineEnds 16 = .ok (.iconst 1, 1) := by decide +kernel
theorem dX4_lineEnds_17 : decode cX4_lineEnds 17 = .ok (.goto 4, 3) := by decide +kernel
theorem dX4_lineEnds_20 : decode cX4_lineEnds 20 = .ok (.iconst 0, 1) := by decide +kernel
theorem dX4_lineEnds_21 : decode cX4_lineEnds 21 = .ok (.ireturn, 1) := by decide +kernel
theorem dX4_nextToken_0 : decode cX4_nextToken 0 = .ok (.aload_n 0, 1) := by decide +kernel
theorem dX4_nextToken_1 : decode cX4_nextToken 1 = .ok (.aload_n 0, 1) := by decide +kernel
theorem dX4_nextToken_2 : decode cX4_nextToken 2 = .ok (.getfield 34, 3) := by decide +kernel
theorem dX4_nextToken_5 : decode cX4_nextToken 5 = .ok (.putfield 92, 3) := by decide +kernel
theorem dX4_nextToken_8 : decode cX4_nextToken 8 = .ok (.aload_n 0, 1) := by decide +kernel
theorem dX4_nextToken_9 : decode cX4_nextToken 9 = .ok (.getfield 92, 3) := by decide +kernel
theorem dX4_nextToken_12 : decode cX4_nextToken 12 = .ok (.aload_n 0, 1) := by decide +kernel
theorem dX4_nextToken_13 : decode cX4_nextToken 13 = .ok (.getfield 15, 3) := by decide +kernel
theorem dX4_nextToken_16 : decode cX4_nextToken 16 = .ok (.getfield 37, 3) := by decide +kernel
theorem dX4_nextToken_19 : decode cX4_nextToken 19 = .ok (.if_icmp .ge 33, 3) := by decide +kernel
theorem dX4_nextToken_22 : decode cX4_nextToken 22 = .ok (.aload_n 0, 1) := by decide +kernel
theorem dX4_nextToken_23 : decode cX4_nextToken 23 = .ok (.getfield 15, 3) := by decide +kernel
theorem dX4_nextToken_26 : decode cX4_nextToken 26 = .ok (.getfield 95, 3) := by decide +kernel
theorem dX4_nextToken_29 : decode cX4_nextToken 29 = .ok (.aload_n 0, 1) := by decide +kernel
theorem dX4_nextToken_30 : decode cX4_nextToken 30 = .ok (.getfield 92, 3) := by decide +kernel
theorem dX4_nextToken_33 : decode cX4_nextToken 33 = .ok (.baload, 1) := by decide +kernel
theorem dX4_nextToken_34 : decode cX4_nextToken 34 = .ok (.bipush 32, 2) := by decide +kernel
theorem dX4_nextToken_36 : decode cX4_nextToken 36 = .ok (.if_icmp .ne 16, 3) := by decide +kernel
theorem dX4_nextToken_39 : decode cX4_nextToken 39 = .ok (.aload_n 0, 1) := by decide +kernel
theorem dX4_nextToken_40 : decode cX4_nextToken 40 = .ok (.dup, 1) := by decide +kernel
theorem dX4_nextToken_41 : decode cX4_nextToken 41 = .ok (.getfield 92, 3) := by decide +kernel
theorem dX4_nextToken_44 : decode cX4_nextToken 44 = .ok (.iconst 1, 1) := by decide +kernel
theorem dX4_nextToken_45 : decode cX4_nextToken 45 = .ok (.iadd, 1) := by decide +kernel
theorem dX4_nextToken_46 : decode cX4_nextToken 46 = .ok (.putfield 92, 3) := by decide +kernel
theorem dX4_nextToken_49 : decode cX4_nextToken 49 = .ok (.goto (-41), 3) := by decide +kernel
theorem dX4_nextToken_52 : decode cX4_nextToken 52 = .ok (.aload_n 0, 1) := by decide +kernel
theorem dX4_nextToken_53 : decode cX4_nextToken 53 = .ok (.getfield 92, 3) := by decide +kernel
theorem dX4_nextToken_56 : decode cX4_nextToken 56 = .ok (.aload_n 0, 1) := by decide +kernel
theorem dX4_nextToken_57 : decode cX4_nextToken 57 = .ok (.getfield 15, 3) := by decide +kernel
theorem dX4_nextToken_60 : decode cX4_nextToken 60 = .ok (.getfield 37, 3) := by decide +kernel
theorem dX4_nextToken_63 : decode cX4_nextToken 63 = .ok (.if_icmp .lt 10, 3) := by decide +kernel
theorem dX4_nextToken_66 : decode cX4_nextToken 66 = .ok (.aload_n 0, 1) := by decide +kernel
theorem dX4_nextToken_67 : decode cX4_nextToken 67 = .ok (.iconst 0, 1) := by decide +kernel
theorem dX4_nextToken_68 : decode cX4_nextToken 68 = .ok (.putfield 46, 3) := by decide +kernel
theorem dX4_nextToken_71 : decode cX4_nextToken 71 = .ok (.iconst 1, 1) := by decide +kernel
theorem dX4_nextToken_72 : decode cX4_nextToken 72 = .ok (.ireturn, 1) := by decide +kernel
theorem dX4_nextToken_73 : decode cX4_nextToken 73 = .ok (.aload_n 0, 1) := by decide +kernel
theorem dX4_nextToken_74 : decode cX4_nextToken 74 = .ok (.getfield 15, 3) := by decide +kernel
theorem dX4_nextToken_77 : decode cX4_nextToken 77 = .ok (.getfield 95, 3) := by decide +kernel
theorem dX4_nextToken_80 : decode cX4_nextToken 80 = .ok (.aload_n 0, 1) := by decide +kernel
theorem dX4_nextToken_81 : decode cX4_nextToken 81 = .ok (.getfield 92, 3) := by decide +kernel
theorem dX4_nextToken_84 : decode cX4_nextToken 84 = .ok (.baload, 1) := by decide +kernel
theorem dX4_nextToken_85 : decode cX4_nextToken 85 = .ok (.istore_n 1, 1) := by decide +kernel
theorem dX4_nextToken_86 : decode cX4_nextToken 86 = .ok (.iload_n 1, 1) := by decide +kernel
theorem dX4_nextToken_87 : decode cX4_nextToken 87 = .ok (.bipush 59, 2) := by decide +kernel
theorem dX4_nextToken_89 : decode cX4_nextToken 89 = .ok (.if_icmp .ne 20, 3) := by decide +kernel
theorem dX4_nextToken_92 : decode cX4_nextToken 92 = .ok (.aload_n 0, 1) := by decide +kernel
theorem dX4_nextToken_93 : decode cX4_nextToken 93 = .ok (.iconst 3, 1) := by decide +kernel
theorem dX4_nextToken_94 : decode cX4_nextToken 94 = .ok (.putfield 46, 3) := by decide +kernel
theorem dX4_nextToken_97 : decode cX4_nextToken 97 = .ok (.aload_n 0, 1) := by decide +kernel
theorem dX4_nextToken_98 : decode cX4_nextToken 98 = .ok (.aload_n 0, 1) := by decide +kernel
theorem dX4_nextToken_99 : decode cX4_nextToken 99 = .ok (.getfield 92, 3) := by decide +kernel
theorem dX4_nextToken_102 : decode cX4_nextToken 102 = .ok (.iconst 1, 1) := by decide +kernel
theorem dX4_nextToken_103 : decode cX4_nextToken 103 = .ok (.iadd, 1) := by decide +kernel
theorem dX4_nextToken_104 : decode cX4_nextToken 104 = .ok (.putfield 34, 3) := by decide +kernel
theorem dX4_nextToken_107 : decode cX4_nextToken 107 = .ok (.iconst 1, 1) := by decide +kernel
theorem dX4_nextToken_108 : decode cX4_nextToken 108 = .ok (.ireturn, 1) := by decide +kernel
theorem dX4_nextToken_109 : decode cX4_nextToken 109 = .ok (.iload_n 1, 1) := by decide +kernel
theorem dX4_nextToken_110 : decode cX4_nextToken 110 = .ok (.bipush 97, 2) := by decide +kernel
theorem dX4_nextToken_112 : decode cX4_nextToken 112 = .ok (.bipush 122, 2) := by decide +kernel
theorem dX4_nextToken_114 : decode cX4_nextToken 114 = .ok (.invokestatic 88, 3) := by decide +kernel
theorem dX4_nextToken_117 : decode cX4_nextToken 117 = .ok (.ifCond .eq 22, 3) := by decide +kernel
theorem dX4_nextToken_120 : decode cX4_nextToken 120 = .ok (.aload_n 0, 1) := by decide +kernel
theorem dX4_nextToken_121 : decode cX4_nextToken 121 = .ok (.iconst 1, 1) := by decide +kernel
theorem dX4_nextToken_122 : decode cX4_nextToken 122 = .ok (.putfield 46, 3) := by decide +kernel
theorem dX4_nextToken_125 : decode cX4_nextToken 125 = .ok (.aload_n 0, 1) := by decide +kernel
theorem dX4_nextToken_126 : decode cX4_nextToken 126 = .ok (.aload_n 0, 1) := by decide +kernel
theorem dX4_nextToken_127 : decode cX4_nextToken 127 = .ok (.bipush 97, 2) := by decide +kernel
theorem dX4_nextToken_129 : decode cX4_nextToken 129 = .ok (.bipush 122, 2) := by decide +kernel
theorem dX4_nextToken_131 : decode cX4_nextToken 131 = .ok (.invokevirtual 99, 3) := by decide +kernel
theorem dX4_nextToken_134 : decode cX4_nextToken 134 = .ok (.putfield 34, 3) := by decide +kernel
theorem dX4_nextToken_137 : decode cX4_nextToken 137 = .ok (.iconst 1, 1) := by decide +kernel
theorem dX4_nextToken_138 : decode cX4_nextToken 138 = .ok (.ireturn, 1) := by decide +kernel
theorem dX4_nextToken_139 : decode cX4_nextToken 139 = .ok (.iload_n 1, 1) := by decide +kernel
theorem dX4_nextToken_140 : decode cX4_nextToken 140 = .ok (.bipush 48, 2) := by decide +kernel
theorem dX4_nextToken_142 : decode cX4_nextToken 142 = .ok (.bipush 57, 2) := by decide +kernel
theorem dX4_nextToken_144 : decode cX4_nextToken 144 = .ok (.invokestatic 88, 3) := by decide +kernel
theorem dX4_nextToken_147 : decode cX4_nextToken 147 = .ok (.ifCond .ne 9, 3) := by decide +kernel
theorem dX4_nextToken_150 : decode cX4_nextToken 150 = .ok (.aload_n 0, 1) := by decide +kernel
theorem dX4_nextToken_151 : decode cX4_nextToken 151 = .ok (.iconst 1, 1) := by decide +kernel
theorem dX4_nextToken_152 : decode cX4_nextToken 152 = .ok (.invokevirtual 53, 3) := by decide +kernel
theorem dX4_nextToken_155 : decode cX4_nextToken 155 = .ok (.ireturn, 1) := by decide +kernel
theorem dX4_nextToken_156 : decode cX4_nextToken 156 = .ok (.aload_n 0, 1) := by decide +kernel
theorem dX4_nextToken_157 : decode cX4_nextToken 157 = .ok (.iconst 2, 1) := by decide +kernel
theorem dX4_nextToken_158 : decode cX4_nextToken 158 = .ok (.putfield 46, 3) := by decide +kernel
theorem dX4_nextToken_161 : decode cX4_nextToken 161 = .ok (.aload_n 0, 1) := by decide +kernel
theorem dX4_nextToken_162 : decode cX4_nextToken 162 = .ok (.aload_n 0, 1) := by decide +kernel
theorem dX4_nextToken_163 : decode cX4_nextToken 163 = .ok (.bipush 48, 2) := by decide +kernel
theorem dX4_nextToken_165 : decode cX4_nextToken 165 = .ok (.bipush 57, 2) := by decide +kernel
theorem dX4_nextToken_167 : decode cX4_nextToken 167 = .ok (.invokevirtual 99, 3) := by decide +kernel
theorem dX4_nextToken_170 : decode cX4_nextToken 170 = .ok (.putfield 34, 3) := by decide +kernel
theorem dX4_nextToken_173 : decode cX4_nextToken 173 = .ok (.aload_n 0, 1) := by decide +kernel
theorem dX4_nextToken_174 : decode cX4_nextToken 174 = .ok (.aload_n 0, 1) := by decide +kernel
theorem dX4_nextToken_175 : decode cX4_nextToken 175 = .ok (.invokevirtual 103, 3) := by decide +kernel
theorem dX4_nextToken_178 : decode cX4_nextToken 178 = .ok (.putfield 78, 3) := by decide +kernel
theorem dX4_nextToken_181 : decode cX4_nextToken 181 = .ok (.aload_n 0, 1) := by decide +kernel
theorem dX4_nextToken_182 : decode cX4_nextToken 182 = .ok (.getfield 34, 3) := by decide +kernel
theorem dX4_nextToken_185 : decode cX4_nextToken 185 = .ok (.aload_n 0, 1) := by decide +kernel
theorem dX4_nextToken_186 : decode cX4_nextToken 186 = .ok (.getfield 92, 3) := by decide +kernel
theorem dX4_nextToken_189 : decode cX4_nextToken 189 = .ok (.isub, 1) := by decide +kernel
theorem dX4_nextToken_190 : decode cX4_nextToken 190 = .ok (.iconst 2, 1) := by decide +kernel
theorem dX4_nextToken_191 : decode cX4_nextToken 191 = .ok (.if_icmp .le 11, 3) := by decide +kernel
theorem dX4_nextToken_194 : decode cX4_nextToken 194 = .ok (.aload_n 0, 1) := by decide +kernel
theorem dX4_nextToken_195 : decode cX4_nextToken 195 = .ok (.iconst 1, 1) := by decide +kernel
theorem dX4_nextToken_196 : decode cX4_nextToken 196 = .ok (.invokevirtual 53, 3) := by decide +kernel
theorem dX4_nextToken_199 : decode cX4_nextToken 199 = .ok (.ifCond .eq 7, 3) := by decide +kernel
theorem dX4_nextToken_202 : decode cX4_nextToken 202 = .ok (.iconst 1, 1) := by decide +kernel
theorem dX4_nextToken_203 : decode cX4_nextToken 203 = .ok (.goto 4, 3) := by decide +kernel
theorem dX4_nextToken_206 : decode cX4_nextToken 206 = .ok (.iconst 0, 1) := by decide +kernel
theorem dX4_nextToken_207 : decode cX4_nextToken 207 = .ok (.ireturn, 1) := by decide +kernel
theorem dX4_valueOfFigures_0 : decode cX4_valueOfFigures 0 = .ok (.iconst 0, 1) := by decide +kernel
theorem dX4_valueOfFigures_1 : decode cX4_valueOfFigures 1 = .ok (.istore_n 1, 1) := by decide +kernel
theorem dX4_valueOfFigures_2 : decode cX4_valueOfFigures 2 = .ok (.aload_n 0, 1) := by decide +kernel
theorem dX4_valueOfFigures_3 : decode cX4_valueOfFigures 3 = .ok (.getfield 92, 3) := by decide +kernel
theorem dX4_valueOfFigures_6 : decode cX4_valueOfFigures 6 = .ok (.istore_n 2, 1) := by decide +kernel
theorem dX4_valueOfFigures_7 : decode cX4_valueOfFigures 7 = .ok (.iload_n 2, 1) := by decide +kernel
theorem dX4_valueOfFigures_8 : decode cX4_valueOfFigures 8 = .ok (.aload_n 0, 1) := by decide +kernel
theorem dX4_valueOfFigures_9 : decode cX4_valueOfFigures 9 = .ok (.getfield 34, 3) := by decide +kernel
theorem dX4_valueOfFigures_12 : decode cX4_valueOfFigures 12 = .ok (.if_icmp .ge 27, 3) := by decide +kernel
theorem dX4_valueOfFigures_15 : decode cX4_valueOfFigures 15 = .ok (.bipush 10, 2) := by decide +kernel
theorem dX4_valueOfFigures_17 : decode cX4_valueOfFigures 17 = .ok (.iload_n 1, 1) := by decide +kernel
theorem dX4_valueOfFigures_18 : decode cX4_valueOfFigures 18 = .ok (.imul, 1) := by decide +kernel
theorem dX4_valueOfFigures_19 : decode cX4_valueOfFigures 19 = .ok (.aload_n 0, 1) := by decide +kernel
theorem dX4_valueOfFigures_20 : decode cX4_valueOfFigures 20 = .ok (.getfield 15, 3) := by decide +kernel
theorem dX4_valueOfFigures_23 : decode cX4_valueOfFigures 23 = .ok (.getfield 95, 3) := by decide +kernel
theorem dX4_valueOfFigures_26 : decode cX4_valueOfFigures 26 = .ok (.iload_n 2, 1) := by decide +kernel
theorem dX4_valueOfFigures_27 : decode cX4_valueOfFigures 27 = .ok (.baload, 1) := by decide +kernel
theorem dX4_valueOfFigures_28 : decode cX4_valueOfFigures 28 = .ok (.iadd, 1) := by decide +kernel
theorem dX4_valueOfFigures_29 : decode cX4_valueOfFigures 29 = .ok (.bipush 48, 2) := by decide +kernel
theorem dX4_valueOfFigures_31 : decode cX4_valueOfFigures 31 = .ok (.isub, 1) := by decide +kernel
theorem dX4_valueOfFigures_32 : decode cX4_valueOfFigures 32 = .ok (.istore_n 1, 1) := by decide +kernel
theorem dX4_valueOfFigures_33 : decode cX4_valueOfFigures 33 = .ok (.iinc 2 1, 3) := by decide +kernel
theorem dX4_valueOfFigures_36 : decode cX4_valueOfFigures 36 = .ok (.goto (-29), 3) := by decide +kernel
theorem dX4_valueOfFigures_39 : decode cX4_valueOfFigures 39 = .ok (.iload_n 1, 1) := by decide +kernel
theorem dX4_valueOfFigures_40 : decode cX4_valueOfFigures 40 = .ok (.ireturn, 1) := by decide +kernel
theorem dX4_endOfRun_0 : decode cX4_endOfRun 0 = .ok (.aload_n 0, 1) := by decide +kernel
theorem dX4_endOfRun_1 : decode cX4_endOfRun 1 = .ok (.getfield 92, 3) := by decide +kernel
theorem dX4_endOfRun_4 : decode cX4_endOfRun 4 = .ok (.istore_n 3, 1) := by decide +kernel
theorem dX4_endOfRun_5 : decode cX4_endOfRun 5 = .ok (.iload_n 3, 1) := by decide +kernel
theorem dX4_endOfRun_6 : decode cX4_endOfRun 6 = .ok (.aload_n 0, 1) := by decide +kernel
theorem dX4_endOfRun_7 : decode cX4_endOfRun 7 = .ok (.getfield 15, 3) := by decide +kernel
theorem dX4_endOfRun_10 : decode cX4_endOfRun 10 = .ok (.getfield 37, 3) := by decide +kernel
theorem dX4_endOfRun_13 : decode cX4_endOfRun 13 = .ok (.if_icmp .ge 26, 3) := by decide +kernel
theorem dX4_endOfRun_16 : decode cX4_endOfRun 16 = .ok (.aload_n 0, 1) := by decide +kernel
theorem dX4_endOfRun_17 : decode cX4_endOfRun 17 = .ok (.getfield 15, 3) := by decide +kernel
theorem dX4_endOfRun_20 : decode cX4_endOfRun 20 = .ok (.getfield 95, 3) := by decide +kernel
theorem dX4_endOfRun_23 : decode cX4_endOfRun 23 = .ok (.iload_n 3, 1) := by decide +kernel
theorem dX4_endOfRun_24 : decode cX4_endOfRun 24 = .ok (.baload, 1) := by decide +kernel
theorem dX4_endOfRun_25 : decode cX4_endOfRun 25 = .ok (.iload_n 1, 1) := by decide +kernel
theorem dX4_endOfRun_26 : decode cX4_endOfRun 26 = .ok (.iload_n 2, 1) := by decide +kernel
theorem dX4_endOfRun_27 : decode cX4_endOfRun 27 = .ok (.invokestatic 88, 3) := by decide +kernel
theorem dX4_endOfRun_30 : decode cX4_endOfRun 30 = .ok (.ifCond .eq 9, 3) := by decide +kernel
theorem dX4_endOfRun_33 : decode cX4_endOfRun 33 = .ok (.iinc 3 1, 3) := by decide +kernel
theorem dX4_endOfRun_36 : decode cX4_endOfRun 36 = .ok (.goto (-31), 3) := by decide +kernel
theorem dX4_endOfRun_39 : decode cX4_endOfRun 39 = .ok (.iload_n 3, 1) := by decide +kernel
theorem dX4_endOfRun_40 : decode cX4_endOfRun 40 = .ok (.ireturn, 1) := by decide +kernel
theorem dX4_kindNamed_0 : decode cX4_kindNamed 0 = .ok (.aload_n 0, 1) := by decide +kernel
theorem dX4_kindNamed_1 : decode cX4_kindNamed 1 = .ok (.ldc 106, 2) := by decide +kernel
theorem dX4_kindNamed_3 : decode cX4_kindNamed 3 = .ok (.invokevirtual 59, 3) := by decide +kernel
theorem dX4_kindNamed_6 : decode cX4_kindNamed 6 = .ok (.ifCond .eq 5, 3) := by decide +kernel
theorem dX4_kindNamed_9 : decode cX4_kindNamed 9 = .ok (.iconst 0, 1) := by decide +kernel
theorem dX4_kindNamed_10 : decode cX4_kindNamed 10 = .ok (.ireturn, 1) := by decide +kernel
theorem dX4_kindNamed_11 : decode cX4_kindNamed 11 = .ok (.aload_n 0, 1) := by decide +kernel
theorem dX4_kindNamed_12 : decode cX4_kindNamed 12 = .ok (.ldc 108, 2) := by decide +kernel
theorem dX4_kindNamed_14 : decode cX4_kindNamed 14 = .ok (.invokevirtual 59, 3) := by decide +kernel
theorem dX4_kindNamed_17 : decode cX4_kindNamed 17 = .ok (.ifCond .eq 5, 3) := by decide +kernel
theorem dX4_kindNamed_20 : decode cX4_kindNamed 20 = .ok (.iconst 1, 1) := by decide +kernel
theorem dX4_kindNamed_21 : decode cX4_kindNamed 21 = .ok (.ireturn, 1) := by decide +kernel
theorem dX4_kindNamed_22 : decode cX4_kindNamed 22 = .ok (.aload_n 0, 1) := by decide +kernel
theorem dX4_kindNamed_23 : decode cX4_kindNamed 23 = .ok (.ldc 110, 2) := by decide +kernel
theorem dX4_kindNamed_25 : decode cX4_kindNamed 25 = .ok (.invokevirtual 59, 3) := by decide +kernel
theorem dX4_kindNamed_28 : decode cX4_kindNamed 28 = .ok (.ifCond .eq 5, 3) := by decide +kernel
theorem dX4_kindNamed_31 : decode cX4_kindNamed 31 = .ok (.iconst 2, 1) := by decide +kernel
theorem dX4_kindNamed_32 : decode cX4_kindNamed 32 = .ok (.ireturn, 1) := by decide +kernel
theorem dX4_kindNamed_33 : decode cX4_kindNamed 33 = .ok (.aload_n 0, 1) := by decide +kernel
theorem dX4_kindNamed_34 : decode cX4_kindNamed 34 = .ok (.ldc 112, 2) := by decide +kernel
theorem dX4_kindNamed_36 : decode cX4_kindNamed 36 = .ok (.invokevirtual 59, 3) := by decide +kernel
theorem dX4_kindNamed_39 : decode cX4_kindNamed 39 = .ok (.ifCond .eq 7, 3) := by decide +kernel
theorem dX4_kindNamed_42 : decode cX4_kindNamed 42 = .ok (.iconst 3, 1) := by decide +kernel
theorem dX4_kindNamed_43 : decode cX4_kindNamed 43 = .ok (.goto 5, 3) := by decide +kernel
theorem dX4_kindNamed_46 : decode cX4_kindNamed 46 = .ok (.bipush (-4), 2) := by decide +kernel
theorem dX4_kindNamed_48 : decode cX4_kindNamed 48 = .ok (.ireturn, 1) := by decide +kernel
theorem dX4_isName_0 : decode cX4_isName 0 = .ok (.aload_n 0, 1) := by decide +kernel
theorem dX4_isName_1 : decode cX4_isName 1 = .ok (.getfield 34, 3) := by decide +kernel
theorem dX4_isName_4 : decode cX4_isName 4 = .ok (.aload_n 0, 1) := by decide +kernel
theorem dX4_isName_5 : decode cX4_isName 5 = .ok (.getfield 92, 3) := by decide +kernel
theorem dX4_isName_8 : decode cX4_isName 8 = .ok (.isub, 1) := by decide +kernel
theorem dX4_isName_9 : decode cX4_isName 9 = .ok (.aload_n 1, 1) := by decide +kernel
theorem dX4_isName_10 : decode cX4_isName 10 = .ok (.invokevirtual 114, 3) := by decide +kernel
theorem dX4_isName_13 : decode cX4_isName 13 = .ok (.if_icmp .eq 5, 3) := by decide +kernel
theorem dX4_isName_16 : decode cX4_isName 16 = .ok (.iconst 0, 1) := by decide +kernel
theorem dX4_isName_17 : decode cX4_isName 17 = .ok (.ireturn, 1) := by decide +kernel
theorem dX4_isName_18 : decode cX4_isName 18 = .ok (.iconst 0, 1) := by decide +kernel
theorem dX4_isName_19 : decode cX4_isName 19 = .ok (.istore_n 2, 1) := by decide +kernel
theorem dX4_isName_20 : decode cX4_isName 20 = .ok (.iload_n 2, 1) := by decide +kernel
theorem dX4_isName_21 : decode cX4_isName 21 = .ok (.aload_n 1, 1) := by decide +kernel
theorem dX4_isName_22 : decode cX4_isName 22 = .ok (.invokevirtual 114, 3) := by decide +kernel
theorem dX4_isName_25 : decode cX4_isName 25 = .ok (.if_icmp .ge 33, 3) := by decide +kernel
theorem dX4_isName_28 : decode cX4_isName 28 = .ok (.aload_n 0, 1) := by decide +kernel
theorem dX4_isName_29 : decode cX4_isName 29 = .ok (.getfield 15, 3) := by decide +kernel
theorem dX4_isName_32 : decode cX4_isName 32 = .ok (.getfield 95, 3) := by decide +kernel
theorem dX4_isName_35 : decode cX4_isName 35 = .ok (.aload_n 0, 1) := by decide +kernel
theorem dX4_isName_36 : decode cX4_isName 36 = .ok (.getfield 92, 3) := by decide +kernel
theorem dX4_isName_39 : decode cX4_isName 39 = .ok (.iload_n 2, 1) := by decide +kernel
theorem dX4_isName_40 : decode cX4_isName 40 = .ok (.iadd, 1) := by decide +kernel
theorem dX4_isName_41 : decode cX4_isName 41 = .ok (.baload, 1) := by decide +kernel
theorem dX4_isName_42 : decode cX4_isName 42 = .ok (.aload_n 1, 1) := by decide +kernel
theorem dX4_isName_43 : decode cX4_isName 43 = .ok (.iload_n 2, 1) := by decide +kernel
theorem dX4_isName_44 : decode cX4_isName 44 = .ok (.invokevirtual 118, 3) := by decide +kernel
theorem dX4_isName_47 : decode cX4_isName 47 = .ok (.if_icmp .eq 5, 3) := by decide +kernel
theorem dX4_isName_50 : decode cX4_isName 50 = .ok (.iconst 0, 1) := by decide +kernel
theorem dX4_isName_51 : decode cX4_isName 51 = .ok (.ireturn, 1) := by decide +kernel
theorem dX4_isName_52 : decode cX4_isName 52 = .ok (.iinc 2 1, 3) := by decide +kernel
theorem dX4_isName_55 : decode cX4_isName 55 = .ok (.goto (-35), 3) := by decide +kernel
theorem dX4_isName_58 : decode cX4_isName 58 = .ok (.iconst 1, 1) := by decide +kernel
theorem dX4_isName_59 : decode cX4_isName 59 = .ok (.ireturn, 1) := by decide +kernel
theorem dX4_fail_0 : decode cX4_fail 0 = .ok (.aload_n 0, 1) := by decide +kernel
theorem dX4_fail_1 : decode cX4_fail 1 = .ok (.iload_n 1, 1) := by decide +kernel
theorem dX4_fail_2 : decode cX4_fail 2 = .ok (.putfield 11, 3) := by decide +kernel
theorem dX4_fail_5 : decode cX4_fail 5 = .ok (.aload_n 0, 1) := by decide +kernel
theorem dX4_fail_6 : decode cX4_fail 6 = .ok (.aload_n 0, 1) := by decide +kernel
theorem dX4_fail_7 : decode cX4_fail 7 = .ok (.getfield 92, 3) := by decide +kernel
theorem dX4_fail_10 : decode cX4_fail 10 = .ok (.putfield 122, 3) := by decide +kernel
theorem dX4_fail_13 : decode cX4_fail 13 = .ok (.iconst 0, 1) := by decide +kernel
theorem dX4_fail_14 : decode cX4_fail 14 = .ok (.ireturn, 1) := by decide +kernel
end
section
theorem dX5_init_0 : decode cX5_init 0 = .ok (.aload_n 0, 1) := by decide +kernel
theorem dX5_init_1 : decode cX5_init 1 = .ok (.invokespecial 1, 3) := by decide +kernel
theorem dX5_init_4 : decode cX5_init 4 = .ok (.aload_n 0, 1) := by decide +kernel
theorem dX5_init_5 : decode cX5_init 5 = .ok (.new 7, 3) := by decide +kernel
theorem dX5_init_8 : decode cX5_init 8 = .ok (.dup, 1) := by decide +kernel
theorem dX5_init_9 : decode cX5_init 9 = .ok (.invokespecial 9, 3) := by decide +kernel
theorem dX5_init_12 : decode cX5_init 12 = .ok (.putfield 10, 3) := by decide +kernel
theorem dX5_init_15 : decode cX5_init 15 = .ok (.aload_n 0, 1) := by decide +kernel
theorem dX5_init_16 : decode cX5_init 16 = .ok (.new 7, 3) := by decide +kernel
theorem dX5_init_19 : decode cX5_init 19 = .ok (.dup, 1) := by decide +kernel
theorem dX5_init_20 : decode cX5_init 20 = .ok (.invokespecial 9, 3) := by decide +kernel
theorem dX5_init_23 : decode cX5_init 23 = .ok (.putfield 16, 3) := by decide +kernel
theorem dX5_init_26 : decode cX5_init 26 = .ok (.aload_n 0, 1) := by decide +kernel
theorem dX5_init_27 : decode cX5_init 27 = .ok (.iconst 2, 1) := by decide +kernel
theorem dX5_init_28 : decode cX5_init 28 = .ok (.anewarray 7, 3) := by decide +kernel
theorem dX5_init_31 : decode cX5_init 31 = .ok (.dup, 1) := by decide +kernel
theorem dX5_init_32 : decode cX5_init 32 = .ok (.iconst 0, 1) := by decide +kernel
theorem dX5_init_33 : decode cX5_init 33 = .ok (.new 7, 3) := by decide +kernel
theorem dX5_init_36 : decode cX5_init 36 = .ok (.dup, 1) := by decide +kernel
theorem dX5_init_37 : decode cX5_init 37 = .ok (.invokespecial 9, 3) := by decide +kernel
theorem dX5_init_40 : decode cX5_init 40 = .ok (.aastore, 1) := by decide +kernel
theorem dX5_init_41 : decode cX5_init 41 = .ok (.dup, 1) := by decide +kernel
theorem dX5_init_42 : decode cX5_init 42 = .ok (.iconst 1, 1) := by decide +kernel
theorem dX5_init_43 : decode cX5_init 43 = .ok (.new 7, 3) := by decide +kernel
theorem dX5_init_46 : decode cX5_init 46 = .ok (.dup, 1) := by decide +kernel
theorem dX5_init_47 : decode cX5_init 47 = .ok (.invokespecial 9, 3) := by decide +kernel
theorem dX5_init_50 : decode cX5_init 50 = .ok (.aastore, 1) := by decide +kernel
theorem dX5_init_51 : decode cX5_init 51 = .ok (.putfield 19, 3) := by decide +kernel
theorem dX5_init_54 : decode cX5_init 54 = .ok (.aload_n 0, 1) := by decide +kernel
theorem dX5_init_55 : decode cX5_init 55 = .ok (.iconst 2, 1) := by decide +kernel
theorem dX5_init_56 : decode cX5_init 56 = .ok (.newarray .boolean, 2) := by decide +kernel
theorem dX5_init_58 : decode cX5_init 58 = .ok (.putfield 23, 3) := by decide +kernel
theorem dX5_init_61 : decode cX5_init 61 = .ok (.aload_n 0, 1) := by decide +kernel
theorem dX5_init_62 : decode cX5_init 62 = .ok (.new 27, 3) := by decide +kernel
theorem dX5_init_65 : decode cX5_init 65 = .ok (.dup, 1) := by decide +kernel
theorem dX5_init_66 : decode cX5_init 66 = .ok (.invokespecial 29, 3) := by decide +kernel
theorem dX5_init_69 : decode cX5_init 69 = .ok (.putfield 30, 3) := by decide +kernel
theorem dX5_init_72 : decode cX5_init 72 = .ok (.aload_n 0, 1) := by decide +kernel
theorem dX5_init_73 : decode cX5_init 73 = .ok (.new 34, 3) := by decide +kernel
theorem dX5_init_76 : decode cX5_init 76 = .ok (.dup, 1) := by decide +kernel
theorem dX5_init_77 : decode cX5_init 77 = .ok (.aload_n 0, 1) := by decide +kernel
theorem dX5_init_78 : decode cX5_init 78 = .ok (.getfield 30, 3) := by decide +kernel
theorem dX5_init_81 : decode cX5_init 81 = .ok (.invokespecial 36, 3) := by decide +kernel
theorem dX5_init_84 : decode cX5_init 84 = .ok (.putfield 39, 3) := by decide +kernel
theorem dX5_init_87 : decode cX5_init 87 = .ok (.aload_n 0, 1) := by decide +kernel
theorem dX5_init_88 : decode cX5_init 88 = .ok (.new 43, 3) := by decide +kernel
theorem dX5_init_91 : decode cX5_init 91 = .ok (.dup, 1) := by decide +kernel
theorem dX5_init_92 : decode cX5_init 92 = .ok (.invokespecial 45, 3) := by decide +kernel
theorem dX5_init_95 : decode cX5_init 95 = .ok (.putfield 46, 3) := by decide +kernel
theorem dX5_init_98 : decode cX5_init 98 = .ok (.aload_n 0, 1) := by decide +kernel
theorem dX5_init_99 : decode cX5_init 99 = .ok (.iconst 4, 1) := by decide +kernel
theorem dX5_init_100 : decode cX5_init 100 = .ok (.anewarray 50, 3) := by decide +kernel
theorem dX5_init_103 : decode cX5_init 103 = .ok (.dup, 1) := by decide +kernel
theorem dX5_init_104 : decode cX5_init 104 = .ok (.iconst 0, 1) := by decide +kernel
theorem dX5_init_105 : decode cX5_init 105 = .ok (.new 50, 3) := by decide +kernel
theorem dX5_init_108 : decode cX5_init 108 = .ok (.dup, 1) := by decide +kernel
theorem dX5_init_109 : decode cX5_init 109 = .ok (.invokespecial 52, 3) := by decide +kernel
theorem dX5_init_112 : decode cX5_init 112 = .ok (.aastore, 1) := by decide +kernel
theorem dX5_init_113 : decode cX5_init 113 = .ok (.dup, 1) := by decide +kernel
theorem dX5_init_114 : decode cX5_init 114 = .ok (.iconst 1, 1) := by decide +kernel
theorem dX5_init_115 : decode cX5_init 115 = .ok (.new 50, 3) := by decide +kernel
theorem dX5_init_118 : decode cX5_init 118 = .ok (.dup, 1) := by decide +kernel
theorem dX5_init_119 : decode cX5_init 119 = .ok (.invokespecial 52, 3) := by decide +kernel
theorem dX5_init_122 : decode cX5_init 122 = .ok (.aastore, 1) := by decide +kernel
theorem dX5_init_123 : decode cX5_init 123 = .ok (.dup, 1) := by decide +kernel
theorem dX5_init_124 : decode cX5_init 124 = .ok (.iconst 2, 1) := by decide +kernel
theorem dX5_init_125 : decode cX5_init 125 = .ok (.new 50, 3) := by decide +kernel
theorem dX5_init_128 : decode cX5_init 128 = .ok (.dup, 1) := by decide +kernel
theorem dX5_init_129 : decode cX5_init 129 = .ok (.invokespecial 52, 3) := by decide +kernel
theorem dX5_init_132 : decode cX5_init 132 = .ok (.aastore, 1) := by decide +kernel
theorem dX5_init_133 : decode cX5_init 133 = .ok (.dup, 1) := by decide +kernel
theorem dX5_init_134 : decode cX5_init 134 = .ok (.iconst 3, 1) := by decide +kernel
theorem dX5_init_135 : decode cX5_init 135 = .ok (.new 50, 3) := by decide +kernel
theorem dX5_init_138 : decode cX5_init 138 = .ok (.dup, 1) := by decide +kernel
theorem dX5_init_139 : decode cX5_init 139 = .ok (.invokespecial 52, 3) := by decide +kernel
theorem dX5_init_142 : decode cX5_init 142 = .ok (.aastore, 1) := by decide +kernel
theorem dX5_init_143 : decode cX5_init 143 = .ok (.putfield 53, 3) := by decide +kernel
theorem dX5_init_146 : decode cX5_init 146 = .ok (.aload_n 0, 1) := by decide +kernel
theorem dX5_init_147 : decode cX5_init 147 = .ok (.iconst 0, 1) := by decide +kernel
theorem dX5_init_148 : decode cX5_init 148 = .ok (.putfield 57, 3) := by decide +kernel
theorem dX5_init_151 : decode cX5_init 151 = .ok (.aload_n 0, 1) := by decide +kernel
theorem dX5_init_152 : decode cX5_init 152 = .ok (.bipush 9, 2) := by decide +kernel
theorem dX5_init_154 : decode cX5_init 154 = .ok (.newarray .long, 2) := by decide +kernel
theorem dX5_init_156 : decode cX5_init 156 = .ok (.putfield 61, 3) := by decide +kernel
theorem dX5_init_159 : decode cX5_init 159 = .ok (.aload_n 0, 1) := by decide +kernel
theorem dX5_init_160 : decode cX5_init 160 = .ok (.bipush 13, 2) := by decide +kernel
theorem dX5_init_162 : decode cX5_init 162 = .ok (.newarray .int, 2) := by decide +kernel
theorem dX5_init_164 : decode cX5_init 164 = .ok (.putfield 65, 3) := by decide +kernel
theorem dX5_init_167 : decode cX5_init 167 = .ok (.aload_n 0, 1) := by decide +kernel
theorem dX5_init_168 : decode cX5_init 168 = .ok (.bipush 13, 2) := by decide +kernel
theorem dX5_init_170 : decode cX5_init 170 = .ok (.sipush 201, 3) := by decide +kernel
theorem dX5_init_173 : decode cX5_init 173 = .ok (.multianewarray 69 2, 4) := by decide +kernel
theorem dX5_init_177 : decode cX5_init 177 = .ok (.putfield 71, 3) := by decide +kernel
theorem dX5_init_180 : decode cX5_init 180 = .ok (.return_, 1) := by decide +kernel
theorem dX5_feed_0 : decode cX5_feed 0 = .ok (.iload_n 1, 1) := by decide +kernel
theorem dX5_feed_1 : decode cX5_feed 1 = .ok (.iconst 0, 1) := by decide +kernel
theorem dX5_feed_2 : decode cX5_feed 2 = .ok (.bipush 127, 2) := by decide +kernel
theorem dX5_feed_4 : decode cX5_feed 4 = .ok (.invokestatic 74, 3) := by decide +kernel
theorem dX5_feed_7 : decode cX5_feed 7 = .ok (.ifCond .ne 5, 3) := by decide +kernel
theorem dX5_feed_10 : decode cX5_feed 10 = .ok (.iconst (-1), 1) := by decide +kernel
theorem dX5_feed_11 : decode cX5_feed 11 = .ok (.ireturn, 1) := by decide +kernel
theorem dX5_feed_12 : decode cX5_feed 12 = .ok (.aload_n 0, 1) := by decide +kernel
theorem dX5_feed_13 : decode cX5_feed 13 = .ok (.getfield 30, 3) := by decide +kernel
theorem dX5_feed_16 : decode cX5_feed 16 = .ok (.getfield 78, 3) := by decide +kernel
theorem dX5_feed_19 : decode cX5_feed 19 = .ok (.sipush 160, 3) := by decide +kernel
theorem dX5_feed_22 : decode cX5_feed 22 = .ok (.if_icmp .lt 6, 3) := by decide +kernel
theorem dX5_feed_25 : decode cX5_feed 25 = .ok (.bipush (-3), 2) := by decide +kernel
theorem dX5_feed_27 : decode cX5_feed 27 = .ok (.ireturn, 1) := by decide +kernel
theorem dX5_feed_28 : decode cX5_feed 28 = .ok (.aload_n 0, 1) := by decide +kernel
theorem dX5_feed_29 : decode cX5_feed 29 = .ok (.getfield 30, 3) := by decide +kernel
theorem dX5_feed_32 : decode cX5_feed 32 = .ok (.getfield 81, 3) := by decide +kernel
theorem dX5_feed_35 : decode cX5_feed 35 = .ok (.aload_n 0, 1) := by decide +kernel
theorem dX5_feed_36 : decode cX5_feed 36 = .ok (.getfield 30, 3) := by decide +kernel
theorem dX5_feed_39 : decode cX5_feed 39 = .ok (.getfield 78, 3) := by decide +kernel
theorem dX5_feed_42 : decode cX5_feed 42 = .ok (.iload_n 1, 1) := by decide +kernel
theorem dX5_feed_43 : decode cX5_feed 43 = .ok (.i2b, 1) := by decide +kernel
theorem dX5_feed_44 : decode cX5_feed 44 = .ok (.bastore, 1) := by decide +kernel
theorem dX5_feed_45 : decode cX5_feed 45 = .ok (.aload_n 0, 1) := by decide +kernel
theorem dX5_feed_46 : decode cX5_feed 46 = .ok (.getfield 30, 3) := by decide +kernel
theorem dX5_feed_49 : decode cX5_feed 49 = .ok (.dup, 1) := by decide +kernel
theorem dX5_feed_50 : decode cX5_feed 50 = .ok (.getfield 78, 3) := by decide +kernel
theorem dX5_feed_53 : decode cX5_feed 53 = .ok (.iconst 1, 1) := by decide +kernel
theorem dX5_feed_54 : decode cX5_feed 54 = .ok (.iadd, 1) := by decide +kernel
theorem dX5_feed_55 : decode cX5_feed 55 = .ok (.putfield 78, 3) := by decide +kernel
theorem dX5_feed_58 : decode cX5_feed 58 = .ok (.aload_n 0, 1) := by decide +kernel
theorem dX5_feed_59 : decode cX5_feed 59 = .ok (.getfield 30, 3) := by decide +kernel
theorem dX5_feed_62 : decode cX5_feed 62 = .ok (.getfield 78, 3) := by decide +kernel
theorem dX5_feed_65 : decode cX5_feed 65 = .ok (.ireturn, 1) := by decide +kernel
theorem dX5_end_0 : decode cX5_end 0 = .ok (.iload_n 1, 1) := by decide +kernel
theorem dX5_end_1 : decode cX5_end 1 = .ok (.iconst 0, 1) := by decide +kernel
theorem dX5_end_2 : decode cX5_end 2 = .ok (.aload_n 0, 1) := by decide +kernel
theorem dX5_end_3 : decode cX5_end 3 = .ok (.getfield 30, 3) := by decide +kernel
theorem dX5_end_6 : decode cX5_end 6 = .ok (.getfield 78, 3) := by decide +kernel
theorem dX5_end_9 : decode cX5_end 9 = .ok (.invokestatic 74, 3) := by decide +kernel
theorem dX5_end_12 : decode cX5_end 12 = .ok (.ifCond .ne 5, 3) := by decide +kernel
theorem dX5_end_15 : decode cX5_end 15 = .ok (.iconst (-1), 1) := by decide +kernel
theorem dX5_end_16 : decode cX5_end 16 = .ok (.ireturn, 1) := by decide +kernel
theorem dX5_end_17 : decode cX5_end 17 = .ok (.aload_n 0, 1) := by decide +kernel
theorem dX5_end_18 : decode cX5_end 18 = .ok (.getfield 30, 3) := by decide +kernel
theorem dX5_end_21 : decode cX5_end 21 = .ok (.getfield 78, 3) := by decide +kernel
theorem dX5_end_24 : decode cX5_end 24 = .ok (.istore_n 2, 1) := by decide +kernel
theorem dX5_end_25 : decode cX5_end 25 = .ok (.aload_n 0, 1) := by decide +kernel
theorem dX5_end_26 : decode cX5_end 26 = .ok (.getfield 30, 3) := by decide +kernel
theorem dX5_end_29 : decode cX5_end 29 = .ok (.iload_n 1, 1) := by decide +kernel
theorem dX5_end_30 : decode cX5_end 30 = .ok (.putfield 78, 3) := by decide +kernel
theorem dX5_end_33 : decode cX5_end 33 = .ok (.iload_n 2, 1) := by decide +kernel
theorem dX5_end_34 : decode cX5_end 34 = .ok (.ireturn, 1) := by decide +kernel
theorem dX5_text_0 : decode cX5_text 0 = .ok (.aload_n 0, 1) := by decide +kernel
theorem dX5_text_1 : decode cX5_text 1 = .ok (.getfield 39, 3) := by decide +kernel
theorem dX5_text_4 : decode cX5_text 4 = .ok (.aload_n 0, 1) := by decide +kernel
theorem dX5_text_5 : decode cX5_text 5 = .ok (.getfield 16, 3) := by decide +kernel
theorem dX5_text_8 : decode cX5_text 8 = .ok (.invokevirtual 85, 3) := by decide +kernel
theorem dX5_text_11 : decode cX5_text 11 = .ok (.istore_n 1, 1) := by decide +kernel
theorem dX5_text_12 : decode cX5_text 12 = .ok (.aload_n 0, 1) := by decide +kernel
theorem dX5_text_13 : decode cX5_text 13 = .ok (.getfield 30, 3) := by decide +kernel
theorem dX5_text_16 : decode cX5_text 16 = .ok (.iconst 0, 1) := by decide +kernel
theorem dX5_text_17 : decode cX5_text 17 = .ok (.putfield 78, 3) := by decide +kernel
theorem dX5_text_20 : decode cX5_text 20 = .ok (.iload_n 1, 1) := by decide +kernel
theorem dX5_text_21 : decode cX5_text 21 = .ok (.ifCond .ne 14, 3) := by decide +kernel
theorem dX5_text_24 : decode cX5_text 24 = .ok (.bipush (-10), 2) := by decide +kernel
theorem dX5_text_26 : decode cX5_text 26 = .ok (.aload_n 0, 1) := by decide +kernel
theorem dX5_text_27 : decode cX5_text 27 = .ok (.getfield 39, 3) := by decide +kernel
theorem dX5_text_30 : decode cX5_text 30 = .ok (.getfield 89, 3) := by decide +kernel
theorem dX5_text_33 : decode cX5_text 33 = .ok (.isub, 1) := by decide +kernel
theorem dX5_text_34 : decode cX5_text 34 = .ok (.ireturn, 1) := by decide +kernel
theorem dX5_text_35 : decode cX5_text 35 = .ok (.aload_n 0, 1) := by decide +kernel
theorem dX5_text_36 : decode cX5_text 36 = .ok (.getfield 10, 3) := by decide +kernel
theorem dX5_text_39 : decode cX5_text 39 = .ok (.aload_n 0, 1) := by decide +kernel
theorem dX5_text_40 : decode cX5_text 40 = .ok (.getfield 16, 3) := by decide +kernel
theorem dX5_text_43 : decode cX5_text 43 = .ok (.invokevirtual 92, 3) := by decide +kernel
theorem dX5_text_46 : decode cX5_text 46 = .ok (.aload_n 0, 1) := by decide +kernel
theorem dX5_text_47 : decode cX5_text 47 = .ok (.getfield 46, 3) := by decide +kernel
theorem dX5_text_50 : decode cX5_text 50 = .ok (.iconst 0, 1) := by decide +kernel
theorem dX5_text_51 : decode cX5_text 51 = .ok (.putfield 96, 3) := by decide +kernel
theorem dX5_text_54 : decode cX5_text 54 = .ok (.iconst 0, 1) := by decide +kernel
theorem dX5_text_55 : decode cX5_text 55 = .ok (.istore_n 2, 1) := by decide +kernel
theorem dX5_text_56 : decode cX5_text 56 = .ok (.iload_n 2, 1) := by decide +kernel
theorem dX5_text_57 : decode cX5_text 57 = .ok (.iconst 2, 1) := by decide +kernel
theorem dX5_text_58 : decode cX5_text 58 = .ok (.if_icmp .ge 16, 3) := by decide +kernel
theorem dX5_text_61 : decode cX5_text 61 = .ok (.aload_n 0, 1) := by decide +kernel
theorem dX5_text_62 : decode cX5_text 62 = .ok (.getfield 23, 3) := by decide +kernel
theorem dX5_text_65 : decode cX5_text 65 = .ok (.iload_n 2, 1) := by decide +kernel
theorem dX5_text_66 : decode cX5_text 66 = .ok (.iconst 0, 1) := by decide +kernel
theorem dX5_text_67 : decode cX5_text 67 = .ok (.bastore, 1) := by decide +kernel
theorem dX5_text_68 : decode cX5_text 68 = .ok (.iinc 2 1, 3) := by decide +kernel
theorem dX5_text_71 : decode cX5_text 71 = .ok (.goto (-15), 3) := by decide +kernel
theorem dX5_text_74 : decode cX5_text 74 = .ok (.aload_n 0, 1) := by decide +kernel
theorem dX5_text_75 : decode cX5_text 75 = .ok (.getfield 39, 3) := by decide +kernel
theorem dX5_text_78 : decode cX5_text 78 = .ok (.getfield 99, 3) := by decide +kernel
theorem dX5_text_81 : decode cX5_text 81 = .ok (.ireturn, 1) := by decide +kernel
theorem dX5_fault_0 : decode cX5_fault 0 = .ok (.aload_n 0, 1) := by decide +kernel
theorem dX5_fault_1 : decode cX5_fault 1 = .ok (.getfield 39, 3) := by decide +kernel
theorem dX5_fault_4 : decode cX5_fault 4 = .ok (.getfield 102, 3) := by decide +kernel
theorem dX5_fault_7 : decode cX5_fault 7 = .ok (.ireturn, 1) := by decide +kernel
theorem dX5_rule_0 : decode cX5_rule 0 = .ok (.iload_n 1, 1) := by decide +kernel
theorem dX5_rule_1 : decode cX5_rule 1 = .ok (.tableswitch 87 0 5 #[39, 47, 55, 63, 71, 79], 39) := by decide +kernel
theorem dX5_rule_40 : decode cX5_rule 40 = .ok (.aload_n 0, 1) := by decide +kernel
theorem dX5_rule_41 : decode cX5_rule 41 = .ok (.getfield 10, 3) := by decide +kernel
theorem dX5_rule_44 : decode cX5_rule 44 = .ok (.getfield 105, 3) := by decide +kernel
theorem dX5_rule_47 : decode cX5_rule 47 = .ok (.ireturn, 1) := by decide +kernel
theorem dX5_rule_48 : decode cX5_rule 48 = .ok (.aload_n 0, 1) := by decide +kernel
theorem dX5_rule_49 : decode cX5_rule 49 = .ok (.getfield 10, 3) := by decide +kernel
theorem dX5_rule_52 : decode cX5_rule 52 = .ok (.getfield 106, 3) := by decide +kernel
theorem dX5_rule_55 : decode cX5_rule 55 = .ok (.ireturn, 1) := by decide +kernel
theorem dX5_rule_56 : decode cX5_rule 56 = .ok (.aload_n 0, 1) := by decide +kernel
theorem dX5_rule_57 : decode cX5_rule 57 = .ok (.getfield 10, 3) := by decide +kernel
theorem dX5_rule_60 : decode cX5_rule 60 = .ok (.invokevirtual 109, 3) := by decide +kernel
theorem dX5_rule_63 : decode cX5_rule 63 = .ok (.ireturn, 1) := by decide +kernel
theorem dX5_rule_64 : decode cX5_rule 64 = .ok (.aload_n 0, 1) := by decide +kernel
theorem dX5_rule_65 : decode cX5_rule 65 = .ok (.getfield 10, 3) := by decide +kernel
theorem dX5_rule_68 : decode cX5_rule 68 = .ok (.invokevirtual 113, 3) := by decide +kernel
theorem dX5_rule_71 : decode cX5_rule 71 = .ok (.ireturn, 1) := by decide +kernel
theorem dX5_rule_72 : decode cX5_rule 72 = .ok (.aload_n 0, 1) := by decide +kernel
theorem dX5_rule_73 : decode cX5_rule 73 = .ok (.getfield 10, 3) := by decide +kernel
theorem dX5_rule_76 : decode cX5_rule 76 = .ok (.invokevirtual 116, 3) := by decide +kernel
theorem dX5_rule_79 : decode cX5_rule 79 = .ok (.ireturn, 1) := by decide +kernel
theorem dX5_rule_80 : decode cX5_rule 80 = .ok (.aload_n 0, 1) := by decide +kernel
theorem dX5_rule_81 : decode cX5_rule 81 = .ok (.getfield 10, 3) := by decide +kernel
theorem dX5_rule_84 : decode cX5_rule 84 = .ok (.invokevirtual 119, 3) := by decide +kernel
theorem dX5_rule_87 : decode cX5_rule 87 = .ok (.ireturn, 1) := by decide +kernel
theorem dX5_rule_88 : decode cX5_rule 88 = .ok (.iconst (-1), 1) := by decide +kernel
theorem dX5_rule_89 : decode cX5_rule 89 = .ok (.ireturn, 1) := by decide +kernel
theorem dX5_wheel_0 : decode cX5_wheel 0 = .ok (.aload_n 0, 1) := by decide +kernel
theorem dX5_wheel_1 : decode cX5_wheel 1 = .ok (.getfield 10, 3) := by decide +kernel
theorem dX5_wheel_4 : decode cX5_wheel 4 = .ok (.iload_n 1, 1) := by decide +kernel
theorem dX5_wheel_5 : decode cX5_wheel 5 = .ok (.invokevirtual 122, 3) := by decide +kernel
theorem dX5_wheel_8 : decode cX5_wheel 8 = .ok (.ifCond .ne 5, 3) := by decide +kernel
theorem dX5_wheel_11 : decode cX5_wheel 11 = .ok (.iconst (-1), 1) := by decide +kernel
theorem dX5_wheel_12 : decode cX5_wheel 12 = .ok (.ireturn, 1) := by decide +kernel
theorem dX5_wheel_13 : decode cX5_wheel 13 = .ok (.iload_n 2, 1) := by decide +kernel
theorem dX5_wheel_14 : decode cX5_wheel 14 = .ok (.iconst 4, 1) := by decide +kernel
theorem dX5_wheel_15 : decode cX5_wheel 15 = .ok (.if_icmp .ne 12, 3) := by decide +kernel
theorem dX5_wheel_18 : decode cX5_wheel 18 = .ok (.aload_n 0, 1) := by decide +kernel
theorem dX5_wheel_19 : decode cX5_wheel 19 = .ok (.getfield 10, 3) := by decide +kernel
theorem dX5_wheel_22 : decode cX5_wheel 22 = .ok (.iload_n 1, 1) := by decide +kernel
theorem dX5_wheel_23 : decode cX5_wheel 23 = .ok (.invokevirtual 126, 3) := by decide +kernel
theorem dX5_wheel_26 : decode cX5_wheel 26 = .ok (.ireturn, 1) := by decide +kernel
theorem dX5_wheel_27 : decode cX5_wheel 27 = .ok (.iload_n 2, 1) := by decide +kernel
theorem dX5_wheel_28 : decode cX5_wheel 28 = .ok (.iconst 0, 1) := by decide +kernel
theorem dX5_wheel_29 : decode cX5_wheel 29 = .ok (.iconst 3, 1) := by decide +kernel
theorem dX5_wheel_30 : decode cX5_wheel 30 = .ok (.invokestatic 74, 3) := by decide +kernel
theorem dX5_wheel_33 : decode cX5_wheel 33 = .ok (.ifCond .eq 15, 3) := by decide +kernel
theorem dX5_wheel_36 : decode cX5_wheel 36 = .ok (.aload_n 0, 1) := by decide +kernel
theorem dX5_wheel_37 : decode cX5_wheel 37 = .ok (.getfield 10, 3) := by decide +kernel
theorem dX5_wheel_40 : decode cX5_wheel 40 = .ok (.iload_n 1, 1) := by decide +kernel
theorem dX5_wheel_41 : decode cX5_wheel 41 = .ok (.iload_n 2, 1) := by decide +kernel
theorem dX5_wheel_42 : decode cX5_wheel 42 = .ok (.invokevirtual 130, 3) := by decide +kernel
theorem dX5_wheel_45 : decode cX5_wheel 45 = .ok (.goto 4, 3) := by decide +kernel
theorem dX5_wheel_48 : decode cX5_wheel 48 = .ok (.iconst (-1), 1) := by decide +kernel
theorem dX5_wheel_49 : decode cX5_wheel 49 = .ok (.ireturn, 1) := by decide +kernel
theorem dX5_alter_0 : decode cX5_alter 0 = .ok (.aload_n 0, 1) := by decide +kernel
theorem dX5_alter_1 : decode cX5_alter 1 = .ok (.getfield 10, 3) := by decide +kernel
theorem dX5_alter_4 : decode cX5_alter 4 = .ok (.iload_n 1, 1) := by decide +kernel
theorem dX5_alter_5 : decode cX5_alter 5 = .ok (.iload_n 2, 1) := by decide +kernel
theorem dX5_alter_6 : decode cX5_alter 6 = .ok (.iload_n 3, 1) := by decide +kernel
theorem dX5_alter_7 : decode cX5_alter 7 = .ok (.invokevirtual 134, 3) := by decide +kernel
theorem dX5_alter_10 : decode cX5_alter 10 = .ok (.ireturn, 1) := by decide +kernel
theorem dX5_add_0 : decode cX5_add 0 = .ok (.iload_n 1, 1) := by decide +kernel
theorem dX5_add_1 : decode cX5_add 1 = .ok (.iconst 0, 1) := by decide +kernel
theorem dX5_add_2 : decode cX5_add 2 = .ok (.iconst 3, 1) := by decide +kernel
theorem dX5_add_3 : decode cX5_add 3 = .ok (.invokestatic 74, 3) := by decide +kernel
theorem dX5_add_6 : decode cX5_add 6 = .ok (.ifCond .eq 13, 3) := by decide +kernel
theorem dX5_add_9 : decode cX5_add 9 = .ok (.iload_n 2, 1) := by decide +kernel
theorem dX5_add_10 : decode cX5_add 10 = .ok (.iconst 2, 1) := by decide +kernel
theorem dX5_add_11 : decode cX5_add 11 = .ok (.bipush 12, 2) := by decide +kernel
theorem dX5_add_13 : decode cX5_add 13 = .ok (.invokestatic 74, 3) := by decide +kernel
theorem dX5_add_16 : decode cX5_add 16 = .ok (.ifCond .ne 5, 3) := by decide +kernel
theorem dX5_add_19 : decode cX5_add 19 = .ok (.iconst (-1), 1) := by decide +kernel
theorem dX5_add_20 : decode cX5_add 20 = .ok (.ireturn, 1) := by decide +kernel
theorem dX5_add_21 : decode cX5_add 21 = .ok (.aload_n 0, 1) := by decide +kernel
theorem dX5_add_22 : decode cX5_add 22 = .ok (.getfield 10, 3) := by decide +kernel
theorem dX5_add_25 : decode cX5_add 25 = .ok (.getfield 105, 3) := by decide +kernel
theorem dX5_add_28 : decode cX5_add 28 = .ok (.iconst 5, 1) := by decide +kernel
theorem dX5_add_29 : decode cX5_add 29 = .ok (.if_icmp .lt 6, 3) := by decide +kernel
theorem dX5_add_32 : decode cX5_add 32 = .ok (.bipush (-3), 2) := by decide +kernel
theorem dX5_add_34 : decode cX5_add 34 = .ok (.ireturn, 1) := by decide +kernel
theorem dX5_add_35 : decode cX5_add 35 = .ok (.aload_n 0, 1) := by decide +kernel
theorem dX5_add_36 : decode cX5_add 36 = .ok (.getfield 10, 3) := by decide +kernel
theorem dX5_add_39 : decode cX5_add 39 = .ok (.iload_n 1, 1) := by decide +kernel
theorem dX5_add_40 : decode cX5_add 40 = .ok (.iload_n 2, 1) := by decide +kernel
theorem dX5_add_41 : decode cX5_add 41 = .ok (.iconst 0, 1) := by decide +kernel
theorem dX5_add_42 : decode cX5_add 42 = .ok (.bipush 12, 2) := by decide +kernel
theorem dX5_add_44 : decode cX5_add 44 = .ok (.invokevirtual 138, 3) := by decide +kernel
theorem dX5_add_47 : decode cX5_add 47 = .ok (.aload_n 0, 1) := by decide +kernel
theorem dX5_add_48 : decode cX5_add 48 = .ok (.getfield 10, 3) := by decide +kernel
theorem dX5_add_51 : decode cX5_add 51 = .ok (.getfield 105, 3) := by decide +kernel
theorem dX5_add_54 : decode cX5_add 54 = .ok (.ireturn, 1) := by decide +kernel
theorem dX5_cut_0 : decode cX5_cut 0 = .ok (.iload_n 1, 1) := by decide +kernel
theorem dX5_cut_1 : decode cX5_cut 1 = .ok (.iconst 0, 1) := by decide +kernel
theorem dX5_cut_2 : decode cX5_cut 2 = .ok (.aload_n 0, 1) := by decide +kernel
theorem dX5_cut_3 : decode cX5_cut 3 = .ok (.getfield 10, 3) := by decide +kernel
theorem dX5_cut_6 : decode cX5_cut 6 = .ok (.getfield 105, 3) := by decide +kernel
theorem dX5_cut_9 : decode cX5_cut 9 = .ok (.invokestatic 74, 3) := by decide +kernel
theorem dX5_cut_12 : decode cX5_cut 12 = .ok (.ifCond .ne 5, 3) := by decide +kernel
theorem dX5_cut_15 : decode cX5_cut 15 = .ok (.iconst (-1), 1) := by decide +kernel
theorem dX5_cut_16 : decode cX5_cut 16 = .ok (.ireturn, 1) := by decide +kernel
theorem dX5_cut_17 : decode cX5_cut 17 = .ok (.aload_n 0, 1) := by decide +kernel
theorem dX5_cut_18 : decode cX5_cut 18 = .ok (.getfield 10, 3) := by decide +kernel
theorem dX5_cut_21 : decode cX5_cut 21 = .ok (.getfield 105, 3) := by decide +kernel
theorem dX5_cut_24 : decode cX5_cut 24 = .ok (.istore_n 2, 1) := by decide +kernel
theorem dX5_cut_25 : decode cX5_cut 25 = .ok (.aload_n 0, 1) := by decide +kernel
theorem dX5_cut_26 : decode cX5_cut 26 = .ok (.getfield 10, 3) := by decide +kernel
theorem dX5_cut_29 : decode cX5_cut 29 = .ok (.iload_n 1, 1) := by decide +kernel
theorem dX5_cut_30 : decode cX5_cut 30 = .ok (.putfield 105, 3) := by decide +kernel
theorem dX5_cut_33 : decode cX5_cut 33 = .ok (.iload_n 2, 1) := by decide +kernel
theorem dX5_cut_34 : decode cX5_cut 34 = .ok (.ireturn, 1) := by decide +kernel
theorem dX5_turn_0 : decode cX5_turn 0 = .ok (.aload_n 0, 1) := by decide +kernel
theorem dX5_turn_1 : decode cX5_turn 1 = .ok (.getfield 10, 3) := by decide +kernel
theorem dX5_turn_4 : decode cX5_turn 4 = .ok (.iload_n 1, 1) := by decide +kernel
theorem dX5_turn_5 : decode cX5_turn 5 = .ok (.invokevirtual 122, 3) := by decide +kernel
theorem dX5_turn_8 : decode cX5_turn 8 = .ok (.ifCond .ne 5, 3) := by decide +kernel
theorem dX5_turn_11 : decode cX5_turn 11 = .ok (.iconst (-1), 1) := by decide +kernel
theorem dX5_turn_12 : decode cX5_turn 12 = .ok (.ireturn, 1) := by decide +kernel
theorem dX5_turn_13 : decode cX5_turn 13 = .ok (.aload_n 0, 1) := by decide +kernel
theorem dX5_turn_14 : decode cX5_turn 14 = .ok (.getfield 10, 3) := by decide +kernel
theorem dX5_turn_17 : decode cX5_turn 17 = .ok (.iload_n 1, 1) := by decide +kernel
theorem dX5_turn_18 : decode cX5_turn 18 = .ok (.invokevirtual 142, 3) := by decide +kernel
theorem dX5_turn_21 : decode cX5_turn 21 = .ok (.aload_n 0, 1) := by decide +kernel
theorem dX5_turn_22 : decode cX5_turn 22 = .ok (.getfield 10, 3) := by decide +kernel
theorem dX5_turn_25 : decode cX5_turn 25 = .ok (.invokevirtual 109, 3) := by decide +kernel
theorem dX5_turn_28 : decode cX5_turn 28 = .ok (.ireturn, 1) := by decide +kernel
theorem dX5_clear_0 : decode cX5_clear 0 = .ok (.aload_n 0, 1) := by decide +kernel
theorem dX5_clear_1 : decode cX5_clear 1 = .ok (.getfield 10, 3) := by decide +kernel
theorem dX5_clear_4 : decode cX5_clear 4 = .ok (.invokevirtual 109, 3) := by decide +kernel
theorem dX5_clear_7 : decode cX5_clear 7 = .ok (.istore_n 1, 1) := by decide +kernel
theorem dX5_clear_8 : decode cX5_clear 8 = .ok (.iconst 0, 1) := by decide +kernel
theorem dX5_clear_9 : decode cX5_clear 9 = .ok (.istore_n 2, 1) := by decide +kernel
theorem dX5_clear_10 : decode cX5_clear 10 = .ok (.iload_n 2, 1) := by decide +kernel
theorem dX5_clear_11 : decode cX5_clear 11 = .ok (.aload_n 0, 1) := by decide +kernel
theorem dX5_clear_12 : decode cX5_clear 12 = .ok (.getfield 10, 3) := by decide +kernel
theorem dX5_clear_15 : decode cX5_clear 15 = .ok (.getfield 105, 3) := by decide +kernel
theorem dX5_clear_18 : decode cX5_clear 18 = .ok (.if_icmp .ge 19, 3) := by decide +kernel
theorem dX5_clear_21 : decode cX5_clear 21 = .ok (.aload_n 0, 1) := by decide +kernel
theorem dX5_clear_22 : decode cX5_clear 22 = .ok (.getfield 10, 3) := by decide +kernel
theorem dX5_clear_25 : decode cX5_clear 25 = .ok (.getfield 146, 3) := by decide +kernel
theorem dX5_clear_28 : decode cX5_clear 28 = .ok (.iload_n 2, 1) := by decide +kernel
theorem dX5_clear_29 : decode cX5_clear 29 = .ok (.iconst 0, 1) := by decide +kernel
theorem dX5_clear_30 : decode cX5_clear 30 = .ok (.iastore, 1) := by decide +kernel
theorem dX5_clear_31 : decode cX5_clear 31 = .ok (.iinc 2 1, 3) := by decide +kernel
theorem dX5_clear_34 : decode cX5_clear 34 = .ok (.goto (-24), 3) := by decide +kernel
theorem dX5_clear_37 : decode cX5_clear 37 = .ok (.aload_n 0, 1) := by decide +kernel
theorem dX5_clear_38 : decode cX5_clear 38 = .ok (.getfield 10, 3) := by decide +kernel
theorem dX5_clear_41 : decode cX5_clear 41 = .ok (.iconst 0, 1) := by decide +kernel
theorem dX5_clear_42 : decode cX5_clear 42 = .ok (.putfield 106, 3) := by decide +kernel
theorem dX5_clear_45 : decode cX5_clear 45 = .ok (.iload_n 1, 1) := by decide +kernel
theorem dX5_clear_46 : decode cX5_clear 46 = .ok (.ireturn, 1) := by decide +kernel
theorem dX5_pushes_0 : decode cX5_pushes 0 = .ok (.iload_n 1, 1) := by decide +kernel
theorem dX5_pushes_1 : decode cX5_pushes 1 = .ok (.iconst 0, 1) := by decide +kernel
theorem dX5_pushes_2 : decode cX5_pushes 2 = .ok (.sipush 1000, 3) := by decide +kernel
theorem dX5_pushes_5 : decode cX5_pushes 5 = .ok (.invokestatic 74, 3) := by decide +kernel
theorem dX5_pushes_8 : decode cX5_pushes 8 = .ok (.ifCond .ne 5, 3) := by decide +kernel
theorem dX5_pushes_11 : decode cX5_pushes 11 = .ok (.iconst (-1), 1) := by decide +kernel
theorem dX5_pushes_12 : decode cX5_pushes 12 = .ok (.ireturn, 1) := by decide +kernel
theorem dX5_pushes_13 : decode cX5_pushes 13 = .ok (.aload_n 0, 1) := by decide +kernel
theorem dX5_pushes_14 : decode cX5_pushes 14 = .ok (.getfield 10, 3) := by decide +kernel
theorem dX5_pushes_17 : decode cX5_pushes 17 = .ok (.getfield 106, 3) := by decide +kernel
theorem dX5_pushes_20 : decode cX5_pushes 20 = .ok (.iload_n 1, 1) := by decide +kernel
theorem dX5_pushes_21 : decode cX5_pushes 21 = .ok (.iadd, 1) := by decide +kernel
theorem dX5_pushes_22 : decode cX5_pushes 22 = .ok (.ldc 149, 2) := by decide +kernel
theorem dX5_pushes_24 : decode cX5_pushes 24 = .ok (.if_icmp .le 6, 3) := by decide +kernel
theorem dX5_pushes_27 : decode cX5_pushes 27 = .ok (.bipush (-3), 2) := by decide +kernel
theorem dX5_pushes_29 : decode cX5_pushes 29 = .ok (.ireturn, 1) := by decide +kernel
theorem dX5_pushes_30 : decode cX5_pushes 30 = .ok (.aload_n 0, 1) := by decide +kernel
theorem dX5_pushes_31 : decode cX5_pushes 31 = .ok (.getfield 10, 3) := by decide +kernel
theorem dX5_pushes_34 : decode cX5_pushes 34 = .ok (.iload_n 1, 1) := by decide +kernel
theorem dX5_pushes_35 : decode cX5_pushes 35 = .ok (.invokevirtual 150, 3) := by decide +kernel
theorem dX5_pushes_38 : decode cX5_pushes 38 = .ok (.aload_n 0, 1) := by decide +kernel
theorem dX5_pushes_39 : decode cX5_pushes 39 = .ok (.getfield 10, 3) := by decide +kernel
theorem dX5_pushes_42 : decode cX5_pushes 42 = .ok (.invokevirtual 109, 3) := by decide +kernel
theorem dX5_pushes_45 : decode cX5_pushes 45 = .ok (.ireturn, 1) := by decide +kernel
theorem dX5_runs_0 : decode cX5_runs 0 = .ok (.iload_n 1, 1) := by decide +kernel
theorem dX5_runs_1 : decode cX5_runs 1 = .ok (.iconst 0, 1) := by decide +kernel
theorem dX5_runs_2 : decode cX5_runs 2 = .ok (.sipush 1000, 3) := by decide +kernel
theorem dX5_runs_5 : decode cX5_runs 5 = .ok (.invokestatic 74, 3) := by decide +kernel
theorem dX5_runs_8 : decode cX5_runs 8 = .ok (.ifCond .eq 12, 3) := by decide +kernel
theorem dX5_runs_11 : decode cX5_runs 11 = .ok (.iload_n 2, 1) := by decide +kernel
theorem dX5_runs_12 : decode cX5_runs 12 = .ok (.iconst 0, 1) := by decide +kernel
theorem dX5_runs_13 : decode cX5_runs 13 = .ok (.iconst 4, 1) := by decide +kernel
theorem dX5_runs_14 : decode cX5_runs 14 = .ok (.invokestatic 74, 3) := by decide +kernel
theorem dX5_runs_17 : decode cX5_runs 17 = .ok (.ifCond .ne 5, 3) := by decide +kernel
theorem dX5_runs_20 : decode cX5_runs 20 = .ok (.iconst (-1), 1) := by decide +kernel
theorem dX5_runs_21 : decode cX5_runs 21 = .ok (.ireturn, 1) := by decide +kernel
theorem dX5_runs_22 : decode cX5_runs 22 = .ok (.aload_n 0, 1) := by decide +kernel
theorem dX5_runs_23 : decode cX5_runs 23 = .ok (.getfield 16, 3) := by decide +kernel
theorem dX5_runs_26 : decode cX5_runs 26 = .ok (.aload_n 0, 1) := by decide +kernel
theorem dX5_runs_27 : decode cX5_runs 27 = .ok (.getfield 10, 3) := by decide +kernel
theorem dX5_runs_30 : decode cX5_runs 30 = .ok (.invokevirtual 92, 3) := by decide +kernel
theorem dX5_runs_33 : decode cX5_runs 33 = .ok (.aload_n 0, 1) := by decide +kernel
theorem dX5_runs_34 : decode cX5_runs 34 = .ok (.getfield 16, 3) := by decide +kernel
theorem dX5_runs_37 : decode cX5_runs 37 = .ok (.invokevirtual 109, 3) := by decide +kernel
theorem dX5_runs_40 : decode cX5_runs 40 = .ok (.istore_n 3, 1) := by decide +kernel
theorem dX5_runs_41 : decode cX5_runs 41 = .ok (.iconst 0, 1) := by decide +kernel
theorem dX5_runs_42 : decode cX5_runs 42 = .ok (.istore 4, 2) := by decide +kernel
theorem dX5_runs_44 : decode cX5_runs 44 = .ok (.iconst 0, 1) := by decide +kernel
theorem dX5_runs_45 : decode cX5_runs 45 = .ok (.istore 5, 2) := by decide +kernel
theorem dX5_runs_47 : decode cX5_runs 47 = .ok (.iload 5, 2) := by decide +kernel
theorem dX5_runs_49 : decode cX5_runs 49 = .ok (.iload_n 1, 1) := by decide +kernel
theorem dX5_runs_50 : decode cX5_runs 50 = .ok (.if_icmp .ge 54, 3) := by decide +kernel
theorem dX5_runs_53 : decode cX5_runs 53 = .ok (.aload_n 0, 1) := by decide +kernel
theorem dX5_runs_54 : decode cX5_runs 54 = .ok (.getfield 16, 3) := by decide +kernel
theorem dX5_runs_57 : decode cX5_runs 57 = .ok (.invokevirtual 153, 3) := by decide +kernel
theorem dX5_runs_60 : decode cX5_runs 60 = .ok (.iload_n 2, 1) := by decide +kernel
theorem dX5_runs_61 : decode cX5_runs 61 = .ok (.iconst 2, 1) := by decide +kernel
theorem dX5_runs_62 : decode cX5_runs 62 = .ok (.if_icmp .ne 18, 3) := by decide +kernel
theorem dX5_runs_65 : decode cX5_runs 65 = .ok (.iload_n 3, 1) := by decide +kernel
theorem dX5_runs_66 : decode cX5_runs 66 = .ok (.aload_n 0, 1) := by decide +kernel
theorem dX5_runs_67 : decode cX5_runs 67 = .ok (.getfield 16, 3) := by decide +kernel
theorem dX5_runs_70 : decode cX5_runs 70 = .ok (.invokevirtual 109, 3) := by decide +kernel
theorem dX5_runs_73 : decode cX5_runs 73 = .ok (.invokestatic 156, 3) := by decide +kernel
theorem dX5_runs_76 : decode cX5_runs 76 = .ok (.istore_n 3, 1) := by decide +kernel
theorem dX5_runs_77 : decode cX5_runs 77 = .ok (.goto 21, 3) := by decide +kernel
theorem dX5_runs_80 : decode cX5_runs 80 = .ok (.iload_n 2, 1) := by decide +kernel
theorem dX5_runs_81 : decode cX5_runs 81 = .ok (.iconst 4, 1) := by decide +kernel
theorem dX5_runs_82 : decode cX5_runs 82 = .ok (.if_icmp .ne 16, 3) := by decide +kernel
theorem dX5_runs_85 : decode cX5_runs 85 = .ok (.aload_n 0, 1) := by decide +kernel
theorem dX5_runs_86 : decode cX5_runs 86 = .ok (.getfield 16, 3) := by decide +kernel
theorem dX5_runs_89 : decode cX5_runs 89 = .ok (.invokevirtual 161, 3) := by decide +kernel
theorem dX5_runs_92 : decode cX5_runs 92 = .ok (.ifCond .eq 6, 3) := by decide +kernel
theorem dX5_runs_95 : decode cX5_runs 95 = .ok (.iinc 4 1, 3) := by decide +kernel
theorem dX5_runs_98 : decode cX5_runs 98 = .ok (.iinc 5 1, 3) := by decide +kernel
theorem dX5_runs_101 : decode cX5_runs 101 = .ok (.goto (-54), 3) := by decide +kernel
theorem dX5_runs_104 : decode cX5_runs 104 = .ok (.iload_n 2, 1) := by decide +kernel
theorem dX5_runs_105 : decode cX5_runs 105 = .ok (.tableswitch 57 0 3 #[31, 39, 47, 49], 31) := by decide +kernel
theorem dX5_runs_136 : decode cX5_runs 136 = .ok (.aload_n 0, 1) := by decide +kernel
theorem dX5_runs_137 : decode cX5_runs 137 = .ok (.getfield 16, 3) := by decide +kernel
theorem dX5_runs_140 : decode cX5_runs 140 = .ok (.invokevirtual 109, 3) := by decide +kernel
theorem dX5_runs_143 : decode cX5_runs 143 = .ok (.ireturn, 1) := by decide +kernel
theorem dX5_runs_144 : decode cX5_runs 144 = .ok (.aload_n 0, 1) := by decide +kernel
theorem dX5_runs_145 : decode cX5_runs 145 = .ok (.getfield 16, 3) := by decide +kernel
theorem dX5_runs_148 : decode cX5_runs 148 = .ok (.getfield 165, 3) := by decide +kernel
theorem dX5_runs_151 : decode cX5_runs 151 = .ok (.ireturn, 1) := by decide +kernel
theorem dX5_runs_152 : decode cX5_runs 152 = .ok (.iload_n 3, 1) := by decide +kernel
theorem dX5_runs_153 : decode cX5_runs 153 = .ok (.ireturn, 1) := by decide +kernel
theorem dX5_runs_154 : decode cX5_runs 154 = .ok (.aload_n 0, 1) := by decide +kernel
theorem dX5_runs_155 : decode cX5_runs 155 = .ok (.getfield 16, 3) := by decide +kernel
theorem dX5_runs_158 : decode cX5_runs 158 = .ok (.invokevirtual 116, 3) := by decide +kernel
theorem dX5_runs_161 : decode cX5_runs 161 = .ok (.ireturn, 1) := by decide +kernel
theorem dX5_runs_162 : decode cX5_runs 162 = .ok (.iload 4, 2) := by decide +kernel
theorem dX5_runs_164 : decode cX5_runs 164 = .ok (.ireturn, 1) := by decide +kernel
theorem dX5_ahead_0 : decode cX5_ahead 0 = .ok (.aload_n 0, 1) := by decide +kernel
theorem dX5_ahead_1 : decode cX5_ahead 1 = .ok (.getfield 10, 3) := by decide +kernel
theorem dX5_ahead_4 : decode cX5_ahead 4 = .ok (.iload_n 1, 1) := by decide +kernel
theorem dX5_ahead_5 : decode cX5_ahead 5 = .ok (.invokevirtual 122, 3) := by decide +kernel
theorem dX5_ahead_8 : decode cX5_ahead 8 = .ok (.ifCond .eq 14, 3) := by decide +kernel
theorem dX5_ahead_11 : decode cX5_ahead 11 = .ok (.iload_n 2, 1) := by decide +kernel
theorem dX5_ahead_12 : decode cX5_ahead 12 = .ok (.iconst 0, 1) := by decide +kernel
theorem dX5_ahead_13 : decode cX5_ahead 13 = .ok (.sipush 1000, 3) := by decide +kernel
theorem dX5_ahead_16 : decode cX5_ahead 16 = .ok (.invokestatic 74, 3) := by decide +kernel
theorem dX5_ahead_19 : decode cX5_ahead 19 = .ok (.ifCond .ne 5, 3) := by decide +kernel
theorem dX5_ahead_22 : decode cX5_ahead 22 = .ok (.iconst (-1), 1) := by decide +kernel
theorem dX5_ahead_23 : decode cX5_ahead 23 = .ok (.ireturn, 1) := by decide +kernel
theorem dX5_ahead_24 : decode cX5_ahead 24 = .ok (.aload_n 0, 1) := by decide +kernel
theorem dX5_ahead_25 : decode cX5_ahead 25 = .ok (.getfield 16, 3) := by decide +kernel
theorem dX5_ahead_28 : decode cX5_ahead 28 = .ok (.aload_n 0, 1) := by decide +kernel
theorem dX5_ahead_29 : decode cX5_ahead 29 = .ok (.getfield 10, 3) := by decide +kernel
theorem dX5_ahead_32 : decode cX5_ahead 32 = .ok (.invokevirtual 92, 3) := by decide +kernel
theorem dX5_ahead_35 : decode cX5_ahead 35 = .ok (.aload_n 0, 1) := by decide +kernel
theorem dX5_ahead_36 : decode cX5_ahead 36 = .ok (.getfield 16, 3) := by decide +kernel
theorem dX5_ahead_39 : decode cX5_ahead 39 = .ok (.iload_n 2, 1) := by decide +kernel
theorem dX5_ahead_40 : decode cX5_ahead 40 = .ok (.invokevirtual 150, 3) := by decide +kernel
theorem dX5_ahead_43 : decode cX5_ahead 43 = .ok (.aload_n 0, 1) := by decide +kernel
theorem dX5_ahead_44 : decode cX5_ahead 44 = .ok (.getfield 16, 3) := by decide +kernel
theorem dX5_ahead_47 : decode cX5_ahead 47 = .ok (.getfield 146, 3) := by decide +kernel
theorem dX5_ahead_50 : decode cX5_ahead 50 = .ok (.iload_n 1, 1) := by decide +kernel
theorem dX5_ahead_51 : decode cX5_ahead 51 = .ok (.iaload, 1) := by decide +kernel
theorem dX5_ahead_52 : decode cX5_ahead 52 = .ok (.ireturn, 1) := by decide +kernel
theorem dX5_when_0 : decode cX5_when 0 = .ok (.iload_n 1, 1) := by decide +kernel
theorem dX5_when_1 : decode cX5_when 1 = .ok (.iconst 0, 1) := by decide +kernel
theorem dX5_when_2 : decode cX5_when 2 = .ok (.ldc 168, 2) := by decide +kernel
theorem dX5_when_4 : decode cX5_when 4 = .ok (.invokestatic 74, 3) := by decide +kernel
theorem dX5_when_7 : decode cX5_when 7 = .ok (.ifCond .ne 5, 3) := by decide +kernel
theorem dX5_when_10 : decode cX5_when 10 = .ok (.iconst (-1), 1) := by decide +kernel
theorem dX5_when_11 : decode cX5_when 11 = .ok (.ireturn, 1) := by decide +kernel
theorem dX5_when_12 : decode cX5_when 12 = .ok (.aload_n 0, 1) := by decide +kernel
theorem dX5_when_13 : decode cX5_when 13 = .ok (.getfield 16, 3) := by decide +kernel
theorem dX5_when_16 : decode cX5_when 16 = .ok (.aload_n 0, 1) := by decide +kernel
theorem dX5_when_17 : decode cX5_when 17 = .ok (.getfield 10, 3) := by decide +kernel
theorem dX5_when_20 : decode cX5_when 20 = .ok (.invokevirtual 92, 3) := by decide +kernel
theorem dX5_when_23 : decode cX5_when 23 = .ok (.iconst 0, 1) := by decide +kernel
theorem dX5_when_24 : decode cX5_when 24 = .ok (.istore_n 2, 1) := by decide +kernel
theorem dX5_when_25 : decode cX5_when 25 = .ok (.iload_n 2, 1) := by decide +kernel
theorem dX5_when_26 : decode cX5_when 26 = .ok (.sipush 1000, 3) := by decide +kernel
theorem dX5_when_29 : decode cX5_when 29 = .ok (.if_icmp .gt 29, 3) := by decide +kernel
theorem dX5_when_32 : decode cX5_when 32 = .ok (.aload_n 0, 1) := by decide +kernel
theorem dX5_when_33 : decode cX5_when 33 = .ok (.getfield 16, 3) := by decide +kernel
theorem dX5_when_36 : decode cX5_when 36 = .ok (.invokevirtual 109, 3) := by decide +kernel
theorem dX5_when_39 : decode cX5_when 39 = .ok (.iload_n 1, 1) := by decide +kernel
theorem dX5_when_40 : decode cX5_when 40 = .ok (.if_icmp .ne 5, 3) := by decide +kernel
theorem dX5_when_43 : decode cX5_when 43 = .ok (.iload_n 2, 1) := by decide +kernel
theorem dX5_when_44 : decode cX5_when 44 = .ok (.ireturn, 1) := by decide +kernel
theorem dX5_when_45 : decode cX5_when 45 = .ok (.aload_n 0, 1) := by decide +kernel
theorem dX5_when_46 : decode cX5_when 46 = .ok (.getfield 16, 3) := by decide +kernel
theorem dX5_when_49 : decode cX5_when 49 = .ok (.invokevirtual 153, 3) := by decide +kernel
theorem dX5_when_52 : decode cX5_when 52 = .ok (.iinc 2 1, 3) := by decide +kernel
theorem dX5_when_55 : decode cX5_when 55 = .ok (.goto (-30), 3) := by decide +kernel
theorem dX5_when_58 : decode cX5_when 58 = .ok (.bipush (-4), 2) := by decide +kernel
theorem dX5_when_60 : decode cX5_when 60 = .ok (.ireturn, 1) := by decide +kernel
theorem dX5_shows_0 : decode cX5_shows 0 = .ok (.aload_n 0, 1) := by decide +kernel
theorem dX5_shows_1 : decode cX5_shows 1 = .ok (.getfield 10, 3) := by decide +kernel
theorem dX5_shows_4 : decode cX5_shows 4 = .ok (.iload_n 1, 1) := by decide +kernel
theorem dX5_shows_5 : decode cX5_shows 5 = .ok (.invokevirtual 122, 3) := by decide +kernel
theorem dX5_shows_8 : decode cX5_shows 8 = .ok (.ifCond .eq 13, 3) := by decide +kernel
theorem dX5_shows_11 : decode cX5_shows 11 = .ok (.iload_n 2, 1) := by decide +kernel
theorem dX5_shows_12 : decode cX5_shows 12 = .ok (.iconst 0, 1) := by decide +kernel
theorem dX5_shows_13 : decode cX5_shows 13 = .ok (.bipush 11, 2) := by decide +kernel
theorem dX5_shows_15 : decode cX5_shows 15 = .ok (.invokestatic 74, 3) := by decide +kernel
theorem dX5_shows_18 : decode cX5_shows 18 = .ok (.ifCond .ne 5, 3) := by decide +kernel
theorem dX5_shows_21 : decode cX5_shows 21 = .ok (.iconst (-1), 1) := by decide +kernel
theorem dX5_shows_22 : decode cX5_shows 22 = .ok (.ireturn, 1) := by decide +kernel
theorem dX5_shows_23 : decode cX5_shows 23 = .ok (.aload_n 0, 1) := by decide +kernel
theorem dX5_shows_24 : decode cX5_shows 24 = .ok (.getfield 16, 3) := by decide +kernel
theorem dX5_shows_27 : decode cX5_shows 27 = .ok (.aload_n 0, 1) := by decide +kernel
theorem dX5_shows_28 : decode cX5_shows 28 = .ok (.getfield 10, 3) := by decide +kernel
theorem dX5_shows_31 : decode cX5_shows 31 = .ok (.invokevirtual 92, 3) := by decide +kernel
theorem dX5_shows_34 : decode cX5_shows 34 = .ok (.iconst 0, 1) := by decide +kernel
theorem dX5_shows_35 : decode cX5_shows 35 = .ok (.istore_n 3, 1) := by decide +kernel
theorem dX5_shows_36 : decode cX5_shows 36 = .ok (.iload_n 3, 1) := by decide +kernel
theorem dX5_shows_37 : decode cX5_shows 37 = .ok (.sipush 1000, 3) := by decide +kernel
theorem dX5_shows_40 : decode cX5_shows 40 = .ok (.if_icmp .gt 31, 3) := by decide +kernel
theorem dX5_shows_43 : decode cX5_shows 43 = .ok (.aload_n 0, 1) := by decide +kernel
theorem dX5_shows_44 : decode cX5_shows 44 = .ok (.getfield 16, 3) := by decide +kernel
theorem dX5_shows_47 : decode cX5_shows 47 = .ok (.getfield 146, 3) := by decide +kernel
theorem dX5_shows_50 : decode cX5_shows 50 = .ok (.iload_n 1, 1) := by decide +kernel
theorem dX5_shows_51 : decode cX5_shows 51 = .ok (.iaload, 1) := by decide +kernel
theorem dX5_shows_52 : decode cX5_shows 52 = .ok (.iload_n 2, 1) := by decide +kernel
theorem dX5_shows_53 : decode cX5_shows 53 = .ok (.if_icmp .ne 5, 3) := by decide +kernel
theorem dX5_shows_56 : decode cX5_shows 56 = .ok (.iload_n 3, 1) := by decide +kernel
theorem dX5_shows_57 : decode cX5_shows 57 = .ok (.ireturn, 1) := by decide +kernel
theorem dX5_shows_58 : decode cX5_shows 58 = .ok (.aload_n 0, 1) := by decide +kernel
theorem dX5_shows_59 : decode cX5_shows 59 = .ok (.getfield 16, 3) := by decide +kernel
theorem dX5_shows_62 : decode cX5_shows 62 = .ok (.invokevirtual 153, 3) := by decide +kernel
theorem dX5_shows_65 : decode cX5_shows 65 = .ok (.iinc 3 1, 3) := by decide +kernel
theorem dX5_shows_68 : decode cX5_shows 68 = .ok (.goto (-32), 3) := by decide +kernel
theorem dX5_shows_71 : decode cX5_shows 71 = .ok (.bipush (-4), 2) := by decide +kernel
theorem dX5_shows_73 : decode cX5_shows 73 = .ok (.ireturn, 1) := by decide +kernel
theorem dX5_again_0 : decode cX5_again 0 = .ok (.aload_n 0, 1) := by decide +kernel
theorem dX5_again_1 : decode cX5_again 1 = .ok (.getfield 16, 3) := by decide +kernel
theorem dX5_again_4 : decode cX5_again 4 = .ok (.aload_n 0, 1) := by decide +kernel
theorem dX5_again_5 : decode cX5_again 5 = .ok (.getfield 10, 3) := by decide +kernel
theorem dX5_again_8 : decode cX5_again 8 = .ok (.invokevirtual 92, 3) := by decide +kernel
theorem dX5_again_11 : decode cX5_again 11 = .ok (.iconst 1, 1) := by decide +kernel
theorem dX5_again_12 : decode cX5_again 12 = .ok (.istore_n 1, 1) := by decide +kernel
theorem dX5_again_13 : decode cX5_again 13 = .ok (.iload_n 1, 1) := by decide +kernel
theorem dX5_again_14 : decode cX5_again 14 = .ok (.sipush 1000, 3) := by decide +kernel
theorem dX5_again_17 : decode cX5_again 17 = .ok (.if_icmp .gt 32, 3) := by decide +kernel
theorem dX5_again_20 : decode cX5_again 20 = .ok (.aload_n 0, 1) := by decide +kernel
theorem dX5_again_21 : decode cX5_again 21 = .ok (.getfield 16, 3) := by decide +kernel
theorem dX5_again_24 : decode cX5_again 24 = .ok (.invokevirtual 153, 3) := by decide +kernel
theorem dX5_again_27 : decode cX5_again 27 = .ok (.aload_n 0, 1) := by decide +kernel
theorem dX5_again_28 : decode cX5_again 28 = .ok (.getfield 16, 3) := by decide +kernel
theorem dX5_again_31 : decode cX5_again 31 = .ok (.aload_n 0, 1) := by decide +kernel
theorem dX5_again_32 : decode cX5_again 32 = .ok (.getfield 10, 3) := by decide +kernel
theorem dX5_again_35 : decode cX5_again 35 = .ok (.invokevirtual 169, 3) := by decide +kernel
theorem dX5_again_38 : decode cX5_again 38 = .ok (.ifCond .eq 5, 3) := by decide +kernel
theorem dX5_again_41 : decode cX5_again 41 = .ok (.iload_n 1, 1) := by decide +kernel
theorem dX5_again_42 : decode cX5_again 42 = .ok (.ireturn, 1) := by decide +kernel
theorem dX5_again_43 : decode cX5_again 43 = .ok (.iinc 1 1, 3) := by decide +kernel
theorem dX5_again_46 : decode cX5_again 46 = .ok (.goto (-33), 3) := by decide +kernel
theorem dX5_again_49 : decode cX5_again 49 = .ok (.bipush (-4), 2) := by decide +kernel
theorem dX5_again_51 : decode cX5_again 51 = .ok (.ireturn, 1) := by decide +kernel
theorem dX5_mend_0 : decode cX5_mend 0 = .ok (.iload_n 1, 1) := by decide +kernel
theorem dX5_mend_1 : decode cX5_mend 1 = .ok (.iconst 0, 1) := by decide +kernel
theorem dX5_mend_2 : decode cX5_mend 2 = .ok (.sipush 200, 3) := by decide +kernel
theorem dX5_mend_5 : decode cX5_mend 5 = .ok (.invokestatic 74, 3) := by decide +kernel
theorem dX5_mend_8 : decode cX5_mend 8 = .ok (.ifCond .eq 12, 3) := by decide +kernel
theorem dX5_mend_11 : decode cX5_mend 11 = .ok (.iload_n 2, 1) := by decide +kernel
theorem dX5_mend_12 : decode cX5_mend 12 = .ok (.iconst 0, 1) := by decide +kernel
theorem dX5_mend_13 : decode cX5_mend 13 = .ok (.iconst 1, 1) := by decide +kernel
theorem dX5_mend_14 : decode cX5_mend 14 = .ok (.invokestatic 74, 3) := by decide +kernel
theorem dX5_mend_17 : decode cX5_mend 17 = .ok (.ifCond .ne 5, 3) := by decide +kernel
theorem dX5_mend_20 : decode cX5_mend 20 = .ok (.iconst (-1), 1) := by decide +kernel
theorem dX5_mend_21 : decode cX5_mend 21 = .ok (.ireturn, 1) := by decide +kernel
theorem dX5_mend_22 : decode cX5_mend 22 = .ok (.aload_n 0, 1) := by decide +kernel
theorem dX5_mend_23 : decode cX5_mend 23 = .ok (.getfield 16, 3) := by decide +kernel
theorem dX5_mend_26 : decode cX5_mend 26 = .ok (.aload_n 0, 1) := by decide +kernel
theorem dX5_mend_27 : decode cX5_mend 27 = .ok (.getfield 10, 3) := by decide +kernel
theorem dX5_mend_30 : decode cX5_mend 30 = .ok (.invokevirtual 92, 3) := by decide +kernel
theorem dX5_mend_33 : decode cX5_mend 33 = .ok (.aload_n 0, 1) := by decide +kernel
theorem dX5_mend_34 : decode cX5_mend 34 = .ok (.iload_n 1, 1) := by decide +kernel
theorem dX5_mend_35 : decode cX5_mend 35 = .ok (.invokevirtual 172, 3) := by decide +kernel
theorem dX5_mend_38 : decode cX5_mend 38 = .ok (.istore_n 3, 1) := by decide +kernel
theorem dX5_mend_39 : decode cX5_mend 39 = .ok (.bipush (-4), 2) := by decide +kernel
theorem dX5_mend_41 : decode cX5_mend 41 = .ok (.istore 4, 2) := by decide +kernel
theorem dX5_mend_43 : decode cX5_mend 43 = .ok (.iconst 0, 1) := by decide +kernel
theorem dX5_mend_44 : decode cX5_mend 44 = .ok (.istore 5, 2) := by decide +kernel
theorem dX5_mend_46 : decode cX5_mend 46 = .ok (.iload 5, 2) := by decide +kernel
theorem dX5_mend_48 : decode cX5_mend 48 = .ok (.aload_n 0, 1) := by decide +kernel
theorem dX5_mend_49 : decode cX5_mend 49 = .ok (.getfield 10, 3) := by decide +kernel
theorem dX5_mend_52 : decode cX5_mend 52 = .ok (.getfield 105, 3) := by decide +kernel
theorem dX5_mend_55 : decode cX5_mend 55 = .ok (.if_icmp .ge 38, 3) := by decide +kernel
theorem dX5_mend_58 : decode cX5_mend 58 = .ok (.aload_n 0, 1) := by decide +kernel
theorem dX5_mend_59 : decode cX5_mend 59 = .ok (.iload 5, 2) := by decide +kernel
theorem dX5_mend_61 : decode cX5_mend 61 = .ok (.iconst 3, 1) := by decide +kernel
theorem dX5_mend_62 : decode cX5_mend 62 = .ok (.bipush 12, 2) := by decide +kernel
theorem dX5_mend_64 : decode cX5_mend 64 = .ok (.invokevirtual 175, 3) := by decide +kernel
theorem dX5_mend_67 : decode cX5_mend 67 = .ok (.aload_n 0, 1) := by decide +kernel
theorem dX5_mend_68 : decode cX5_mend 68 = .ok (.iload_n 1, 1) := by decide +kernel
theorem dX5_mend_69 : decode cX5_mend 69 = .ok (.invokevirtual 172, 3) := by decide +kernel
theorem dX5_mend_72 : decode cX5_mend 72 = .ok (.istore 6, 2) := by decide +kernel
theorem dX5_mend_74 : decode cX5_mend 74 = .ok (.iload 6, 2) := by decide +kernel
theorem dX5_mend_76 : decode cX5_mend 76 = .ok (.iload_n 3, 1) := by decide +kernel
theorem dX5_mend_77 : decode cX5_mend 77 = .ok (.if_icmp .ge 10, 3) := by decide +kernel
theorem dX5_mend_80 : decode cX5_mend 80 = .ok (.iload 6, 2) := by decide +kernel
theorem dX5_mend_82 : decode cX5_mend 82 = .ok (.istore_n 3, 1) := by decide +kernel
theorem dX5_mend_83 : decode cX5_mend 83 = .ok (.iload 5, 2) := by decide +kernel
theorem dX5_mend_85 : decode cX5_mend 85 = .ok (.istore 4, 2) := by decide +kernel
theorem dX5_mend_87 : decode cX5_mend 87 = .ok (.iinc 5 1, 3) := by decide +kernel
theorem dX5_mend_90 : decode cX5_mend 90 = .ok (.goto (-44), 3) := by decide +kernel
theorem dX5_mend_93 : decode cX5_mend 93 = .ok (.iload 4, 2) := by decide +kernel
theorem dX5_mend_95 : decode cX5_mend 95 = .ok (.bipush (-4), 2) := by decide +kernel
theorem dX5_mend_97 : decode cX5_mend 97 = .ok (.if_icmp .eq 7, 3) := by decide +kernel
theorem dX5_mend_100 : decode cX5_mend 100 = .ok (.iload_n 2, 1) := by decide +kernel
theorem dX5_mend_101 : decode cX5_mend 101 = .ok (.ifCond .ne 8, 3) := by decide +kernel
theorem dX5_mend_104 : decode cX5_mend 104 = .ok (.iload 4, 2) := by decide +kernel
theorem dX5_mend_106 : decode cX5_mend 106 = .ok (.goto 4, 3) := by decide +kernel
theorem dX5_mend_109 : decode cX5_mend 109 = .ok (.iload_n 3, 1) := by decide +kernel
theorem dX5_mend_110 : decode cX5_mend 110 = .ok (.ireturn, 1) := by decide +kernel
theorem dX5_swap_0 : decode cX5_swap 0 = .ok (.iload_n 1, 1) := by decide +kernel
theorem dX5_swap_1 : decode cX5_swap 1 = .ok (.iconst 0, 1) := by decide +kernel
theorem dX5_swap_2 : decode cX5_swap 2 = .ok (.sipush 200, 3) := by decide +kernel
theorem dX5_swap_5 : decode cX5_swap 5 = .ok (.invokestatic 74, 3) := by decide +kernel
theorem dX5_swap_8 : decode cX5_swap 8 = .ok (.ifCond .eq 12, 3) := by decide +kernel
theorem dX5_swap_11 : decode cX5_swap 11 = .ok (.iload_n 2, 1) := by decide +kernel
theorem dX5_swap_12 : decode cX5_swap 12 = .ok (.iconst 0, 1) := by decide +kernel
theorem dX5_swap_13 : decode cX5_swap 13 = .ok (.iconst 1, 1) := by decide +kernel
theorem dX5_swap_14 : decode cX5_swap 14 = .ok (.invokestatic 74, 3) := by decide +kernel
theorem dX5_swap_17 : decode cX5_swap 17 = .ok (.ifCond .ne 5, 3) := by decide +kernel
theorem dX5_swap_20 : decode cX5_swap 20 = .ok (.iconst (-1), 1) := by decide +kernel
theorem dX5_swap_21 : decode cX5_swap 21 = .ok (.ireturn, 1) := by decide +kernel
theorem dX5_swap_22 : decode cX5_swap 22 = .ok (.aload_n 0, 1) := by decide +kernel
theorem dX5_swap_23 : decode cX5_swap 23 = .ok (.getfield 16, 3) := by decide +kernel
theorem dX5_swap_26 : decode cX5_swap 26 = .ok (.aload_n 0, 1) := by decide +kernel
theorem dX5_swap_27 : decode cX5_swap 27 = .ok (.getfield 10, 3) := by decide +kernel
theorem dX5_swap_30 : decode cX5_swap 30 = .ok (.invokevirtual 92, 3) := by decide +kernel
theorem dX5_swap_33 : decode cX5_swap 33 = .ok (.aload_n 0, 1) := by decide +kernel
theorem dX5_swap_34 : decode cX5_swap 34 = .ok (.iload_n 1, 1) := by decide +kernel
theorem dX5_swap_35 : decode cX5_swap 35 = .ok (.invokevirtual 172, 3) := by decide +kernel
theorem dX5_swap_38 : decode cX5_swap 38 = .ok (.istore_n 3, 1) := by decide +kernel
theorem dX5_swap_39 : decode cX5_swap 39 = .ok (.bipush (-4), 2) := by decide +kernel
theorem dX5_swap_41 : decode cX5_swap 41 = .ok (.istore 4, 2) := by decide +kernel
theorem dX5_swap_43 : decode cX5_swap 43 = .ok (.iconst 0, 1) := by decide +kernel
theorem dX5_swap_44 : decode cX5_swap 44 = .ok (.istore 5, 2) := by decide +kernel
theorem dX5_swap_46 : decode cX5_swap 46 = .ok (.iload 5, 2) := by decide +kernel
theorem dX5_swap_48 : decode cX5_swap 48 = .ok (.aload_n 0, 1) := by decide +kernel
theorem dX5_swap_49 : decode cX5_swap 49 = .ok (.getfield 10, 3) := by decide +kernel
theorem dX5_swap_52 : decode cX5_swap 52 = .ok (.getfield 105, 3) := by decide +kernel
theorem dX5_swap_55 : decode cX5_swap 55 = .ok (.if_icmp .ge 81, 3) := by decide +kernel
theorem dX5_swap_58 : decode cX5_swap 58 = .ok (.iload 5, 2) := by decide +kernel
theorem dX5_swap_60 : decode cX5_swap 60 = .ok (.iconst 1, 1) := by decide +kernel
theorem dX5_swap_61 : decode cX5_swap 61 = .ok (.iadd, 1) := by decide +kernel
theorem dX5_swap_62 : decode cX5_swap 62 = .ok (.istore 6, 2) := by decide +kernel
theorem dX5_swap_64 : decode cX5_swap 64 = .ok (.iload 6, 2) := by decide +kernel
theorem dX5_swap_66 : decode cX5_swap 66 = .ok (.aload_n 0, 1) := by decide +kernel
theorem dX5_swap_67 : decode cX5_swap 67 = .ok (.getfield 10, 3) := by decide +kernel
theorem dX5_swap_70 : decode cX5_swap 70 = .ok (.getfield 105, 3) := by decide +kernel
theorem dX5_swap_73 : decode cX5_swap 73 = .ok (.if_icmp .ge 57, 3) := by decide +kernel
theorem dX5_swap_76 : decode cX5_swap 76 = .ok (.aload_n 0, 1) := by decide +kernel
theorem dX5_swap_77 : decode cX5_swap 77 = .ok (.getfield 16, 3) := by decide +kernel
theorem dX5_swap_80 : decode cX5_swap 80 = .ok (.aload_n 0, 1) := by decide +kernel
theorem dX5_swap_81 : decode cX5_swap 81 = .ok (.getfield 10, 3) := by decide +kernel
theorem dX5_swap_84 : decode cX5_swap 84 = .ok (.invokevirtual 92, 3) := by decide +kernel
theorem dX5_swap_87 : decode cX5_swap 87 = .ok (.aload_n 0, 1) := by decide +kernel
theorem dX5_swap_88 : decode cX5_swap 88 = .ok (.getfield 16, 3) := by decide +kernel
theorem dX5_swap_91 : decode cX5_swap 91 = .ok (.iload 5, 2) := by decide +kernel
theorem dX5_swap_93 : decode cX5_swap 93 = .ok (.iload 6, 2) := by decide +kernel
theorem dX5_swap_95 : decode cX5_swap 95 = .ok (.invokevirtual 179, 3) := by decide +kernel
theorem dX5_swap_98 : decode cX5_swap 98 = .ok (.aload_n 0, 1) := by decide +kernel
theorem dX5_swap_99 : decode cX5_swap 99 = .ok (.iload_n 1, 1) := by decide +kernel
theorem dX5_swap_100 : decode cX5_swap 100 = .ok (.invokevirtual 172, 3) := by decide +kernel
theorem dX5_swap_103 : decode cX5_swap 103 = .ok (.istore 7, 2) := by decide +kernel
theorem dX5_swap_105 : decode cX5_swap 105 = .ok (.iload 7, 2) := by decide +kernel
theorem dX5_swap_107 : decode cX5_swap 107 = .ok (.iload_n 3, 1) := by decide +kernel
theorem dX5_swap_108 : decode cX5_swap 108 = .ok (.if_icmp .ge 16, 3) := by decide +kernel
theorem dX5_swap_111 : decode cX5_swap 111 = .ok (.iload 7, 2) := by decide +kernel
theorem dX5_swap_113 : decode cX5_swap 113 = .ok (.istore_n 3, 1) := by decide +kernel
theorem dX5_swap_114 : decode cX5_swap 114 = .ok (.bipush 10, 2) := by decide +kernel
theorem dX5_swap_116 : decode cX5_swap 116 = .ok (.iload 5, 2) := by decide +kernel
theorem dX5_swap_118 : decode cX5_swap 118 = .ok (.imul, 1) := by decide +kernel
theorem dX5_swap_119 : decode cX5_swap 119 = .ok (.iload 6, 2) := by decide +kernel
theorem dX5_swap_121 : decode cX5_swap 121 = .ok (.iadd, 1) := by decide +kernel
theorem dX5_swap_122 : decode cX5_swap 122 = .ok (.istore 4, 2) := by decide +kernel
theorem dX5_swap_124 : decode cX5_swap 124 = .ok (.iinc 6 1, 3) := by decide +kernel
theorem dX5_swap_127 : decode cX5_swap 127 = .ok (.goto (-63), 3) := by decide +kernel
theorem dX5_swap_130 : decode cX5_swap 130 = .ok (.iinc 5 1, 3) := by decide +kernel
theorem dX5_swap_133 : decode cX5_swap 133 = .ok (.goto (-87), 3) := by decide +kernel
theorem dX5_swap_136 : decode cX5_swap 136 = .ok (.iload 4, 2) := by decide +kernel
theorem dX5_swap_138 : decode cX5_swap 138 = .ok (.bipush (-4), 2) := by decide +kernel
theorem dX5_swap_140 : decode cX5_swap 140 = .ok (.if_icmp .eq 7, 3) := by decide +kernel
theorem dX5_swap_143 : decode cX5_swap 143 = .ok (.iload_n 2, 1) := by decide +kernel
theorem dX5_swap_144 : decode cX5_swap 144 = .ok (.ifCond .ne 8, 3) := by decide +kernel
theorem dX5_swap_147 : decode cX5_swap 147 = .ok (.iload 4, 2) := by decide +kernel
theorem dX5_swap_149 : decode cX5_swap 149 = .ok (.goto 4, 3) := by decide +kernel
theorem dX5_swap_152 : decode cX5_swap 152 = .ok (.iload_n 3, 1) := by decide +kernel
theorem dX5_swap_153 : decode cX5_swap 153 = .ok (.ireturn, 1) := by decide +kernel
theorem dX5_kind_0 : decode cX5_kind 0 = .ok (.aload_n 0, 1) := by decide +kernel
theorem dX5_kind_1 : decode cX5_kind 1 = .ok (.iload_n 1, 1) := by decide +kernel
theorem dX5_kind_2 : decode cX5_kind 2 = .ok (.iconst 0, 1) := by decide +kernel
theorem dX5_kind_3 : decode cX5_kind 3 = .ok (.iload_n 2, 1) := by decide +kernel
theorem dX5_kind_4 : decode cX5_kind 4 = .ok (.iload_n 3, 1) := by decide +kernel
theorem dX5_kind_5 : decode cX5_kind 5 = .ok (.invokevirtual 183, 3) := by decide +kernel
theorem dX5_kind_8 : decode cX5_kind 8 = .ok (.ireturn, 1) := by decide +kernel
theorem dX5_begin_0 : decode cX5_begin 0 = .ok (.aload_n 0, 1) := by decide +kernel
theorem dX5_begin_1 : decode cX5_begin 1 = .ok (.iload_n 1, 1) := by decide +kernel
theorem dX5_begin_2 : decode cX5_begin 2 = .ok (.iconst 2, 1) := by decide +kernel
theorem dX5_begin_3 : decode cX5_begin 3 = .ok (.iload_n 2, 1) := by decide +kernel
theorem dX5_begin_4 : decode cX5_begin 4 = .ok (.iload_n 3, 1) := by decide +kernel
theorem dX5_begin_5 : decode cX5_begin 5 = .ok (.invokevirtual 183, 3) := by decide +kernel
theorem dX5_begin_8 : decode cX5_begin 8 = .ok (.ireturn, 1) := by decide +kernel
theorem dX5_file_0 : decode cX5_file 0 = .ok (.aload_n 0, 1) := by decide +kernel
theorem dX5_file_1 : decode cX5_file 1 = .ok (.iload_n 1, 1) := by decide +kernel
theorem dX5_file_2 : decode cX5_file 2 = .ok (.iconst 3, 1) := by decide +kernel
theorem dX5_file_3 : decode cX5_file 3 = .ok (.iload_n 2, 1) := by decide +kernel
theorem dX5_file_4 : decode cX5_file 4 = .ok (.iload_n 3, 1) := by decide +kernel
theorem dX5_file_5 : decode cX5_file 5 = .ok (.invokevirtual 183, 3) := by decide +kernel
theorem dX5_file_8 : decode cX5_file 8 = .ok (.ireturn, 1) := by decide +kernel
theorem dX5_luck_0 : decode cX5_luck 0 = .ok (.iload_n 1, 1) := by decide +kernel
theorem dX5_luck_1 : decode cX5_luck 1 = .ok (.iconst 0, 1) := by decide +kernel
theorem dX5_luck_2 : decode cX5_luck 2 = .ok (.bipush 10, 2) := by decide +kernel
theorem dX5_luck_4 : decode cX5_luck 4 = .ok (.invokestatic 74, 3) := by decide +kernel
theorem dX5_luck_7 : decode cX5_luck 7 = .ok (.ifCond .eq 45, 3) := by decide +kernel
theorem dX5_luck_10 : decode cX5_luck 10 = .ok (.aload_n 0, 1) := by decide +kernel
theorem dX5_luck_11 : decode cX5_luck 11 = .ok (.getfield 10, 3) := by decide +kernel
theorem dX5_luck_14 : decode cX5_luck 14 = .ok (.iload_n 2, 1) := by decide +kernel
theorem dX5_luck_15 : decode cX5_luck 15 = .ok (.invokevirtual 122, 3) := by decide +kernel
theorem dX5_luck_18 : decode cX5_luck 18 = .ok (.ifCond .eq 34, 3) := by decide +kernel
theorem dX5_luck_21 : decode cX5_luck 21 = .ok (.iload_n 3, 1) := by decide +kernel
theorem dX5_luck_22 : decode cX5_luck 22 = .ok (.iconst 0, 1) := by decide +kernel
theorem dX5_luck_23 : decode cX5_luck 23 = .ok (.bipush 11, 2) := by decide +kernel
theorem dX5_luck_25 : decode cX5_luck 25 = .ok (.invokestatic 74, 3) := by decide +kernel
theorem dX5_luck_28 : decode cX5_luck 28 = .ok (.ifCond .eq 24, 3) := by decide +kernel
theorem dX5_luck_31 : decode cX5_luck 31 = .ok (.iload 4, 2) := by decide +kernel
theorem dX5_luck_33 : decode cX5_luck 33 = .ok (.iconst 0, 1) := by decide +kernel
theorem dX5_luck_34 : decode cX5_luck 34 = .ok (.bipush 8, 2) := by decide +kernel
theorem dX5_luck_36 : decode cX5_luck 36 = .ok (.invokestatic 74, 3) := by decide +kernel
theorem dX5_luck_39 : decode cX5_luck 39 = .ok (.ifCond .eq 13, 3) := by decide +kernel
theorem dX5_luck_42 : decode cX5_luck 42 = .ok (.iload 5, 2) := by decide +kernel
theorem dX5_luck_44 : decode cX5_luck 44 = .ok (.iconst 0, 1) := by decide +kernel
theorem dX5_luck_45 : decode cX5_luck 45 = .ok (.iconst 1, 1) := by decide +kernel
theorem dX5_luck_46 : decode cX5_luck 46 = .ok (.invokestatic 74, 3) := by decide +kernel
theorem dX5_luck_49 : decode cX5_luck 49 = .ok (.ifCond .ne 7, 3) := by decide +kernel
theorem dX5_luck_52 : decode cX5_luck 52 = .ok (.ldc2_w 187, 3) := by decide +kernel
theorem dX5_luck_55 : decode cX5_luck 55 = .ok (.lreturn, 1) := by decide +kernel
theorem dX5_luck_56 : decode cX5_luck 56 = .ok (.aload_n 0, 1) := by decide +kernel
theorem dX5_luck_57 : decode cX5_luck 57 = .ok (.iload_n 1, 1) := by decide +kernel
theorem dX5_luck_58 : decode cX5_luck 58 = .ok (.iload 4, 2) := by decide +kernel
theorem dX5_luck_60 : decode cX5_luck 60 = .ok (.invokevirtual 189, 3) := by decide +kernel
theorem dX5_luck_63 : decode cX5_luck 63 = .ok (.lstore 6, 2) := by decide +kernel
theorem dX5_luck_65 : decode cX5_luck 65 = .ok (.lconst 0, 1) := by decide +kernel
theorem dX5_luck_66 : decode cX5_luck 66 = .ok (.lstore 8, 2) := by decide +kernel
theorem dX5_luck_68 : decode cX5_luck 68 = .ok (.aload_n 0, 1) := by decide +kernel
theorem dX5_luck_69 : decode cX5_luck 69 = .ok (.getfield 16, 3) := by decide +kernel
theorem dX5_luck_72 : decode cX5_luck 72 = .ok (.aload_n 0, 1) := by decide +kernel
theorem dX5_luck_73 : decode cX5_luck 73 = .ok (.getfield 10, 3) := by decide +kernel
theorem dX5_luck_76 : decode cX5_luck 76 = .ok (.invokevirtual 92, 3) := by decide +kernel
theorem dX5_luck_79 : decode cX5_luck 79 = .ok (.iconst 0, 1) := by decide +kernel
theorem dX5_luck_80 : decode cX5_luck 80 = .ok (.istore 10, 2) := by decide +kernel
theorem dX5_luck_82 : decode cX5_luck 82 = .ok (.iload 10, 2) := by decide +kernel
theorem dX5_luck_84 : decode cX5_luck 84 = .ok (.iload 4, 2) := by decide +kernel
theorem dX5_luck_86 : decode cX5_luck 86 = .ok (.if_icmp .gt 41, 3) := by decide +kernel
theorem dX5_luck_89 : decode cX5_luck 89 = .ok (.aload_n 0, 1) := by decide +kernel
theorem dX5_luck_90 : decode cX5_luck 90 = .ok (.getfield 16, 3) := by decide +kernel
theorem dX5_luck_93 : decode cX5_luck 93 = .ok (.getfield 146, 3) := by decide +kernel
theorem dX5_luck_96 : decode cX5_luck 96 = .ok (.iload_n 2, 1) := by decide +kernel
theorem dX5_luck_97 : decode cX5_luck 97 = .ok (.iaload, 1) := by decide +kernel
theorem dX5_luck_98 : decode cX5_luck 98 = .ok (.iload_n 3, 1) := by decide +kernel
theorem dX5_luck_99 : decode cX5_luck 99 = .ok (.if_icmp .ne 15, 3) := by decide +kernel
theorem dX5_luck_102 : decode cX5_luck 102 = .ok (.lload 8, 2) := by decide +kernel
theorem dX5_luck_104 : decode cX5_luck 104 = .ok (.aload_n 0, 1) := by decide +kernel
theorem dX5_luck_105 : decode cX5_luck 105 = .ok (.getfield 61, 3) := by decide +kernel
theorem dX5_luck_108 : decode cX5_luck 108 = .ok (.iload 10, 2) := by decide +kernel
theorem dX5_luck_110 : decode cX5_luck 110 = .ok (.laload, 1) := by decide +kernel
theorem dX5_luck_111 : decode cX5_luck 111 = .ok (.ladd, 1) := by decide +kernel
theorem dX5_luck_112 : decode cX5_luck 112 = .ok (.lstore 8, 2) := by decide +kernel
theorem dX5_luck_114 : decode cX5_luck 114 = .ok (.aload_n 0, 1) := by decide +kernel
theorem dX5_luck_115 : decode cX5_luck 115 = .ok (.getfield 16, 3) := by decide +kernel
theorem dX5_luck_118 : decode cX5_luck 118 = .ok (.invokevirtual 153, 3) := by decide +kernel
theorem dX5_luck_121 : decode cX5_luck 121 = .ok (.iinc 10 1, 3) := by decide +kernel
theorem dX5_luck_124 : decode cX5_luck 124 = .ok (.goto (-42), 3) := by decide +kernel
theorem dX5_luck_127 : decode cX5_luck 127 = .ok (.lload 8, 2) := by decide +kernel
theorem dX5_luck_129 : decode cX5_luck 129 = .ok (.lload 6, 2) := by decide +kernel
theorem dX5_luck_131 : decode cX5_luck 131 = .ok (.iload 5, 2) := by decide +kernel
theorem dX5_luck_133 : decode cX5_luck 133 = .ok (.invokestatic 193, 3) := by decide +kernel
theorem dX5_luck_136 : decode cX5_luck 136 = .ok (.lreturn, 1) := by decide +kernel
theorem dX5_mean_0 : decode cX5_mean 0 = .ok (.iload_n 1, 1) := by decide +kernel
theorem dX5_mean_1 : decode cX5_mean 1 = .ok (.iconst 0, 1) := by decide +kernel
theorem dX5_mean_2 : decode cX5_mean 2 = .ok (.bipush 10, 2) := by decide +kernel
theorem dX5_mean_4 : decode cX5_mean 4 = .ok (.invokestatic 74, 3) := by decide +kernel
theorem dX5_mean_7 : decode cX5_mean 7 = .ok (.ifCond .eq 22, 3) := by decide +kernel
theorem dX5_mean_10 : decode cX5_mean 10 = .ok (.iload_n 2, 1) := by decide +kernel
theorem dX5_mean_11 : decode cX5_mean 11 = .ok (.iconst 0, 1) := by decide +kernel
theorem dX5_mean_12 : decode cX5_mean 12 = .ok (.bipush 8, 2) := by decide +kernel
theorem dX5_mean_14 : decode cX5_mean 14 = .ok (.invokestatic 74, 3) := by decide +kernel
theorem dX5_mean_17 : decode cX5_mean 17 = .ok (.ifCond .eq 12, 3) := by decide +kernel
theorem dX5_mean_20 : decode cX5_mean 20 = .ok (.iload_n 3, 1) := by decide +kernel
theorem dX5_mean_21 : decode cX5_mean 21 = .ok (.iconst 0, 1) := by decide +kernel
theorem dX5_mean_22 : decode cX5_mean 22 = .ok (.iconst 1, 1) := by decide +kernel
theorem dX5_mean_23 : decode cX5_mean 23 = .ok (.invokestatic 74, 3) := by decide +kernel
theorem dX5_mean_26 : decode cX5_mean 26 = .ok (.ifCond .ne 7, 3) := by decide +kernel
theorem dX5_mean_29 : decode cX5_mean 29 = .ok (.ldc2_w 187, 3) := by decide +kernel
theorem dX5_mean_32 : decode cX5_mean 32 = .ok (.lreturn, 1) := by decide +kernel
theorem dX5_mean_33 : decode cX5_mean 33 = .ok (.aload_n 0, 1) := by decide +kernel
theorem dX5_mean_34 : decode cX5_mean 34 = .ok (.iload_n 1, 1) := by decide +kernel
theorem dX5_mean_35 : decode cX5_mean 35 = .ok (.iload_n 2, 1) := by decide +kernel
theorem dX5_mean_36 : decode cX5_mean 36 = .ok (.invokevirtual 189, 3) := by decide +kernel
theorem dX5_mean_39 : decode cX5_mean 39 = .ok (.lstore 4, 2) := by decide +kernel
theorem dX5_mean_41 : decode cX5_mean 41 = .ok (.lconst 0, 1) := by decide +kernel
theorem dX5_mean_42 : decode cX5_mean 42 = .ok (.lstore 6, 2) := by decide +kernel
theorem dX5_mean_44 : decode cX5_mean 44 = .ok (.aload_n 0, 1) := by decide +kernel
theorem dX5_mean_45 : decode cX5_mean 45 = .ok (.getfield 16, 3) := by decide +kernel
theorem dX5_mean_48 : decode cX5_mean 48 = .ok (.aload_n 0, 1) := by decide +kernel
theorem dX5_mean_49 : decode cX5_mean 49 = .ok (.getfield 10, 3) := by decide +kernel
theorem dX5_mean_52 : decode cX5_mean 52 = .ok (.invokevirtual 92, 3) := by decide +kernel
theorem dX5_mean_55 : decode cX5_mean 55 = .ok (.iconst 0, 1) := by decide +kernel
theorem dX5_mean_56 : decode cX5_mean 56 = .ok (.istore 8, 2) := by decide +kernel
theorem dX5_mean_58 : decode cX5_mean 58 = .ok (.iload 8, 2) := by decide +kernel
theorem dX5_mean_60 : decode cX5_mean 60 = .ok (.iload_n 2, 1) := by decide +kernel
theorem dX5_mean_61 : decode cX5_mean 61 = .ok (.if_icmp .gt 37, 3) := by decide +kernel
theorem dX5_mean_64 : decode cX5_mean 64 = .ok (.lload 6, 2) := by decide +kernel
theorem dX5_mean_66 : decode cX5_mean 66 = .ok (.aload_n 0, 1) := by decide +kernel
theorem dX5_mean_67 : decode cX5_mean 67 = .ok (.getfield 61, 3) := by decide +kernel
theorem dX5_mean_70 : decode cX5_mean 70 = .ok (.iload 8, 2) := by decide +kernel
theorem dX5_mean_72 : decode cX5_mean 72 = .ok (.laload, 1) := by decide +kernel
theorem dX5_mean_73 : decode cX5_mean 73 = .ok (.aload_n 0, 1) := by decide +kernel
theorem dX5_mean_74 : decode cX5_mean 74 = .ok (.getfield 16, 3) := by decide +kernel
theorem dX5_mean_77 : decode cX5_mean 77 = .ok (.invokevirtual 109, 3) := by decide +kernel
theorem dX5_mean_80 : decode cX5_mean 80 = .ok (.i2l, 1) := by decide +kernel
theorem dX5_mean_81 : decode cX5_mean 81 = .ok (.lmul, 1) := by decide +kernel
theorem dX5_mean_82 : decode cX5_mean 82 = .ok (.ladd, 1) := by decide +kernel
theorem dX5_mean_83 : decode cX5_mean 83 = .ok (.lstore 6, 2) := by decide +kernel
theorem dX5_mean_85 : decode cX5_mean 85 = .ok (.aload_n 0, 1) := by decide +kernel
theorem dX5_mean_86 : decode cX5_mean 86 = .ok (.getfield 16, 3) := by decide +kernel
theorem dX5_mean_89 : decode cX5_mean 89 = .ok (.invokevirtual 153, 3) := by decide +kernel
theorem dX5_mean_92 : decode cX5_mean 92 = .ok (.iinc 8 1, 3) := by decide +kernel
theorem dX5_mean_95 : decode cX5_mean 95 = .ok (.goto (-37), 3) := by decide +kernel
theorem dX5_mean_98 : decode cX5_mean 98 = .ok (.lload 6, 2) := by decide +kernel
theorem dX5_mean_100 : decode cX5_mean 100 = .ok (.lload 4, 2) := by decide +kernel
theorem dX5_mean_102 : decode cX5_mean 102 = .ok (.iload_n 3, 1) := by decide +kernel
theorem dX5_mean_103 : decode cX5_mean 103 = .ok (.invokestatic 193, 3) := by decide +kernel
theorem dX5_mean_106 : decode cX5_mean 106 = .ok (.lreturn, 1) := by decide +kernel
theorem dX5_see_0 : decode cX5_see 0 = .ok (.iload_n 1, 1) := by decide +kernel
theorem dX5_see_1 : decode cX5_see 1 = .ok (.iconst 0, 1) := by decide +kernel
theorem dX5_see_2 : decode cX5_see 2 = .ok (.sipush 200, 3) := by decide +kernel
theorem dX5_see_5 : decode cX5_see 5 = .ok (.invokestatic 74, 3) := by decide +kernel
theorem dX5_see_8 : decode cX5_see 8 = .ok (.ifCond .eq 13, 3) := by decide +kernel
theorem dX5_see_11 : decode cX5_see 11 = .ok (.iload_n 2, 1) := by decide +kernel
theorem dX5_see_12 : decode cX5_see 12 = .ok (.iconst 0, 1) := by decide +kernel
theorem dX5_see_13 : decode cX5_see 13 = .ok (.ldc 168, 2) := by decide +kernel
theorem dX5_see_15 : decode cX5_see 15 = .ok (.invokestatic 74, 3) := by decide +kernel
theorem dX5_see_18 : decode cX5_see 18 = .ok (.ifCond .ne 5, 3) := by decide +kernel
theorem dX5_see_21 : decode cX5_see 21 = .ok (.iconst (-1), 1) := by decide +kernel
theorem dX5_see_22 : decode cX5_see 22 = .ok (.ireturn, 1) := by decide +kernel
theorem dX5_see_23 : decode cX5_see 23 = .ok (.aload_n 0, 1) := by decide +kernel
theorem dX5_see_24 : decode cX5_see 24 = .ok (.getfield 46, 3) := by decide +kernel
theorem dX5_see_27 : decode cX5_see 27 = .ok (.getfield 96, 3) := by decide +kernel
theorem dX5_see_30 : decode cX5_see 30 = .ok (.bipush 6, 2) := by decide +kernel
theorem dX5_see_32 : decode cX5_see 32 = .ok (.if_icmp .lt 6, 3) := by decide +kernel
theorem dX5_see_35 : decode cX5_see 35 = .ok (.bipush (-3), 2) := by decide +kernel
theorem dX5_see_37 : decode cX5_see 37 = .ok (.ireturn, 1) := by decide +kernel
theorem dX5_see_38 : decode cX5_see 38 = .ok (.aload_n 0, 1) := by decide +kernel
theorem dX5_see_39 : decode cX5_see 39 = .ok (.getfield 46, 3) := by decide +kernel
theorem dX5_see_42 : decode cX5_see 42 = .ok (.getfield 197, 3) := by decide +kernel
theorem dX5_see_45 : decode cX5_see 45 = .ok (.aload_n 0, 1) := by decide +kernel
theorem dX5_see_46 : decode cX5_see 46 = .ok (.getfield 46, 3) := by decide +kernel
theorem dX5_see_49 : decode cX5_see 49 = .ok (.getfield 96, 3) := by decide +kernel
theorem dX5_see_52 : decode cX5_see 52 = .ok (.iload_n 1, 1) := by decide +kernel
theorem dX5_see_53 : decode cX5_see 53 = .ok (.iastore, 1) := by decide +kernel
theorem dX5_see_54 : decode cX5_see 54 = .ok (.aload_n 0, 1) := by decide +kernel
theorem dX5_see_55 : decode cX5_see 55 = .ok (.getfield 46, 3) := by decide +kernel
theorem dX5_see_58 : decode cX5_see 58 = .ok (.getfield 200, 3) := by decide +kernel
theorem dX5_see_61 : decode cX5_see 61 = .ok (.aload_n 0, 1) := by decide +kernel
theorem dX5_see_62 : decode cX5_see 62 = .ok (.getfield 46, 3) := by decide +kernel
theorem dX5_see_65 : decode cX5_see 65 = .ok (.getfield 96, 3) := by decide +kernel
theorem dX5_see_68 : decode cX5_see 68 = .ok (.iload_n 2, 1) := by decide +kernel
theorem dX5_see_69 : decode cX5_see 69 = .ok (.iastore, 1) := by decide +kernel
theorem dX5_see_70 : decode cX5_see 70 = .ok (.aload_n 0, 1) := by decide +kernel
theorem dX5_see_71 : decode cX5_see 71 = .ok (.getfield 46, 3) := by decide +kernel
theorem dX5_see_74 : decode cX5_see 74 = .ok (.dup, 1) := by decide +kernel
theorem dX5_see_75 : decode cX5_see 75 = .ok (.getfield 96, 3) := by decide +kernel
theorem dX5_see_78 : decode cX5_see 78 = .ok (.iconst 1, 1) := by decide +kernel
theorem dX5_see_79 : decode cX5_see 79 = .ok (.iadd, 1) := by decide +kernel
theorem dX5_see_80 : decode cX5_see 80 = .ok (.putfield 96, 3) := by decide +kernel
theorem dX5_see_83 : decode cX5_see 83 = .ok (.aload_n 0, 1) := by decide +kernel
theorem dX5_see_84 : decode cX5_see 84 = .ok (.getfield 46, 3) := by decide +kernel
theorem dX5_see_87 : decode cX5_see 87 = .ok (.getfield 96, 3) := by decide +kernel
theorem dX5_see_90 : decode cX5_see 90 = .ok (.ireturn, 1) := by decide +kernel
theorem dX5_forget_0 : decode cX5_forget 0 = .ok (.iload_n 1, 1) := by decide +kernel
theorem dX5_forget_1 : decode cX5_forget 1 = .ok (.iconst 0, 1) := by decide +kernel
theorem dX5_forget_2 : decode cX5_forget 2 = .ok (.aload_n 0, 1) := by decide +kernel
theorem dX5_forget_3 : decode cX5_forget 3 = .ok (.getfield 46, 3) := by decide +kernel
theorem dX5_forget_6 : decode cX5_forget 6 = .ok (.getfield 96, 3) := by decide +kernel
theorem dX5_forget_9 : decode cX5_forget 9 = .ok (.invokestatic 74, 3) := by decide +kernel
theorem dX5_forget_12 : decode cX5_forget 12 = .ok (.ifCond .ne 5, 3) := by decide +kernel
theorem dX5_forget_15 : decode cX5_forget 15 = .ok (.iconst (-1), 1) := by decide +kernel
theorem dX5_forget_16 : decode cX5_forget 16 = .ok (.ireturn, 1) := by decide +kernel
theorem dX5_forget_17 : decode cX5_forget 17 = .ok (.aload_n 0, 1) := by decide +kernel
theorem dX5_forget_18 : decode cX5_forget 18 = .ok (.getfield 46, 3) := by decide +kernel
theorem dX5_forget_21 : decode cX5_forget 21 = .ok (.getfield 96, 3) := by decide +kernel
theorem dX5_forget_24 : decode cX5_forget 24 = .ok (.istore_n 2, 1) := by decide +kernel
theorem dX5_forget_25 : decode cX5_forget 25 = .ok (.aload_n 0, 1) := by decide +kernel
theorem dX5_forget_26 : decode cX5_forget 26 = .ok (.getfield 46, 3) := by decide +kernel
theorem dX5_forget_29 : decode cX5_forget 29 = .ok (.iload_n 1, 1) := by decide +kernel
theorem dX5_forget_30 : decode cX5_forget 30 = .ok (.putfield 96, 3) := by decide +kernel
theorem dX5_forget_33 : decode cX5_forget 33 = .ok (.iload_n 2, 1) := by decide +kernel
theorem dX5_forget_34 : decode cX5_forget 34 = .ok (.ireturn, 1) := by decide +kernel
theorem dX5_kinds_0 : decode cX5_kinds 0 = .ok (.aload_n 0, 1) := by decide +kernel
theorem dX5_kinds_1 : decode cX5_kinds 1 = .ok (.getfield 10, 3) := by decide +kernel
theorem dX5_kinds_4 : decode cX5_kinds 4 = .ok (.iload_n 1, 1) := by decide +kernel
theorem dX5_kinds_5 : decode cX5_kinds 5 = .ok (.invokevirtual 122, 3) := by decide +kernel
theorem dX5_kinds_8 : decode cX5_kinds 8 = .ok (.ifCond .ne 5, 3) := by decide +kernel
theorem dX5_kinds_11 : decode cX5_kinds 11 = .ok (.iconst (-1), 1) := by decide +kernel
theorem dX5_kinds_12 : decode cX5_kinds 12 = .ok (.ireturn, 1) := by decide +kernel
theorem dX5_kinds_13 : decode cX5_kinds 13 = .ok (.iconst 0, 1) := by decide +kernel
theorem dX5_kinds_14 : decode cX5_kinds 14 = .ok (.istore_n 2, 1) := by decide +kernel
theorem dX5_kinds_15 : decode cX5_kinds 15 = .ok (.iconst 0, 1) := by decide +kernel
theorem dX5_kinds_16 : decode cX5_kinds 16 = .ok (.istore_n 3, 1) := by decide +kernel
theorem dX5_kinds_17 : decode cX5_kinds 17 = .ok (.iload_n 3, 1) := by decide +kernel
theorem dX5_kinds_18 : decode cX5_kinds 18 = .ok (.iconst 4, 1) := by decide +kernel
theorem dX5_kinds_19 : decode cX5_kinds 19 = .ok (.if_icmp .ge 25, 3) := by decide +kernel
theorem dX5_kinds_22 : decode cX5_kinds 22 = .ok (.aload_n 0, 1) := by decide +kernel
theorem dX5_kinds_23 : decode cX5_kinds 23 = .ok (.iload_n 1, 1) := by decide +kernel
theorem dX5_kinds_24 : decode cX5_kinds 24 = .ok (.iconst 0, 1) := by decide +kernel
theorem dX5_kinds_25 : decode cX5_kinds 25 = .ok (.iload_n 3, 1) := by decide +kernel
theorem dX5_kinds_26 : decode cX5_kinds 26 = .ok (.invokevirtual 203, 3) := by decide +kernel
theorem dX5_kinds_29 : decode cX5_kinds 29 = .ok (.ifCond .eq 9, 3) := by decide +kernel
theorem dX5_kinds_32 : decode cX5_kinds 32 = .ok (.iload_n 2, 1) := by decide +kernel
theorem dX5_kinds_33 : decode cX5_kinds 33 = .ok (.iconst 1, 1) := by decide +kernel
theorem dX5_kinds_34 : decode cX5_kinds 34 = .ok (.iload_n 3, 1) := by decide +kernel
theorem dX5_kinds_35 : decode cX5_kinds 35 = .ok (.ishl, 1) := by decide +kernel
theorem dX5_kinds_36 : decode cX5_kinds 36 = .ok (.ior, 1) := by decide +kernel
theorem dX5_kinds_37 : decode cX5_kinds 37 = .ok (.istore_n 2, 1) := by decide +kernel
theorem dX5_kinds_38 : decode cX5_kinds 38 = .ok (.iinc 3 1, 3) := by decide +kernel
theorem dX5_kinds_41 : decode cX5_kinds 41 = .ok (.goto (-24), 3) := by decide +kernel
theorem dX5_kinds_44 : decode cX5_kinds 44 = .ok (.iload_n 2, 1) := by decide +kernel
theorem dX5_kinds_45 : decode cX5_kinds 45 = .ok (.ireturn, 1) := by decide +kernel
theorem dX5_broken_0 : decode cX5_broken 0 = .ok (.aload_n 0, 1) := by decide +kernel
theorem dX5_broken_1 : decode cX5_broken 1 = .ok (.getfield 10, 3) := by decide +kernel
theorem dX5_broken_4 : decode cX5_broken 4 = .ok (.iload_n 1, 1) := by decide +kernel
theorem dX5_broken_5 : decode cX5_broken 5 = .ok (.invokevirtual 122, 3) := by decide +kernel
theorem dX5_broken_8 : decode cX5_broken 8 = .ok (.ifCond .ne 5, 3) := by decide +kernel
theorem dX5_broken_11 : decode cX5_broken 11 = .ok (.iconst (-1), 1) := by decide +kernel
theorem dX5_broken_12 : decode cX5_broken 12 = .ok (.ireturn, 1) := by decide +kernel
theorem dX5_broken_13 : decode cX5_broken 13 = .ok (.aload_n 0, 1) := by decide +kernel
theorem dX5_broken_14 : decode cX5_broken 14 = .ok (.iload_n 1, 1) := by decide +kernel
theorem dX5_broken_15 : decode cX5_broken 15 = .ok (.iconst 3, 1) := by decide +kernel
theorem dX5_broken_16 : decode cX5_broken 16 = .ok (.bipush 12, 2) := by decide +kernel
theorem dX5_broken_18 : decode cX5_broken 18 = .ok (.invokevirtual 203, 3) := by decide +kernel
theorem dX5_broken_21 : decode cX5_broken 21 = .ok (.ifCond .eq 9, 3) := by decide +kernel
theorem dX5_broken_24 : decode cX5_broken 24 = .ok (.sipush 4096, 3) := by decide +kernel
theorem dX5_broken_27 : decode cX5_broken 27 = .ok (.goto 4, 3) := by decide +kernel
theorem dX5_broken_30 : decode cX5_broken 30 = .ok (.iconst 0, 1) := by decide +kernel
theorem dX5_broken_31 : decode cX5_broken 31 = .ok (.istore_n 2, 1) := by decide +kernel
theorem dX5_broken_32 : decode cX5_broken 32 = .ok (.iconst 0, 1) := by decide +kernel
theorem dX5_broken_33 : decode cX5_broken 33 = .ok (.istore_n 3, 1) := by decide +kernel
theorem dX5_broken_34 : decode cX5_broken 34 = .ok (.iload_n 3, 1) := by decide +kernel
theorem dX5_broken_35 : decode cX5_broken 35 = .ok (.aload_n 0, 1) := by decide +kernel
theorem dX5_broken_36 : decode cX5_broken 36 = .ok (.getfield 10, 3) := by decide +kernel
theorem dX5_broken_39 : decode cX5_broken 39 = .ok (.getfield 206, 3) := by decide +kernel
theorem dX5_broken_42 : decode cX5_broken 42 = .ok (.iload_n 1, 1) := by decide +kernel
theorem dX5_broken_43 : decode cX5_broken 43 = .ok (.iaload, 1) := by decide +kernel
theorem dX5_broken_44 : decode cX5_broken 44 = .ok (.if_icmp .ge 25, 3) := by decide +kernel
theorem dX5_broken_47 : decode cX5_broken 47 = .ok (.aload_n 0, 1) := by decide +kernel
theorem dX5_broken_48 : decode cX5_broken 48 = .ok (.iload_n 1, 1) := by decide +kernel
theorem dX5_broken_49 : decode cX5_broken 49 = .ok (.iconst 3, 1) := by decide +kernel
theorem dX5_broken_50 : decode cX5_broken 50 = .ok (.iload_n 3, 1) := by decide +kernel
theorem dX5_broken_51 : decode cX5_broken 51 = .ok (.invokevirtual 203, 3) := by decide +kernel
theorem dX5_broken_54 : decode cX5_broken 54 = .ok (.ifCond .eq 9, 3) := by decide +kernel
theorem dX5_broken_57 : decode cX5_broken 57 = .ok (.iload_n 2, 1) := by decide +kernel
theorem dX5_broken_58 : decode cX5_broken 58 = .ok (.iconst 1, 1) := by decide +kernel
theorem dX5_broken_59 : decode cX5_broken 59 = .ok (.iload_n 3, 1) := by decide +kernel
theorem dX5_broken_60 : decode cX5_broken 60 = .ok (.ishl, 1) := by decide +kernel
theorem dX5_broken_61 : decode cX5_broken 61 = .ok (.ior, 1) := by decide +kernel
theorem dX5_broken_62 : decode cX5_broken 62 = .ok (.istore_n 2, 1) := by decide +kernel
theorem dX5_broken_63 : decode cX5_broken 63 = .ok (.iinc 3 1, 3) := by decide +kernel
theorem dX5_broken_66 : decode cX5_broken 66 = .ok (.goto (-32), 3) := by decide +kernel
theorem dX5_broken_69 : decode cX5_broken 69 = .ok (.iload_n 2, 1) := by decide +kernel
theorem dX5_broken_70 : decode cX5_broken 70 = .ok (.ireturn, 1) := by decide +kernel
theorem dX5_ask_0 : decode cX5_ask 0 = .ok (.aload_n 0, 1) := by decide +kernel
theorem dX5_ask_1 : decode cX5_ask 1 = .ok (.getfield 10, 3) := by decide +kernel
theorem dX5_ask_4 : decode cX5_ask 4 = .ok (.iload_n 1, 1) := by decide +kernel
theorem dX5_ask_5 : decode cX5_ask 5 = .ok (.invokevirtual 122, 3) := by decide +kernel
theorem dX5_ask_8 : decode cX5_ask 8 = .ok (.ifCond .eq 12, 3) := by decide +kernel
theorem dX5_ask_11 : decode cX5_ask 11 = .ok (.iload_n 2, 1) := by decide +kernel
theorem dX5_ask_12 : decode cX5_ask 12 = .ok (.iconst 0, 1) := by decide +kernel
theorem dX5_ask_13 : decode cX5_ask 13 = .ok (.iconst 1, 1) := by decide +kernel
theorem dX5_ask_14 : decode cX5_ask 14 = .ok (.invokestatic 74, 3) := by decide +kernel
theorem dX5_ask_17 : decode cX5_ask 17 = .ok (.ifCond .ne 5, 3) := by decide +kernel
theorem dX5_ask_20 : decode cX5_ask 20 = .ok (.iconst (-1), 1) := by decide +kernel
theorem dX5_ask_21 : decode cX5_ask 21 = .ok (.ireturn, 1) := by decide +kernel
theorem dX5_ask_22 : decode cX5_ask 22 = .ok (.aload_n 0, 1) := by decide +kernel
theorem dX5_ask_23 : decode cX5_ask 23 = .ok (.aload_n 0, 1) := by decide +kernel
theorem dX5_ask_24 : decode cX5_ask 24 = .ok (.iload_n 1, 1) := by decide +kernel
theorem dX5_ask_25 : decode cX5_ask 25 = .ok (.invokevirtual 209, 3) := by decide +kernel
theorem dX5_ask_28 : decode cX5_ask 28 = .ok (.invokevirtual 212, 3) := by decide +kernel
theorem dX5_ask_31 : decode cX5_ask 31 = .ok (.istore_n 3, 1) := by decide +kernel
theorem dX5_ask_32 : decode cX5_ask 32 = .ok (.iconst 0, 1) := by decide +kernel
theorem dX5_ask_33 : decode cX5_ask 33 = .ok (.istore 4, 2) := by decide +kernel
theorem dX5_ask_35 : decode cX5_ask 35 = .ok (.iload 4, 2) := by decide +kernel
theorem dX5_ask_37 : decode cX5_ask 37 = .ok (.iload_n 3, 1) := by decide +kernel
theorem dX5_ask_38 : decode cX5_ask 38 = .ok (.if_icmp .ge 28, 3) := by decide +kernel
theorem dX5_ask_41 : decode cX5_ask 41 = .ok (.aload_n 0, 1) := by decide +kernel
theorem dX5_ask_42 : decode cX5_ask 42 = .ok (.iload_n 1, 1) := by decide +kernel
theorem dX5_ask_43 : decode cX5_ask 43 = .ok (.aload_n 0, 1) := by decide +kernel
theorem dX5_ask_44 : decode cX5_ask 44 = .ok (.getfield 65, 3) := by decide +kernel
theorem dX5_ask_47 : decode cX5_ask 47 = .ok (.iload 4, 2) := by decide +kernel
theorem dX5_ask_49 : decode cX5_ask 49 = .ok (.iaload, 1) := by decide +kernel
theorem dX5_ask_50 : decode cX5_ask 50 = .ok (.aload_n 0, 1) := by decide +kernel
theorem dX5_ask_51 : decode cX5_ask 51 = .ok (.getfield 71, 3) := by decide +kernel
theorem dX5_ask_54 : decode cX5_ask 54 = .ok (.iload 4, 2) := by decide +kernel
theorem dX5_ask_56 : decode cX5_ask 56 = .ok (.aaload, 1) := by decide +kernel
theorem dX5_ask_57 : decode cX5_ask 57 = .ok (.invokevirtual 215, 3) := by decide +kernel
theorem dX5_ask_60 : decode cX5_ask 60 = .ok (.iinc 4 1, 3) := by decide +kernel
theorem dX5_ask_63 : decode cX5_ask 63 = .ok (.goto (-28), 3) := by decide +kernel
theorem dX5_ask_66 : decode cX5_ask 66 = .ok (.iload_n 3, 1) := by decide +kernel
theorem dX5_ask_67 : decode cX5_ask 67 = .ok (.istore 4, 2) := by decide +kernel
theorem dX5_ask_69 : decode cX5_ask 69 = .ok (.bipush (-4), 2) := by decide +kernel
theorem dX5_ask_71 : decode cX5_ask 71 = .ok (.istore 5, 2) := by decide +kernel
theorem dX5_ask_73 : decode cX5_ask 73 = .ok (.iconst 0, 1) := by decide +kernel
theorem dX5_ask_74 : decode cX5_ask 74 = .ok (.istore 6, 2) := by decide +kernel
theorem dX5_ask_76 : decode cX5_ask 76 = .ok (.iload 6, 2) := by decide +kernel
theorem dX5_ask_78 : decode cX5_ask 78 = .ok (.sipush 200, 3) := by decide +kernel
theorem dX5_ask_81 : decode cX5_ask 81 = .ok (.if_icmp .gt 33, 3) := by decide +kernel
theorem dX5_ask_84 : decode cX5_ask 84 = .ok (.aload_n 0, 1) := by decide +kernel
theorem dX5_ask_85 : decode cX5_ask 85 = .ok (.iload 6, 2) := by decide +kernel
theorem dX5_ask_87 : decode cX5_ask 87 = .ok (.iload_n 3, 1) := by decide +kernel
theorem dX5_ask_88 : decode cX5_ask 88 = .ok (.invokevirtual 219, 3) := by decide +kernel
theorem dX5_ask_91 : decode cX5_ask 91 = .ok (.istore 7, 2) := by decide +kernel
theorem dX5_ask_93 : decode cX5_ask 93 = .ok (.iload 7, 2) := by decide +kernel
theorem dX5_ask_95 : decode cX5_ask 95 = .ok (.iload 4, 2) := by decide +kernel
theorem dX5_ask_97 : decode cX5_ask 97 = .ok (.if_icmp .ge 11, 3) := by decide +kernel
theorem dX5_ask_100 : decode cX5_ask 100 = .ok (.iload 7, 2) := by decide +kernel
theorem dX5_ask_102 : decode cX5_ask 102 = .ok (.istore 4, 2) := by decide +kernel
theorem dX5_ask_104 : decode cX5_ask 104 = .ok (.iload 6, 2) := by decide +kernel
theorem dX5_ask_106 : decode cX5_ask 106 = .ok (.istore 5, 2) := by decide +kernel
theorem dX5_ask_108 : decode cX5_ask 108 = .ok (.iinc 6 1, 3) := by decide +kernel
theorem dX5_ask_111 : decode cX5_ask 111 = .ok (.goto (-35), 3) := by decide +kernel
theorem dX5_ask_114 : decode cX5_ask 114 = .ok (.iload 5, 2) := by decide +kernel
theorem dX5_ask_116 : decode cX5_ask 116 = .ok (.bipush (-4), 2) := by decide +kernel
theorem dX5_ask_118 : decode cX5_ask 118 = .ok (.if_icmp .eq 7, 3) := by decide +kernel
theorem dX5_ask_121 : decode cX5_ask 121 = .ok (.iload_n 2, 1) := by decide +kernel
theorem dX5_ask_122 : decode cX5_ask 122 = .ok (.ifCond .ne 8, 3) := by decide +kernel
theorem dX5_ask_125 : decode cX5_ask 125 = .ok (.iload 5, 2) := by decide +kernel
theorem dX5_ask_127 : decode cX5_ask 127 = .ok (.goto 5, 3) := by decide +kernel
theorem dX5_ask_130 : decode cX5_ask 130 = .ok (.iload 4, 2) := by decide +kernel
theorem dX5_ask_132 : decode cX5_ask 132 = .ok (.ireturn, 1) := by decide +kernel
theorem dX5_drift_0 : decode cX5_drift 0 = .ok (.iload_n 2, 1) := by decide +kernel
theorem dX5_drift_1 : decode cX5_drift 1 = .ok (.iconst 1, 1) := by decide +kernel
theorem dX5_drift_2 : decode cX5_drift 2 = .ok (.sipush 200, 3) := by decide +kernel
theorem dX5_drift_5 : decode cX5_drift 5 = .ok (.invokestatic 74, 3) := by decide +kernel
theorem dX5_drift_8 : decode cX5_drift 8 = .ok (.ifCond .eq 12, 3) := by decide +kernel
theorem dX5_drift_11 : decode cX5_drift 11 = .ok (.iload_n 3, 1) := by decide +kernel
theorem dX5_drift_12 : decode cX5_drift 12 = .ok (.iconst 0, 1) := by decide +kernel
theorem dX5_drift_13 : decode cX5_drift 13 = .ok (.iconst 1, 1) := by decide +kernel
theorem dX5_drift_14 : decode cX5_drift 14 = .ok (.invokestatic 74, 3) := by decide +kernel
theorem dX5_drift_17 : decode cX5_drift 17 = .ok (.ifCond .ne 5, 3) := by decide +kernel
theorem dX5_drift_20 : decode cX5_drift 20 = .ok (.iconst (-1), 1) := by decide +kernel
theorem dX5_drift_21 : decode cX5_drift 21 = .ok (.ireturn, 1) := by decide +kernel
theorem dX5_drift_22 : decode cX5_drift 22 = .ok (.aload_n 0, 1) := by decide +kernel
theorem dX5_drift_23 : decode cX5_drift 23 = .ok (.getfield 10, 3) := by decide +kernel
theorem dX5_drift_26 : decode cX5_drift 26 = .ok (.getfield 105, 3) := by decide +kernel
theorem dX5_drift_29 : decode cX5_drift 29 = .ok (.ifCond .ne 6, 3) := by decide +kernel
theorem dX5_drift_32 : decode cX5_drift 32 = .ok (.bipush (-2), 2) := by decide +kernel
theorem dX5_drift_34 : decode cX5_drift 34 = .ok (.ireturn, 1) := by decide +kernel
theorem dX5_drift_35 : decode cX5_drift 35 = .ok (.aload_n 0, 1) := by decide +kernel
theorem dX5_drift_36 : decode cX5_drift 36 = .ok (.getfield 16, 3) := by decide +kernel
theorem dX5_drift_39 : decode cX5_drift 39 = .ok (.aload_n 0, 1) := by decide +kernel
theorem dX5_drift_40 : decode cX5_drift 40 = .ok (.getfield 10, 3) := by decide +kernel
theorem dX5_drift_43 : decode cX5_drift 43 = .ok (.invokevirtual 92, 3) := by decide +kernel
theorem dX5_drift_46 : decode cX5_drift 46 = .ok (.iload_n 1, 1) := by decide +kernel
theorem dX5_drift_47 : decode cX5_drift 47 = .ok (.istore 4, 2) := by decide +kernel
theorem dX5_drift_49 : decode cX5_drift 49 = .ok (.iconst 0, 1) := by decide +kernel
theorem dX5_drift_50 : decode cX5_drift 50 = .ok (.istore 5, 2) := by decide +kernel
theorem dX5_drift_52 : decode cX5_drift 52 = .ok (.iload 5, 2) := by decide +kernel
theorem dX5_drift_54 : decode cX5_drift 54 = .ok (.iload_n 2, 1) := by decide +kernel
theorem dX5_drift_55 : decode cX5_drift 55 = .ok (.if_icmp .ge 48, 3) := by decide +kernel
theorem dX5_drift_58 : decode cX5_drift 58 = .ok (.iload 4, 2) := by decide +kernel
theorem dX5_drift_60 : decode cX5_drift 60 = .ok (.ldc 222, 2) := by decide +kernel
theorem dX5_drift_62 : decode cX5_drift 62 = .ok (.imul, 1) := by decide +kernel
theorem dX5_drift_63 : decode cX5_drift 63 = .ok (.sipush 12345, 3) := by decide +kernel
theorem dX5_drift_66 : decode cX5_drift 66 = .ok (.iadd, 1) := by decide +kernel
theorem dX5_drift_67 : decode cX5_drift 67 = .ok (.istore 4, 2) := by decide +kernel
theorem dX5_drift_69 : decode cX5_drift 69 = .ok (.iload 4, 2) := by decide +kernel
theorem dX5_drift_71 : decode cX5_drift 71 = .ok (.bipush 16, 2) := by decide +kernel
theorem dX5_drift_73 : decode cX5_drift 73 = .ok (.iushr, 1) := by decide +kernel
theorem dX5_drift_74 : decode cX5_drift 74 = .ok (.sipush 32767, 3) := by decide +kernel
theorem dX5_drift_77 : decode cX5_drift 77 = .ok (.iand, 1) := by decide +kernel
theorem dX5_drift_78 : decode cX5_drift 78 = .ok (.istore 6, 2) := by decide +kernel
theorem dX5_drift_80 : decode cX5_drift 80 = .ok (.aload_n 0, 1) := by decide +kernel
theorem dX5_drift_81 : decode cX5_drift 81 = .ok (.getfield 16, 3) := by decide +kernel
theorem dX5_drift_84 : decode cX5_drift 84 = .ok (.iload 6, 2) := by decide +kernel
theorem dX5_drift_86 : decode cX5_drift 86 = .ok (.aload_n 0, 1) := by decide +kernel
theorem dX5_drift_87 : decode cX5_drift 87 = .ok (.getfield 10, 3) := by decide +kernel
theorem dX5_drift_90 : decode cX5_drift 90 = .ok (.getfield 105, 3) := by decide +kernel
theorem dX5_drift_93 : decode cX5_drift 93 = .ok (.irem, 1) := by decide +kernel
theorem dX5_drift_94 : decode cX5_drift 94 = .ok (.invokevirtual 142, 3) := by decide +kernel
theorem dX5_drift_97 : decode cX5_drift 97 = .ok (.iinc 5 1, 3) := by decide +kernel
theorem dX5_drift_100 : decode cX5_drift 100 = .ok (.goto (-48), 3) := by decide +kernel
theorem dX5_drift_103 : decode cX5_drift 103 = .ok (.iload_n 3, 1) := by decide +kernel
theorem dX5_drift_104 : decode cX5_drift 104 = .ok (.ifCond .ne 13, 3) := by decide +kernel
theorem dX5_drift_107 : decode cX5_drift 107 = .ok (.aload_n 0, 1) := by decide +kernel
theorem dX5_drift_108 : decode cX5_drift 108 = .ok (.getfield 16, 3) := by decide +kernel
theorem dX5_drift_111 : decode cX5_drift 111 = .ok (.invokevirtual 109, 3) := by decide +kernel
theorem dX5_drift_114 : decode cX5_drift 114 = .ok (.goto 10, 3) := by decide +kernel
theorem dX5_drift_117 : decode cX5_drift 117 = .ok (.aload_n 0, 1) := by decide +kernel
theorem dX5_drift_118 : decode cX5_drift 118 = .ok (.getfield 16, 3) := by decide +kernel
theorem dX5_drift_121 : decode cX5_drift 121 = .ok (.getfield 165, 3) := by decide +kernel
theorem dX5_drift_124 : decode cX5_drift 124 = .ok (.ireturn, 1) := by decide +kernel
theorem dX5_keep_0 : decode cX5_keep 0 = .ok (.iload_n 1, 1) := by decide +kernel
theorem dX5_keep_1 : decode cX5_keep 1 = .ok (.iconst 0, 1) := by decide +kernel
theorem dX5_keep_2 : decode cX5_keep 2 = .ok (.iconst 1, 1) := by decide +kernel
theorem dX5_keep_3 : decode cX5_keep 3 = .ok (.invokestatic 74, 3) := by decide +kernel
theorem dX5_keep_6 : decode cX5_keep 6 = .ok (.ifCond .ne 5, 3) := by decide +kernel
theorem dX5_keep_9 : decode cX5_keep 9 = .ok (.iconst (-1), 1) := by decide +kernel
theorem dX5_keep_10 : decode cX5_keep 10 = .ok (.ireturn, 1) := by decide +kernel
theorem dX5_keep_11 : decode cX5_keep 11 = .ok (.aload_n 0, 1) := by decide +kernel
theorem dX5_keep_12 : decode cX5_keep 12 = .ok (.getfield 23, 3) := by decide +kernel
theorem dX5_keep_15 : decode cX5_keep 15 = .ok (.iload_n 1, 1) := by decide +kernel
theorem dX5_keep_16 : decode cX5_keep 16 = .ok (.baload, 1) := by decide +kernel
theorem dX5_keep_17 : decode cX5_keep 17 = .ok (.ifCond .eq 7, 3) := by decide +kernel
theorem dX5_keep_20 : decode cX5_keep 20 = .ok (.iconst 1, 1) := by decide +kernel
theorem dX5_keep_21 : decode cX5_keep 21 = .ok (.goto 4, 3) := by decide +kernel
theorem dX5_keep_24 : decode cX5_keep 24 = .ok (.iconst 0, 1) := by decide +kernel
theorem dX5_keep_25 : decode cX5_keep 25 = .ok (.istore_n 2, 1) := by decide +kernel
theorem dX5_keep_26 : decode cX5_keep 26 = .ok (.aload_n 0, 1) := by decide +kernel
theorem dX5_keep_27 : decode cX5_keep 27 = .ok (.getfield 19, 3) := by decide +kernel
theorem dX5_keep_30 : decode cX5_keep 30 = .ok (.iload_n 1, 1) := by decide +kernel
theorem dX5_keep_31 : decode cX5_keep 31 = .ok (.aaload, 1) := by decide +kernel
theorem dX5_keep_32 : decode cX5_keep 32 = .ok (.aload_n 0, 1) := by decide +kernel
theorem dX5_keep_33 : decode cX5_keep 33 = .ok (.getfield 10, 3) := by decide +kernel
theorem dX5_keep_36 : decode cX5_keep 36 = .ok (.invokevirtual 92, 3) := by decide +kernel
theorem dX5_keep_39 : decode cX5_keep 39 = .ok (.aload_n 0, 1) := by decide +kernel
theorem dX5_keep_40 : decode cX5_keep 40 = .ok (.getfield 23, 3) := by decide +kernel
theorem dX5_keep_43 : decode cX5_keep 43 = .ok (.iload_n 1, 1) := by decide +kernel
theorem dX5_keep_44 : decode cX5_keep 44 = .ok (.iconst 1, 1) := by decide +kernel
theorem dX5_keep_45 : decode cX5_keep 45 = .ok (.bastore, 1) := by decide +kernel
theorem dX5_keep_46 : decode cX5_keep 46 = .ok (.iload_n 2, 1) := by decide +kernel
theorem dX5_keep_47 : decode cX5_keep 47 = .ok (.ireturn, 1) := by decide +kernel
theorem dX5_back_0 : decode cX5_back 0 = .ok (.iload_n 1, 1) := by decide +kernel
theorem dX5_back_1 : decode cX5_back 1 = .ok (.iconst 0, 1) := by decide +kernel
theorem dX5_back_2 : decode cX5_back 2 = .ok (.iconst 1, 1) := by decide +kernel
theorem dX5_back_3 : decode cX5_back 3 = .ok (.invokestatic 74, 3) := by decide +kernel
theorem dX5_back_6 : decode cX5_back 6 = .ok (.ifCond .ne 5, 3) := by decide +kernel
theorem dX5_back_9 : decode cX5_back 9 = .ok (.iconst (-1), 1) := by decide +kernel
theorem dX5_back_10 : decode cX5_back 10 = .ok (.ireturn, 1) := by decide +kernel
theorem dX5_back_11 : decode cX5_back 11 = .ok (.aload_n 0, 1) := by decide +kernel
theorem dX5_back_12 : decode cX5_back 12 = .ok (.getfield 23, 3) := by decide +kernel
theorem dX5_back_15 : decode cX5_back 15 = .ok (.iload_n 1, 1) := by decide +kernel
theorem dX5_back_16 : decode cX5_back 16 = .ok (.baload, 1) := by decide +kernel
theorem dX5_back_17 : decode cX5_back 17 = .ok (.ifCond .ne 6, 3) := by decide +kernel
theorem dX5_back_20 : decode cX5_back 20 = .ok (.bipush (-2), 2) := by decide +kernel
theorem dX5_back_22 : decode cX5_back 22 = .ok (.ireturn, 1) := by decide +kernel
theorem dX5_back_23 : decode cX5_back 23 = .ok (.aload_n 0, 1) := by decide +kernel
theorem dX5_back_24 : decode cX5_back 24 = .ok (.getfield 10, 3) := by decide +kernel
theorem dX5_back_27 : decode cX5_back 27 = .ok (.aload_n 0, 1) := by decide +kernel
theorem dX5_back_28 : decode cX5_back 28 = .ok (.getfield 19, 3) := by decide +kernel
theorem dX5_back_31 : decode cX5_back 31 = .ok (.iload_n 1, 1) := by decide +kernel
theorem dX5_back_32 : decode cX5_back 32 = .ok (.aaload, 1) := by decide +kernel
theorem dX5_back_33 : decode cX5_back 33 = .ok (.invokevirtual 92, 3) := by decide +kernel
theorem dX5_back_36 : decode cX5_back 36 = .ok (.aload_n 0, 1) := by decide +kernel
theorem dX5_back_37 : decode cX5_back 37 = .ok (.getfield 10, 3) := by decide +kernel
theorem dX5_back_40 : decode cX5_back 40 = .ok (.getfield 106, 3) := by decide +kernel
theorem dX5_back_43 : decode cX5_back 43 = .ok (.ireturn, 1) := by decide +kernel
theorem dX5_sheet_0 : decode cX5_sheet 0 = .ok (.iload_n 1, 1) := by decide +kernel
theorem dX5_sheet_1 : decode cX5_sheet 1 = .ok (.iconst 0, 1) := by decide +kernel
theorem dX5_sheet_2 : decode cX5_sheet 2 = .ok (.iconst 3, 1) := by decide +kernel
theorem dX5_sheet_3 : decode cX5_sheet 3 = .ok (.invokestatic 74, 3) := by decide +kernel
theorem dX5_sheet_6 : decode cX5_sheet 6 = .ok (.ifCond .eq 18, 3) := by decide +kernel
theorem dX5_sheet_9 : decode cX5_sheet 9 = .ok (.iload_n 2, 1) := by decide +kernel
theorem dX5_sheet_10 : decode cX5_sheet 10 = .ok (.iconst 0, 1) := by decide +kernel
theorem dX5_sheet_11 : decode cX5_sheet 11 = .ok (.iconst 2, 1) := by decide +kernel
theorem dX5_sheet_12 : decode cX5_sheet 12 = .ok (.invokestatic 74, 3) := by decide +kernel
theorem dX5_sheet_15 : decode cX5_sheet 15 = .ok (.ifCond .eq 9, 3) := by decide +kernel
theorem dX5_sheet_18 : decode cX5_sheet 18 = .ok (.iload_n 3, 1) := by decide +kernel
theorem dX5_sheet_19 : decode cX5_sheet 19 = .ok (.bipush 40, 2) := by decide +kernel
theorem dX5_sheet_21 : decode cX5_sheet 21 = .ok (.if_icmp .le 5, 3) := by decide +kernel
theorem dX5_sheet_24 : decode cX5_sheet 24 = .ok (.iconst (-1), 1) := by decide +kernel
theorem dX5_sheet_25 : decode cX5_sheet 25 = .ok (.ireturn, 1) := by decide +kernel
theorem dX5_sheet_26 : decode cX5_sheet 26 = .ok (.iload_n 3, 1) := by decide +kernel
theorem dX5_sheet_27 : decode cX5_sheet 27 = .ok (.ifCond .ge 6, 3) := by decide +kernel
theorem dX5_sheet_30 : decode cX5_sheet 30 = .ok (.bipush (-14), 2) := by decide +kernel
theorem dX5_sheet_32 : decode cX5_sheet 32 = .ok (.ireturn, 1) := by decide +kernel
theorem dX5_sheet_33 : decode cX5_sheet 33 = .ok (.aload_n 0, 1) := by decide +kernel
theorem dX5_sheet_34 : decode cX5_sheet 34 = .ok (.getfield 53, 3) := by decide +kernel
theorem dX5_sheet_37 : decode cX5_sheet 37 = .ok (.iload_n 1, 1) := by decide +kernel
theorem dX5_sheet_38 : decode cX5_sheet 38 = .ok (.aaload, 1) := by decide +kernel
theorem dX5_sheet_39 : decode cX5_sheet 39 = .ok (.iload_n 2, 1) := by decide +kernel
theorem dX5_sheet_40 : decode cX5_sheet 40 = .ok (.iload_n 3, 1) := by decide +kernel
theorem dX5_sheet_41 : decode cX5_sheet 41 = .ok (.invokevirtual 223, 3) := by decide +kernel
theorem dX5_sheet_44 : decode cX5_sheet 44 = .ok (.iconst 1, 1) := by decide +kernel
theorem dX5_sheet_45 : decode cX5_sheet 45 = .ok (.ireturn, 1) := by decide +kernel
theorem dX5_lay_0 : decode cX5_lay 0 = .ok (.iload_n 1, 1) := by decide +kernel
theorem dX5_lay_1 : decode cX5_lay 1 = .ok (.iconst 0, 1) := by decide +kernel
theorem dX5_lay_2 : decode cX5_lay 2 = .ok (.iconst 3, 1) := by decide +kernel
theorem dX5_lay_3 : decode cX5_lay 3 = .ok (.invokestatic 74, 3) := by decide +kernel
theorem dX5_lay_6 : decode cX5_lay 6 = .ok (.ifCond .ne 5, 3) := by decide +kernel
theorem dX5_lay_9 : decode cX5_lay 9 = .ok (.iconst (-1), 1) := by decide +kernel
theorem dX5_lay_10 : decode cX5_lay 10 = .ok (.ireturn, 1) := by decide +kernel
theorem dX5_lay_11 : decode cX5_lay 11 = .ok (.aload_n 0, 1) := by decide +kernel
theorem dX5_lay_12 : decode cX5_lay 12 = .ok (.getfield 53, 3) := by decide +kernel
theorem dX5_lay_15 : decode cX5_lay 15 = .ok (.iload_n 1, 1) := by decide +kernel
theorem dX5_lay_16 : decode cX5_lay 16 = .ok (.aaload, 1) := by decide +kernel
theorem dX5_lay_17 : decode cX5_lay 17 = .ok (.aload_n 0, 1) := by decide +kernel
theorem dX5_lay_18 : decode cX5_lay 18 = .ok (.getfield 53, 3) := by decide +kernel
theorem dX5_lay_21 : decode cX5_lay 21 = .ok (.iload_n 1, 1) := by decide +kernel
theorem dX5_lay_22 : decode cX5_lay 22 = .ok (.aaload, 1) := by decide +kernel
theorem dX5_lay_23 : decode cX5_lay 23 = .ok (.getfield 226, 3) := by decide +kernel
theorem dX5_lay_26 : decode cX5_lay 26 = .ok (.iload_n 2, 1) := by decide +kernel
theorem dX5_lay_27 : decode cX5_lay 27 = .ok (.invokevirtual 229, 3) := by decide +kernel
theorem dX5_lay_30 : decode cX5_lay 30 = .ok (.istore 4, 2) := by decide +kernel
theorem dX5_lay_32 : decode cX5_lay 32 = .ok (.iload 4, 2) := by decide +kernel
theorem dX5_lay_34 : decode cX5_lay 34 = .ok (.ifCond .eq 9, 3) := by decide +kernel
theorem dX5_lay_37 : decode cX5_lay 37 = .ok (.bipush (-10), 2) := by decide +kernel
theorem dX5_lay_39 : decode cX5_lay 39 = .ok (.iload 4, 2) := by decide +kernel
theorem dX5_lay_41 : decode cX5_lay 41 = .ok (.isub, 1) := by decide +kernel
theorem dX5_lay_42 : decode cX5_lay 42 = .ok (.ireturn, 1) := by decide +kernel
theorem dX5_lay_43 : decode cX5_lay 43 = .ok (.aload_n 0, 1) := by decide +kernel
theorem dX5_lay_44 : decode cX5_lay 44 = .ok (.getfield 53, 3) := by decide +kernel
theorem dX5_lay_47 : decode cX5_lay 47 = .ok (.iload_n 1, 1) := by decide +kernel
theorem dX5_lay_48 : decode cX5_lay 48 = .ok (.aaload, 1) := by decide +kernel
theorem dX5_lay_49 : decode cX5_lay 49 = .ok (.iload_n 2, 1) := by decide +kernel
theorem dX5_lay_50 : decode cX5_lay 50 = .ok (.iload_n 3, 1) := by decide +kernel
theorem dX5_lay_51 : decode cX5_lay 51 = .ok (.invokevirtual 232, 3) := by decide +kernel
theorem dX5_lay_54 : decode cX5_lay 54 = .ok (.iconst 1, 1) := by decide +kernel
theorem dX5_lay_55 : decode cX5_lay 55 = .ok (.ireturn, 1) := by decide +kernel
theorem dX5_read_0 : decode cX5_read 0 = .ok (.iload_n 1, 1) := by decide +kernel
theorem dX5_read_1 : decode cX5_read 1 = .ok (.iconst 0, 1) := by decide +kernel
theorem dX5_read_2 : decode cX5_read 2 = .ok (.iconst 3, 1) := by decide +kernel
theorem dX5_read_3 : decode cX5_read 3 = .ok (.invokestatic 74, 3) := by decide +kernel
theorem dX5_read_6 : decode cX5_read 6 = .ok (.ifCond .eq 23, 3) := by decide +kernel
theorem dX5_read_9 : decode cX5_read 9 = .ok (.iload_n 2, 1) := by decide +kernel
theorem dX5_read_10 : decode cX5_read 10 = .ok (.iconst 0, 1) := by decide +kernel
theorem dX5_read_11 : decode cX5_read 11 = .ok (.iconst 2, 1) := by decide +kernel
theorem dX5_read_12 : decode cX5_read 12 = .ok (.invokestatic 74, 3) := by decide +kernel
theorem dX5_read_15 : decode cX5_read 15 = .ok (.ifCond .eq 14, 3) := by decide +kernel
theorem dX5_read_18 : decode cX5_read 18 = .ok (.iload 4, 2) := by decide +kernel
theorem dX5_read_20 : decode cX5_read 20 = .ok (.iconst 0, 1) := by decide +kernel
theorem dX5_read_21 : decode cX5_read 21 = .ok (.bipush 20, 2) := by decide +kernel
theorem dX5_read_23 : decode cX5_read 23 = .ok (.invokestatic 74, 3) := by decide +kernel
theorem dX5_read_26 : decode cX5_read 26 = .ok (.ifCond .ne 5, 3) := by decide +kernel
theorem dX5_read_29 : decode cX5_read 29 = .ok (.iconst (-1), 1) := by decide +kernel
theorem dX5_read_30 : decode cX5_read 30 = .ok (.ireturn, 1) := by decide +kernel
theorem dX5_read_31 : decode cX5_read 31 = .ok (.aload_n 0, 1) := by decide +kernel
theorem dX5_read_32 : decode cX5_read 32 = .ok (.getfield 53, 3) := by decide +kernel
theorem dX5_read_35 : decode cX5_read 35 = .ok (.iload_n 1, 1) := by decide +kernel
theorem dX5_read_36 : decode cX5_read 36 = .ok (.aaload, 1) := by decide +kernel
theorem dX5_read_37 : decode cX5_read 37 = .ok (.astore 5, 2) := by decide +kernel
theorem dX5_read_39 : decode cX5_read 39 = .ok (.aload_n 0, 1) := by decide +kernel
theorem dX5_read_40 : decode cX5_read 40 = .ok (.getfield 16, 3) := by decide +kernel
theorem dX5_read_43 : decode cX5_read 43 = .ok (.aload_n 0, 1) := by decide +kernel
theorem dX5_read_44 : decode cX5_read 44 = .ok (.getfield 10, 3) := by decide +kernel
theorem dX5_read_47 : decode cX5_read 47 = .ok (.invokevirtual 92, 3) := by decide +kernel
theorem dX5_read_50 : decode cX5_read 50 = .ok (.iconst 0, 1) := by decide +kernel
theorem dX5_read_51 : decode cX5_read 51 = .ok (.istore 6, 2) := by decide +kernel
theorem dX5_read_53 : decode cX5_read 53 = .ok (.iconst 0, 1) := by decide +kernel
theorem dX5_read_54 : decode cX5_read 54 = .ok (.istore 7, 2) := by decide +kernel
theorem dX5_read_56 : decode cX5_read 56 = .ok (.iload 7, 2) := by decide +kernel
theorem dX5_read_58 : decode cX5_read 58 = .ok (.iload 4, 2) := by decide +kernel
theorem dX5_read_60 : decode cX5_read 60 = .ok (.if_icmp .ge 69, 3) := by decide +kernel
theorem dX5_read_63 : decode cX5_read 63 = .ok (.iload_n 3, 1) := by decide +kernel
theorem dX5_read_64 : decode cX5_read 64 = .ok (.iconst 2, 1) := by decide +kernel
theorem dX5_read_65 : decode cX5_read 65 = .ok (.iload 7, 2) := by decide +kernel
theorem dX5_read_67 : decode cX5_read 67 = .ok (.imul, 1) := by decide +kernel
theorem dX5_read_68 : decode cX5_read 68 = .ok (.iadd, 1) := by decide +kernel
theorem dX5_read_69 : decode cX5_read 69 = .ok (.istore 8, 2) := by decide +kernel
theorem dX5_read_71 : decode cX5_read 71 = .ok (.aload 5, 2) := by decide +kernel
theorem dX5_read_73 : decode cX5_read 73 = .ok (.iload_n 2, 1) := by decide +kernel
theorem dX5_read_74 : decode cX5_read 74 = .ok (.iload 8, 2) := by decide +kernel
theorem dX5_read_76 : decode cX5_read 76 = .ok (.invokevirtual 235, 3) := by decide +kernel
theorem dX5_read_79 : decode cX5_read 79 = .ok (.istore 6, 2) := by decide +kernel
theorem dX5_read_81 : decode cX5_read 81 = .ok (.iload 6, 2) := by decide +kernel
theorem dX5_read_83 : decode cX5_read 83 = .ok (.ifCond .eq 6, 3) := by decide +kernel
theorem dX5_read_86 : decode cX5_read 86 = .ok (.goto 43, 3) := by decide +kernel
theorem dX5_read_89 : decode cX5_read 89 = .ok (.aload_n 0, 1) := by decide +kernel
theorem dX5_read_90 : decode cX5_read 90 = .ok (.getfield 16, 3) := by decide +kernel
theorem dX5_read_93 : decode cX5_read 93 = .ok (.aload 5, 2) := by decide +kernel
theorem dX5_read_95 : decode cX5_read 95 = .ok (.getfield 238, 3) := by decide +kernel
theorem dX5_read_98 : decode cX5_read 98 = .ok (.iload 8, 2) := by decide +kernel
theorem dX5_read_100 : decode cX5_read 100 = .ok (.iaload, 1) := by decide +kernel
theorem dX5_read_101 : decode cX5_read 101 = .ok (.aload 5, 2) := by decide +kernel
theorem dX5_read_103 : decode cX5_read 103 = .ok (.getfield 238, 3) := by decide +kernel
theorem dX5_read_106 : decode cX5_read 106 = .ok (.iload 8, 2) := by decide +kernel
theorem dX5_read_108 : decode cX5_read 108 = .ok (.iconst 1, 1) := by decide +kernel
theorem dX5_read_109 : decode cX5_read 109 = .ok (.iadd, 1) := by decide +kernel
theorem dX5_read_110 : decode cX5_read 110 = .ok (.iaload, 1) := by decide +kernel
theorem dX5_read_111 : decode cX5_read 111 = .ok (.invokevirtual 241, 3) := by decide +kernel
theorem dX5_read_114 : decode cX5_read 114 = .ok (.ifCond .ne 9, 3) := by decide +kernel
theorem dX5_read_117 : decode cX5_read 117 = .ok (.bipush (-20), 2) := by decide +kernel
theorem dX5_read_119 : decode cX5_read 119 = .ok (.iload 7, 2) := by decide +kernel
theorem dX5_read_121 : decode cX5_read 121 = .ok (.isub, 1) := by decide +kernel
theorem dX5_read_122 : decode cX5_read 122 = .ok (.ireturn, 1) := by decide +kernel
theorem dX5_read_123 : decode cX5_read 123 = .ok (.iinc 7 1, 3) := by decide +kernel
theorem dX5_read_126 : decode cX5_read 126 = .ok (.goto (-70), 3) := by decide +kernel
theorem dX5_read_129 : decode cX5_read 129 = .ok (.aload_n 0, 1) := by decide +kernel
theorem dX5_read_130 : decode cX5_read 130 = .ok (.getfield 10, 3) := by decide +kernel
theorem dX5_read_133 : decode cX5_read 133 = .ok (.aload_n 0, 1) := by decide +kernel
theorem dX5_read_134 : decode cX5_read 134 = .ok (.getfield 16, 3) := by decide +kernel
theorem dX5_read_137 : decode cX5_read 137 = .ok (.invokevirtual 92, 3) := by decide +kernel
theorem dX5_read_140 : decode cX5_read 140 = .ok (.aload_n 0, 1) := by decide +kernel
theorem dX5_read_141 : decode cX5_read 141 = .ok (.iload 6, 2) := by decide +kernel
theorem dX5_read_143 : decode cX5_read 143 = .ok (.putfield 57, 3) := by decide +kernel
theorem dX5_read_146 : decode cX5_read 146 = .ok (.iload 7, 2) := by decide +kernel
theorem dX5_read_148 : decode cX5_read 148 = .ok (.ireturn, 1) := by decide +kernel
theorem dX5_torn_0 : decode cX5_torn 0 = .ok (.aload_n 0, 1) := by decide +kernel
theorem dX5_torn_1 : decode cX5_torn 1 = .ok (.getfield 57, 3) := by decide +kernel
theorem dX5_torn_4 : decode cX5_torn 4 = .ok (.ireturn, 1) := by decide +kernel
theorem dX5_count_0 : decode cX5_count 0 = .ok (.iload_n 1, 1) := by decide +kernel
theorem dX5_count_1 : decode cX5_count 1 = .ok (.tableswitch 128 0 5 #[39, 47, 77, 85, 112, 120], 39) := by decide +kernel
theorem dX5_count_40 : decode cX5_count 40 = .ok (.aload_n 0, 1) := by decide +kernel
theorem dX5_count_41 : decode cX5_count 41 = .ok (.getfield 46, 3) := by decide +kernel
theorem dX5_count_44 : decode cX5_count 44 = .ok (.getfield 96, 3) := by decide +kernel
theorem dX5_count_47 : decode cX5_count 47 = .ok (.ireturn, 1) := by decide +kernel
theorem dX5_count_48 : decode cX5_count 48 = .ok (.aload_n 0, 1) := by decide +kernel
theorem dX5_count_49 : decode cX5_count 49 = .ok (.getfield 23, 3) := by decide +kernel
theorem dX5_count_52 : decode cX5_count 52 = .ok (.iconst 0, 1) := by decide +kernel
theorem dX5_count_53 : decode cX5_count 53 = .ok (.baload, 1) := by decide +kernel
theorem dX5_count_54 : decode cX5_count 54 = .ok (.ifCond .eq 7, 3) := by decide +kernel
theorem dX5_count_57 : decode cX5_count 57 = .ok (.iconst 1, 1) := by decide +kernel
theorem dX5_count_58 : decode cX5_count 58 = .ok (.goto 4, 3) := by decide +kernel
theorem dX5_count_61 : decode cX5_count 61 = .ok (.iconst 0, 1) := by decide +kernel
theorem dX5_count_62 : decode cX5_count 62 = .ok (.aload_n 0, 1) := by decide +kernel
theorem dX5_count_63 : decode cX5_count 63 = .ok (.getfield 23, 3) := by decide +kernel
theorem dX5_count_66 : decode cX5_count 66 = .ok (.iconst 1, 1) := by decide +kernel
theorem dX5_count_67 : decode cX5_count 67 = .ok (.baload, 1) := by decide +kernel
theorem dX5_count_68 : decode cX5_count 68 = .ok (.ifCond .eq 7, 3) := by decide +kernel
theorem dX5_count_71 : decode cX5_count 71 = .ok (.iconst 1, 1) := by decide +kernel
theorem dX5_count_72 : decode cX5_count 72 = .ok (.goto 4, 3) := by decide +kernel
theorem dX5_count_75 : decode cX5_count 75 = .ok (.iconst 0, 1) := by decide +kernel
theorem dX5_count_76 : decode cX5_count 76 = .ok (.iadd, 1) := by decide +kernel
theorem dX5_count_77 : decode cX5_count 77 = .ok (.ireturn, 1) := by decide +kernel
theorem dX5_count_78 : decode cX5_count 78 = .ok (.aload_n 0, 1) := by decide +kernel
theorem dX5_count_79 : decode cX5_count 79 = .ok (.getfield 30, 3) := by decide +kernel
theorem dX5_count_82 : decode cX5_count 82 = .ok (.getfield 78, 3) := by decide +kernel
theorem dX5_count_85 : decode cX5_count 85 = .ok (.ireturn, 1) := by decide +kernel
theorem dX5_count_86 : decode cX5_count 86 = .ok (.aload_n 0, 1) := by decide +kernel
theorem dX5_count_87 : decode cX5_count 87 = .ok (.getfield 53, 3) := by decide +kernel
theorem dX5_count_90 : decode cX5_count 90 = .ok (.iconst 0, 1) := by decide +kernel
theorem dX5_count_91 : decode cX5_count 91 = .ok (.aaload, 1) := by decide +kernel
theorem dX5_count_92 : decode cX5_count 92 = .ok (.getfield 245, 3) := by decide +kernel
theorem dX5_count_95 : decode cX5_count 95 = .ok (.ifCond .eq 15, 3) := by decide +kernel
theorem dX5_count_98 : decode cX5_count 98 = .ok (.aload_n 0, 1) := by decide +kernel
theorem dX5_count_99 : decode cX5_count 99 = .ok (.getfield 53, 3) := by decide +kernel
theorem dX5_count_102 : decode cX5_count 102 = .ok (.iconst 0, 1) := by decide +kernel
theorem dX5_count_103 : decode cX5_count 103 = .ok (.aaload, 1) := by decide +kernel
theorem dX5_count_104 : decode cX5_count 104 = .ok (.getfield 249, 3) := by decide +kernel
theorem dX5_count_107 : decode cX5_count 107 = .ok (.goto 5, 3) := by decide +kernel
theorem dX5_count_110 : decode cX5_count 110 = .ok (.bipush (-4), 2) := by decide +kernel
theorem dX5_count_112 : decode cX5_count 112 = .ok (.ireturn, 1) := by decide +kernel
theorem dX5_count_113 : decode cX5_count 113 = .ok (.aload_n 0, 1) := by decide +kernel
theorem dX5_count_114 : decode cX5_count 114 = .ok (.getfield 10, 3) := by decide +kernel
theorem dX5_count_117 : decode cX5_count 117 = .ok (.invokevirtual 250, 3) := by decide +kernel
theorem dX5_count_120 : decode cX5_count 120 = .ok (.ireturn, 1) := by decide +kernel
theorem dX5_count_121 : decode cX5_count 121 = .ok (.aload_n 0, 1) := by decide +kernel
theorem dX5_count_122 : decode cX5_count 122 = .ok (.getfield 10, 3) := by decide +kernel
theorem dX5_count_125 : decode cX5_count 125 = .ok (.invokevirtual 253, 3) := by decide +kernel
theorem dX5_count_128 : decode cX5_count 128 = .ok (.ireturn, 1) := by decide +kernel
theorem dX5_count_129 : decode cX5_count 129 = .ok (.iconst (-1), 1) := by decide +kernel
theorem dX5_count_130 : decode cX5_count 130 = .ok (.ireturn, 1) := by decide +kernel
theorem dX5_within_0 : decode cX5_within 0 = .ok (.iload_n 0, 1) := by decide +kernel
theorem dX5_within_1 : decode cX5_within 1 = .ok (.iload_n 1, 1) := by decide +kernel
theorem dX5_within_2 : decode cX5_within 2 = .ok (.if_icmp .lt 12, 3) := by decide +kernel
theorem dX5_within_5 : decode cX5_within 5 = .ok (.iload_n 0, 1) := by decide +kernel
theorem dX5_within_6 : decode cX5_within 6 = .ok (.iload_n 2, 1) := by decide +kernel
theorem dX5_within_7 : decode cX5_within 7 = .ok (.if_icmp .gt 7, 3) := by decide +kernel
theorem dX5_within_10 : decode cX5_within 10 = .ok (.iconst 1, 1) := by decide +kernel
theorem dX5_within_11 : decode cX5_within 11 = .ok (.goto 4, 3) := by decide +kernel
theorem dX5_within_14 : decode cX5_within 14 = .ok (.iconst 0, 1) := by decide +kernel
theorem dX5_within_15 : decode cX5_within 15 = .ok (.ireturn, 1) := by decide +kernel
theorem dX5_tryPart_0 : decode cX5_tryPart 0 = .ok (.aload_n 0, 1) := by decide +kernel
theorem dX5_tryPart_1 : decode cX5_tryPart 1 = .ok (.getfield 16, 3) := by decide +kernel
theorem dX5_tryPart_4 : decode cX5_tryPart 4 = .ok (.aload_n 0, 1) := by decide +kernel
theorem dX5_tryPart_5 : decode cX5_tryPart 5 = .ok (.getfield 10, 3) := by decide +kernel
theorem dX5_tryPart_8 : decode cX5_tryPart 8 = .ok (.invokevirtual 92, 3) := by decide +kernel
theorem dX5_tryPart_11 : decode cX5_tryPart 11 = .ok (.aload_n 0, 1) := by decide +kernel
theorem dX5_tryPart_12 : decode cX5_tryPart 12 = .ok (.getfield 16, 3) := by decide +kernel
theorem dX5_tryPart_15 : decode cX5_tryPart 15 = .ok (.iload_n 1, 1) := by decide +kernel
theorem dX5_tryPart_16 : decode cX5_tryPart 16 = .ok (.iload_n 2, 1) := by decide +kernel
theorem dX5_tryPart_17 : decode cX5_tryPart 17 = .ok (.iload_n 3, 1) := by decide +kernel
theorem dX5_tryPart_18 : decode cX5_tryPart 18 = .ok (.invokevirtual 256, 3) := by decide +kernel
theorem dX5_tryPart_21 : decode cX5_tryPart 21 = .ok (.return_, 1) := by decide +kernel
theorem dX5_trialErrorBehind_0 : decode cX5_trialErrorBehind 0 = .ok (.aload_n 0, 1) := by decide +kernel
theorem dX5_trialErrorBehind_1 : decode cX5_trialErrorBehind 1 = .ok (.getfield 16, 3) := by decide +kernel
theorem dX5_trialErrorBehind_4 : decode cX5_trialErrorBehind 4 = .ok (.iload_n 1, 1) := by decide +kernel
theorem dX5_trialErrorBehind_5 : decode cX5_trialErrorBehind 5 = .ok (.invokevirtual 150, 3) := by decide +kernel
theorem dX5_trialErrorBehind_8 : decode cX5_trialErrorBehind 8 = .ok (.aload_n 0, 1) := by decide +kernel
theorem dX5_trialErrorBehind_9 : decode cX5_trialErrorBehind 9 = .ok (.getfield 16, 3) := by decide +kernel
theorem dX5_trialErrorBehind_12 : decode cX5_trialErrorBehind 12 = .ok (.invokevirtual 116, 3) := by decide +kernel
theorem dX5_trialErrorBehind_15 : decode cX5_trialErrorBehind 15 = .ok (.ireturn, 1) := by decide +kernel
theorem dX5_bestPart_0 : decode cX5_bestPart 0 = .ok (.aload_n 0, 1) := by decide +kernel
theorem dX5_bestPart_1 : decode cX5_bestPart 1 = .ok (.getfield 10, 3) := by decide +kernel
theorem dX5_bestPart_4 : decode cX5_bestPart 4 = .ok (.iload_n 1, 1) := by decide +kernel
theorem dX5_bestPart_5 : decode cX5_bestPart 5 = .ok (.invokevirtual 122, 3) := by decide +kernel
theorem dX5_bestPart_8 : decode cX5_bestPart 8 = .ok (.ifCond .eq 24, 3) := by decide +kernel
theorem dX5_bestPart_11 : decode cX5_bestPart 11 = .ok (.iload_n 3, 1) := by decide +kernel
theorem dX5_bestPart_12 : decode cX5_bestPart 12 = .ok (.iconst 0, 1) := by decide +kernel
theorem dX5_bestPart_13 : decode cX5_bestPart 13 = .ok (.sipush 200, 3) := by decide +kernel
theorem dX5_bestPart_16 : decode cX5_bestPart 16 = .ok (.invokestatic 74, 3) := by decide +kernel
theorem dX5_bestPart_19 : decode cX5_bestPart 19 = .ok (.ifCond .eq 13, 3) := by decide +kernel
theorem dX5_bestPart_22 : decode cX5_bestPart 22 = .ok (.iload 4, 2) := by decide +kernel
theorem dX5_bestPart_24 : decode cX5_bestPart 24 = .ok (.iconst 0, 1) := by decide +kernel
theorem dX5_bestPart_25 : decode cX5_bestPart 25 = .ok (.iconst 1, 1) := by decide +kernel
theorem dX5_bestPart_26 : decode cX5_bestPart 26 = .ok (.invokestatic 74, 3) := by decide +kernel
theorem dX5_bestPart_29 : decode cX5_bestPart 29 = .ok (.ifCond .ne 5, 3) := by decide +kernel
theorem dX5_bestPart_32 : decode cX5_bestPart 32 = .ok (.iconst (-1), 1) := by decide +kernel
theorem dX5_bestPart_33 : decode cX5_bestPart 33 = .ok (.ireturn, 1) := by decide +kernel
theorem dX5_bestPart_34 : decode cX5_bestPart 34 = .ok (.iload_n 2, 1) := by decide +kernel
theorem dX5_bestPart_35 : decode cX5_bestPart 35 = .ok (.ifCond .ne 7, 3) := by decide +kernel
theorem dX5_bestPart_38 : decode cX5_bestPart 38 = .ok (.iconst 4, 1) := by decide +kernel
theorem dX5_bestPart_39 : decode cX5_bestPart 39 = .ok (.goto 12, 3) := by decide +kernel
theorem dX5_bestPart_42 : decode cX5_bestPart 42 = .ok (.aload_n 0, 1) := by decide +kernel
theorem dX5_bestPart_43 : decode cX5_bestPart 43 = .ok (.getfield 10, 3) := by decide +kernel
theorem dX5_bestPart_46 : decode cX5_bestPart 46 = .ok (.getfield 206, 3) := by decide +kernel
theorem dX5_bestPart_49 : decode cX5_bestPart 49 = .ok (.iload_n 1, 1) := by decide +kernel
theorem dX5_bestPart_50 : decode cX5_bestPart 50 = .ok (.iaload, 1) := by decide +kernel
theorem dX5_bestPart_51 : decode cX5_bestPart 51 = .ok (.istore 5, 2) := by decide +kernel
theorem dX5_bestPart_53 : decode cX5_bestPart 53 = .ok (.ldc_w 261, 3) := by decide +kernel
theorem dX5_bestPart_56 : decode cX5_bestPart 56 = .ok (.istore 6, 2) := by decide +kernel
theorem dX5_bestPart_58 : decode cX5_bestPart 58 = .ok (.iconst 0, 1) := by decide +kernel
theorem dX5_bestPart_59 : decode cX5_bestPart 59 = .ok (.istore 7, 2) := by decide +kernel
theorem dX5_bestPart_61 : decode cX5_bestPart 61 = .ok (.iconst 0, 1) := by decide +kernel
theorem dX5_bestPart_62 : decode cX5_bestPart 62 = .ok (.istore 8, 2) := by decide +kernel
theorem dX5_bestPart_64 : decode cX5_bestPart 64 = .ok (.iload 8, 2) := by decide +kernel
theorem dX5_bestPart_66 : decode cX5_bestPart 66 = .ok (.iload 5, 2) := by decide +kernel
theorem dX5_bestPart_68 : decode cX5_bestPart 68 = .ok (.if_icmp .ge 64, 3) := by decide +kernel
theorem dX5_bestPart_71 : decode cX5_bestPart 71 = .ok (.aload_n 0, 1) := by decide +kernel
theorem dX5_bestPart_72 : decode cX5_bestPart 72 = .ok (.iload_n 1, 1) := by decide +kernel
theorem dX5_bestPart_73 : decode cX5_bestPart 73 = .ok (.iload_n 2, 1) := by decide +kernel
theorem dX5_bestPart_74 : decode cX5_bestPart 74 = .ok (.iload 8, 2) := by decide +kernel
theorem dX5_bestPart_76 : decode cX5_bestPart 76 = .ok (.invokevirtual 175, 3) := by decide +kernel
theorem dX5_bestPart_79 : decode cX5_bestPart 79 = .ok (.aload_n 0, 1) := by decide +kernel
theorem dX5_bestPart_80 : decode cX5_bestPart 80 = .ok (.getfield 16, 3) := by decide +kernel
theorem dX5_bestPart_83 : decode cX5_bestPart 83 = .ok (.iload_n 3, 1) := by decide +kernel
theorem dX5_bestPart_84 : decode cX5_bestPart 84 = .ok (.invokevirtual 150, 3) := by decide +kernel
theorem dX5_bestPart_87 : decode cX5_bestPart 87 = .ok (.iload_n 2, 1) := by decide +kernel
theorem dX5_bestPart_88 : decode cX5_bestPart 88 = .ok (.iconst 3, 1) := by decide +kernel
theorem dX5_bestPart_89 : decode cX5_bestPart 89 = .ok (.if_icmp .ne 13, 3) := by decide +kernel
theorem dX5_bestPart_92 : decode cX5_bestPart 92 = .ok (.aload_n 0, 1) := by decide +kernel
theorem dX5_bestPart_93 : decode cX5_bestPart 93 = .ok (.getfield 16, 3) := by decide +kernel
theorem dX5_bestPart_96 : decode cX5_bestPart 96 = .ok (.invokevirtual 109, 3) := by decide +kernel
theorem dX5_bestPart_99 : decode cX5_bestPart 99 = .ok (.goto 10, 3) := by decide +kernel
theorem dX5_bestPart_102 : decode cX5_bestPart 102 = .ok (.aload_n 0, 1) := by decide +kernel
theorem dX5_bestPart_103 : decode cX5_bestPart 103 = .ok (.getfield 16, 3) := by decide +kernel
theorem dX5_bestPart_106 : decode cX5_bestPart 106 = .ok (.invokevirtual 116, 3) := by decide +kernel
theorem dX5_bestPart_109 : decode cX5_bestPart 109 = .ok (.istore 9, 2) := by decide +kernel
theorem dX5_bestPart_111 : decode cX5_bestPart 111 = .ok (.iload 9, 2) := by decide +kernel
theorem dX5_bestPart_113 : decode cX5_bestPart 113 = .ok (.iload 6, 2) := by decide +kernel
theorem dX5_bestPart_115 : decode cX5_bestPart 115 = .ok (.if_icmp .ge 11, 3) := by decide +kernel
theorem dX5_bestPart_118 : decode cX5_bestPart 118 = .ok (.iload 9, 2) := by decide +kernel
theorem dX5_bestPart_120 : decode cX5_bestPart 120 = .ok (.istore 6, 2) := by decide +kernel
theorem dX5_bestPart_122 : decode cX5_bestPart 122 = .ok (.iload 8, 2) := by decide +kernel
theorem dX5_bestPart_124 : decode cX5_bestPart 124 = .ok (.istore 7, 2) := by decide +kernel
theorem dX5_bestPart_126 : decode cX5_bestPart 126 = .ok (.iinc 8 1, 3) := by decide +kernel
theorem dX5_bestPart_129 : decode cX5_bestPart 129 = .ok (.goto (-65), 3) := by decide +kernel
theorem dX5_bestPart_132 : decode cX5_bestPart 132 = .ok (.iload 4, 2) := by decide +kernel
theorem dX5_bestPart_134 : decode cX5_bestPart 134 = .ok (.ifCond .ne 8, 3) := by decide +kernel
theorem dX5_bestPart_137 : decode cX5_bestPart 137 = .ok (.iload 7, 2) := by decide +kernel
theorem dX5_bestPart_139 : decode cX5_bestPart 139 = .ok (.goto 5, 3) := by decide +kernel
theorem dX5_bestPart_142 : decode cX5_bestPart 142 = .ok (.iload 6, 2) := by decide +kernel
theorem dX5_bestPart_144 : decode cX5_bestPart 144 = .ok (.ireturn, 1) := by decide +kernel
theorem dX5_fitsWith_0 : decode cX5_fitsWith 0 = .ok (.aload_n 0, 1) := by decide +kernel
theorem dX5_fitsWith_1 : decode cX5_fitsWith 1 = .ok (.iload_n 1, 1) := by decide +kernel
theorem dX5_fitsWith_2 : decode cX5_fitsWith 2 = .ok (.iload_n 2, 1) := by decide +kernel
theorem dX5_fitsWith_3 : decode cX5_fitsWith 3 = .ok (.iload_n 3, 1) := by decide +kernel
theorem dX5_fitsWith_4 : decode cX5_fitsWith 4 = .ok (.invokevirtual 175, 3) := by decide +kernel
theorem dX5_fitsWith_7 : decode cX5_fitsWith 7 = .ok (.aload_n 0, 1) := by decide +kernel
theorem dX5_fitsWith_8 : decode cX5_fitsWith 8 = .ok (.getfield 46, 3) := by decide +kernel
theorem dX5_fitsWith_11 : decode cX5_fitsWith 11 = .ok (.aload_n 0, 1) := by decide +kernel
theorem dX5_fitsWith_12 : decode cX5_fitsWith 12 = .ok (.getfield 16, 3) := by decide +kernel
theorem dX5_fitsWith_15 : decode cX5_fitsWith 15 = .ok (.invokevirtual 262, 3) := by decide +kernel
theorem dX5_fitsWith_18 : decode cX5_fitsWith 18 = .ok (.ireturn, 1) := by decide +kernel
theorem dX5_countWays_0 : decode cX5_countWays 0 = .ok (.lconst 1, 1) := by decide +kernel
theorem dX5_countWays_1 : decode cX5_countWays 1 = .ok (.lstore_n 3, 1) := by decide +kernel
theorem dX5_countWays_2 : decode cX5_countWays 2 = .ok (.aload_n 0, 1) := by decide +kernel
theorem dX5_countWays_3 : decode cX5_countWays 3 = .ok (.getfield 61, 3) := by decide +kernel
theorem dX5_countWays_6 : decode cX5_countWays 6 = .ok (.iconst 0, 1) := by decide +kernel
theorem dX5_countWays_7 : decode cX5_countWays 7 = .ok (.lconst 1, 1) := by decide +kernel
theorem dX5_countWays_8 : decode cX5_countWays 8 = .ok (.lastore, 1) := by decide +kernel
theorem dX5_countWays_9 : decode cX5_countWays 9 = .ok (.iconst 1, 1) := by decide +kernel
theorem dX5_countWays_10 : decode cX5_countWays 10 = .ok (.istore 5, 2) := by decide +kernel
theorem dX5_countWays_12 : decode cX5_countWays 12 = .ok (.iload 5, 2) := by decide +kernel
theorem dX5_countWays_14 : decode cX5_countWays 14 = .ok (.iload_n 2, 1) := by decide +kernel
theorem dX5_countWays_15 : decode cX5_countWays 15 = .ok (.if_icmp .gt 82, 3) := by decide +kernel
theorem dX5_countWays_18 : decode cX5_countWays 18 = .ok (.aload_n 0, 1) := by decide +kernel
theorem dX5_countWays_19 : decode cX5_countWays 19 = .ok (.getfield 61, 3) := by decide +kernel
theorem dX5_countWays_22 : decode cX5_countWays 22 = .ok (.iload 5, 2) := by decide +kernel
theorem dX5_countWays_24 : decode cX5_countWays 24 = .ok (.lconst 0, 1) := by decide +kernel
theorem dX5_countWays_25 : decode cX5_countWays 25 = .ok (.lastore, 1) := by decide +kernel
theorem dX5_countWays_26 : decode cX5_countWays 26 = .ok (.iload 5, 2) := by decide +kernel
theorem dX5_countWays_28 : decode cX5_countWays 28 = .ok (.istore 6, 2) := by decide +kernel
theorem dX5_countWays_30 : decode cX5_countWays 30 = .ok (.iload 6, 2) := by decide +kernel
theorem dX5_countWays_32 : decode cX5_countWays 32 = .ok (.ifCond .le 42, 3) := by decide +kernel
theorem dX5_countWays_35 : decode cX5_countWays 35 = .ok (.aload_n 0, 1) := by decide +kernel
theorem dX5_countWays_36 : decode cX5_countWays 36 = .ok (.getfield 61, 3) := by decide +kernel
theorem dX5_countWays_39 : decode cX5_countWays 39 = .ok (.iload 6, 2) := by decide +kernel
theorem dX5_countWays_41 : decode cX5_countWays 41 = .ok (.aload_n 0, 1) := by decide +kernel
theorem dX5_countWays_42 : decode cX5_countWays 42 = .ok (.getfield 61, 3) := by decide +kernel
theorem dX5_countWays_45 : decode cX5_countWays 45 = .ok (.iload 6, 2) := by decide +kernel
theorem dX5_countWays_47 : decode cX5_countWays 47 = .ok (.laload, 1) := by decide +kernel
theorem dX5_countWays_48 : decode cX5_countWays 48 = .ok (.iload_n 1, 1) := by decide +kernel
theorem dX5_countWays_49 : decode cX5_countWays 49 = .ok (.i2l, 1) := by decide +kernel
theorem dX5_countWays_50 : decode cX5_countWays 50 = .ok (.lmul, 1) := by decide +kernel
theorem dX5_countWays_51 : decode cX5_countWays 51 = .ok (.aload_n 0, 1) := by decide +kernel
theorem dX5_countWays_52 : decode cX5_countWays 52 = .ok (.getfield 61, 3) := by decide +kernel
theorem dX5_countWays_55 : decode cX5_countWays 55 = .ok (.iload 6, 2) := by decide +kernel
theorem dX5_countWays_57 : decode cX5_countWays 57 = .ok (.iconst 1, 1) := by decide +kernel
theorem dX5_countWays_58 : decode cX5_countWays 58 = .ok (.isub, 1) := by decide +kernel
theorem dX5_countWays_59 : decode cX5_countWays 59 = .ok (.laload, 1) := by decide +kernel
theorem dX5_countWays_60 : decode cX5_countWays 60 = .ok (.bipush 10, 2) := by decide +kernel
theorem dX5_countWays_62 : decode cX5_countWays 62 = .ok (.iload_n 1, 1) := by decide +kernel
theorem dX5_countWays_63 : decode cX5_countWays 63 = .ok (.isub, 1) := by decide +kernel
theorem dX5_countWays_64 : decode cX5_countWays 64 = .ok (.i2l, 1) := by decide +kernel
theorem dX5_countWays_65 : decode cX5_countWays 65 = .ok (.lmul, 1) := by decide +kernel
theorem dX5_countWays_66 : decode cX5_countWays 66 = .ok (.ladd, 1) := by decide +kernel
theorem dX5_countWays_67 : decode cX5_countWays 67 = .ok (.lastore, 1) := by decide +kernel
theorem dX5_countWays_68 : decode cX5_countWays 68 = .ok (.iinc 6 (-1), 3) := by decide +kernel
theorem dX5_countWays_71 : decode cX5_countWays 71 = .ok (.goto (-41), 3) := by decide +kernel
theorem dX5_countWays_74 : decode cX5_countWays 74 = .ok (.aload_n 0, 1) := by decide +kernel
theorem dX5_countWays_75 : decode cX5_countWays 75 = .ok (.getfield 61, 3) := by decide +kernel
theorem dX5_countWays_78 : decode cX5_countWays 78 = .ok (.iconst 0, 1) := by decide +kernel
theorem dX5_countWays_79 : decode cX5_countWays 79 = .ok (.dup2, 1) := by decide +kernel
theorem dX5_countWays_80 : decode cX5_countWays 80 = .ok (.laload, 1) := by decide +kernel
theorem dX5_countWays_81 : decode cX5_countWays 81 = .ok (.iload_n 1, 1) := by decide +kernel
theorem dX5_countWays_82 : decode cX5_countWays 82 = .ok (.i2l, 1) := by decide +kernel
theorem dX5_countWays_83 : decode cX5_countWays 83 = .ok (.lmul, 1) := by decide +kernel
theorem dX5_countWays_84 : decode cX5_countWays 84 = .ok (.lastore, 1) := by decide +kernel
theorem dX5_countWays_85 : decode cX5_countWays 85 = .ok (.lload_n 3, 1) := by decide +kernel
theorem dX5_countWays_86 : decode cX5_countWays 86 = .ok (.ldc2_w 265, 3) := by decide +kernel
theorem dX5_countWays_89 : decode cX5_countWays 89 = .ok (.lmul, 1) := by decide +kernel
theorem dX5_countWays_90 : decode cX5_countWays 90 = .ok (.lstore_n 3, 1) := by decide +kernel
theorem dX5_countWays_91 : decode cX5_countWays 91 = .ok (.iinc 5 1, 3) := by decide +kernel
theorem dX5_countWays_94 : decode cX5_countWays 94 = .ok (.goto (-82), 3) := by decide +kernel
theorem dX5_countWays_97 : decode cX5_countWays 97 = .ok (.lload_n 3, 1) := by decide +kernel
theorem dX5_countWays_98 : decode cX5_countWays 98 = .ok (.lreturn, 1) := by decide +kernel
theorem dX5_partOfFraction_0 : decode cX5_partOfFraction 0 = .ok (.lload_n 2, 1) := by decide +kernel
theorem dX5_partOfFraction_1 : decode cX5_partOfFraction 1 = .ok (.lstore 5, 2) := by decide +kernel
theorem dX5_partOfFraction_3 : decode cX5_partOfFraction 3 = .ok (.lload_n 0, 1) := by decide +kernel
theorem dX5_partOfFraction_4 : decode cX5_partOfFraction 4 = .ok (.lstore 7, 2) := by decide +kernel
theorem dX5_partOfFraction_6 : decode cX5_partOfFraction 6 = .ok (.iconst 0, 1) := by decide +kernel
theorem dX5_partOfFraction_7 : decode cX5_partOfFraction 7 = .ok (.istore 9, 2) := by decide +kernel
theorem dX5_partOfFraction_9 : decode cX5_partOfFraction 9 = .ok (.iload 9, 2) := by decide +kernel
theorem dX5_partOfFraction_11 : decode cX5_partOfFraction 11 = .ok (.bipush 100, 2) := by decide +kernel
theorem dX5_partOfFraction_13 : decode cX5_partOfFraction 13 = .ok (.if_icmp .ge 31, 3) := by decide +kernel
theorem dX5_partOfFraction_16 : decode cX5_partOfFraction 16 = .ok (.lload 7, 2) := by decide +kernel
theorem dX5_partOfFraction_18 : decode cX5_partOfFraction 18 = .ok (.lconst 0, 1) := by decide +kernel
theorem dX5_partOfFraction_19 : decode cX5_partOfFraction 19 = .ok (.lcmp, 1) := by decide +kernel
theorem dX5_partOfFraction_20 : decode cX5_partOfFraction 20 = .ok (.ifCond .eq 24, 3) := by decide +kernel
theorem dX5_partOfFraction_23 : decode cX5_partOfFraction 23 = .ok (.lload 5, 2) := by decide +kernel
theorem dX5_partOfFraction_25 : decode cX5_partOfFraction 25 = .ok (.lload 7, 2) := by decide +kernel
theorem dX5_partOfFraction_27 : decode cX5_partOfFraction 27 = .ok (.lrem, 1) := by decide +kernel
theorem dX5_partOfFraction_28 : decode cX5_partOfFraction 28 = .ok (.lstore 10, 2) := by decide +kernel
theorem dX5_partOfFraction_30 : decode cX5_partOfFraction 30 = .ok (.lload 7, 2) := by decide +kernel
theorem dX5_partOfFraction_32 : decode cX5_partOfFraction 32 = .ok (.lstore 5, 2) := by decide +kernel
theorem dX5_partOfFraction_34 : decode cX5_partOfFraction 34 = .ok (.lload 10, 2) := by decide +kernel
theorem dX5_partOfFraction_36 : decode cX5_partOfFraction 36 = .ok (.lstore 7, 2) := by decide +kernel
theorem dX5_partOfFraction_38 : decode cX5_partOfFraction 38 = .ok (.iinc 9 1, 3) := by decide +kernel
theorem dX5_partOfFraction_41 : decode cX5_partOfFraction 41 = .ok (.goto (-32), 3) := by decide +kernel
theorem dX5_partOfFraction_44 : decode cX5_partOfFraction 44 = .ok (.iload 4, 2) := by decide +kernel
theorem dX5_partOfFraction_46 : decode cX5_partOfFraction 46 = .ok (.ifCond .ne 7, 3) := by decide +kernel
theorem dX5_partOfFraction_49 : decode cX5_partOfFraction 49 = .ok (.lload_n 0, 1) := by decide +kernel
theorem dX5_partOfFraction_50 : decode cX5_partOfFraction 50 = .ok (.goto 4, 3) := by decide +kernel
theorem dX5_partOfFraction_53 : decode cX5_partOfFraction 53 = .ok (.lload_n 2, 1) := by decide +kernel
theorem dX5_partOfFraction_54 : decode cX5_partOfFraction 54 = .ok (.lstore 9, 2) := by decide +kernel
theorem dX5_partOfFraction_56 : decode cX5_partOfFraction 56 = .ok (.lload 5, 2) := by decide +kernel
theorem dX5_partOfFraction_58 : decode cX5_partOfFraction 58 = .ok (.lconst 0, 1) := by decide +kernel
theorem dX5_partOfFraction_59 : decode cX5_partOfFraction 59 = .ok (.lcmp, 1) := by decide +kernel
theorem dX5_partOfFraction_60 : decode cX5_partOfFraction 60 = .ok (.ifCond .le 11, 3) := by decide +kernel
theorem dX5_partOfFraction_63 : decode cX5_partOfFraction 63 = .ok (.lload 9, 2) := by decide +kernel
theorem dX5_partOfFraction_65 : decode cX5_partOfFraction 65 = .ok (.lload 5, 2) := by decide +kernel
theorem dX5_partOfFraction_67 : decode cX5_partOfFraction 67 = .ok (.ldiv, 1) := by decide +kernel
theorem dX5_partOfFraction_68 : decode cX5_partOfFraction 68 = .ok (.goto 5, 3) := by decide +kernel
theorem dX5_partOfFraction_71 : decode cX5_partOfFraction 71 = .ok (.lload 9, 2) := by decide +kernel
theorem dX5_partOfFraction_73 : decode cX5_partOfFraction 73 = .ok (.lreturn, 1) := by decide +kernel
theorem dX5_listTeethLeft_0 : decode cX5_listTeethLeft 0 = .ok (.iconst 0, 1) := by decide +kernel
theorem dX5_listTeethLeft_1 : decode cX5_listTeethLeft 1 = .ok (.istore_n 2, 1) := by decide +kernel
theorem dX5_listTeethLeft_2 : decode cX5_listTeethLeft 2 = .ok (.iconst 0, 1) := by decide +kernel
theorem dX5_listTeethLeft_3 : decode cX5_listTeethLeft 3 = .ok (.istore_n 3, 1) := by decide +kernel
theorem dX5_listTeethLeft_4 : decode cX5_listTeethLeft 4 = .ok (.iload_n 3, 1) := by decide +kernel
theorem dX5_listTeethLeft_5 : decode cX5_listTeethLeft 5 = .ok (.bipush 12, 2) := by decide +kernel
theorem dX5_listTeethLeft_7 : decode cX5_listTeethLeft 7 = .ok (.if_icmp .gt 28, 3) := by decide +kernel
theorem dX5_listTeethLeft_10 : decode cX5_listTeethLeft 10 = .ok (.iload_n 1, 1) := by decide +kernel
theorem dX5_listTeethLeft_11 : decode cX5_listTeethLeft 11 = .ok (.iload_n 3, 1) := by decide +kernel
theorem dX5_listTeethLeft_12 : decode cX5_listTeethLeft 12 = .ok (.ishr, 1) := by decide +kernel
theorem dX5_listTeethLeft_13 : decode cX5_listTeethLeft 13 = .ok (.iconst 1, 1) := by decide +kernel
theorem dX5_listTeethLeft_14 : decode cX5_listTeethLeft 14 = .ok (.iand, 1) := by decide +kernel
theorem dX5_listTeethLeft_15 : decode cX5_listTeethLeft 15 = .ok (.iconst 1, 1) := by decide +kernel
theorem dX5_listTeethLeft_16 : decode cX5_listTeethLeft 16 = .ok (.if_icmp .ne 13, 3) := by decide +kernel
theorem dX5_listTeethLeft_19 : decode cX5_listTeethLeft 19 = .ok (.aload_n 0, 1) := by decide +kernel
theorem dX5_listTeethLeft_20 : decode cX5_listTeethLeft 20 = .ok (.getfield 65, 3) := by decide +kernel
theorem dX5_listTeethLeft_23 : decode cX5_listTeethLeft 23 = .ok (.iload_n 2, 1) := by decide +kernel
theorem dX5_listTeethLeft_24 : decode cX5_listTeethLeft 24 = .ok (.iload_n 3, 1) := by decide +kernel
theorem dX5_listTeethLeft_25 : decode cX5_listTeethLeft 25 = .ok (.iastore, 1) := by decide +kernel
theorem dX5_listTeethLeft_26 : decode cX5_listTeethLeft 26 = .ok (.iinc 2 1, 3) := by decide +kernel
theorem dX5_listTeethLeft_29 : decode cX5_listTeethLeft 29 = .ok (.iinc 3 1, 3) := by decide +kernel
theorem dX5_listTeethLeft_32 : decode cX5_listTeethLeft 32 = .ok (.goto (-28), 3) := by decide +kernel
theorem dX5_listTeethLeft_35 : decode cX5_listTeethLeft 35 = .ok (.iload_n 2, 1) := by decide +kernel
theorem dX5_listTeethLeft_36 : decode cX5_listTeethLeft 36 = .ok (.ireturn, 1) := by decide +kernel
theorem dX5_fillReadings_0 : decode cX5_fillReadings 0 = .ok (.aload_n 0, 1) := by decide +kernel
theorem dX5_fillReadings_1 : decode cX5_fillReadings 1 = .ok (.iload_n 1, 1) := by decide +kernel
theorem dX5_fillReadings_2 : decode cX5_fillReadings 2 = .ok (.iconst 3, 1) := by decide +kernel
theorem dX5_fillReadings_3 : decode cX5_fillReadings 3 = .ok (.iload_n 2, 1) := by decide +kernel
theorem dX5_fillReadings_4 : decode cX5_fillReadings 4 = .ok (.invokevirtual 175, 3) := by decide +kernel
theorem dX5_fillReadings_7 : decode cX5_fillReadings 7 = .ok (.iconst 0, 1) := by decide +kernel
theorem dX5_fillReadings_8 : decode cX5_fillReadings 8 = .ok (.istore 4, 2) := by decide +kernel
theorem dX5_fillReadings_10 : decode cX5_fillReadings 10 = .ok (.iload 4, 2) := by decide +kernel
theorem dX5_fillReadings_12 : decode cX5_fillReadings 12 = .ok (.sipush 200, 3) := by decide +kernel
theorem dX5_fillReadings_15 : decode cX5_fillReadings 15 = .ok (.if_icmp .gt 27, 3) := by decide +kernel
theorem dX5_fillReadings_18 : decode cX5_fillReadings 18 = .ok (.aload_n 3, 1) := by decide +kernel
theorem dX5_fillReadings_19 : decode cX5_fillReadings 19 = .ok (.iload 4, 2) := by decide +kernel
theorem dX5_fillReadings_21 : decode cX5_fillReadings 21 = .ok (.aload_n 0, 1) := by decide +kernel
theorem dX5_fillReadings_22 : decode cX5_fillReadings 22 = .ok (.getfield 16, 3) := by decide +kernel
theorem dX5_fillReadings_25 : decode cX5_fillReadings 25 = .ok (.invokevirtual 109, 3) := by decide +kernel
theorem dX5_fillReadings_28 : decode cX5_fillReadings 28 = .ok (.iastore, 1) := by decide +kernel
theorem dX5_fillReadings_29 : decode cX5_fillReadings 29 = .ok (.aload_n 0, 1) := by decide +kernel
theorem dX5_fillReadings_30 : decode cX5_fillReadings 30 = .ok (.getfield 16, 3) := by decide +kernel
theorem dX5_fillReadings_33 : decode cX5_fillReadings 33 = .ok (.invokevirtual 153, 3) := by decide +kernel
theorem dX5_fillReadings_36 : decode cX5_fillReadings 36 = .ok (.iinc 4 1, 3) := by decide +kernel
theorem dX5_fillReadings_39 : decode cX5_fillReadings 39 = .ok (.goto (-29), 3) := by decide +kernel
theorem dX5_fillReadings_42 : decode cX5_fillReadings 42 = .ok (.return_, 1) := by decide +kernel
theorem dX5_mostAlike_0 : decode cX5_mostAlike 0 = .ok (.iconst 0, 1) := by decide +kernel
theorem dX5_mostAlike_1 : decode cX5_mostAlike 1 = .ok (.istore_n 3, 1) := by decide +kernel
theorem dX5_mostAlike_2 : decode cX5_mostAlike 2 = .ok (.iconst 0, 1) := by decide +kernel
theorem dX5_mostAlike_3 : decode cX5_mostAlike 3 = .ok (.istore 4, 2) := by decide +kernel
theorem dX5_mostAlike_5 : decode cX5_mostAlike 5 = .ok (.iload 4, 2) := by decide +kernel
theorem dX5_mostAlike_7 : decode cX5_mostAlike 7 = .ok (.iload_n 3, 1) := by decide +kernel
theorem dX5_mostAlike_8 : decode cX5_mostAlike 8 = .ok (.iadd, 1) := by decide +kernel
theorem dX5_mostAlike_9 : decode cX5_mostAlike 9 = .ok (.iload_n 2, 1) := by decide +kernel
theorem dX5_mostAlike_10 : decode cX5_mostAlike 10 = .ok (.if_icmp .ge 61, 3) := by decide +kernel
theorem dX5_mostAlike_13 : decode cX5_mostAlike 13 = .ok (.iconst 1, 1) := by decide +kernel
theorem dX5_mostAlike_14 : decode cX5_mostAlike 14 = .ok (.istore 5, 2) := by decide +kernel
theorem dX5_mostAlike_16 : decode cX5_mostAlike 16 = .ok (.iload 4, 2) := by decide +kernel
theorem dX5_mostAlike_18 : decode cX5_mostAlike 18 = .ok (.iconst 1, 1) := by decide +kernel
theorem dX5_mostAlike_19 : decode cX5_mostAlike 19 = .ok (.iadd, 1) := by decide +kernel
theorem dX5_mostAlike_20 : decode cX5_mostAlike 20 = .ok (.istore 6, 2) := by decide +kernel
theorem dX5_mostAlike_22 : decode cX5_mostAlike 22 = .ok (.iload 6, 2) := by decide +kernel
theorem dX5_mostAlike_24 : decode cX5_mostAlike 24 = .ok (.iload_n 2, 1) := by decide +kernel
theorem dX5_mostAlike_25 : decode cX5_mostAlike 25 = .ok (.if_icmp .ge 33, 3) := by decide +kernel
theorem dX5_mostAlike_28 : decode cX5_mostAlike 28 = .ok (.aload_n 0, 1) := by decide +kernel
theorem dX5_mostAlike_29 : decode cX5_mostAlike 29 = .ok (.getfield 71, 3) := by decide +kernel
theorem dX5_mostAlike_32 : decode cX5_mostAlike 32 = .ok (.iload 6, 2) := by decide +kernel
theorem dX5_mostAlike_34 : decode cX5_mostAlike 34 = .ok (.aaload, 1) := by decide +kernel
theorem dX5_mostAlike_35 : decode cX5_mostAlike 35 = .ok (.iload_n 1, 1) := by decide +kernel
theorem dX5_mostAlike_36 : decode cX5_mostAlike 36 = .ok (.iaload, 1) := by decide +kernel
theorem dX5_mostAlike_37 : decode cX5_mostAlike 37 = .ok (.aload_n 0, 1) := by decide +kernel
theorem dX5_mostAlike_38 : decode cX5_mostAlike 38 = .ok (.getfield 71, 3) := by decide +kernel
theorem dX5_mostAlike_41 : decode cX5_mostAlike 41 = .ok (.iload 4, 2) := by decide +kernel
theorem dX5_mostAlike_43 : decode cX5_mostAlike 43 = .ok (.aaload, 1) := by decide +kernel
theorem dX5_mostAlike_44 : decode cX5_mostAlike 44 = .ok (.iload_n 1, 1) := by decide +kernel
theorem dX5_mostAlike_45 : decode cX5_mostAlike 45 = .ok (.iaload, 1) := by decide +kernel
theorem dX5_mostAlike_46 : decode cX5_mostAlike 46 = .ok (.if_icmp .ne 6, 3) := by decide +kernel
theorem dX5_mostAlike_49 : decode cX5_mostAlike 49 = .ok (.iinc 5 1, 3) := by decide +kernel
theorem dX5_mostAlike_52 : decode cX5_mostAlike 52 = .ok (.iinc 6 1, 3) := by decide +kernel
theorem dX5_mostAlike_55 : decode cX5_mostAlike 55 = .ok (.goto (-33), 3) := by decide +kernel
theorem dX5_mostAlike_58 : decode cX5_mostAlike 58 = .ok (.iload_n 3, 1) := by decide +kernel
theorem dX5_mostAlike_59 : decode cX5_mostAlike 59 = .ok (.iload 5, 2) := by decide +kernel
theorem dX5_mostAlike_61 : decode cX5_mostAlike 61 = .ok (.invokestatic 156, 3) := by decide +kernel
theorem dX5_mostAlike_64 : decode cX5_mostAlike 64 = .ok (.istore_n 3, 1) := by decide +kernel
theorem dX5_mostAlike_65 : decode cX5_mostAlike 65 = .ok (.iinc 4 1, 3) := by decide +kernel
theorem dX5_mostAlike_68 : decode cX5_mostAlike 68 = .ok (.goto (-63), 3) := by decide +kernel
theorem dX5_mostAlike_71 : decode cX5_mostAlike 71 = .ok (.iload_n 3, 1) := by decide +kernel
theorem dX5_mostAlike_72 : decode cX5_mostAlike 72 = .ok (.ireturn, 1) := by decide +kernel
end
section
theorem dX6_init_0 : decode cX6_init 0 = .ok (.aload_n 0, 1) := by decide +kernel
theorem dX6_init_1 : decode cX6_init 1 = .ok (.invokespecial 1, 3) := by decide +kernel
theorem dX6_init_4 : decode cX6_init 4 = .ok (.aload_n 0, 1) := by decide +kernel
theorem dX6_init_5 : decode cX6_init 5 = .ok (.sipush 132, 3) := by decide +kernel
theorem dX6_init_8 : decode cX6_init 8 = .ok (.newarray .int, 2) := by decide +kernel
theorem dX6_init_10 : decode cX6_init 10 = .ok (.putfield 7, 3) := by decide +kernel
theorem dX6_init_13 : decode cX6_init 13 = .ok (.aload_n 0, 1) := by decide +kernel
theorem dX6_init_14 : decode cX6_init 14 = .ok (.bipush 22, 2) := by decide +kernel
theorem dX6_init_16 : decode cX6_init 16 = .ok (.newarray .int, 2) := by decide +kernel
theorem dX6_init_18 : decode cX6_init 18 = .ok (.putfield 13, 3) := by decide +kernel
theorem dX6_init_21 : decode cX6_init 21 = .ok (.aload_n 0, 1) := by decide +kernel
theorem dX6_init_22 : decode cX6_init 22 = .ok (.sipush 160, 3) := by decide +kernel
theorem dX6_init_25 : decode cX6_init 25 = .ok (.newarray .int, 2) := by decide +kernel
theorem dX6_init_27 : decode cX6_init 27 = .ok (.putfield 16, 3) := by decide +kernel
theorem dX6_init_30 : decode cX6_init 30 = .ok (.aload_n 0, 1) := by decide +kernel
theorem dX6_init_31 : decode cX6_init 31 = .ok (.bipush 6, 2) := by decide +kernel
theorem dX6_init_33 : decode cX6_init 33 = .ok (.newarray .int, 2) := by decide +kernel
theorem dX6_init_35 : decode cX6_init 35 = .ok (.dup, 1) := by decide +kernel
theorem dX6_init_36 : decode cX6_init 36 = .ok (.iconst 0, 1) := by decide +kernel
theorem dX6_init_37 : decode cX6_init 37 = .ok (.iconst 0, 1) := by decide +kernel
theorem dX6_init_38 : decode cX6_init 38 = .ok (.iastore, 1) := by decide +kernel
theorem dX6_init_39 : decode cX6_init 39 = .ok (.dup, 1) := by decide +kernel
theorem dX6_init_40 : decode cX6_init 40 = .ok (.iconst 1, 1) := by decide +kernel
theorem dX6_init_41 : decode cX6_init 41 = .ok (.iconst 5, 1) := by decide +kernel
theorem dX6_init_42 : decode cX6_init 42 = .ok (.iastore, 1) := by decide +kernel
theorem dX6_init_43 : decode cX6_init 43 = .ok (.dup, 1) := by decide +kernel
theorem dX6_init_44 : decode cX6_init 44 = .ok (.iconst 2, 1) := by decide +kernel
theorem dX6_init_45 : decode cX6_init 45 = .ok (.bipush 10, 2) := by decide +kernel
theorem dX6_init_47 : decode cX6_init 47 = .ok (.iastore, 1) := by decide +kernel
theorem dX6_init_48 : decode cX6_init 48 = .ok (.dup, 1) := by decide +kernel
theorem dX6_init_49 : decode cX6_init 49 = .ok (.iconst 3, 1) := by decide +kernel
theorem dX6_init_50 : decode cX6_init 50 = .ok (.bipush 14, 2) := by decide +kernel
theorem dX6_init_52 : decode cX6_init 52 = .ok (.iastore, 1) := by decide +kernel
theorem dX6_init_53 : decode cX6_init 53 = .ok (.dup, 1) := by decide +kernel
theorem dX6_init_54 : decode cX6_init 54 = .ok (.iconst 4, 1) := by decide +kernel
theorem dX6_init_55 : decode cX6_init 55 = .ok (.bipush 18, 2) := by decide +kernel
theorem dX6_init_57 : decode cX6_init 57 = .ok (.iastore, 1) := by decide +kernel
theorem dX6_init_58 : decode cX6_init 58 = .ok (.dup, 1) := by decide +kernel
theorem dX6_init_59 : decode cX6_init 59 = .ok (.iconst 5, 1) := by decide +kernel
theorem dX6_init_60 : decode cX6_init 60 = .ok (.bipush 23, 2) := by decide +kernel
theorem dX6_init_62 : decode cX6_init 62 = .ok (.iastore, 1) := by decide +kernel
theorem dX6_init_63 : decode cX6_init 63 = .ok (.putfield 19, 3) := by decide +kernel
theorem dX6_init_66 : decode cX6_init 66 = .ok (.aload_n 0, 1) := by decide +kernel
theorem dX6_init_67 : decode cX6_init 67 = .ok (.bipush 23, 2) := by decide +kernel
theorem dX6_init_69 : decode cX6_init 69 = .ok (.newarray .int, 2) := by decide +kernel
theorem dX6_init_71 : decode cX6_init 71 = .ok (.dup, 1) := by decide +kernel
theorem dX6_init_72 : decode cX6_init 72 = .ok (.iconst 0, 1) := by decide +kernel
theorem dX6_init_73 : decode cX6_init 73 = .ok (.bipush 112, 2) := by decide +kernel
theorem dX6_init_75 : decode cX6_init 75 = .ok (.iastore, 1) := by decide +kernel
theorem dX6_init_76 : decode cX6_init 76 = .ok (.dup, 1) := by decide +kernel
theorem dX6_init_77 : decode cX6_init 77 = .ok (.iconst 1, 1) := by decide +kernel
theorem dX6_init_78 : decode cX6_init 78 = .ok (.bipush 108, 2) := by decide +kernel
theorem dX6_init_80 : decode cX6_init 80 = .ok (.iastore, 1) := by decide +kernel
theorem dX6_init_81 : decode cX6_init 81 = .ok (.dup, 1) := by decide +kernel
theorem dX6_init_82 : decode cX6_init 82 = .ok (.iconst 2, 1) := by decide +kernel
theorem dX6_init_83 : decode cX6_init 83 = .ok (.bipush 97, 2) := by decide +kernel
theorem dX6_init_85 : decode cX6_init 85 = .ok (.iastore, 1) := by decide +kernel
theorem dX6_init_86 : decode cX6_init 86 = .ok (.dup, 1) := by decide +kernel
theorem dX6_init_87 : decode cX6_init 87 = .ok (.iconst 3, 1) := by decide +kernel
theorem dX6_init_88 : decode cX6_init 88 = .ok (.bipush 105, 2) := by decide +kernel
theorem dX6_init_90 : decode cX6_init 90 = .ok (.iastore, 1) := by decide +kernel
theorem dX6_init_91 : decode cX6_init 91 = .ok (.dup, 1) := by decide +kernel
theorem dX6_init_92 : decode cX6_init 92 = .ok (.iconst 4, 1) := by decide +kernel
theorem dX6_init_93 : decode cX6_init 93 = .ok (.bipush 110, 2) := by decide +kernel
theorem dX6_init_95 : decode cX6_init 95 = .ok (.iastore, 1) := by decide +kernel
theorem dX6_init_96 : decode cX6_init 96 = .ok (.dup, 1) := by decide +kernel
theorem dX6_init_97 : decode cX6_init 97 = .ok (.iconst 5, 1) := by decide +kernel
theorem dX6_init_98 : decode cX6_init 98 = .ok (.bipush 104, 2) := by decide +kernel
theorem dX6_init_100 : decode cX6_init 100 = .ok (.iastore, 1) := by decide +kernel
theorem dX6_init_101 : decode cX6_init 101 = .ok (.dup, 1) := by decide +kernel
theorem dX6_init_102 : decode cX6_init 102 = .ok (.bipush 6, 2) := by decide +kernel
theorem dX6_init_104 : decode cX6_init 104 = .ok (.bipush 97, 2) := by decide +kernel
theorem dX6_init_106 : decode cX6_init 106 = .ok (.iastore, 1) := by decide +kernel
theorem dX6_init_107 : decode cX6_init 107 = .ok (.dup, 1) := by decide +kernel
theorem dX6_init_108 : decode cX6_init 108 = .ok (.bipush 7, 2) := by decide +kernel
theorem dX6_init_110 : decode cX6_init 110 = .ok (.bipush 115, 2) := by decide +kernel
theorem dX6_init_112 : decode cX6_init 112 = .ok (.iastore, 1) := by decide +kernel
theorem dX6_init_113 : decode cX6_init 113 = .ok (.dup, 1) := by decide +kernel
theorem dX6_init_114 : decode cX6_init 114 = .ok (.bipush 8, 2) := by decide +kernel
theorem dX6_init_116 : decode cX6_init 116 = .ok (.bipush 116, 2) := by decide +kernel
theorem dX6_init_118 : decode cX6_init 118 = .ok (.iastore, 1) := by decide +kernel
theorem dX6_init_119 : decode cX6_init 119 = .ok (.dup, 1) := by decide +kernel
theorem dX6_init_120 : decode cX6_init 120 = .ok (.bipush 9, 2) := by decide +kernel
theorem dX6_init_122 : decode cX6_init 122 = .ok (.bipush 121, 2) := by decide +kernel
theorem dX6_init_124 : decode cX6_init 124 = .ok (.iastore, 1) := by decide +kernel
theorem dX6_init_125 : decode cX6_init 125 = .ok (.dup, 1) := by decide +kernel
theorem dX6_init_126 : decode cX6_init 126 = .ok (.bipush 10, 2) := by decide +kernel
theorem dX6_init_128 : decode cX6_init 128 = .ok (.bipush 98, 2) := by decide +kernel
theorem dX6_init_130 : decode cX6_init 130 = .ok (.iastore, 1) := by decide +kernel
theorem dX6_init_131 : decode cX6_init 131 = .ok (.dup, 1) := by decide +kernel
theorem dX6_init_132 : decode cX6_init 132 = .ok (.bipush 11, 2) := by decide +kernel
theorem dX6_init_134 : decode cX6_init 134 = .ok (.bipush 97, 2) := by decide +kernel
theorem dX6_init_136 : decode cX6_init 136 = .ok (.iastore, 1) := by decide +kernel
theorem dX6_init_137 : decode cX6_init 137 = .ok (.dup, 1) := by decide +kernel
theorem dX6_init_138 : decode cX6_init 138 = .ok (.bipush 12, 2) := by decide +kernel
theorem dX6_init_140 : decode cX6_init 140 = .ok (.bipush 99, 2) := by decide +kernel
theorem dX6_init_142 : decode cX6_init 142 = .ok (.iastore, 1) := by decide +kernel
theorem dX6_init_143 : decode cX6_init 143 = .ok (.dup, 1) := by decide +kernel
theorem dX6_init_144 : decode cX6_init 144 = .ok (.bipush 13, 2) := by decide +kernel
theorem dX6_init_146 : decode cX6_init 146 = .ok (.bipush 107, 2) := by decide +kernel
theorem dX6_init_148 : decode cX6_init 148 = .ok (.iastore, 1) := by decide +kernel
theorem dX6_init_149 : decode cX6_init 149 = .ok (.dup, 1) := by decide +kernel
theorem dX6_init_150 : decode cX6_init 150 = .ok (.bipush 14, 2) := by decide +kernel
theorem dX6_init_152 : decode cX6_init 152 = .ok (.bipush 108, 2) := by decide +kernel
theorem dX6_init_154 : decode cX6_init 154 = .ok (.iastore, 1) := by decide +kernel
theorem dX6_init_155 : decode cX6_init 155 = .ok (.dup, 1) := by decide +kernel
theorem dX6_init_156 : decode cX6_init 156 = .ok (.bipush 15, 2) := by decide +kernel
theorem dX6_init_158 : decode cX6_init 158 = .ok (.bipush 97, 2) := by decide +kernel
theorem dX6_init_160 : decode cX6_init 160 = .ok (.iastore, 1) := by decide +kernel
theorem dX6_init_161 : decode cX6_init 161 = .ok (.dup, 1) := by decide +kernel
theorem dX6_init_162 : decode cX6_init 162 = .ok (.bipush 16, 2) := by decide +kernel
theorem dX6_init_164 : decode cX6_init 164 = .ok (.bipush 116, 2) := by decide +kernel
theorem dX6_init_166 : decode cX6_init 166 = .ok (.iastore, 1) := by decide +kernel
theorem dX6_init_167 : decode cX6_init 167 = .ok (.dup, 1) := by decide +kernel
theorem dX6_init_168 : decode cX6_init 168 = .ok (.bipush 17, 2) := by decide +kernel
theorem dX6_init_170 : decode cX6_init 170 = .ok (.bipush 101, 2) := by decide +kernel
theorem dX6_init_172 : decode cX6_init 172 = .ok (.iastore, 1) := by decide +kernel
theorem dX6_init_173 : decode cX6_init 173 = .ok (.dup, 1) := by decide +kernel
theorem dX6_init_174 : decode cX6_init 174 = .ok (.bipush 18, 2) := by decide +kernel
theorem dX6_init_176 : decode cX6_init 176 = .ok (.bipush 99, 2) := by decide +kernel
theorem dX6_init_178 : decode cX6_init 178 = .ok (.iastore, 1) := by decide +kernel
theorem dX6_init_179 : decode cX6_init 179 = .ok (.dup, 1) := by decide +kernel
theorem dX6_init_180 : decode cX6_init 180 = .ok (.bipush 19, 2) := by decide +kernel
theorem dX6_init_182 : decode cX6_init 182 = .ok (.bipush 111, 2) := by decide +kernel
theorem dX6_init_184 : decode cX6_init 184 = .ok (.iastore, 1) := by decide +kernel
theorem dX6_init_185 : decode cX6_init 185 = .ok (.dup, 1) := by decide +kernel
theorem dX6_init_186 : decode cX6_init 186 = .ok (.bipush 20, 2) := by decide +kernel
theorem dX6_init_188 : decode cX6_init 188 = .ok (.bipush 117, 2) := by decide +kernel
theorem dX6_init_190 : decode cX6_init 190 = .ok (.iastore, 1) := by decide +kernel
theorem dX6_init_191 : decode cX6_init 191 = .ok (.dup, 1) := by decide +kernel
theorem dX6_init_192 : decode cX6_init 192 = .ok (.bipush 21, 2) := by decide +kernel
theorem dX6_init_194 : decode cX6_init 194 = .ok (.bipush 110, 2) := by decide +kernel
theorem dX6_init_196 : decode cX6_init 196 = .ok (.iastore, 1) := by decide +kernel
theorem dX6_init_197 : decode cX6_init 197 = .ok (.dup, 1) := by decide +kernel
theorem dX6_init_198 : decode cX6_init 198 = .ok (.bipush 22, 2) := by decide +kernel
theorem dX6_init_200 : decode cX6_init 200 = .ok (.bipush 116, 2) := by decide +kernel
theorem dX6_init_202 : decode cX6_init 202 = .ok (.iastore, 1) := by decide +kernel
theorem dX6_init_203 : decode cX6_init 203 = .ok (.putfield 22, 3) := by decide +kernel
theorem dX6_init_206 : decode cX6_init 206 = .ok (.aload_n 0, 1) := by decide +kernel
theorem dX6_init_207 : decode cX6_init 207 = .ok (.bipush 12, 2) := by decide +kernel
theorem dX6_init_209 : decode cX6_init 209 = .ok (.newarray .int, 2) := by decide +kernel
theorem dX6_init_211 : decode cX6_init 211 = .ok (.putfield 25, 3) := by decide +kernel
theorem dX6_init_214 : decode cX6_init 214 = .ok (.aload_n 0, 1) := by decide +kernel
theorem dX6_init_215 : decode cX6_init 215 = .ok (.sipush 2613, 3) := by decide +kernel
theorem dX6_init_218 : decode cX6_init 218 = .ok (.newarray .int, 2) := by decide +kernel
theorem dX6_init_220 : decode cX6_init 220 = .ok (.putfield 28, 3) := by decide +kernel
theorem dX6_init_223 : decode cX6_init 223 = .ok (.aload_n 0, 1) := by decide +kernel
theorem dX6_init_224 : decode cX6_init 224 = .ok (.iconst 2, 1) := by decide +kernel
theorem dX6_init_225 : decode cX6_init 225 = .ok (.newarray .boolean, 2) := by decide +kernel
theorem dX6_init_227 : decode cX6_init 227 = .ok (.putfield 31, 3) := by decide +kernel
theorem dX6_init_230 : decode cX6_init 230 = .ok (.aload_n 0, 1) := by decide +kernel
theorem dX6_init_231 : decode cX6_init 231 = .ok (.iconst 4, 1) := by decide +kernel
theorem dX6_init_232 : decode cX6_init 232 = .ok (.newarray .int, 2) := by decide +kernel
theorem dX6_init_234 : decode cX6_init 234 = .ok (.dup, 1) := by decide +kernel
theorem dX6_init_235 : decode cX6_init 235 = .ok (.iconst 0, 1) := by decide +kernel
theorem dX6_init_236 : decode cX6_init 236 = .ok (.bipush (-4), 2) := by decide +kernel
theorem dX6_init_238 : decode cX6_init 238 = .ok (.iastore, 1) := by decide +kernel
theorem dX6_init_239 : decode cX6_init 239 = .ok (.dup, 1) := by decide +kernel
theorem dX6_init_240 : decode cX6_init 240 = .ok (.iconst 1, 1) := by decide +kernel
theorem dX6_init_241 : decode cX6_init 241 = .ok (.bipush (-4), 2) := by decide +kernel
theorem dX6_init_243 : decode cX6_init 243 = .ok (.iastore, 1) := by decide +kernel
theorem dX6_init_244 : decode cX6_init 244 = .ok (.dup, 1) := by decide +kernel
theorem dX6_init_245 : decode cX6_init 245 = .ok (.iconst 2, 1) := by decide +kernel
theorem dX6_init_246 : decode cX6_init 246 = .ok (.bipush (-4), 2) := by decide +kernel
theorem dX6_init_248 : decode cX6_init 248 = .ok (.iastore, 1) := by decide +kernel
theorem dX6_init_249 : decode cX6_init 249 = .ok (.dup, 1) := by decide +kernel
theorem dX6_init_250 : decode cX6_init 250 = .ok (.iconst 3, 1) := by decide +kernel
theorem dX6_init_251 : decode cX6_init 251 = .ok (.bipush (-4), 2) := by decide +kernel
theorem dX6_init_253 : decode cX6_init 253 = .ok (.iastore, 1) := by decide +kernel
theorem dX6_init_254 : decode cX6_init 254 = .ok (.putfield 35, 3) := by decide +kernel
theorem dX6_init_257 : decode cX6_init 257 = .ok (.aload_n 0, 1) := by decide +kernel
theorem dX6_init_258 : decode cX6_init 258 = .ok (.iconst 4, 1) := by decide +kernel
theorem dX6_init_259 : decode cX6_init 259 = .ok (.newarray .int, 2) := by decide +kernel
theorem dX6_init_261 : decode cX6_init 261 = .ok (.putfield 38, 3) := by decide +kernel
theorem dX6_init_264 : decode cX6_init 264 = .ok (.aload_n 0, 1) := by decide +kernel
theorem dX6_init_265 : decode cX6_init 265 = .ok (.sipush 160, 3) := by decide +kernel
theorem dX6_init_268 : decode cX6_init 268 = .ok (.newarray .int, 2) := by decide +kernel
theorem dX6_init_270 : decode cX6_init 270 = .ok (.putfield 41, 3) := by decide +kernel
theorem dX6_init_273 : decode cX6_init 273 = .ok (.return_, 1) := by decide +kernel
theorem dX6_in_0 : decode cX6_in 0 = .ok (.lload_n 0, 1) := by decide +kernel
theorem dX6_in_1 : decode cX6_in 1 = .ok (.lload_n 2, 1) := by decide +kernel
theorem dX6_in_2 : decode cX6_in 2 = .ok (.lcmp, 1) := by decide +kernel
theorem dX6_in_3 : decode cX6_in 3 = .ok (.ifCond .lt 14, 3) := by decide +kernel
theorem dX6_in_6 : decode cX6_in 6 = .ok (.lload_n 0, 1) := by decide +kernel
theorem dX6_in_7 : decode cX6_in 7 = .ok (.lload 4, 2) := by decide +kernel
theorem dX6_in_9 : decode cX6_in 9 = .ok (.lcmp, 1) := by decide +kernel
theorem dX6_in_10 : decode cX6_in 10 = .ok (.ifCond .gt 7, 3) := by decide +kernel
theorem dX6_in_13 : decode cX6_in 13 = .ok (.iconst 1, 1) := by decide +kernel
theorem dX6_in_14 : decode cX6_in 14 = .ok (.goto 4, 3) := by decide +kernel
theorem dX6_in_17 : decode cX6_in 17 = .ok (.iconst 0, 1) := by decide +kernel
theorem dX6_in_18 : decode cX6_in 18 = .ok (.ireturn, 1) := by decide +kernel
theorem dX6_feed_0 : decode cX6_feed 0 = .ok (.iload_n 1, 1) := by decide +kernel
theorem dX6_feed_1 : decode cX6_feed 1 = .ok (.i2l, 1) := by decide +kernel
theorem dX6_feed_2 : decode cX6_feed 2 = .ok (.lconst 0, 1) := by decide +kernel
theorem dX6_feed_3 : decode cX6_feed 3 = .ok (.ldc2_w 44, 3) := by decide +kernel
theorem dX6_feed_6 : decode cX6_feed 6 = .ok (.invokestatic 46, 3) := by decide +kernel
theorem dX6_feed_9 : decode cX6_feed 9 = .ok (.ifCond .ne 5, 3) := by decide +kernel
theorem dX6_feed_12 : decode cX6_feed 12 = .ok (.iconst (-1), 1) := by decide +kernel
theorem dX6_feed_13 : decode cX6_feed 13 = .ok (.ireturn, 1) := by decide +kernel
theorem dX6_feed_14 : decode cX6_feed 14 = .ok (.aload_n 0, 1) := by decide +kernel
theorem dX6_feed_15 : decode cX6_feed 15 = .ok (.getfield 50, 3) := by decide +kernel
theorem dX6_feed_18 : decode cX6_feed 18 = .ok (.sipush 160, 3) := by decide +kernel
theorem dX6_feed_21 : decode cX6_feed 21 = .ok (.if_icmp .ne 6, 3) := by decide +kernel
theorem dX6_feed_24 : decode cX6_feed 24 = .ok (.bipush (-3), 2) := by decide +kernel
theorem dX6_feed_26 : decode cX6_feed 26 = .ok (.ireturn, 1) := by decide +kernel
theorem dX6_feed_27 : decode cX6_feed 27 = .ok (.aload_n 0, 1) := by decide +kernel
theorem dX6_feed_28 : decode cX6_feed 28 = .ok (.getfield 16, 3) := by decide +kernel
theorem dX6_feed_31 : decode cX6_feed 31 = .ok (.aload_n 0, 1) := by decide +kernel
theorem dX6_feed_32 : decode cX6_feed 32 = .ok (.getfield 50, 3) := by decide +kernel
theorem dX6_feed_35 : decode cX6_feed 35 = .ok (.iload_n 1, 1) := by decide +kernel
theorem dX6_feed_36 : decode cX6_feed 36 = .ok (.iastore, 1) := by decide +kernel
theorem dX6_feed_37 : decode cX6_feed 37 = .ok (.aload_n 0, 1) := by decide +kernel
theorem dX6_feed_38 : decode cX6_feed 38 = .ok (.dup, 1) := by decide +kernel
theorem dX6_feed_39 : decode cX6_feed 39 = .ok (.getfield 50, 3) := by decide +kernel
theorem dX6_feed_42 : decode cX6_feed 42 = .ok (.iconst 1, 1) := by decide +kernel
theorem dX6_feed_43 : decode cX6_feed 43 = .ok (.iadd, 1) := by decide +kernel
theorem dX6_feed_44 : decode cX6_feed 44 = .ok (.putfield 50, 3) := by decide +kernel
theorem dX6_feed_47 : decode cX6_feed 47 = .ok (.aload_n 0, 1) := by decide +kernel
theorem dX6_feed_48 : decode cX6_feed 48 = .ok (.getfield 50, 3) := by decide +kernel
theorem dX6_feed_51 : decode cX6_feed 51 = .ok (.ireturn, 1) := by decide +kernel
theorem dX6_end_0 : decode cX6_end 0 = .ok (.iload_n 1, 1) := by decide +kernel
theorem dX6_end_1 : decode cX6_end 1 = .ok (.i2l, 1) := by decide +kernel
theorem dX6_end_2 : decode cX6_end 2 = .ok (.lconst 0, 1) := by decide +kernel
theorem dX6_end_3 : decode cX6_end 3 = .ok (.aload_n 0, 1) := by decide +kernel
theorem dX6_end_4 : decode cX6_end 4 = .ok (.getfield 50, 3) := by decide +kernel
theorem dX6_end_7 : decode cX6_end 7 = .ok (.i2l, 1) := by decide +kernel
theorem dX6_end_8 : decode cX6_end 8 = .ok (.invokestatic 46, 3) := by decide +kernel
theorem dX6_end_11 : decode cX6_end 11 = .ok (.ifCond .ne 5, 3) := by decide +kernel
theorem dX6_end_14 : decode cX6_end 14 = .ok (.iconst (-1), 1) := by decide +kernel
theorem dX6_end_15 : decode cX6_end 15 = .ok (.ireturn, 1) := by decide +kernel
theorem dX6_end_16 : decode cX6_end 16 = .ok (.aload_n 0, 1) := by decide +kernel
theorem dX6_end_17 : decode cX6_end 17 = .ok (.getfield 50, 3) := by decide +kernel
theorem dX6_end_20 : decode cX6_end 20 = .ok (.istore_n 2, 1) := by decide +kernel
theorem dX6_end_21 : decode cX6_end 21 = .ok (.aload_n 0, 1) := by decide +kernel
theorem dX6_end_22 : decode cX6_end 22 = .ok (.iload_n 1, 1) := by decide +kernel
theorem dX6_end_23 : decode cX6_end 23 = .ok (.putfield 50, 3) := by decide +kernel
theorem dX6_end_26 : decode cX6_end 26 = .ok (.iload_n 2, 1) := by decide +kernel
theorem dX6_end_27 : decode cX6_end 27 = .ok (.ireturn, 1) := by decide +kernel
theorem dX6_byteAt_0 : decode cX6_byteAt 0 = .ok (.iload_n 1, 1) := by decide +kernel
theorem dX6_byteAt_1 : decode cX6_byteAt 1 = .ok (.aload_n 0, 1) := by decide +kernel
theorem dX6_byteAt_2 : decode cX6_byteAt 2 = .ok (.getfield 50, 3) := by decide +kernel
theorem dX6_byteAt_5 : decode cX6_byteAt 5 = .ok (.if_icmp .ge 12, 3) := by decide +kernel
theorem dX6_byteAt_8 : decode cX6_byteAt 8 = .ok (.aload_n 0, 1) := by decide +kernel
theorem dX6_byteAt_9 : decode cX6_byteAt 9 = .ok (.getfield 16, 3) := by decide +kernel
theorem dX6_byteAt_12 : decode cX6_byteAt 12 = .ok (.iload_n 1, 1) := by decide +kernel
theorem dX6_byteAt_13 : decode cX6_byteAt 13 = .ok (.iaload, 1) := by decide +kernel
theorem dX6_byteAt_14 : decode cX6_byteAt 14 = .ok (.goto 5, 3) := by decide +kernel
theorem dX6_byteAt_17 : decode cX6_byteAt 17 = .ok (.bipush (-4), 2) := by decide +kernel
theorem dX6_byteAt_19 : decode cX6_byteAt 19 = .ok (.ireturn, 1) := by decide +kernel
theorem dX6_fails_0 : decode cX6_fails 0 = .ok (.aload_n 0, 1) := by decide +kernel
theorem dX6_fails_1 : decode cX6_fails 1 = .ok (.getfield 54, 3) := by decide +kernel
theorem dX6_fails_4 : decode cX6_fails 4 = .ok (.ifCond .ne 16, 3) := by decide +kernel
theorem dX6_fails_7 : decode cX6_fails 7 = .ok (.aload_n 0, 1) := by decide +kernel
theorem dX6_fails_8 : decode cX6_fails 8 = .ok (.iload_n 1, 1) := by decide +kernel
theorem dX6_fails_9 : decode cX6_fails 9 = .ok (.putfield 54, 3) := by decide +kernel
theorem dX6_fails_12 : decode cX6_fails 12 = .ok (.aload_n 0, 1) := by decide +kernel
theorem dX6_fails_13 : decode cX6_fails 13 = .ok (.aload_n 0, 1) := by decide +kernel
theorem dX6_fails_14 : decode cX6_fails 14 = .ok (.getfield 57, 3) := by decide +kernel
theorem dX6_fails_17 : decode cX6_fails 17 = .ok (.putfield 60, 3) := by decide +kernel
theorem dX6_fails_20 : decode cX6_fails 20 = .ok (.return_, 1) := by decide +kernel
theorem dX6_nameHere_0 : decode cX6_nameHere 0 = .ok (.iconst 0, 1) := by decide +kernel
theorem dX6_nameHere_1 : decode cX6_nameHere 1 = .ok (.istore_n 1, 1) := by decide +kernel
theorem dX6_nameHere_2 : decode cX6_nameHere 2 = .ok (.iload_n 1, 1) := by decide +kernel
theorem dX6_nameHere_3 : decode cX6_nameHere 3 = .ok (.iconst 5, 1) := by decide +kernel
theorem dX6_nameHere_4 : decode cX6_nameHere 4 = .ok (.if_icmp .ge 113, 3) := by decide +kernel
theorem dX6_nameHere_7 : decode cX6_nameHere 7 = .ok (.aload_n 0, 1) := by decide +kernel
theorem dX6_nameHere_8 : decode cX6_nameHere 8 = .ok (.getfield 63, 3) := by decide +kernel
theorem dX6_nameHere_11 : decode cX6_nameHere 11 = .ok (.iconst 1, 1) := by decide +kernel
theorem dX6_nameHere_12 : decode cX6_nameHere 12 = .ok (.if_icmp .ne 105, 3) := by decide +kernel
theorem dX6_nameHere_15 : decode cX6_nameHere 15 = .ok (.aload_n 0, 1) := by decide +kernel
theorem dX6_nameHere_16 : decode cX6_nameHere 16 = .ok (.getfield 66, 3) := by decide +kernel
theorem dX6_nameHere_19 : decode cX6_nameHere 19 = .ok (.aload_n 0, 1) := by decide +kernel
theorem dX6_nameHere_20 : decode cX6_nameHere 20 = .ok (.getfield 57, 3) := by decide +kernel
theorem dX6_nameHere_23 : decode cX6_nameHere 23 = .ok (.isub, 1) := by decide +kernel
theorem dX6_nameHere_24 : decode cX6_nameHere 24 = .ok (.aload_n 0, 1) := by decide +kernel
theorem dX6_nameHere_25 : decode cX6_nameHere 25 = .ok (.getfield 19, 3) := by decide +kernel
theorem dX6_nameHere_28 : decode cX6_nameHere 28 = .ok (.iload_n 1, 1) := by decide +kernel
theorem dX6_nameHere_29 : decode cX6_nameHere 29 = .ok (.iconst 1, 1) := by decide +kernel
theorem dX6_nameHere_30 : decode cX6_nameHere 30 = .ok (.iadd, 1) := by decide +kernel
theorem dX6_nameHere_31 : decode cX6_nameHere 31 = .ok (.iaload, 1) := by decide +kernel
theorem dX6_nameHere_32 : decode cX6_nameHere 32 = .ok (.aload_n 0, 1) := by decide +kernel
theorem dX6_nameHere_33 : decode cX6_nameHere 33 = .ok (.getfield 19, 3) := by decide +kernel
theorem dX6_nameHere_36 : decode cX6_nameHere 36 = .ok (.iload_n 1, 1) := by decide +kernel
theorem dX6_nameHere_37 : decode cX6_nameHere 37 = .ok (.iaload, 1) := by decide +kernel
theorem dX6_nameHere_38 : decode cX6_nameHere 38 = .ok (.isub, 1) := by decide +kernel
theorem dX6_nameHere_39 : decode cX6_nameHere 39 = .ok (.if_icmp .ne 7, 3) := by decide +kernel
theorem dX6_nameHere_42 : decode cX6_nameHere 42 = .ok (.iconst 1, 1) := by decide +kernel
theorem dX6_nameHere_43 : decode cX6_nameHere 43 = .ok (.goto 4, 3) := by decide +kernel
theorem dX6_nameHere_46 : decode cX6_nameHere 46 = .ok (.iconst 0, 1) := by decide +kernel
theorem dX6_nameHere_47 : decode cX6_nameHere 47 = .ok (.istore_n 2, 1) := by decide +kernel
theorem dX6_nameHere_48 : decode cX6_nameHere 48 = .ok (.iconst 0, 1) := by decide +kernel
theorem dX6_nameHere_49 : decode cX6_nameHere 49 = .ok (.istore_n 3, 1) := by decide +kernel
theorem dX6_nameHere_50 : decode cX6_nameHere 50 = .ok (.iload_n 2, 1) := by decide +kernel
theorem dX6_nameHere_51 : decode cX6_nameHere 51 = .ok (.ifCond .eq 54, 3) := by decide +kernel
theorem dX6_nameHere_54 : decode cX6_nameHere 54 = .ok (.iload_n 3, 1) := by decide +kernel
theorem dX6_nameHere_55 : decode cX6_nameHere 55 = .ok (.aload_n 0, 1) := by decide +kernel
theorem dX6_nameHere_56 : decode cX6_nameHere 56 = .ok (.getfield 66, 3) := by decide +kernel
theorem dX6_nameHere_59 : decode cX6_nameHere 59 = .ok (.aload_n 0, 1) := by decide +kernel
theorem dX6_nameHere_60 : decode cX6_nameHere 60 = .ok (.getfield 57, 3) := by decide +kernel
theorem dX6_nameHere_63 : decode cX6_nameHere 63 = .ok (.isub, 1) := by decide +kernel
theorem dX6_nameHere_64 : decode cX6_nameHere 64 = .ok (.if_icmp .ge 41, 3) := by decide +kernel
theorem dX6_nameHere_67 : decode cX6_nameHere 67 = .ok (.aload_n 0, 1) := by decide +kernel
theorem dX6_nameHere_68 : decode cX6_nameHere 68 = .ok (.aload_n 0, 1) := by decide +kernel
theorem dX6_nameHere_69 : decode cX6_nameHere 69 = .ok (.getfield 57, 3) := by decide +kernel
theorem dX6_nameHere_72 : decode cX6_nameHere 72 = .ok (.iload_n 3, 1) := by decide +kernel
theorem dX6_nameHere_73 : decode cX6_nameHere 73 = .ok (.iadd, 1) := by decide +kernel
theorem dX6_nameHere_74 : decode cX6_nameHere 74 = .ok (.invokevirtual 69, 3) := by decide +kernel
theorem dX6_nameHere_77 : decode cX6_nameHere 77 = .ok (.aload_n 0, 1) := by decide +kernel
theorem dX6_nameHere_78 : decode cX6_nameHere 78 = .ok (.getfield 22, 3) := by decide +kernel
theorem dX6_nameHere_81 : decode cX6_nameHere 81 = .ok (.aload_n 0, 1) := by decide +kernel
theorem dX6_nameHere_82 : decode cX6_nameHere 82 = .ok (.getfield 19, 3) := by decide +kernel
theorem dX6_nameHere_85 : decode cX6_nameHere 85 = .ok (.iload_n 1, 1) := by decide +kernel
theorem dX6_nameHere_86 : decode cX6_nameHere 86 = .ok (.iaload, 1) := by decide +kernel
theorem dX6_nameHere_87 : decode cX6_nameHere 87 = .ok (.iload_n 3, 1) := by decide +kernel
theorem dX6_nameHere_88 : decode cX6_nameHere 88 = .ok (.iadd, 1) := by decide +kernel
theorem dX6_nameHere_89 : decode cX6_nameHere 89 = .ok (.iaload, 1) := by decide +kernel
theorem dX6_nameHere_90 : decode cX6_nameHere 90 = .ok (.if_icmp .ne 7, 3) := by decide +kernel
theorem dX6_nameHere_93 : decode cX6_nameHere 93 = .ok (.iconst 1, 1) := by decide +kernel
theorem dX6_nameHere_94 : decode cX6_nameHere 94 = .ok (.goto 4, 3) := by decide +kernel
theorem dX6_nameHere_97 : decode cX6_nameHere 97 = .ok (.iconst 0, 1) := by decide +kernel
theorem dX6_nameHere_98 : decode cX6_nameHere 98 = .ok (.istore_n 2, 1) := by decide +kernel
theorem dX6_nameHere_99 : decode cX6_nameHere 99 = .ok (.iinc 3 1, 3) := by decide +kernel
theorem dX6_nameHere_102 : decode cX6_nameHere 102 = .ok (.goto (-52), 3) := by decide +kernel
theorem dX6_nameHere_105 : decode cX6_nameHere 105 = .ok (.iload_n 2, 1) := by decide +kernel
theorem dX6_nameHere_106 : decode cX6_nameHere 106 = .ok (.ifCond .eq 5, 3) := by decide +kernel
theorem dX6_nameHere_109 : decode cX6_nameHere 109 = .ok (.iload_n 1, 1) := by decide +kernel
theorem dX6_nameHere_110 : decode cX6_nameHere 110 = .ok (.ireturn, 1) := by decide +kernel
theorem dX6_nameHere_111 : decode cX6_nameHere 111 = .ok (.iinc 1 1, 3) := by decide +kernel
theorem dX6_nameHere_114 : decode cX6_nameHere 114 = .ok (.goto (-112), 3) := by decide +kernel
theorem dX6_nameHere_117 : decode cX6_nameHere 117 = .ok (.bipush (-4), 2) := by decide +kernel
theorem dX6_nameHere_119 : decode cX6_nameHere 119 = .ok (.ireturn, 1) := by decide +kernel
theorem dX6_step_0 : decode cX6_step 0 = .ok (.aload_n 0, 1) := by decide +kernel
theorem dX6_step_1 : decode cX6_step 1 = .ok (.getfield 54, 3) := by decide +kernel
theorem dX6_step_4 : decode cX6_step 4 = .ok (.ifCond .le 4, 3) := by decide +kernel
theorem dX6_step_7 : decode cX6_step 7 = .ok (.return_, 1) := by decide +kernel
theorem dX6_step_8 : decode cX6_step 8 = .ok (.aload_n 0, 1) := by decide +kernel
theorem dX6_step_9 : decode cX6_step 9 = .ok (.aload_n 0, 1) := by decide +kernel
theorem dX6_step_10 : decode cX6_step 10 = .ok (.getfield 66, 3) := by decide +kernel
theorem dX6_step_13 : decode cX6_step 13 = .ok (.invokevirtual 69, 3) := by decide +kernel
theorem dX6_step_16 : decode cX6_step 16 = .ok (.bipush 32, 2) := by decide +kernel
theorem dX6_step_18 : decode cX6_step 18 = .ok (.if_icmp .ne 16, 3) := by decide +kernel
theorem dX6_step_21 : decode cX6_step 21 = .ok (.aload_n 0, 1) := by decide +kernel
theorem dX6_step_22 : decode cX6_step 22 = .ok (.dup, 1) := by decide +kernel
theorem dX6_step_23 : decode cX6_step 23 = .ok (.getfield 66, 3) := by decide +kernel
theorem dX6_step_26 : decode cX6_step 26 = .ok (.iconst 1, 1) := by decide +kernel
theorem dX6_step_27 : decode cX6_step 27 = .ok (.iadd, 1) := by decide +kernel
theorem dX6_step_28 : decode cX6_step 28 = .ok (.putfield 66, 3) := by decide +kernel
theorem dX6_step_31 : decode cX6_step 31 = .ok (.goto (-23), 3) := by decide +kernel
theorem dX6_step_34 : decode cX6_step 34 = .ok (.aload_n 0, 1) := by decide +kernel
theorem dX6_step_35 : decode cX6_step 35 = .ok (.aload_n 0, 1) := by decide +kernel
theorem dX6_step_36 : decode cX6_step 36 = .ok (.getfield 66, 3) := by decide +kernel
theorem dX6_step_39 : decode cX6_step 39 = .ok (.putfield 57, 3) := by decide +kernel
theorem dX6_step_42 : decode cX6_step 42 = .ok (.aload_n 0, 1) := by decide +kernel
theorem dX6_step_43 : decode cX6_step 43 = .ok (.aload_n 0, 1) := by decide +kernel
theorem dX6_step_44 : decode cX6_step 44 = .ok (.getfield 66, 3) := by decide +kernel
theorem dX6_step_47 : decode cX6_step 47 = .ok (.invokevirtual 69, 3) := by decide +kernel
theorem dX6_step_50 : decode cX6_step 50 = .ok (.istore_n 1, 1) := by decide +kernel
theorem dX6_step_51 : decode cX6_step 51 = .ok (.aload_n 0, 1) := by decide +kernel
theorem dX6_step_52 : decode cX6_step 52 = .ok (.iconst 0, 1) := by decide +kernel
theorem dX6_step_53 : decode cX6_step 53 = .ok (.putfield 73, 3) := by decide +kernel
theorem dX6_step_56 : decode cX6_step 56 = .ok (.iload_n 1, 1) := by decide +kernel
theorem dX6_step_57 : decode cX6_step 57 = .ok (.bipush (-4), 2) := by decide +kernel
theorem dX6_step_59 : decode cX6_step 59 = .ok (.if_icmp .ne 11, 3) := by decide +kernel
theorem dX6_step_62 : decode cX6_step 62 = .ok (.aload_n 0, 1) := by decide +kernel
theorem dX6_step_63 : decode cX6_step 63 = .ok (.iconst 0, 1) := by decide +kernel
theorem dX6_step_64 : decode cX6_step 64 = .ok (.putfield 63, 3) := by decide +kernel
theorem dX6_step_67 : decode cX6_step 67 = .ok (.goto 202, 3) := by decide +kernel
theorem dX6_step_70 : decode cX6_step 70 = .ok (.iload_n 1, 1) := by decide +kernel
theorem dX6_step_71 : decode cX6_step 71 = .ok (.i2l, 1) := by decide +kernel
theorem dX6_step_72 : decode cX6_step 72 = .ok (.ldc2_w 76, 3) := by decide +kernel
theorem dX6_step_75 : decode cX6_step 75 = .ok (.ldc2_w 78, 3) := by decide +kernel
theorem dX6_step_78 : decode cX6_step 78 = .ok (.invokestatic 46, 3) := by decide +kernel
theorem dX6_step_81 : decode cX6_step 81 = .ok (.ifCond .eq 45, 3) := by decide +kernel
theorem dX6_step_84 : decode cX6_step 84 = .ok (.aload_n 0, 1) := by decide +kernel
theorem dX6_step_85 : decode cX6_step 85 = .ok (.aload_n 0, 1) := by decide +kernel
theorem dX6_step_86 : decode cX6_step 86 = .ok (.getfield 66, 3) := by decide +kernel
theorem dX6_step_89 : decode cX6_step 89 = .ok (.invokevirtual 69, 3) := by decide +kernel
theorem dX6_step_92 : decode cX6_step 92 = .ok (.i2l, 1) := by decide +kernel
theorem dX6_step_93 : decode cX6_step 93 = .ok (.ldc2_w 76, 3) := by decide +kernel
theorem dX6_step_96 : decode cX6_step 96 = .ok (.ldc2_w 78, 3) := by decide +kernel
theorem dX6_step_99 : decode cX6_step 99 = .ok (.invokestatic 46, 3) := by decide +kernel
theorem dX6_step_102 : decode cX6_step 102 = .ok (.ifCond .eq 16, 3) := by decide +kernel
theorem dX6_step_105 : decode cX6_step 105 = .ok (.aload_n 0, 1) := by decide +kernel
theorem dX6_step_106 : decode cX6_step 106 = .ok (.dup, 1) := by decide +kernel
theorem dX6_step_107 : decode cX6_step 107 = .ok (.getfield 66, 3) := by decide +kernel
theorem dX6_step_110 : decode cX6_step 110 = .ok (.iconst 1, 1) := by decide +kernel
theorem dX6_step_111 : decode cX6_step 111 = .ok (.iadd, 1) := by decide +kernel
theorem dX6_step_112 : decode cX6_step 112 = .ok (.putfield 66, 3) := by decide +kernel
theorem dX6_step_115 : decode cX6_step 115 = .ok (.goto (-31), 3) := by decide +kernel
theorem dX6_step_118 : decode cX6_step 118 = .ok (.aload_n 0, 1) := by decide +kernel
theorem dX6_step_119 : decode cX6_step 119 = .ok (.iconst 1, 1) := by decide +kernel
theorem dX6_step_120 : decode cX6_step 120 = .ok (.putfield 63, 3) := by decide +kernel
theorem dX6_step_123 : decode cX6_step 123 = .ok (.goto 146, 3) := by decide +kernel
theorem dX6_step_126 : decode cX6_step 126 = .ok (.iload_n 1, 1) := by decide +kernel
theorem dX6_step_127 : decode cX6_step 127 = .ok (.i2l, 1) := by decide +kernel
theorem dX6_step_128 : decode cX6_step 128 = .ok (.ldc2_w 80, 3) := by decide +kernel
theorem dX6_step_131 : decode cX6_step 131 = .ok (.ldc2_w 82, 3) := by decide +kernel
theorem dX6_step_134 : decode cX6_step 134 = .ok (.invokestatic 46, 3) := by decide +kernel
theorem dX6_step_137 : decode cX6_step 137 = .ok (.ifCond .eq 106, 3) := by decide +kernel
theorem dX6_step_140 : decode cX6_step 140 = .ok (.aload_n 0, 1) := by decide +kernel
theorem dX6_step_141 : decode cX6_step 141 = .ok (.aload_n 0, 1) := by decide +kernel
theorem dX6_step_142 : decode cX6_step 142 = .ok (.getfield 66, 3) := by decide +kernel
theorem dX6_step_145 : decode cX6_step 145 = .ok (.invokevirtual 69, 3) := by decide +kernel
theorem dX6_step_148 : decode cX6_step 148 = .ok (.i2l, 1) := by decide +kernel
theorem dX6_step_149 : decode cX6_step 149 = .ok (.ldc2_w 80, 3) := by decide +kernel
theorem dX6_step_152 : decode cX6_step 152 = .ok (.ldc2_w 82, 3) := by decide +kernel
theorem dX6_step_155 : decode cX6_step 155 = .ok (.invokestatic 46, 3) := by decide +kernel
theorem dX6_step_158 : decode cX6_step 158 = .ok (.ifCond .eq 59, 3) := by decide +kernel
theorem dX6_step_161 : decode cX6_step 161 = .ok (.aload_n 0, 1) := by decide +kernel
theorem dX6_step_162 : decode cX6_step 162 = .ok (.aload_n 0, 1) := by decide +kernel
theorem dX6_step_163 : decode cX6_step 163 = .ok (.getfield 66, 3) := by decide +kernel
theorem dX6_step_166 : decode cX6_step 166 = .ok (.aload_n 0, 1) := by decide +kernel
theorem dX6_step_167 : decode cX6_step 167 = .ok (.getfield 57, 3) := by decide +kernel
theorem dX6_step_170 : decode cX6_step 170 = .ok (.isub, 1) := by decide +kernel
theorem dX6_step_171 : decode cX6_step 171 = .ok (.iconst 2, 1) := by decide +kernel
theorem dX6_step_172 : decode cX6_step 172 = .ok (.if_icmp .ge 25, 3) := by decide +kernel
theorem dX6_step_175 : decode cX6_step 175 = .ok (.bipush 10, 2) := by decide +kernel
theorem dX6_step_177 : decode cX6_step 177 = .ok (.aload_n 0, 1) := by decide +kernel
theorem dX6_step_178 : decode cX6_step 178 = .ok (.getfield 73, 3) := by decide +kernel
theorem dX6_step_181 : decode cX6_step 181 = .ok (.imul, 1) := by decide +kernel
theorem dX6_step_182 : decode cX6_step 182 = .ok (.aload_n 0, 1) := by decide +kernel
theorem dX6_step_183 : decode cX6_step 183 = .ok (.aload_n 0, 1) := by decide +kernel
theorem dX6_step_184 : decode cX6_step 184 = .ok (.getfield 66, 3) := by decide +kernel
theorem dX6_step_187 : decode cX6_step 187 = .ok (.invokevirtual 69, 3) := by decide +kernel
theorem dX6_step_190 : decode cX6_step 190 = .ok (.iadd, 1) := by decide +kernel
theorem dX6_step_191 : decode cX6_step 191 = .ok (.bipush 48, 2) := by decide +kernel
theorem dX6_step_193 : decode cX6_step 193 = .ok (.isub, 1) := by decide +kernel
theorem dX6_step_194 : decode cX6_step 194 = .ok (.goto 7, 3) := by decide +kernel
theorem dX6_step_197 : decode cX6_step 197 = .ok (.aload_n 0, 1) := by decide +kernel
theorem dX6_step_198 : decode cX6_step 198 = .ok (.getfield 73, 3) := by decide +kernel
theorem dX6_step_201 : decode cX6_step 201 = .ok (.putfield 73, 3) := by decide +kernel
theorem dX6_step_204 : decode cX6_step 204 = .ok (.aload_n 0, 1) := by decide +kernel
theorem dX6_step_205 : decode cX6_step 205 = .ok (.dup, 1) := by decide +kernel
theorem dX6_step_206 : decode cX6_step 206 = .ok (.getfield 66, 3) := by decide +kernel
theorem dX6_step_209 : decode cX6_step 209 = .ok (.iconst 1, 1) := by decide +kernel
theorem dX6_step_210 : decode cX6_step 210 = .ok (.iadd, 1) := by decide +kernel
theorem dX6_step_211 : decode cX6_step 211 = .ok (.putfield 66, 3) := by decide +kernel
theorem dX6_step_214 : decode cX6_step 214 = .ok (.goto (-74), 3) := by decide +kernel
theorem dX6_step_217 : decode cX6_step 217 = .ok (.aload_n 0, 1) := by decide +kernel
theorem dX6_step_218 : decode cX6_step 218 = .ok (.iconst 2, 1) := by decide +kernel
theorem dX6_step_219 : decode cX6_step 219 = .ok (.putfield 63, 3) := by decide +kernel
theorem dX6_step_222 : decode cX6_step 222 = .ok (.aload_n 0, 1) := by decide +kernel
theorem dX6_step_223 : decode cX6_step 223 = .ok (.getfield 66, 3) := by decide +kernel
theorem dX6_step_226 : decode cX6_step 226 = .ok (.aload_n 0, 1) := by decide +kernel
theorem dX6_step_227 : decode cX6_step 227 = .ok (.getfield 57, 3) := by decide +kernel
theorem dX6_step_230 : decode cX6_step 230 = .ok (.isub, 1) := by decide +kernel
theorem dX6_step_231 : decode cX6_step 231 = .ok (.iconst 2, 1) := by decide +kernel
theorem dX6_step_232 : decode cX6_step 232 = .ok (.if_icmp .le 37, 3) := by decide +kernel
theorem dX6_step_235 : decode cX6_step 235 = .ok (.aload_n 0, 1) := by decide +kernel
theorem dX6_step_236 : decode cX6_step 236 = .ok (.iconst 1, 1) := by decide +kernel
theorem dX6_step_237 : decode cX6_step 237 = .ok (.invokevirtual 84, 3) := by decide +kernel
theorem dX6_step_240 : decode cX6_step 240 = .ok (.goto 29, 3) := by decide +kernel
theorem dX6_step_243 : decode cX6_step 243 = .ok (.aload_n 0, 1) := by decide +kernel
theorem dX6_step_244 : decode cX6_step 244 = .ok (.iconst 3, 1) := by decide +kernel
theorem dX6_step_245 : decode cX6_step 245 = .ok (.putfield 63, 3) := by decide +kernel
theorem dX6_step_248 : decode cX6_step 248 = .ok (.aload_n 0, 1) := by decide +kernel
theorem dX6_step_249 : decode cX6_step 249 = .ok (.dup, 1) := by decide +kernel
theorem dX6_step_250 : decode cX6_step 250 = .ok (.getfield 66, 3) := by decide +kernel
theorem dX6_step_253 : decode cX6_step 253 = .ok (.iconst 1, 1) := by decide +kernel
theorem dX6_step_254 : decode cX6_step 254 = .ok (.iadd, 1) := by decide +kernel
theorem dX6_step_255 : decode cX6_step 255 = .ok (.putfield 66, 3) := by decide +kernel
theorem dX6_step_258 : decode cX6_step 258 = .ok (.iload_n 1, 1) := by decide +kernel
theorem dX6_step_259 : decode cX6_step 259 = .ok (.bipush 59, 2) := by decide +kernel
theorem dX6_step_261 : decode cX6_step 261 = .ok (.if_icmp .eq 8, 3) := by decide +kernel
theorem dX6_step_264 : decode cX6_step 264 = .ok (.aload_n 0, 1) := by decide +kernel
theorem dX6_step_265 : decode cX6_step 265 = .ok (.iconst 1, 1) := by decide +kernel
theorem dX6_step_266 : decode cX6_step 266 = .ok (.invokevirtual 84, 3) := by decide +kernel
theorem dX6_step_269 : decode cX6_step 269 = .ok (.return_, 1) := by decide +kernel
theorem dX6_number_0 : decode cX6_number 0 = .ok (.aload_n 0, 1) := by decide +kernel
theorem dX6_number_1 : decode cX6_number 1 = .ok (.getfield 54, 3) := by decide +kernel
theorem dX6_number_4 : decode cX6_number 4 = .ok (.ifCond .ne 16, 3) := by decide +kernel
theorem dX6_number_7 : decode cX6_number 7 = .ok (.aload_n 0, 1) := by decide +kernel
theorem dX6_number_8 : decode cX6_number 8 = .ok (.getfield 63, 3) := by decide +kernel
theorem dX6_number_11 : decode cX6_number 11 = .ok (.iconst 2, 1) := by decide +kernel
theorem dX6_number_12 : decode cX6_number 12 = .ok (.if_icmp .eq 8, 3) := by decide +kernel
theorem dX6_number_15 : decode cX6_number 15 = .ok (.aload_n 0, 1) := by decide +kernel
theorem dX6_number_16 : decode cX6_number 16 = .ok (.iconst 2, 1) := by decide +kernel
theorem dX6_number_17 : decode cX6_number 17 = .ok (.invokevirtual 84, 3) := by decide +kernel
theorem dX6_number_20 : decode cX6_number 20 = .ok (.aload_n 0, 1) := by decide +kernel
theorem dX6_number_21 : decode cX6_number 21 = .ok (.getfield 54, 3) := by decide +kernel
theorem dX6_number_24 : decode cX6_number 24 = .ok (.ifCond .ne 23, 3) := by decide +kernel
theorem dX6_number_27 : decode cX6_number 27 = .ok (.aload_n 0, 1) := by decide +kernel
theorem dX6_number_28 : decode cX6_number 28 = .ok (.getfield 73, 3) := by decide +kernel
theorem dX6_number_31 : decode cX6_number 31 = .ok (.i2l, 1) := by decide +kernel
theorem dX6_number_32 : decode cX6_number 32 = .ok (.iload_n 1, 1) := by decide +kernel
theorem dX6_number_33 : decode cX6_number 33 = .ok (.i2l, 1) := by decide +kernel
theorem dX6_number_34 : decode cX6_number 34 = .ok (.iload_n 2, 1) := by decide +kernel
theorem dX6_number_35 : decode cX6_number 35 = .ok (.i2l, 1) := by decide +kernel
theorem dX6_number_36 : decode cX6_number 36 = .ok (.invokestatic 46, 3) := by decide +kernel
theorem dX6_number_39 : decode cX6_number 39 = .ok (.ifCond .ne 8, 3) := by decide +kernel
theorem dX6_number_42 : decode cX6_number 42 = .ok (.aload_n 0, 1) := by decide +kernel
theorem dX6_number_43 : decode cX6_number 43 = .ok (.iconst 3, 1) := by decide +kernel
theorem dX6_number_44 : decode cX6_number 44 = .ok (.invokevirtual 84, 3) := by decide +kernel
theorem dX6_number_47 : decode cX6_number 47 = .ok (.aload_n 0, 1) := by decide +kernel
theorem dX6_number_48 : decode cX6_number 48 = .ok (.getfield 54, 3) := by decide +kernel
theorem dX6_number_51 : decode cX6_number 51 = .ok (.ifCond .ne 10, 3) := by decide +kernel
theorem dX6_number_54 : decode cX6_number 54 = .ok (.aload_n 0, 1) := by decide +kernel
theorem dX6_number_55 : decode cX6_number 55 = .ok (.getfield 73, 3) := by decide +kernel
theorem dX6_number_58 : decode cX6_number 58 = .ok (.goto 4, 3) := by decide +kernel
theorem dX6_number_61 : decode cX6_number 61 = .ok (.iload_n 1, 1) := by decide +kernel
theorem dX6_number_62 : decode cX6_number 62 = .ok (.istore_n 3, 1) := by decide +kernel
theorem dX6_number_63 : decode cX6_number 63 = .ok (.aload_n 0, 1) := by decide +kernel
theorem dX6_number_64 : decode cX6_number 64 = .ok (.invokevirtual 88, 3) := by decide +kernel
theorem dX6_number_67 : decode cX6_number 67 = .ok (.iload_n 3, 1) := by decide +kernel
theorem dX6_number_68 : decode cX6_number 68 = .ok (.ireturn, 1) := by decide +kernel
theorem dX6_readMore_0 : decode cX6_readMore 0 = .ok (.iload_n 1, 1) := by decide +kernel
theorem dX6_readMore_1 : decode cX6_readMore 1 = .ok (.iconst 4, 1) := by decide +kernel
theorem dX6_readMore_2 : decode cX6_readMore 2 = .ok (.if_icmp .ne 18, 3) := by decide +kernel
theorem dX6_readMore_5 : decode cX6_readMore 5 = .ok (.aload_n 0, 1) := by decide +kernel
theorem dX6_readMore_6 : decode cX6_readMore 6 = .ok (.getfield 13, 3) := by decide +kernel
theorem dX6_readMore_9 : decode cX6_readMore 9 = .ok (.bipush 21, 2) := by decide +kernel
theorem dX6_readMore_11 : decode cX6_readMore 11 = .ok (.aload_n 0, 1) := by decide +kernel
theorem dX6_readMore_12 : decode cX6_readMore 12 = .ok (.iconst 0, 1) := by decide +kernel
theorem dX6_readMore_13 : decode cX6_readMore 13 = .ok (.bipush 99, 2) := by decide +kernel
theorem dX6_readMore_15 : decode cX6_readMore 15 = .ok (.invokevirtual 91, 3) := by decide +kernel
theorem dX6_readMore_18 : decode cX6_readMore 18 = .ok (.iastore, 1) := by decide +kernel
theorem dX6_readMore_19 : decode cX6_readMore 19 = .ok (.return_, 1) := by decide +kernel
theorem dX6_readMore_20 : decode cX6_readMore 20 = .ok (.aload_n 0, 1) := by decide +kernel
theorem dX6_readMore_21 : decode cX6_readMore 21 = .ok (.getfield 13, 3) := by decide +kernel
theorem dX6_readMore_24 : decode cX6_readMore 24 = .ok (.bipush 20, 2) := by decide +kernel
theorem dX6_readMore_26 : decode cX6_readMore 26 = .ok (.iaload, 1) := by decide +kernel
theorem dX6_readMore_27 : decode cX6_readMore 27 = .ok (.istore_n 2, 1) := by decide +kernel
theorem dX6_readMore_28 : decode cX6_readMore 28 = .ok (.aload_n 0, 1) := by decide +kernel
theorem dX6_readMore_29 : decode cX6_readMore 29 = .ok (.iconst 2, 1) := by decide +kernel
theorem dX6_readMore_30 : decode cX6_readMore 30 = .ok (.bipush 12, 2) := by decide +kernel
theorem dX6_readMore_32 : decode cX6_readMore 32 = .ok (.invokevirtual 91, 3) := by decide +kernel
theorem dX6_readMore_35 : decode cX6_readMore 35 = .ok (.istore_n 3, 1) := by decide +kernel
theorem dX6_readMore_36 : decode cX6_readMore 36 = .ok (.aload_n 0, 1) := by decide +kernel
theorem dX6_readMore_37 : decode cX6_readMore 37 = .ok (.getfield 13, 3) := by decide +kernel
theorem dX6_readMore_40 : decode cX6_readMore 40 = .ok (.iload_n 2, 1) := by decide +kernel
theorem dX6_readMore_41 : decode cX6_readMore 41 = .ok (.iload_n 1, 1) := by decide +kernel
theorem dX6_readMore_42 : decode cX6_readMore 42 = .ok (.iastore, 1) := by decide +kernel
theorem dX6_readMore_43 : decode cX6_readMore 43 = .ok (.aload_n 0, 1) := by decide +kernel
theorem dX6_readMore_44 : decode cX6_readMore 44 = .ok (.getfield 13, 3) := by decide +kernel
theorem dX6_readMore_47 : decode cX6_readMore 47 = .ok (.iconst 5, 1) := by decide +kernel
theorem dX6_readMore_48 : decode cX6_readMore 48 = .ok (.iload_n 2, 1) := by decide +kernel
theorem dX6_readMore_49 : decode cX6_readMore 49 = .ok (.iadd, 1) := by decide +kernel
theorem dX6_readMore_50 : decode cX6_readMore 50 = .ok (.iload_n 3, 1) := by decide +kernel
theorem dX6_readMore_51 : decode cX6_readMore 51 = .ok (.iastore, 1) := by decide +kernel
theorem dX6_readMore_52 : decode cX6_readMore 52 = .ok (.aload_n 0, 1) := by decide +kernel
theorem dX6_readMore_53 : decode cX6_readMore 53 = .ok (.getfield 13, 3) := by decide +kernel
theorem dX6_readMore_56 : decode cX6_readMore 56 = .ok (.bipush 10, 2) := by decide +kernel
theorem dX6_readMore_58 : decode cX6_readMore 58 = .ok (.iload_n 2, 1) := by decide +kernel
theorem dX6_readMore_59 : decode cX6_readMore 59 = .ok (.iadd, 1) := by decide +kernel
theorem dX6_readMore_60 : decode cX6_readMore 60 = .ok (.aload_n 0, 1) := by decide +kernel
theorem dX6_readMore_61 : decode cX6_readMore 61 = .ok (.iconst 0, 1) := by decide +kernel
theorem dX6_readMore_62 : decode cX6_readMore 62 = .ok (.iload_n 3, 1) := by decide +kernel
theorem dX6_readMore_63 : decode cX6_readMore 63 = .ok (.iconst 1, 1) := by decide +kernel
theorem dX6_readMore_64 : decode cX6_readMore 64 = .ok (.isub, 1) := by decide +kernel
theorem dX6_readMore_65 : decode cX6_readMore 65 = .ok (.invokevirtual 91, 3) := by decide +kernel
theorem dX6_readMore_68 : decode cX6_readMore 68 = .ok (.iastore, 1) := by decide +kernel
theorem dX6_readMore_69 : decode cX6_readMore 69 = .ok (.aload_n 0, 1) := by decide +kernel
theorem dX6_readMore_70 : decode cX6_readMore 70 = .ok (.getfield 54, 3) := by decide +kernel
theorem dX6_readMore_73 : decode cX6_readMore 73 = .ok (.ifCond .ne 31, 3) := by decide +kernel
theorem dX6_readMore_76 : decode cX6_readMore 76 = .ok (.aload_n 0, 1) := by decide +kernel
theorem dX6_readMore_77 : decode cX6_readMore 77 = .ok (.getfield 63, 3) := by decide +kernel
theorem dX6_readMore_80 : decode cX6_readMore 80 = .ok (.iconst 2, 1) := by decide +kernel
theorem dX6_readMore_81 : decode cX6_readMore 81 = .ok (.if_icmp .ne 23, 3) := by decide +kernel
theorem dX6_readMore_84 : decode cX6_readMore 84 = .ok (.aload_n 0, 1) := by decide +kernel
theorem dX6_readMore_85 : decode cX6_readMore 85 = .ok (.getfield 13, 3) := by decide +kernel
theorem dX6_readMore_88 : decode cX6_readMore 88 = .ok (.bipush 15, 2) := by decide +kernel
theorem dX6_readMore_90 : decode cX6_readMore 90 = .ok (.iload_n 2, 1) := by decide +kernel
theorem dX6_readMore_91 : decode cX6_readMore 91 = .ok (.iadd, 1) := by decide +kernel
theorem dX6_readMore_92 : decode cX6_readMore 92 = .ok (.aload_n 0, 1) := by decide +kernel
theorem dX6_readMore_93 : decode cX6_readMore 93 = .ok (.iconst 0, 1) := by decide +kernel
theorem dX6_readMore_94 : decode cX6_readMore 94 = .ok (.iload_n 3, 1) := by decide +kernel
theorem dX6_readMore_95 : decode cX6_readMore 95 = .ok (.iconst 1, 1) := by decide +kernel
theorem dX6_readMore_96 : decode cX6_readMore 96 = .ok (.isub, 1) := by decide +kernel
theorem dX6_readMore_97 : decode cX6_readMore 97 = .ok (.invokevirtual 91, 3) := by decide +kernel
theorem dX6_readMore_100 : decode cX6_readMore 100 = .ok (.bipush 12, 2) := by decide +kernel
theorem dX6_readMore_102 : decode cX6_readMore 102 = .ok (.isub, 1) := by decide +kernel
theorem dX6_readMore_103 : decode cX6_readMore 103 = .ok (.iastore, 1) := by decide +kernel
theorem dX6_readMore_104 : decode cX6_readMore 104 = .ok (.aload_n 0, 1) := by decide +kernel
theorem dX6_readMore_105 : decode cX6_readMore 105 = .ok (.getfield 13, 3) := by decide +kernel
theorem dX6_readMore_108 : decode cX6_readMore 108 = .ok (.bipush 20, 2) := by decide +kernel
theorem dX6_readMore_110 : decode cX6_readMore 110 = .ok (.dup2, 1) := by decide +kernel
theorem dX6_readMore_111 : decode cX6_readMore 111 = .ok (.iaload, 1) := by decide +kernel
theorem dX6_readMore_112 : decode cX6_readMore 112 = .ok (.iconst 1, 1) := by decide +kernel
theorem dX6_readMore_113 : decode cX6_readMore 113 = .ok (.iadd, 1) := by decide +kernel
theorem dX6_readMore_114 : decode cX6_readMore 114 = .ok (.iastore, 1) := by decide +kernel
theorem dX6_readMore_115 : decode cX6_readMore 115 = .ok (.return_, 1) := by decide +kernel
theorem dX6_readLine_0 : decode cX6_readLine 0 = .ok (.aload_n 0, 1) := by decide +kernel
theorem dX6_readLine_1 : decode cX6_readLine 1 = .ok (.invokevirtual 95, 3) := by decide +kernel
theorem dX6_readLine_4 : decode cX6_readLine 4 = .ok (.istore_n 1, 1) := by decide +kernel
theorem dX6_readLine_5 : decode cX6_readLine 5 = .ok (.iload_n 1, 1) := by decide +kernel
theorem dX6_readLine_6 : decode cX6_readLine 6 = .ok (.i2l, 1) := by decide +kernel
theorem dX6_readLine_7 : decode cX6_readLine 7 = .ok (.lconst 0, 1) := by decide +kernel
theorem dX6_readLine_8 : decode cX6_readLine 8 = .ok (.ldc2_w 99, 3) := by decide +kernel
theorem dX6_readLine_11 : decode cX6_readLine 11 = .ok (.invokestatic 46, 3) := by decide +kernel
theorem dX6_readLine_14 : decode cX6_readLine 14 = .ok (.ifCond .ne 9, 3) := by decide +kernel
theorem dX6_readLine_17 : decode cX6_readLine 17 = .ok (.aload_n 0, 1) := by decide +kernel
theorem dX6_readLine_18 : decode cX6_readLine 18 = .ok (.iconst 2, 1) := by decide +kernel
theorem dX6_readLine_19 : decode cX6_readLine 19 = .ok (.invokevirtual 84, 3) := by decide +kernel
theorem dX6_readLine_22 : decode cX6_readLine 22 = .ok (.return_, 1) := by decide +kernel
theorem dX6_readLine_23 : decode cX6_readLine 23 = .ok (.iload_n 1, 1) := by decide +kernel
theorem dX6_readLine_24 : decode cX6_readLine 24 = .ok (.iconst 3, 1) := by decide +kernel
theorem dX6_readLine_25 : decode cX6_readLine 25 = .ok (.if_icmp .gt 19, 3) := by decide +kernel
theorem dX6_readLine_28 : decode cX6_readLine 28 = .ok (.aload_n 0, 1) := by decide +kernel
theorem dX6_readLine_29 : decode cX6_readLine 29 = .ok (.getfield 13, 3) := by decide +kernel
theorem dX6_readLine_32 : decode cX6_readLine 32 = .ok (.bipush 20, 2) := by decide +kernel
theorem dX6_readLine_34 : decode cX6_readLine 34 = .ok (.iaload, 1) := by decide +kernel
theorem dX6_readLine_35 : decode cX6_readLine 35 = .ok (.iconst 5, 1) := by decide +kernel
theorem dX6_readLine_36 : decode cX6_readLine 36 = .ok (.if_icmp .ne 8, 3) := by decide +kernel
theorem dX6_readLine_39 : decode cX6_readLine 39 = .ok (.aload_n 0, 1) := by decide +kernel
theorem dX6_readLine_40 : decode cX6_readLine 40 = .ok (.iconst 5, 1) := by decide +kernel
theorem dX6_readLine_41 : decode cX6_readLine 41 = .ok (.invokevirtual 84, 3) := by decide +kernel
theorem dX6_readLine_44 : decode cX6_readLine 44 = .ok (.iload_n 1, 1) := by decide +kernel
theorem dX6_readLine_45 : decode cX6_readLine 45 = .ok (.iconst 4, 1) := by decide +kernel
theorem dX6_readLine_46 : decode cX6_readLine 46 = .ok (.if_icmp .ne 15, 3) := by decide +kernel
theorem dX6_readLine_49 : decode cX6_readLine 49 = .ok (.aload_n 0, 1) := by decide +kernel
theorem dX6_readLine_50 : decode cX6_readLine 50 = .ok (.getfield 101, 3) := by decide +kernel
theorem dX6_readLine_53 : decode cX6_readLine 53 = .ok (.ifCond .eq 8, 3) := by decide +kernel
theorem dX6_readLine_56 : decode cX6_readLine 56 = .ok (.aload_n 0, 1) := by decide +kernel
theorem dX6_readLine_57 : decode cX6_readLine 57 = .ok (.iconst 4, 1) := by decide +kernel
theorem dX6_readLine_58 : decode cX6_readLine 58 = .ok (.invokevirtual 84, 3) := by decide +kernel
theorem dX6_readLine_61 : decode cX6_readLine 61 = .ok (.aload_n 0, 1) := by decide +kernel
theorem dX6_readLine_62 : decode cX6_readLine 62 = .ok (.aload_n 0, 1) := by decide +kernel
theorem dX6_readLine_63 : decode cX6_readLine 63 = .ok (.getfield 101, 3) := by decide +kernel
theorem dX6_readLine_66 : decode cX6_readLine 66 = .ok (.ifCond .ne 8, 3) := by decide +kernel
theorem dX6_readLine_69 : decode cX6_readLine 69 = .ok (.iload_n 1, 1) := by decide +kernel
theorem dX6_readLine_70 : decode cX6_readLine 70 = .ok (.iconst 4, 1) := by decide +kernel
theorem dX6_readLine_71 : decode cX6_readLine 71 = .ok (.if_icmp .ne 7, 3) := by decide +kernel
theorem dX6_readLine_74 : decode cX6_readLine 74 = .ok (.iconst 1, 1) := by decide +kernel
theorem dX6_readLine_75 : decode cX6_readLine 75 = .ok (.goto 4, 3) := by decide +kernel
theorem dX6_readLine_78 : decode cX6_readLine 78 = .ok (.iconst 0, 1) := by decide +kernel
theorem dX6_readLine_79 : decode cX6_readLine 79 = .ok (.putfield 101, 3) := by decide +kernel
theorem dX6_readLine_82 : decode cX6_readLine 82 = .ok (.aload_n 0, 1) := by decide +kernel
theorem dX6_readLine_83 : decode cX6_readLine 83 = .ok (.invokevirtual 88, 3) := by decide +kernel
theorem dX6_readLine_86 : decode cX6_readLine 86 = .ok (.aload_n 0, 1) := by decide +kernel
theorem dX6_readLine_87 : decode cX6_readLine 87 = .ok (.getfield 54, 3) := by decide +kernel
theorem dX6_readLine_90 : decode cX6_readLine 90 = .ok (.ifCond .le 4, 3) := by decide +kernel
theorem dX6_readLine_93 : decode cX6_readLine 93 = .ok (.return_, 1) := by decide +kernel
theorem dX6_readLine_94 : decode cX6_readLine 94 = .ok (.aload_n 0, 1) := by decide +kernel
theorem dX6_readLine_95 : decode cX6_readLine 95 = .ok (.iload_n 1, 1) := by decide +kernel
theorem dX6_readLine_96 : decode cX6_readLine 96 = .ok (.invokevirtual 105, 3) := by decide +kernel
theorem dX6_readLine_99 : decode cX6_readLine 99 = .ok (.aload_n 0, 1) := by decide +kernel
theorem dX6_readLine_100 : decode cX6_readLine 100 = .ok (.getfield 54, 3) := by decide +kernel
theorem dX6_readLine_103 : decode cX6_readLine 103 = .ok (.ifCond .ne 16, 3) := by decide +kernel
theorem dX6_readLine_106 : decode cX6_readLine 106 = .ok (.aload_n 0, 1) := by decide +kernel
theorem dX6_readLine_107 : decode cX6_readLine 107 = .ok (.getfield 63, 3) := by decide +kernel
theorem dX6_readLine_110 : decode cX6_readLine 110 = .ok (.iconst 3, 1) := by decide +kernel
theorem dX6_readLine_111 : decode cX6_readLine 111 = .ok (.if_icmp .eq 8, 3) := by decide +kernel
theorem dX6_readLine_114 : decode cX6_readLine 114 = .ok (.aload_n 0, 1) := by decide +kernel
theorem dX6_readLine_115 : decode cX6_readLine 115 = .ok (.iconst 2, 1) := by decide +kernel
theorem dX6_readLine_116 : decode cX6_readLine 116 = .ok (.invokevirtual 84, 3) := by decide +kernel
theorem dX6_readLine_119 : decode cX6_readLine 119 = .ok (.aload_n 0, 1) := by decide +kernel
theorem dX6_readLine_120 : decode cX6_readLine 120 = .ok (.invokevirtual 88, 3) := by decide +kernel
theorem dX6_readLine_123 : decode cX6_readLine 123 = .ok (.return_, 1) := by decide +kernel
theorem dX6_text_0 : decode cX6_text 0 = .ok (.aload_n 0, 1) := by decide +kernel
theorem dX6_text_1 : decode cX6_text 1 = .ok (.iconst 0, 1) := by decide +kernel
theorem dX6_text_2 : decode cX6_text 2 = .ok (.putfield 54, 3) := by decide +kernel
theorem dX6_text_5 : decode cX6_text 5 = .ok (.aload_n 0, 1) := by decide +kernel
theorem dX6_text_6 : decode cX6_text 6 = .ok (.iconst 0, 1) := by decide +kernel
theorem dX6_text_7 : decode cX6_text 7 = .ok (.putfield 66, 3) := by decide +kernel
theorem dX6_text_10 : decode cX6_text 10 = .ok (.aload_n 0, 1) := by decide +kernel
theorem dX6_text_11 : decode cX6_text 11 = .ok (.iconst 0, 1) := by decide +kernel
theorem dX6_text_12 : decode cX6_text 12 = .ok (.putfield 101, 3) := by decide +kernel
theorem dX6_text_15 : decode cX6_text 15 = .ok (.iconst 0, 1) := by decide +kernel
theorem dX6_text_16 : decode cX6_text 16 = .ok (.istore_n 1, 1) := by decide +kernel
theorem dX6_text_17 : decode cX6_text 17 = .ok (.iconst 0, 1) := by decide +kernel
theorem dX6_text_18 : decode cX6_text 18 = .ok (.istore_n 2, 1) := by decide +kernel
theorem dX6_text_19 : decode cX6_text 19 = .ok (.iload_n 2, 1) := by decide +kernel
theorem dX6_text_20 : decode cX6_text 20 = .ok (.bipush 22, 2) := by decide +kernel
theorem dX6_text_22 : decode cX6_text 22 = .ok (.if_icmp .ge 16, 3) := by decide +kernel
theorem dX6_text_25 : decode cX6_text 25 = .ok (.aload_n 0, 1) := by decide +kernel
theorem dX6_text_26 : decode cX6_text 26 = .ok (.getfield 13, 3) := by decide +kernel
theorem dX6_text_29 : decode cX6_text 29 = .ok (.iload_n 2, 1) := by decide +kernel
theorem dX6_text_30 : decode cX6_text 30 = .ok (.iconst 0, 1) := by decide +kernel
theorem dX6_text_31 : decode cX6_text 31 = .ok (.iastore, 1) := by decide +kernel
theorem dX6_text_32 : decode cX6_text 32 = .ok (.iinc 2 1, 3) := by decide +kernel
theorem dX6_text_35 : decode cX6_text 35 = .ok (.goto (-16), 3) := by decide +kernel
theorem dX6_text_38 : decode cX6_text 38 = .ok (.aload_n 0, 1) := by decide +kernel
theorem dX6_text_39 : decode cX6_text 39 = .ok (.invokevirtual 88, 3) := by decide +kernel
theorem dX6_text_42 : decode cX6_text 42 = .ok (.aload_n 0, 1) := by decide +kernel
theorem dX6_text_43 : decode cX6_text 43 = .ok (.getfield 54, 3) := by decide +kernel
theorem dX6_text_46 : decode cX6_text 46 = .ok (.ifCond .ne 20, 3) := by decide +kernel
theorem dX6_text_49 : decode cX6_text 49 = .ok (.aload_n 0, 1) := by decide +kernel
theorem dX6_text_50 : decode cX6_text 50 = .ok (.getfield 63, 3) := by decide +kernel
theorem dX6_text_53 : decode cX6_text 53 = .ok (.ifCond .eq 13, 3) := by decide +kernel
theorem dX6_text_56 : decode cX6_text 56 = .ok (.aload_n 0, 1) := by decide +kernel
theorem dX6_text_57 : decode cX6_text 57 = .ok (.invokevirtual 108, 3) := by decide +kernel
theorem dX6_text_60 : decode cX6_text 60 = .ok (.iinc 1 1, 3) := by decide +kernel
theorem dX6_text_63 : decode cX6_text 63 = .ok (.goto (-21), 3) := by decide +kernel
theorem dX6_text_66 : decode cX6_text 66 = .ok (.aload_n 0, 1) := by decide +kernel
theorem dX6_text_67 : decode cX6_text 67 = .ok (.iconst 0, 1) := by decide +kernel
theorem dX6_text_68 : decode cX6_text 68 = .ok (.putfield 50, 3) := by decide +kernel
theorem dX6_text_71 : decode cX6_text 71 = .ok (.aload_n 0, 1) := by decide +kernel
theorem dX6_text_72 : decode cX6_text 72 = .ok (.aload_n 0, 1) := by decide +kernel
theorem dX6_text_73 : decode cX6_text 73 = .ok (.getfield 54, 3) := by decide +kernel
theorem dX6_text_76 : decode cX6_text 76 = .ok (.putfield 111, 3) := by decide +kernel
theorem dX6_text_79 : decode cX6_text 79 = .ok (.aload_n 0, 1) := by decide +kernel
theorem dX6_text_80 : decode cX6_text 80 = .ok (.getfield 54, 3) := by decide +kernel
theorem dX6_text_83 : decode cX6_text 83 = .ok (.ifCond .le 11, 3) := by decide +kernel
theorem dX6_text_86 : decode cX6_text 86 = .ok (.bipush (-10), 2) := by decide +kernel
theorem dX6_text_88 : decode cX6_text 88 = .ok (.aload_n 0, 1) := by decide +kernel
theorem dX6_text_89 : decode cX6_text 89 = .ok (.getfield 60, 3) := by decide +kernel
theorem dX6_text_92 : decode cX6_text 92 = .ok (.isub, 1) := by decide +kernel
theorem dX6_text_93 : decode cX6_text 93 = .ok (.ireturn, 1) := by decide +kernel
theorem dX6_text_94 : decode cX6_text 94 = .ok (.iconst 0, 1) := by decide +kernel
theorem dX6_text_95 : decode cX6_text 95 = .ok (.istore_n 2, 1) := by decide +kernel
theorem dX6_text_96 : decode cX6_text 96 = .ok (.iload_n 2, 1) := by decide +kernel
theorem dX6_text_97 : decode cX6_text 97 = .ok (.bipush 22, 2) := by decide +kernel
theorem dX6_text_99 : decode cX6_text 99 = .ok (.if_icmp .ge 21, 3) := by decide +kernel
theorem dX6_text_102 : decode cX6_text 102 = .ok (.aload_n 0, 1) := by decide +kernel
theorem dX6_text_103 : decode cX6_text 103 = .ok (.getfield 7, 3) := by decide +kernel
theorem dX6_text_106 : decode cX6_text 106 = .ok (.iload_n 2, 1) := by decide +kernel
theorem dX6_text_107 : decode cX6_text 107 = .ok (.aload_n 0, 1) := by decide +kernel
theorem dX6_text_108 : decode cX6_text 108 = .ok (.getfield 13, 3) := by decide +kernel
theorem dX6_text_111 : decode cX6_text 111 = .ok (.iload_n 2, 1) := by decide +kernel
theorem dX6_text_112 : decode cX6_text 112 = .ok (.iaload, 1) := by decide +kernel
theorem dX6_text_113 : decode cX6_text 113 = .ok (.iastore, 1) := by decide +kernel
theorem dX6_text_114 : decode cX6_text 114 = .ok (.iinc 2 1, 3) := by decide +kernel
theorem dX6_text_117 : decode cX6_text 117 = .ok (.goto (-21), 3) := by decide +kernel
theorem dX6_text_120 : decode cX6_text 120 = .ok (.aload_n 0, 1) := by decide +kernel
theorem dX6_text_121 : decode cX6_text 121 = .ok (.iconst 0, 1) := by decide +kernel
theorem dX6_text_122 : decode cX6_text 122 = .ok (.putfield 114, 3) := by decide +kernel
theorem dX6_text_125 : decode cX6_text 125 = .ok (.aload_n 0, 1) := by decide +kernel
theorem dX6_text_126 : decode cX6_text 126 = .ok (.getfield 31, 3) := by decide +kernel
theorem dX6_text_129 : decode cX6_text 129 = .ok (.iconst 0, 1) := by decide +kernel
theorem dX6_text_130 : decode cX6_text 130 = .ok (.iconst 0, 1) := by decide +kernel
theorem dX6_text_131 : decode cX6_text 131 = .ok (.bastore, 1) := by decide +kernel
theorem dX6_text_132 : decode cX6_text 132 = .ok (.aload_n 0, 1) := by decide +kernel
theorem dX6_text_133 : decode cX6_text 133 = .ok (.getfield 31, 3) := by decide +kernel
theorem dX6_text_136 : decode cX6_text 136 = .ok (.iconst 1, 1) := by decide +kernel
theorem dX6_text_137 : decode cX6_text 137 = .ok (.iconst 0, 1) := by decide +kernel
theorem dX6_text_138 : decode cX6_text 138 = .ok (.bastore, 1) := by decide +kernel
theorem dX6_text_139 : decode cX6_text 139 = .ok (.iload_n 1, 1) := by decide +kernel
theorem dX6_text_140 : decode cX6_text 140 = .ok (.ireturn, 1) := by decide +kernel
theorem dX6_fault_0 : decode cX6_fault 0 = .ok (.aload_n 0, 1) := by decide +kernel
theorem dX6_fault_1 : decode cX6_fault 1 = .ok (.getfield 111, 3) := by decide +kernel
theorem dX6_fault_4 : decode cX6_fault 4 = .ok (.ireturn, 1) := by decide +kernel
theorem dX6_isWheel_0 : decode cX6_isWheel 0 = .ok (.iload_n 1, 1) := by decide +kernel
theorem dX6_isWheel_1 : decode cX6_isWheel 1 = .ok (.i2l, 1) := by decide +kernel
theorem dX6_isWheel_2 : decode cX6_isWheel 2 = .ok (.lconst 0, 1) := by decide +kernel
theorem dX6_isWheel_3 : decode cX6_isWheel 3 = .ok (.aload_n 0, 1) := by decide +kernel
theorem dX6_isWheel_4 : decode cX6_isWheel 4 = .ok (.getfield 7, 3) := by decide +kernel
theorem dX6_isWheel_7 : decode cX6_isWheel 7 = .ok (.bipush 20, 2) := by decide +kernel
theorem dX6_isWheel_9 : decode cX6_isWheel 9 = .ok (.iaload, 1) := by decide +kernel
theorem dX6_isWheel_10 : decode cX6_isWheel 10 = .ok (.iconst 1, 1) := by decide +kernel
theorem dX6_isWheel_11 : decode cX6_isWheel 11 = .ok (.isub, 1) := by decide +kernel
theorem dX6_isWheel_12 : decode cX6_isWheel 12 = .ok (.i2l, 1) := by decide +kernel
theorem dX6_isWheel_13 : decode cX6_isWheel 13 = .ok (.invokestatic 46, 3) := by decide +kernel
theorem dX6_isWheel_16 : decode cX6_isWheel 16 = .ok (.ireturn, 1) := by decide +kernel
theorem dX6_isDigit_0 : decode cX6_isDigit 0 = .ok (.iload_n 0, 1) := by decide +kernel
theorem dX6_isDigit_1 : decode cX6_isDigit 1 = .ok (.i2l, 1) := by decide +kernel
theorem dX6_isDigit_2 : decode cX6_isDigit 2 = .ok (.lconst 0, 1) := by decide +kernel
theorem dX6_isDigit_3 : decode cX6_isDigit 3 = .ok (.ldc2_w 117, 3) := by decide +kernel
theorem dX6_isDigit_6 : decode cX6_isDigit 6 = .ok (.invokestatic 46, 3) := by decide +kernel
theorem dX6_isDigit_9 : decode cX6_isDigit 9 = .ok (.ireturn, 1) := by decide +kernel
theorem dX6_isReading_0 : decode cX6_isReading 0 = .ok (.iload_n 0, 1) := by decide +kernel
theorem dX6_isReading_1 : decode cX6_isReading 1 = .ok (.i2l, 1) := by decide +kernel
theorem dX6_isReading_2 : decode cX6_isReading 2 = .ok (.lconst 0, 1) := by decide +kernel
theorem dX6_isReading_3 : decode cX6_isReading 3 = .ok (.ldc2_w 119, 3) := by decide +kernel
theorem dX6_isReading_6 : decode cX6_isReading 6 = .ok (.invokestatic 46, 3) := by decide +kernel
theorem dX6_isReading_9 : decode cX6_isReading 9 = .ok (.ireturn, 1) := by decide +kernel
theorem dX6_turnsOn_0 : decode cX6_turnsOn 0 = .ok (.aload_n 0, 1) := by decide +kernel
theorem dX6_turnsOn_1 : decode cX6_turnsOn 1 = .ok (.getfield 7, 3) := by decide +kernel
theorem dX6_turnsOn_4 : decode cX6_turnsOn 4 = .ok (.iload_n 1, 1) := by decide +kernel
theorem dX6_turnsOn_5 : decode cX6_turnsOn 5 = .ok (.iload_n 2, 1) := by decide +kernel
theorem dX6_turnsOn_6 : decode cX6_turnsOn 6 = .ok (.iadd, 1) := by decide +kernel
theorem dX6_turnsOn_7 : decode cX6_turnsOn 7 = .ok (.iaload, 1) := by decide +kernel
theorem dX6_turnsOn_8 : decode cX6_turnsOn 8 = .ok (.istore_n 3, 1) := by decide +kernel
theorem dX6_turnsOn_9 : decode cX6_turnsOn 9 = .ok (.aload_n 0, 1) := by decide +kernel
theorem dX6_turnsOn_10 : decode cX6_turnsOn 10 = .ok (.getfield 7, 3) := by decide +kernel
theorem dX6_turnsOn_13 : decode cX6_turnsOn 13 = .ok (.iload_n 1, 1) := by decide +kernel
theorem dX6_turnsOn_14 : decode cX6_turnsOn 14 = .ok (.iconst 5, 1) := by decide +kernel
theorem dX6_turnsOn_15 : decode cX6_turnsOn 15 = .ok (.iadd, 1) := by decide +kernel
theorem dX6_turnsOn_16 : decode cX6_turnsOn 16 = .ok (.iload_n 2, 1) := by decide +kernel
theorem dX6_turnsOn_17 : decode cX6_turnsOn 17 = .ok (.iadd, 1) := by decide +kernel
theorem dX6_turnsOn_18 : decode cX6_turnsOn 18 = .ok (.iaload, 1) := by decide +kernel
theorem dX6_turnsOn_19 : decode cX6_turnsOn 19 = .ok (.istore 4, 2) := by decide +kernel
theorem dX6_turnsOn_21 : decode cX6_turnsOn 21 = .ok (.aload_n 0, 1) := by decide +kernel
theorem dX6_turnsOn_22 : decode cX6_turnsOn 22 = .ok (.getfield 7, 3) := by decide +kernel
theorem dX6_turnsOn_25 : decode cX6_turnsOn 25 = .ok (.iload_n 1, 1) := by decide +kernel
theorem dX6_turnsOn_26 : decode cX6_turnsOn 26 = .ok (.bipush 10, 2) := by decide +kernel
theorem dX6_turnsOn_28 : decode cX6_turnsOn 28 = .ok (.iadd, 1) := by decide +kernel
theorem dX6_turnsOn_29 : decode cX6_turnsOn 29 = .ok (.iload_n 2, 1) := by decide +kernel
theorem dX6_turnsOn_30 : decode cX6_turnsOn 30 = .ok (.iadd, 1) := by decide +kernel
theorem dX6_turnsOn_31 : decode cX6_turnsOn 31 = .ok (.iaload, 1) := by decide +kernel
theorem dX6_turnsOn_32 : decode cX6_turnsOn 32 = .ok (.istore 5, 2) := by decide +kernel
theorem dX6_turnsOn_34 : decode cX6_turnsOn 34 = .ok (.iload 5, 2) := by decide +kernel
theorem dX6_turnsOn_36 : decode cX6_turnsOn 36 = .ok (.iload_n 3, 1) := by decide +kernel
theorem dX6_turnsOn_37 : decode cX6_turnsOn 37 = .ok (.ifCond .ne 7, 3) := by decide +kernel
theorem dX6_turnsOn_40 : decode cX6_turnsOn 40 = .ok (.iconst 1, 1) := by decide +kernel
theorem dX6_turnsOn_41 : decode cX6_turnsOn 41 = .ok (.goto 16, 3) := by decide +kernel
theorem dX6_turnsOn_44 : decode cX6_turnsOn 44 = .ok (.iload_n 3, 1) := by decide +kernel
theorem dX6_turnsOn_45 : decode cX6_turnsOn 45 = .ok (.iconst 1, 1) := by decide +kernel
theorem dX6_turnsOn_46 : decode cX6_turnsOn 46 = .ok (.if_icmp .ne 7, 3) := by decide +kernel
theorem dX6_turnsOn_49 : decode cX6_turnsOn 49 = .ok (.iconst 2, 1) := by decide +kernel
theorem dX6_turnsOn_50 : decode cX6_turnsOn 50 = .ok (.goto 7, 3) := by decide +kernel
theorem dX6_turnsOn_53 : decode cX6_turnsOn 53 = .ok (.iload 4, 2) := by decide +kernel
theorem dX6_turnsOn_55 : decode cX6_turnsOn 55 = .ok (.iconst 1, 1) := by decide +kernel
theorem dX6_turnsOn_56 : decode cX6_turnsOn 56 = .ok (.isub, 1) := by decide +kernel
theorem dX6_turnsOn_57 : decode cX6_turnsOn 57 = .ok (.iadd, 1) := by decide +kernel
theorem dX6_turnsOn_58 : decode cX6_turnsOn 58 = .ok (.iload 4, 2) := by decide +kernel
theorem dX6_turnsOn_60 : decode cX6_turnsOn 60 = .ok (.irem, 1) := by decide +kernel
theorem dX6_turnsOn_61 : decode cX6_turnsOn 61 = .ok (.ireturn, 1) := by decide +kernel
theorem dX6_carriesOn_0 : decode cX6_carriesOn 0 = .ok (.aload_n 0, 1) := by decide +kernel
theorem dX6_carriesOn_1 : decode cX6_carriesOn 1 = .ok (.getfield 7, 3) := by decide +kernel
theorem dX6_carriesOn_4 : decode cX6_carriesOn 4 = .ok (.iload_n 1, 1) := by decide +kernel
theorem dX6_carriesOn_5 : decode cX6_carriesOn 5 = .ok (.iload_n 2, 1) := by decide +kernel
theorem dX6_carriesOn_6 : decode cX6_carriesOn 6 = .ok (.iadd, 1) := by decide +kernel
theorem dX6_carriesOn_7 : decode cX6_carriesOn 7 = .ok (.iaload, 1) := by decide +kernel
theorem dX6_carriesOn_8 : decode cX6_carriesOn 8 = .ok (.istore_n 3, 1) := by decide +kernel
theorem dX6_carriesOn_9 : decode cX6_carriesOn 9 = .ok (.aload_n 0, 1) := by decide +kernel
theorem dX6_carriesOn_10 : decode cX6_carriesOn 10 = .ok (.getfield 7, 3) := by decide +kernel
theorem dX6_carriesOn_13 : decode cX6_carriesOn 13 = .ok (.iload_n 1, 1) := by decide +kernel
theorem dX6_carriesOn_14 : decode cX6_carriesOn 14 = .ok (.iconst 5, 1) := by decide +kernel
theorem dX6_carriesOn_15 : decode cX6_carriesOn 15 = .ok (.iadd, 1) := by decide +kernel
theorem dX6_carriesOn_16 : decode cX6_carriesOn 16 = .ok (.iload_n 2, 1) := by decide +kernel
theorem dX6_carriesOn_17 : decode cX6_carriesOn 17 = .ok (.iadd, 1) := by decide +kernel
theorem dX6_carriesOn_18 : decode cX6_carriesOn 18 = .ok (.iaload, 1) := by decide +kernel
theorem dX6_carriesOn_19 : decode cX6_carriesOn 19 = .ok (.iconst 1, 1) := by decide +kernel
theorem dX6_carriesOn_20 : decode cX6_carriesOn 20 = .ok (.isub, 1) := by decide +kernel
theorem dX6_carriesOn_21 : decode cX6_carriesOn 21 = .ok (.istore 4, 2) := by decide +kernel
theorem dX6_carriesOn_23 : decode cX6_carriesOn 23 = .ok (.aload_n 0, 1) := by decide +kernel
theorem dX6_carriesOn_24 : decode cX6_carriesOn 24 = .ok (.getfield 7, 3) := by decide +kernel
theorem dX6_carriesOn_27 : decode cX6_carriesOn 27 = .ok (.iload_n 1, 1) := by decide +kernel
theorem dX6_carriesOn_28 : decode cX6_carriesOn 28 = .ok (.bipush 10, 2) := by decide +kernel
theorem dX6_carriesOn_30 : decode cX6_carriesOn 30 = .ok (.iadd, 1) := by decide +kernel
theorem dX6_carriesOn_31 : decode cX6_carriesOn 31 = .ok (.iload_n 2, 1) := by decide +kernel
theorem dX6_carriesOn_32 : decode cX6_carriesOn 32 = .ok (.iadd, 1) := by decide +kernel
theorem dX6_carriesOn_33 : decode cX6_carriesOn 33 = .ok (.iaload, 1) := by decide +kernel
theorem dX6_carriesOn_34 : decode cX6_carriesOn 34 = .ok (.istore 5, 2) := by decide +kernel
theorem dX6_carriesOn_36 : decode cX6_carriesOn 36 = .ok (.iload_n 3, 1) := by decide +kernel
theorem dX6_carriesOn_37 : decode cX6_carriesOn 37 = .ok (.iconst 1, 1) := by decide +kernel
theorem dX6_carriesOn_38 : decode cX6_carriesOn 38 = .ok (.if_icmp .ne 20, 3) := by decide +kernel
theorem dX6_carriesOn_41 : decode cX6_carriesOn 41 = .ok (.iload 5, 2) := by decide +kernel
theorem dX6_carriesOn_43 : decode cX6_carriesOn 43 = .ok (.iload 4, 2) := by decide +kernel
theorem dX6_carriesOn_45 : decode cX6_carriesOn 45 = .ok (.iconst 1, 1) := by decide +kernel
theorem dX6_carriesOn_46 : decode cX6_carriesOn 46 = .ok (.isub, 1) := by decide +kernel
theorem dX6_carriesOn_47 : decode cX6_carriesOn 47 = .ok (.if_icmp .lt 7, 3) := by decide +kernel
theorem dX6_carriesOn_50 : decode cX6_carriesOn 50 = .ok (.iconst 1, 1) := by decide +kernel
theorem dX6_carriesOn_51 : decode cX6_carriesOn 51 = .ok (.goto 37, 3) := by decide +kernel
theorem dX6_carriesOn_54 : decode cX6_carriesOn 54 = .ok (.iconst 0, 1) := by decide +kernel
theorem dX6_carriesOn_55 : decode cX6_carriesOn 55 = .ok (.goto 33, 3) := by decide +kernel
theorem dX6_carriesOn_58 : decode cX6_carriesOn 58 = .ok (.iload_n 3, 1) := by decide +kernel
theorem dX6_carriesOn_59 : decode cX6_carriesOn 59 = .ok (.iconst 2, 1) := by decide +kernel
theorem dX6_carriesOn_60 : decode cX6_carriesOn 60 = .ok (.if_icmp .ne 16, 3) := by decide +kernel
theorem dX6_carriesOn_63 : decode cX6_carriesOn 63 = .ok (.iload 5, 2) := by decide +kernel
theorem dX6_carriesOn_65 : decode cX6_carriesOn 65 = .ok (.ifCond .ne 7, 3) := by decide +kernel
theorem dX6_carriesOn_68 : decode cX6_carriesOn 68 = .ok (.iconst 1, 1) := by decide +kernel
theorem dX6_carriesOn_69 : decode cX6_carriesOn 69 = .ok (.goto 19, 3) := by decide +kernel
theorem dX6_carriesOn_72 : decode cX6_carriesOn 72 = .ok (.iconst 0, 1) := by decide +kernel
theorem dX6_carriesOn_73 : decode cX6_carriesOn 73 = .ok (.goto 15, 3) := by decide +kernel
theorem dX6_carriesOn_76 : decode cX6_carriesOn 76 = .ok (.iload 5, 2) := by decide +kernel
theorem dX6_carriesOn_78 : decode cX6_carriesOn 78 = .ok (.iload 4, 2) := by decide +kernel
theorem dX6_carriesOn_80 : decode cX6_carriesOn 80 = .ok (.if_icmp .ne 7, 3) := by decide +kernel
theorem dX6_carriesOn_83 : decode cX6_carriesOn 83 = .ok (.iconst 1, 1) := by decide +kernel
theorem dX6_carriesOn_84 : decode cX6_carriesOn 84 = .ok (.goto 4, 3) := by decide +kernel
theorem dX6_carriesOn_87 : decode cX6_carriesOn 87 = .ok (.iconst 0, 1) := by decide +kernel
theorem dX6_carriesOn_88 : decode cX6_carriesOn 88 = .ok (.istore 6, 2) := by decide +kernel
theorem dX6_carriesOn_90 : decode cX6_carriesOn 90 = .ok (.iload 6, 2) := by decide +kernel
theorem dX6_carriesOn_92 : decode cX6_carriesOn 92 = .ok (.ifCond .eq 26, 3) := by decide +kernel
theorem dX6_carriesOn_95 : decode cX6_carriesOn 95 = .ok (.iload 5, 2) := by decide +kernel
theorem dX6_carriesOn_97 : decode cX6_carriesOn 97 = .ok (.aload_n 0, 1) := by decide +kernel
theorem dX6_carriesOn_98 : decode cX6_carriesOn 98 = .ok (.getfield 7, 3) := by decide +kernel
theorem dX6_carriesOn_101 : decode cX6_carriesOn 101 = .ok (.iload_n 1, 1) := by decide +kernel
theorem dX6_carriesOn_102 : decode cX6_carriesOn 102 = .ok (.bipush 15, 2) := by decide +kernel
theorem dX6_carriesOn_104 : decode cX6_carriesOn 104 = .ok (.iadd, 1) := by decide +kernel
theorem dX6_carriesOn_105 : decode cX6_carriesOn 105 = .ok (.iload_n 2, 1) := by decide +kernel
theorem dX6_carriesOn_106 : decode cX6_carriesOn 106 = .ok (.iadd, 1) := by decide +kernel
theorem dX6_carriesOn_107 : decode cX6_carriesOn 107 = .ok (.iaload, 1) := by decide +kernel
theorem dX6_carriesOn_108 : decode cX6_carriesOn 108 = .ok (.bipush 12, 2) := by decide +kernel
theorem dX6_carriesOn_110 : decode cX6_carriesOn 110 = .ok (.iadd, 1) := by decide +kernel
theorem dX6_carriesOn_111 : decode cX6_carriesOn 111 = .ok (.if_icmp .eq 7, 3) := by decide +kernel
theorem dX6_carriesOn_114 : decode cX6_carriesOn 114 = .ok (.iconst 1, 1) := by decide +kernel
theorem dX6_carriesOn_115 : decode cX6_carriesOn 115 = .ok (.goto 4, 3) := by decide +kernel
theorem dX6_carriesOn_118 : decode cX6_carriesOn 118 = .ok (.iconst 0, 1) := by decide +kernel
theorem dX6_carriesOn_119 : decode cX6_carriesOn 119 = .ok (.ireturn, 1) := by decide +kernel
theorem dX6_turnedOn_0 : decode cX6_turnedOn 0 = .ok (.iconst 1, 1) := by decide +kernel
theorem dX6_turnedOn_1 : decode cX6_turnedOn 1 = .ok (.istore_n 3, 1) := by decide +kernel
theorem dX6_turnedOn_2 : decode cX6_turnedOn 2 = .ok (.iload_n 2, 1) := by decide +kernel
theorem dX6_turnedOn_3 : decode cX6_turnedOn 3 = .ok (.istore 4, 2) := by decide +kernel
theorem dX6_turnedOn_5 : decode cX6_turnedOn 5 = .ok (.iload 4, 2) := by decide +kernel
theorem dX6_turnedOn_7 : decode cX6_turnedOn 7 = .ok (.aload_n 0, 1) := by decide +kernel
theorem dX6_turnedOn_8 : decode cX6_turnedOn 8 = .ok (.getfield 7, 3) := by decide +kernel
theorem dX6_turnedOn_11 : decode cX6_turnedOn 11 = .ok (.iload_n 1, 1) := by decide +kernel
theorem dX6_turnedOn_12 : decode cX6_turnedOn 12 = .ok (.bipush 20, 2) := by decide +kernel
theorem dX6_turnedOn_14 : decode cX6_turnedOn 14 = .ok (.iadd, 1) := by decide +kernel
theorem dX6_turnedOn_15 : decode cX6_turnedOn 15 = .ok (.iaload, 1) := by decide +kernel
theorem dX6_turnedOn_16 : decode cX6_turnedOn 16 = .ok (.if_icmp .ge 58, 3) := by decide +kernel
theorem dX6_turnedOn_19 : decode cX6_turnedOn 19 = .ok (.iload_n 3, 1) := by decide +kernel
theorem dX6_turnedOn_20 : decode cX6_turnedOn 20 = .ok (.ifCond .eq 54, 3) := by decide +kernel
theorem dX6_turnedOn_23 : decode cX6_turnedOn 23 = .ok (.aload_n 0, 1) := by decide +kernel
theorem dX6_turnedOn_24 : decode cX6_turnedOn 24 = .ok (.iload_n 1, 1) := by decide +kernel
theorem dX6_turnedOn_25 : decode cX6_turnedOn 25 = .ok (.iload 4, 2) := by decide +kernel
theorem dX6_turnedOn_27 : decode cX6_turnedOn 27 = .ok (.invokevirtual 121, 3) := by decide +kernel
theorem dX6_turnedOn_30 : decode cX6_turnedOn 30 = .ok (.istore_n 3, 1) := by decide +kernel
theorem dX6_turnedOn_31 : decode cX6_turnedOn 31 = .ok (.aload_n 0, 1) := by decide +kernel
theorem dX6_turnedOn_32 : decode cX6_turnedOn 32 = .ok (.dup, 1) := by decide +kernel
theorem dX6_turnedOn_33 : decode cX6_turnedOn 33 = .ok (.getfield 125, 3) := by decide +kernel
theorem dX6_turnedOn_36 : decode cX6_turnedOn 36 = .ok (.iload_n 3, 1) := by decide +kernel
theorem dX6_turnedOn_37 : decode cX6_turnedOn 37 = .ok (.ifCond .eq 7, 3) := by decide +kernel
theorem dX6_turnedOn_40 : decode cX6_turnedOn 40 = .ok (.iconst 1, 1) := by decide +kernel
theorem dX6_turnedOn_41 : decode cX6_turnedOn 41 = .ok (.goto 4, 3) := by decide +kernel
theorem dX6_turnedOn_44 : decode cX6_turnedOn 44 = .ok (.iconst 0, 1) := by decide +kernel
theorem dX6_turnedOn_45 : decode cX6_turnedOn 45 = .ok (.iadd, 1) := by decide +kernel
theorem dX6_turnedOn_46 : decode cX6_turnedOn 46 = .ok (.putfield 125, 3) := by decide +kernel
theorem dX6_turnedOn_49 : decode cX6_turnedOn 49 = .ok (.aload_n 0, 1) := by decide +kernel
theorem dX6_turnedOn_50 : decode cX6_turnedOn 50 = .ok (.getfield 7, 3) := by decide +kernel
theorem dX6_turnedOn_53 : decode cX6_turnedOn 53 = .ok (.iload_n 1, 1) := by decide +kernel
theorem dX6_turnedOn_54 : decode cX6_turnedOn 54 = .ok (.bipush 10, 2) := by decide +kernel
theorem dX6_turnedOn_56 : decode cX6_turnedOn 56 = .ok (.iadd, 1) := by decide +kernel
theorem dX6_turnedOn_57 : decode cX6_turnedOn 57 = .ok (.iload 4, 2) := by decide +kernel
theorem dX6_turnedOn_59 : decode cX6_turnedOn 59 = .ok (.iadd, 1) := by decide +kernel
theorem dX6_turnedOn_60 : decode cX6_turnedOn 60 = .ok (.aload_n 0, 1) := by decide +kernel
theorem dX6_turnedOn_61 : decode cX6_turnedOn 61 = .ok (.iload_n 1, 1) := by decide +kernel
theorem dX6_turnedOn_62 : decode cX6_turnedOn 62 = .ok (.iload 4, 2) := by decide +kernel
theorem dX6_turnedOn_64 : decode cX6_turnedOn 64 = .ok (.invokevirtual 128, 3) := by decide +kernel
theorem dX6_turnedOn_67 : decode cX6_turnedOn 67 = .ok (.iastore, 1) := by decide +kernel
theorem dX6_turnedOn_68 : decode cX6_turnedOn 68 = .ok (.iinc 4 1, 3) := by decide +kernel
theorem dX6_turnedOn_71 : decode cX6_turnedOn 71 = .ok (.goto (-66), 3) := by decide +kernel
theorem dX6_turnedOn_74 : decode cX6_turnedOn 74 = .ok (.return_, 1) := by decide +kernel
theorem dX6_pushOn_0 : decode cX6_pushOn 0 = .ok (.aload_n 0, 1) := by decide +kernel
theorem dX6_pushOn_1 : decode cX6_pushOn 1 = .ok (.getfield 7, 3) := by decide +kernel
theorem dX6_pushOn_4 : decode cX6_pushOn 4 = .ok (.iload_n 1, 1) := by decide +kernel
theorem dX6_pushOn_5 : decode cX6_pushOn 5 = .ok (.bipush 21, 2) := by decide +kernel
theorem dX6_pushOn_7 : decode cX6_pushOn 7 = .ok (.iadd, 1) := by decide +kernel
theorem dX6_pushOn_8 : decode cX6_pushOn 8 = .ok (.dup2, 1) := by decide +kernel
theorem dX6_pushOn_9 : decode cX6_pushOn 9 = .ok (.iaload, 1) := by decide +kernel
theorem dX6_pushOn_10 : decode cX6_pushOn 10 = .ok (.iconst 1, 1) := by decide +kernel
theorem dX6_pushOn_11 : decode cX6_pushOn 11 = .ok (.iadd, 1) := by decide +kernel
theorem dX6_pushOn_12 : decode cX6_pushOn 12 = .ok (.iastore, 1) := by decide +kernel
theorem dX6_pushOn_13 : decode cX6_pushOn 13 = .ok (.aload_n 0, 1) := by decide +kernel
theorem dX6_pushOn_14 : decode cX6_pushOn 14 = .ok (.iload_n 1, 1) := by decide +kernel
theorem dX6_pushOn_15 : decode cX6_pushOn 15 = .ok (.iconst 0, 1) := by decide +kernel
theorem dX6_pushOn_16 : decode cX6_pushOn 16 = .ok (.invokevirtual 131, 3) := by decide +kernel
theorem dX6_pushOn_19 : decode cX6_pushOn 19 = .ok (.return_, 1) := by decide +kernel
theorem dX6_allOn_0 : decode cX6_allOn 0 = .ok (.iconst 1, 1) := by decide +kernel
theorem dX6_allOn_1 : decode cX6_allOn 1 = .ok (.istore_n 2, 1) := by decide +kernel
theorem dX6_allOn_2 : decode cX6_allOn 2 = .ok (.iconst 0, 1) := by decide +kernel
theorem dX6_allOn_3 : decode cX6_allOn 3 = .ok (.istore_n 3, 1) := by decide +kernel
theorem dX6_allOn_4 : decode cX6_allOn 4 = .ok (.iload_n 3, 1) := by decide +kernel
theorem dX6_allOn_5 : decode cX6_allOn 5 = .ok (.aload_n 0, 1) := by decide +kernel
theorem dX6_allOn_6 : decode cX6_allOn 6 = .ok (.getfield 7, 3) := by decide +kernel
theorem dX6_allOn_9 : decode cX6_allOn 9 = .ok (.iload_n 1, 1) := by decide +kernel
theorem dX6_allOn_10 : decode cX6_allOn 10 = .ok (.bipush 20, 2) := by decide +kernel
theorem dX6_allOn_12 : decode cX6_allOn 12 = .ok (.iadd, 1) := by decide +kernel
theorem dX6_allOn_13 : decode cX6_allOn 13 = .ok (.iaload, 1) := by decide +kernel
theorem dX6_allOn_14 : decode cX6_allOn 14 = .ok (.if_icmp .ge 22, 3) := by decide +kernel
theorem dX6_allOn_17 : decode cX6_allOn 17 = .ok (.iload_n 2, 1) := by decide +kernel
theorem dX6_allOn_18 : decode cX6_allOn 18 = .ok (.aload_n 0, 1) := by decide +kernel
theorem dX6_allOn_19 : decode cX6_allOn 19 = .ok (.getfield 7, 3) := by decide +kernel
theorem dX6_allOn_22 : decode cX6_allOn 22 = .ok (.iload_n 1, 1) := by decide +kernel
theorem dX6_allOn_23 : decode cX6_allOn 23 = .ok (.iconst 5, 1) := by decide +kernel
theorem dX6_allOn_24 : decode cX6_allOn 24 = .ok (.iadd, 1) := by decide +kernel
theorem dX6_allOn_25 : decode cX6_allOn 25 = .ok (.iload_n 3, 1) := by decide +kernel
theorem dX6_allOn_26 : decode cX6_allOn 26 = .ok (.iadd, 1) := by decide +kernel
theorem dX6_allOn_27 : decode cX6_allOn 27 = .ok (.iaload, 1) := by decide +kernel
theorem dX6_allOn_28 : decode cX6_allOn 28 = .ok (.imul, 1) := by decide +kernel
theorem dX6_allOn_29 : decode cX6_allOn 29 = .ok (.istore_n 2, 1) := by decide +kernel
theorem dX6_allOn_30 : decode cX6_allOn 30 = .ok (.iinc 3 1, 3) := by decide +kernel
theorem dX6_allOn_33 : decode cX6_allOn 33 = .ok (.goto (-29), 3) := by decide +kernel
theorem dX6_allOn_36 : decode cX6_allOn 36 = .ok (.iload_n 2, 1) := by decide +kernel
theorem dX6_allOn_37 : decode cX6_allOn 37 = .ok (.ireturn, 1) := by decide +kernel
theorem dX6_readsOn_0 : decode cX6_readsOn 0 = .ok (.iconst 0, 1) := by decide +kernel
theorem dX6_readsOn_1 : decode cX6_readsOn 1 = .ok (.istore_n 2, 1) := by decide +kernel
theorem dX6_readsOn_2 : decode cX6_readsOn 2 = .ok (.iconst 1, 1) := by decide +kernel
theorem dX6_readsOn_3 : decode cX6_readsOn 3 = .ok (.istore_n 3, 1) := by decide +kernel
theorem dX6_readsOn_4 : decode cX6_readsOn 4 = .ok (.iconst 0, 1) := by decide +kernel
theorem dX6_readsOn_5 : decode cX6_readsOn 5 = .ok (.istore 4, 2) := by decide +kernel
theorem dX6_readsOn_7 : decode cX6_readsOn 7 = .ok (.iload 4, 2) := by decide +kernel
theorem dX6_readsOn_9 : decode cX6_readsOn 9 = .ok (.aload_n 0, 1) := by decide +kernel
theorem dX6_readsOn_10 : decode cX6_readsOn 10 = .ok (.getfield 7, 3) := by decide +kernel
theorem dX6_readsOn_13 : decode cX6_readsOn 13 = .ok (.iload_n 1, 1) := by decide +kernel
theorem dX6_readsOn_14 : decode cX6_readsOn 14 = .ok (.bipush 20, 2) := by decide +kernel
theorem dX6_readsOn_16 : decode cX6_readsOn 16 = .ok (.iadd, 1) := by decide +kernel
theorem dX6_readsOn_17 : decode cX6_readsOn 17 = .ok (.iaload, 1) := by decide +kernel
theorem dX6_readsOn_18 : decode cX6_readsOn 18 = .ok (.if_icmp .ge 40, 3) := by decide +kernel
theorem dX6_readsOn_21 : decode cX6_readsOn 21 = .ok (.iload_n 2, 1) := by decide +kernel
theorem dX6_readsOn_22 : decode cX6_readsOn 22 = .ok (.iload_n 3, 1) := by decide +kernel
theorem dX6_readsOn_23 : decode cX6_readsOn 23 = .ok (.aload_n 0, 1) := by decide +kernel
theorem dX6_readsOn_24 : decode cX6_readsOn 24 = .ok (.getfield 7, 3) := by decide +kernel
theorem dX6_readsOn_27 : decode cX6_readsOn 27 = .ok (.iload_n 1, 1) := by decide +kernel
theorem dX6_readsOn_28 : decode cX6_readsOn 28 = .ok (.bipush 10, 2) := by decide +kernel
theorem dX6_readsOn_30 : decode cX6_readsOn 30 = .ok (.iadd, 1) := by decide +kernel
theorem dX6_readsOn_31 : decode cX6_readsOn 31 = .ok (.iload 4, 2) := by decide +kernel
theorem dX6_readsOn_33 : decode cX6_readsOn 33 = .ok (.iadd, 1) := by decide +kernel
theorem dX6_readsOn_34 : decode cX6_readsOn 34 = .ok (.iaload, 1) := by decide +kernel
theorem dX6_readsOn_35 : decode cX6_readsOn 35 = .ok (.imul, 1) := by decide +kernel
theorem dX6_readsOn_36 : decode cX6_readsOn 36 = .ok (.iadd, 1) := by decide +kernel
theorem dX6_readsOn_37 : decode cX6_readsOn 37 = .ok (.istore_n 2, 1) := by decide +kernel
theorem dX6_readsOn_38 : decode cX6_readsOn 38 = .ok (.iload_n 3, 1) := by decide +kernel
theorem dX6_readsOn_39 : decode cX6_readsOn 39 = .ok (.aload_n 0, 1) := by decide +kernel
theorem dX6_readsOn_40 : decode cX6_readsOn 40 = .ok (.getfield 7, 3) := by decide +kernel
theorem dX6_readsOn_43 : decode cX6_readsOn 43 = .ok (.iload_n 1, 1) := by decide +kernel
theorem dX6_readsOn_44 : decode cX6_readsOn 44 = .ok (.iconst 5, 1) := by decide +kernel
theorem dX6_readsOn_45 : decode cX6_readsOn 45 = .ok (.iadd, 1) := by decide +kernel
theorem dX6_readsOn_46 : decode cX6_readsOn 46 = .ok (.iload 4, 2) := by decide +kernel
theorem dX6_readsOn_48 : decode cX6_readsOn 48 = .ok (.iadd, 1) := by decide +kernel
theorem dX6_readsOn_49 : decode cX6_readsOn 49 = .ok (.iaload, 1) := by decide +kernel
theorem dX6_readsOn_50 : decode cX6_readsOn 50 = .ok (.imul, 1) := by decide +kernel
theorem dX6_readsOn_51 : decode cX6_readsOn 51 = .ok (.istore_n 3, 1) := by decide +kernel
theorem dX6_readsOn_52 : decode cX6_readsOn 52 = .ok (.iinc 4 1, 3) := by decide +kernel
theorem dX6_readsOn_55 : decode cX6_readsOn 55 = .ok (.goto (-48), 3) := by decide +kernel
theorem dX6_readsOn_58 : decode cX6_readsOn 58 = .ok (.iload_n 2, 1) := by decide +kernel
theorem dX6_readsOn_59 : decode cX6_readsOn 59 = .ok (.ireturn, 1) := by decide +kernel
theorem dX6_errorOn_0 : decode cX6_errorOn 0 = .ok (.aload_n 0, 1) := by decide +kernel
theorem dX6_errorOn_1 : decode cX6_errorOn 1 = .ok (.iload_n 1, 1) := by decide +kernel
theorem dX6_errorOn_2 : decode cX6_errorOn 2 = .ok (.invokevirtual 135, 3) := by decide +kernel
theorem dX6_errorOn_5 : decode cX6_errorOn 5 = .ok (.aload_n 0, 1) := by decide +kernel
theorem dX6_errorOn_6 : decode cX6_errorOn 6 = .ok (.getfield 7, 3) := by decide +kernel
theorem dX6_errorOn_9 : decode cX6_errorOn 9 = .ok (.iload_n 1, 1) := by decide +kernel
theorem dX6_errorOn_10 : decode cX6_errorOn 10 = .ok (.bipush 21, 2) := by decide +kernel
theorem dX6_errorOn_12 : decode cX6_errorOn 12 = .ok (.iadd, 1) := by decide +kernel
theorem dX6_errorOn_13 : decode cX6_errorOn 13 = .ok (.iaload, 1) := by decide +kernel
theorem dX6_errorOn_14 : decode cX6_errorOn 14 = .ok (.aload_n 0, 1) := by decide +kernel
theorem dX6_errorOn_15 : decode cX6_errorOn 15 = .ok (.iload_n 1, 1) := by decide +kernel
theorem dX6_errorOn_16 : decode cX6_errorOn 16 = .ok (.invokevirtual 138, 3) := by decide +kernel
theorem dX6_errorOn_19 : decode cX6_errorOn 19 = .ok (.irem, 1) := by decide +kernel
theorem dX6_errorOn_20 : decode cX6_errorOn 20 = .ok (.isub, 1) := by decide +kernel
theorem dX6_errorOn_21 : decode cX6_errorOn 21 = .ok (.istore_n 2, 1) := by decide +kernel
theorem dX6_errorOn_22 : decode cX6_errorOn 22 = .ok (.iload_n 2, 1) := by decide +kernel
theorem dX6_errorOn_23 : decode cX6_errorOn 23 = .ok (.ifCond .ge 8, 3) := by decide +kernel
theorem dX6_errorOn_26 : decode cX6_errorOn 26 = .ok (.iload_n 2, 1) := by decide +kernel
theorem dX6_errorOn_27 : decode cX6_errorOn 27 = .ok (.ineg, 1) := by decide +kernel
theorem dX6_errorOn_28 : decode cX6_errorOn 28 = .ok (.goto 4, 3) := by decide +kernel
theorem dX6_errorOn_31 : decode cX6_errorOn 31 = .ok (.iload_n 2, 1) := by decide +kernel
theorem dX6_errorOn_32 : decode cX6_errorOn 32 = .ok (.ireturn, 1) := by decide +kernel
theorem dX6_rule_0 : decode cX6_rule 0 = .ok (.iconst 0, 1) := by decide +kernel
theorem dX6_rule_1 : decode cX6_rule 1 = .ok (.istore_n 2, 1) := by decide +kernel
theorem dX6_rule_2 : decode cX6_rule 2 = .ok (.iconst 0, 1) := by decide +kernel
theorem dX6_rule_3 : decode cX6_rule 3 = .ok (.istore_n 3, 1) := by decide +kernel
theorem dX6_rule_4 : decode cX6_rule 4 = .ok (.iload_n 3, 1) := by decide +kernel
theorem dX6_rule_5 : decode cX6_rule 5 = .ok (.aload_n 0, 1) := by decide +kernel
theorem dX6_rule_6 : decode cX6_rule 6 = .ok (.getfield 7, 3) := by decide +kernel
theorem dX6_rule_9 : decode cX6_rule 9 = .ok (.bipush 20, 2) := by decide +kernel
theorem dX6_rule_11 : decode cX6_rule 11 = .ok (.iaload, 1) := by decide +kernel
theorem dX6_rule_12 : decode cX6_rule 12 = .ok (.if_icmp .ge 28, 3) := by decide +kernel
theorem dX6_rule_15 : decode cX6_rule 15 = .ok (.iload_n 2, 1) := by decide +kernel
theorem dX6_rule_16 : decode cX6_rule 16 = .ok (.aload_n 0, 1) := by decide +kernel
theorem dX6_rule_17 : decode cX6_rule 17 = .ok (.iconst 0, 1) := by decide +kernel
theorem dX6_rule_18 : decode cX6_rule 18 = .ok (.iload_n 3, 1) := by decide +kernel
theorem dX6_rule_19 : decode cX6_rule 19 = .ok (.invokevirtual 121, 3) := by decide +kernel
theorem dX6_rule_22 : decode cX6_rule 22 = .ok (.ifCond .eq 9, 3) := by decide +kernel
theorem dX6_rule_25 : decode cX6_rule 25 = .ok (.iconst 1, 1) := by decide +kernel
theorem dX6_rule_26 : decode cX6_rule 26 = .ok (.iload_n 3, 1) := by decide +kernel
theorem dX6_rule_27 : decode cX6_rule 27 = .ok (.ishl, 1) := by decide +kernel
theorem dX6_rule_28 : decode cX6_rule 28 = .ok (.goto 4, 3) := by decide +kernel
theorem dX6_rule_31 : decode cX6_rule 31 = .ok (.iconst 0, 1) := by decide +kernel
theorem dX6_rule_32 : decode cX6_rule 32 = .ok (.ior, 1) := by decide +kernel
theorem dX6_rule_33 : decode cX6_rule 33 = .ok (.istore_n 2, 1) := by decide +kernel
theorem dX6_rule_34 : decode cX6_rule 34 = .ok (.iinc 3 1, 3) := by decide +kernel
theorem dX6_rule_37 : decode cX6_rule 37 = .ok (.goto (-33), 3) := by decide +kernel
theorem dX6_rule_40 : decode cX6_rule 40 = .ok (.iload_n 1, 1) := by decide +kernel
theorem dX6_rule_41 : decode cX6_rule 41 = .ok (.tableswitch 75 0 5 #[39, 47, 55, 61, 67, 73], 39) := by decide +kernel
theorem dX6_rule_80 : decode cX6_rule 80 = .ok (.aload_n 0, 1) := by decide +kernel
theorem dX6_rule_81 : decode cX6_rule 81 = .ok (.getfield 7, 3) := by decide +kernel
theorem dX6_rule_84 : decode cX6_rule 84 = .ok (.bipush 20, 2) := by decide +kernel
theorem dX6_rule_86 : decode cX6_rule 86 = .ok (.iaload, 1) := by decide +kernel
theorem dX6_rule_87 : decode cX6_rule 87 = .ok (.ireturn, 1) := by decide +kernel
theorem dX6_rule_88 : decode cX6_rule 88 = .ok (.aload_n 0, 1) := by decide +kernel
theorem dX6_rule_89 : decode cX6_rule 89 = .ok (.getfield 7, 3) := by decide +kernel
theorem dX6_rule_92 : decode cX6_rule 92 = .ok (.bipush 21, 2) := by decide +kernel
theorem dX6_rule_94 : decode cX6_rule 94 = .ok (.iaload, 1) := by decide +kernel
theorem dX6_rule_95 : decode cX6_rule 95 = .ok (.ireturn, 1) := by decide +kernel
theorem dX6_rule_96 : decode cX6_rule 96 = .ok (.aload_n 0, 1) := by decide +kernel
theorem dX6_rule_97 : decode cX6_rule 97 = .ok (.iconst 0, 1) := by decide +kernel
theorem dX6_rule_98 : decode cX6_rule 98 = .ok (.invokevirtual 135, 3) := by decide +kernel
theorem dX6_rule_101 : decode cX6_rule 101 = .ok (.ireturn, 1) := by decide +kernel
theorem dX6_rule_102 : decode cX6_rule 102 = .ok (.aload_n 0, 1) := by decide +kernel
theorem dX6_rule_103 : decode cX6_rule 103 = .ok (.iconst 0, 1) := by decide +kernel
theorem dX6_rule_104 : decode cX6_rule 104 = .ok (.invokevirtual 138, 3) := by decide +kernel
theorem dX6_rule_107 : decode cX6_rule 107 = .ok (.ireturn, 1) := by decide +kernel
theorem dX6_rule_108 : decode cX6_rule 108 = .ok (.aload_n 0, 1) := by decide +kernel
theorem dX6_rule_109 : decode cX6_rule 109 = .ok (.iconst 0, 1) := by decide +kernel
theorem dX6_rule_110 : decode cX6_rule 110 = .ok (.invokevirtual 141, 3) := by decide +kernel
theorem dX6_rule_113 : decode cX6_rule 113 = .ok (.ireturn, 1) := by decide +kernel
theorem dX6_rule_114 : decode cX6_rule 114 = .ok (.iload_n 2, 1) := by decide +kernel
theorem dX6_rule_115 : decode cX6_rule 115 = .ok (.ireturn, 1) := by decide +kernel
theorem dX6_rule_116 : decode cX6_rule 116 = .ok (.iconst (-1), 1) := by decide +kernel
theorem dX6_rule_117 : decode cX6_rule 117 = .ok (.ireturn, 1) := by decide +kernel
theorem dX6_wheel_0 : decode cX6_wheel 0 = .ok (.aload_n 0, 1) := by decide +kernel
theorem dX6_wheel_1 : decode cX6_wheel 1 = .ok (.iload_n 1, 1) := by decide +kernel
theorem dX6_wheel_2 : decode cX6_wheel 2 = .ok (.invokevirtual 144, 3) := by decide +kernel
theorem dX6_wheel_5 : decode cX6_wheel 5 = .ok (.ifCond .eq 15, 3) := by decide +kernel
theorem dX6_wheel_8 : decode cX6_wheel 8 = .ok (.iload_n 2, 1) := by decide +kernel
theorem dX6_wheel_9 : decode cX6_wheel 9 = .ok (.i2l, 1) := by decide +kernel
theorem dX6_wheel_10 : decode cX6_wheel 10 = .ok (.lconst 0, 1) := by decide +kernel
theorem dX6_wheel_11 : decode cX6_wheel 11 = .ok (.ldc2_w 99, 3) := by decide +kernel
theorem dX6_wheel_14 : decode cX6_wheel 14 = .ok (.invokestatic 46, 3) := by decide +kernel
theorem dX6_wheel_17 : decode cX6_wheel 17 = .ok (.ifCond .ne 5, 3) := by decide +kernel
theorem dX6_wheel_20 : decode cX6_wheel 20 = .ok (.iconst (-1), 1) := by decide +kernel
theorem dX6_wheel_21 : decode cX6_wheel 21 = .ok (.ireturn, 1) := by decide +kernel
theorem dX6_wheel_22 : decode cX6_wheel 22 = .ok (.iload_n 2, 1) := by decide +kernel
theorem dX6_wheel_23 : decode cX6_wheel 23 = .ok (.iconst 3, 1) := by decide +kernel
theorem dX6_wheel_24 : decode cX6_wheel 24 = .ok (.if_icmp .ge 16, 3) := by decide +kernel
theorem dX6_wheel_27 : decode cX6_wheel 27 = .ok (.aload_n 0, 1) := by decide +kernel
theorem dX6_wheel_28 : decode cX6_wheel 28 = .ok (.getfield 7, 3) := by decide +kernel
theorem dX6_wheel_31 : decode cX6_wheel 31 = .ok (.iconst 5, 1) := by decide +kernel
theorem dX6_wheel_32 : decode cX6_wheel 32 = .ok (.iload_n 2, 1) := by decide +kernel
theorem dX6_wheel_33 : decode cX6_wheel 33 = .ok (.imul, 1) := by decide +kernel
theorem dX6_wheel_34 : decode cX6_wheel 34 = .ok (.iload_n 1, 1) := by decide +kernel
theorem dX6_wheel_35 : decode cX6_wheel 35 = .ok (.iadd, 1) := by decide +kernel
theorem dX6_wheel_36 : decode cX6_wheel 36 = .ok (.iaload, 1) := by decide +kernel
theorem dX6_wheel_37 : decode cX6_wheel 37 = .ok (.goto 29, 3) := by decide +kernel
theorem dX6_wheel_40 : decode cX6_wheel 40 = .ok (.iload_n 2, 1) := by decide +kernel
theorem dX6_wheel_41 : decode cX6_wheel 41 = .ok (.iconst 3, 1) := by decide +kernel
theorem dX6_wheel_42 : decode cX6_wheel 42 = .ok (.if_icmp .ne 18, 3) := by decide +kernel
theorem dX6_wheel_45 : decode cX6_wheel 45 = .ok (.aload_n 0, 1) := by decide +kernel
theorem dX6_wheel_46 : decode cX6_wheel 46 = .ok (.getfield 7, 3) := by decide +kernel
theorem dX6_wheel_49 : decode cX6_wheel 49 = .ok (.bipush 15, 2) := by decide +kernel
theorem dX6_wheel_51 : decode cX6_wheel 51 = .ok (.iload_n 1, 1) := by decide +kernel
theorem dX6_wheel_52 : decode cX6_wheel 52 = .ok (.iadd, 1) := by decide +kernel
theorem dX6_wheel_53 : decode cX6_wheel 53 = .ok (.iaload, 1) := by decide +kernel
theorem dX6_wheel_54 : decode cX6_wheel 54 = .ok (.bipush 12, 2) := by decide +kernel
theorem dX6_wheel_56 : decode cX6_wheel 56 = .ok (.iadd, 1) := by decide +kernel
theorem dX6_wheel_57 : decode cX6_wheel 57 = .ok (.goto 9, 3) := by decide +kernel
theorem dX6_wheel_60 : decode cX6_wheel 60 = .ok (.aload_n 0, 1) := by decide +kernel
theorem dX6_wheel_61 : decode cX6_wheel 61 = .ok (.iconst 0, 1) := by decide +kernel
theorem dX6_wheel_62 : decode cX6_wheel 62 = .ok (.iload_n 1, 1) := by decide +kernel
theorem dX6_wheel_63 : decode cX6_wheel 63 = .ok (.invokevirtual 128, 3) := by decide +kernel
theorem dX6_wheel_66 : decode cX6_wheel 66 = .ok (.ireturn, 1) := by decide +kernel
theorem dX6_alters_0 : decode cX6_alters 0 = .ok (.iload_n 2, 1) := by decide +kernel
theorem dX6_alters_1 : decode cX6_alters 1 = .ok (.ifCond .ne 15, 3) := by decide +kernel
theorem dX6_alters_4 : decode cX6_alters 4 = .ok (.iload_n 3, 1) := by decide +kernel
theorem dX6_alters_5 : decode cX6_alters 5 = .ok (.i2l, 1) := by decide +kernel
theorem dX6_alters_6 : decode cX6_alters 6 = .ok (.lconst 0, 1) := by decide +kernel
theorem dX6_alters_7 : decode cX6_alters 7 = .ok (.ldc2_w 148, 3) := by decide +kernel
theorem dX6_alters_10 : decode cX6_alters 10 = .ok (.invokestatic 46, 3) := by decide +kernel
theorem dX6_alters_13 : decode cX6_alters 13 = .ok (.goto 56, 3) := by decide +kernel
theorem dX6_alters_16 : decode cX6_alters 16 = .ok (.iload_n 2, 1) := by decide +kernel
theorem dX6_alters_17 : decode cX6_alters 17 = .ok (.iconst 1, 1) := by decide +kernel
theorem dX6_alters_18 : decode cX6_alters 18 = .ok (.if_icmp .ne 17, 3) := by decide +kernel
theorem dX6_alters_21 : decode cX6_alters 21 = .ok (.iload_n 3, 1) := by decide +kernel
theorem dX6_alters_22 : decode cX6_alters 22 = .ok (.i2l, 1) := by decide +kernel
theorem dX6_alters_23 : decode cX6_alters 23 = .ok (.ldc2_w 150, 3) := by decide +kernel
theorem dX6_alters_26 : decode cX6_alters 26 = .ok (.ldc2_w 152, 3) := by decide +kernel
theorem dX6_alters_29 : decode cX6_alters 29 = .ok (.invokestatic 46, 3) := by decide +kernel
theorem dX6_alters_32 : decode cX6_alters 32 = .ok (.goto 37, 3) := by decide +kernel
theorem dX6_alters_35 : decode cX6_alters 35 = .ok (.iload_n 2, 1) := by decide +kernel
theorem dX6_alters_36 : decode cX6_alters 36 = .ok (.iconst 2, 1) := by decide +kernel
theorem dX6_alters_37 : decode cX6_alters 37 = .ok (.if_icmp .ne 10, 3) := by decide +kernel
theorem dX6_alters_40 : decode cX6_alters 40 = .ok (.iload_n 3, 1) := by decide +kernel
theorem dX6_alters_41 : decode cX6_alters 41 = .ok (.invokestatic 154, 3) := by decide +kernel
theorem dX6_alters_44 : decode cX6_alters 44 = .ok (.goto 25, 3) := by decide +kernel
theorem dX6_alters_47 : decode cX6_alters 47 = .ok (.iload_n 2, 1) := by decide +kernel
theorem dX6_alters_48 : decode cX6_alters 48 = .ok (.iconst 3, 1) := by decide +kernel
theorem dX6_alters_49 : decode cX6_alters 49 = .ok (.if_icmp .ne 19, 3) := by decide +kernel
theorem dX6_alters_52 : decode cX6_alters 52 = .ok (.iload_n 3, 1) := by decide +kernel
theorem dX6_alters_53 : decode cX6_alters 53 = .ok (.i2l, 1) := by decide +kernel
theorem dX6_alters_54 : decode cX6_alters 54 = .ok (.lconst 0, 1) := by decide +kernel
theorem dX6_alters_55 : decode cX6_alters 55 = .ok (.ldc2_w 152, 3) := by decide +kernel
theorem dX6_alters_58 : decode cX6_alters 58 = .ok (.invokestatic 46, 3) := by decide +kernel
theorem dX6_alters_61 : decode cX6_alters 61 = .ok (.ifCond .eq 7, 3) := by decide +kernel
theorem dX6_alters_64 : decode cX6_alters 64 = .ok (.iconst 1, 1) := by decide +kernel
theorem dX6_alters_65 : decode cX6_alters 65 = .ok (.goto 4, 3) := by decide +kernel
theorem dX6_alters_68 : decode cX6_alters 68 = .ok (.iconst 0, 1) := by decide +kernel
theorem dX6_alters_69 : decode cX6_alters 69 = .ok (.istore 4, 2) := by decide +kernel
theorem dX6_alters_71 : decode cX6_alters 71 = .ok (.aload_n 0, 1) := by decide +kernel
theorem dX6_alters_72 : decode cX6_alters 72 = .ok (.iload_n 1, 1) := by decide +kernel
theorem dX6_alters_73 : decode cX6_alters 73 = .ok (.invokevirtual 144, 3) := by decide +kernel
theorem dX6_alters_76 : decode cX6_alters 76 = .ok (.ifCond .eq 8, 3) := by decide +kernel
theorem dX6_alters_79 : decode cX6_alters 79 = .ok (.iload 4, 2) := by decide +kernel
theorem dX6_alters_81 : decode cX6_alters 81 = .ok (.ifCond .ne 5, 3) := by decide +kernel
theorem dX6_alters_84 : decode cX6_alters 84 = .ok (.iconst (-1), 1) := by decide +kernel
theorem dX6_alters_85 : decode cX6_alters 85 = .ok (.ireturn, 1) := by decide +kernel
theorem dX6_alters_86 : decode cX6_alters 86 = .ok (.aload_n 0, 1) := by decide +kernel
theorem dX6_alters_87 : decode cX6_alters 87 = .ok (.getfield 7, 3) := by decide +kernel
theorem dX6_alters_90 : decode cX6_alters 90 = .ok (.iconst 5, 1) := by decide +kernel
theorem dX6_alters_91 : decode cX6_alters 91 = .ok (.iload_n 1, 1) := by decide +kernel
theorem dX6_alters_92 : decode cX6_alters 92 = .ok (.iadd, 1) := by decide +kernel
theorem dX6_alters_93 : decode cX6_alters 93 = .ok (.iaload, 1) := by decide +kernel
theorem dX6_alters_94 : decode cX6_alters 94 = .ok (.istore 5, 2) := by decide +kernel
theorem dX6_alters_96 : decode cX6_alters 96 = .ok (.aload_n 0, 1) := by decide +kernel
theorem dX6_alters_97 : decode cX6_alters 97 = .ok (.getfield 7, 3) := by decide +kernel
theorem dX6_alters_100 : decode cX6_alters 100 = .ok (.bipush 15, 2) := by decide +kernel
theorem dX6_alters_102 : decode cX6_alters 102 = .ok (.iload_n 1, 1) := by decide +kernel
theorem dX6_alters_103 : decode cX6_alters 103 = .ok (.iadd, 1) := by decide +kernel
theorem dX6_alters_104 : decode cX6_alters 104 = .ok (.iaload, 1) := by decide +kernel
theorem dX6_alters_105 : decode cX6_alters 105 = .ok (.bipush 12, 2) := by decide +kernel
theorem dX6_alters_107 : decode cX6_alters 107 = .ok (.iadd, 1) := by decide +kernel
theorem dX6_alters_108 : decode cX6_alters 108 = .ok (.istore 6, 2) := by decide +kernel
theorem dX6_alters_110 : decode cX6_alters 110 = .ok (.iload_n 2, 1) := by decide +kernel
theorem dX6_alters_111 : decode cX6_alters 111 = .ok (.iconst 1, 1) := by decide +kernel
theorem dX6_alters_112 : decode cX6_alters 112 = .ok (.if_icmp .ne 33, 3) := by decide +kernel
theorem dX6_alters_115 : decode cX6_alters 115 = .ok (.iload_n 3, 1) := by decide +kernel
theorem dX6_alters_116 : decode cX6_alters 116 = .ok (.aload_n 0, 1) := by decide +kernel
theorem dX6_alters_117 : decode cX6_alters 117 = .ok (.getfield 7, 3) := by decide +kernel
theorem dX6_alters_120 : decode cX6_alters 120 = .ok (.bipush 10, 2) := by decide +kernel
theorem dX6_alters_122 : decode cX6_alters 122 = .ok (.iload_n 1, 1) := by decide +kernel
theorem dX6_alters_123 : decode cX6_alters 123 = .ok (.iadd, 1) := by decide +kernel
theorem dX6_alters_124 : decode cX6_alters 124 = .ok (.iaload, 1) := by decide +kernel
theorem dX6_alters_125 : decode cX6_alters 125 = .ok (.if_icmp .le 16, 3) := by decide +kernel
theorem dX6_alters_128 : decode cX6_alters 128 = .ok (.iload 6, 2) := by decide +kernel
theorem dX6_alters_130 : decode cX6_alters 130 = .ok (.bipush 12, 2) := by decide +kernel
theorem dX6_alters_132 : decode cX6_alters 132 = .ok (.if_icmp .ge 13, 3) := by decide +kernel
theorem dX6_alters_135 : decode cX6_alters 135 = .ok (.iload_n 3, 1) := by decide +kernel
theorem dX6_alters_136 : decode cX6_alters 136 = .ok (.iload 6, 2) := by decide +kernel
theorem dX6_alters_138 : decode cX6_alters 138 = .ok (.if_icmp .gt 7, 3) := by decide +kernel
theorem dX6_alters_141 : decode cX6_alters 141 = .ok (.iconst 1, 1) := by decide +kernel
theorem dX6_alters_142 : decode cX6_alters 142 = .ok (.goto 4, 3) := by decide +kernel
theorem dX6_alters_145 : decode cX6_alters 145 = .ok (.iconst 0, 1) := by decide +kernel
theorem dX6_alters_146 : decode cX6_alters 146 = .ok (.istore 7, 2) := by decide +kernel
theorem dX6_alters_148 : decode cX6_alters 148 = .ok (.iload 7, 2) := by decide +kernel
theorem dX6_alters_150 : decode cX6_alters 150 = .ok (.ifCond .ne 31, 3) := by decide +kernel
theorem dX6_alters_153 : decode cX6_alters 153 = .ok (.iload_n 2, 1) := by decide +kernel
theorem dX6_alters_154 : decode cX6_alters 154 = .ok (.iconst 2, 1) := by decide +kernel
theorem dX6_alters_155 : decode cX6_alters 155 = .ok (.if_icmp .ne 9, 3) := by decide +kernel
theorem dX6_alters_158 : decode cX6_alters 158 = .ok (.iload_n 3, 1) := by decide +kernel
theorem dX6_alters_159 : decode cX6_alters 159 = .ok (.iload 5, 2) := by decide +kernel
theorem dX6_alters_161 : decode cX6_alters 161 = .ok (.if_icmp .ge 20, 3) := by decide +kernel
theorem dX6_alters_164 : decode cX6_alters 164 = .ok (.iload_n 2, 1) := by decide +kernel
theorem dX6_alters_165 : decode cX6_alters 165 = .ok (.iconst 3, 1) := by decide +kernel
theorem dX6_alters_166 : decode cX6_alters 166 = .ok (.if_icmp .ne 19, 3) := by decide +kernel
theorem dX6_alters_169 : decode cX6_alters 169 = .ok (.iload_n 3, 1) := by decide +kernel
theorem dX6_alters_170 : decode cX6_alters 170 = .ok (.bipush 12, 2) := by decide +kernel
theorem dX6_alters_172 : decode cX6_alters 172 = .ok (.if_icmp .ge 13, 3) := by decide +kernel
theorem dX6_alters_175 : decode cX6_alters 175 = .ok (.iload_n 3, 1) := by decide +kernel
theorem dX6_alters_176 : decode cX6_alters 176 = .ok (.iload 5, 2) := by decide +kernel
theorem dX6_alters_178 : decode cX6_alters 178 = .ok (.if_icmp .lt 7, 3) := by decide +kernel
theorem dX6_alters_181 : decode cX6_alters 181 = .ok (.iconst 1, 1) := by decide +kernel
theorem dX6_alters_182 : decode cX6_alters 182 = .ok (.goto 4, 3) := by decide +kernel
theorem dX6_alters_185 : decode cX6_alters 185 = .ok (.iconst 0, 1) := by decide +kernel
theorem dX6_alters_186 : decode cX6_alters 186 = .ok (.istore 7, 2) := by decide +kernel
theorem dX6_alters_188 : decode cX6_alters 188 = .ok (.iload 7, 2) := by decide +kernel
theorem dX6_alters_190 : decode cX6_alters 190 = .ok (.ifCond .eq 6, 3) := by decide +kernel
theorem dX6_alters_193 : decode cX6_alters 193 = .ok (.bipush (-2), 2) := by decide +kernel
theorem dX6_alters_195 : decode cX6_alters 195 = .ok (.ireturn, 1) := by decide +kernel
theorem dX6_alters_196 : decode cX6_alters 196 = .ok (.iload_n 2, 1) := by decide +kernel
theorem dX6_alters_197 : decode cX6_alters 197 = .ok (.iconst 3, 1) := by decide +kernel
theorem dX6_alters_198 : decode cX6_alters 198 = .ok (.if_icmp .ne 8, 3) := by decide +kernel
theorem dX6_alters_201 : decode cX6_alters 201 = .ok (.bipush 12, 2) := by decide +kernel
theorem dX6_alters_203 : decode cX6_alters 203 = .ok (.goto 4, 3) := by decide +kernel
theorem dX6_alters_206 : decode cX6_alters 206 = .ok (.iconst 0, 1) := by decide +kernel
theorem dX6_alters_207 : decode cX6_alters 207 = .ok (.istore 8, 2) := by decide +kernel
theorem dX6_alters_209 : decode cX6_alters 209 = .ok (.aload_n 0, 1) := by decide +kernel
theorem dX6_alters_210 : decode cX6_alters 210 = .ok (.getfield 7, 3) := by decide +kernel
theorem dX6_alters_213 : decode cX6_alters 213 = .ok (.iconst 5, 1) := by decide +kernel
theorem dX6_alters_214 : decode cX6_alters 214 = .ok (.iload_n 2, 1) := by decide +kernel
theorem dX6_alters_215 : decode cX6_alters 215 = .ok (.imul, 1) := by decide +kernel
theorem dX6_alters_216 : decode cX6_alters 216 = .ok (.iload_n 1, 1) := by decide +kernel
theorem dX6_alters_217 : decode cX6_alters 217 = .ok (.iadd, 1) := by decide +kernel
theorem dX6_alters_218 : decode cX6_alters 218 = .ok (.iaload, 1) := by decide +kernel
theorem dX6_alters_219 : decode cX6_alters 219 = .ok (.iload 8, 2) := by decide +kernel
theorem dX6_alters_221 : decode cX6_alters 221 = .ok (.iadd, 1) := by decide +kernel
theorem dX6_alters_222 : decode cX6_alters 222 = .ok (.istore 9, 2) := by decide +kernel
theorem dX6_alters_224 : decode cX6_alters 224 = .ok (.aload_n 0, 1) := by decide +kernel
theorem dX6_alters_225 : decode cX6_alters 225 = .ok (.getfield 7, 3) := by decide +kernel
theorem dX6_alters_228 : decode cX6_alters 228 = .ok (.iconst 5, 1) := by decide +kernel
theorem dX6_alters_229 : decode cX6_alters 229 = .ok (.iload_n 2, 1) := by decide +kernel
theorem dX6_alters_230 : decode cX6_alters 230 = .ok (.imul, 1) := by decide +kernel
theorem dX6_alters_231 : decode cX6_alters 231 = .ok (.iload_n 1, 1) := by decide +kernel
theorem dX6_alters_232 : decode cX6_alters 232 = .ok (.iadd, 1) := by decide +kernel
theorem dX6_alters_233 : decode cX6_alters 233 = .ok (.iload_n 3, 1) := by decide +kernel
theorem dX6_alters_234 : decode cX6_alters 234 = .ok (.iload 8, 2) := by decide +kernel
theorem dX6_alters_236 : decode cX6_alters 236 = .ok (.isub, 1) := by decide +kernel
theorem dX6_alters_237 : decode cX6_alters 237 = .ok (.iastore, 1) := by decide +kernel
theorem dX6_alters_238 : decode cX6_alters 238 = .ok (.iload 9, 2) := by decide +kernel
theorem dX6_alters_240 : decode cX6_alters 240 = .ok (.ireturn, 1) := by decide +kernel
theorem dX6_alter_0 : decode cX6_alter 0 = .ok (.aload_n 0, 1) := by decide +kernel
theorem dX6_alter_1 : decode cX6_alter 1 = .ok (.iload_n 1, 1) := by decide +kernel
theorem dX6_alter_2 : decode cX6_alter 2 = .ok (.iload_n 2, 1) := by decide +kernel
theorem dX6_alter_3 : decode cX6_alter 3 = .ok (.iload_n 3, 1) := by decide +kernel
theorem dX6_alter_4 : decode cX6_alter 4 = .ok (.invokevirtual 157, 3) := by decide +kernel
theorem dX6_alter_7 : decode cX6_alter 7 = .ok (.ireturn, 1) := by decide +kernel
theorem dX6_add_0 : decode cX6_add 0 = .ok (.iload_n 1, 1) := by decide +kernel
theorem dX6_add_1 : decode cX6_add 1 = .ok (.i2l, 1) := by decide +kernel
theorem dX6_add_2 : decode cX6_add 2 = .ok (.lconst 0, 1) := by decide +kernel
theorem dX6_add_3 : decode cX6_add 3 = .ok (.ldc2_w 148, 3) := by decide +kernel
theorem dX6_add_6 : decode cX6_add 6 = .ok (.invokestatic 46, 3) := by decide +kernel
theorem dX6_add_9 : decode cX6_add 9 = .ok (.ifCond .eq 17, 3) := by decide +kernel
theorem dX6_add_12 : decode cX6_add 12 = .ok (.iload_n 2, 1) := by decide +kernel
theorem dX6_add_13 : decode cX6_add 13 = .ok (.i2l, 1) := by decide +kernel
theorem dX6_add_14 : decode cX6_add 14 = .ok (.ldc2_w 150, 3) := by decide +kernel
theorem dX6_add_17 : decode cX6_add 17 = .ok (.ldc2_w 152, 3) := by decide +kernel
theorem dX6_add_20 : decode cX6_add 20 = .ok (.invokestatic 46, 3) := by decide +kernel
theorem dX6_add_23 : decode cX6_add 23 = .ok (.ifCond .ne 5, 3) := by decide +kernel
theorem dX6_add_26 : decode cX6_add 26 = .ok (.iconst (-1), 1) := by decide +kernel
theorem dX6_add_27 : decode cX6_add 27 = .ok (.ireturn, 1) := by decide +kernel
theorem dX6_add_28 : decode cX6_add 28 = .ok (.aload_n 0, 1) := by decide +kernel
theorem dX6_add_29 : decode cX6_add 29 = .ok (.getfield 7, 3) := by decide +kernel
theorem dX6_add_32 : decode cX6_add 32 = .ok (.bipush 20, 2) := by decide +kernel
theorem dX6_add_34 : decode cX6_add 34 = .ok (.iaload, 1) := by decide +kernel
theorem dX6_add_35 : decode cX6_add 35 = .ok (.istore_n 3, 1) := by decide +kernel
theorem dX6_add_36 : decode cX6_add 36 = .ok (.iload_n 3, 1) := by decide +kernel
theorem dX6_add_37 : decode cX6_add 37 = .ok (.iconst 5, 1) := by decide +kernel
theorem dX6_add_38 : decode cX6_add 38 = .ok (.if_icmp .ne 6, 3) := by decide +kernel
theorem dX6_add_41 : decode cX6_add 41 = .ok (.bipush (-3), 2) := by decide +kernel
theorem dX6_add_43 : decode cX6_add 43 = .ok (.ireturn, 1) := by decide +kernel
theorem dX6_add_44 : decode cX6_add 44 = .ok (.aload_n 0, 1) := by decide +kernel
theorem dX6_add_45 : decode cX6_add 45 = .ok (.getfield 7, 3) := by decide +kernel
theorem dX6_add_48 : decode cX6_add 48 = .ok (.iload_n 3, 1) := by decide +kernel
theorem dX6_add_49 : decode cX6_add 49 = .ok (.iload_n 1, 1) := by decide +kernel
theorem dX6_add_50 : decode cX6_add 50 = .ok (.iastore, 1) := by decide +kernel
theorem dX6_add_51 : decode cX6_add 51 = .ok (.aload_n 0, 1) := by decide +kernel
theorem dX6_add_52 : decode cX6_add 52 = .ok (.getfield 7, 3) := by decide +kernel
theorem dX6_add_55 : decode cX6_add 55 = .ok (.iconst 5, 1) := by decide +kernel
theorem dX6_add_56 : decode cX6_add 56 = .ok (.iload_n 3, 1) := by decide +kernel
theorem dX6_add_57 : decode cX6_add 57 = .ok (.iadd, 1) := by decide +kernel
theorem dX6_add_58 : decode cX6_add 58 = .ok (.iload_n 2, 1) := by decide +kernel
theorem dX6_add_59 : decode cX6_add 59 = .ok (.iastore, 1) := by decide +kernel
theorem dX6_add_60 : decode cX6_add 60 = .ok (.aload_n 0, 1) := by decide +kernel
theorem dX6_add_61 : decode cX6_add 61 = .ok (.getfield 7, 3) := by decide +kernel
theorem dX6_add_64 : decode cX6_add 64 = .ok (.bipush 10, 2) := by decide +kernel
theorem dX6_add_66 : decode cX6_add 66 = .ok (.iload_n 3, 1) := by decide +kernel
theorem dX6_add_67 : decode cX6_add 67 = .ok (.iadd, 1) := by decide +kernel
theorem dX6_add_68 : decode cX6_add 68 = .ok (.iconst 0, 1) := by decide +kernel
theorem dX6_add_69 : decode cX6_add 69 = .ok (.iastore, 1) := by decide +kernel
theorem dX6_add_70 : decode cX6_add 70 = .ok (.aload_n 0, 1) := by decide +kernel
theorem dX6_add_71 : decode cX6_add 71 = .ok (.getfield 7, 3) := by decide +kernel
theorem dX6_add_74 : decode cX6_add 74 = .ok (.bipush 15, 2) := by decide +kernel
theorem dX6_add_76 : decode cX6_add 76 = .ok (.iload_n 3, 1) := by decide +kernel
theorem dX6_add_77 : decode cX6_add 77 = .ok (.iadd, 1) := by decide +kernel
theorem dX6_add_78 : decode cX6_add 78 = .ok (.iconst 0, 1) := by decide +kernel
theorem dX6_add_79 : decode cX6_add 79 = .ok (.iastore, 1) := by decide +kernel
theorem dX6_add_80 : decode cX6_add 80 = .ok (.aload_n 0, 1) := by decide +kernel
theorem dX6_add_81 : decode cX6_add 81 = .ok (.getfield 7, 3) := by decide +kernel
theorem dX6_add_84 : decode cX6_add 84 = .ok (.bipush 20, 2) := by decide +kernel
theorem dX6_add_86 : decode cX6_add 86 = .ok (.dup2, 1) := by decide +kernel
theorem dX6_add_87 : decode cX6_add 87 = .ok (.iaload, 1) := by decide +kernel
theorem dX6_add_88 : decode cX6_add 88 = .ok (.iconst 1, 1) := by decide +kernel
theorem dX6_add_89 : decode cX6_add 89 = .ok (.iadd, 1) := by decide +kernel
theorem dX6_add_90 : decode cX6_add 90 = .ok (.iastore, 1) := by decide +kernel
theorem dX6_add_91 : decode cX6_add 91 = .ok (.aload_n 0, 1) := by decide +kernel
theorem dX6_add_92 : decode cX6_add 92 = .ok (.getfield 7, 3) := by decide +kernel
theorem dX6_add_95 : decode cX6_add 95 = .ok (.bipush 20, 2) := by decide +kernel
theorem dX6_add_97 : decode cX6_add 97 = .ok (.iaload, 1) := by decide +kernel
theorem dX6_add_98 : decode cX6_add 98 = .ok (.ireturn, 1) := by decide +kernel
theorem dX6_cut_0 : decode cX6_cut 0 = .ok (.iload_n 1, 1) := by decide +kernel
theorem dX6_cut_1 : decode cX6_cut 1 = .ok (.i2l, 1) := by decide +kernel
theorem dX6_cut_2 : decode cX6_cut 2 = .ok (.lconst 0, 1) := by decide +kernel
theorem dX6_cut_3 : decode cX6_cut 3 = .ok (.aload_n 0, 1) := by decide +kernel
theorem dX6_cut_4 : decode cX6_cut 4 = .ok (.getfield 7, 3) := by decide +kernel
theorem dX6_cut_7 : decode cX6_cut 7 = .ok (.bipush 20, 2) := by decide +kernel
theorem dX6_cut_9 : decode cX6_cut 9 = .ok (.iaload, 1) := by decide +kernel
theorem dX6_cut_10 : decode cX6_cut 10 = .ok (.i2l, 1) := by decide +kernel
theorem dX6_cut_11 : decode cX6_cut 11 = .ok (.invokestatic 46, 3) := by decide +kernel
theorem dX6_cut_14 : decode cX6_cut 14 = .ok (.ifCond .ne 5, 3) := by decide +kernel
theorem dX6_cut_17 : decode cX6_cut 17 = .ok (.iconst (-1), 1) := by decide +kernel
theorem dX6_cut_18 : decode cX6_cut 18 = .ok (.ireturn, 1) := by decide +kernel
theorem dX6_cut_19 : decode cX6_cut 19 = .ok (.aload_n 0, 1) := by decide +kernel
theorem dX6_cut_20 : decode cX6_cut 20 = .ok (.getfield 7, 3) := by decide +kernel
theorem dX6_cut_23 : decode cX6_cut 23 = .ok (.bipush 20, 2) := by decide +kernel
theorem dX6_cut_25 : decode cX6_cut 25 = .ok (.iaload, 1) := by decide +kernel
theorem dX6_cut_26 : decode cX6_cut 26 = .ok (.istore_n 2, 1) := by decide +kernel
theorem dX6_cut_27 : decode cX6_cut 27 = .ok (.aload_n 0, 1) := by decide +kernel
theorem dX6_cut_28 : decode cX6_cut 28 = .ok (.getfield 7, 3) := by decide +kernel
theorem dX6_cut_31 : decode cX6_cut 31 = .ok (.bipush 20, 2) := by decide +kernel
theorem dX6_cut_33 : decode cX6_cut 33 = .ok (.iload_n 1, 1) := by decide +kernel
theorem dX6_cut_34 : decode cX6_cut 34 = .ok (.iastore, 1) := by decide +kernel
theorem dX6_cut_35 : decode cX6_cut 35 = .ok (.iload_n 2, 1) := by decide +kernel
theorem dX6_cut_36 : decode cX6_cut 36 = .ok (.ireturn, 1) := by decide +kernel
theorem dX6_turn_0 : decode cX6_turn 0 = .ok (.aload_n 0, 1) := by decide +kernel
theorem dX6_turn_1 : decode cX6_turn 1 = .ok (.iload_n 1, 1) := by decide +kernel
theorem dX6_turn_2 : decode cX6_turn 2 = .ok (.invokevirtual 144, 3) := by decide +kernel
theorem dX6_turn_5 : decode cX6_turn 5 = .ok (.ifCond .ne 5, 3) := by decide +kernel
theorem dX6_turn_8 : decode cX6_turn 8 = .ok (.iconst (-1), 1) := by decide +kernel
theorem dX6_turn_9 : decode cX6_turn 9 = .ok (.ireturn, 1) := by decide +kernel
theorem dX6_turn_10 : decode cX6_turn 10 = .ok (.aload_n 0, 1) := by decide +kernel
theorem dX6_turn_11 : decode cX6_turn 11 = .ok (.iconst 0, 1) := by decide +kernel
theorem dX6_turn_12 : decode cX6_turn 12 = .ok (.iload_n 1, 1) := by decide +kernel
theorem dX6_turn_13 : decode cX6_turn 13 = .ok (.invokevirtual 131, 3) := by decide +kernel
theorem dX6_turn_16 : decode cX6_turn 16 = .ok (.aload_n 0, 1) := by decide +kernel
theorem dX6_turn_17 : decode cX6_turn 17 = .ok (.iconst 0, 1) := by decide +kernel
theorem dX6_turn_18 : decode cX6_turn 18 = .ok (.invokevirtual 135, 3) := by decide +kernel
theorem dX6_turn_21 : decode cX6_turn 21 = .ok (.ireturn, 1) := by decide +kernel
theorem dX6_clear_0 : decode cX6_clear 0 = .ok (.aload_n 0, 1) := by decide +kernel
theorem dX6_clear_1 : decode cX6_clear 1 = .ok (.iconst 0, 1) := by decide +kernel
theorem dX6_clear_2 : decode cX6_clear 2 = .ok (.invokevirtual 135, 3) := by decide +kernel
theorem dX6_clear_5 : decode cX6_clear 5 = .ok (.istore_n 1, 1) := by decide +kernel
theorem dX6_clear_6 : decode cX6_clear 6 = .ok (.iconst 0, 1) := by decide +kernel
theorem dX6_clear_7 : decode cX6_clear 7 = .ok (.istore_n 2, 1) := by decide +kernel
theorem dX6_clear_8 : decode cX6_clear 8 = .ok (.iload_n 2, 1) := by decide +kernel
theorem dX6_clear_9 : decode cX6_clear 9 = .ok (.iconst 5, 1) := by decide +kernel
theorem dX6_clear_10 : decode cX6_clear 10 = .ok (.if_icmp .ge 19, 3) := by decide +kernel
theorem dX6_clear_13 : decode cX6_clear 13 = .ok (.aload_n 0, 1) := by decide +kernel
theorem dX6_clear_14 : decode cX6_clear 14 = .ok (.getfield 7, 3) := by decide +kernel
theorem dX6_clear_17 : decode cX6_clear 17 = .ok (.bipush 10, 2) := by decide +kernel
theorem dX6_clear_19 : decode cX6_clear 19 = .ok (.iload_n 2, 1) := by decide +kernel
theorem dX6_clear_20 : decode cX6_clear 20 = .ok (.iadd, 1) := by decide +kernel
theorem dX6_clear_21 : decode cX6_clear 21 = .ok (.iconst 0, 1) := by decide +kernel
theorem dX6_clear_22 : decode cX6_clear 22 = .ok (.iastore, 1) := by decide +kernel
theorem dX6_clear_23 : decode cX6_clear 23 = .ok (.iinc 2 1, 3) := by decide +kernel
theorem dX6_clear_26 : decode cX6_clear 26 = .ok (.goto (-18), 3) := by decide +kernel
theorem dX6_clear_29 : decode cX6_clear 29 = .ok (.aload_n 0, 1) := by decide +kernel
theorem dX6_clear_30 : decode cX6_clear 30 = .ok (.getfield 7, 3) := by decide +kernel
theorem dX6_clear_33 : decode cX6_clear 33 = .ok (.bipush 21, 2) := by decide +kernel
theorem dX6_clear_35 : decode cX6_clear 35 = .ok (.iconst 0, 1) := by decide +kernel
theorem dX6_clear_36 : decode cX6_clear 36 = .ok (.iastore, 1) := by decide +kernel
theorem dX6_clear_37 : decode cX6_clear 37 = .ok (.iload_n 1, 1) := by decide +kernel
theorem dX6_clear_38 : decode cX6_clear 38 = .ok (.ireturn, 1) := by decide +kernel
theorem dX6_pushes_0 : decode cX6_pushes 0 = .ok (.iload_n 1, 1) := by decide +kernel
theorem dX6_pushes_1 : decode cX6_pushes 1 = .ok (.i2l, 1) := by decide +kernel
theorem dX6_pushes_2 : decode cX6_pushes 2 = .ok (.lconst 0, 1) := by decide +kernel
theorem dX6_pushes_3 : decode cX6_pushes 3 = .ok (.ldc2_w 161, 3) := by decide +kernel
theorem dX6_pushes_6 : decode cX6_pushes 6 = .ok (.invokestatic 46, 3) := by decide +kernel
theorem dX6_pushes_9 : decode cX6_pushes 9 = .ok (.ifCond .ne 5, 3) := by decide +kernel
theorem dX6_pushes_12 : decode cX6_pushes 12 = .ok (.iconst (-1), 1) := by decide +kernel
theorem dX6_pushes_13 : decode cX6_pushes 13 = .ok (.ireturn, 1) := by decide +kernel
theorem dX6_pushes_14 : decode cX6_pushes 14 = .ok (.aload_n 0, 1) := by decide +kernel
theorem dX6_pushes_15 : decode cX6_pushes 15 = .ok (.getfield 7, 3) := by decide +kernel
theorem dX6_pushes_18 : decode cX6_pushes 18 = .ok (.bipush 21, 2) := by decide +kernel
theorem dX6_pushes_20 : decode cX6_pushes 20 = .ok (.iaload, 1) := by decide +kernel
theorem dX6_pushes_21 : decode cX6_pushes 21 = .ok (.iload_n 1, 1) := by decide +kernel
theorem dX6_pushes_22 : decode cX6_pushes 22 = .ok (.iadd, 1) := by decide +kernel
theorem dX6_pushes_23 : decode cX6_pushes 23 = .ok (.ldc 163, 2) := by decide +kernel
theorem dX6_pushes_25 : decode cX6_pushes 25 = .ok (.if_icmp .le 6, 3) := by decide +kernel
theorem dX6_pushes_28 : decode cX6_pushes 28 = .ok (.bipush (-3), 2) := by decide +kernel
theorem dX6_pushes_30 : decode cX6_pushes 30 = .ok (.ireturn, 1) := by decide +kernel
theorem dX6_pushes_31 : decode cX6_pushes 31 = .ok (.iconst 0, 1) := by decide +kernel
theorem dX6_pushes_32 : decode cX6_pushes 32 = .ok (.istore_n 2, 1) := by decide +kernel
theorem dX6_pushes_33 : decode cX6_pushes 33 = .ok (.iload_n 2, 1) := by decide +kernel
theorem dX6_pushes_34 : decode cX6_pushes 34 = .ok (.iload_n 1, 1) := by decide +kernel
theorem dX6_pushes_35 : decode cX6_pushes 35 = .ok (.if_icmp .ge 14, 3) := by decide +kernel
theorem dX6_pushes_38 : decode cX6_pushes 38 = .ok (.aload_n 0, 1) := by decide +kernel
theorem dX6_pushes_39 : decode cX6_pushes 39 = .ok (.iconst 0, 1) := by decide +kernel
theorem dX6_pushes_40 : decode cX6_pushes 40 = .ok (.invokevirtual 164, 3) := by decide +kernel
theorem dX6_pushes_43 : decode cX6_pushes 43 = .ok (.iinc 2 1, 3) := by decide +kernel
theorem dX6_pushes_46 : decode cX6_pushes 46 = .ok (.goto (-13), 3) := by decide +kernel
theorem dX6_pushes_49 : decode cX6_pushes 49 = .ok (.aload_n 0, 1) := by decide +kernel
theorem dX6_pushes_50 : decode cX6_pushes 50 = .ok (.iconst 0, 1) := by decide +kernel
theorem dX6_pushes_51 : decode cX6_pushes 51 = .ok (.invokevirtual 135, 3) := by decide +kernel
theorem dX6_pushes_54 : decode cX6_pushes 54 = .ok (.ireturn, 1) := by decide +kernel
theorem dX6_copies_0 : decode cX6_copies 0 = .ok (.iconst 0, 1) := by decide +kernel
theorem dX6_copies_1 : decode cX6_copies 1 = .ok (.istore_n 3, 1) := by decide +kernel
theorem dX6_copies_2 : decode cX6_copies 2 = .ok (.iload_n 3, 1) := by decide +kernel
theorem dX6_copies_3 : decode cX6_copies 3 = .ok (.bipush 22, 2) := by decide +kernel
theorem dX6_copies_5 : decode cX6_copies 5 = .ok (.if_icmp .ge 25, 3) := by decide +kernel
theorem dX6_copies_8 : decode cX6_copies 8 = .ok (.aload_n 0, 1) := by decide +kernel
theorem dX6_copies_9 : decode cX6_copies 9 = .ok (.getfield 7, 3) := by decide +kernel
theorem dX6_copies_12 : decode cX6_copies 12 = .ok (.iload_n 2, 1) := by decide +kernel
theorem dX6_copies_13 : decode cX6_copies 13 = .ok (.iload_n 3, 1) := by decide +kernel
theorem dX6_copies_14 : decode cX6_copies 14 = .ok (.iadd, 1) := by decide +kernel
theorem dX6_copies_15 : decode cX6_copies 15 = .ok (.aload_n 0, 1) := by decide +kernel
theorem dX6_copies_16 : decode cX6_copies 16 = .ok (.getfield 7, 3) := by decide +kernel
theorem dX6_copies_19 : decode cX6_copies 19 = .ok (.iload_n 1, 1) := by decide +kernel
theorem dX6_copies_20 : decode cX6_copies 20 = .ok (.iload_n 3, 1) := by decide +kernel
theorem dX6_copies_21 : decode cX6_copies 21 = .ok (.iadd, 1) := by decide +kernel
theorem dX6_copies_22 : decode cX6_copies 22 = .ok (.iaload, 1) := by decide +kernel
theorem dX6_copies_23 : decode cX6_copies 23 = .ok (.iastore, 1) := by decide +kernel
theorem dX6_copies_24 : decode cX6_copies 24 = .ok (.iinc 3 1, 3) := by decide +kernel
theorem dX6_copies_27 : decode cX6_copies 27 = .ok (.goto (-25), 3) := by decide +kernel
theorem dX6_copies_30 : decode cX6_copies 30 = .ok (.return_, 1) := by decide +kernel
theorem dX6_pushesGo_0 : decode cX6_pushesGo 0 = .ok (.aload_n 0, 1) := by decide +kernel
theorem dX6_pushesGo_1 : decode cX6_pushesGo 1 = .ok (.iload_n 1, 1) := by decide +kernel
theorem dX6_pushesGo_2 : decode cX6_pushesGo 2 = .ok (.bipush 88, 2) := by decide +kernel
theorem dX6_pushesGo_4 : decode cX6_pushesGo 4 = .ok (.invokevirtual 167, 3) := by decide +kernel
theorem dX6_pushesGo_7 : decode cX6_pushesGo 7 = .ok (.aload_n 0, 1) := by decide +kernel
theorem dX6_pushesGo_8 : decode cX6_pushesGo 8 = .ok (.iconst 0, 1) := by decide +kernel
theorem dX6_pushesGo_9 : decode cX6_pushesGo 9 = .ok (.putfield 125, 3) := by decide +kernel
theorem dX6_pushesGo_12 : decode cX6_pushesGo 12 = .ok (.aload_n 0, 1) := by decide +kernel
theorem dX6_pushesGo_13 : decode cX6_pushesGo 13 = .ok (.iconst 0, 1) := by decide +kernel
theorem dX6_pushesGo_14 : decode cX6_pushesGo 14 = .ok (.putfield 170, 3) := by decide +kernel
theorem dX6_pushesGo_17 : decode cX6_pushesGo 17 = .ok (.aload_n 0, 1) := by decide +kernel
theorem dX6_pushesGo_18 : decode cX6_pushesGo 18 = .ok (.bipush 88, 2) := by decide +kernel
theorem dX6_pushesGo_20 : decode cX6_pushesGo 20 = .ok (.invokevirtual 135, 3) := by decide +kernel
theorem dX6_pushesGo_23 : decode cX6_pushesGo 23 = .ok (.istore_n 3, 1) := by decide +kernel
theorem dX6_pushesGo_24 : decode cX6_pushesGo 24 = .ok (.aload_n 0, 1) := by decide +kernel
theorem dX6_pushesGo_25 : decode cX6_pushesGo 25 = .ok (.iload_n 3, 1) := by decide +kernel
theorem dX6_pushesGo_26 : decode cX6_pushesGo 26 = .ok (.putfield 173, 3) := by decide +kernel
theorem dX6_pushesGo_29 : decode cX6_pushesGo 29 = .ok (.iconst 0, 1) := by decide +kernel
theorem dX6_pushesGo_30 : decode cX6_pushesGo 30 = .ok (.istore 4, 2) := by decide +kernel
theorem dX6_pushesGo_32 : decode cX6_pushesGo 32 = .ok (.iload 4, 2) := by decide +kernel
theorem dX6_pushesGo_34 : decode cX6_pushesGo 34 = .ok (.iload_n 2, 1) := by decide +kernel
theorem dX6_pushesGo_35 : decode cX6_pushesGo 35 = .ok (.if_icmp .ge 60, 3) := by decide +kernel
theorem dX6_pushesGo_38 : decode cX6_pushesGo 38 = .ok (.aload_n 0, 1) := by decide +kernel
theorem dX6_pushesGo_39 : decode cX6_pushesGo 39 = .ok (.bipush 88, 2) := by decide +kernel
theorem dX6_pushesGo_41 : decode cX6_pushesGo 41 = .ok (.invokevirtual 164, 3) := by decide +kernel
theorem dX6_pushesGo_44 : decode cX6_pushesGo 44 = .ok (.aload_n 0, 1) := by decide +kernel
theorem dX6_pushesGo_45 : decode cX6_pushesGo 45 = .ok (.bipush 88, 2) := by decide +kernel
theorem dX6_pushesGo_47 : decode cX6_pushesGo 47 = .ok (.invokevirtual 135, 3) := by decide +kernel
theorem dX6_pushesGo_50 : decode cX6_pushesGo 50 = .ok (.istore_n 3, 1) := by decide +kernel
theorem dX6_pushesGo_51 : decode cX6_pushesGo 51 = .ok (.aload_n 0, 1) := by decide +kernel
theorem dX6_pushesGo_52 : decode cX6_pushesGo 52 = .ok (.iload_n 3, 1) := by decide +kernel
theorem dX6_pushesGo_53 : decode cX6_pushesGo 53 = .ok (.aload_n 0, 1) := by decide +kernel
theorem dX6_pushesGo_54 : decode cX6_pushesGo 54 = .ok (.getfield 173, 3) := by decide +kernel
theorem dX6_pushesGo_57 : decode cX6_pushesGo 57 = .ok (.if_icmp .le 7, 3) := by decide +kernel
theorem dX6_pushesGo_60 : decode cX6_pushesGo 60 = .ok (.iload_n 3, 1) := by decide +kernel
theorem dX6_pushesGo_61 : decode cX6_pushesGo 61 = .ok (.goto 7, 3) := by decide +kernel
theorem dX6_pushesGo_64 : decode cX6_pushesGo 64 = .ok (.aload_n 0, 1) := by decide +kernel
theorem dX6_pushesGo_65 : decode cX6_pushesGo 65 = .ok (.getfield 173, 3) := by decide +kernel
theorem dX6_pushesGo_68 : decode cX6_pushesGo 68 = .ok (.putfield 173, 3) := by decide +kernel
theorem dX6_pushesGo_71 : decode cX6_pushesGo 71 = .ok (.aload_n 0, 1) := by decide +kernel
theorem dX6_pushesGo_72 : decode cX6_pushesGo 72 = .ok (.dup, 1) := by decide +kernel
theorem dX6_pushesGo_73 : decode cX6_pushesGo 73 = .ok (.getfield 170, 3) := by decide +kernel
theorem dX6_pushesGo_76 : decode cX6_pushesGo 76 = .ok (.iload_n 3, 1) := by decide +kernel
theorem dX6_pushesGo_77 : decode cX6_pushesGo 77 = .ok (.ifCond .ne 7, 3) := by decide +kernel
theorem dX6_pushesGo_80 : decode cX6_pushesGo 80 = .ok (.iconst 1, 1) := by decide +kernel
theorem dX6_pushesGo_81 : decode cX6_pushesGo 81 = .ok (.goto 4, 3) := by decide +kernel
theorem dX6_pushesGo_84 : decode cX6_pushesGo 84 = .ok (.iconst 0, 1) := by decide +kernel
theorem dX6_pushesGo_85 : decode cX6_pushesGo 85 = .ok (.iadd, 1) := by decide +kernel
theorem dX6_pushesGo_86 : decode cX6_pushesGo 86 = .ok (.putfield 170, 3) := by decide +kernel
theorem dX6_pushesGo_89 : decode cX6_pushesGo 89 = .ok (.iinc 4 1, 3) := by decide +kernel
end
section
theorem dX6_pushesGo_92 : decode cX6_pushesGo 92 = .ok (.goto (-60), 3) := by decide +kernel
theorem dX6_pushesGo_95 : decode cX6_pushesGo 95 = .ok (.iload_n 3, 1) := by decide +kernel
theorem dX6_pushesGo_96 : decode cX6_pushesGo 96 = .ok (.ireturn, 1) := by decide +kernel
theorem dX6_runs_0 : decode cX6_runs 0 = .ok (.iload_n 1, 1) := by decide +kernel
theorem dX6_runs_1 : decode cX6_runs 1 = .ok (.i2l, 1) := by decide +kernel
theorem dX6_runs_2 : decode cX6_runs 2 = .ok (.lconst 0, 1) := by decide +kernel
theorem dX6_runs_3 : decode cX6_runs 3 = .ok (.ldc2_w 161, 3) := by decide +kernel
theorem dX6_runs_6 : decode cX6_runs 6 = .ok (.invokestatic 46, 3) := by decide +kernel
theorem dX6_runs_9 : decode cX6_runs 9 = .ok (.ifCond .eq 15, 3) := by decide +kernel
theorem dX6_runs_12 : decode cX6_runs 12 = .ok (.iload_n 2, 1) := by decide +kernel
theorem dX6_runs_13 : decode cX6_runs 13 = .ok (.i2l, 1) := by decide +kernel
theorem dX6_runs_14 : decode cX6_runs 14 = .ok (.lconst 0, 1) := by decide +kernel
theorem dX6_runs_15 : decode cX6_runs 15 = .ok (.ldc2_w 99, 3) := by decide +kernel
theorem dX6_runs_18 : decode cX6_runs 18 = .ok (.invokestatic 46, 3) := by decide +kernel
theorem dX6_runs_21 : decode cX6_runs 21 = .ok (.ifCond .ne 5, 3) := by decide +kernel
theorem dX6_runs_24 : decode cX6_runs 24 = .ok (.iconst (-1), 1) := by decide +kernel
theorem dX6_runs_25 : decode cX6_runs 25 = .ok (.ireturn, 1) := by decide +kernel
theorem dX6_runs_26 : decode cX6_runs 26 = .ok (.aload_n 0, 1) := by decide +kernel
theorem dX6_runs_27 : decode cX6_runs 27 = .ok (.iconst 0, 1) := by decide +kernel
theorem dX6_runs_28 : decode cX6_runs 28 = .ok (.iload_n 1, 1) := by decide +kernel
theorem dX6_runs_29 : decode cX6_runs 29 = .ok (.invokevirtual 176, 3) := by decide +kernel
theorem dX6_runs_32 : decode cX6_runs 32 = .ok (.istore_n 3, 1) := by decide +kernel
theorem dX6_runs_33 : decode cX6_runs 33 = .ok (.iload_n 2, 1) := by decide +kernel
theorem dX6_runs_34 : decode cX6_runs 34 = .ok (.tableswitch 49 0 3 #[30, 32, 37, 42], 30) := by decide +kernel
theorem dX6_runs_64 : decode cX6_runs 64 = .ok (.iload_n 3, 1) := by decide +kernel
theorem dX6_runs_65 : decode cX6_runs 65 = .ok (.ireturn, 1) := by decide +kernel
theorem dX6_runs_66 : decode cX6_runs 66 = .ok (.aload_n 0, 1) := by decide +kernel
theorem dX6_runs_67 : decode cX6_runs 67 = .ok (.getfield 125, 3) := by decide +kernel
theorem dX6_runs_70 : decode cX6_runs 70 = .ok (.ireturn, 1) := by decide +kernel
theorem dX6_runs_71 : decode cX6_runs 71 = .ok (.aload_n 0, 1) := by decide +kernel
theorem dX6_runs_72 : decode cX6_runs 72 = .ok (.getfield 173, 3) := by decide +kernel
theorem dX6_runs_75 : decode cX6_runs 75 = .ok (.ireturn, 1) := by decide +kernel
theorem dX6_runs_76 : decode cX6_runs 76 = .ok (.aload_n 0, 1) := by decide +kernel
theorem dX6_runs_77 : decode cX6_runs 77 = .ok (.bipush 88, 2) := by decide +kernel
theorem dX6_runs_79 : decode cX6_runs 79 = .ok (.invokevirtual 141, 3) := by decide +kernel
theorem dX6_runs_82 : decode cX6_runs 82 = .ok (.ireturn, 1) := by decide +kernel
theorem dX6_runs_83 : decode cX6_runs 83 = .ok (.aload_n 0, 1) := by decide +kernel
theorem dX6_runs_84 : decode cX6_runs 84 = .ok (.getfield 170, 3) := by decide +kernel
theorem dX6_runs_87 : decode cX6_runs 87 = .ok (.ireturn, 1) := by decide +kernel
theorem dX6_ahead_0 : decode cX6_ahead 0 = .ok (.aload_n 0, 1) := by decide +kernel
theorem dX6_ahead_1 : decode cX6_ahead 1 = .ok (.iload_n 1, 1) := by decide +kernel
theorem dX6_ahead_2 : decode cX6_ahead 2 = .ok (.invokevirtual 144, 3) := by decide +kernel
theorem dX6_ahead_5 : decode cX6_ahead 5 = .ok (.ifCond .eq 15, 3) := by decide +kernel
theorem dX6_ahead_8 : decode cX6_ahead 8 = .ok (.iload_n 2, 1) := by decide +kernel
theorem dX6_ahead_9 : decode cX6_ahead 9 = .ok (.i2l, 1) := by decide +kernel
theorem dX6_ahead_10 : decode cX6_ahead 10 = .ok (.lconst 0, 1) := by decide +kernel
theorem dX6_ahead_11 : decode cX6_ahead 11 = .ok (.ldc2_w 161, 3) := by decide +kernel
theorem dX6_ahead_14 : decode cX6_ahead 14 = .ok (.invokestatic 46, 3) := by decide +kernel
theorem dX6_ahead_17 : decode cX6_ahead 17 = .ok (.ifCond .ne 5, 3) := by decide +kernel
theorem dX6_ahead_20 : decode cX6_ahead 20 = .ok (.iconst (-1), 1) := by decide +kernel
theorem dX6_ahead_21 : decode cX6_ahead 21 = .ok (.ireturn, 1) := by decide +kernel
theorem dX6_ahead_22 : decode cX6_ahead 22 = .ok (.aload_n 0, 1) := by decide +kernel
theorem dX6_ahead_23 : decode cX6_ahead 23 = .ok (.iconst 0, 1) := by decide +kernel
theorem dX6_ahead_24 : decode cX6_ahead 24 = .ok (.iload_n 2, 1) := by decide +kernel
theorem dX6_ahead_25 : decode cX6_ahead 25 = .ok (.invokevirtual 176, 3) := by decide +kernel
theorem dX6_ahead_28 : decode cX6_ahead 28 = .ok (.pop, 1) := by decide +kernel
theorem dX6_ahead_29 : decode cX6_ahead 29 = .ok (.aload_n 0, 1) := by decide +kernel
theorem dX6_ahead_30 : decode cX6_ahead 30 = .ok (.getfield 7, 3) := by decide +kernel
theorem dX6_ahead_33 : decode cX6_ahead 33 = .ok (.bipush 98, 2) := by decide +kernel
theorem dX6_ahead_35 : decode cX6_ahead 35 = .ok (.iload_n 1, 1) := by decide +kernel
theorem dX6_ahead_36 : decode cX6_ahead 36 = .ok (.iadd, 1) := by decide +kernel
theorem dX6_ahead_37 : decode cX6_ahead 37 = .ok (.iaload, 1) := by decide +kernel
theorem dX6_ahead_38 : decode cX6_ahead 38 = .ok (.ireturn, 1) := by decide +kernel
theorem dX6_firstTime_0 : decode cX6_firstTime 0 = .ok (.aload_n 0, 1) := by decide +kernel
theorem dX6_firstTime_1 : decode cX6_firstTime 1 = .ok (.iconst 0, 1) := by decide +kernel
theorem dX6_firstTime_2 : decode cX6_firstTime 2 = .ok (.bipush 88, 2) := by decide +kernel
theorem dX6_firstTime_4 : decode cX6_firstTime 4 = .ok (.invokevirtual 167, 3) := by decide +kernel
theorem dX6_firstTime_7 : decode cX6_firstTime 7 = .ok (.iconst 0, 1) := by decide +kernel
theorem dX6_firstTime_8 : decode cX6_firstTime 8 = .ok (.istore 4, 2) := by decide +kernel
theorem dX6_firstTime_10 : decode cX6_firstTime 10 = .ok (.iload 4, 2) := by decide +kernel
theorem dX6_firstTime_12 : decode cX6_firstTime 12 = .ok (.sipush 1000, 3) := by decide +kernel
theorem dX6_firstTime_15 : decode cX6_firstTime 15 = .ok (.if_icmp .gt 56, 3) := by decide +kernel
theorem dX6_firstTime_18 : decode cX6_firstTime 18 = .ok (.iload_n 1, 1) := by decide +kernel
theorem dX6_firstTime_19 : decode cX6_firstTime 19 = .ok (.bipush (-4), 2) := by decide +kernel
theorem dX6_firstTime_21 : decode cX6_firstTime 21 = .ok (.if_icmp .ne 12, 3) := by decide +kernel
theorem dX6_firstTime_24 : decode cX6_firstTime 24 = .ok (.aload_n 0, 1) := by decide +kernel
theorem dX6_firstTime_25 : decode cX6_firstTime 25 = .ok (.bipush 88, 2) := by decide +kernel
theorem dX6_firstTime_27 : decode cX6_firstTime 27 = .ok (.invokevirtual 135, 3) := by decide +kernel
theorem dX6_firstTime_30 : decode cX6_firstTime 30 = .ok (.goto 12, 3) := by decide +kernel
theorem dX6_firstTime_33 : decode cX6_firstTime 33 = .ok (.aload_n 0, 1) := by decide +kernel
theorem dX6_firstTime_34 : decode cX6_firstTime 34 = .ok (.getfield 7, 3) := by decide +kernel
theorem dX6_firstTime_37 : decode cX6_firstTime 37 = .ok (.bipush 98, 2) := by decide +kernel
theorem dX6_firstTime_39 : decode cX6_firstTime 39 = .ok (.iload_n 1, 1) := by decide +kernel
theorem dX6_firstTime_40 : decode cX6_firstTime 40 = .ok (.iadd, 1) := by decide +kernel
theorem dX6_firstTime_41 : decode cX6_firstTime 41 = .ok (.iaload, 1) := by decide +kernel
theorem dX6_firstTime_42 : decode cX6_firstTime 42 = .ok (.istore 5, 2) := by decide +kernel
theorem dX6_firstTime_44 : decode cX6_firstTime 44 = .ok (.iload 4, 2) := by decide +kernel
theorem dX6_firstTime_46 : decode cX6_firstTime 46 = .ok (.iload_n 3, 1) := by decide +kernel
theorem dX6_firstTime_47 : decode cX6_firstTime 47 = .ok (.if_icmp .lt 12, 3) := by decide +kernel
theorem dX6_firstTime_50 : decode cX6_firstTime 50 = .ok (.iload 5, 2) := by decide +kernel
theorem dX6_firstTime_52 : decode cX6_firstTime 52 = .ok (.iload_n 2, 1) := by decide +kernel
theorem dX6_firstTime_53 : decode cX6_firstTime 53 = .ok (.if_icmp .ne 6, 3) := by decide +kernel
theorem dX6_firstTime_56 : decode cX6_firstTime 56 = .ok (.iload 4, 2) := by decide +kernel
theorem dX6_firstTime_58 : decode cX6_firstTime 58 = .ok (.ireturn, 1) := by decide +kernel
theorem dX6_firstTime_59 : decode cX6_firstTime 59 = .ok (.aload_n 0, 1) := by decide +kernel
theorem dX6_firstTime_60 : decode cX6_firstTime 60 = .ok (.bipush 88, 2) := by decide +kernel
theorem dX6_firstTime_62 : decode cX6_firstTime 62 = .ok (.invokevirtual 164, 3) := by decide +kernel
theorem dX6_firstTime_65 : decode cX6_firstTime 65 = .ok (.iinc 4 1, 3) := by decide +kernel
theorem dX6_firstTime_68 : decode cX6_firstTime 68 = .ok (.goto (-58), 3) := by decide +kernel
theorem dX6_firstTime_71 : decode cX6_firstTime 71 = .ok (.bipush (-4), 2) := by decide +kernel
theorem dX6_firstTime_73 : decode cX6_firstTime 73 = .ok (.ireturn, 1) := by decide +kernel
theorem dX6_when_0 : decode cX6_when 0 = .ok (.iload_n 1, 1) := by decide +kernel
theorem dX6_when_1 : decode cX6_when 1 = .ok (.invokestatic 179, 3) := by decide +kernel
theorem dX6_when_4 : decode cX6_when 4 = .ok (.ifCond .eq 14, 3) := by decide +kernel
theorem dX6_when_7 : decode cX6_when 7 = .ok (.aload_n 0, 1) := by decide +kernel
theorem dX6_when_8 : decode cX6_when 8 = .ok (.bipush (-4), 2) := by decide +kernel
theorem dX6_when_10 : decode cX6_when 10 = .ok (.iload_n 1, 1) := by decide +kernel
theorem dX6_when_11 : decode cX6_when 11 = .ok (.iconst 0, 1) := by decide +kernel
theorem dX6_when_12 : decode cX6_when 12 = .ok (.invokevirtual 182, 3) := by decide +kernel
theorem dX6_when_15 : decode cX6_when 15 = .ok (.goto 4, 3) := by decide +kernel
theorem dX6_when_18 : decode cX6_when 18 = .ok (.iconst (-1), 1) := by decide +kernel
theorem dX6_when_19 : decode cX6_when 19 = .ok (.ireturn, 1) := by decide +kernel
theorem dX6_shows_0 : decode cX6_shows 0 = .ok (.aload_n 0, 1) := by decide +kernel
theorem dX6_shows_1 : decode cX6_shows 1 = .ok (.iload_n 1, 1) := by decide +kernel
theorem dX6_shows_2 : decode cX6_shows 2 = .ok (.invokevirtual 144, 3) := by decide +kernel
theorem dX6_shows_5 : decode cX6_shows 5 = .ok (.ifCond .eq 20, 3) := by decide +kernel
theorem dX6_shows_8 : decode cX6_shows 8 = .ok (.iload_n 2, 1) := by decide +kernel
theorem dX6_shows_9 : decode cX6_shows 9 = .ok (.invokestatic 154, 3) := by decide +kernel
theorem dX6_shows_12 : decode cX6_shows 12 = .ok (.ifCond .eq 13, 3) := by decide +kernel
theorem dX6_shows_15 : decode cX6_shows 15 = .ok (.aload_n 0, 1) := by decide +kernel
theorem dX6_shows_16 : decode cX6_shows 16 = .ok (.iload_n 1, 1) := by decide +kernel
theorem dX6_shows_17 : decode cX6_shows 17 = .ok (.iload_n 2, 1) := by decide +kernel
theorem dX6_shows_18 : decode cX6_shows 18 = .ok (.iconst 0, 1) := by decide +kernel
theorem dX6_shows_19 : decode cX6_shows 19 = .ok (.invokevirtual 182, 3) := by decide +kernel
theorem dX6_shows_22 : decode cX6_shows 22 = .ok (.goto 4, 3) := by decide +kernel
theorem dX6_shows_25 : decode cX6_shows 25 = .ok (.iconst (-1), 1) := by decide +kernel
theorem dX6_shows_26 : decode cX6_shows 26 = .ok (.ireturn, 1) := by decide +kernel
theorem dX6_again_0 : decode cX6_again 0 = .ok (.aload_n 0, 1) := by decide +kernel
theorem dX6_again_1 : decode cX6_again 1 = .ok (.bipush (-4), 2) := by decide +kernel
theorem dX6_again_3 : decode cX6_again 3 = .ok (.aload_n 0, 1) := by decide +kernel
theorem dX6_again_4 : decode cX6_again 4 = .ok (.iconst 0, 1) := by decide +kernel
theorem dX6_again_5 : decode cX6_again 5 = .ok (.invokevirtual 135, 3) := by decide +kernel
theorem dX6_again_8 : decode cX6_again 8 = .ok (.iconst 1, 1) := by decide +kernel
theorem dX6_again_9 : decode cX6_again 9 = .ok (.invokevirtual 182, 3) := by decide +kernel
theorem dX6_again_12 : decode cX6_again 12 = .ok (.ireturn, 1) := by decide +kernel
theorem dX6_errorBehind_0 : decode cX6_errorBehind 0 = .ok (.aload_n 0, 1) := by decide +kernel
theorem dX6_errorBehind_1 : decode cX6_errorBehind 1 = .ok (.iload_n 1, 1) := by decide +kernel
theorem dX6_errorBehind_2 : decode cX6_errorBehind 2 = .ok (.iload_n 2, 1) := by decide +kernel
theorem dX6_errorBehind_3 : decode cX6_errorBehind 3 = .ok (.invokevirtual 176, 3) := by decide +kernel
theorem dX6_errorBehind_6 : decode cX6_errorBehind 6 = .ok (.pop, 1) := by decide +kernel
theorem dX6_errorBehind_7 : decode cX6_errorBehind 7 = .ok (.aload_n 0, 1) := by decide +kernel
theorem dX6_errorBehind_8 : decode cX6_errorBehind 8 = .ok (.bipush 88, 2) := by decide +kernel
theorem dX6_errorBehind_10 : decode cX6_errorBehind 10 = .ok (.invokevirtual 141, 3) := by decide +kernel
theorem dX6_errorBehind_13 : decode cX6_errorBehind 13 = .ok (.ireturn, 1) := by decide +kernel
theorem dX6_mend_0 : decode cX6_mend 0 = .ok (.iload_n 1, 1) := by decide +kernel
theorem dX6_mend_1 : decode cX6_mend 1 = .ok (.i2l, 1) := by decide +kernel
theorem dX6_mend_2 : decode cX6_mend 2 = .ok (.lconst 0, 1) := by decide +kernel
theorem dX6_mend_3 : decode cX6_mend 3 = .ok (.ldc2_w 185, 3) := by decide +kernel
theorem dX6_mend_6 : decode cX6_mend 6 = .ok (.invokestatic 46, 3) := by decide +kernel
theorem dX6_mend_9 : decode cX6_mend 9 = .ok (.ifCond .eq 13, 3) := by decide +kernel
theorem dX6_mend_12 : decode cX6_mend 12 = .ok (.iload_n 2, 1) := by decide +kernel
theorem dX6_mend_13 : decode cX6_mend 13 = .ok (.i2l, 1) := by decide +kernel
theorem dX6_mend_14 : decode cX6_mend 14 = .ok (.lconst 0, 1) := by decide +kernel
theorem dX6_mend_15 : decode cX6_mend 15 = .ok (.lconst 1, 1) := by decide +kernel
theorem dX6_mend_16 : decode cX6_mend 16 = .ok (.invokestatic 46, 3) := by decide +kernel
theorem dX6_mend_19 : decode cX6_mend 19 = .ok (.ifCond .ne 5, 3) := by decide +kernel
theorem dX6_mend_22 : decode cX6_mend 22 = .ok (.iconst (-1), 1) := by decide +kernel
theorem dX6_mend_23 : decode cX6_mend 23 = .ok (.ireturn, 1) := by decide +kernel
theorem dX6_mend_24 : decode cX6_mend 24 = .ok (.aload_n 0, 1) := by decide +kernel
theorem dX6_mend_25 : decode cX6_mend 25 = .ok (.iconst 0, 1) := by decide +kernel
theorem dX6_mend_26 : decode cX6_mend 26 = .ok (.iload_n 1, 1) := by decide +kernel
theorem dX6_mend_27 : decode cX6_mend 27 = .ok (.invokevirtual 187, 3) := by decide +kernel
theorem dX6_mend_30 : decode cX6_mend 30 = .ok (.istore_n 3, 1) := by decide +kernel
theorem dX6_mend_31 : decode cX6_mend 31 = .ok (.bipush (-4), 2) := by decide +kernel
theorem dX6_mend_33 : decode cX6_mend 33 = .ok (.istore 4, 2) := by decide +kernel
theorem dX6_mend_35 : decode cX6_mend 35 = .ok (.iconst 0, 1) := by decide +kernel
theorem dX6_mend_36 : decode cX6_mend 36 = .ok (.istore 5, 2) := by decide +kernel
theorem dX6_mend_38 : decode cX6_mend 38 = .ok (.iload 5, 2) := by decide +kernel
theorem dX6_mend_40 : decode cX6_mend 40 = .ok (.aload_n 0, 1) := by decide +kernel
theorem dX6_mend_41 : decode cX6_mend 41 = .ok (.getfield 7, 3) := by decide +kernel
theorem dX6_mend_44 : decode cX6_mend 44 = .ok (.bipush 20, 2) := by decide +kernel
theorem dX6_mend_46 : decode cX6_mend 46 = .ok (.iaload, 1) := by decide +kernel
theorem dX6_mend_47 : decode cX6_mend 47 = .ok (.if_icmp .ge 64, 3) := by decide +kernel
theorem dX6_mend_50 : decode cX6_mend 50 = .ok (.aload_n 0, 1) := by decide +kernel
theorem dX6_mend_51 : decode cX6_mend 51 = .ok (.iconst 0, 1) := by decide +kernel
theorem dX6_mend_52 : decode cX6_mend 52 = .ok (.bipush 110, 2) := by decide +kernel
theorem dX6_mend_54 : decode cX6_mend 54 = .ok (.invokevirtual 167, 3) := by decide +kernel
theorem dX6_mend_57 : decode cX6_mend 57 = .ok (.aload_n 0, 1) := by decide +kernel
theorem dX6_mend_58 : decode cX6_mend 58 = .ok (.getfield 7, 3) := by decide +kernel
theorem dX6_mend_61 : decode cX6_mend 61 = .ok (.bipush 125, 2) := by decide +kernel
theorem dX6_mend_63 : decode cX6_mend 63 = .ok (.iload 5, 2) := by decide +kernel
theorem dX6_mend_65 : decode cX6_mend 65 = .ok (.iadd, 1) := by decide +kernel
theorem dX6_mend_66 : decode cX6_mend 66 = .ok (.iconst 0, 1) := by decide +kernel
theorem dX6_mend_67 : decode cX6_mend 67 = .ok (.iastore, 1) := by decide +kernel
theorem dX6_mend_68 : decode cX6_mend 68 = .ok (.aload_n 0, 1) := by decide +kernel
theorem dX6_mend_69 : decode cX6_mend 69 = .ok (.bipush 110, 2) := by decide +kernel
theorem dX6_mend_71 : decode cX6_mend 71 = .ok (.iload_n 1, 1) := by decide +kernel
theorem dX6_mend_72 : decode cX6_mend 72 = .ok (.invokevirtual 187, 3) := by decide +kernel
theorem dX6_mend_75 : decode cX6_mend 75 = .ok (.istore 6, 2) := by decide +kernel
theorem dX6_mend_77 : decode cX6_mend 77 = .ok (.iload 6, 2) := by decide +kernel
theorem dX6_mend_79 : decode cX6_mend 79 = .ok (.iload_n 3, 1) := by decide +kernel
theorem dX6_mend_80 : decode cX6_mend 80 = .ok (.if_icmp .ge 8, 3) := by decide +kernel
theorem dX6_mend_83 : decode cX6_mend 83 = .ok (.iload 5, 2) := by decide +kernel
theorem dX6_mend_85 : decode cX6_mend 85 = .ok (.goto 5, 3) := by decide +kernel
theorem dX6_mend_88 : decode cX6_mend 88 = .ok (.iload 4, 2) := by decide +kernel
theorem dX6_mend_90 : decode cX6_mend 90 = .ok (.istore 4, 2) := by decide +kernel
theorem dX6_mend_92 : decode cX6_mend 92 = .ok (.iload 6, 2) := by decide +kernel
theorem dX6_mend_94 : decode cX6_mend 94 = .ok (.iload_n 3, 1) := by decide +kernel
theorem dX6_mend_95 : decode cX6_mend 95 = .ok (.if_icmp .ge 8, 3) := by decide +kernel
theorem dX6_mend_98 : decode cX6_mend 98 = .ok (.iload 6, 2) := by decide +kernel
theorem dX6_mend_100 : decode cX6_mend 100 = .ok (.goto 4, 3) := by decide +kernel
theorem dX6_mend_103 : decode cX6_mend 103 = .ok (.iload_n 3, 1) := by decide +kernel
theorem dX6_mend_104 : decode cX6_mend 104 = .ok (.istore_n 3, 1) := by decide +kernel
theorem dX6_mend_105 : decode cX6_mend 105 = .ok (.iinc 5 1, 3) := by decide +kernel
theorem dX6_mend_108 : decode cX6_mend 108 = .ok (.goto (-70), 3) := by decide +kernel
theorem dX6_mend_111 : decode cX6_mend 111 = .ok (.iload 4, 2) := by decide +kernel
theorem dX6_mend_113 : decode cX6_mend 113 = .ok (.bipush (-4), 2) := by decide +kernel
theorem dX6_mend_115 : decode cX6_mend 115 = .ok (.if_icmp .eq 7, 3) := by decide +kernel
theorem dX6_mend_118 : decode cX6_mend 118 = .ok (.iload_n 2, 1) := by decide +kernel
theorem dX6_mend_119 : decode cX6_mend 119 = .ok (.ifCond .ne 8, 3) := by decide +kernel
theorem dX6_mend_122 : decode cX6_mend 122 = .ok (.iload 4, 2) := by decide +kernel
theorem dX6_mend_124 : decode cX6_mend 124 = .ok (.goto 4, 3) := by decide +kernel
theorem dX6_mend_127 : decode cX6_mend 127 = .ok (.iload_n 3, 1) := by decide +kernel
theorem dX6_mend_128 : decode cX6_mend 128 = .ok (.ireturn, 1) := by decide +kernel
theorem dX6_swap_0 : decode cX6_swap 0 = .ok (.iload_n 1, 1) := by decide +kernel
theorem dX6_swap_1 : decode cX6_swap 1 = .ok (.i2l, 1) := by decide +kernel
theorem dX6_swap_2 : decode cX6_swap 2 = .ok (.lconst 0, 1) := by decide +kernel
theorem dX6_swap_3 : decode cX6_swap 3 = .ok (.ldc2_w 185, 3) := by decide +kernel
theorem dX6_swap_6 : decode cX6_swap 6 = .ok (.invokestatic 46, 3) := by decide +kernel
theorem dX6_swap_9 : decode cX6_swap 9 = .ok (.ifCond .eq 13, 3) := by decide +kernel
theorem dX6_swap_12 : decode cX6_swap 12 = .ok (.iload_n 2, 1) := by decide +kernel
theorem dX6_swap_13 : decode cX6_swap 13 = .ok (.i2l, 1) := by decide +kernel
theorem dX6_swap_14 : decode cX6_swap 14 = .ok (.lconst 0, 1) := by decide +kernel
theorem dX6_swap_15 : decode cX6_swap 15 = .ok (.lconst 1, 1) := by decide +kernel
theorem dX6_swap_16 : decode cX6_swap 16 = .ok (.invokestatic 46, 3) := by decide +kernel
theorem dX6_swap_19 : decode cX6_swap 19 = .ok (.ifCond .ne 5, 3) := by decide +kernel
theorem dX6_swap_22 : decode cX6_swap 22 = .ok (.iconst (-1), 1) := by decide +kernel
theorem dX6_swap_23 : decode cX6_swap 23 = .ok (.ireturn, 1) := by decide +kernel
theorem dX6_swap_24 : decode cX6_swap 24 = .ok (.aload_n 0, 1) := by decide +kernel
theorem dX6_swap_25 : decode cX6_swap 25 = .ok (.iconst 0, 1) := by decide +kernel
theorem dX6_swap_26 : decode cX6_swap 26 = .ok (.iload_n 1, 1) := by decide +kernel
theorem dX6_swap_27 : decode cX6_swap 27 = .ok (.invokevirtual 187, 3) := by decide +kernel
theorem dX6_swap_30 : decode cX6_swap 30 = .ok (.istore_n 3, 1) := by decide +kernel
theorem dX6_swap_31 : decode cX6_swap 31 = .ok (.bipush (-4), 2) := by decide +kernel
theorem dX6_swap_33 : decode cX6_swap 33 = .ok (.istore 4, 2) := by decide +kernel
theorem dX6_swap_35 : decode cX6_swap 35 = .ok (.iconst 0, 1) := by decide +kernel
theorem dX6_swap_36 : decode cX6_swap 36 = .ok (.istore 5, 2) := by decide +kernel
theorem dX6_swap_38 : decode cX6_swap 38 = .ok (.iload 5, 2) := by decide +kernel
theorem dX6_swap_40 : decode cX6_swap 40 = .ok (.aload_n 0, 1) := by decide +kernel
theorem dX6_swap_41 : decode cX6_swap 41 = .ok (.getfield 7, 3) := by decide +kernel
theorem dX6_swap_44 : decode cX6_swap 44 = .ok (.bipush 20, 2) := by decide +kernel
theorem dX6_swap_46 : decode cX6_swap 46 = .ok (.iaload, 1) := by decide +kernel
theorem dX6_swap_47 : decode cX6_swap 47 = .ok (.if_icmp .ge 145, 3) := by decide +kernel
theorem dX6_swap_50 : decode cX6_swap 50 = .ok (.iload 5, 2) := by decide +kernel
theorem dX6_swap_52 : decode cX6_swap 52 = .ok (.iconst 1, 1) := by decide +kernel
theorem dX6_swap_53 : decode cX6_swap 53 = .ok (.iadd, 1) := by decide +kernel
theorem dX6_swap_54 : decode cX6_swap 54 = .ok (.istore 6, 2) := by decide +kernel
theorem dX6_swap_56 : decode cX6_swap 56 = .ok (.iload 6, 2) := by decide +kernel
theorem dX6_swap_58 : decode cX6_swap 58 = .ok (.aload_n 0, 1) := by decide +kernel
theorem dX6_swap_59 : decode cX6_swap 59 = .ok (.getfield 7, 3) := by decide +kernel
theorem dX6_swap_62 : decode cX6_swap 62 = .ok (.bipush 20, 2) := by decide +kernel
theorem dX6_swap_64 : decode cX6_swap 64 = .ok (.iaload, 1) := by decide +kernel
theorem dX6_swap_65 : decode cX6_swap 65 = .ok (.if_icmp .ge 121, 3) := by decide +kernel
theorem dX6_swap_68 : decode cX6_swap 68 = .ok (.aload_n 0, 1) := by decide +kernel
theorem dX6_swap_69 : decode cX6_swap 69 = .ok (.iconst 0, 1) := by decide +kernel
theorem dX6_swap_70 : decode cX6_swap 70 = .ok (.bipush 110, 2) := by decide +kernel
theorem dX6_swap_72 : decode cX6_swap 72 = .ok (.invokevirtual 167, 3) := by decide +kernel
theorem dX6_swap_75 : decode cX6_swap 75 = .ok (.iconst 0, 1) := by decide +kernel
theorem dX6_swap_76 : decode cX6_swap 76 = .ok (.istore 7, 2) := by decide +kernel
theorem dX6_swap_78 : decode cX6_swap 78 = .ok (.iload 7, 2) := by decide +kernel
theorem dX6_swap_80 : decode cX6_swap 80 = .ok (.bipush 20, 2) := by decide +kernel
theorem dX6_swap_82 : decode cX6_swap 82 = .ok (.if_icmp .ge 55, 3) := by decide +kernel
theorem dX6_swap_85 : decode cX6_swap 85 = .ok (.aload_n 0, 1) := by decide +kernel
theorem dX6_swap_86 : decode cX6_swap 86 = .ok (.getfield 7, 3) := by decide +kernel
theorem dX6_swap_89 : decode cX6_swap 89 = .ok (.bipush 110, 2) := by decide +kernel
theorem dX6_swap_91 : decode cX6_swap 91 = .ok (.iload 7, 2) := by decide +kernel
theorem dX6_swap_93 : decode cX6_swap 93 = .ok (.iadd, 1) := by decide +kernel
theorem dX6_swap_94 : decode cX6_swap 94 = .ok (.iload 5, 2) := by decide +kernel
theorem dX6_swap_96 : decode cX6_swap 96 = .ok (.iadd, 1) := by decide +kernel
theorem dX6_swap_97 : decode cX6_swap 97 = .ok (.aload_n 0, 1) := by decide +kernel
theorem dX6_swap_98 : decode cX6_swap 98 = .ok (.getfield 7, 3) := by decide +kernel
theorem dX6_swap_101 : decode cX6_swap 101 = .ok (.iload 7, 2) := by decide +kernel
theorem dX6_swap_103 : decode cX6_swap 103 = .ok (.iload 6, 2) := by decide +kernel
theorem dX6_swap_105 : decode cX6_swap 105 = .ok (.iadd, 1) := by decide +kernel
theorem dX6_swap_106 : decode cX6_swap 106 = .ok (.iaload, 1) := by decide +kernel
theorem dX6_swap_107 : decode cX6_swap 107 = .ok (.iastore, 1) := by decide +kernel
theorem dX6_swap_108 : decode cX6_swap 108 = .ok (.aload_n 0, 1) := by decide +kernel
theorem dX6_swap_109 : decode cX6_swap 109 = .ok (.getfield 7, 3) := by decide +kernel
theorem dX6_swap_112 : decode cX6_swap 112 = .ok (.bipush 110, 2) := by decide +kernel
theorem dX6_swap_114 : decode cX6_swap 114 = .ok (.iload 7, 2) := by decide +kernel
theorem dX6_swap_116 : decode cX6_swap 116 = .ok (.iadd, 1) := by decide +kernel
theorem dX6_swap_117 : decode cX6_swap 117 = .ok (.iload 6, 2) := by decide +kernel
theorem dX6_swap_119 : decode cX6_swap 119 = .ok (.iadd, 1) := by decide +kernel
theorem dX6_swap_120 : decode cX6_swap 120 = .ok (.aload_n 0, 1) := by decide +kernel
theorem dX6_swap_121 : decode cX6_swap 121 = .ok (.getfield 7, 3) := by decide +kernel
theorem dX6_swap_124 : decode cX6_swap 124 = .ok (.iload 7, 2) := by decide +kernel
theorem dX6_swap_126 : decode cX6_swap 126 = .ok (.iload 5, 2) := by decide +kernel
theorem dX6_swap_128 : decode cX6_swap 128 = .ok (.iadd, 1) := by decide +kernel
theorem dX6_swap_129 : decode cX6_swap 129 = .ok (.iaload, 1) := by decide +kernel
theorem dX6_swap_130 : decode cX6_swap 130 = .ok (.iastore, 1) := by decide +kernel
theorem dX6_swap_131 : decode cX6_swap 131 = .ok (.iinc 7 5, 3) := by decide +kernel
theorem dX6_swap_134 : decode cX6_swap 134 = .ok (.goto (-56), 3) := by decide +kernel
theorem dX6_swap_137 : decode cX6_swap 137 = .ok (.aload_n 0, 1) := by decide +kernel
theorem dX6_swap_138 : decode cX6_swap 138 = .ok (.bipush 110, 2) := by decide +kernel
theorem dX6_swap_140 : decode cX6_swap 140 = .ok (.iload_n 1, 1) := by decide +kernel
theorem dX6_swap_141 : decode cX6_swap 141 = .ok (.invokevirtual 187, 3) := by decide +kernel
theorem dX6_swap_144 : decode cX6_swap 144 = .ok (.istore 7, 2) := by decide +kernel
theorem dX6_swap_146 : decode cX6_swap 146 = .ok (.iload 7, 2) := by decide +kernel
theorem dX6_swap_148 : decode cX6_swap 148 = .ok (.iload_n 3, 1) := by decide +kernel
theorem dX6_swap_149 : decode cX6_swap 149 = .ok (.if_icmp .ge 14, 3) := by decide +kernel
theorem dX6_swap_152 : decode cX6_swap 152 = .ok (.bipush 10, 2) := by decide +kernel
theorem dX6_swap_154 : decode cX6_swap 154 = .ok (.iload 5, 2) := by decide +kernel
theorem dX6_swap_156 : decode cX6_swap 156 = .ok (.imul, 1) := by decide +kernel
theorem dX6_swap_157 : decode cX6_swap 157 = .ok (.iload 6, 2) := by decide +kernel
theorem dX6_swap_159 : decode cX6_swap 159 = .ok (.iadd, 1) := by decide +kernel
theorem dX6_swap_160 : decode cX6_swap 160 = .ok (.goto 5, 3) := by decide +kernel
theorem dX6_swap_163 : decode cX6_swap 163 = .ok (.iload 4, 2) := by decide +kernel
theorem dX6_swap_165 : decode cX6_swap 165 = .ok (.istore 4, 2) := by decide +kernel
theorem dX6_swap_167 : decode cX6_swap 167 = .ok (.iload 7, 2) := by decide +kernel
theorem dX6_swap_169 : decode cX6_swap 169 = .ok (.iload_n 3, 1) := by decide +kernel
theorem dX6_swap_170 : decode cX6_swap 170 = .ok (.if_icmp .ge 8, 3) := by decide +kernel
theorem dX6_swap_173 : decode cX6_swap 173 = .ok (.iload 7, 2) := by decide +kernel
theorem dX6_swap_175 : decode cX6_swap 175 = .ok (.goto 4, 3) := by decide +kernel
theorem dX6_swap_178 : decode cX6_swap 178 = .ok (.iload_n 3, 1) := by decide +kernel
theorem dX6_swap_179 : decode cX6_swap 179 = .ok (.istore_n 3, 1) := by decide +kernel
theorem dX6_swap_180 : decode cX6_swap 180 = .ok (.iinc 6 1, 3) := by decide +kernel
theorem dX6_swap_183 : decode cX6_swap 183 = .ok (.goto (-127), 3) := by decide +kernel
theorem dX6_swap_186 : decode cX6_swap 186 = .ok (.iinc 5 1, 3) := by decide +kernel
theorem dX6_swap_189 : decode cX6_swap 189 = .ok (.goto (-151), 3) := by decide +kernel
theorem dX6_swap_192 : decode cX6_swap 192 = .ok (.iload 4, 2) := by decide +kernel
theorem dX6_swap_194 : decode cX6_swap 194 = .ok (.bipush (-4), 2) := by decide +kernel
theorem dX6_swap_196 : decode cX6_swap 196 = .ok (.if_icmp .eq 7, 3) := by decide +kernel
theorem dX6_swap_199 : decode cX6_swap 199 = .ok (.iload_n 2, 1) := by decide +kernel
theorem dX6_swap_200 : decode cX6_swap 200 = .ok (.ifCond .ne 8, 3) := by decide +kernel
theorem dX6_swap_203 : decode cX6_swap 203 = .ok (.iload 4, 2) := by decide +kernel
theorem dX6_swap_205 : decode cX6_swap 205 = .ok (.goto 4, 3) := by decide +kernel
theorem dX6_swap_208 : decode cX6_swap 208 = .ok (.iload_n 3, 1) := by decide +kernel
theorem dX6_swap_209 : decode cX6_swap 209 = .ok (.ireturn, 1) := by decide +kernel
theorem dX6_leastAt_0 : decode cX6_leastAt 0 = .ok (.ldc 190, 2) := by decide +kernel
theorem dX6_leastAt_2 : decode cX6_leastAt 2 = .ok (.istore 7, 2) := by decide +kernel
theorem dX6_leastAt_4 : decode cX6_leastAt 4 = .ok (.iconst 0, 1) := by decide +kernel
theorem dX6_leastAt_5 : decode cX6_leastAt 5 = .ok (.istore 8, 2) := by decide +kernel
theorem dX6_leastAt_7 : decode cX6_leastAt 7 = .ok (.aload_n 0, 1) := by decide +kernel
theorem dX6_leastAt_8 : decode cX6_leastAt 8 = .ok (.iconst 0, 1) := by decide +kernel
theorem dX6_leastAt_9 : decode cX6_leastAt 9 = .ok (.bipush 110, 2) := by decide +kernel
theorem dX6_leastAt_11 : decode cX6_leastAt 11 = .ok (.invokevirtual 167, 3) := by decide +kernel
theorem dX6_leastAt_14 : decode cX6_leastAt 14 = .ok (.iconst 0, 1) := by decide +kernel
theorem dX6_leastAt_15 : decode cX6_leastAt 15 = .ok (.istore 9, 2) := by decide +kernel
theorem dX6_leastAt_17 : decode cX6_leastAt 17 = .ok (.iload 9, 2) := by decide +kernel
theorem dX6_leastAt_19 : decode cX6_leastAt 19 = .ok (.iload_n 3, 1) := by decide +kernel
theorem dX6_leastAt_20 : decode cX6_leastAt 20 = .ok (.if_icmp .ge 80, 3) := by decide +kernel
theorem dX6_leastAt_23 : decode cX6_leastAt 23 = .ok (.aload_n 0, 1) := by decide +kernel
theorem dX6_leastAt_24 : decode cX6_leastAt 24 = .ok (.getfield 7, 3) := by decide +kernel
theorem dX6_leastAt_27 : decode cX6_leastAt 27 = .ok (.bipush 110, 2) := by decide +kernel
theorem dX6_leastAt_29 : decode cX6_leastAt 29 = .ok (.iload_n 1, 1) := by decide +kernel
theorem dX6_leastAt_30 : decode cX6_leastAt 30 = .ok (.iadd, 1) := by decide +kernel
theorem dX6_leastAt_31 : decode cX6_leastAt 31 = .ok (.iload_n 2, 1) := by decide +kernel
theorem dX6_leastAt_32 : decode cX6_leastAt 32 = .ok (.iload 9, 2) := by decide +kernel
theorem dX6_leastAt_34 : decode cX6_leastAt 34 = .ok (.iadd, 1) := by decide +kernel
theorem dX6_leastAt_35 : decode cX6_leastAt 35 = .ok (.iastore, 1) := by decide +kernel
theorem dX6_leastAt_36 : decode cX6_leastAt 36 = .ok (.iload 5, 2) := by decide +kernel
theorem dX6_leastAt_38 : decode cX6_leastAt 38 = .ok (.ifCond .eq 14, 3) := by decide +kernel
theorem dX6_leastAt_41 : decode cX6_leastAt 41 = .ok (.aload_n 0, 1) := by decide +kernel
theorem dX6_leastAt_42 : decode cX6_leastAt 42 = .ok (.bipush 110, 2) := by decide +kernel
theorem dX6_leastAt_44 : decode cX6_leastAt 44 = .ok (.iload 4, 2) := by decide +kernel
theorem dX6_leastAt_46 : decode cX6_leastAt 46 = .ok (.invokevirtual 176, 3) := by decide +kernel
theorem dX6_leastAt_49 : decode cX6_leastAt 49 = .ok (.goto 11, 3) := by decide +kernel
theorem dX6_leastAt_52 : decode cX6_leastAt 52 = .ok (.aload_n 0, 1) := by decide +kernel
theorem dX6_leastAt_53 : decode cX6_leastAt 53 = .ok (.bipush 110, 2) := by decide +kernel
theorem dX6_leastAt_55 : decode cX6_leastAt 55 = .ok (.iload 4, 2) := by decide +kernel
theorem dX6_leastAt_57 : decode cX6_leastAt 57 = .ok (.invokevirtual 187, 3) := by decide +kernel
theorem dX6_leastAt_60 : decode cX6_leastAt 60 = .ok (.istore 10, 2) := by decide +kernel
theorem dX6_leastAt_62 : decode cX6_leastAt 62 = .ok (.iload 10, 2) := by decide +kernel
theorem dX6_leastAt_64 : decode cX6_leastAt 64 = .ok (.iload 7, 2) := by decide +kernel
theorem dX6_leastAt_66 : decode cX6_leastAt 66 = .ok (.if_icmp .ge 8, 3) := by decide +kernel
theorem dX6_leastAt_69 : decode cX6_leastAt 69 = .ok (.iload 9, 2) := by decide +kernel
theorem dX6_leastAt_71 : decode cX6_leastAt 71 = .ok (.goto 5, 3) := by decide +kernel
theorem dX6_leastAt_74 : decode cX6_leastAt 74 = .ok (.iload 8, 2) := by decide +kernel
theorem dX6_leastAt_76 : decode cX6_leastAt 76 = .ok (.istore 8, 2) := by decide +kernel
theorem dX6_leastAt_78 : decode cX6_leastAt 78 = .ok (.iload 10, 2) := by decide +kernel
theorem dX6_leastAt_80 : decode cX6_leastAt 80 = .ok (.iload 7, 2) := by decide +kernel
theorem dX6_leastAt_82 : decode cX6_leastAt 82 = .ok (.if_icmp .ge 8, 3) := by decide +kernel
theorem dX6_leastAt_85 : decode cX6_leastAt 85 = .ok (.iload 10, 2) := by decide +kernel
theorem dX6_leastAt_87 : decode cX6_leastAt 87 = .ok (.goto 5, 3) := by decide +kernel
theorem dX6_leastAt_90 : decode cX6_leastAt 90 = .ok (.iload 7, 2) := by decide +kernel
theorem dX6_leastAt_92 : decode cX6_leastAt 92 = .ok (.istore 7, 2) := by decide +kernel
theorem dX6_leastAt_94 : decode cX6_leastAt 94 = .ok (.iinc 9 1, 3) := by decide +kernel
theorem dX6_leastAt_97 : decode cX6_leastAt 97 = .ok (.goto (-80), 3) := by decide +kernel
theorem dX6_leastAt_100 : decode cX6_leastAt 100 = .ok (.iload 6, 2) := by decide +kernel
theorem dX6_leastAt_102 : decode cX6_leastAt 102 = .ok (.ifCond .ne 8, 3) := by decide +kernel
theorem dX6_leastAt_105 : decode cX6_leastAt 105 = .ok (.iload 8, 2) := by decide +kernel
theorem dX6_leastAt_107 : decode cX6_leastAt 107 = .ok (.goto 5, 3) := by decide +kernel
theorem dX6_leastAt_110 : decode cX6_leastAt 110 = .ok (.iload 7, 2) := by decide +kernel
theorem dX6_leastAt_112 : decode cX6_leastAt 112 = .ok (.ireturn, 1) := by decide +kernel
theorem dX6_kind_0 : decode cX6_kind 0 = .ok (.aload_n 0, 1) := by decide +kernel
theorem dX6_kind_1 : decode cX6_kind 1 = .ok (.iload_n 1, 1) := by decide +kernel
theorem dX6_kind_2 : decode cX6_kind 2 = .ok (.invokevirtual 144, 3) := by decide +kernel
theorem dX6_kind_5 : decode cX6_kind 5 = .ok (.ifCond .eq 38, 3) := by decide +kernel
theorem dX6_kind_8 : decode cX6_kind 8 = .ok (.iload_n 2, 1) := by decide +kernel
theorem dX6_kind_9 : decode cX6_kind 9 = .ok (.i2l, 1) := by decide +kernel
theorem dX6_kind_10 : decode cX6_kind 10 = .ok (.lconst 0, 1) := by decide +kernel
theorem dX6_kind_11 : decode cX6_kind 11 = .ok (.ldc2_w 185, 3) := by decide +kernel
theorem dX6_kind_14 : decode cX6_kind 14 = .ok (.invokestatic 46, 3) := by decide +kernel
theorem dX6_kind_17 : decode cX6_kind 17 = .ok (.ifCond .eq 26, 3) := by decide +kernel
theorem dX6_kind_20 : decode cX6_kind 20 = .ok (.iload_n 3, 1) := by decide +kernel
theorem dX6_kind_21 : decode cX6_kind 21 = .ok (.i2l, 1) := by decide +kernel
theorem dX6_kind_22 : decode cX6_kind 22 = .ok (.lconst 0, 1) := by decide +kernel
theorem dX6_kind_23 : decode cX6_kind 23 = .ok (.lconst 1, 1) := by decide +kernel
theorem dX6_kind_24 : decode cX6_kind 24 = .ok (.invokestatic 46, 3) := by decide +kernel
theorem dX6_kind_27 : decode cX6_kind 27 = .ok (.ifCond .eq 16, 3) := by decide +kernel
theorem dX6_kind_30 : decode cX6_kind 30 = .ok (.aload_n 0, 1) := by decide +kernel
theorem dX6_kind_31 : decode cX6_kind 31 = .ok (.iload_n 1, 1) := by decide +kernel
theorem dX6_kind_32 : decode cX6_kind 32 = .ok (.iconst 0, 1) := by decide +kernel
theorem dX6_kind_33 : decode cX6_kind 33 = .ok (.iconst 4, 1) := by decide +kernel
theorem dX6_kind_34 : decode cX6_kind 34 = .ok (.iload_n 2, 1) := by decide +kernel
theorem dX6_kind_35 : decode cX6_kind 35 = .ok (.iconst 0, 1) := by decide +kernel
theorem dX6_kind_36 : decode cX6_kind 36 = .ok (.iload_n 3, 1) := by decide +kernel
theorem dX6_kind_37 : decode cX6_kind 37 = .ok (.invokevirtual 191, 3) := by decide +kernel
theorem dX6_kind_40 : decode cX6_kind 40 = .ok (.goto 4, 3) := by decide +kernel
theorem dX6_kind_43 : decode cX6_kind 43 = .ok (.iconst (-1), 1) := by decide +kernel
theorem dX6_kind_44 : decode cX6_kind 44 = .ok (.ireturn, 1) := by decide +kernel
theorem dX6_begin_0 : decode cX6_begin 0 = .ok (.aload_n 0, 1) := by decide +kernel
theorem dX6_begin_1 : decode cX6_begin 1 = .ok (.iload_n 1, 1) := by decide +kernel
theorem dX6_begin_2 : decode cX6_begin 2 = .ok (.invokevirtual 144, 3) := by decide +kernel
theorem dX6_begin_5 : decode cX6_begin 5 = .ok (.ifCond .eq 48, 3) := by decide +kernel
theorem dX6_begin_8 : decode cX6_begin 8 = .ok (.iload_n 2, 1) := by decide +kernel
theorem dX6_begin_9 : decode cX6_begin 9 = .ok (.i2l, 1) := by decide +kernel
theorem dX6_begin_10 : decode cX6_begin 10 = .ok (.lconst 0, 1) := by decide +kernel
theorem dX6_begin_11 : decode cX6_begin 11 = .ok (.ldc2_w 185, 3) := by decide +kernel
theorem dX6_begin_14 : decode cX6_begin 14 = .ok (.invokestatic 46, 3) := by decide +kernel
theorem dX6_begin_17 : decode cX6_begin 17 = .ok (.ifCond .eq 36, 3) := by decide +kernel
theorem dX6_begin_20 : decode cX6_begin 20 = .ok (.iload_n 3, 1) := by decide +kernel
theorem dX6_begin_21 : decode cX6_begin 21 = .ok (.i2l, 1) := by decide +kernel
theorem dX6_begin_22 : decode cX6_begin 22 = .ok (.lconst 0, 1) := by decide +kernel
theorem dX6_begin_23 : decode cX6_begin 23 = .ok (.lconst 1, 1) := by decide +kernel
theorem dX6_begin_24 : decode cX6_begin 24 = .ok (.invokestatic 46, 3) := by decide +kernel
theorem dX6_begin_27 : decode cX6_begin 27 = .ok (.ifCond .eq 26, 3) := by decide +kernel
theorem dX6_begin_30 : decode cX6_begin 30 = .ok (.aload_n 0, 1) := by decide +kernel
theorem dX6_begin_31 : decode cX6_begin 31 = .ok (.bipush 10, 2) := by decide +kernel
theorem dX6_begin_33 : decode cX6_begin 33 = .ok (.iload_n 1, 1) := by decide +kernel
theorem dX6_begin_34 : decode cX6_begin 34 = .ok (.iadd, 1) := by decide +kernel
theorem dX6_begin_35 : decode cX6_begin 35 = .ok (.iconst 0, 1) := by decide +kernel
theorem dX6_begin_36 : decode cX6_begin 36 = .ok (.aload_n 0, 1) := by decide +kernel
theorem dX6_begin_37 : decode cX6_begin 37 = .ok (.getfield 7, 3) := by decide +kernel
theorem dX6_begin_40 : decode cX6_begin 40 = .ok (.iconst 5, 1) := by decide +kernel
theorem dX6_begin_41 : decode cX6_begin 41 = .ok (.iload_n 1, 1) := by decide +kernel
theorem dX6_begin_42 : decode cX6_begin 42 = .ok (.iadd, 1) := by decide +kernel
theorem dX6_begin_43 : decode cX6_begin 43 = .ok (.iaload, 1) := by decide +kernel
theorem dX6_begin_44 : decode cX6_begin 44 = .ok (.iload_n 2, 1) := by decide +kernel
theorem dX6_begin_45 : decode cX6_begin 45 = .ok (.iconst 0, 1) := by decide +kernel
theorem dX6_begin_46 : decode cX6_begin 46 = .ok (.iload_n 3, 1) := by decide +kernel
theorem dX6_begin_47 : decode cX6_begin 47 = .ok (.invokevirtual 191, 3) := by decide +kernel
theorem dX6_begin_50 : decode cX6_begin 50 = .ok (.goto 4, 3) := by decide +kernel
theorem dX6_begin_53 : decode cX6_begin 53 = .ok (.iconst (-1), 1) := by decide +kernel
theorem dX6_begin_54 : decode cX6_begin 54 = .ok (.ireturn, 1) := by decide +kernel
theorem dX6_file_0 : decode cX6_file 0 = .ok (.aload_n 0, 1) := by decide +kernel
theorem dX6_file_1 : decode cX6_file 1 = .ok (.iload_n 1, 1) := by decide +kernel
theorem dX6_file_2 : decode cX6_file 2 = .ok (.invokevirtual 144, 3) := by decide +kernel
theorem dX6_file_5 : decode cX6_file 5 = .ok (.ifCond .eq 49, 3) := by decide +kernel
theorem dX6_file_8 : decode cX6_file 8 = .ok (.iload_n 2, 1) := by decide +kernel
theorem dX6_file_9 : decode cX6_file 9 = .ok (.i2l, 1) := by decide +kernel
theorem dX6_file_10 : decode cX6_file 10 = .ok (.lconst 0, 1) := by decide +kernel
theorem dX6_file_11 : decode cX6_file 11 = .ok (.ldc2_w 185, 3) := by decide +kernel
theorem dX6_file_14 : decode cX6_file 14 = .ok (.invokestatic 46, 3) := by decide +kernel
theorem dX6_file_17 : decode cX6_file 17 = .ok (.ifCond .eq 37, 3) := by decide +kernel
theorem dX6_file_20 : decode cX6_file 20 = .ok (.iload_n 3, 1) := by decide +kernel
theorem dX6_file_21 : decode cX6_file 21 = .ok (.i2l, 1) := by decide +kernel
theorem dX6_file_22 : decode cX6_file 22 = .ok (.lconst 0, 1) := by decide +kernel
theorem dX6_file_23 : decode cX6_file 23 = .ok (.lconst 1, 1) := by decide +kernel
theorem dX6_file_24 : decode cX6_file 24 = .ok (.invokestatic 46, 3) := by decide +kernel
theorem dX6_file_27 : decode cX6_file 27 = .ok (.ifCond .eq 27, 3) := by decide +kernel
theorem dX6_file_30 : decode cX6_file 30 = .ok (.aload_n 0, 1) := by decide +kernel
theorem dX6_file_31 : decode cX6_file 31 = .ok (.bipush 15, 2) := by decide +kernel
theorem dX6_file_33 : decode cX6_file 33 = .ok (.iload_n 1, 1) := by decide +kernel
theorem dX6_file_34 : decode cX6_file 34 = .ok (.iadd, 1) := by decide +kernel
theorem dX6_file_35 : decode cX6_file 35 = .ok (.bipush (-12), 2) := by decide +kernel
theorem dX6_file_37 : decode cX6_file 37 = .ok (.aload_n 0, 1) := by decide +kernel
theorem dX6_file_38 : decode cX6_file 38 = .ok (.getfield 7, 3) := by decide +kernel
theorem dX6_file_41 : decode cX6_file 41 = .ok (.iconst 5, 1) := by decide +kernel
theorem dX6_file_42 : decode cX6_file 42 = .ok (.iload_n 1, 1) := by decide +kernel
theorem dX6_file_43 : decode cX6_file 43 = .ok (.iadd, 1) := by decide +kernel
theorem dX6_file_44 : decode cX6_file 44 = .ok (.iaload, 1) := by decide +kernel
theorem dX6_file_45 : decode cX6_file 45 = .ok (.iload_n 2, 1) := by decide +kernel
theorem dX6_file_46 : decode cX6_file 46 = .ok (.iconst 1, 1) := by decide +kernel
theorem dX6_file_47 : decode cX6_file 47 = .ok (.iload_n 3, 1) := by decide +kernel
theorem dX6_file_48 : decode cX6_file 48 = .ok (.invokevirtual 191, 3) := by decide +kernel
theorem dX6_file_51 : decode cX6_file 51 = .ok (.goto 4, 3) := by decide +kernel
theorem dX6_file_54 : decode cX6_file 54 = .ok (.iconst (-1), 1) := by decide +kernel
theorem dX6_file_55 : decode cX6_file 55 = .ok (.ireturn, 1) := by decide +kernel
theorem dX6_lowest_0 : decode cX6_lowest 0 = .ok (.lload_n 0, 1) := by decide +kernel
theorem dX6_lowest_1 : decode cX6_lowest 1 = .ok (.lstore 5, 2) := by decide +kernel
theorem dX6_lowest_3 : decode cX6_lowest 3 = .ok (.lload_n 2, 1) := by decide +kernel
theorem dX6_lowest_4 : decode cX6_lowest 4 = .ok (.lstore 7, 2) := by decide +kernel
theorem dX6_lowest_6 : decode cX6_lowest 6 = .ok (.lload 7, 2) := by decide +kernel
theorem dX6_lowest_8 : decode cX6_lowest 8 = .ok (.lconst 0, 1) := by decide +kernel
theorem dX6_lowest_9 : decode cX6_lowest 9 = .ok (.lcmp, 1) := by decide +kernel
theorem dX6_lowest_10 : decode cX6_lowest 10 = .ok (.ifCond .eq 21, 3) := by decide +kernel
theorem dX6_lowest_13 : decode cX6_lowest 13 = .ok (.lload 5, 2) := by decide +kernel
theorem dX6_lowest_15 : decode cX6_lowest 15 = .ok (.lload 7, 2) := by decide +kernel
theorem dX6_lowest_17 : decode cX6_lowest 17 = .ok (.lrem, 1) := by decide +kernel
theorem dX6_lowest_18 : decode cX6_lowest 18 = .ok (.lstore 9, 2) := by decide +kernel
theorem dX6_lowest_20 : decode cX6_lowest 20 = .ok (.lload 7, 2) := by decide +kernel
theorem dX6_lowest_22 : decode cX6_lowest 22 = .ok (.lstore 5, 2) := by decide +kernel
theorem dX6_lowest_24 : decode cX6_lowest 24 = .ok (.lload 9, 2) := by decide +kernel
theorem dX6_lowest_26 : decode cX6_lowest 26 = .ok (.lstore 7, 2) := by decide +kernel
theorem dX6_lowest_28 : decode cX6_lowest 28 = .ok (.goto (-22), 3) := by decide +kernel
theorem dX6_lowest_31 : decode cX6_lowest 31 = .ok (.iload 4, 2) := by decide +kernel
theorem dX6_lowest_33 : decode cX6_lowest 33 = .ok (.ifCond .ne 7, 3) := by decide +kernel
theorem dX6_lowest_36 : decode cX6_lowest 36 = .ok (.lload_n 0, 1) := by decide +kernel
theorem dX6_lowest_37 : decode cX6_lowest 37 = .ok (.goto 4, 3) := by decide +kernel
theorem dX6_lowest_40 : decode cX6_lowest 40 = .ok (.lload_n 2, 1) := by decide +kernel
theorem dX6_lowest_41 : decode cX6_lowest 41 = .ok (.lload 5, 2) := by decide +kernel
theorem dX6_lowest_43 : decode cX6_lowest 43 = .ok (.ldiv, 1) := by decide +kernel
theorem dX6_lowest_44 : decode cX6_lowest 44 = .ok (.lreturn, 1) := by decide +kernel
theorem dX6_byMisses_0 : decode cX6_byMisses 0 = .ok (.lconst 0, 1) := by decide +kernel
theorem dX6_byMisses_1 : decode cX6_byMisses 1 = .ok (.lstore 6, 2) := by decide +kernel
theorem dX6_byMisses_3 : decode cX6_byMisses 3 = .ok (.lconst 1, 1) := by decide +kernel
theorem dX6_byMisses_4 : decode cX6_byMisses 4 = .ok (.lstore 8, 2) := by decide +kernel
theorem dX6_byMisses_6 : decode cX6_byMisses 6 = .ok (.iconst 0, 1) := by decide +kernel
theorem dX6_byMisses_7 : decode cX6_byMisses 7 = .ok (.istore 10, 2) := by decide +kernel
theorem dX6_byMisses_9 : decode cX6_byMisses 9 = .ok (.iload 10, 2) := by decide +kernel
theorem dX6_byMisses_11 : decode cX6_byMisses 11 = .ok (.iload 4, 2) := by decide +kernel
theorem dX6_byMisses_13 : decode cX6_byMisses 13 = .ok (.if_icmp .ge 17, 3) := by decide +kernel
theorem dX6_byMisses_16 : decode cX6_byMisses 16 = .ok (.lload 8, 2) := by decide +kernel
theorem dX6_byMisses_18 : decode cX6_byMisses 18 = .ok (.ldc2_w 195, 3) := by decide +kernel
theorem dX6_byMisses_21 : decode cX6_byMisses 21 = .ok (.lmul, 1) := by decide +kernel
theorem dX6_byMisses_22 : decode cX6_byMisses 22 = .ok (.lstore 8, 2) := by decide +kernel
theorem dX6_byMisses_24 : decode cX6_byMisses 24 = .ok (.iinc 10 1, 3) := by decide +kernel
theorem dX6_byMisses_27 : decode cX6_byMisses 27 = .ok (.goto (-18), 3) := by decide +kernel
theorem dX6_byMisses_30 : decode cX6_byMisses 30 = .ok (.iconst 0, 1) := by decide +kernel
theorem dX6_byMisses_31 : decode cX6_byMisses 31 = .ok (.istore 10, 2) := by decide +kernel
theorem dX6_byMisses_33 : decode cX6_byMisses 33 = .ok (.iload 10, 2) := by decide +kernel
theorem dX6_byMisses_35 : decode cX6_byMisses 35 = .ok (.iconst 1, 1) := by decide +kernel
theorem dX6_byMisses_36 : decode cX6_byMisses 36 = .ok (.iload 4, 2) := by decide +kernel
theorem dX6_byMisses_38 : decode cX6_byMisses 38 = .ok (.ishl, 1) := by decide +kernel
theorem dX6_byMisses_39 : decode cX6_byMisses 39 = .ok (.if_icmp .ge 126, 3) := by decide +kernel
theorem dX6_byMisses_42 : decode cX6_byMisses 42 = .ok (.lconst 1, 1) := by decide +kernel
theorem dX6_byMisses_43 : decode cX6_byMisses 43 = .ok (.lstore 11, 2) := by decide +kernel
theorem dX6_byMisses_45 : decode cX6_byMisses 45 = .ok (.aload_n 0, 1) := by decide +kernel
theorem dX6_byMisses_46 : decode cX6_byMisses 46 = .ok (.iconst 0, 1) := by decide +kernel
theorem dX6_byMisses_47 : decode cX6_byMisses 47 = .ok (.bipush 88, 2) := by decide +kernel
theorem dX6_byMisses_49 : decode cX6_byMisses 49 = .ok (.invokevirtual 167, 3) := by decide +kernel
theorem dX6_byMisses_52 : decode cX6_byMisses 52 = .ok (.iconst 0, 1) := by decide +kernel
theorem dX6_byMisses_53 : decode cX6_byMisses 53 = .ok (.istore 13, 2) := by decide +kernel
theorem dX6_byMisses_55 : decode cX6_byMisses 55 = .ok (.iload 13, 2) := by decide +kernel
theorem dX6_byMisses_57 : decode cX6_byMisses 57 = .ok (.iload 4, 2) := by decide +kernel
theorem dX6_byMisses_59 : decode cX6_byMisses 59 = .ok (.if_icmp .ge 58, 3) := by decide +kernel
theorem dX6_byMisses_62 : decode cX6_byMisses 62 = .ok (.iload 10, 2) := by decide +kernel
theorem dX6_byMisses_64 : decode cX6_byMisses 64 = .ok (.iload 13, 2) := by decide +kernel
theorem dX6_byMisses_66 : decode cX6_byMisses 66 = .ok (.ishr, 1) := by decide +kernel
theorem dX6_byMisses_67 : decode cX6_byMisses 67 = .ok (.iconst 1, 1) := by decide +kernel
theorem dX6_byMisses_68 : decode cX6_byMisses 68 = .ok (.iand, 1) := by decide +kernel
theorem dX6_byMisses_69 : decode cX6_byMisses 69 = .ok (.iconst 1, 1) := by decide +kernel
theorem dX6_byMisses_70 : decode cX6_byMisses 70 = .ok (.if_icmp .ne 7, 3) := by decide +kernel
theorem dX6_byMisses_73 : decode cX6_byMisses 73 = .ok (.iconst 1, 1) := by decide +kernel
theorem dX6_byMisses_74 : decode cX6_byMisses 74 = .ok (.goto 4, 3) := by decide +kernel
theorem dX6_byMisses_77 : decode cX6_byMisses 77 = .ok (.iconst 0, 1) := by decide +kernel
theorem dX6_byMisses_78 : decode cX6_byMisses 78 = .ok (.istore 14, 2) := by decide +kernel
theorem dX6_byMisses_80 : decode cX6_byMisses 80 = .ok (.lload 11, 2) := by decide +kernel
theorem dX6_byMisses_82 : decode cX6_byMisses 82 = .ok (.iload 14, 2) := by decide +kernel
theorem dX6_byMisses_84 : decode cX6_byMisses 84 = .ok (.ifCond .eq 8, 3) := by decide +kernel
theorem dX6_byMisses_87 : decode cX6_byMisses 87 = .ok (.iload_n 1, 1) := by decide +kernel
theorem dX6_byMisses_88 : decode cX6_byMisses 88 = .ok (.i2l, 1) := by decide +kernel
theorem dX6_byMisses_89 : decode cX6_byMisses 89 = .ok (.goto 8, 3) := by decide +kernel
theorem dX6_byMisses_92 : decode cX6_byMisses 92 = .ok (.bipush 10, 2) := by decide +kernel
theorem dX6_byMisses_94 : decode cX6_byMisses 94 = .ok (.iload_n 1, 1) := by decide +kernel
theorem dX6_byMisses_95 : decode cX6_byMisses 95 = .ok (.isub, 1) := by decide +kernel
theorem dX6_byMisses_96 : decode cX6_byMisses 96 = .ok (.i2l, 1) := by decide +kernel
theorem dX6_byMisses_97 : decode cX6_byMisses 97 = .ok (.lmul, 1) := by decide +kernel
theorem dX6_byMisses_98 : decode cX6_byMisses 98 = .ok (.lstore 11, 2) := by decide +kernel
theorem dX6_byMisses_100 : decode cX6_byMisses 100 = .ok (.iload 14, 2) := by decide +kernel
theorem dX6_byMisses_102 : decode cX6_byMisses 102 = .ok (.ifCond .ne 9, 3) := by decide +kernel
theorem dX6_byMisses_105 : decode cX6_byMisses 105 = .ok (.aload_n 0, 1) := by decide +kernel
theorem dX6_byMisses_106 : decode cX6_byMisses 106 = .ok (.bipush 88, 2) := by decide +kernel
theorem dX6_byMisses_108 : decode cX6_byMisses 108 = .ok (.invokevirtual 164, 3) := by decide +kernel
theorem dX6_byMisses_111 : decode cX6_byMisses 111 = .ok (.iinc 13 1, 3) := by decide +kernel
theorem dX6_byMisses_114 : decode cX6_byMisses 114 = .ok (.goto (-59), 3) := by decide +kernel
theorem dX6_byMisses_117 : decode cX6_byMisses 117 = .ok (.lload 6, 2) := by decide +kernel
theorem dX6_byMisses_119 : decode cX6_byMisses 119 = .ok (.lload 11, 2) := by decide +kernel
theorem dX6_byMisses_121 : decode cX6_byMisses 121 = .ok (.iload_n 2, 1) := by decide +kernel
theorem dX6_byMisses_122 : decode cX6_byMisses 122 = .ok (.bipush (-4), 2) := by decide +kernel
theorem dX6_byMisses_124 : decode cX6_byMisses 124 = .ok (.if_icmp .ne 12, 3) := by decide +kernel
theorem dX6_byMisses_127 : decode cX6_byMisses 127 = .ok (.aload_n 0, 1) := by decide +kernel
theorem dX6_byMisses_128 : decode cX6_byMisses 128 = .ok (.bipush 88, 2) := by decide +kernel
theorem dX6_byMisses_130 : decode cX6_byMisses 130 = .ok (.invokevirtual 135, 3) := by decide +kernel
theorem dX6_byMisses_133 : decode cX6_byMisses 133 = .ok (.goto 21, 3) := by decide +kernel
theorem dX6_byMisses_136 : decode cX6_byMisses 136 = .ok (.aload_n 0, 1) := by decide +kernel
theorem dX6_byMisses_137 : decode cX6_byMisses 137 = .ok (.getfield 7, 3) := by decide +kernel
theorem dX6_byMisses_140 : decode cX6_byMisses 140 = .ok (.bipush 98, 2) := by decide +kernel
theorem dX6_byMisses_142 : decode cX6_byMisses 142 = .ok (.iload_n 2, 1) := by decide +kernel
theorem dX6_byMisses_143 : decode cX6_byMisses 143 = .ok (.iadd, 1) := by decide +kernel
theorem dX6_byMisses_144 : decode cX6_byMisses 144 = .ok (.iaload, 1) := by decide +kernel
theorem dX6_byMisses_145 : decode cX6_byMisses 145 = .ok (.iload_n 3, 1) := by decide +kernel
theorem dX6_byMisses_146 : decode cX6_byMisses 146 = .ok (.if_icmp .ne 7, 3) := by decide +kernel
theorem dX6_byMisses_149 : decode cX6_byMisses 149 = .ok (.iconst 1, 1) := by decide +kernel
theorem dX6_byMisses_150 : decode cX6_byMisses 150 = .ok (.goto 4, 3) := by decide +kernel
theorem dX6_byMisses_153 : decode cX6_byMisses 153 = .ok (.iconst 0, 1) := by decide +kernel
theorem dX6_byMisses_154 : decode cX6_byMisses 154 = .ok (.i2l, 1) := by decide +kernel
theorem dX6_byMisses_155 : decode cX6_byMisses 155 = .ok (.lmul, 1) := by decide +kernel
theorem dX6_byMisses_156 : decode cX6_byMisses 156 = .ok (.ladd, 1) := by decide +kernel
theorem dX6_byMisses_157 : decode cX6_byMisses 157 = .ok (.lstore 6, 2) := by decide +kernel
theorem dX6_byMisses_159 : decode cX6_byMisses 159 = .ok (.iinc 10 1, 3) := by decide +kernel
theorem dX6_byMisses_162 : decode cX6_byMisses 162 = .ok (.goto (-129), 3) := by decide +kernel
theorem dX6_byMisses_165 : decode cX6_byMisses 165 = .ok (.lload 6, 2) := by decide +kernel
theorem dX6_byMisses_167 : decode cX6_byMisses 167 = .ok (.lload 8, 2) := by decide +kernel
theorem dX6_byMisses_169 : decode cX6_byMisses 169 = .ok (.iload 5, 2) := by decide +kernel
theorem dX6_byMisses_171 : decode cX6_byMisses 171 = .ok (.invokestatic 197, 3) := by decide +kernel
theorem dX6_byMisses_174 : decode cX6_byMisses 174 = .ok (.lreturn, 1) := by decide +kernel
theorem dX6_luck_0 : decode cX6_luck 0 = .ok (.iload_n 1, 1) := by decide +kernel
theorem dX6_luck_1 : decode cX6_luck 1 = .ok (.i2l, 1) := by decide +kernel
theorem dX6_luck_2 : decode cX6_luck 2 = .ok (.lconst 0, 1) := by decide +kernel
theorem dX6_luck_3 : decode cX6_luck 3 = .ok (.ldc2_w 195, 3) := by decide +kernel
theorem dX6_luck_6 : decode cX6_luck 6 = .ok (.invokestatic 46, 3) := by decide +kernel
theorem dX6_luck_9 : decode cX6_luck 9 = .ok (.ifCond .eq 56, 3) := by decide +kernel
theorem dX6_luck_12 : decode cX6_luck 12 = .ok (.aload_n 0, 1) := by decide +kernel
theorem dX6_luck_13 : decode cX6_luck 13 = .ok (.iload_n 2, 1) := by decide +kernel
theorem dX6_luck_14 : decode cX6_luck 14 = .ok (.invokevirtual 144, 3) := by decide +kernel
theorem dX6_luck_17 : decode cX6_luck 17 = .ok (.ifCond .eq 48, 3) := by decide +kernel
theorem dX6_luck_20 : decode cX6_luck 20 = .ok (.iload_n 3, 1) := by decide +kernel
theorem dX6_luck_21 : decode cX6_luck 21 = .ok (.invokestatic 154, 3) := by decide +kernel
theorem dX6_luck_24 : decode cX6_luck 24 = .ok (.ifCond .eq 41, 3) := by decide +kernel
theorem dX6_luck_27 : decode cX6_luck 27 = .ok (.iload 4, 2) := by decide +kernel
theorem dX6_luck_29 : decode cX6_luck 29 = .ok (.i2l, 1) := by decide +kernel
theorem dX6_luck_30 : decode cX6_luck 30 = .ok (.lconst 0, 1) := by decide +kernel
theorem dX6_luck_31 : decode cX6_luck 31 = .ok (.ldc2_w 201, 3) := by decide +kernel
theorem dX6_luck_34 : decode cX6_luck 34 = .ok (.invokestatic 46, 3) := by decide +kernel
theorem dX6_luck_37 : decode cX6_luck 37 = .ok (.ifCond .eq 28, 3) := by decide +kernel
theorem dX6_luck_40 : decode cX6_luck 40 = .ok (.iload 5, 2) := by decide +kernel
theorem dX6_luck_42 : decode cX6_luck 42 = .ok (.i2l, 1) := by decide +kernel
theorem dX6_luck_43 : decode cX6_luck 43 = .ok (.lconst 0, 1) := by decide +kernel
theorem dX6_luck_44 : decode cX6_luck 44 = .ok (.lconst 1, 1) := by decide +kernel
theorem dX6_luck_45 : decode cX6_luck 45 = .ok (.invokestatic 46, 3) := by decide +kernel
theorem dX6_luck_48 : decode cX6_luck 48 = .ok (.ifCond .eq 17, 3) := by decide +kernel
theorem dX6_luck_51 : decode cX6_luck 51 = .ok (.aload_n 0, 1) := by decide +kernel
theorem dX6_luck_52 : decode cX6_luck 52 = .ok (.iload_n 1, 1) := by decide +kernel
theorem dX6_luck_53 : decode cX6_luck 53 = .ok (.iload_n 2, 1) := by decide +kernel
theorem dX6_luck_54 : decode cX6_luck 54 = .ok (.iload_n 3, 1) := by decide +kernel
theorem dX6_luck_55 : decode cX6_luck 55 = .ok (.iload 4, 2) := by decide +kernel
theorem dX6_luck_57 : decode cX6_luck 57 = .ok (.iload 5, 2) := by decide +kernel
theorem dX6_luck_59 : decode cX6_luck 59 = .ok (.invokevirtual 203, 3) := by decide +kernel
theorem dX6_luck_62 : decode cX6_luck 62 = .ok (.goto 6, 3) := by decide +kernel
theorem dX6_luck_65 : decode cX6_luck 65 = .ok (.ldc2_w 207, 3) := by decide +kernel
theorem dX6_luck_68 : decode cX6_luck 68 = .ok (.lreturn, 1) := by decide +kernel
theorem dX6_mean_0 : decode cX6_mean 0 = .ok (.iload_n 1, 1) := by decide +kernel
theorem dX6_mean_1 : decode cX6_mean 1 = .ok (.i2l, 1) := by decide +kernel
theorem dX6_mean_2 : decode cX6_mean 2 = .ok (.lconst 0, 1) := by decide +kernel
theorem dX6_mean_3 : decode cX6_mean 3 = .ok (.ldc2_w 195, 3) := by decide +kernel
theorem dX6_mean_6 : decode cX6_mean 6 = .ok (.invokestatic 46, 3) := by decide +kernel
theorem dX6_mean_9 : decode cX6_mean 9 = .ok (.ifCond .eq 38, 3) := by decide +kernel
theorem dX6_mean_12 : decode cX6_mean 12 = .ok (.iload_n 2, 1) := by decide +kernel
theorem dX6_mean_13 : decode cX6_mean 13 = .ok (.i2l, 1) := by decide +kernel
theorem dX6_mean_14 : decode cX6_mean 14 = .ok (.lconst 0, 1) := by decide +kernel
theorem dX6_mean_15 : decode cX6_mean 15 = .ok (.ldc2_w 201, 3) := by decide +kernel
theorem dX6_mean_18 : decode cX6_mean 18 = .ok (.invokestatic 46, 3) := by decide +kernel
theorem dX6_mean_21 : decode cX6_mean 21 = .ok (.ifCond .eq 26, 3) := by decide +kernel
theorem dX6_mean_24 : decode cX6_mean 24 = .ok (.iload_n 3, 1) := by decide +kernel
theorem dX6_mean_25 : decode cX6_mean 25 = .ok (.i2l, 1) := by decide +kernel
theorem dX6_mean_26 : decode cX6_mean 26 = .ok (.lconst 0, 1) := by decide +kernel
theorem dX6_mean_27 : decode cX6_mean 27 = .ok (.lconst 1, 1) := by decide +kernel
theorem dX6_mean_28 : decode cX6_mean 28 = .ok (.invokestatic 46, 3) := by decide +kernel
theorem dX6_mean_31 : decode cX6_mean 31 = .ok (.ifCond .eq 16, 3) := by decide +kernel
theorem dX6_mean_34 : decode cX6_mean 34 = .ok (.aload_n 0, 1) := by decide +kernel
theorem dX6_mean_35 : decode cX6_mean 35 = .ok (.iload_n 1, 1) := by decide +kernel
theorem dX6_mean_36 : decode cX6_mean 36 = .ok (.bipush (-4), 2) := by decide +kernel
theorem dX6_mean_38 : decode cX6_mean 38 = .ok (.iconst 0, 1) := by decide +kernel
theorem dX6_mean_39 : decode cX6_mean 39 = .ok (.iload_n 2, 1) := by decide +kernel
theorem dX6_mean_40 : decode cX6_mean 40 = .ok (.iload_n 3, 1) := by decide +kernel
theorem dX6_mean_41 : decode cX6_mean 41 = .ok (.invokevirtual 203, 3) := by decide +kernel
theorem dX6_mean_44 : decode cX6_mean 44 = .ok (.goto 6, 3) := by decide +kernel
theorem dX6_mean_47 : decode cX6_mean 47 = .ok (.ldc2_w 207, 3) := by decide +kernel
theorem dX6_mean_50 : decode cX6_mean 50 = .ok (.lreturn, 1) := by decide +kernel
theorem dX6_see_0 : decode cX6_see 0 = .ok (.iload_n 1, 1) := by decide +kernel
theorem dX6_see_1 : decode cX6_see 1 = .ok (.i2l, 1) := by decide +kernel
theorem dX6_see_2 : decode cX6_see 2 = .ok (.lconst 0, 1) := by decide +kernel
theorem dX6_see_3 : decode cX6_see 3 = .ok (.ldc2_w 185, 3) := by decide +kernel
theorem dX6_see_6 : decode cX6_see 6 = .ok (.invokestatic 46, 3) := by decide +kernel
theorem dX6_see_9 : decode cX6_see 9 = .ok (.ifCond .eq 10, 3) := by decide +kernel
theorem dX6_see_12 : decode cX6_see 12 = .ok (.iload_n 2, 1) := by decide +kernel
theorem dX6_see_13 : decode cX6_see 13 = .ok (.invokestatic 179, 3) := by decide +kernel
theorem dX6_see_16 : decode cX6_see 16 = .ok (.ifCond .ne 5, 3) := by decide +kernel
theorem dX6_see_19 : decode cX6_see 19 = .ok (.iconst (-1), 1) := by decide +kernel
theorem dX6_see_20 : decode cX6_see 20 = .ok (.ireturn, 1) := by decide +kernel
theorem dX6_see_21 : decode cX6_see 21 = .ok (.aload_n 0, 1) := by decide +kernel
theorem dX6_see_22 : decode cX6_see 22 = .ok (.getfield 114, 3) := by decide +kernel
theorem dX6_see_25 : decode cX6_see 25 = .ok (.bipush 6, 2) := by decide +kernel
theorem dX6_see_27 : decode cX6_see 27 = .ok (.if_icmp .ne 6, 3) := by decide +kernel
theorem dX6_see_30 : decode cX6_see 30 = .ok (.bipush (-3), 2) := by decide +kernel
theorem dX6_see_32 : decode cX6_see 32 = .ok (.ireturn, 1) := by decide +kernel
theorem dX6_see_33 : decode cX6_see 33 = .ok (.aload_n 0, 1) := by decide +kernel
theorem dX6_see_34 : decode cX6_see 34 = .ok (.getfield 25, 3) := by decide +kernel
theorem dX6_see_37 : decode cX6_see 37 = .ok (.iconst 2, 1) := by decide +kernel
theorem dX6_see_38 : decode cX6_see 38 = .ok (.aload_n 0, 1) := by decide +kernel
theorem dX6_see_39 : decode cX6_see 39 = .ok (.getfield 114, 3) := by decide +kernel
theorem dX6_see_42 : decode cX6_see 42 = .ok (.imul, 1) := by decide +kernel
theorem dX6_see_43 : decode cX6_see 43 = .ok (.iload_n 1, 1) := by decide +kernel
theorem dX6_see_44 : decode cX6_see 44 = .ok (.iastore, 1) := by decide +kernel
theorem dX6_see_45 : decode cX6_see 45 = .ok (.aload_n 0, 1) := by decide +kernel
theorem dX6_see_46 : decode cX6_see 46 = .ok (.getfield 25, 3) := by decide +kernel
theorem dX6_see_49 : decode cX6_see 49 = .ok (.iconst 2, 1) := by decide +kernel
theorem dX6_see_50 : decode cX6_see 50 = .ok (.aload_n 0, 1) := by decide +kernel
theorem dX6_see_51 : decode cX6_see 51 = .ok (.getfield 114, 3) := by decide +kernel
theorem dX6_see_54 : decode cX6_see 54 = .ok (.imul, 1) := by decide +kernel
theorem dX6_see_55 : decode cX6_see 55 = .ok (.iconst 1, 1) := by decide +kernel
theorem dX6_see_56 : decode cX6_see 56 = .ok (.iadd, 1) := by decide +kernel
theorem dX6_see_57 : decode cX6_see 57 = .ok (.iload_n 2, 1) := by decide +kernel
theorem dX6_see_58 : decode cX6_see 58 = .ok (.iastore, 1) := by decide +kernel
theorem dX6_see_59 : decode cX6_see 59 = .ok (.aload_n 0, 1) := by decide +kernel
theorem dX6_see_60 : decode cX6_see 60 = .ok (.dup, 1) := by decide +kernel
theorem dX6_see_61 : decode cX6_see 61 = .ok (.getfield 114, 3) := by decide +kernel
theorem dX6_see_64 : decode cX6_see 64 = .ok (.iconst 1, 1) := by decide +kernel
theorem dX6_see_65 : decode cX6_see 65 = .ok (.iadd, 1) := by decide +kernel
theorem dX6_see_66 : decode cX6_see 66 = .ok (.putfield 114, 3) := by decide +kernel
theorem dX6_see_69 : decode cX6_see 69 = .ok (.aload_n 0, 1) := by decide +kernel
theorem dX6_see_70 : decode cX6_see 70 = .ok (.getfield 114, 3) := by decide +kernel
theorem dX6_see_73 : decode cX6_see 73 = .ok (.ireturn, 1) := by decide +kernel
theorem dX6_forget_0 : decode cX6_forget 0 = .ok (.iload_n 1, 1) := by decide +kernel
theorem dX6_forget_1 : decode cX6_forget 1 = .ok (.i2l, 1) := by decide +kernel
theorem dX6_forget_2 : decode cX6_forget 2 = .ok (.lconst 0, 1) := by decide +kernel
theorem dX6_forget_3 : decode cX6_forget 3 = .ok (.aload_n 0, 1) := by decide +kernel
theorem dX6_forget_4 : decode cX6_forget 4 = .ok (.getfield 114, 3) := by decide +kernel
theorem dX6_forget_7 : decode cX6_forget 7 = .ok (.i2l, 1) := by decide +kernel
theorem dX6_forget_8 : decode cX6_forget 8 = .ok (.invokestatic 46, 3) := by decide +kernel
theorem dX6_forget_11 : decode cX6_forget 11 = .ok (.ifCond .ne 5, 3) := by decide +kernel
theorem dX6_forget_14 : decode cX6_forget 14 = .ok (.iconst (-1), 1) := by decide +kernel
theorem dX6_forget_15 : decode cX6_forget 15 = .ok (.ireturn, 1) := by decide +kernel
theorem dX6_forget_16 : decode cX6_forget 16 = .ok (.aload_n 0, 1) := by decide +kernel
theorem dX6_forget_17 : decode cX6_forget 17 = .ok (.getfield 114, 3) := by decide +kernel
theorem dX6_forget_20 : decode cX6_forget 20 = .ok (.istore_n 2, 1) := by decide +kernel
theorem dX6_forget_21 : decode cX6_forget 21 = .ok (.aload_n 0, 1) := by decide +kernel
theorem dX6_forget_22 : decode cX6_forget 22 = .ok (.iload_n 1, 1) := by decide +kernel
theorem dX6_forget_23 : decode cX6_forget 23 = .ok (.putfield 114, 3) := by decide +kernel
theorem dX6_forget_26 : decode cX6_forget 26 = .ok (.iload_n 2, 1) := by decide +kernel
theorem dX6_forget_27 : decode cX6_forget 27 = .ok (.ireturn, 1) := by decide +kernel
theorem dX6_isAsSeen_0 : decode cX6_isAsSeen 0 = .ok (.aload_n 0, 1) := by decide +kernel
theorem dX6_isAsSeen_1 : decode cX6_isAsSeen 1 = .ok (.iconst 0, 1) := by decide +kernel
theorem dX6_isAsSeen_2 : decode cX6_isAsSeen 2 = .ok (.bipush 88, 2) := by decide +kernel
theorem dX6_isAsSeen_4 : decode cX6_isAsSeen 4 = .ok (.invokevirtual 167, 3) := by decide +kernel
theorem dX6_isAsSeen_7 : decode cX6_isAsSeen 7 = .ok (.iconst 1, 1) := by decide +kernel
theorem dX6_isAsSeen_8 : decode cX6_isAsSeen 8 = .ok (.istore_n 2, 1) := by decide +kernel
theorem dX6_isAsSeen_9 : decode cX6_isAsSeen 9 = .ok (.iconst 0, 1) := by decide +kernel
theorem dX6_isAsSeen_10 : decode cX6_isAsSeen 10 = .ok (.istore_n 3, 1) := by decide +kernel
theorem dX6_isAsSeen_11 : decode cX6_isAsSeen 11 = .ok (.iload_n 3, 1) := by decide +kernel
theorem dX6_isAsSeen_12 : decode cX6_isAsSeen 12 = .ok (.sipush 200, 3) := by decide +kernel
theorem dX6_isAsSeen_15 : decode cX6_isAsSeen 15 = .ok (.if_icmp .gt 94, 3) := by decide +kernel
theorem dX6_isAsSeen_18 : decode cX6_isAsSeen 18 = .ok (.aload_n 0, 1) := by decide +kernel
theorem dX6_isAsSeen_19 : decode cX6_isAsSeen 19 = .ok (.bipush 88, 2) := by decide +kernel
theorem dX6_isAsSeen_21 : decode cX6_isAsSeen 21 = .ok (.invokevirtual 135, 3) := by decide +kernel
theorem dX6_isAsSeen_24 : decode cX6_isAsSeen 24 = .ok (.istore 4, 2) := by decide +kernel
theorem dX6_isAsSeen_26 : decode cX6_isAsSeen 26 = .ok (.aload_n 0, 1) := by decide +kernel
theorem dX6_isAsSeen_27 : decode cX6_isAsSeen 27 = .ok (.getfield 28, 3) := by decide +kernel
theorem dX6_isAsSeen_30 : decode cX6_isAsSeen 30 = .ok (.sipush 201, 3) := by decide +kernel
theorem dX6_isAsSeen_33 : decode cX6_isAsSeen 33 = .ok (.iload_n 1, 1) := by decide +kernel
theorem dX6_isAsSeen_34 : decode cX6_isAsSeen 34 = .ok (.imul, 1) := by decide +kernel
theorem dX6_isAsSeen_35 : decode cX6_isAsSeen 35 = .ok (.iload_n 3, 1) := by decide +kernel
theorem dX6_isAsSeen_36 : decode cX6_isAsSeen 36 = .ok (.iadd, 1) := by decide +kernel
theorem dX6_isAsSeen_37 : decode cX6_isAsSeen 37 = .ok (.iload 4, 2) := by decide +kernel
theorem dX6_isAsSeen_39 : decode cX6_isAsSeen 39 = .ok (.iastore, 1) := by decide +kernel
theorem dX6_isAsSeen_40 : decode cX6_isAsSeen 40 = .ok (.iconst 0, 1) := by decide +kernel
theorem dX6_isAsSeen_41 : decode cX6_isAsSeen 41 = .ok (.istore 5, 2) := by decide +kernel
theorem dX6_isAsSeen_43 : decode cX6_isAsSeen 43 = .ok (.iload 5, 2) := by decide +kernel
theorem dX6_isAsSeen_45 : decode cX6_isAsSeen 45 = .ok (.aload_n 0, 1) := by decide +kernel
theorem dX6_isAsSeen_46 : decode cX6_isAsSeen 46 = .ok (.getfield 114, 3) := by decide +kernel
theorem dX6_isAsSeen_49 : decode cX6_isAsSeen 49 = .ok (.if_icmp .ge 48, 3) := by decide +kernel
theorem dX6_isAsSeen_52 : decode cX6_isAsSeen 52 = .ok (.iload_n 2, 1) := by decide +kernel
theorem dX6_isAsSeen_53 : decode cX6_isAsSeen 53 = .ok (.ifCond .eq 36, 3) := by decide +kernel
theorem dX6_isAsSeen_56 : decode cX6_isAsSeen 56 = .ok (.aload_n 0, 1) := by decide +kernel
theorem dX6_isAsSeen_57 : decode cX6_isAsSeen 57 = .ok (.getfield 25, 3) := by decide +kernel
theorem dX6_isAsSeen_60 : decode cX6_isAsSeen 60 = .ok (.iconst 2, 1) := by decide +kernel
theorem dX6_isAsSeen_61 : decode cX6_isAsSeen 61 = .ok (.iload 5, 2) := by decide +kernel
theorem dX6_isAsSeen_63 : decode cX6_isAsSeen 63 = .ok (.imul, 1) := by decide +kernel
theorem dX6_isAsSeen_64 : decode cX6_isAsSeen 64 = .ok (.iaload, 1) := by decide +kernel
theorem dX6_isAsSeen_65 : decode cX6_isAsSeen 65 = .ok (.iload_n 3, 1) := by decide +kernel
theorem dX6_isAsSeen_66 : decode cX6_isAsSeen 66 = .ok (.if_icmp .ne 19, 3) := by decide +kernel
theorem dX6_isAsSeen_69 : decode cX6_isAsSeen 69 = .ok (.iload 4, 2) := by decide +kernel
theorem dX6_isAsSeen_71 : decode cX6_isAsSeen 71 = .ok (.aload_n 0, 1) := by decide +kernel
theorem dX6_isAsSeen_72 : decode cX6_isAsSeen 72 = .ok (.getfield 25, 3) := by decide +kernel
theorem dX6_isAsSeen_75 : decode cX6_isAsSeen 75 = .ok (.iconst 2, 1) := by decide +kernel
theorem dX6_isAsSeen_76 : decode cX6_isAsSeen 76 = .ok (.iload 5, 2) := by decide +kernel
theorem dX6_isAsSeen_78 : decode cX6_isAsSeen 78 = .ok (.imul, 1) := by decide +kernel
theorem dX6_isAsSeen_79 : decode cX6_isAsSeen 79 = .ok (.iconst 1, 1) := by decide +kernel
theorem dX6_isAsSeen_80 : decode cX6_isAsSeen 80 = .ok (.iadd, 1) := by decide +kernel
theorem dX6_isAsSeen_81 : decode cX6_isAsSeen 81 = .ok (.iaload, 1) := by decide +kernel
theorem dX6_isAsSeen_82 : decode cX6_isAsSeen 82 = .ok (.if_icmp .ne 7, 3) := by decide +kernel
theorem dX6_isAsSeen_85 : decode cX6_isAsSeen 85 = .ok (.iconst 1, 1) := by decide +kernel
theorem dX6_isAsSeen_86 : decode cX6_isAsSeen 86 = .ok (.goto 4, 3) := by decide +kernel
theorem dX6_isAsSeen_89 : decode cX6_isAsSeen 89 = .ok (.iconst 0, 1) := by decide +kernel
theorem dX6_isAsSeen_90 : decode cX6_isAsSeen 90 = .ok (.istore_n 2, 1) := by decide +kernel
theorem dX6_isAsSeen_91 : decode cX6_isAsSeen 91 = .ok (.iinc 5 1, 3) := by decide +kernel
theorem dX6_isAsSeen_94 : decode cX6_isAsSeen 94 = .ok (.goto (-51), 3) := by decide +kernel
theorem dX6_isAsSeen_97 : decode cX6_isAsSeen 97 = .ok (.aload_n 0, 1) := by decide +kernel
theorem dX6_isAsSeen_98 : decode cX6_isAsSeen 98 = .ok (.bipush 88, 2) := by decide +kernel
theorem dX6_isAsSeen_100 : decode cX6_isAsSeen 100 = .ok (.invokevirtual 164, 3) := by decide +kernel
theorem dX6_isAsSeen_103 : decode cX6_isAsSeen 103 = .ok (.iinc 3 1, 3) := by decide +kernel
theorem dX6_isAsSeen_106 : decode cX6_isAsSeen 106 = .ok (.goto (-95), 3) := by decide +kernel
theorem dX6_isAsSeen_109 : decode cX6_isAsSeen 109 = .ok (.iload_n 2, 1) := by decide +kernel
theorem dX6_isAsSeen_110 : decode cX6_isAsSeen 110 = .ok (.ireturn, 1) := by decide +kernel
theorem dX6_kinds_0 : decode cX6_kinds 0 = .ok (.aload_n 0, 1) := by decide +kernel
theorem dX6_kinds_1 : decode cX6_kinds 1 = .ok (.iload_n 1, 1) := by decide +kernel
theorem dX6_kinds_2 : decode cX6_kinds 2 = .ok (.invokevirtual 144, 3) := by decide +kernel
theorem dX6_kinds_5 : decode cX6_kinds 5 = .ok (.ifCond .ne 5, 3) := by decide +kernel
theorem dX6_kinds_8 : decode cX6_kinds 8 = .ok (.iconst (-1), 1) := by decide +kernel
theorem dX6_kinds_9 : decode cX6_kinds 9 = .ok (.ireturn, 1) := by decide +kernel
theorem dX6_kinds_10 : decode cX6_kinds 10 = .ok (.aload_n 0, 1) := by decide +kernel
theorem dX6_kinds_11 : decode cX6_kinds 11 = .ok (.getfield 7, 3) := by decide +kernel
theorem dX6_kinds_14 : decode cX6_kinds 14 = .ok (.iload_n 1, 1) := by decide +kernel
theorem dX6_kinds_15 : decode cX6_kinds 15 = .ok (.iaload, 1) := by decide +kernel
theorem dX6_kinds_16 : decode cX6_kinds 16 = .ok (.istore_n 2, 1) := by decide +kernel
theorem dX6_kinds_17 : decode cX6_kinds 17 = .ok (.iconst 0, 1) := by decide +kernel
theorem dX6_kinds_18 : decode cX6_kinds 18 = .ok (.istore_n 3, 1) := by decide +kernel
theorem dX6_kinds_19 : decode cX6_kinds 19 = .ok (.iconst 0, 1) := by decide +kernel
theorem dX6_kinds_20 : decode cX6_kinds 20 = .ok (.istore 4, 2) := by decide +kernel
theorem dX6_kinds_22 : decode cX6_kinds 22 = .ok (.iload 4, 2) := by decide +kernel
theorem dX6_kinds_24 : decode cX6_kinds 24 = .ok (.iconst 4, 1) := by decide +kernel
theorem dX6_kinds_25 : decode cX6_kinds 25 = .ok (.if_icmp .ge 36, 3) := by decide +kernel
theorem dX6_kinds_28 : decode cX6_kinds 28 = .ok (.aload_n 0, 1) := by decide +kernel
theorem dX6_kinds_29 : decode cX6_kinds 29 = .ok (.getfield 7, 3) := by decide +kernel
theorem dX6_kinds_32 : decode cX6_kinds 32 = .ok (.iload_n 1, 1) := by decide +kernel
theorem dX6_kinds_33 : decode cX6_kinds 33 = .ok (.iload 4, 2) := by decide +kernel
theorem dX6_kinds_35 : decode cX6_kinds 35 = .ok (.iastore, 1) := by decide +kernel
theorem dX6_kinds_36 : decode cX6_kinds 36 = .ok (.iload_n 3, 1) := by decide +kernel
theorem dX6_kinds_37 : decode cX6_kinds 37 = .ok (.aload_n 0, 1) := by decide +kernel
theorem dX6_kinds_38 : decode cX6_kinds 38 = .ok (.iconst 0, 1) := by decide +kernel
theorem dX6_kinds_39 : decode cX6_kinds 39 = .ok (.invokevirtual 209, 3) := by decide +kernel
theorem dX6_kinds_42 : decode cX6_kinds 42 = .ok (.ifCond .eq 10, 3) := by decide +kernel
theorem dX6_kinds_45 : decode cX6_kinds 45 = .ok (.iconst 1, 1) := by decide +kernel
theorem dX6_kinds_46 : decode cX6_kinds 46 = .ok (.iload 4, 2) := by decide +kernel
theorem dX6_kinds_48 : decode cX6_kinds 48 = .ok (.ishl, 1) := by decide +kernel
theorem dX6_kinds_49 : decode cX6_kinds 49 = .ok (.goto 4, 3) := by decide +kernel
theorem dX6_kinds_52 : decode cX6_kinds 52 = .ok (.iconst 0, 1) := by decide +kernel
theorem dX6_kinds_53 : decode cX6_kinds 53 = .ok (.ior, 1) := by decide +kernel
theorem dX6_kinds_54 : decode cX6_kinds 54 = .ok (.istore_n 3, 1) := by decide +kernel
theorem dX6_kinds_55 : decode cX6_kinds 55 = .ok (.iinc 4 1, 3) := by decide +kernel
theorem dX6_kinds_58 : decode cX6_kinds 58 = .ok (.goto (-36), 3) := by decide +kernel
theorem dX6_kinds_61 : decode cX6_kinds 61 = .ok (.aload_n 0, 1) := by decide +kernel
theorem dX6_kinds_62 : decode cX6_kinds 62 = .ok (.getfield 7, 3) := by decide +kernel
theorem dX6_kinds_65 : decode cX6_kinds 65 = .ok (.iload_n 1, 1) := by decide +kernel
theorem dX6_kinds_66 : decode cX6_kinds 66 = .ok (.iload_n 2, 1) := by decide +kernel
theorem dX6_kinds_67 : decode cX6_kinds 67 = .ok (.iastore, 1) := by decide +kernel
theorem dX6_kinds_68 : decode cX6_kinds 68 = .ok (.iload_n 3, 1) := by decide +kernel
theorem dX6_kinds_69 : decode cX6_kinds 69 = .ok (.ireturn, 1) := by decide +kernel
theorem dX6_brokenOf_0 : decode cX6_brokenOf 0 = .ok (.aload_n 0, 1) := by decide +kernel
theorem dX6_brokenOf_1 : decode cX6_brokenOf 1 = .ok (.getfield 7, 3) := by decide +kernel
theorem dX6_brokenOf_4 : decode cX6_brokenOf 4 = .ok (.bipush 15, 2) := by decide +kernel
theorem dX6_brokenOf_6 : decode cX6_brokenOf 6 = .ok (.iload_n 1, 1) := by decide +kernel
theorem dX6_brokenOf_7 : decode cX6_brokenOf 7 = .ok (.iadd, 1) := by decide +kernel
theorem dX6_brokenOf_8 : decode cX6_brokenOf 8 = .ok (.iaload, 1) := by decide +kernel
theorem dX6_brokenOf_9 : decode cX6_brokenOf 9 = .ok (.istore_n 2, 1) := by decide +kernel
theorem dX6_brokenOf_10 : decode cX6_brokenOf 10 = .ok (.iconst 0, 1) := by decide +kernel
theorem dX6_brokenOf_11 : decode cX6_brokenOf 11 = .ok (.istore_n 3, 1) := by decide +kernel
theorem dX6_brokenOf_12 : decode cX6_brokenOf 12 = .ok (.iconst 0, 1) := by decide +kernel
theorem dX6_brokenOf_13 : decode cX6_brokenOf 13 = .ok (.istore 4, 2) := by decide +kernel
theorem dX6_brokenOf_15 : decode cX6_brokenOf 15 = .ok (.iload 4, 2) := by decide +kernel
theorem dX6_brokenOf_17 : decode cX6_brokenOf 17 = .ok (.bipush 12, 2) := by decide +kernel
theorem dX6_brokenOf_19 : decode cX6_brokenOf 19 = .ok (.if_icmp .gt 63, 3) := by decide +kernel
theorem dX6_brokenOf_22 : decode cX6_brokenOf 22 = .ok (.iload 4, 2) := by decide +kernel
theorem dX6_brokenOf_24 : decode cX6_brokenOf 24 = .ok (.aload_n 0, 1) := by decide +kernel
theorem dX6_brokenOf_25 : decode cX6_brokenOf 25 = .ok (.getfield 7, 3) := by decide +kernel
theorem dX6_brokenOf_28 : decode cX6_brokenOf 28 = .ok (.iconst 5, 1) := by decide +kernel
theorem dX6_brokenOf_29 : decode cX6_brokenOf 29 = .ok (.iload_n 1, 1) := by decide +kernel
theorem dX6_brokenOf_30 : decode cX6_brokenOf 30 = .ok (.iadd, 1) := by decide +kernel
theorem dX6_brokenOf_31 : decode cX6_brokenOf 31 = .ok (.iaload, 1) := by decide +kernel
theorem dX6_brokenOf_32 : decode cX6_brokenOf 32 = .ok (.if_icmp .lt 10, 3) := by decide +kernel
theorem dX6_brokenOf_35 : decode cX6_brokenOf 35 = .ok (.iload 4, 2) := by decide +kernel
theorem dX6_brokenOf_37 : decode cX6_brokenOf 37 = .ok (.bipush 12, 2) := by decide +kernel
theorem dX6_brokenOf_39 : decode cX6_brokenOf 39 = .ok (.if_icmp .ne 37, 3) := by decide +kernel
theorem dX6_brokenOf_42 : decode cX6_brokenOf 42 = .ok (.aload_n 0, 1) := by decide +kernel
theorem dX6_brokenOf_43 : decode cX6_brokenOf 43 = .ok (.getfield 7, 3) := by decide +kernel
theorem dX6_brokenOf_46 : decode cX6_brokenOf 46 = .ok (.bipush 15, 2) := by decide +kernel
theorem dX6_brokenOf_48 : decode cX6_brokenOf 48 = .ok (.iload_n 1, 1) := by decide +kernel
theorem dX6_brokenOf_49 : decode cX6_brokenOf 49 = .ok (.iadd, 1) := by decide +kernel
theorem dX6_brokenOf_50 : decode cX6_brokenOf 50 = .ok (.iload 4, 2) := by decide +kernel
theorem dX6_brokenOf_52 : decode cX6_brokenOf 52 = .ok (.bipush 12, 2) := by decide +kernel
theorem dX6_brokenOf_54 : decode cX6_brokenOf 54 = .ok (.isub, 1) := by decide +kernel
theorem dX6_brokenOf_55 : decode cX6_brokenOf 55 = .ok (.iastore, 1) := by decide +kernel
theorem dX6_brokenOf_56 : decode cX6_brokenOf 56 = .ok (.iload_n 3, 1) := by decide +kernel
theorem dX6_brokenOf_57 : decode cX6_brokenOf 57 = .ok (.aload_n 0, 1) := by decide +kernel
theorem dX6_brokenOf_58 : decode cX6_brokenOf 58 = .ok (.iload 4, 2) := by decide +kernel
theorem dX6_brokenOf_60 : decode cX6_brokenOf 60 = .ok (.invokevirtual 209, 3) := by decide +kernel
theorem dX6_brokenOf_63 : decode cX6_brokenOf 63 = .ok (.ifCond .eq 10, 3) := by decide +kernel
theorem dX6_brokenOf_66 : decode cX6_brokenOf 66 = .ok (.iconst 1, 1) := by decide +kernel
theorem dX6_brokenOf_67 : decode cX6_brokenOf 67 = .ok (.iload 4, 2) := by decide +kernel
theorem dX6_brokenOf_69 : decode cX6_brokenOf 69 = .ok (.ishl, 1) := by decide +kernel
theorem dX6_brokenOf_70 : decode cX6_brokenOf 70 = .ok (.goto 4, 3) := by decide +kernel
theorem dX6_brokenOf_73 : decode cX6_brokenOf 73 = .ok (.iconst 0, 1) := by decide +kernel
theorem dX6_brokenOf_74 : decode cX6_brokenOf 74 = .ok (.ior, 1) := by decide +kernel
theorem dX6_brokenOf_75 : decode cX6_brokenOf 75 = .ok (.istore_n 3, 1) := by decide +kernel
theorem dX6_brokenOf_76 : decode cX6_brokenOf 76 = .ok (.iinc 4 1, 3) := by decide +kernel
theorem dX6_brokenOf_79 : decode cX6_brokenOf 79 = .ok (.goto (-64), 3) := by decide +kernel
theorem dX6_brokenOf_82 : decode cX6_brokenOf 82 = .ok (.aload_n 0, 1) := by decide +kernel
theorem dX6_brokenOf_83 : decode cX6_brokenOf 83 = .ok (.getfield 7, 3) := by decide +kernel
theorem dX6_brokenOf_86 : decode cX6_brokenOf 86 = .ok (.bipush 15, 2) := by decide +kernel
theorem dX6_brokenOf_88 : decode cX6_brokenOf 88 = .ok (.iload_n 1, 1) := by decide +kernel
theorem dX6_brokenOf_89 : decode cX6_brokenOf 89 = .ok (.iadd, 1) := by decide +kernel
theorem dX6_brokenOf_90 : decode cX6_brokenOf 90 = .ok (.iload_n 2, 1) := by decide +kernel
theorem dX6_brokenOf_91 : decode cX6_brokenOf 91 = .ok (.iastore, 1) := by decide +kernel
theorem dX6_brokenOf_92 : decode cX6_brokenOf 92 = .ok (.iload_n 3, 1) := by decide +kernel
theorem dX6_brokenOf_93 : decode cX6_brokenOf 93 = .ok (.ireturn, 1) := by decide +kernel
theorem dX6_broken_0 : decode cX6_broken 0 = .ok (.aload_n 0, 1) := by decide +kernel
theorem dX6_broken_1 : decode cX6_broken 1 = .ok (.iload_n 1, 1) := by decide +kernel
theorem dX6_broken_2 : decode cX6_broken 2 = .ok (.invokevirtual 144, 3) := by decide +kernel
theorem dX6_broken_5 : decode cX6_broken 5 = .ok (.ifCond .eq 11, 3) := by decide +kernel
theorem dX6_broken_8 : decode cX6_broken 8 = .ok (.aload_n 0, 1) := by decide +kernel
theorem dX6_broken_9 : decode cX6_broken 9 = .ok (.iload_n 1, 1) := by decide +kernel
theorem dX6_broken_10 : decode cX6_broken 10 = .ok (.invokevirtual 212, 3) := by decide +kernel
theorem dX6_broken_13 : decode cX6_broken 13 = .ok (.goto 4, 3) := by decide +kernel
theorem dX6_broken_16 : decode cX6_broken 16 = .ok (.iconst (-1), 1) := by decide +kernel
theorem dX6_broken_17 : decode cX6_broken 17 = .ok (.ireturn, 1) := by decide +kernel
theorem dX6_worstAt_0 : decode cX6_worstAt 0 = .ok (.iconst 0, 1) := by decide +kernel
theorem dX6_worstAt_1 : decode cX6_worstAt 1 = .ok (.istore_n 3, 1) := by decide +kernel
theorem dX6_worstAt_2 : decode cX6_worstAt 2 = .ok (.iconst 0, 1) := by decide +kernel
theorem dX6_worstAt_3 : decode cX6_worstAt 3 = .ok (.istore 4, 2) := by decide +kernel
theorem dX6_worstAt_5 : decode cX6_worstAt 5 = .ok (.iload 4, 2) := by decide +kernel
theorem dX6_worstAt_7 : decode cX6_worstAt 7 = .ok (.bipush 12, 2) := by decide +kernel
theorem dX6_worstAt_9 : decode cX6_worstAt 9 = .ok (.if_icmp .gt 100, 3) := by decide +kernel
theorem dX6_worstAt_12 : decode cX6_worstAt 12 = .ok (.iconst 0, 1) := by decide +kernel
theorem dX6_worstAt_13 : decode cX6_worstAt 13 = .ok (.istore 5, 2) := by decide +kernel
theorem dX6_worstAt_15 : decode cX6_worstAt 15 = .ok (.iconst 0, 1) := by decide +kernel
theorem dX6_worstAt_16 : decode cX6_worstAt 16 = .ok (.istore 6, 2) := by decide +kernel
theorem dX6_worstAt_18 : decode cX6_worstAt 18 = .ok (.iload 6, 2) := by decide +kernel
theorem dX6_worstAt_20 : decode cX6_worstAt 20 = .ok (.bipush 12, 2) := by decide +kernel
theorem dX6_worstAt_22 : decode cX6_worstAt 22 = .ok (.if_icmp .gt 68, 3) := by decide +kernel
theorem dX6_worstAt_25 : decode cX6_worstAt 25 = .ok (.iload_n 1, 1) := by decide +kernel
theorem dX6_worstAt_26 : decode cX6_worstAt 26 = .ok (.iload 4, 2) := by decide +kernel
theorem dX6_worstAt_28 : decode cX6_worstAt 28 = .ok (.ishr, 1) := by decide +kernel
theorem dX6_worstAt_29 : decode cX6_worstAt 29 = .ok (.iconst 1, 1) := by decide +kernel
theorem dX6_worstAt_30 : decode cX6_worstAt 30 = .ok (.iand, 1) := by decide +kernel
theorem dX6_worstAt_31 : decode cX6_worstAt 31 = .ok (.iconst 1, 1) := by decide +kernel
theorem dX6_worstAt_32 : decode cX6_worstAt 32 = .ok (.if_icmp .ne 58, 3) := by decide +kernel
theorem dX6_worstAt_35 : decode cX6_worstAt 35 = .ok (.iload 5, 2) := by decide +kernel
theorem dX6_worstAt_37 : decode cX6_worstAt 37 = .ok (.iload_n 1, 1) := by decide +kernel
theorem dX6_worstAt_38 : decode cX6_worstAt 38 = .ok (.iload 6, 2) := by decide +kernel
theorem dX6_worstAt_40 : decode cX6_worstAt 40 = .ok (.ishr, 1) := by decide +kernel
theorem dX6_worstAt_41 : decode cX6_worstAt 41 = .ok (.iconst 1, 1) := by decide +kernel
theorem dX6_worstAt_42 : decode cX6_worstAt 42 = .ok (.iand, 1) := by decide +kernel
theorem dX6_worstAt_43 : decode cX6_worstAt 43 = .ok (.iconst 1, 1) := by decide +kernel
theorem dX6_worstAt_44 : decode cX6_worstAt 44 = .ok (.if_icmp .ne 36, 3) := by decide +kernel
theorem dX6_worstAt_47 : decode cX6_worstAt 47 = .ok (.aload_n 0, 1) := by decide +kernel
theorem dX6_worstAt_48 : decode cX6_worstAt 48 = .ok (.getfield 28, 3) := by decide +kernel
theorem dX6_worstAt_51 : decode cX6_worstAt 51 = .ok (.sipush 201, 3) := by decide +kernel
theorem dX6_worstAt_54 : decode cX6_worstAt 54 = .ok (.iload 4, 2) := by decide +kernel
theorem dX6_worstAt_56 : decode cX6_worstAt 56 = .ok (.imul, 1) := by decide +kernel
theorem dX6_worstAt_57 : decode cX6_worstAt 57 = .ok (.iload_n 2, 1) := by decide +kernel
theorem dX6_worstAt_58 : decode cX6_worstAt 58 = .ok (.iadd, 1) := by decide +kernel
theorem dX6_worstAt_59 : decode cX6_worstAt 59 = .ok (.iaload, 1) := by decide +kernel
theorem dX6_worstAt_60 : decode cX6_worstAt 60 = .ok (.aload_n 0, 1) := by decide +kernel
theorem dX6_worstAt_61 : decode cX6_worstAt 61 = .ok (.getfield 28, 3) := by decide +kernel
theorem dX6_worstAt_64 : decode cX6_worstAt 64 = .ok (.sipush 201, 3) := by decide +kernel
theorem dX6_worstAt_67 : decode cX6_worstAt 67 = .ok (.iload 6, 2) := by decide +kernel
theorem dX6_worstAt_69 : decode cX6_worstAt 69 = .ok (.imul, 1) := by decide +kernel
theorem dX6_worstAt_70 : decode cX6_worstAt 70 = .ok (.iload_n 2, 1) := by decide +kernel
theorem dX6_worstAt_71 : decode cX6_worstAt 71 = .ok (.iadd, 1) := by decide +kernel
theorem dX6_worstAt_72 : decode cX6_worstAt 72 = .ok (.iaload, 1) := by decide +kernel
theorem dX6_worstAt_73 : decode cX6_worstAt 73 = .ok (.if_icmp .ne 7, 3) := by decide +kernel
theorem dX6_worstAt_76 : decode cX6_worstAt 76 = .ok (.iconst 1, 1) := by decide +kernel
theorem dX6_worstAt_77 : decode cX6_worstAt 77 = .ok (.goto 4, 3) := by decide +kernel
theorem dX6_worstAt_80 : decode cX6_worstAt 80 = .ok (.iconst 0, 1) := by decide +kernel
theorem dX6_worstAt_81 : decode cX6_worstAt 81 = .ok (.iadd, 1) := by decide +kernel
theorem dX6_worstAt_82 : decode cX6_worstAt 82 = .ok (.istore 5, 2) := by decide +kernel
theorem dX6_worstAt_84 : decode cX6_worstAt 84 = .ok (.iinc 6 1, 3) := by decide +kernel
theorem dX6_worstAt_87 : decode cX6_worstAt 87 = .ok (.goto (-69), 3) := by decide +kernel
theorem dX6_worstAt_90 : decode cX6_worstAt 90 = .ok (.iload 5, 2) := by decide +kernel
theorem dX6_worstAt_92 : decode cX6_worstAt 92 = .ok (.iload_n 3, 1) := by decide +kernel
theorem dX6_worstAt_93 : decode cX6_worstAt 93 = .ok (.if_icmp .le 8, 3) := by decide +kernel
theorem dX6_worstAt_96 : decode cX6_worstAt 96 = .ok (.iload 5, 2) := by decide +kernel
theorem dX6_worstAt_98 : decode cX6_worstAt 98 = .ok (.goto 4, 3) := by decide +kernel
theorem dX6_worstAt_101 : decode cX6_worstAt 101 = .ok (.iload_n 3, 1) := by decide +kernel
theorem dX6_worstAt_102 : decode cX6_worstAt 102 = .ok (.istore_n 3, 1) := by decide +kernel
theorem dX6_worstAt_103 : decode cX6_worstAt 103 = .ok (.iinc 4 1, 3) := by decide +kernel
theorem dX6_worstAt_106 : decode cX6_worstAt 106 = .ok (.goto (-101), 3) := by decide +kernel
theorem dX6_worstAt_109 : decode cX6_worstAt 109 = .ok (.iload_n 3, 1) := by decide +kernel
theorem dX6_worstAt_110 : decode cX6_worstAt 110 = .ok (.ireturn, 1) := by decide +kernel
theorem dX6_ask_0 : decode cX6_ask 0 = .ok (.aload_n 0, 1) := by decide +kernel
theorem dX6_ask_1 : decode cX6_ask 1 = .ok (.iload_n 1, 1) := by decide +kernel
theorem dX6_ask_2 : decode cX6_ask 2 = .ok (.invokevirtual 144, 3) := by decide +kernel
theorem dX6_ask_5 : decode cX6_ask 5 = .ok (.ifCond .eq 13, 3) := by decide +kernel
theorem dX6_ask_8 : decode cX6_ask 8 = .ok (.iload_n 2, 1) := by decide +kernel
theorem dX6_ask_9 : decode cX6_ask 9 = .ok (.i2l, 1) := by decide +kernel
theorem dX6_ask_10 : decode cX6_ask 10 = .ok (.lconst 0, 1) := by decide +kernel
theorem dX6_ask_11 : decode cX6_ask 11 = .ok (.lconst 1, 1) := by decide +kernel
theorem dX6_ask_12 : decode cX6_ask 12 = .ok (.invokestatic 46, 3) := by decide +kernel
theorem dX6_ask_15 : decode cX6_ask 15 = .ok (.ifCond .ne 5, 3) := by decide +kernel
theorem dX6_ask_18 : decode cX6_ask 18 = .ok (.iconst (-1), 1) := by decide +kernel
theorem dX6_ask_19 : decode cX6_ask 19 = .ok (.ireturn, 1) := by decide +kernel
theorem dX6_ask_20 : decode cX6_ask 20 = .ok (.aload_n 0, 1) := by decide +kernel
theorem dX6_ask_21 : decode cX6_ask 21 = .ok (.iload_n 1, 1) := by decide +kernel
theorem dX6_ask_22 : decode cX6_ask 22 = .ok (.invokevirtual 212, 3) := by decide +kernel
theorem dX6_ask_25 : decode cX6_ask 25 = .ok (.istore_n 3, 1) := by decide +kernel
theorem dX6_ask_26 : decode cX6_ask 26 = .ok (.iconst 0, 1) := by decide +kernel
theorem dX6_ask_27 : decode cX6_ask 27 = .ok (.istore 4, 2) := by decide +kernel
theorem dX6_ask_29 : decode cX6_ask 29 = .ok (.iconst 0, 1) := by decide +kernel
theorem dX6_ask_30 : decode cX6_ask 30 = .ok (.istore 5, 2) := by decide +kernel
theorem dX6_ask_32 : decode cX6_ask 32 = .ok (.iload 5, 2) := by decide +kernel
theorem dX6_ask_34 : decode cX6_ask 34 = .ok (.bipush 12, 2) := by decide +kernel
theorem dX6_ask_36 : decode cX6_ask 36 = .ok (.if_icmp .gt 20, 3) := by decide +kernel
theorem dX6_ask_39 : decode cX6_ask 39 = .ok (.iload 4, 2) := by decide +kernel
theorem dX6_ask_41 : decode cX6_ask 41 = .ok (.iload_n 3, 1) := by decide +kernel
theorem dX6_ask_42 : decode cX6_ask 42 = .ok (.iload 5, 2) := by decide +kernel
theorem dX6_ask_44 : decode cX6_ask 44 = .ok (.ishr, 1) := by decide +kernel
theorem dX6_ask_45 : decode cX6_ask 45 = .ok (.iconst 1, 1) := by decide +kernel
theorem dX6_ask_46 : decode cX6_ask 46 = .ok (.iand, 1) := by decide +kernel
theorem dX6_ask_47 : decode cX6_ask 47 = .ok (.iadd, 1) := by decide +kernel
theorem dX6_ask_48 : decode cX6_ask 48 = .ok (.istore 4, 2) := by decide +kernel
theorem dX6_ask_50 : decode cX6_ask 50 = .ok (.iinc 5 1, 3) := by decide +kernel
theorem dX6_ask_53 : decode cX6_ask 53 = .ok (.goto (-21), 3) := by decide +kernel
theorem dX6_ask_56 : decode cX6_ask 56 = .ok (.bipush (-4), 2) := by decide +kernel
theorem dX6_ask_58 : decode cX6_ask 58 = .ok (.istore 5, 2) := by decide +kernel
theorem dX6_ask_60 : decode cX6_ask 60 = .ok (.iconst 0, 1) := by decide +kernel
theorem dX6_ask_61 : decode cX6_ask 61 = .ok (.istore 6, 2) := by decide +kernel
theorem dX6_ask_63 : decode cX6_ask 63 = .ok (.iload 6, 2) := by decide +kernel
theorem dX6_ask_65 : decode cX6_ask 65 = .ok (.sipush 200, 3) := by decide +kernel
theorem dX6_ask_68 : decode cX6_ask 68 = .ok (.if_icmp .gt 50, 3) := by decide +kernel
theorem dX6_ask_71 : decode cX6_ask 71 = .ok (.aload_n 0, 1) := by decide +kernel
theorem dX6_ask_72 : decode cX6_ask 72 = .ok (.iload_n 3, 1) := by decide +kernel
theorem dX6_ask_73 : decode cX6_ask 73 = .ok (.iload 6, 2) := by decide +kernel
theorem dX6_ask_75 : decode cX6_ask 75 = .ok (.invokevirtual 215, 3) := by decide +kernel
theorem dX6_ask_78 : decode cX6_ask 78 = .ok (.istore 7, 2) := by decide +kernel
theorem dX6_ask_80 : decode cX6_ask 80 = .ok (.iload 7, 2) := by decide +kernel
theorem dX6_ask_82 : decode cX6_ask 82 = .ok (.iload 4, 2) := by decide +kernel
theorem dX6_ask_84 : decode cX6_ask 84 = .ok (.if_icmp .ge 8, 3) := by decide +kernel
theorem dX6_ask_87 : decode cX6_ask 87 = .ok (.iload 6, 2) := by decide +kernel
theorem dX6_ask_89 : decode cX6_ask 89 = .ok (.goto 5, 3) := by decide +kernel
theorem dX6_ask_92 : decode cX6_ask 92 = .ok (.iload 5, 2) := by decide +kernel
theorem dX6_ask_94 : decode cX6_ask 94 = .ok (.istore 5, 2) := by decide +kernel
theorem dX6_ask_96 : decode cX6_ask 96 = .ok (.iload 7, 2) := by decide +kernel
theorem dX6_ask_98 : decode cX6_ask 98 = .ok (.iload 4, 2) := by decide +kernel
theorem dX6_ask_100 : decode cX6_ask 100 = .ok (.if_icmp .ge 8, 3) := by decide +kernel
theorem dX6_ask_103 : decode cX6_ask 103 = .ok (.iload 7, 2) := by decide +kernel
theorem dX6_ask_105 : decode cX6_ask 105 = .ok (.goto 5, 3) := by decide +kernel
theorem dX6_ask_108 : decode cX6_ask 108 = .ok (.iload 4, 2) := by decide +kernel
theorem dX6_ask_110 : decode cX6_ask 110 = .ok (.istore 4, 2) := by decide +kernel
theorem dX6_ask_112 : decode cX6_ask 112 = .ok (.iinc 6 1, 3) := by decide +kernel
theorem dX6_ask_115 : decode cX6_ask 115 = .ok (.goto (-52), 3) := by decide +kernel
theorem dX6_ask_118 : decode cX6_ask 118 = .ok (.iload 5, 2) := by decide +kernel
theorem dX6_ask_120 : decode cX6_ask 120 = .ok (.bipush (-4), 2) := by decide +kernel
theorem dX6_ask_122 : decode cX6_ask 122 = .ok (.if_icmp .eq 7, 3) := by decide +kernel
theorem dX6_ask_125 : decode cX6_ask 125 = .ok (.iload_n 2, 1) := by decide +kernel
theorem dX6_ask_126 : decode cX6_ask 126 = .ok (.ifCond .ne 8, 3) := by decide +kernel
theorem dX6_ask_129 : decode cX6_ask 129 = .ok (.iload 5, 2) := by decide +kernel
theorem dX6_ask_131 : decode cX6_ask 131 = .ok (.goto 5, 3) := by decide +kernel
theorem dX6_ask_134 : decode cX6_ask 134 = .ok (.iload 4, 2) := by decide +kernel
theorem dX6_ask_136 : decode cX6_ask 136 = .ok (.ireturn, 1) := by decide +kernel
theorem dX6_drift_0 : decode cX6_drift 0 = .ok (.iload_n 2, 1) := by decide +kernel
theorem dX6_drift_1 : decode cX6_drift 1 = .ok (.i2l, 1) := by decide +kernel
theorem dX6_drift_2 : decode cX6_drift 2 = .ok (.lconst 1, 1) := by decide +kernel
theorem dX6_drift_3 : decode cX6_drift 3 = .ok (.ldc2_w 185, 3) := by decide +kernel
theorem dX6_drift_6 : decode cX6_drift 6 = .ok (.invokestatic 46, 3) := by decide +kernel
theorem dX6_drift_9 : decode cX6_drift 9 = .ok (.ifCond .eq 13, 3) := by decide +kernel
theorem dX6_drift_12 : decode cX6_drift 12 = .ok (.iload_n 3, 1) := by decide +kernel
theorem dX6_drift_13 : decode cX6_drift 13 = .ok (.i2l, 1) := by decide +kernel
theorem dX6_drift_14 : decode cX6_drift 14 = .ok (.lconst 0, 1) := by decide +kernel
theorem dX6_drift_15 : decode cX6_drift 15 = .ok (.lconst 1, 1) := by decide +kernel
theorem dX6_drift_16 : decode cX6_drift 16 = .ok (.invokestatic 46, 3) := by decide +kernel
theorem dX6_drift_19 : decode cX6_drift 19 = .ok (.ifCond .ne 5, 3) := by decide +kernel
theorem dX6_drift_22 : decode cX6_drift 22 = .ok (.iconst (-1), 1) := by decide +kernel
theorem dX6_drift_23 : decode cX6_drift 23 = .ok (.ireturn, 1) := by decide +kernel
theorem dX6_drift_24 : decode cX6_drift 24 = .ok (.aload_n 0, 1) := by decide +kernel
theorem dX6_drift_25 : decode cX6_drift 25 = .ok (.getfield 7, 3) := by decide +kernel
theorem dX6_drift_28 : decode cX6_drift 28 = .ok (.bipush 20, 2) := by decide +kernel
theorem dX6_drift_30 : decode cX6_drift 30 = .ok (.iaload, 1) := by decide +kernel
theorem dX6_drift_31 : decode cX6_drift 31 = .ok (.ifCond .ne 6, 3) := by decide +kernel
theorem dX6_drift_34 : decode cX6_drift 34 = .ok (.bipush (-2), 2) := by decide +kernel
theorem dX6_drift_36 : decode cX6_drift 36 = .ok (.ireturn, 1) := by decide +kernel
theorem dX6_drift_37 : decode cX6_drift 37 = .ok (.aload_n 0, 1) := by decide +kernel
theorem dX6_drift_38 : decode cX6_drift 38 = .ok (.iconst 0, 1) := by decide +kernel
theorem dX6_drift_39 : decode cX6_drift 39 = .ok (.bipush 88, 2) := by decide +kernel
theorem dX6_drift_41 : decode cX6_drift 41 = .ok (.invokevirtual 167, 3) := by decide +kernel
theorem dX6_drift_44 : decode cX6_drift 44 = .ok (.aload_n 0, 1) := by decide +kernel
theorem dX6_drift_45 : decode cX6_drift 45 = .ok (.iconst 0, 1) := by decide +kernel
theorem dX6_drift_46 : decode cX6_drift 46 = .ok (.putfield 125, 3) := by decide +kernel
theorem dX6_drift_49 : decode cX6_drift 49 = .ok (.iload_n 1, 1) := by decide +kernel
theorem dX6_drift_50 : decode cX6_drift 50 = .ok (.istore 4, 2) := by decide +kernel
theorem dX6_drift_52 : decode cX6_drift 52 = .ok (.iconst 0, 1) := by decide +kernel
theorem dX6_drift_53 : decode cX6_drift 53 = .ok (.istore 5, 2) := by decide +kernel
theorem dX6_drift_55 : decode cX6_drift 55 = .ok (.iload 5, 2) := by decide +kernel
theorem dX6_drift_57 : decode cX6_drift 57 = .ok (.iload_n 2, 1) := by decide +kernel
theorem dX6_drift_58 : decode cX6_drift 58 = .ok (.if_icmp .ge 43, 3) := by decide +kernel
theorem dX6_drift_61 : decode cX6_drift 61 = .ok (.iload 4, 2) := by decide +kernel
theorem dX6_drift_63 : decode cX6_drift 63 = .ok (.ldc 218, 2) := by decide +kernel
theorem dX6_drift_65 : decode cX6_drift 65 = .ok (.imul, 1) := by decide +kernel
theorem dX6_drift_66 : decode cX6_drift 66 = .ok (.sipush 12345, 3) := by decide +kernel
theorem dX6_drift_69 : decode cX6_drift 69 = .ok (.iadd, 1) := by decide +kernel
theorem dX6_drift_70 : decode cX6_drift 70 = .ok (.istore 4, 2) := by decide +kernel
theorem dX6_drift_72 : decode cX6_drift 72 = .ok (.aload_n 0, 1) := by decide +kernel
theorem dX6_drift_73 : decode cX6_drift 73 = .ok (.bipush 88, 2) := by decide +kernel
theorem dX6_drift_75 : decode cX6_drift 75 = .ok (.iload 4, 2) := by decide +kernel
theorem dX6_drift_77 : decode cX6_drift 77 = .ok (.bipush 16, 2) := by decide +kernel
theorem dX6_drift_79 : decode cX6_drift 79 = .ok (.ishr, 1) := by decide +kernel
theorem dX6_drift_80 : decode cX6_drift 80 = .ok (.sipush 32767, 3) := by decide +kernel
theorem dX6_drift_83 : decode cX6_drift 83 = .ok (.iand, 1) := by decide +kernel
theorem dX6_drift_84 : decode cX6_drift 84 = .ok (.aload_n 0, 1) := by decide +kernel
theorem dX6_drift_85 : decode cX6_drift 85 = .ok (.getfield 7, 3) := by decide +kernel
theorem dX6_drift_88 : decode cX6_drift 88 = .ok (.bipush 20, 2) := by decide +kernel
theorem dX6_drift_90 : decode cX6_drift 90 = .ok (.iaload, 1) := by decide +kernel
theorem dX6_drift_91 : decode cX6_drift 91 = .ok (.irem, 1) := by decide +kernel
theorem dX6_drift_92 : decode cX6_drift 92 = .ok (.invokevirtual 131, 3) := by decide +kernel
theorem dX6_drift_95 : decode cX6_drift 95 = .ok (.iinc 5 1, 3) := by decide +kernel
theorem dX6_drift_98 : decode cX6_drift 98 = .ok (.goto (-43), 3) := by decide +kernel
theorem dX6_drift_101 : decode cX6_drift 101 = .ok (.iload_n 3, 1) := by decide +kernel
theorem dX6_drift_102 : decode cX6_drift 102 = .ok (.ifCond .ne 12, 3) := by decide +kernel
theorem dX6_drift_105 : decode cX6_drift 105 = .ok (.aload_n 0, 1) := by decide +kernel
theorem dX6_drift_106 : decode cX6_drift 106 = .ok (.bipush 88, 2) := by decide +kernel
theorem dX6_drift_108 : decode cX6_drift 108 = .ok (.invokevirtual 135, 3) := by decide +kernel
theorem dX6_drift_111 : decode cX6_drift 111 = .ok (.goto 7, 3) := by decide +kernel
theorem dX6_drift_114 : decode cX6_drift 114 = .ok (.aload_n 0, 1) := by decide +kernel
theorem dX6_drift_115 : decode cX6_drift 115 = .ok (.getfield 125, 3) := by decide +kernel
theorem dX6_drift_118 : decode cX6_drift 118 = .ok (.ireturn, 1) := by decide +kernel
theorem dX6_keep_0 : decode cX6_keep 0 = .ok (.iload_n 1, 1) := by decide +kernel
theorem dX6_keep_1 : decode cX6_keep 1 = .ok (.i2l, 1) := by decide +kernel
theorem dX6_keep_2 : decode cX6_keep 2 = .ok (.lconst 0, 1) := by decide +kernel
theorem dX6_keep_3 : decode cX6_keep 3 = .ok (.lconst 1, 1) := by decide +kernel
theorem dX6_keep_4 : decode cX6_keep 4 = .ok (.invokestatic 46, 3) := by decide +kernel
theorem dX6_keep_7 : decode cX6_keep 7 = .ok (.ifCond .ne 5, 3) := by decide +kernel
theorem dX6_keep_10 : decode cX6_keep 10 = .ok (.iconst (-1), 1) := by decide +kernel
theorem dX6_keep_11 : decode cX6_keep 11 = .ok (.ireturn, 1) := by decide +kernel
theorem dX6_keep_12 : decode cX6_keep 12 = .ok (.aload_n 0, 1) := by decide +kernel
theorem dX6_keep_13 : decode cX6_keep 13 = .ok (.iconst 0, 1) := by decide +kernel
theorem dX6_keep_14 : decode cX6_keep 14 = .ok (.bipush 22, 2) := by decide +kernel
theorem dX6_keep_16 : decode cX6_keep 16 = .ok (.iload_n 1, 1) := by decide +kernel
theorem dX6_keep_17 : decode cX6_keep 17 = .ok (.iconst 1, 1) := by decide +kernel
theorem dX6_keep_18 : decode cX6_keep 18 = .ok (.iadd, 1) := by decide +kernel
theorem dX6_keep_19 : decode cX6_keep 19 = .ok (.imul, 1) := by decide +kernel
theorem dX6_keep_20 : decode cX6_keep 20 = .ok (.invokevirtual 167, 3) := by decide +kernel
theorem dX6_keep_23 : decode cX6_keep 23 = .ok (.aload_n 0, 1) := by decide +kernel
theorem dX6_keep_24 : decode cX6_keep 24 = .ok (.getfield 31, 3) := by decide +kernel
theorem dX6_keep_27 : decode cX6_keep 27 = .ok (.iload_n 1, 1) := by decide +kernel
theorem dX6_keep_28 : decode cX6_keep 28 = .ok (.baload, 1) := by decide +kernel
theorem dX6_keep_29 : decode cX6_keep 29 = .ok (.ifCond .eq 7, 3) := by decide +kernel
theorem dX6_keep_32 : decode cX6_keep 32 = .ok (.iconst 1, 1) := by decide +kernel
theorem dX6_keep_33 : decode cX6_keep 33 = .ok (.goto 4, 3) := by decide +kernel
theorem dX6_keep_36 : decode cX6_keep 36 = .ok (.iconst 0, 1) := by decide +kernel
theorem dX6_keep_37 : decode cX6_keep 37 = .ok (.istore_n 2, 1) := by decide +kernel
theorem dX6_keep_38 : decode cX6_keep 38 = .ok (.aload_n 0, 1) := by decide +kernel
theorem dX6_keep_39 : decode cX6_keep 39 = .ok (.getfield 31, 3) := by decide +kernel
theorem dX6_keep_42 : decode cX6_keep 42 = .ok (.iload_n 1, 1) := by decide +kernel
theorem dX6_keep_43 : decode cX6_keep 43 = .ok (.iconst 1, 1) := by decide +kernel
theorem dX6_keep_44 : decode cX6_keep 44 = .ok (.bastore, 1) := by decide +kernel
theorem dX6_keep_45 : decode cX6_keep 45 = .ok (.iload_n 2, 1) := by decide +kernel
theorem dX6_keep_46 : decode cX6_keep 46 = .ok (.ireturn, 1) := by decide +kernel
theorem dX6_back_0 : decode cX6_back 0 = .ok (.iload_n 1, 1) := by decide +kernel
theorem dX6_back_1 : decode cX6_back 1 = .ok (.i2l, 1) := by decide +kernel
theorem dX6_back_2 : decode cX6_back 2 = .ok (.lconst 0, 1) := by decide +kernel
theorem dX6_back_3 : decode cX6_back 3 = .ok (.lconst 1, 1) := by decide +kernel
theorem dX6_back_4 : decode cX6_back 4 = .ok (.invokestatic 46, 3) := by decide +kernel
theorem dX6_back_7 : decode cX6_back 7 = .ok (.ifCond .ne 5, 3) := by decide +kernel
theorem dX6_back_10 : decode cX6_back 10 = .ok (.iconst (-1), 1) := by decide +kernel
theorem dX6_back_11 : decode cX6_back 11 = .ok (.ireturn, 1) := by decide +kernel
theorem dX6_back_12 : decode cX6_back 12 = .ok (.aload_n 0, 1) := by decide +kernel
theorem dX6_back_13 : decode cX6_back 13 = .ok (.getfield 31, 3) := by decide +kernel
theorem dX6_back_16 : decode cX6_back 16 = .ok (.iload_n 1, 1) := by decide +kernel
theorem dX6_back_17 : decode cX6_back 17 = .ok (.baload, 1) := by decide +kernel
theorem dX6_back_18 : decode cX6_back 18 = .ok (.ifCond .ne 6, 3) := by decide +kernel
theorem dX6_back_21 : decode cX6_back 21 = .ok (.bipush (-2), 2) := by decide +kernel
theorem dX6_back_23 : decode cX6_back 23 = .ok (.ireturn, 1) := by decide +kernel
theorem dX6_back_24 : decode cX6_back 24 = .ok (.aload_n 0, 1) := by decide +kernel
theorem dX6_back_25 : decode cX6_back 25 = .ok (.bipush 22, 2) := by decide +kernel
theorem dX6_back_27 : decode cX6_back 27 = .ok (.iload_n 1, 1) := by decide +kernel
theorem dX6_back_28 : decode cX6_back 28 = .ok (.iconst 1, 1) := by decide +kernel
theorem dX6_back_29 : decode cX6_back 29 = .ok (.iadd, 1) := by decide +kernel
theorem dX6_back_30 : decode cX6_back 30 = .ok (.imul, 1) := by decide +kernel
theorem dX6_back_31 : decode cX6_back 31 = .ok (.iconst 0, 1) := by decide +kernel
theorem dX6_back_32 : decode cX6_back 32 = .ok (.invokevirtual 167, 3) := by decide +kernel
theorem dX6_back_35 : decode cX6_back 35 = .ok (.aload_n 0, 1) := by decide +kernel
theorem dX6_back_36 : decode cX6_back 36 = .ok (.getfield 7, 3) := by decide +kernel
theorem dX6_back_39 : decode cX6_back 39 = .ok (.bipush 21, 2) := by decide +kernel
theorem dX6_back_41 : decode cX6_back 41 = .ok (.iaload, 1) := by decide +kernel
theorem dX6_back_42 : decode cX6_back 42 = .ok (.ireturn, 1) := by decide +kernel
theorem dX6_sheet_0 : decode cX6_sheet 0 = .ok (.iload_n 1, 1) := by decide +kernel
theorem dX6_sheet_1 : decode cX6_sheet 1 = .ok (.i2l, 1) := by decide +kernel
theorem dX6_sheet_2 : decode cX6_sheet 2 = .ok (.lconst 0, 1) := by decide +kernel
theorem dX6_sheet_3 : decode cX6_sheet 3 = .ok (.ldc2_w 148, 3) := by decide +kernel
theorem dX6_sheet_6 : decode cX6_sheet 6 = .ok (.invokestatic 46, 3) := by decide +kernel
theorem dX6_sheet_9 : decode cX6_sheet 9 = .ok (.ifCond .eq 21, 3) := by decide +kernel
theorem dX6_sheet_12 : decode cX6_sheet 12 = .ok (.iload_n 2, 1) := by decide +kernel
theorem dX6_sheet_13 : decode cX6_sheet 13 = .ok (.i2l, 1) := by decide +kernel
theorem dX6_sheet_14 : decode cX6_sheet 14 = .ok (.lconst 0, 1) := by decide +kernel
theorem dX6_sheet_15 : decode cX6_sheet 15 = .ok (.ldc2_w 150, 3) := by decide +kernel
theorem dX6_sheet_18 : decode cX6_sheet 18 = .ok (.invokestatic 46, 3) := by decide +kernel
theorem dX6_sheet_21 : decode cX6_sheet 21 = .ok (.ifCond .eq 9, 3) := by decide +kernel
theorem dX6_sheet_24 : decode cX6_sheet 24 = .ok (.iload_n 3, 1) := by decide +kernel
theorem dX6_sheet_25 : decode cX6_sheet 25 = .ok (.bipush 40, 2) := by decide +kernel
theorem dX6_sheet_27 : decode cX6_sheet 27 = .ok (.if_icmp .le 5, 3) := by decide +kernel
theorem dX6_sheet_30 : decode cX6_sheet 30 = .ok (.iconst (-1), 1) := by decide +kernel
theorem dX6_sheet_31 : decode cX6_sheet 31 = .ok (.ireturn, 1) := by decide +kernel
theorem dX6_sheet_32 : decode cX6_sheet 32 = .ok (.iload_n 3, 1) := by decide +kernel
theorem dX6_sheet_33 : decode cX6_sheet 33 = .ok (.ifCond .ge 6, 3) := by decide +kernel
theorem dX6_sheet_36 : decode cX6_sheet 36 = .ok (.bipush (-14), 2) := by decide +kernel
theorem dX6_sheet_38 : decode cX6_sheet 38 = .ok (.ireturn, 1) := by decide +kernel
theorem dX6_sheet_39 : decode cX6_sheet 39 = .ok (.aload_n 0, 1) := by decide +kernel
theorem dX6_sheet_40 : decode cX6_sheet 40 = .ok (.getfield 35, 3) := by decide +kernel
theorem dX6_sheet_43 : decode cX6_sheet 43 = .ok (.iload_n 1, 1) := by decide +kernel
theorem dX6_sheet_44 : decode cX6_sheet 44 = .ok (.iload_n 2, 1) := by decide +kernel
theorem dX6_sheet_45 : decode cX6_sheet 45 = .ok (.iastore, 1) := by decide +kernel
theorem dX6_sheet_46 : decode cX6_sheet 46 = .ok (.aload_n 0, 1) := by decide +kernel
theorem dX6_sheet_47 : decode cX6_sheet 47 = .ok (.getfield 38, 3) := by decide +kernel
theorem dX6_sheet_50 : decode cX6_sheet 50 = .ok (.iload_n 1, 1) := by decide +kernel
theorem dX6_sheet_51 : decode cX6_sheet 51 = .ok (.iload_n 3, 1) := by decide +kernel
theorem dX6_sheet_52 : decode cX6_sheet 52 = .ok (.iastore, 1) := by decide +kernel
theorem dX6_sheet_53 : decode cX6_sheet 53 = .ok (.iconst 0, 1) := by decide +kernel
theorem dX6_sheet_54 : decode cX6_sheet 54 = .ok (.istore 4, 2) := by decide +kernel
theorem dX6_sheet_56 : decode cX6_sheet 56 = .ok (.iload 4, 2) := by decide +kernel
theorem dX6_sheet_58 : decode cX6_sheet 58 = .ok (.bipush 40, 2) := by decide +kernel
theorem dX6_sheet_60 : decode cX6_sheet 60 = .ok (.if_icmp .ge 22, 3) := by decide +kernel
theorem dX6_sheet_63 : decode cX6_sheet 63 = .ok (.aload_n 0, 1) := by decide +kernel
theorem dX6_sheet_64 : decode cX6_sheet 64 = .ok (.getfield 41, 3) := by decide +kernel
theorem dX6_sheet_67 : decode cX6_sheet 67 = .ok (.bipush 40, 2) := by decide +kernel
theorem dX6_sheet_69 : decode cX6_sheet 69 = .ok (.iload_n 1, 1) := by decide +kernel
theorem dX6_sheet_70 : decode cX6_sheet 70 = .ok (.imul, 1) := by decide +kernel
theorem dX6_sheet_71 : decode cX6_sheet 71 = .ok (.iload 4, 2) := by decide +kernel
theorem dX6_sheet_73 : decode cX6_sheet 73 = .ok (.iadd, 1) := by decide +kernel
theorem dX6_sheet_74 : decode cX6_sheet 74 = .ok (.iconst 0, 1) := by decide +kernel
theorem dX6_sheet_75 : decode cX6_sheet 75 = .ok (.iastore, 1) := by decide +kernel
theorem dX6_sheet_76 : decode cX6_sheet 76 = .ok (.iinc 4 1, 3) := by decide +kernel
theorem dX6_sheet_79 : decode cX6_sheet 79 = .ok (.goto (-23), 3) := by decide +kernel
theorem dX6_sheet_82 : decode cX6_sheet 82 = .ok (.iconst 1, 1) := by decide +kernel
theorem dX6_sheet_83 : decode cX6_sheet 83 = .ok (.ireturn, 1) := by decide +kernel
theorem dX6_lay_0 : decode cX6_lay 0 = .ok (.iload_n 1, 1) := by decide +kernel
theorem dX6_lay_1 : decode cX6_lay 1 = .ok (.i2l, 1) := by decide +kernel
theorem dX6_lay_2 : decode cX6_lay 2 = .ok (.lconst 0, 1) := by decide +kernel
theorem dX6_lay_3 : decode cX6_lay 3 = .ok (.ldc2_w 148, 3) := by decide +kernel
theorem dX6_lay_6 : decode cX6_lay 6 = .ok (.invokestatic 46, 3) := by decide +kernel
theorem dX6_lay_9 : decode cX6_lay 9 = .ok (.ifCond .ne 5, 3) := by decide +kernel
theorem dX6_lay_12 : decode cX6_lay 12 = .ok (.iconst (-1), 1) := by decide +kernel
theorem dX6_lay_13 : decode cX6_lay 13 = .ok (.ireturn, 1) := by decide +kernel
theorem dX6_lay_14 : decode cX6_lay 14 = .ok (.aload_n 0, 1) := by decide +kernel
theorem dX6_lay_15 : decode cX6_lay 15 = .ok (.getfield 35, 3) := by decide +kernel
theorem dX6_lay_18 : decode cX6_lay 18 = .ok (.iload_n 1, 1) := by decide +kernel
theorem dX6_lay_19 : decode cX6_lay 19 = .ok (.iaload, 1) := by decide +kernel
theorem dX6_lay_20 : decode cX6_lay 20 = .ok (.bipush (-4), 2) := by decide +kernel
theorem dX6_lay_22 : decode cX6_lay 22 = .ok (.if_icmp .ne 6, 3) := by decide +kernel
theorem dX6_lay_25 : decode cX6_lay 25 = .ok (.bipush (-11), 2) := by decide +kernel
theorem dX6_lay_27 : decode cX6_lay 27 = .ok (.ireturn, 1) := by decide +kernel
theorem dX6_lay_28 : decode cX6_lay 28 = .ok (.iload_n 2, 1) := by decide +kernel
theorem dX6_lay_29 : decode cX6_lay 29 = .ok (.i2l, 1) := by decide +kernel
theorem dX6_lay_30 : decode cX6_lay 30 = .ok (.lconst 0, 1) := by decide +kernel
theorem dX6_lay_31 : decode cX6_lay 31 = .ok (.aload_n 0, 1) := by decide +kernel
theorem dX6_lay_32 : decode cX6_lay 32 = .ok (.getfield 38, 3) := by decide +kernel
theorem dX6_lay_35 : decode cX6_lay 35 = .ok (.iload_n 1, 1) := by decide +kernel
theorem dX6_lay_36 : decode cX6_lay 36 = .ok (.iaload, 1) := by decide +kernel
theorem dX6_lay_37 : decode cX6_lay 37 = .ok (.iconst 1, 1) := by decide +kernel
theorem dX6_lay_38 : decode cX6_lay 38 = .ok (.isub, 1) := by decide +kernel
theorem dX6_lay_39 : decode cX6_lay 39 = .ok (.i2l, 1) := by decide +kernel
theorem dX6_lay_40 : decode cX6_lay 40 = .ok (.invokestatic 46, 3) := by decide +kernel
theorem dX6_lay_43 : decode cX6_lay 43 = .ok (.ifCond .ne 6, 3) := by decide +kernel
theorem dX6_lay_46 : decode cX6_lay 46 = .ok (.bipush (-12), 2) := by decide +kernel
theorem dX6_lay_48 : decode cX6_lay 48 = .ok (.ireturn, 1) := by decide +kernel
theorem dX6_lay_49 : decode cX6_lay 49 = .ok (.aload_n 0, 1) := by decide +kernel
theorem dX6_lay_50 : decode cX6_lay 50 = .ok (.getfield 41, 3) := by decide +kernel
theorem dX6_lay_53 : decode cX6_lay 53 = .ok (.bipush 40, 2) := by decide +kernel
theorem dX6_lay_55 : decode cX6_lay 55 = .ok (.iload_n 1, 1) := by decide +kernel
theorem dX6_lay_56 : decode cX6_lay 56 = .ok (.imul, 1) := by decide +kernel
theorem dX6_lay_57 : decode cX6_lay 57 = .ok (.iload_n 2, 1) := by decide +kernel
theorem dX6_lay_58 : decode cX6_lay 58 = .ok (.iadd, 1) := by decide +kernel
theorem dX6_lay_59 : decode cX6_lay 59 = .ok (.aload_n 0, 1) := by decide +kernel
theorem dX6_lay_60 : decode cX6_lay 60 = .ok (.getfield 35, 3) := by decide +kernel
theorem dX6_lay_63 : decode cX6_lay 63 = .ok (.iload_n 1, 1) := by decide +kernel
theorem dX6_lay_64 : decode cX6_lay 64 = .ok (.iaload, 1) := by decide +kernel
theorem dX6_lay_65 : decode cX6_lay 65 = .ok (.ifCond .ne 13, 3) := by decide +kernel
theorem dX6_lay_68 : decode cX6_lay 68 = .ok (.iload_n 3, 1) := by decide +kernel
theorem dX6_lay_69 : decode cX6_lay 69 = .ok (.bipush 24, 2) := by decide +kernel
theorem dX6_lay_71 : decode cX6_lay 71 = .ok (.ishl, 1) := by decide +kernel
theorem dX6_lay_72 : decode cX6_lay 72 = .ok (.bipush 24, 2) := by decide +kernel
theorem dX6_lay_74 : decode cX6_lay 74 = .ok (.ishr, 1) := by decide +kernel
theorem dX6_lay_75 : decode cX6_lay 75 = .ok (.goto 24, 3) := by decide +kernel
theorem dX6_lay_78 : decode cX6_lay 78 = .ok (.aload_n 0, 1) := by decide +kernel
theorem dX6_lay_79 : decode cX6_lay 79 = .ok (.getfield 35, 3) := by decide +kernel
theorem dX6_lay_82 : decode cX6_lay 82 = .ok (.iload_n 1, 1) := by decide +kernel
theorem dX6_lay_83 : decode cX6_lay 83 = .ok (.iaload, 1) := by decide +kernel
theorem dX6_lay_84 : decode cX6_lay 84 = .ok (.iconst 1, 1) := by decide +kernel
theorem dX6_lay_85 : decode cX6_lay 85 = .ok (.if_icmp .ne 13, 3) := by decide +kernel
theorem dX6_lay_88 : decode cX6_lay 88 = .ok (.iload_n 3, 1) := by decide +kernel
theorem dX6_lay_89 : decode cX6_lay 89 = .ok (.bipush 16, 2) := by decide +kernel
theorem dX6_lay_91 : decode cX6_lay 91 = .ok (.ishl, 1) := by decide +kernel
theorem dX6_lay_92 : decode cX6_lay 92 = .ok (.bipush 16, 2) := by decide +kernel
theorem dX6_lay_94 : decode cX6_lay 94 = .ok (.ishr, 1) := by decide +kernel
theorem dX6_lay_95 : decode cX6_lay 95 = .ok (.goto 4, 3) := by decide +kernel
theorem dX6_lay_98 : decode cX6_lay 98 = .ok (.iload_n 3, 1) := by decide +kernel
theorem dX6_lay_99 : decode cX6_lay 99 = .ok (.iastore, 1) := by decide +kernel
theorem dX6_lay_100 : decode cX6_lay 100 = .ok (.iconst 1, 1) := by decide +kernel
theorem dX6_lay_101 : decode cX6_lay 101 = .ok (.ireturn, 1) := by decide +kernel
theorem dX6_read_0 : decode cX6_read 0 = .ok (.iload_n 1, 1) := by decide +kernel
theorem dX6_read_1 : decode cX6_read 1 = .ok (.i2l, 1) := by decide +kernel
theorem dX6_read_2 : decode cX6_read 2 = .ok (.lconst 0, 1) := by decide +kernel
theorem dX6_read_3 : decode cX6_read 3 = .ok (.ldc2_w 148, 3) := by decide +kernel
theorem dX6_read_6 : decode cX6_read 6 = .ok (.invokestatic 46, 3) := by decide +kernel
theorem dX6_read_9 : decode cX6_read 9 = .ok (.ifCond .eq 28, 3) := by decide +kernel
theorem dX6_read_12 : decode cX6_read 12 = .ok (.iload_n 2, 1) := by decide +kernel
theorem dX6_read_13 : decode cX6_read 13 = .ok (.i2l, 1) := by decide +kernel
theorem dX6_read_14 : decode cX6_read 14 = .ok (.lconst 0, 1) := by decide +kernel
theorem dX6_read_15 : decode cX6_read 15 = .ok (.ldc2_w 150, 3) := by decide +kernel
theorem dX6_read_18 : decode cX6_read 18 = .ok (.invokestatic 46, 3) := by decide +kernel
theorem dX6_read_21 : decode cX6_read 21 = .ok (.ifCond .eq 16, 3) := by decide +kernel
theorem dX6_read_24 : decode cX6_read 24 = .ok (.iload 4, 2) := by decide +kernel
theorem dX6_read_26 : decode cX6_read 26 = .ok (.i2l, 1) := by decide +kernel
theorem dX6_read_27 : decode cX6_read 27 = .ok (.lconst 0, 1) := by decide +kernel
theorem dX6_read_28 : decode cX6_read 28 = .ok (.ldc2_w 219, 3) := by decide +kernel
theorem dX6_read_31 : decode cX6_read 31 = .ok (.invokestatic 46, 3) := by decide +kernel
theorem dX6_read_34 : decode cX6_read 34 = .ok (.ifCond .ne 5, 3) := by decide +kernel
theorem dX6_read_37 : decode cX6_read 37 = .ok (.iconst (-1), 1) := by decide +kernel
theorem dX6_read_38 : decode cX6_read 38 = .ok (.ireturn, 1) := by decide +kernel
theorem dX6_read_39 : decode cX6_read 39 = .ok (.aload_n 0, 1) := by decide +kernel
theorem dX6_read_40 : decode cX6_read 40 = .ok (.iconst 0, 1) := by decide +kernel
theorem dX6_read_41 : decode cX6_read 41 = .ok (.bipush 66, 2) := by decide +kernel
theorem dX6_read_43 : decode cX6_read 43 = .ok (.invokevirtual 167, 3) := by decide +kernel
theorem dX6_read_46 : decode cX6_read 46 = .ok (.iconst 0, 1) := by decide +kernel
theorem dX6_read_47 : decode cX6_read 47 = .ok (.istore 5, 2) := by decide +kernel
theorem dX6_read_49 : decode cX6_read 49 = .ok (.iconst 0, 1) := by decide +kernel
theorem dX6_read_50 : decode cX6_read 50 = .ok (.istore 6, 2) := by decide +kernel
theorem dX6_read_52 : decode cX6_read 52 = .ok (.iconst 0, 1) := by decide +kernel
theorem dX6_read_53 : decode cX6_read 53 = .ok (.istore 7, 2) := by decide +kernel
theorem dX6_read_55 : decode cX6_read 55 = .ok (.iload 7, 2) := by decide +kernel
theorem dX6_read_57 : decode cX6_read 57 = .ok (.iconst 2, 1) := by decide +kernel
theorem dX6_read_58 : decode cX6_read 58 = .ok (.iload 4, 2) := by decide +kernel
theorem dX6_read_60 : decode cX6_read 60 = .ok (.imul, 1) := by decide +kernel
theorem dX6_read_61 : decode cX6_read 61 = .ok (.if_icmp .ge 165, 3) := by decide +kernel
theorem dX6_read_64 : decode cX6_read 64 = .ok (.iload 5, 2) := by decide +kernel
theorem dX6_read_66 : decode cX6_read 66 = .ok (.ifCond .ne 160, 3) := by decide +kernel
theorem dX6_read_69 : decode cX6_read 69 = .ok (.aload_n 0, 1) := by decide +kernel
theorem dX6_read_70 : decode cX6_read 70 = .ok (.getfield 35, 3) := by decide +kernel
theorem dX6_read_73 : decode cX6_read 73 = .ok (.iload_n 1, 1) := by decide +kernel
theorem dX6_read_74 : decode cX6_read 74 = .ok (.iaload, 1) := by decide +kernel
theorem dX6_read_75 : decode cX6_read 75 = .ok (.bipush (-4), 2) := by decide +kernel
theorem dX6_read_77 : decode cX6_read 77 = .ok (.if_icmp .ne 7, 3) := by decide +kernel
theorem dX6_read_80 : decode cX6_read 80 = .ok (.iconst 1, 1) := by decide +kernel
theorem dX6_read_81 : decode cX6_read 81 = .ok (.goto 44, 3) := by decide +kernel
theorem dX6_read_84 : decode cX6_read 84 = .ok (.aload_n 0, 1) := by decide +kernel
theorem dX6_read_85 : decode cX6_read 85 = .ok (.getfield 35, 3) := by decide +kernel
theorem dX6_read_88 : decode cX6_read 88 = .ok (.iload_n 1, 1) := by decide +kernel
theorem dX6_read_89 : decode cX6_read 89 = .ok (.iaload, 1) := by decide +kernel
theorem dX6_read_90 : decode cX6_read 90 = .ok (.iload_n 2, 1) := by decide +kernel
theorem dX6_read_91 : decode cX6_read 91 = .ok (.if_icmp .eq 7, 3) := by decide +kernel
theorem dX6_read_94 : decode cX6_read 94 = .ok (.iconst 3, 1) := by decide +kernel
theorem dX6_read_95 : decode cX6_read 95 = .ok (.goto 30, 3) := by decide +kernel
theorem dX6_read_98 : decode cX6_read 98 = .ok (.iload_n 3, 1) := by decide +kernel
theorem dX6_read_99 : decode cX6_read 99 = .ok (.i2l, 1) := by decide +kernel
theorem dX6_read_100 : decode cX6_read 100 = .ok (.iload 7, 2) := by decide +kernel
theorem dX6_read_102 : decode cX6_read 102 = .ok (.i2l, 1) := by decide +kernel
theorem dX6_read_103 : decode cX6_read 103 = .ok (.ladd, 1) := by decide +kernel
theorem dX6_read_104 : decode cX6_read 104 = .ok (.lconst 0, 1) := by decide +kernel
theorem dX6_read_105 : decode cX6_read 105 = .ok (.aload_n 0, 1) := by decide +kernel
theorem dX6_read_106 : decode cX6_read 106 = .ok (.getfield 38, 3) := by decide +kernel
theorem dX6_read_109 : decode cX6_read 109 = .ok (.iload_n 1, 1) := by decide +kernel
theorem dX6_read_110 : decode cX6_read 110 = .ok (.iaload, 1) := by decide +kernel
theorem dX6_read_111 : decode cX6_read 111 = .ok (.iconst 1, 1) := by decide +kernel
theorem dX6_read_112 : decode cX6_read 112 = .ok (.isub, 1) := by decide +kernel
theorem dX6_read_113 : decode cX6_read 113 = .ok (.i2l, 1) := by decide +kernel
theorem dX6_read_114 : decode cX6_read 114 = .ok (.invokestatic 46, 3) := by decide +kernel
theorem dX6_read_117 : decode cX6_read 117 = .ok (.ifCond .ne 7, 3) := by decide +kernel
theorem dX6_read_120 : decode cX6_read 120 = .ok (.iconst 2, 1) := by decide +kernel
theorem dX6_read_121 : decode cX6_read 121 = .ok (.goto 4, 3) := by decide +kernel
theorem dX6_read_124 : decode cX6_read 124 = .ok (.iconst 0, 1) := by decide +kernel
theorem dX6_read_125 : decode cX6_read 125 = .ok (.istore 5, 2) := by decide +kernel
theorem dX6_read_127 : decode cX6_read 127 = .ok (.iload 5, 2) := by decide +kernel
theorem dX6_read_129 : decode cX6_read 129 = .ok (.ifCond .ne 91, 3) := by decide +kernel
theorem dX6_read_132 : decode cX6_read 132 = .ok (.iload 7, 2) := by decide +kernel
theorem dX6_read_134 : decode cX6_read 134 = .ok (.iconst 2, 1) := by decide +kernel
theorem dX6_read_135 : decode cX6_read 135 = .ok (.irem, 1) := by decide +kernel
theorem dX6_read_136 : decode cX6_read 136 = .ok (.iconst 1, 1) := by decide +kernel
theorem dX6_read_137 : decode cX6_read 137 = .ok (.if_icmp .ne 83, 3) := by decide +kernel
theorem dX6_read_140 : decode cX6_read 140 = .ok (.bipush 40, 2) := by decide +kernel
theorem dX6_read_142 : decode cX6_read 142 = .ok (.iload_n 1, 1) := by decide +kernel
theorem dX6_read_143 : decode cX6_read 143 = .ok (.imul, 1) := by decide +kernel
theorem dX6_read_144 : decode cX6_read 144 = .ok (.iload_n 3, 1) := by decide +kernel
theorem dX6_read_145 : decode cX6_read 145 = .ok (.iadd, 1) := by decide +kernel
theorem dX6_read_146 : decode cX6_read 146 = .ok (.iload 7, 2) := by decide +kernel
theorem dX6_read_148 : decode cX6_read 148 = .ok (.iadd, 1) := by decide +kernel
theorem dX6_read_149 : decode cX6_read 149 = .ok (.istore 8, 2) := by decide +kernel
theorem dX6_read_151 : decode cX6_read 151 = .ok (.aload_n 0, 1) := by decide +kernel
theorem dX6_read_152 : decode cX6_read 152 = .ok (.aload_n 0, 1) := by decide +kernel
theorem dX6_read_153 : decode cX6_read 153 = .ok (.getfield 41, 3) := by decide +kernel
theorem dX6_read_156 : decode cX6_read 156 = .ok (.iload 8, 2) := by decide +kernel
theorem dX6_read_158 : decode cX6_read 158 = .ok (.iconst 1, 1) := by decide +kernel
theorem dX6_read_159 : decode cX6_read 159 = .ok (.isub, 1) := by decide +kernel
theorem dX6_read_160 : decode cX6_read 160 = .ok (.iaload, 1) := by decide +kernel
theorem dX6_read_161 : decode cX6_read 161 = .ok (.iconst 2, 1) := by decide +kernel
theorem dX6_read_162 : decode cX6_read 162 = .ok (.aload_n 0, 1) := by decide +kernel
theorem dX6_read_163 : decode cX6_read 163 = .ok (.getfield 41, 3) := by decide +kernel
theorem dX6_read_166 : decode cX6_read 166 = .ok (.iload 8, 2) := by decide +kernel
theorem dX6_read_168 : decode cX6_read 168 = .ok (.iaload, 1) := by decide +kernel
theorem dX6_read_169 : decode cX6_read 169 = .ok (.invokevirtual 157, 3) := by decide +kernel
theorem dX6_read_172 : decode cX6_read 172 = .ok (.ifCond .lt 19, 3) := by decide +kernel
theorem dX6_read_175 : decode cX6_read 175 = .ok (.aload_n 0, 1) := by decide +kernel
theorem dX6_read_176 : decode cX6_read 176 = .ok (.getfield 7, 3) := by decide +kernel
theorem dX6_read_179 : decode cX6_read 179 = .ok (.bipush 21, 2) := by decide +kernel
theorem dX6_read_181 : decode cX6_read 181 = .ok (.iaload, 1) := by decide +kernel
theorem dX6_read_182 : decode cX6_read 182 = .ok (.ldc 163, 2) := by decide +kernel
theorem dX6_read_184 : decode cX6_read 184 = .ok (.if_icmp .ge 7, 3) := by decide +kernel
theorem dX6_read_187 : decode cX6_read 187 = .ok (.iconst 1, 1) := by decide +kernel
theorem dX6_read_188 : decode cX6_read 188 = .ok (.goto 4, 3) := by decide +kernel
theorem dX6_read_191 : decode cX6_read 191 = .ok (.iconst 0, 1) := by decide +kernel
theorem dX6_read_192 : decode cX6_read 192 = .ok (.istore 9, 2) := by decide +kernel
theorem dX6_read_194 : decode cX6_read 194 = .ok (.iload 9, 2) := by decide +kernel
theorem dX6_read_196 : decode cX6_read 196 = .ok (.ifCond .ne 16, 3) := by decide +kernel
theorem dX6_read_199 : decode cX6_read 199 = .ok (.aload_n 0, 1) := by decide +kernel
theorem dX6_read_200 : decode cX6_read 200 = .ok (.bipush 66, 2) := by decide +kernel
theorem dX6_read_202 : decode cX6_read 202 = .ok (.iconst 0, 1) := by decide +kernel
theorem dX6_read_203 : decode cX6_read 203 = .ok (.invokevirtual 167, 3) := by decide +kernel
theorem dX6_read_206 : decode cX6_read 206 = .ok (.bipush (-20), 2) := by decide +kernel
theorem dX6_read_208 : decode cX6_read 208 = .ok (.iload 6, 2) := by decide +kernel
theorem dX6_read_210 : decode cX6_read 210 = .ok (.isub, 1) := by decide +kernel
theorem dX6_read_211 : decode cX6_read 211 = .ok (.ireturn, 1) := by decide +kernel
theorem dX6_read_212 : decode cX6_read 212 = .ok (.aload_n 0, 1) := by decide +kernel
theorem dX6_read_213 : decode cX6_read 213 = .ok (.iconst 0, 1) := by decide +kernel
theorem dX6_read_214 : decode cX6_read 214 = .ok (.invokevirtual 164, 3) := by decide +kernel
theorem dX6_read_217 : decode cX6_read 217 = .ok (.iinc 6 1, 3) := by decide +kernel
theorem dX6_read_220 : decode cX6_read 220 = .ok (.iinc 7 1, 3) := by decide +kernel
theorem dX6_read_223 : decode cX6_read 223 = .ok (.goto (-168), 3) := by decide +kernel
theorem dX6_read_226 : decode cX6_read 226 = .ok (.aload_n 0, 1) := by decide +kernel
theorem dX6_read_227 : decode cX6_read 227 = .ok (.iload 5, 2) := by decide +kernel
theorem dX6_read_229 : decode cX6_read 229 = .ok (.putfield 221, 3) := by decide +kernel
theorem dX6_read_232 : decode cX6_read 232 = .ok (.iload 6, 2) := by decide +kernel
theorem dX6_read_234 : decode cX6_read 234 = .ok (.ireturn, 1) := by decide +kernel
theorem dX6_torn_0 : decode cX6_torn 0 = .ok (.aload_n 0, 1) := by decide +kernel
theorem dX6_torn_1 : decode cX6_torn 1 = .ok (.getfield 221, 3) := by decide +kernel
theorem dX6_torn_4 : decode cX6_torn 4 = .ok (.ireturn, 1) := by decide +kernel
theorem dX6_count_0 : decode cX6_count 0 = .ok (.iconst 0, 1) := by decide +kernel
theorem dX6_count_1 : decode cX6_count 1 = .ok (.istore_n 2, 1) := by decide +kernel
theorem dX6_count_2 : decode cX6_count 2 = .ok (.iconst 0, 1) := by decide +kernel
theorem dX6_count_3 : decode cX6_count 3 = .ok (.istore_n 3, 1) := by decide +kernel
theorem dX6_count_4 : decode cX6_count 4 = .ok (.iconst 0, 1) := by decide +kernel
theorem dX6_count_5 : decode cX6_count 5 = .ok (.istore 4, 2) := by decide +kernel
theorem dX6_count_7 : decode cX6_count 7 = .ok (.iload 4, 2) := by decide +kernel
theorem dX6_count_9 : decode cX6_count 9 = .ok (.aload_n 0, 1) := by decide +kernel
theorem dX6_count_10 : decode cX6_count 10 = .ok (.getfield 7, 3) := by decide +kernel
theorem dX6_count_13 : decode cX6_count 13 = .ok (.bipush 20, 2) := by decide +kernel
theorem dX6_count_15 : decode cX6_count 15 = .ok (.iaload, 1) := by decide +kernel
theorem dX6_count_16 : decode cX6_count 16 = .ok (.if_icmp .ge 42, 3) := by decide +kernel
theorem dX6_count_19 : decode cX6_count 19 = .ok (.iload_n 2, 1) := by decide +kernel
theorem dX6_count_20 : decode cX6_count 20 = .ok (.aload_n 0, 1) := by decide +kernel
theorem dX6_count_21 : decode cX6_count 21 = .ok (.getfield 7, 3) := by decide +kernel
theorem dX6_count_24 : decode cX6_count 24 = .ok (.iconst 5, 1) := by decide +kernel
theorem dX6_count_25 : decode cX6_count 25 = .ok (.iload 4, 2) := by decide +kernel
theorem dX6_count_27 : decode cX6_count 27 = .ok (.iadd, 1) := by decide +kernel
theorem dX6_count_28 : decode cX6_count 28 = .ok (.iaload, 1) := by decide +kernel
theorem dX6_count_29 : decode cX6_count 29 = .ok (.iadd, 1) := by decide +kernel
theorem dX6_count_30 : decode cX6_count 30 = .ok (.istore_n 2, 1) := by decide +kernel
theorem dX6_count_31 : decode cX6_count 31 = .ok (.iload_n 3, 1) := by decide +kernel
theorem dX6_count_32 : decode cX6_count 32 = .ok (.aload_n 0, 1) := by decide +kernel
theorem dX6_count_33 : decode cX6_count 33 = .ok (.getfield 7, 3) := by decide +kernel
theorem dX6_count_36 : decode cX6_count 36 = .ok (.bipush 15, 2) := by decide +kernel
theorem dX6_count_38 : decode cX6_count 38 = .ok (.iload 4, 2) := by decide +kernel
theorem dX6_count_40 : decode cX6_count 40 = .ok (.iadd, 1) := by decide +kernel
theorem dX6_count_41 : decode cX6_count 41 = .ok (.iaload, 1) := by decide +kernel
theorem dX6_count_42 : decode cX6_count 42 = .ok (.ifCond .ge 7, 3) := by decide +kernel
theorem dX6_count_45 : decode cX6_count 45 = .ok (.iconst 1, 1) := by decide +kernel
theorem dX6_count_46 : decode cX6_count 46 = .ok (.goto 4, 3) := by decide +kernel
theorem dX6_count_49 : decode cX6_count 49 = .ok (.iconst 0, 1) := by decide +kernel
theorem dX6_count_50 : decode cX6_count 50 = .ok (.iadd, 1) := by decide +kernel
theorem dX6_count_51 : decode cX6_count 51 = .ok (.istore_n 3, 1) := by decide +kernel
theorem dX6_count_52 : decode cX6_count 52 = .ok (.iinc 4 1, 3) := by decide +kernel
theorem dX6_count_55 : decode cX6_count 55 = .ok (.goto (-48), 3) := by decide +kernel
theorem dX6_count_58 : decode cX6_count 58 = .ok (.iload_n 1, 1) := by decide +kernel
theorem dX6_count_59 : decode cX6_count 59 = .ok (.tableswitch 104 0 5 #[37, 42, 72, 77, 100, 102], 37) := by decide +kernel
theorem dX6_count_96 : decode cX6_count 96 = .ok (.aload_n 0, 1) := by decide +kernel
theorem dX6_count_97 : decode cX6_count 97 = .ok (.getfield 114, 3) := by decide +kernel
theorem dX6_count_100 : decode cX6_count 100 = .ok (.ireturn, 1) := by decide +kernel
theorem dX6_count_101 : decode cX6_count 101 = .ok (.aload_n 0, 1) := by decide +kernel
theorem dX6_count_102 : decode cX6_count 102 = .ok (.getfield 31, 3) := by decide +kernel
theorem dX6_count_105 : decode cX6_count 105 = .ok (.iconst 0, 1) := by decide +kernel
theorem dX6_count_106 : decode cX6_count 106 = .ok (.baload, 1) := by decide +kernel
theorem dX6_count_107 : decode cX6_count 107 = .ok (.ifCond .eq 7, 3) := by decide +kernel
theorem dX6_count_110 : decode cX6_count 110 = .ok (.iconst 1, 1) := by decide +kernel
theorem dX6_count_111 : decode cX6_count 111 = .ok (.goto 4, 3) := by decide +kernel
theorem dX6_count_114 : decode cX6_count 114 = .ok (.iconst 0, 1) := by decide +kernel
theorem dX6_count_115 : decode cX6_count 115 = .ok (.aload_n 0, 1) := by decide +kernel
theorem dX6_count_116 : decode cX6_count 116 = .ok (.getfield 31, 3) := by decide +kernel
theorem dX6_count_119 : decode cX6_count 119 = .ok (.iconst 1, 1) := by decide +kernel
theorem dX6_count_120 : decode cX6_count 120 = .ok (.baload, 1) := by decide +kernel
theorem dX6_count_121 : decode cX6_count 121 = .ok (.ifCond .eq 7, 3) := by decide +kernel
theorem dX6_count_124 : decode cX6_count 124 = .ok (.iconst 1, 1) := by decide +kernel
theorem dX6_count_125 : decode cX6_count 125 = .ok (.goto 4, 3) := by decide +kernel
theorem dX6_count_128 : decode cX6_count 128 = .ok (.iconst 0, 1) := by decide +kernel
theorem dX6_count_129 : decode cX6_count 129 = .ok (.iadd, 1) := by decide +kernel
theorem dX6_count_130 : decode cX6_count 130 = .ok (.ireturn, 1) := by decide +kernel
theorem dX6_count_131 : decode cX6_count 131 = .ok (.aload_n 0, 1) := by decide +kernel
theorem dX6_count_132 : decode cX6_count 132 = .ok (.getfield 50, 3) := by decide +kernel
theorem dX6_count_135 : decode cX6_count 135 = .ok (.ireturn, 1) := by decide +kernel
theorem dX6_count_136 : decode cX6_count 136 = .ok (.aload_n 0, 1) := by decide +kernel
theorem dX6_count_137 : decode cX6_count 137 = .ok (.getfield 35, 3) := by decide +kernel
theorem dX6_count_140 : decode cX6_count 140 = .ok (.iconst 0, 1) := by decide +kernel
theorem dX6_count_141 : decode cX6_count 141 = .ok (.iaload, 1) := by decide +kernel
theorem dX6_count_142 : decode cX6_count 142 = .ok (.bipush (-4), 2) := by decide +kernel
theorem dX6_count_144 : decode cX6_count 144 = .ok (.if_icmp .ne 8, 3) := by decide +kernel
theorem dX6_count_147 : decode cX6_count 147 = .ok (.bipush (-4), 2) := by decide +kernel
theorem dX6_count_149 : decode cX6_count 149 = .ok (.goto 9, 3) := by decide +kernel
theorem dX6_count_152 : decode cX6_count 152 = .ok (.aload_n 0, 1) := by decide +kernel
theorem dX6_count_153 : decode cX6_count 153 = .ok (.getfield 38, 3) := by decide +kernel
theorem dX6_count_156 : decode cX6_count 156 = .ok (.iconst 0, 1) := by decide +kernel
theorem dX6_count_157 : decode cX6_count 157 = .ok (.iaload, 1) := by decide +kernel
theorem dX6_count_158 : decode cX6_count 158 = .ok (.ireturn, 1) := by decide +kernel
theorem dX6_count_159 : decode cX6_count 159 = .ok (.iload_n 2, 1) := by decide +kernel
theorem dX6_count_160 : decode cX6_count 160 = .ok (.ireturn, 1) := by decide +kernel
theorem dX6_count_161 : decode cX6_count 161 = .ok (.iload_n 3, 1) := by decide +kernel
theorem dX6_count_162 : decode cX6_count 162 = .ok (.ireturn, 1) := by decide +kernel
theorem dX6_count_163 : decode cX6_count 163 = .ok (.iconst (-1), 1) := by decide +kernel
theorem dX6_count_164 : decode cX6_count 164 = .ok (.ireturn, 1) := by decide +kernel
end
section
theorem dL_law_0 : decode cL_law 0 = .ok (.new 7, 3) := by decide +kernel
theorem dL_law_3 : decode cL_law 3 = .ok (.dup, 1) := by decide +kernel
theorem dL_law_4 : decode cL_law 4 = .ok (.invokespecial 9, 3) := by decide +kernel
theorem dL_law_7 : decode cL_law 7 = .ok (.astore_n 1, 1) := by decide +kernel
theorem dL_law_8 : decode cL_law 8 = .ok (.new 10, 3) := by decide +kernel
theorem dL_law_11 : decode cL_law 11 = .ok (.dup, 1) := by decide +kernel
theorem dL_law_12 : decode cL_law 12 = .ok (.invokespecial 12, 3) := by decide +kernel
theorem dL_law_15 : decode cL_law 15 = .ok (.astore_n 2, 1) := by decide +kernel
theorem dL_law_16 : decode cL_law 16 = .ok (.iconst 0, 1) := by decide +kernel
theorem dL_law_17 : decode cL_law 17 = .ok (.istore_n 3, 1) := by decide +kernel
theorem dL_law_18 : decode cL_law 18 = .ok (.iload_n 3, 1) := by decide +kernel
theorem dL_law_19 : decode cL_law 19 = .ok (.aload_n 0, 1) := by decide +kernel
theorem dL_law_20 : decode cL_law 20 = .ok (.arraylength, 1) := by decide +kernel
theorem dL_law_21 : decode cL_law 21 = .ok (.bipush 6, 2) := by decide +kernel
theorem dL_law_23 : decode cL_law 23 = .ok (.isub, 1) := by decide +kernel
theorem dL_law_24 : decode cL_law 24 = .ok (.if_icmp .gt 1301, 3) := by decide +kernel
theorem dL_law_27 : decode cL_law 27 = .ok (.aload_n 0, 1) := by decide +kernel
theorem dL_law_28 : decode cL_law 28 = .ok (.iload_n 3, 1) := by decide +kernel
theorem dL_law_29 : decode cL_law 29 = .ok (.iaload, 1) := by decide +kernel
theorem dL_law_30 : decode cL_law 30 = .ok (.bipush 63, 2) := by decide +kernel
theorem dL_law_32 : decode cL_law 32 = .ok (.iand, 1) := by decide +kernel
theorem dL_law_33 : decode cL_law 33 = .ok (.tableswitch 1286 0 36 #[163, 186, 209, 222, 235, 258, 291, 334, 367, 390, 413, 426, 449, 482, 515, 538, 571, 584, 617, 650, 693, 736, 779, 843, 887, 920, 943, 966, 989, 1022, 1065, 1088, 1111, 1154, 1197, 1250, 1263], 163) := by decide +kernel
theorem dL_law_196 : decode cL_law 196 = .ok (.aload_n 1, 1) := by decide +kernel
theorem dL_law_197 : decode cL_law 197 = .ok (.aload_n 0, 1) := by decide +kernel
theorem dL_law_198 : decode cL_law 198 = .ok (.iload_n 3, 1) := by decide +kernel
theorem dL_law_199 : decode cL_law 199 = .ok (.iconst 1, 1) := by decide +kernel
theorem dL_law_200 : decode cL_law 200 = .ok (.iadd, 1) := by decide +kernel
theorem dL_law_201 : decode cL_law 201 = .ok (.iaload, 1) := by decide +kernel
theorem dL_law_202 : decode cL_law 202 = .ok (.invokevirtual 13, 3) := by decide +kernel
theorem dL_law_205 : decode cL_law 205 = .ok (.aload_n 2, 1) := by decide +kernel
theorem dL_law_206 : decode cL_law 206 = .ok (.aload_n 0, 1) := by decide +kernel
theorem dL_law_207 : decode cL_law 207 = .ok (.iload_n 3, 1) := by decide +kernel
theorem dL_law_208 : decode cL_law 208 = .ok (.iconst 1, 1) := by decide +kernel
theorem dL_law_209 : decode cL_law 209 = .ok (.iadd, 1) := by decide +kernel
theorem dL_law_210 : decode cL_law 210 = .ok (.iaload, 1) := by decide +kernel
theorem dL_law_211 : decode cL_law 211 = .ok (.invokevirtual 17, 3) := by decide +kernel
theorem dL_law_214 : decode cL_law 214 = .ok (.if_icmp .eq 1105, 3) := by decide +kernel
theorem dL_law_217 : decode cL_law 217 = .ok (.iconst 0, 1) := by decide +kernel
theorem dL_law_218 : decode cL_law 218 = .ok (.ireturn, 1) := by decide +kernel
theorem dL_law_219 : decode cL_law 219 = .ok (.aload_n 1, 1) := by decide +kernel
theorem dL_law_220 : decode cL_law 220 = .ok (.aload_n 0, 1) := by decide +kernel
theorem dL_law_221 : decode cL_law 221 = .ok (.iload_n 3, 1) := by decide +kernel
theorem dL_law_222 : decode cL_law 222 = .ok (.iconst 1, 1) := by decide +kernel
theorem dL_law_223 : decode cL_law 223 = .ok (.iadd, 1) := by decide +kernel
theorem dL_law_224 : decode cL_law 224 = .ok (.iaload, 1) := by decide +kernel
theorem dL_law_225 : decode cL_law 225 = .ok (.invokevirtual 18, 3) := by decide +kernel
theorem dL_law_228 : decode cL_law 228 = .ok (.aload_n 2, 1) := by decide +kernel
theorem dL_law_229 : decode cL_law 229 = .ok (.aload_n 0, 1) := by decide +kernel
theorem dL_law_230 : decode cL_law 230 = .ok (.iload_n 3, 1) := by decide +kernel
theorem dL_law_231 : decode cL_law 231 = .ok (.iconst 1, 1) := by decide +kernel
theorem dL_law_232 : decode cL_law 232 = .ok (.iadd, 1) := by decide +kernel
theorem dL_law_233 : decode cL_law 233 = .ok (.iaload, 1) := by decide +kernel
theorem dL_law_234 : decode cL_law 234 = .ok (.invokevirtual 21, 3) := by decide +kernel
theorem dL_law_237 : decode cL_law 237 = .ok (.if_icmp .eq 1082, 3) := by decide +kernel
theorem dL_law_240 : decode cL_law 240 = .ok (.iconst 0, 1) := by decide +kernel
theorem dL_law_241 : decode cL_law 241 = .ok (.ireturn, 1) := by decide +kernel
theorem dL_law_242 : decode cL_law 242 = .ok (.aload_n 1, 1) := by decide +kernel
theorem dL_law_243 : decode cL_law 243 = .ok (.invokevirtual 22, 3) := by decide +kernel
theorem dL_law_246 : decode cL_law 246 = .ok (.aload_n 2, 1) := by decide +kernel
theorem dL_law_247 : decode cL_law 247 = .ok (.invokevirtual 26, 3) := by decide +kernel
theorem dL_law_250 : decode cL_law 250 = .ok (.if_icmp .eq 1069, 3) := by decide +kernel
theorem dL_law_253 : decode cL_law 253 = .ok (.iconst 0, 1) := by decide +kernel
theorem dL_law_254 : decode cL_law 254 = .ok (.ireturn, 1) := by decide +kernel
theorem dL_law_255 : decode cL_law 255 = .ok (.aload_n 1, 1) := by decide +kernel
theorem dL_law_256 : decode cL_law 256 = .ok (.invokevirtual 27, 3) := by decide +kernel
theorem dL_law_259 : decode cL_law 259 = .ok (.aload_n 2, 1) := by decide +kernel
theorem dL_law_260 : decode cL_law 260 = .ok (.invokevirtual 30, 3) := by decide +kernel
theorem dL_law_263 : decode cL_law 263 = .ok (.if_icmp .eq 1056, 3) := by decide +kernel
theorem dL_law_266 : decode cL_law 266 = .ok (.iconst 0, 1) := by decide +kernel
theorem dL_law_267 : decode cL_law 267 = .ok (.ireturn, 1) := by decide +kernel
theorem dL_law_268 : decode cL_law 268 = .ok (.aload_n 1, 1) := by decide +kernel
theorem dL_law_269 : decode cL_law 269 = .ok (.aload_n 0, 1) := by decide +kernel
theorem dL_law_270 : decode cL_law 270 = .ok (.iload_n 3, 1) := by decide +kernel
theorem dL_law_271 : decode cL_law 271 = .ok (.iconst 1, 1) := by decide +kernel
theorem dL_law_272 : decode cL_law 272 = .ok (.iadd, 1) := by decide +kernel
theorem dL_law_273 : decode cL_law 273 = .ok (.iaload, 1) := by decide +kernel
theorem dL_law_274 : decode cL_law 274 = .ok (.invokevirtual 31, 3) := by decide +kernel
theorem dL_law_277 : decode cL_law 277 = .ok (.aload_n 2, 1) := by decide +kernel
theorem dL_law_278 : decode cL_law 278 = .ok (.aload_n 0, 1) := by decide +kernel
theorem dL_law_279 : decode cL_law 279 = .ok (.iload_n 3, 1) := by decide +kernel
theorem dL_law_280 : decode cL_law 280 = .ok (.iconst 1, 1) := by decide +kernel
theorem dL_law_281 : decode cL_law 281 = .ok (.iadd, 1) := by decide +kernel
theorem dL_law_282 : decode cL_law 282 = .ok (.iaload, 1) := by decide +kernel
theorem dL_law_283 : decode cL_law 283 = .ok (.invokevirtual 34, 3) := by decide +kernel
theorem dL_law_286 : decode cL_law 286 = .ok (.if_icmp .eq 1033, 3) := by decide +kernel
theorem dL_law_289 : decode cL_law 289 = .ok (.iconst 0, 1) := by decide +kernel
theorem dL_law_290 : decode cL_law 290 = .ok (.ireturn, 1) := by decide +kernel
theorem dL_law_291 : decode cL_law 291 = .ok (.aload_n 1, 1) := by decide +kernel
theorem dL_law_292 : decode cL_law 292 = .ok (.aload_n 0, 1) := by decide +kernel
theorem dL_law_293 : decode cL_law 293 = .ok (.iload_n 3, 1) := by decide +kernel
theorem dL_law_294 : decode cL_law 294 = .ok (.iconst 1, 1) := by decide +kernel
theorem dL_law_295 : decode cL_law 295 = .ok (.iadd, 1) := by decide +kernel
theorem dL_law_296 : decode cL_law 296 = .ok (.iaload, 1) := by decide +kernel
theorem dL_law_297 : decode cL_law 297 = .ok (.aload_n 0, 1) := by decide +kernel
theorem dL_law_298 : decode cL_law 298 = .ok (.iload_n 3, 1) := by decide +kernel
theorem dL_law_299 : decode cL_law 299 = .ok (.iconst 2, 1) := by decide +kernel
theorem dL_law_300 : decode cL_law 300 = .ok (.iadd, 1) := by decide +kernel
theorem dL_law_301 : decode cL_law 301 = .ok (.iaload, 1) := by decide +kernel
theorem dL_law_302 : decode cL_law 302 = .ok (.invokevirtual 35, 3) := by decide +kernel
theorem dL_law_305 : decode cL_law 305 = .ok (.aload_n 2, 1) := by decide +kernel
theorem dL_law_306 : decode cL_law 306 = .ok (.aload_n 0, 1) := by decide +kernel
theorem dL_law_307 : decode cL_law 307 = .ok (.iload_n 3, 1) := by decide +kernel
theorem dL_law_308 : decode cL_law 308 = .ok (.iconst 1, 1) := by decide +kernel
theorem dL_law_309 : decode cL_law 309 = .ok (.iadd, 1) := by decide +kernel
theorem dL_law_310 : decode cL_law 310 = .ok (.iaload, 1) := by decide +kernel
theorem dL_law_311 : decode cL_law 311 = .ok (.aload_n 0, 1) := by decide +kernel
theorem dL_law_312 : decode cL_law 312 = .ok (.iload_n 3, 1) := by decide +kernel
theorem dL_law_313 : decode cL_law 313 = .ok (.iconst 2, 1) := by decide +kernel
theorem dL_law_314 : decode cL_law 314 = .ok (.iadd, 1) := by decide +kernel
theorem dL_law_315 : decode cL_law 315 = .ok (.iaload, 1) := by decide +kernel
theorem dL_law_316 : decode cL_law 316 = .ok (.invokevirtual 39, 3) := by decide +kernel
theorem dL_law_319 : decode cL_law 319 = .ok (.if_icmp .eq 1000, 3) := by decide +kernel
theorem dL_law_322 : decode cL_law 322 = .ok (.iconst 0, 1) := by decide +kernel
theorem dL_law_323 : decode cL_law 323 = .ok (.ireturn, 1) := by decide +kernel
theorem dL_law_324 : decode cL_law 324 = .ok (.aload_n 1, 1) := by decide +kernel
theorem dL_law_325 : decode cL_law 325 = .ok (.aload_n 0, 1) := by decide +kernel
theorem dL_law_326 : decode cL_law 326 = .ok (.iload_n 3, 1) := by decide +kernel
theorem dL_law_327 : decode cL_law 327 = .ok (.iconst 1, 1) := by decide +kernel
theorem dL_law_328 : decode cL_law 328 = .ok (.iadd, 1) := by decide +kernel
theorem dL_law_329 : decode cL_law 329 = .ok (.iaload, 1) := by decide +kernel
theorem dL_law_330 : decode cL_law 330 = .ok (.aload_n 0, 1) := by decide +kernel
theorem dL_law_331 : decode cL_law 331 = .ok (.iload_n 3, 1) := by decide +kernel
theorem dL_law_332 : decode cL_law 332 = .ok (.iconst 2, 1) := by decide +kernel
theorem dL_law_333 : decode cL_law 333 = .ok (.iadd, 1) := by decide +kernel
theorem dL_law_334 : decode cL_law 334 = .ok (.iaload, 1) := by decide +kernel
theorem dL_law_335 : decode cL_law 335 = .ok (.aload_n 0, 1) := by decide +kernel
theorem dL_law_336 : decode cL_law 336 = .ok (.iload_n 3, 1) := by decide +kernel
theorem dL_law_337 : decode cL_law 337 = .ok (.iconst 3, 1) := by decide +kernel
theorem dL_law_338 : decode cL_law 338 = .ok (.iadd, 1) := by decide +kernel
theorem dL_law_339 : decode cL_law 339 = .ok (.iaload, 1) := by decide +kernel
theorem dL_law_340 : decode cL_law 340 = .ok (.invokevirtual 40, 3) := by decide +kernel
theorem dL_law_343 : decode cL_law 343 = .ok (.aload_n 2, 1) := by decide +kernel
theorem dL_law_344 : decode cL_law 344 = .ok (.aload_n 0, 1) := by decide +kernel
theorem dL_law_345 : decode cL_law 345 = .ok (.iload_n 3, 1) := by decide +kernel
theorem dL_law_346 : decode cL_law 346 = .ok (.iconst 1, 1) := by decide +kernel
theorem dL_law_347 : decode cL_law 347 = .ok (.iadd, 1) := by decide +kernel
theorem dL_law_348 : decode cL_law 348 = .ok (.iaload, 1) := by decide +kernel
theorem dL_law_349 : decode cL_law 349 = .ok (.aload_n 0, 1) := by decide +kernel
theorem dL_law_350 : decode cL_law 350 = .ok (.iload_n 3, 1) := by decide +kernel
theorem dL_law_351 : decode cL_law 351 = .ok (.iconst 2, 1) := by decide +kernel
theorem dL_law_352 : decode cL_law 352 = .ok (.iadd, 1) := by decide +kernel
theorem dL_law_353 : decode cL_law 353 = .ok (.iaload, 1) := by decide +kernel
theorem dL_law_354 : decode cL_law 354 = .ok (.aload_n 0, 1) := by decide +kernel
theorem dL_law_355 : decode cL_law 355 = .ok (.iload_n 3, 1) := by decide +kernel
theorem dL_law_356 : decode cL_law 356 = .ok (.iconst 3, 1) := by decide +kernel
theorem dL_law_357 : decode cL_law 357 = .ok (.iadd, 1) := by decide +kernel
theorem dL_law_358 : decode cL_law 358 = .ok (.iaload, 1) := by decide +kernel
theorem dL_law_359 : decode cL_law 359 = .ok (.invokevirtual 44, 3) := by decide +kernel
theorem dL_law_362 : decode cL_law 362 = .ok (.if_icmp .eq 957, 3) := by decide +kernel
theorem dL_law_365 : decode cL_law 365 = .ok (.iconst 0, 1) := by decide +kernel
theorem dL_law_366 : decode cL_law 366 = .ok (.ireturn, 1) := by decide +kernel
theorem dL_law_367 : decode cL_law 367 = .ok (.aload_n 1, 1) := by decide +kernel
theorem dL_law_368 : decode cL_law 368 = .ok (.aload_n 0, 1) := by decide +kernel
theorem dL_law_369 : decode cL_law 369 = .ok (.iload_n 3, 1) := by decide +kernel
theorem dL_law_370 : decode cL_law 370 = .ok (.iconst 1, 1) := by decide +kernel
theorem dL_law_371 : decode cL_law 371 = .ok (.iadd, 1) := by decide +kernel
theorem dL_law_372 : decode cL_law 372 = .ok (.iaload, 1) := by decide +kernel
theorem dL_law_373 : decode cL_law 373 = .ok (.aload_n 0, 1) := by decide +kernel
theorem dL_law_374 : decode cL_law 374 = .ok (.iload_n 3, 1) := by decide +kernel
theorem dL_law_375 : decode cL_law 375 = .ok (.iconst 2, 1) := by decide +kernel
theorem dL_law_376 : decode cL_law 376 = .ok (.iadd, 1) := by decide +kernel
theorem dL_law_377 : decode cL_law 377 = .ok (.iaload, 1) := by decide +kernel
theorem dL_law_378 : decode cL_law 378 = .ok (.invokevirtual 45, 3) := by decide +kernel
theorem dL_law_381 : decode cL_law 381 = .ok (.aload_n 2, 1) := by decide +kernel
theorem dL_law_382 : decode cL_law 382 = .ok (.aload_n 0, 1) := by decide +kernel
theorem dL_law_383 : decode cL_law 383 = .ok (.iload_n 3, 1) := by decide +kernel
theorem dL_law_384 : decode cL_law 384 = .ok (.iconst 1, 1) := by decide +kernel
theorem dL_law_385 : decode cL_law 385 = .ok (.iadd, 1) := by decide +kernel
theorem dL_law_386 : decode cL_law 386 = .ok (.iaload, 1) := by decide +kernel
theorem dL_law_387 : decode cL_law 387 = .ok (.aload_n 0, 1) := by decide +kernel
theorem dL_law_388 : decode cL_law 388 = .ok (.iload_n 3, 1) := by decide +kernel
theorem dL_law_389 : decode cL_law 389 = .ok (.iconst 2, 1) := by decide +kernel
theorem dL_law_390 : decode cL_law 390 = .ok (.iadd, 1) := by decide +kernel
theorem dL_law_391 : decode cL_law 391 = .ok (.iaload, 1) := by decide +kernel
theorem dL_law_392 : decode cL_law 392 = .ok (.invokevirtual 48, 3) := by decide +kernel
theorem dL_law_395 : decode cL_law 395 = .ok (.if_icmp .eq 924, 3) := by decide +kernel
theorem dL_law_398 : decode cL_law 398 = .ok (.iconst 0, 1) := by decide +kernel
theorem dL_law_399 : decode cL_law 399 = .ok (.ireturn, 1) := by decide +kernel
theorem dL_law_400 : decode cL_law 400 = .ok (.aload_n 1, 1) := by decide +kernel
theorem dL_law_401 : decode cL_law 401 = .ok (.aload_n 0, 1) := by decide +kernel
theorem dL_law_402 : decode cL_law 402 = .ok (.iload_n 3, 1) := by decide +kernel
theorem dL_law_403 : decode cL_law 403 = .ok (.iconst 1, 1) := by decide +kernel
theorem dL_law_404 : decode cL_law 404 = .ok (.iadd, 1) := by decide +kernel
theorem dL_law_405 : decode cL_law 405 = .ok (.iaload, 1) := by decide +kernel
theorem dL_law_406 : decode cL_law 406 = .ok (.invokevirtual 49, 3) := by decide +kernel
theorem dL_law_409 : decode cL_law 409 = .ok (.aload_n 2, 1) := by decide +kernel
theorem dL_law_410 : decode cL_law 410 = .ok (.aload_n 0, 1) := by decide +kernel
theorem dL_law_411 : decode cL_law 411 = .ok (.iload_n 3, 1) := by decide +kernel
theorem dL_law_412 : decode cL_law 412 = .ok (.iconst 1, 1) := by decide +kernel
theorem dL_law_413 : decode cL_law 413 = .ok (.iadd, 1) := by decide +kernel
theorem dL_law_414 : decode cL_law 414 = .ok (.iaload, 1) := by decide +kernel
theorem dL_law_415 : decode cL_law 415 = .ok (.invokevirtual 52, 3) := by decide +kernel
theorem dL_law_418 : decode cL_law 418 = .ok (.if_icmp .eq 901, 3) := by decide +kernel
theorem dL_law_421 : decode cL_law 421 = .ok (.iconst 0, 1) := by decide +kernel
theorem dL_law_422 : decode cL_law 422 = .ok (.ireturn, 1) := by decide +kernel
theorem dL_law_423 : decode cL_law 423 = .ok (.aload_n 1, 1) := by decide +kernel
theorem dL_law_424 : decode cL_law 424 = .ok (.aload_n 0, 1) := by decide +kernel
theorem dL_law_425 : decode cL_law 425 = .ok (.iload_n 3, 1) := by decide +kernel
theorem dL_law_426 : decode cL_law 426 = .ok (.iconst 1, 1) := by decide +kernel
theorem dL_law_427 : decode cL_law 427 = .ok (.iadd, 1) := by decide +kernel
theorem dL_law_428 : decode cL_law 428 = .ok (.iaload, 1) := by decide +kernel
theorem dL_law_429 : decode cL_law 429 = .ok (.invokevirtual 53, 3) := by decide +kernel
theorem dL_law_432 : decode cL_law 432 = .ok (.aload_n 2, 1) := by decide +kernel
theorem dL_law_433 : decode cL_law 433 = .ok (.aload_n 0, 1) := by decide +kernel
theorem dL_law_434 : decode cL_law 434 = .ok (.iload_n 3, 1) := by decide +kernel
theorem dL_law_435 : decode cL_law 435 = .ok (.iconst 1, 1) := by decide +kernel
theorem dL_law_436 : decode cL_law 436 = .ok (.iadd, 1) := by decide +kernel
theorem dL_law_437 : decode cL_law 437 = .ok (.iaload, 1) := by decide +kernel
theorem dL_law_438 : decode cL_law 438 = .ok (.invokevirtual 56, 3) := by decide +kernel
theorem dL_law_441 : decode cL_law 441 = .ok (.if_icmp .eq 878, 3) := by decide +kernel
theorem dL_law_444 : decode cL_law 444 = .ok (.iconst 0, 1) := by decide +kernel
theorem dL_law_445 : decode cL_law 445 = .ok (.ireturn, 1) := by decide +kernel
theorem dL_law_446 : decode cL_law 446 = .ok (.aload_n 1, 1) := by decide +kernel
theorem dL_law_447 : decode cL_law 447 = .ok (.invokevirtual 57, 3) := by decide +kernel
theorem dL_law_450 : decode cL_law 450 = .ok (.aload_n 2, 1) := by decide +kernel
theorem dL_law_451 : decode cL_law 451 = .ok (.invokevirtual 60, 3) := by decide +kernel
theorem dL_law_454 : decode cL_law 454 = .ok (.if_icmp .eq 865, 3) := by decide +kernel
theorem dL_law_457 : decode cL_law 457 = .ok (.iconst 0, 1) := by decide +kernel
theorem dL_law_458 : decode cL_law 458 = .ok (.ireturn, 1) := by decide +kernel
theorem dL_law_459 : decode cL_law 459 = .ok (.aload_n 1, 1) := by decide +kernel
theorem dL_law_460 : decode cL_law 460 = .ok (.aload_n 0, 1) := by decide +kernel
theorem dL_law_461 : decode cL_law 461 = .ok (.iload_n 3, 1) := by decide +kernel
theorem dL_law_462 : decode cL_law 462 = .ok (.iconst 1, 1) := by decide +kernel
theorem dL_law_463 : decode cL_law 463 = .ok (.iadd, 1) := by decide +kernel
theorem dL_law_464 : decode cL_law 464 = .ok (.iaload, 1) := by decide +kernel
theorem dL_law_465 : decode cL_law 465 = .ok (.invokevirtual 61, 3) := by decide +kernel
theorem dL_law_468 : decode cL_law 468 = .ok (.aload_n 2, 1) := by decide +kernel
theorem dL_law_469 : decode cL_law 469 = .ok (.aload_n 0, 1) := by decide +kernel
theorem dL_law_470 : decode cL_law 470 = .ok (.iload_n 3, 1) := by decide +kernel
theorem dL_law_471 : decode cL_law 471 = .ok (.iconst 1, 1) := by decide +kernel
theorem dL_law_472 : decode cL_law 472 = .ok (.iadd, 1) := by decide +kernel
theorem dL_law_473 : decode cL_law 473 = .ok (.iaload, 1) := by decide +kernel
theorem dL_law_474 : decode cL_law 474 = .ok (.invokevirtual 64, 3) := by decide +kernel
theorem dL_law_477 : decode cL_law 477 = .ok (.if_icmp .eq 842, 3) := by decide +kernel
theorem dL_law_480 : decode cL_law 480 = .ok (.iconst 0, 1) := by decide +kernel
theorem dL_law_481 : decode cL_law 481 = .ok (.ireturn, 1) := by decide +kernel
theorem dL_law_482 : decode cL_law 482 = .ok (.aload_n 1, 1) := by decide +kernel
theorem dL_law_483 : decode cL_law 483 = .ok (.aload_n 0, 1) := by decide +kernel
theorem dL_law_484 : decode cL_law 484 = .ok (.iload_n 3, 1) := by decide +kernel
theorem dL_law_485 : decode cL_law 485 = .ok (.iconst 1, 1) := by decide +kernel
theorem dL_law_486 : decode cL_law 486 = .ok (.iadd, 1) := by decide +kernel
theorem dL_law_487 : decode cL_law 487 = .ok (.iaload, 1) := by decide +kernel
theorem dL_law_488 : decode cL_law 488 = .ok (.aload_n 0, 1) := by decide +kernel
theorem dL_law_489 : decode cL_law 489 = .ok (.iload_n 3, 1) := by decide +kernel
theorem dL_law_490 : decode cL_law 490 = .ok (.iconst 2, 1) := by decide +kernel
theorem dL_law_491 : decode cL_law 491 = .ok (.iadd, 1) := by decide +kernel
theorem dL_law_492 : decode cL_law 492 = .ok (.iaload, 1) := by decide +kernel
theorem dL_law_493 : decode cL_law 493 = .ok (.invokevirtual 65, 3) := by decide +kernel
theorem dL_law_496 : decode cL_law 496 = .ok (.aload_n 2, 1) := by decide +kernel
theorem dL_law_497 : decode cL_law 497 = .ok (.aload_n 0, 1) := by decide +kernel
theorem dL_law_498 : decode cL_law 498 = .ok (.iload_n 3, 1) := by decide +kernel
theorem dL_law_499 : decode cL_law 499 = .ok (.iconst 1, 1) := by decide +kernel
theorem dL_law_500 : decode cL_law 500 = .ok (.iadd, 1) := by decide +kernel
theorem dL_law_501 : decode cL_law 501 = .ok (.iaload, 1) := by decide +kernel
theorem dL_law_502 : decode cL_law 502 = .ok (.aload_n 0, 1) := by decide +kernel
theorem dL_law_503 : decode cL_law 503 = .ok (.iload_n 3, 1) := by decide +kernel
theorem dL_law_504 : decode cL_law 504 = .ok (.iconst 2, 1) := by decide +kernel
theorem dL_law_505 : decode cL_law 505 = .ok (.iadd, 1) := by decide +kernel
theorem dL_law_506 : decode cL_law 506 = .ok (.iaload, 1) := by decide +kernel
theorem dL_law_507 : decode cL_law 507 = .ok (.invokevirtual 68, 3) := by decide +kernel
theorem dL_law_510 : decode cL_law 510 = .ok (.if_icmp .eq 809, 3) := by decide +kernel
theorem dL_law_513 : decode cL_law 513 = .ok (.iconst 0, 1) := by decide +kernel
theorem dL_law_514 : decode cL_law 514 = .ok (.ireturn, 1) := by decide +kernel
theorem dL_law_515 : decode cL_law 515 = .ok (.aload_n 1, 1) := by decide +kernel
theorem dL_law_516 : decode cL_law 516 = .ok (.aload_n 0, 1) := by decide +kernel
theorem dL_law_517 : decode cL_law 517 = .ok (.iload_n 3, 1) := by decide +kernel
theorem dL_law_518 : decode cL_law 518 = .ok (.iconst 1, 1) := by decide +kernel
theorem dL_law_519 : decode cL_law 519 = .ok (.iadd, 1) := by decide +kernel
theorem dL_law_520 : decode cL_law 520 = .ok (.iaload, 1) := by decide +kernel
theorem dL_law_521 : decode cL_law 521 = .ok (.aload_n 0, 1) := by decide +kernel
theorem dL_law_522 : decode cL_law 522 = .ok (.iload_n 3, 1) := by decide +kernel
theorem dL_law_523 : decode cL_law 523 = .ok (.iconst 2, 1) := by decide +kernel
theorem dL_law_524 : decode cL_law 524 = .ok (.iadd, 1) := by decide +kernel
theorem dL_law_525 : decode cL_law 525 = .ok (.iaload, 1) := by decide +kernel
theorem dL_law_526 : decode cL_law 526 = .ok (.invokevirtual 69, 3) := by decide +kernel
theorem dL_law_529 : decode cL_law 529 = .ok (.aload_n 2, 1) := by decide +kernel
theorem dL_law_530 : decode cL_law 530 = .ok (.aload_n 0, 1) := by decide +kernel
theorem dL_law_531 : decode cL_law 531 = .ok (.iload_n 3, 1) := by decide +kernel
theorem dL_law_532 : decode cL_law 532 = .ok (.iconst 1, 1) := by decide +kernel
theorem dL_law_533 : decode cL_law 533 = .ok (.iadd, 1) := by decide +kernel
theorem dL_law_534 : decode cL_law 534 = .ok (.iaload, 1) := by decide +kernel
theorem dL_law_535 : decode cL_law 535 = .ok (.aload_n 0, 1) := by decide +kernel
theorem dL_law_536 : decode cL_law 536 = .ok (.iload_n 3, 1) := by decide +kernel
theorem dL_law_537 : decode cL_law 537 = .ok (.iconst 2, 1) := by decide +kernel
theorem dL_law_538 : decode cL_law 538 = .ok (.iadd, 1) := by decide +kernel
theorem dL_law_539 : decode cL_law 539 = .ok (.iaload, 1) := by decide +kernel
theorem dL_law_540 : decode cL_law 540 = .ok (.invokevirtual 72, 3) := by decide +kernel
theorem dL_law_543 : decode cL_law 543 = .ok (.if_icmp .eq 776, 3) := by decide +kernel
theorem dL_law_546 : decode cL_law 546 = .ok (.iconst 0, 1) := by decide +kernel
theorem dL_law_547 : decode cL_law 547 = .ok (.ireturn, 1) := by decide +kernel
theorem dL_law_548 : decode cL_law 548 = .ok (.aload_n 1, 1) := by decide +kernel
theorem dL_law_549 : decode cL_law 549 = .ok (.aload_n 0, 1) := by decide +kernel
theorem dL_law_550 : decode cL_law 550 = .ok (.iload_n 3, 1) := by decide +kernel
theorem dL_law_551 : decode cL_law 551 = .ok (.iconst 1, 1) := by decide +kernel
theorem dL_law_552 : decode cL_law 552 = .ok (.iadd, 1) := by decide +kernel
theorem dL_law_553 : decode cL_law 553 = .ok (.iaload, 1) := by decide +kernel
theorem dL_law_554 : decode cL_law 554 = .ok (.invokevirtual 73, 3) := by decide +kernel
theorem dL_law_557 : decode cL_law 557 = .ok (.aload_n 2, 1) := by decide +kernel
theorem dL_law_558 : decode cL_law 558 = .ok (.aload_n 0, 1) := by decide +kernel
theorem dL_law_559 : decode cL_law 559 = .ok (.iload_n 3, 1) := by decide +kernel
theorem dL_law_560 : decode cL_law 560 = .ok (.iconst 1, 1) := by decide +kernel
theorem dL_law_561 : decode cL_law 561 = .ok (.iadd, 1) := by decide +kernel
theorem dL_law_562 : decode cL_law 562 = .ok (.iaload, 1) := by decide +kernel
theorem dL_law_563 : decode cL_law 563 = .ok (.invokevirtual 76, 3) := by decide +kernel
theorem dL_law_566 : decode cL_law 566 = .ok (.if_icmp .eq 753, 3) := by decide +kernel
theorem dL_law_569 : decode cL_law 569 = .ok (.iconst 0, 1) := by decide +kernel
theorem dL_law_570 : decode cL_law 570 = .ok (.ireturn, 1) := by decide +kernel
theorem dL_law_571 : decode cL_law 571 = .ok (.aload_n 1, 1) := by decide +kernel
theorem dL_law_572 : decode cL_law 572 = .ok (.aload_n 0, 1) := by decide +kernel
theorem dL_law_573 : decode cL_law 573 = .ok (.iload_n 3, 1) := by decide +kernel
theorem dL_law_574 : decode cL_law 574 = .ok (.iconst 1, 1) := by decide +kernel
theorem dL_law_575 : decode cL_law 575 = .ok (.iadd, 1) := by decide +kernel
theorem dL_law_576 : decode cL_law 576 = .ok (.iaload, 1) := by decide +kernel
theorem dL_law_577 : decode cL_law 577 = .ok (.aload_n 0, 1) := by decide +kernel
theorem dL_law_578 : decode cL_law 578 = .ok (.iload_n 3, 1) := by decide +kernel
theorem dL_law_579 : decode cL_law 579 = .ok (.iconst 2, 1) := by decide +kernel
theorem dL_law_580 : decode cL_law 580 = .ok (.iadd, 1) := by decide +kernel
theorem dL_law_581 : decode cL_law 581 = .ok (.iaload, 1) := by decide +kernel
theorem dL_law_582 : decode cL_law 582 = .ok (.invokevirtual 77, 3) := by decide +kernel
theorem dL_law_585 : decode cL_law 585 = .ok (.aload_n 2, 1) := by decide +kernel
theorem dL_law_586 : decode cL_law 586 = .ok (.aload_n 0, 1) := by decide +kernel
theorem dL_law_587 : decode cL_law 587 = .ok (.iload_n 3, 1) := by decide +kernel
theorem dL_law_588 : decode cL_law 588 = .ok (.iconst 1, 1) := by decide +kernel
theorem dL_law_589 : decode cL_law 589 = .ok (.iadd, 1) := by decide +kernel
theorem dL_law_590 : decode cL_law 590 = .ok (.iaload, 1) := by decide +kernel
theorem dL_law_591 : decode cL_law 591 = .ok (.aload_n 0, 1) := by decide +kernel
theorem dL_law_592 : decode cL_law 592 = .ok (.iload_n 3, 1) := by decide +kernel
theorem dL_law_593 : decode cL_law 593 = .ok (.iconst 2, 1) := by decide +kernel
theorem dL_law_594 : decode cL_law 594 = .ok (.iadd, 1) := by decide +kernel
theorem dL_law_595 : decode cL_law 595 = .ok (.iaload, 1) := by decide +kernel
theorem dL_law_596 : decode cL_law 596 = .ok (.invokevirtual 80, 3) := by decide +kernel
theorem dL_law_599 : decode cL_law 599 = .ok (.if_icmp .eq 720, 3) := by decide +kernel
theorem dL_law_602 : decode cL_law 602 = .ok (.iconst 0, 1) := by decide +kernel
theorem dL_law_603 : decode cL_law 603 = .ok (.ireturn, 1) := by decide +kernel
theorem dL_law_604 : decode cL_law 604 = .ok (.aload_n 1, 1) := by decide +kernel
theorem dL_law_605 : decode cL_law 605 = .ok (.invokevirtual 81, 3) := by decide +kernel
theorem dL_law_608 : decode cL_law 608 = .ok (.aload_n 2, 1) := by decide +kernel
theorem dL_law_609 : decode cL_law 609 = .ok (.invokevirtual 84, 3) := by decide +kernel
theorem dL_law_612 : decode cL_law 612 = .ok (.if_icmp .eq 707, 3) := by decide +kernel
theorem dL_law_615 : decode cL_law 615 = .ok (.iconst 0, 1) := by decide +kernel
theorem dL_law_616 : decode cL_law 616 = .ok (.ireturn, 1) := by decide +kernel
theorem dL_law_617 : decode cL_law 617 = .ok (.aload_n 1, 1) := by decide +kernel
theorem dL_law_618 : decode cL_law 618 = .ok (.aload_n 0, 1) := by decide +kernel
theorem dL_law_619 : decode cL_law 619 = .ok (.iload_n 3, 1) := by decide +kernel
theorem dL_law_620 : decode cL_law 620 = .ok (.iconst 1, 1) := by decide +kernel
theorem dL_law_621 : decode cL_law 621 = .ok (.iadd, 1) := by decide +kernel
theorem dL_law_622 : decode cL_law 622 = .ok (.iaload, 1) := by decide +kernel
theorem dL_law_623 : decode cL_law 623 = .ok (.aload_n 0, 1) := by decide +kernel
theorem dL_law_624 : decode cL_law 624 = .ok (.iload_n 3, 1) := by decide +kernel
theorem dL_law_625 : decode cL_law 625 = .ok (.iconst 2, 1) := by decide +kernel
theorem dL_law_626 : decode cL_law 626 = .ok (.iadd, 1) := by decide +kernel
theorem dL_law_627 : decode cL_law 627 = .ok (.iaload, 1) := by decide +kernel
theorem dL_law_628 : decode cL_law 628 = .ok (.invokevirtual 85, 3) := by decide +kernel
theorem dL_law_631 : decode cL_law 631 = .ok (.aload_n 2, 1) := by decide +kernel
theorem dL_law_632 : decode cL_law 632 = .ok (.aload_n 0, 1) := by decide +kernel
theorem dL_law_633 : decode cL_law 633 = .ok (.iload_n 3, 1) := by decide +kernel
theorem dL_law_634 : decode cL_law 634 = .ok (.iconst 1, 1) := by decide +kernel
theorem dL_law_635 : decode cL_law 635 = .ok (.iadd, 1) := by decide +kernel
theorem dL_law_636 : decode cL_law 636 = .ok (.iaload, 1) := by decide +kernel
theorem dL_law_637 : decode cL_law 637 = .ok (.aload_n 0, 1) := by decide +kernel
theorem dL_law_638 : decode cL_law 638 = .ok (.iload_n 3, 1) := by decide +kernel
theorem dL_law_639 : decode cL_law 639 = .ok (.iconst 2, 1) := by decide +kernel
theorem dL_law_640 : decode cL_law 640 = .ok (.iadd, 1) := by decide +kernel
theorem dL_law_641 : decode cL_law 641 = .ok (.iaload, 1) := by decide +kernel
theorem dL_law_642 : decode cL_law 642 = .ok (.invokevirtual 88, 3) := by decide +kernel
theorem dL_law_645 : decode cL_law 645 = .ok (.if_icmp .eq 674, 3) := by decide +kernel
theorem dL_law_648 : decode cL_law 648 = .ok (.iconst 0, 1) := by decide +kernel
theorem dL_law_649 : decode cL_law 649 = .ok (.ireturn, 1) := by decide +kernel
theorem dL_law_650 : decode cL_law 650 = .ok (.aload_n 1, 1) := by decide +kernel
theorem dL_law_651 : decode cL_law 651 = .ok (.aload_n 0, 1) := by decide +kernel
theorem dL_law_652 : decode cL_law 652 = .ok (.iload_n 3, 1) := by decide +kernel
theorem dL_law_653 : decode cL_law 653 = .ok (.iconst 1, 1) := by decide +kernel
theorem dL_law_654 : decode cL_law 654 = .ok (.iadd, 1) := by decide +kernel
theorem dL_law_655 : decode cL_law 655 = .ok (.iaload, 1) := by decide +kernel
theorem dL_law_656 : decode cL_law 656 = .ok (.aload_n 0, 1) := by decide +kernel
theorem dL_law_657 : decode cL_law 657 = .ok (.iload_n 3, 1) := by decide +kernel
theorem dL_law_658 : decode cL_law 658 = .ok (.iconst 2, 1) := by decide +kernel
theorem dL_law_659 : decode cL_law 659 = .ok (.iadd, 1) := by decide +kernel
theorem dL_law_660 : decode cL_law 660 = .ok (.iaload, 1) := by decide +kernel
theorem dL_law_661 : decode cL_law 661 = .ok (.invokevirtual 89, 3) := by decide +kernel
theorem dL_law_664 : decode cL_law 664 = .ok (.aload_n 2, 1) := by decide +kernel
theorem dL_law_665 : decode cL_law 665 = .ok (.aload_n 0, 1) := by decide +kernel
theorem dL_law_666 : decode cL_law 666 = .ok (.iload_n 3, 1) := by decide +kernel
theorem dL_law_667 : decode cL_law 667 = .ok (.iconst 1, 1) := by decide +kernel
theorem dL_law_668 : decode cL_law 668 = .ok (.iadd, 1) := by decide +kernel
theorem dL_law_669 : decode cL_law 669 = .ok (.iaload, 1) := by decide +kernel
theorem dL_law_670 : decode cL_law 670 = .ok (.aload_n 0, 1) := by decide +kernel
theorem dL_law_671 : decode cL_law 671 = .ok (.iload_n 3, 1) := by decide +kernel
theorem dL_law_672 : decode cL_law 672 = .ok (.iconst 2, 1) := by decide +kernel
theorem dL_law_673 : decode cL_law 673 = .ok (.iadd, 1) := by decide +kernel
theorem dL_law_674 : decode cL_law 674 = .ok (.iaload, 1) := by decide +kernel
theorem dL_law_675 : decode cL_law 675 = .ok (.invokevirtual 92, 3) := by decide +kernel
theorem dL_law_678 : decode cL_law 678 = .ok (.if_icmp .eq 641, 3) := by decide +kernel
theorem dL_law_681 : decode cL_law 681 = .ok (.iconst 0, 1) := by decide +kernel
theorem dL_law_682 : decode cL_law 682 = .ok (.ireturn, 1) := by decide +kernel
theorem dL_law_683 : decode cL_law 683 = .ok (.aload_n 1, 1) := by decide +kernel
theorem dL_law_684 : decode cL_law 684 = .ok (.aload_n 0, 1) := by decide +kernel
theorem dL_law_685 : decode cL_law 685 = .ok (.iload_n 3, 1) := by decide +kernel
theorem dL_law_686 : decode cL_law 686 = .ok (.iconst 1, 1) := by decide +kernel
theorem dL_law_687 : decode cL_law 687 = .ok (.iadd, 1) := by decide +kernel
theorem dL_law_688 : decode cL_law 688 = .ok (.iaload, 1) := by decide +kernel
theorem dL_law_689 : decode cL_law 689 = .ok (.aload_n 0, 1) := by decide +kernel
theorem dL_law_690 : decode cL_law 690 = .ok (.iload_n 3, 1) := by decide +kernel
theorem dL_law_691 : decode cL_law 691 = .ok (.iconst 2, 1) := by decide +kernel
theorem dL_law_692 : decode cL_law 692 = .ok (.iadd, 1) := by decide +kernel
theorem dL_law_693 : decode cL_law 693 = .ok (.iaload, 1) := by decide +kernel
theorem dL_law_694 : decode cL_law 694 = .ok (.aload_n 0, 1) := by decide +kernel
theorem dL_law_695 : decode cL_law 695 = .ok (.iload_n 3, 1) := by decide +kernel
theorem dL_law_696 : decode cL_law 696 = .ok (.iconst 3, 1) := by decide +kernel
theorem dL_law_697 : decode cL_law 697 = .ok (.iadd, 1) := by decide +kernel
theorem dL_law_698 : decode cL_law 698 = .ok (.iaload, 1) := by decide +kernel
theorem dL_law_699 : decode cL_law 699 = .ok (.invokevirtual 93, 3) := by decide +kernel
theorem dL_law_702 : decode cL_law 702 = .ok (.aload_n 2, 1) := by decide +kernel
theorem dL_law_703 : decode cL_law 703 = .ok (.aload_n 0, 1) := by decide +kernel
theorem dL_law_704 : decode cL_law 704 = .ok (.iload_n 3, 1) := by decide +kernel
theorem dL_law_705 : decode cL_law 705 = .ok (.iconst 1, 1) := by decide +kernel
theorem dL_law_706 : decode cL_law 706 = .ok (.iadd, 1) := by decide +kernel
theorem dL_law_707 : decode cL_law 707 = .ok (.iaload, 1) := by decide +kernel
theorem dL_law_708 : decode cL_law 708 = .ok (.aload_n 0, 1) := by decide +kernel
theorem dL_law_709 : decode cL_law 709 = .ok (.iload_n 3, 1) := by decide +kernel
theorem dL_law_710 : decode cL_law 710 = .ok (.iconst 2, 1) := by decide +kernel
theorem dL_law_711 : decode cL_law 711 = .ok (.iadd, 1) := by decide +kernel
theorem dL_law_712 : decode cL_law 712 = .ok (.iaload, 1) := by decide +kernel
theorem dL_law_713 : decode cL_law 713 = .ok (.aload_n 0, 1) := by decide +kernel
theorem dL_law_714 : decode cL_law 714 = .ok (.iload_n 3, 1) := by decide +kernel
theorem dL_law_715 : decode cL_law 715 = .ok (.iconst 3, 1) := by decide +kernel
theorem dL_law_716 : decode cL_law 716 = .ok (.iadd, 1) := by decide +kernel
theorem dL_law_717 : decode cL_law 717 = .ok (.iaload, 1) := by decide +kernel
theorem dL_law_718 : decode cL_law 718 = .ok (.invokevirtual 96, 3) := by decide +kernel
theorem dL_law_721 : decode cL_law 721 = .ok (.if_icmp .eq 598, 3) := by decide +kernel
theorem dL_law_724 : decode cL_law 724 = .ok (.iconst 0, 1) := by decide +kernel
theorem dL_law_725 : decode cL_law 725 = .ok (.ireturn, 1) := by decide +kernel
theorem dL_law_726 : decode cL_law 726 = .ok (.aload_n 1, 1) := by decide +kernel
theorem dL_law_727 : decode cL_law 727 = .ok (.aload_n 0, 1) := by decide +kernel
theorem dL_law_728 : decode cL_law 728 = .ok (.iload_n 3, 1) := by decide +kernel
theorem dL_law_729 : decode cL_law 729 = .ok (.iconst 1, 1) := by decide +kernel
theorem dL_law_730 : decode cL_law 730 = .ok (.iadd, 1) := by decide +kernel
theorem dL_law_731 : decode cL_law 731 = .ok (.iaload, 1) := by decide +kernel
theorem dL_law_732 : decode cL_law 732 = .ok (.aload_n 0, 1) := by decide +kernel
theorem dL_law_733 : decode cL_law 733 = .ok (.iload_n 3, 1) := by decide +kernel
theorem dL_law_734 : decode cL_law 734 = .ok (.iconst 2, 1) := by decide +kernel
theorem dL_law_735 : decode cL_law 735 = .ok (.iadd, 1) := by decide +kernel
theorem dL_law_736 : decode cL_law 736 = .ok (.iaload, 1) := by decide +kernel
theorem dL_law_737 : decode cL_law 737 = .ok (.aload_n 0, 1) := by decide +kernel
theorem dL_law_738 : decode cL_law 738 = .ok (.iload_n 3, 1) := by decide +kernel
theorem dL_law_739 : decode cL_law 739 = .ok (.iconst 3, 1) := by decide +kernel
theorem dL_law_740 : decode cL_law 740 = .ok (.iadd, 1) := by decide +kernel
theorem dL_law_741 : decode cL_law 741 = .ok (.iaload, 1) := by decide +kernel
theorem dL_law_742 : decode cL_law 742 = .ok (.invokevirtual 97, 3) := by decide +kernel
theorem dL_law_745 : decode cL_law 745 = .ok (.aload_n 2, 1) := by decide +kernel
theorem dL_law_746 : decode cL_law 746 = .ok (.aload_n 0, 1) := by decide +kernel
theorem dL_law_747 : decode cL_law 747 = .ok (.iload_n 3, 1) := by decide +kernel
theorem dL_law_748 : decode cL_law 748 = .ok (.iconst 1, 1) := by decide +kernel
theorem dL_law_749 : decode cL_law 749 = .ok (.iadd, 1) := by decide +kernel
theorem dL_law_750 : decode cL_law 750 = .ok (.iaload, 1) := by decide +kernel
theorem dL_law_751 : decode cL_law 751 = .ok (.aload_n 0, 1) := by decide +kernel
theorem dL_law_752 : decode cL_law 752 = .ok (.iload_n 3, 1) := by decide +kernel
theorem dL_law_753 : decode cL_law 753 = .ok (.iconst 2, 1) := by decide +kernel
theorem dL_law_754 : decode cL_law 754 = .ok (.iadd, 1) := by decide +kernel
theorem dL_law_755 : decode cL_law 755 = .ok (.iaload, 1) := by decide +kernel
theorem dL_law_756 : decode cL_law 756 = .ok (.aload_n 0, 1) := by decide +kernel
theorem dL_law_757 : decode cL_law 757 = .ok (.iload_n 3, 1) := by decide +kernel
theorem dL_law_758 : decode cL_law 758 = .ok (.iconst 3, 1) := by decide +kernel
theorem dL_law_759 : decode cL_law 759 = .ok (.iadd, 1) := by decide +kernel
theorem dL_law_760 : decode cL_law 760 = .ok (.iaload, 1) := by decide +kernel
theorem dL_law_761 : decode cL_law 761 = .ok (.invokevirtual 100, 3) := by decide +kernel
theorem dL_law_764 : decode cL_law 764 = .ok (.if_icmp .eq 555, 3) := by decide +kernel
theorem dL_law_767 : decode cL_law 767 = .ok (.iconst 0, 1) := by decide +kernel
theorem dL_law_768 : decode cL_law 768 = .ok (.ireturn, 1) := by decide +kernel
theorem dL_law_769 : decode cL_law 769 = .ok (.aload_n 1, 1) := by decide +kernel
theorem dL_law_770 : decode cL_law 770 = .ok (.aload_n 0, 1) := by decide +kernel
theorem dL_law_771 : decode cL_law 771 = .ok (.iload_n 3, 1) := by decide +kernel
theorem dL_law_772 : decode cL_law 772 = .ok (.iconst 1, 1) := by decide +kernel
theorem dL_law_773 : decode cL_law 773 = .ok (.iadd, 1) := by decide +kernel
theorem dL_law_774 : decode cL_law 774 = .ok (.iaload, 1) := by decide +kernel
theorem dL_law_775 : decode cL_law 775 = .ok (.aload_n 0, 1) := by decide +kernel
theorem dL_law_776 : decode cL_law 776 = .ok (.iload_n 3, 1) := by decide +kernel
theorem dL_law_777 : decode cL_law 777 = .ok (.iconst 2, 1) := by decide +kernel
theorem dL_law_778 : decode cL_law 778 = .ok (.iadd, 1) := by decide +kernel
theorem dL_law_779 : decode cL_law 779 = .ok (.iaload, 1) := by decide +kernel
theorem dL_law_780 : decode cL_law 780 = .ok (.aload_n 0, 1) := by decide +kernel
theorem dL_law_781 : decode cL_law 781 = .ok (.iload_n 3, 1) := by decide +kernel
theorem dL_law_782 : decode cL_law 782 = .ok (.iconst 3, 1) := by decide +kernel
theorem dL_law_783 : decode cL_law 783 = .ok (.iadd, 1) := by decide +kernel
theorem dL_law_784 : decode cL_law 784 = .ok (.iaload, 1) := by decide +kernel
theorem dL_law_785 : decode cL_law 785 = .ok (.invokevirtual 101, 3) := by decide +kernel
theorem dL_law_788 : decode cL_law 788 = .ok (.aload_n 2, 1) := by decide +kernel
theorem dL_law_789 : decode cL_law 789 = .ok (.aload_n 0, 1) := by decide +kernel
theorem dL_law_790 : decode cL_law 790 = .ok (.iload_n 3, 1) := by decide +kernel
theorem dL_law_791 : decode cL_law 791 = .ok (.iconst 1, 1) := by decide +kernel
theorem dL_law_792 : decode cL_law 792 = .ok (.iadd, 1) := by decide +kernel
theorem dL_law_793 : decode cL_law 793 = .ok (.iaload, 1) := by decide +kernel
theorem dL_law_794 : decode cL_law 794 = .ok (.aload_n 0, 1) := by decide +kernel
theorem dL_law_795 : decode cL_law 795 = .ok (.iload_n 3, 1) := by decide +kernel
theorem dL_law_796 : decode cL_law 796 = .ok (.iconst 2, 1) := by decide +kernel
theorem dL_law_797 : decode cL_law 797 = .ok (.iadd, 1) := by decide +kernel
theorem dL_law_798 : decode cL_law 798 = .ok (.iaload, 1) := by decide +kernel
theorem dL_law_799 : decode cL_law 799 = .ok (.aload_n 0, 1) := by decide +kernel
theorem dL_law_800 : decode cL_law 800 = .ok (.iload_n 3, 1) := by decide +kernel
theorem dL_law_801 : decode cL_law 801 = .ok (.iconst 3, 1) := by decide +kernel
theorem dL_law_802 : decode cL_law 802 = .ok (.iadd, 1) := by decide +kernel
theorem dL_law_803 : decode cL_law 803 = .ok (.iaload, 1) := by decide +kernel
theorem dL_law_804 : decode cL_law 804 = .ok (.invokevirtual 104, 3) := by decide +kernel
theorem dL_law_807 : decode cL_law 807 = .ok (.if_icmp .eq 512, 3) := by decide +kernel
theorem dL_law_810 : decode cL_law 810 = .ok (.iconst 0, 1) := by decide +kernel
theorem dL_law_811 : decode cL_law 811 = .ok (.ireturn, 1) := by decide +kernel
theorem dL_law_812 : decode cL_law 812 = .ok (.aload_n 1, 1) := by decide +kernel
theorem dL_law_813 : decode cL_law 813 = .ok (.aload_n 0, 1) := by decide +kernel
theorem dL_law_814 : decode cL_law 814 = .ok (.iload_n 3, 1) := by decide +kernel
theorem dL_law_815 : decode cL_law 815 = .ok (.iconst 1, 1) := by decide +kernel
theorem dL_law_816 : decode cL_law 816 = .ok (.iadd, 1) := by decide +kernel
theorem dL_law_817 : decode cL_law 817 = .ok (.iaload, 1) := by decide +kernel
theorem dL_law_818 : decode cL_law 818 = .ok (.aload_n 0, 1) := by decide +kernel
theorem dL_law_819 : decode cL_law 819 = .ok (.iload_n 3, 1) := by decide +kernel
theorem dL_law_820 : decode cL_law 820 = .ok (.iconst 2, 1) := by decide +kernel
theorem dL_law_821 : decode cL_law 821 = .ok (.iadd, 1) := by decide +kernel
theorem dL_law_822 : decode cL_law 822 = .ok (.iaload, 1) := by decide +kernel
theorem dL_law_823 : decode cL_law 823 = .ok (.aload_n 0, 1) := by decide +kernel
theorem dL_law_824 : decode cL_law 824 = .ok (.iload_n 3, 1) := by decide +kernel
theorem dL_law_825 : decode cL_law 825 = .ok (.iconst 3, 1) := by decide +kernel
theorem dL_law_826 : decode cL_law 826 = .ok (.iadd, 1) := by decide +kernel
theorem dL_law_827 : decode cL_law 827 = .ok (.iaload, 1) := by decide +kernel
theorem dL_law_828 : decode cL_law 828 = .ok (.aload_n 0, 1) := by decide +kernel
theorem dL_law_829 : decode cL_law 829 = .ok (.iload_n 3, 1) := by decide +kernel
theorem dL_law_830 : decode cL_law 830 = .ok (.iconst 4, 1) := by decide +kernel
theorem dL_law_831 : decode cL_law 831 = .ok (.iadd, 1) := by decide +kernel
theorem dL_law_832 : decode cL_law 832 = .ok (.iaload, 1) := by decide +kernel
theorem dL_law_833 : decode cL_law 833 = .ok (.aload_n 0, 1) := by decide +kernel
theorem dL_law_834 : decode cL_law 834 = .ok (.iload_n 3, 1) := by decide +kernel
theorem dL_law_835 : decode cL_law 835 = .ok (.iconst 5, 1) := by decide +kernel
theorem dL_law_836 : decode cL_law 836 = .ok (.iadd, 1) := by decide +kernel
theorem dL_law_837 : decode cL_law 837 = .ok (.iaload, 1) := by decide +kernel
theorem dL_law_838 : decode cL_law 838 = .ok (.invokevirtual 105, 3) := by decide +kernel
theorem dL_law_841 : decode cL_law 841 = .ok (.aload_n 2, 1) := by decide +kernel
theorem dL_law_842 : decode cL_law 842 = .ok (.aload_n 0, 1) := by decide +kernel
theorem dL_law_843 : decode cL_law 843 = .ok (.iload_n 3, 1) := by decide +kernel
theorem dL_law_844 : decode cL_law 844 = .ok (.iconst 1, 1) := by decide +kernel
theorem dL_law_845 : decode cL_law 845 = .ok (.iadd, 1) := by decide +kernel
theorem dL_law_846 : decode cL_law 846 = .ok (.iaload, 1) := by decide +kernel
theorem dL_law_847 : decode cL_law 847 = .ok (.aload_n 0, 1) := by decide +kernel
theorem dL_law_848 : decode cL_law 848 = .ok (.iload_n 3, 1) := by decide +kernel
theorem dL_law_849 : decode cL_law 849 = .ok (.iconst 2, 1) := by decide +kernel
theorem dL_law_850 : decode cL_law 850 = .ok (.iadd, 1) := by decide +kernel
theorem dL_law_851 : decode cL_law 851 = .ok (.iaload, 1) := by decide +kernel
theorem dL_law_852 : decode cL_law 852 = .ok (.aload_n 0, 1) := by decide +kernel
theorem dL_law_853 : decode cL_law 853 = .ok (.iload_n 3, 1) := by decide +kernel
theorem dL_law_854 : decode cL_law 854 = .ok (.iconst 3, 1) := by decide +kernel
theorem dL_law_855 : decode cL_law 855 = .ok (.iadd, 1) := by decide +kernel
theorem dL_law_856 : decode cL_law 856 = .ok (.iaload, 1) := by decide +kernel
theorem dL_law_857 : decode cL_law 857 = .ok (.aload_n 0, 1) := by decide +kernel
theorem dL_law_858 : decode cL_law 858 = .ok (.iload_n 3, 1) := by decide +kernel
theorem dL_law_859 : decode cL_law 859 = .ok (.iconst 4, 1) := by decide +kernel
theorem dL_law_860 : decode cL_law 860 = .ok (.iadd, 1) := by decide +kernel
theorem dL_law_861 : decode cL_law 861 = .ok (.iaload, 1) := by decide +kernel
theorem dL_law_862 : decode cL_law 862 = .ok (.aload_n 0, 1) := by decide +kernel
theorem dL_law_863 : decode cL_law 863 = .ok (.iload_n 3, 1) := by decide +kernel
theorem dL_law_864 : decode cL_law 864 = .ok (.iconst 5, 1) := by decide +kernel
theorem dL_law_865 : decode cL_law 865 = .ok (.iadd, 1) := by decide +kernel
theorem dL_law_866 : decode cL_law 866 = .ok (.iaload, 1) := by decide +kernel
theorem dL_law_867 : decode cL_law 867 = .ok (.invokevirtual 109, 3) := by decide +kernel
theorem dL_law_870 : decode cL_law 870 = .ok (.lcmp, 1) := by decide +kernel
theorem dL_law_871 : decode cL_law 871 = .ok (.ifCond .eq 448, 3) := by decide +kernel
theorem dL_law_874 : decode cL_law 874 = .ok (.iconst 0, 1) := by decide +kernel
theorem dL_law_875 : decode cL_law 875 = .ok (.ireturn, 1) := by decide +kernel
theorem dL_law_876 : decode cL_law 876 = .ok (.aload_n 1, 1) := by decide +kernel
theorem dL_law_877 : decode cL_law 877 = .ok (.aload_n 0, 1) := by decide +kernel
theorem dL_law_878 : decode cL_law 878 = .ok (.iload_n 3, 1) := by decide +kernel
theorem dL_law_879 : decode cL_law 879 = .ok (.iconst 1, 1) := by decide +kernel
theorem dL_law_880 : decode cL_law 880 = .ok (.iadd, 1) := by decide +kernel
theorem dL_law_881 : decode cL_law 881 = .ok (.iaload, 1) := by decide +kernel
theorem dL_law_882 : decode cL_law 882 = .ok (.aload_n 0, 1) := by decide +kernel
theorem dL_law_883 : decode cL_law 883 = .ok (.iload_n 3, 1) := by decide +kernel
theorem dL_law_884 : decode cL_law 884 = .ok (.iconst 2, 1) := by decide +kernel
theorem dL_law_885 : decode cL_law 885 = .ok (.iadd, 1) := by decide +kernel
theorem dL_law_886 : decode cL_law 886 = .ok (.iaload, 1) := by decide +kernel
theorem dL_law_887 : decode cL_law 887 = .ok (.aload_n 0, 1) := by decide +kernel
theorem dL_law_888 : decode cL_law 888 = .ok (.iload_n 3, 1) := by decide +kernel
theorem dL_law_889 : decode cL_law 889 = .ok (.iconst 3, 1) := by decide +kernel
theorem dL_law_890 : decode cL_law 890 = .ok (.iadd, 1) := by decide +kernel
theorem dL_law_891 : decode cL_law 891 = .ok (.iaload, 1) := by decide +kernel
theorem dL_law_892 : decode cL_law 892 = .ok (.invokevirtual 110, 3) := by decide +kernel
theorem dL_law_895 : decode cL_law 895 = .ok (.aload_n 2, 1) := by decide +kernel
theorem dL_law_896 : decode cL_law 896 = .ok (.aload_n 0, 1) := by decide +kernel
theorem dL_law_897 : decode cL_law 897 = .ok (.iload_n 3, 1) := by decide +kernel
theorem dL_law_898 : decode cL_law 898 = .ok (.iconst 1, 1) := by decide +kernel
theorem dL_law_899 : decode cL_law 899 = .ok (.iadd, 1) := by decide +kernel
theorem dL_law_900 : decode cL_law 900 = .ok (.iaload, 1) := by decide +kernel
theorem dL_law_901 : decode cL_law 901 = .ok (.aload_n 0, 1) := by decide +kernel
theorem dL_law_902 : decode cL_law 902 = .ok (.iload_n 3, 1) := by decide +kernel
theorem dL_law_903 : decode cL_law 903 = .ok (.iconst 2, 1) := by decide +kernel
theorem dL_law_904 : decode cL_law 904 = .ok (.iadd, 1) := by decide +kernel
theorem dL_law_905 : decode cL_law 905 = .ok (.iaload, 1) := by decide +kernel
theorem dL_law_906 : decode cL_law 906 = .ok (.aload_n 0, 1) := by decide +kernel
theorem dL_law_907 : decode cL_law 907 = .ok (.iload_n 3, 1) := by decide +kernel
theorem dL_law_908 : decode cL_law 908 = .ok (.iconst 3, 1) := by decide +kernel
theorem dL_law_909 : decode cL_law 909 = .ok (.iadd, 1) := by decide +kernel
theorem dL_law_910 : decode cL_law 910 = .ok (.iaload, 1) := by decide +kernel
theorem dL_law_911 : decode cL_law 911 = .ok (.invokevirtual 114, 3) := by decide +kernel
theorem dL_law_914 : decode cL_law 914 = .ok (.lcmp, 1) := by decide +kernel
theorem dL_law_915 : decode cL_law 915 = .ok (.ifCond .eq 404, 3) := by decide +kernel
theorem dL_law_918 : decode cL_law 918 = .ok (.iconst 0, 1) := by decide +kernel
theorem dL_law_919 : decode cL_law 919 = .ok (.ireturn, 1) := by decide +kernel
theorem dL_law_920 : decode cL_law 920 = .ok (.aload_n 1, 1) := by decide +kernel
theorem dL_law_921 : decode cL_law 921 = .ok (.aload_n 0, 1) := by decide +kernel
theorem dL_law_922 : decode cL_law 922 = .ok (.iload_n 3, 1) := by decide +kernel
theorem dL_law_923 : decode cL_law 923 = .ok (.iconst 1, 1) := by decide +kernel
theorem dL_law_924 : decode cL_law 924 = .ok (.iadd, 1) := by decide +kernel
theorem dL_law_925 : decode cL_law 925 = .ok (.iaload, 1) := by decide +kernel
theorem dL_law_926 : decode cL_law 926 = .ok (.aload_n 0, 1) := by decide +kernel
theorem dL_law_927 : decode cL_law 927 = .ok (.iload_n 3, 1) := by decide +kernel
theorem dL_law_928 : decode cL_law 928 = .ok (.iconst 2, 1) := by decide +kernel
theorem dL_law_929 : decode cL_law 929 = .ok (.iadd, 1) := by decide +kernel
theorem dL_law_930 : decode cL_law 930 = .ok (.iaload, 1) := by decide +kernel
theorem dL_law_931 : decode cL_law 931 = .ok (.invokevirtual 115, 3) := by decide +kernel
theorem dL_law_934 : decode cL_law 934 = .ok (.aload_n 2, 1) := by decide +kernel
theorem dL_law_935 : decode cL_law 935 = .ok (.aload_n 0, 1) := by decide +kernel
theorem dL_law_936 : decode cL_law 936 = .ok (.iload_n 3, 1) := by decide +kernel
theorem dL_law_937 : decode cL_law 937 = .ok (.iconst 1, 1) := by decide +kernel
theorem dL_law_938 : decode cL_law 938 = .ok (.iadd, 1) := by decide +kernel
theorem dL_law_939 : decode cL_law 939 = .ok (.iaload, 1) := by decide +kernel
theorem dL_law_940 : decode cL_law 940 = .ok (.aload_n 0, 1) := by decide +kernel
theorem dL_law_941 : decode cL_law 941 = .ok (.iload_n 3, 1) := by decide +kernel
theorem dL_law_942 : decode cL_law 942 = .ok (.iconst 2, 1) := by decide +kernel
theorem dL_law_943 : decode cL_law 943 = .ok (.iadd, 1) := by decide +kernel
theorem dL_law_944 : decode cL_law 944 = .ok (.iaload, 1) := by decide +kernel
theorem dL_law_945 : decode cL_law 945 = .ok (.invokevirtual 118, 3) := by decide +kernel
theorem dL_law_948 : decode cL_law 948 = .ok (.if_icmp .eq 371, 3) := by decide +kernel
theorem dL_law_951 : decode cL_law 951 = .ok (.iconst 0, 1) := by decide +kernel
theorem dL_law_952 : decode cL_law 952 = .ok (.ireturn, 1) := by decide +kernel
theorem dL_law_953 : decode cL_law 953 = .ok (.aload_n 1, 1) := by decide +kernel
theorem dL_law_954 : decode cL_law 954 = .ok (.aload_n 0, 1) := by decide +kernel
theorem dL_law_955 : decode cL_law 955 = .ok (.iload_n 3, 1) := by decide +kernel
theorem dL_law_956 : decode cL_law 956 = .ok (.iconst 1, 1) := by decide +kernel
theorem dL_law_957 : decode cL_law 957 = .ok (.iadd, 1) := by decide +kernel
theorem dL_law_958 : decode cL_law 958 = .ok (.iaload, 1) := by decide +kernel
theorem dL_law_959 : decode cL_law 959 = .ok (.invokevirtual 119, 3) := by decide +kernel
theorem dL_law_962 : decode cL_law 962 = .ok (.aload_n 2, 1) := by decide +kernel
theorem dL_law_963 : decode cL_law 963 = .ok (.aload_n 0, 1) := by decide +kernel
theorem dL_law_964 : decode cL_law 964 = .ok (.iload_n 3, 1) := by decide +kernel
theorem dL_law_965 : decode cL_law 965 = .ok (.iconst 1, 1) := by decide +kernel
theorem dL_law_966 : decode cL_law 966 = .ok (.iadd, 1) := by decide +kernel
theorem dL_law_967 : decode cL_law 967 = .ok (.iaload, 1) := by decide +kernel
theorem dL_law_968 : decode cL_law 968 = .ok (.invokevirtual 122, 3) := by decide +kernel
theorem dL_law_971 : decode cL_law 971 = .ok (.if_icmp .eq 348, 3) := by decide +kernel
theorem dL_law_974 : decode cL_law 974 = .ok (.iconst 0, 1) := by decide +kernel
theorem dL_law_975 : decode cL_law 975 = .ok (.ireturn, 1) := by decide +kernel
theorem dL_law_976 : decode cL_law 976 = .ok (.aload_n 1, 1) := by decide +kernel
theorem dL_law_977 : decode cL_law 977 = .ok (.aload_n 0, 1) := by decide +kernel
theorem dL_law_978 : decode cL_law 978 = .ok (.iload_n 3, 1) := by decide +kernel
theorem dL_law_979 : decode cL_law 979 = .ok (.iconst 1, 1) := by decide +kernel
theorem dL_law_980 : decode cL_law 980 = .ok (.iadd, 1) := by decide +kernel
theorem dL_law_981 : decode cL_law 981 = .ok (.iaload, 1) := by decide +kernel
theorem dL_law_982 : decode cL_law 982 = .ok (.invokevirtual 123, 3) := by decide +kernel
theorem dL_law_985 : decode cL_law 985 = .ok (.aload_n 2, 1) := by decide +kernel
theorem dL_law_986 : decode cL_law 986 = .ok (.aload_n 0, 1) := by decide +kernel
theorem dL_law_987 : decode cL_law 987 = .ok (.iload_n 3, 1) := by decide +kernel
theorem dL_law_988 : decode cL_law 988 = .ok (.iconst 1, 1) := by decide +kernel
theorem dL_law_989 : decode cL_law 989 = .ok (.iadd, 1) := by decide +kernel
theorem dL_law_990 : decode cL_law 990 = .ok (.iaload, 1) := by decide +kernel
theorem dL_law_991 : decode cL_law 991 = .ok (.invokevirtual 126, 3) := by decide +kernel
theorem dL_law_994 : decode cL_law 994 = .ok (.if_icmp .eq 325, 3) := by decide +kernel
theorem dL_law_997 : decode cL_law 997 = .ok (.iconst 0, 1) := by decide +kernel
theorem dL_law_998 : decode cL_law 998 = .ok (.ireturn, 1) := by decide +kernel
theorem dL_law_999 : decode cL_law 999 = .ok (.aload_n 1, 1) := by decide +kernel
theorem dL_law_1000 : decode cL_law 1000 = .ok (.aload_n 0, 1) := by decide +kernel
theorem dL_law_1001 : decode cL_law 1001 = .ok (.iload_n 3, 1) := by decide +kernel
theorem dL_law_1002 : decode cL_law 1002 = .ok (.iconst 1, 1) := by decide +kernel
theorem dL_law_1003 : decode cL_law 1003 = .ok (.iadd, 1) := by decide +kernel
theorem dL_law_1004 : decode cL_law 1004 = .ok (.iaload, 1) := by decide +kernel
theorem dL_law_1005 : decode cL_law 1005 = .ok (.invokevirtual 127, 3) := by decide +kernel
theorem dL_law_1008 : decode cL_law 1008 = .ok (.aload_n 2, 1) := by decide +kernel
theorem dL_law_1009 : decode cL_law 1009 = .ok (.aload_n 0, 1) := by decide +kernel
theorem dL_law_1010 : decode cL_law 1010 = .ok (.iload_n 3, 1) := by decide +kernel
theorem dL_law_1011 : decode cL_law 1011 = .ok (.iconst 1, 1) := by decide +kernel
theorem dL_law_1012 : decode cL_law 1012 = .ok (.iadd, 1) := by decide +kernel
theorem dL_law_1013 : decode cL_law 1013 = .ok (.iaload, 1) := by decide +kernel
theorem dL_law_1014 : decode cL_law 1014 = .ok (.invokevirtual 130, 3) := by decide +kernel
theorem dL_law_1017 : decode cL_law 1017 = .ok (.if_icmp .eq 302, 3) := by decide +kernel
theorem dL_law_1020 : decode cL_law 1020 = .ok (.iconst 0, 1) := by decide +kernel
theorem dL_law_1021 : decode cL_law 1021 = .ok (.ireturn, 1) := by decide +kernel
theorem dL_law_1022 : decode cL_law 1022 = .ok (.aload_n 1, 1) := by decide +kernel
theorem dL_law_1023 : decode cL_law 1023 = .ok (.aload_n 0, 1) := by decide +kernel
theorem dL_law_1024 : decode cL_law 1024 = .ok (.iload_n 3, 1) := by decide +kernel
theorem dL_law_1025 : decode cL_law 1025 = .ok (.iconst 1, 1) := by decide +kernel
theorem dL_law_1026 : decode cL_law 1026 = .ok (.iadd, 1) := by decide +kernel
theorem dL_law_1027 : decode cL_law 1027 = .ok (.iaload, 1) := by decide +kernel
theorem dL_law_1028 : decode cL_law 1028 = .ok (.aload_n 0, 1) := by decide +kernel
theorem dL_law_1029 : decode cL_law 1029 = .ok (.iload_n 3, 1) := by decide +kernel
theorem dL_law_1030 : decode cL_law 1030 = .ok (.iconst 2, 1) := by decide +kernel
theorem dL_law_1031 : decode cL_law 1031 = .ok (.iadd, 1) := by decide +kernel
theorem dL_law_1032 : decode cL_law 1032 = .ok (.iaload, 1) := by decide +kernel
theorem dL_law_1033 : decode cL_law 1033 = .ok (.invokevirtual 131, 3) := by decide +kernel
theorem dL_law_1036 : decode cL_law 1036 = .ok (.aload_n 2, 1) := by decide +kernel
theorem dL_law_1037 : decode cL_law 1037 = .ok (.aload_n 0, 1) := by decide +kernel
theorem dL_law_1038 : decode cL_law 1038 = .ok (.iload_n 3, 1) := by decide +kernel
theorem dL_law_1039 : decode cL_law 1039 = .ok (.iconst 1, 1) := by decide +kernel
theorem dL_law_1040 : decode cL_law 1040 = .ok (.iadd, 1) := by decide +kernel
theorem dL_law_1041 : decode cL_law 1041 = .ok (.iaload, 1) := by decide +kernel
theorem dL_law_1042 : decode cL_law 1042 = .ok (.aload_n 0, 1) := by decide +kernel
theorem dL_law_1043 : decode cL_law 1043 = .ok (.iload_n 3, 1) := by decide +kernel
theorem dL_law_1044 : decode cL_law 1044 = .ok (.iconst 2, 1) := by decide +kernel
theorem dL_law_1045 : decode cL_law 1045 = .ok (.iadd, 1) := by decide +kernel
theorem dL_law_1046 : decode cL_law 1046 = .ok (.iaload, 1) := by decide +kernel
theorem dL_law_1047 : decode cL_law 1047 = .ok (.invokevirtual 134, 3) := by decide +kernel
theorem dL_law_1050 : decode cL_law 1050 = .ok (.if_icmp .eq 269, 3) := by decide +kernel
theorem dL_law_1053 : decode cL_law 1053 = .ok (.iconst 0, 1) := by decide +kernel
theorem dL_law_1054 : decode cL_law 1054 = .ok (.ireturn, 1) := by decide +kernel
theorem dL_law_1055 : decode cL_law 1055 = .ok (.aload_n 1, 1) := by decide +kernel
theorem dL_law_1056 : decode cL_law 1056 = .ok (.aload_n 0, 1) := by decide +kernel
theorem dL_law_1057 : decode cL_law 1057 = .ok (.iload_n 3, 1) := by decide +kernel
theorem dL_law_1058 : decode cL_law 1058 = .ok (.iconst 1, 1) := by decide +kernel
theorem dL_law_1059 : decode cL_law 1059 = .ok (.iadd, 1) := by decide +kernel
theorem dL_law_1060 : decode cL_law 1060 = .ok (.iaload, 1) := by decide +kernel
theorem dL_law_1061 : decode cL_law 1061 = .ok (.aload_n 0, 1) := by decide +kernel
theorem dL_law_1062 : decode cL_law 1062 = .ok (.iload_n 3, 1) := by decide +kernel
theorem dL_law_1063 : decode cL_law 1063 = .ok (.iconst 2, 1) := by decide +kernel
theorem dL_law_1064 : decode cL_law 1064 = .ok (.iadd, 1) := by decide +kernel
theorem dL_law_1065 : decode cL_law 1065 = .ok (.iaload, 1) := by decide +kernel
theorem dL_law_1066 : decode cL_law 1066 = .ok (.aload_n 0, 1) := by decide +kernel
theorem dL_law_1067 : decode cL_law 1067 = .ok (.iload_n 3, 1) := by decide +kernel
theorem dL_law_1068 : decode cL_law 1068 = .ok (.iconst 3, 1) := by decide +kernel
theorem dL_law_1069 : decode cL_law 1069 = .ok (.iadd, 1) := by decide +kernel
theorem dL_law_1070 : decode cL_law 1070 = .ok (.iaload, 1) := by decide +kernel
theorem dL_law_1071 : decode cL_law 1071 = .ok (.invokevirtual 135, 3) := by decide +kernel
theorem dL_law_1074 : decode cL_law 1074 = .ok (.aload_n 2, 1) := by decide +kernel
theorem dL_law_1075 : decode cL_law 1075 = .ok (.aload_n 0, 1) := by decide +kernel
theorem dL_law_1076 : decode cL_law 1076 = .ok (.iload_n 3, 1) := by decide +kernel
theorem dL_law_1077 : decode cL_law 1077 = .ok (.iconst 1, 1) := by decide +kernel
theorem dL_law_1078 : decode cL_law 1078 = .ok (.iadd, 1) := by decide +kernel
theorem dL_law_1079 : decode cL_law 1079 = .ok (.iaload, 1) := by decide +kernel
theorem dL_law_1080 : decode cL_law 1080 = .ok (.aload_n 0, 1) := by decide +kernel
theorem dL_law_1081 : decode cL_law 1081 = .ok (.iload_n 3, 1) := by decide +kernel
theorem dL_law_1082 : decode cL_law 1082 = .ok (.iconst 2, 1) := by decide +kernel
theorem dL_law_1083 : decode cL_law 1083 = .ok (.iadd, 1) := by decide +kernel
theorem dL_law_1084 : decode cL_law 1084 = .ok (.iaload, 1) := by decide +kernel
theorem dL_law_1085 : decode cL_law 1085 = .ok (.aload_n 0, 1) := by decide +kernel
theorem dL_law_1086 : decode cL_law 1086 = .ok (.iload_n 3, 1) := by decide +kernel
theorem dL_law_1087 : decode cL_law 1087 = .ok (.iconst 3, 1) := by decide +kernel
theorem dL_law_1088 : decode cL_law 1088 = .ok (.iadd, 1) := by decide +kernel
theorem dL_law_1089 : decode cL_law 1089 = .ok (.iaload, 1) := by decide +kernel
theorem dL_law_1090 : decode cL_law 1090 = .ok (.invokevirtual 138, 3) := by decide +kernel
theorem dL_law_1093 : decode cL_law 1093 = .ok (.if_icmp .eq 226, 3) := by decide +kernel
theorem dL_law_1096 : decode cL_law 1096 = .ok (.iconst 0, 1) := by decide +kernel
theorem dL_law_1097 : decode cL_law 1097 = .ok (.ireturn, 1) := by decide +kernel
theorem dL_law_1098 : decode cL_law 1098 = .ok (.aload_n 1, 1) := by decide +kernel
theorem dL_law_1099 : decode cL_law 1099 = .ok (.aload_n 0, 1) := by decide +kernel
theorem dL_law_1100 : decode cL_law 1100 = .ok (.iload_n 3, 1) := by decide +kernel
theorem dL_law_1101 : decode cL_law 1101 = .ok (.iconst 1, 1) := by decide +kernel
theorem dL_law_1102 : decode cL_law 1102 = .ok (.iadd, 1) := by decide +kernel
theorem dL_law_1103 : decode cL_law 1103 = .ok (.iaload, 1) := by decide +kernel
theorem dL_law_1104 : decode cL_law 1104 = .ok (.invokevirtual 139, 3) := by decide +kernel
theorem dL_law_1107 : decode cL_law 1107 = .ok (.aload_n 2, 1) := by decide +kernel
theorem dL_law_1108 : decode cL_law 1108 = .ok (.aload_n 0, 1) := by decide +kernel
theorem dL_law_1109 : decode cL_law 1109 = .ok (.iload_n 3, 1) := by decide +kernel
theorem dL_law_1110 : decode cL_law 1110 = .ok (.iconst 1, 1) := by decide +kernel
theorem dL_law_1111 : decode cL_law 1111 = .ok (.iadd, 1) := by decide +kernel
theorem dL_law_1112 : decode cL_law 1112 = .ok (.iaload, 1) := by decide +kernel
theorem dL_law_1113 : decode cL_law 1113 = .ok (.invokevirtual 142, 3) := by decide +kernel
theorem dL_law_1116 : decode cL_law 1116 = .ok (.if_icmp .eq 203, 3) := by decide +kernel
theorem dL_law_1119 : decode cL_law 1119 = .ok (.iconst 0, 1) := by decide +kernel
theorem dL_law_1120 : decode cL_law 1120 = .ok (.ireturn, 1) := by decide +kernel
theorem dL_law_1121 : decode cL_law 1121 = .ok (.aload_n 1, 1) := by decide +kernel
theorem dL_law_1122 : decode cL_law 1122 = .ok (.aload_n 0, 1) := by decide +kernel
theorem dL_law_1123 : decode cL_law 1123 = .ok (.iload_n 3, 1) := by decide +kernel
theorem dL_law_1124 : decode cL_law 1124 = .ok (.iconst 1, 1) := by decide +kernel
theorem dL_law_1125 : decode cL_law 1125 = .ok (.iadd, 1) := by decide +kernel
theorem dL_law_1126 : decode cL_law 1126 = .ok (.iaload, 1) := by decide +kernel
theorem dL_law_1127 : decode cL_law 1127 = .ok (.invokevirtual 143, 3) := by decide +kernel
theorem dL_law_1130 : decode cL_law 1130 = .ok (.aload_n 2, 1) := by decide +kernel
theorem dL_law_1131 : decode cL_law 1131 = .ok (.aload_n 0, 1) := by decide +kernel
theorem dL_law_1132 : decode cL_law 1132 = .ok (.iload_n 3, 1) := by decide +kernel
theorem dL_law_1133 : decode cL_law 1133 = .ok (.iconst 1, 1) := by decide +kernel
theorem dL_law_1134 : decode cL_law 1134 = .ok (.iadd, 1) := by decide +kernel
theorem dL_law_1135 : decode cL_law 1135 = .ok (.iaload, 1) := by decide +kernel
theorem dL_law_1136 : decode cL_law 1136 = .ok (.invokevirtual 146, 3) := by decide +kernel
theorem dL_law_1139 : decode cL_law 1139 = .ok (.if_icmp .eq 180, 3) := by decide +kernel
theorem dL_law_1142 : decode cL_law 1142 = .ok (.iconst 0, 1) := by decide +kernel
theorem dL_law_1143 : decode cL_law 1143 = .ok (.ireturn, 1) := by decide +kernel
theorem dL_law_1144 : decode cL_law 1144 = .ok (.aload_n 1, 1) := by decide +kernel
theorem dL_law_1145 : decode cL_law 1145 = .ok (.aload_n 0, 1) := by decide +kernel
theorem dL_law_1146 : decode cL_law 1146 = .ok (.iload_n 3, 1) := by decide +kernel
theorem dL_law_1147 : decode cL_law 1147 = .ok (.iconst 1, 1) := by decide +kernel
theorem dL_law_1148 : decode cL_law 1148 = .ok (.iadd, 1) := by decide +kernel
theorem dL_law_1149 : decode cL_law 1149 = .ok (.iaload, 1) := by decide +kernel
theorem dL_law_1150 : decode cL_law 1150 = .ok (.aload_n 0, 1) := by decide +kernel
theorem dL_law_1151 : decode cL_law 1151 = .ok (.iload_n 3, 1) := by decide +kernel
theorem dL_law_1152 : decode cL_law 1152 = .ok (.iconst 2, 1) := by decide +kernel
theorem dL_law_1153 : decode cL_law 1153 = .ok (.iadd, 1) := by decide +kernel
theorem dL_law_1154 : decode cL_law 1154 = .ok (.iaload, 1) := by decide +kernel
theorem dL_law_1155 : decode cL_law 1155 = .ok (.aload_n 0, 1) := by decide +kernel
theorem dL_law_1156 : decode cL_law 1156 = .ok (.iload_n 3, 1) := by decide +kernel
theorem dL_law_1157 : decode cL_law 1157 = .ok (.iconst 3, 1) := by decide +kernel
theorem dL_law_1158 : decode cL_law 1158 = .ok (.iadd, 1) := by decide +kernel
theorem dL_law_1159 : decode cL_law 1159 = .ok (.iaload, 1) := by decide +kernel
theorem dL_law_1160 : decode cL_law 1160 = .ok (.invokevirtual 147, 3) := by decide +kernel
theorem dL_law_1163 : decode cL_law 1163 = .ok (.aload_n 2, 1) := by decide +kernel
theorem dL_law_1164 : decode cL_law 1164 = .ok (.aload_n 0, 1) := by decide +kernel
theorem dL_law_1165 : decode cL_law 1165 = .ok (.iload_n 3, 1) := by decide +kernel
theorem dL_law_1166 : decode cL_law 1166 = .ok (.iconst 1, 1) := by decide +kernel
theorem dL_law_1167 : decode cL_law 1167 = .ok (.iadd, 1) := by decide +kernel
theorem dL_law_1168 : decode cL_law 1168 = .ok (.iaload, 1) := by decide +kernel
theorem dL_law_1169 : decode cL_law 1169 = .ok (.aload_n 0, 1) := by decide +kernel
theorem dL_law_1170 : decode cL_law 1170 = .ok (.iload_n 3, 1) := by decide +kernel
theorem dL_law_1171 : decode cL_law 1171 = .ok (.iconst 2, 1) := by decide +kernel
theorem dL_law_1172 : decode cL_law 1172 = .ok (.iadd, 1) := by decide +kernel
theorem dL_law_1173 : decode cL_law 1173 = .ok (.iaload, 1) := by decide +kernel
theorem dL_law_1174 : decode cL_law 1174 = .ok (.aload_n 0, 1) := by decide +kernel
theorem dL_law_1175 : decode cL_law 1175 = .ok (.iload_n 3, 1) := by decide +kernel
theorem dL_law_1176 : decode cL_law 1176 = .ok (.iconst 3, 1) := by decide +kernel
theorem dL_law_1177 : decode cL_law 1177 = .ok (.iadd, 1) := by decide +kernel
theorem dL_law_1178 : decode cL_law 1178 = .ok (.iaload, 1) := by decide +kernel
theorem dL_law_1179 : decode cL_law 1179 = .ok (.invokevirtual 150, 3) := by decide +kernel
theorem dL_law_1182 : decode cL_law 1182 = .ok (.if_icmp .eq 137, 3) := by decide +kernel
theorem dL_law_1185 : decode cL_law 1185 = .ok (.iconst 0, 1) := by decide +kernel
theorem dL_law_1186 : decode cL_law 1186 = .ok (.ireturn, 1) := by decide +kernel
theorem dL_law_1187 : decode cL_law 1187 = .ok (.aload_n 1, 1) := by decide +kernel
theorem dL_law_1188 : decode cL_law 1188 = .ok (.aload_n 0, 1) := by decide +kernel
theorem dL_law_1189 : decode cL_law 1189 = .ok (.iload_n 3, 1) := by decide +kernel
theorem dL_law_1190 : decode cL_law 1190 = .ok (.iconst 1, 1) := by decide +kernel
theorem dL_law_1191 : decode cL_law 1191 = .ok (.iadd, 1) := by decide +kernel
theorem dL_law_1192 : decode cL_law 1192 = .ok (.iaload, 1) := by decide +kernel
theorem dL_law_1193 : decode cL_law 1193 = .ok (.aload_n 0, 1) := by decide +kernel
theorem dL_law_1194 : decode cL_law 1194 = .ok (.iload_n 3, 1) := by decide +kernel
theorem dL_law_1195 : decode cL_law 1195 = .ok (.iconst 2, 1) := by decide +kernel
theorem dL_law_1196 : decode cL_law 1196 = .ok (.iadd, 1) := by decide +kernel
theorem dL_law_1197 : decode cL_law 1197 = .ok (.iaload, 1) := by decide +kernel
theorem dL_law_1198 : decode cL_law 1198 = .ok (.aload_n 0, 1) := by decide +kernel
theorem dL_law_1199 : decode cL_law 1199 = .ok (.iload_n 3, 1) := by decide +kernel
theorem dL_law_1200 : decode cL_law 1200 = .ok (.iconst 3, 1) := by decide +kernel
theorem dL_law_1201 : decode cL_law 1201 = .ok (.iadd, 1) := by decide +kernel
theorem dL_law_1202 : decode cL_law 1202 = .ok (.iaload, 1) := by decide +kernel
theorem dL_law_1203 : decode cL_law 1203 = .ok (.invokevirtual 151, 3) := by decide +kernel
theorem dL_law_1206 : decode cL_law 1206 = .ok (.aload_n 2, 1) := by decide +kernel
theorem dL_law_1207 : decode cL_law 1207 = .ok (.aload_n 0, 1) := by decide +kernel
theorem dL_law_1208 : decode cL_law 1208 = .ok (.iload_n 3, 1) := by decide +kernel
theorem dL_law_1209 : decode cL_law 1209 = .ok (.iconst 1, 1) := by decide +kernel
theorem dL_law_1210 : decode cL_law 1210 = .ok (.iadd, 1) := by decide +kernel
theorem dL_law_1211 : decode cL_law 1211 = .ok (.iaload, 1) := by decide +kernel
theorem dL_law_1212 : decode cL_law 1212 = .ok (.aload_n 0, 1) := by decide +kernel
theorem dL_law_1213 : decode cL_law 1213 = .ok (.iload_n 3, 1) := by decide +kernel
theorem dL_law_1214 : decode cL_law 1214 = .ok (.iconst 2, 1) := by decide +kernel
theorem dL_law_1215 : decode cL_law 1215 = .ok (.iadd, 1) := by decide +kernel
theorem dL_law_1216 : decode cL_law 1216 = .ok (.iaload, 1) := by decide +kernel
theorem dL_law_1217 : decode cL_law 1217 = .ok (.aload_n 0, 1) := by decide +kernel
theorem dL_law_1218 : decode cL_law 1218 = .ok (.iload_n 3, 1) := by decide +kernel
theorem dL_law_1219 : decode cL_law 1219 = .ok (.iconst 3, 1) := by decide +kernel
theorem dL_law_1220 : decode cL_law 1220 = .ok (.iadd, 1) := by decide +kernel
theorem dL_law_1221 : decode cL_law 1221 = .ok (.iaload, 1) := by decide +kernel
theorem dL_law_1222 : decode cL_law 1222 = .ok (.invokevirtual 154, 3) := by decide +kernel
theorem dL_law_1225 : decode cL_law 1225 = .ok (.if_icmp .eq 94, 3) := by decide +kernel
theorem dL_law_1228 : decode cL_law 1228 = .ok (.iconst 0, 1) := by decide +kernel
theorem dL_law_1229 : decode cL_law 1229 = .ok (.ireturn, 1) := by decide +kernel
theorem dL_law_1230 : decode cL_law 1230 = .ok (.aload_n 1, 1) := by decide +kernel
theorem dL_law_1231 : decode cL_law 1231 = .ok (.aload_n 0, 1) := by decide +kernel
theorem dL_law_1232 : decode cL_law 1232 = .ok (.iload_n 3, 1) := by decide +kernel
theorem dL_law_1233 : decode cL_law 1233 = .ok (.iconst 1, 1) := by decide +kernel
theorem dL_law_1234 : decode cL_law 1234 = .ok (.iadd, 1) := by decide +kernel
theorem dL_law_1235 : decode cL_law 1235 = .ok (.iaload, 1) := by decide +kernel
theorem dL_law_1236 : decode cL_law 1236 = .ok (.aload_n 0, 1) := by decide +kernel
theorem dL_law_1237 : decode cL_law 1237 = .ok (.iload_n 3, 1) := by decide +kernel
theorem dL_law_1238 : decode cL_law 1238 = .ok (.iconst 2, 1) := by decide +kernel
theorem dL_law_1239 : decode cL_law 1239 = .ok (.iadd, 1) := by decide +kernel
theorem dL_law_1240 : decode cL_law 1240 = .ok (.iaload, 1) := by decide +kernel
theorem dL_law_1241 : decode cL_law 1241 = .ok (.aload_n 0, 1) := by decide +kernel
theorem dL_law_1242 : decode cL_law 1242 = .ok (.iload_n 3, 1) := by decide +kernel
theorem dL_law_1243 : decode cL_law 1243 = .ok (.iconst 3, 1) := by decide +kernel
theorem dL_law_1244 : decode cL_law 1244 = .ok (.iadd, 1) := by decide +kernel
theorem dL_law_1245 : decode cL_law 1245 = .ok (.iaload, 1) := by decide +kernel
theorem dL_law_1246 : decode cL_law 1246 = .ok (.aload_n 0, 1) := by decide +kernel
theorem dL_law_1247 : decode cL_law 1247 = .ok (.iload_n 3, 1) := by decide +kernel
theorem dL_law_1248 : decode cL_law 1248 = .ok (.iconst 4, 1) := by decide +kernel
theorem dL_law_1249 : decode cL_law 1249 = .ok (.iadd, 1) := by decide +kernel
theorem dL_law_1250 : decode cL_law 1250 = .ok (.iaload, 1) := by decide +kernel
theorem dL_law_1251 : decode cL_law 1251 = .ok (.invokevirtual 155, 3) := by decide +kernel
theorem dL_law_1254 : decode cL_law 1254 = .ok (.aload_n 2, 1) := by decide +kernel
theorem dL_law_1255 : decode cL_law 1255 = .ok (.aload_n 0, 1) := by decide +kernel
theorem dL_law_1256 : decode cL_law 1256 = .ok (.iload_n 3, 1) := by decide +kernel
theorem dL_law_1257 : decode cL_law 1257 = .ok (.iconst 1, 1) := by decide +kernel
theorem dL_law_1258 : decode cL_law 1258 = .ok (.iadd, 1) := by decide +kernel
theorem dL_law_1259 : decode cL_law 1259 = .ok (.iaload, 1) := by decide +kernel
theorem dL_law_1260 : decode cL_law 1260 = .ok (.aload_n 0, 1) := by decide +kernel
theorem dL_law_1261 : decode cL_law 1261 = .ok (.iload_n 3, 1) := by decide +kernel
theorem dL_law_1262 : decode cL_law 1262 = .ok (.iconst 2, 1) := by decide +kernel
theorem dL_law_1263 : decode cL_law 1263 = .ok (.iadd, 1) := by decide +kernel
theorem dL_law_1264 : decode cL_law 1264 = .ok (.iaload, 1) := by decide +kernel
theorem dL_law_1265 : decode cL_law 1265 = .ok (.aload_n 0, 1) := by decide +kernel
theorem dL_law_1266 : decode cL_law 1266 = .ok (.iload_n 3, 1) := by decide +kernel
theorem dL_law_1267 : decode cL_law 1267 = .ok (.iconst 3, 1) := by decide +kernel
theorem dL_law_1268 : decode cL_law 1268 = .ok (.iadd, 1) := by decide +kernel
theorem dL_law_1269 : decode cL_law 1269 = .ok (.iaload, 1) := by decide +kernel
theorem dL_law_1270 : decode cL_law 1270 = .ok (.aload_n 0, 1) := by decide +kernel
theorem dL_law_1271 : decode cL_law 1271 = .ok (.iload_n 3, 1) := by decide +kernel
theorem dL_law_1272 : decode cL_law 1272 = .ok (.iconst 4, 1) := by decide +kernel
theorem dL_law_1273 : decode cL_law 1273 = .ok (.iadd, 1) := by decide +kernel
theorem dL_law_1274 : decode cL_law 1274 = .ok (.iaload, 1) := by decide +kernel
theorem dL_law_1275 : decode cL_law 1275 = .ok (.invokevirtual 159, 3) := by decide +kernel
theorem dL_law_1278 : decode cL_law 1278 = .ok (.if_icmp .eq 41, 3) := by decide +kernel
theorem dL_law_1281 : decode cL_law 1281 = .ok (.iconst 0, 1) := by decide +kernel
theorem dL_law_1282 : decode cL_law 1282 = .ok (.ireturn, 1) := by decide +kernel
theorem dL_law_1283 : decode cL_law 1283 = .ok (.aload_n 1, 1) := by decide +kernel
theorem dL_law_1284 : decode cL_law 1284 = .ok (.invokevirtual 160, 3) := by decide +kernel
theorem dL_law_1287 : decode cL_law 1287 = .ok (.aload_n 2, 1) := by decide +kernel
theorem dL_law_1288 : decode cL_law 1288 = .ok (.invokevirtual 163, 3) := by decide +kernel
theorem dL_law_1291 : decode cL_law 1291 = .ok (.if_icmp .eq 28, 3) := by decide +kernel
theorem dL_law_1294 : decode cL_law 1294 = .ok (.iconst 0, 1) := by decide +kernel
theorem dL_law_1295 : decode cL_law 1295 = .ok (.ireturn, 1) := by decide +kernel
theorem dL_law_1296 : decode cL_law 1296 = .ok (.aload_n 1, 1) := by decide +kernel
theorem dL_law_1297 : decode cL_law 1297 = .ok (.aload_n 0, 1) := by decide +kernel
theorem dL_law_1298 : decode cL_law 1298 = .ok (.iload_n 3, 1) := by decide +kernel
theorem dL_law_1299 : decode cL_law 1299 = .ok (.iconst 1, 1) := by decide +kernel
theorem dL_law_1300 : decode cL_law 1300 = .ok (.iadd, 1) := by decide +kernel
theorem dL_law_1301 : decode cL_law 1301 = .ok (.iaload, 1) := by decide +kernel
theorem dL_law_1302 : decode cL_law 1302 = .ok (.invokevirtual 164, 3) := by decide +kernel
theorem dL_law_1305 : decode cL_law 1305 = .ok (.aload_n 2, 1) := by decide +kernel
theorem dL_law_1306 : decode cL_law 1306 = .ok (.aload_n 0, 1) := by decide +kernel
theorem dL_law_1307 : decode cL_law 1307 = .ok (.iload_n 3, 1) := by decide +kernel
theorem dL_law_1308 : decode cL_law 1308 = .ok (.iconst 1, 1) := by decide +kernel
theorem dL_law_1309 : decode cL_law 1309 = .ok (.iadd, 1) := by decide +kernel
theorem dL_law_1310 : decode cL_law 1310 = .ok (.iaload, 1) := by decide +kernel
theorem dL_law_1311 : decode cL_law 1311 = .ok (.invokevirtual 167, 3) := by decide +kernel
theorem dL_law_1314 : decode cL_law 1314 = .ok (.if_icmp .eq 5, 3) := by decide +kernel
theorem dL_law_1317 : decode cL_law 1317 = .ok (.iconst 0, 1) := by decide +kernel
theorem dL_law_1318 : decode cL_law 1318 = .ok (.ireturn, 1) := by decide +kernel
theorem dL_law_1319 : decode cL_law 1319 = .ok (.iinc 3 6, 3) := by decide +kernel
theorem dL_law_1322 : decode cL_law 1322 = .ok (.goto (-1304), 3) := by decide +kernel
theorem dL_law_1325 : decode cL_law 1325 = .ok (.iconst 1, 1) := by decide +kernel
theorem dL_law_1326 : decode cL_law 1326 = .ok (.ireturn, 1) := by decide +kernel
end
section
theorem dJ9_abs_0f7a4_0 : decode cJ9_abs_0f7a4 0 = .ok (.iload_n 0, 1) := by decide +kernel
theorem dJ9_abs_0f7a4_1 : decode cJ9_abs_0f7a4 1 = .ok (.ifCond .ge 8, 3) := by decide +kernel
theorem dJ9_abs_0f7a4_4 : decode cJ9_abs_0f7a4 4 = .ok (.iload_n 0, 1) := by decide +kernel
theorem dJ9_abs_0f7a4_5 : decode cJ9_abs_0f7a4 5 = .ok (.ineg, 1) := by decide +kernel
theorem dJ9_abs_0f7a4_6 : decode cJ9_abs_0f7a4 6 = .ok (.goto 4, 3) := by decide +kernel
theorem dJ9_abs_0f7a4_9 : decode cJ9_abs_0f7a4 9 = .ok (.iload_n 0, 1) := by decide +kernel
theorem dJ9_abs_0f7a4_10 : decode cJ9_abs_0f7a4 10 = .ok (.ireturn, 1) := by decide +kernel
theorem dJ9_max_7cf53_0 : decode cJ9_max_7cf53 0 = .ok (.iload_n 0, 1) := by decide +kernel
theorem dJ9_max_7cf53_1 : decode cJ9_max_7cf53 1 = .ok (.iload_n 1, 1) := by decide +kernel
theorem dJ9_max_7cf53_2 : decode cJ9_max_7cf53 2 = .ok (.if_icmp .lt 7, 3) := by decide +kernel
theorem dJ9_max_7cf53_5 : decode cJ9_max_7cf53 5 = .ok (.iload_n 0, 1) := by decide +kernel
theorem dJ9_max_7cf53_6 : decode cJ9_max_7cf53 6 = .ok (.goto 4, 3) := by decide +kernel
theorem dJ9_max_7cf53_9 : decode cJ9_max_7cf53 9 = .ok (.iload_n 1, 1) := by decide +kernel
theorem dJ9_max_7cf53_10 : decode cJ9_max_7cf53 10 = .ok (.ireturn, 1) := by decide +kernel
theorem dJ0_length_8abf5_0 : decode cJ0_length_8abf5 0 = .ok (.aload_n 0, 1) := by decide +kernel
theorem dJ0_length_8abf5_1 : decode cJ0_length_8abf5 1 = .ok (.getfield 9, 3) := by decide +kernel
theorem dJ0_length_8abf5_4 : decode cJ0_length_8abf5 4 = .ok (.arraylength, 1) := by decide +kernel
theorem dJ0_length_8abf5_5 : decode cJ0_length_8abf5 5 = .ok (.aload_n 0, 1) := by decide +kernel
theorem dJ0_length_8abf5_6 : decode cJ0_length_8abf5 6 = .ok (.invokevirtual 335, 3) := by decide +kernel
theorem dJ0_length_8abf5_9 : decode cJ0_length_8abf5 9 = .ok (.ishr, 1) := by decide +kernel
theorem dJ0_length_8abf5_10 : decode cJ0_length_8abf5 10 = .ok (.ireturn, 1) := by decide +kernel
theorem dJ0_charAt_5068e_0 : decode cJ0_charAt_5068e 0 = .ok (.aload_n 0, 1) := by decide +kernel
theorem dJ0_charAt_5068e_1 : decode cJ0_charAt_5068e 1 = .ok (.invokevirtual 492, 3) := by decide +kernel
theorem dJ0_charAt_5068e_4 : decode cJ0_charAt_5068e 4 = .ok (.ifCond .eq 12, 3) := by decide +kernel
theorem dJ0_charAt_5068e_7 : decode cJ0_charAt_5068e 7 = .ok (.aload_n 0, 1) := by decide +kernel
theorem dJ0_charAt_5068e_8 : decode cJ0_charAt_5068e 8 = .ok (.getfield 9, 3) := by decide +kernel
theorem dJ0_charAt_5068e_11 : decode cJ0_charAt_5068e 11 = .ok (.iload_n 1, 1) := by decide +kernel
theorem dJ0_charAt_5068e_12 : decode cJ0_charAt_5068e 12 = .ok (.invokestatic 495, 3) := by decide +kernel
theorem dJ0_charAt_5068e_15 : decode cJ0_charAt_5068e 15 = .ok (.ireturn, 1) := by decide +kernel
theorem dJ0_charAt_5068e_16 : decode cJ0_charAt_5068e 16 = .ok (.aload_n 0, 1) := by decide +kernel
theorem dJ0_charAt_5068e_17 : decode cJ0_charAt_5068e 17 = .ok (.getfield 9, 3) := by decide +kernel
theorem dJ0_charAt_5068e_20 : decode cJ0_charAt_5068e 20 = .ok (.iload_n 1, 1) := by decide +kernel
theorem dJ0_charAt_5068e_21 : decode cJ0_charAt_5068e 21 = .ok (.invokestatic 498, 3) := by decide +kernel
theorem dJ0_charAt_5068e_24 : decode cJ0_charAt_5068e 24 = .ok (.ireturn, 1) := by decide +kernel
theorem dJ0_coder_7d493_0 : decode cJ0_coder_7d493 0 = .ok (.getstatic 38, 3) := by decide +kernel
theorem dJ0_coder_7d493_3 : decode cJ0_coder_7d493 3 = .ok (.ifCond .eq 10, 3) := by decide +kernel
theorem dJ0_coder_7d493_6 : decode cJ0_coder_7d493 6 = .ok (.aload_n 0, 1) := by decide +kernel
theorem dJ0_coder_7d493_7 : decode cJ0_coder_7d493 7 = .ok (.getfield 15, 3) := by decide +kernel
theorem dJ0_coder_7d493_10 : decode cJ0_coder_7d493 10 = .ok (.goto 4, 3) := by decide +kernel
theorem dJ0_coder_7d493_13 : decode cJ0_coder_7d493 13 = .ok (.iconst 1, 1) := by decide +kernel
theorem dJ0_coder_7d493_14 : decode cJ0_coder_7d493 14 = .ok (.ireturn, 1) := by decide +kernel
theorem dJ0_isLatin1_aae02_0 : decode cJ0_isLatin1_aae02 0 = .ok (.getstatic 38, 3) := by decide +kernel
theorem dJ0_isLatin1_aae02_3 : decode cJ0_isLatin1_aae02 3 = .ok (.ifCond .eq 14, 3) := by decide +kernel
theorem dJ0_isLatin1_aae02_6 : decode cJ0_isLatin1_aae02 6 = .ok (.aload_n 0, 1) := by decide +kernel
theorem dJ0_isLatin1_aae02_7 : decode cJ0_isLatin1_aae02 7 = .ok (.getfield 15, 3) := by decide +kernel
theorem dJ0_isLatin1_aae02_10 : decode cJ0_isLatin1_aae02 10 = .ok (.ifCond .ne 7, 3) := by decide +kernel
theorem dJ0_isLatin1_aae02_13 : decode cJ0_isLatin1_aae02 13 = .ok (.iconst 1, 1) := by decide +kernel
theorem dJ0_isLatin1_aae02_14 : decode cJ0_isLatin1_aae02 14 = .ok (.goto 4, 3) := by decide +kernel
theorem dJ0_isLatin1_aae02_17 : decode cJ0_isLatin1_aae02 17 = .ok (.iconst 0, 1) := by decide +kernel
theorem dJ0_isLatin1_aae02_18 : decode cJ0_isLatin1_aae02 18 = .ok (.ireturn, 1) := by decide +kernel
theorem dJ0_checkIndex_df160_0 : decode cJ0_checkIndex_df160 0 = .ok (.iload_n 0, 1) := by decide +kernel
theorem dJ0_checkIndex_df160_1 : decode cJ0_checkIndex_df160 1 = .ok (.iload_n 1, 1) := by decide +kernel
theorem dJ0_checkIndex_df160_2 : decode cJ0_checkIndex_df160 2 = .ok (.getstatic 1053, 3) := by decide +kernel
theorem dJ0_checkIndex_df160_5 : decode cJ0_checkIndex_df160 5 = .ok (.invokestatic 1059, 3) := by decide +kernel
theorem dJ0_checkIndex_df160_8 : decode cJ0_checkIndex_df160 8 = .ok (.pop, 1) := by decide +kernel
theorem dJ0_checkIndex_df160_9 : decode cJ0_checkIndex_df160 9 = .ok (.return_, 1) := by decide +kernel
theorem dJ1_charAt_3b067_0 : decode cJ1_charAt_3b067 0 = .ok (.iload_n 1, 1) := by decide +kernel
theorem dJ1_charAt_3b067_1 : decode cJ1_charAt_3b067 1 = .ok (.aload_n 0, 1) := by decide +kernel
theorem dJ1_charAt_3b067_2 : decode cJ1_charAt_3b067 2 = .ok (.arraylength, 1) := by decide +kernel
theorem dJ1_charAt_3b067_3 : decode cJ1_charAt_3b067 3 = .ok (.invokestatic 9, 3) := by decide +kernel
theorem dJ1_charAt_3b067_6 : decode cJ1_charAt_3b067 6 = .ok (.aload_n 0, 1) := by decide +kernel
theorem dJ1_charAt_3b067_7 : decode cJ1_charAt_3b067 7 = .ok (.iload_n 1, 1) := by decide +kernel
theorem dJ1_charAt_3b067_8 : decode cJ1_charAt_3b067 8 = .ok (.baload, 1) := by decide +kernel
theorem dJ1_charAt_3b067_9 : decode cJ1_charAt_3b067 9 = .ok (.sipush 255, 3) := by decide +kernel
theorem dJ1_charAt_3b067_12 : decode cJ1_charAt_3b067 12 = .ok (.iand, 1) := by decide +kernel
theorem dJ1_charAt_3b067_13 : decode cJ1_charAt_3b067 13 = .ok (.i2c, 1) := by decide +kernel
theorem dJ1_charAt_3b067_14 : decode cJ1_charAt_3b067 14 = .ok (.ireturn, 1) := by decide +kernel
theorem dJ2_getChar_3b067_0 : decode cJ2_getChar_3b067 0 = .ok (.getstatic 44, 3) := by decide +kernel
theorem dJ2_getChar_3b067_3 : decode cJ2_getChar_3b067 3 = .ok (.ifCond .ne 25, 3) := by decide +kernel
theorem dJ2_getChar_3b067_6 : decode cJ2_getChar_3b067 6 = .ok (.iload_n 1, 1) := by decide +kernel
theorem dJ2_getChar_3b067_7 : decode cJ2_getChar_3b067 7 = .ok (.ifCond .lt 11, 3) := by decide +kernel
theorem dJ2_getChar_3b067_10 : decode cJ2_getChar_3b067 10 = .ok (.iload_n 1, 1) := by decide +kernel
theorem dJ2_getChar_3b067_11 : decode cJ2_getChar_3b067 11 = .ok (.aload_n 0, 1) := by decide +kernel
theorem dJ2_getChar_3b067_12 : decode cJ2_getChar_3b067 12 = .ok (.invokestatic 48, 3) := by decide +kernel
theorem dJ2_getChar_3b067_15 : decode cJ2_getChar_3b067 15 = .ok (.if_icmp .lt 13, 3) := by decide +kernel
theorem dJ2_getChar_3b067_18 : decode cJ2_getChar_3b067 18 = .ok (.new 52, 3) := by decide +kernel
theorem dJ2_getChar_3b067_21 : decode cJ2_getChar_3b067 21 = .ok (.dup, 1) := by decide +kernel
theorem dJ2_getChar_3b067_22 : decode cJ2_getChar_3b067 22 = .ok (.ldc 54, 2) := by decide +kernel
theorem dJ2_getChar_3b067_24 : decode cJ2_getChar_3b067 24 = .ok (.invokespecial 56, 3) := by decide +kernel
theorem dJ2_getChar_3b067_27 : decode cJ2_getChar_3b067 27 = .ok (.athrow, 1) := by decide +kernel
theorem dJ2_getChar_3b067_28 : decode cJ2_getChar_3b067 28 = .ok (.iload_n 1, 1) := by decide +kernel
theorem dJ2_getChar_3b067_29 : decode cJ2_getChar_3b067 29 = .ok (.iconst 1, 1) := by decide +kernel
theorem dJ2_getChar_3b067_30 : decode cJ2_getChar_3b067 30 = .ok (.ishl, 1) := by decide +kernel
theorem dJ2_getChar_3b067_31 : decode cJ2_getChar_3b067 31 = .ok (.istore_n 1, 1) := by decide +kernel
theorem dJ2_getChar_3b067_32 : decode cJ2_getChar_3b067 32 = .ok (.aload_n 0, 1) := by decide +kernel
theorem dJ2_getChar_3b067_33 : decode cJ2_getChar_3b067 33 = .ok (.iload_n 1, 1) := by decide +kernel
theorem dJ2_getChar_3b067_34 : decode cJ2_getChar_3b067 34 = .ok (.iinc 1 1, 3) := by decide +kernel
theorem dJ2_getChar_3b067_37 : decode cJ2_getChar_3b067 37 = .ok (.baload, 1) := by decide +kernel
theorem dJ2_getChar_3b067_38 : decode cJ2_getChar_3b067 38 = .ok (.sipush 255, 3) := by decide +kernel
theorem dJ2_getChar_3b067_41 : decode cJ2_getChar_3b067 41 = .ok (.iand, 1) := by decide +kernel
theorem dJ2_getChar_3b067_42 : decode cJ2_getChar_3b067 42 = .ok (.getstatic 59, 3) := by decide +kernel
theorem dJ2_getChar_3b067_45 : decode cJ2_getChar_3b067 45 = .ok (.ishl, 1) := by decide +kernel
theorem dJ2_getChar_3b067_46 : decode cJ2_getChar_3b067 46 = .ok (.aload_n 0, 1) := by decide +kernel
theorem dJ2_getChar_3b067_47 : decode cJ2_getChar_3b067 47 = .ok (.iload_n 1, 1) := by decide +kernel
theorem dJ2_getChar_3b067_48 : decode cJ2_getChar_3b067 48 = .ok (.baload, 1) := by decide +kernel
theorem dJ2_getChar_3b067_49 : decode cJ2_getChar_3b067 49 = .ok (.sipush 255, 3) := by decide +kernel
theorem dJ2_getChar_3b067_52 : decode cJ2_getChar_3b067 52 = .ok (.iand, 1) := by decide +kernel
theorem dJ2_getChar_3b067_53 : decode cJ2_getChar_3b067 53 = .ok (.getstatic 63, 3) := by decide +kernel
theorem dJ2_getChar_3b067_56 : decode cJ2_getChar_3b067 56 = .ok (.ishl, 1) := by decide +kernel
theorem dJ2_getChar_3b067_57 : decode cJ2_getChar_3b067 57 = .ok (.ior, 1) := by decide +kernel
theorem dJ2_getChar_3b067_58 : decode cJ2_getChar_3b067 58 = .ok (.i2c, 1) := by decide +kernel
theorem dJ2_getChar_3b067_59 : decode cJ2_getChar_3b067 59 = .ok (.ireturn, 1) := by decide +kernel
theorem dJ2_length_9d52b_0 : decode cJ2_length_9d52b 0 = .ok (.aload_n 0, 1) := by decide +kernel
theorem dJ2_length_9d52b_1 : decode cJ2_length_9d52b 1 = .ok (.arraylength, 1) := by decide +kernel
theorem dJ2_length_9d52b_2 : decode cJ2_length_9d52b 2 = .ok (.iconst 1, 1) := by decide +kernel
theorem dJ2_length_9d52b_3 : decode cJ2_length_9d52b 3 = .ok (.ishr, 1) := by decide +kernel
theorem dJ2_length_9d52b_4 : decode cJ2_length_9d52b 4 = .ok (.ireturn, 1) := by decide +kernel
theorem dJ2_charAt_3b067_0 : decode cJ2_charAt_3b067 0 = .ok (.iload_n 1, 1) := by decide +kernel
theorem dJ2_charAt_3b067_1 : decode cJ2_charAt_3b067 1 = .ok (.aload_n 0, 1) := by decide +kernel
theorem dJ2_charAt_3b067_2 : decode cJ2_charAt_3b067 2 = .ok (.invokestatic 67, 3) := by decide +kernel
theorem dJ2_charAt_3b067_5 : decode cJ2_charAt_3b067 5 = .ok (.aload_n 0, 1) := by decide +kernel
theorem dJ2_charAt_3b067_6 : decode cJ2_charAt_3b067 6 = .ok (.iload_n 1, 1) := by decide +kernel
theorem dJ2_charAt_3b067_7 : decode cJ2_charAt_3b067 7 = .ok (.invokestatic 71, 3) := by decide +kernel
theorem dJ2_charAt_3b067_10 : decode cJ2_charAt_3b067 10 = .ok (.ireturn, 1) := by decide +kernel
theorem dJ2_checkIndex_2214a_0 : decode cJ2_checkIndex_2214a 0 = .ok (.iload_n 0, 1) := by decide +kernel
theorem dJ2_checkIndex_2214a_1 : decode cJ2_checkIndex_2214a 1 = .ok (.aload_n 1, 1) := by decide +kernel
theorem dJ2_checkIndex_2214a_2 : decode cJ2_checkIndex_2214a 2 = .ok (.invokestatic 48, 3) := by decide +kernel
theorem dJ2_checkIndex_2214a_5 : decode cJ2_checkIndex_2214a 5 = .ok (.invokestatic 414, 3) := by decide +kernel
theorem dJ2_checkIndex_2214a_8 : decode cJ2_checkIndex_2214a 8 = .ok (.return_, 1) := by decide +kernel
theorem dJ3_checkIndex_8e157_0 : decode cJ3_checkIndex_8e157 0 = .ok (.iload_n 0, 1) := by decide +kernel
theorem dJ3_checkIndex_8e157_1 : decode cJ3_checkIndex_8e157 1 = .ok (.ifCond .lt 8, 3) := by decide +kernel
theorem dJ3_checkIndex_8e157_4 : decode cJ3_checkIndex_8e157 4 = .ok (.iload_n 0, 1) := by decide +kernel
theorem dJ3_checkIndex_8e157_5 : decode cJ3_checkIndex_8e157 5 = .ok (.iload_n 1, 1) := by decide +kernel
theorem dJ3_checkIndex_8e157_6 : decode cJ3_checkIndex_8e157 6 = .ok (.if_icmp .lt 10, 3) := by decide +kernel
theorem dJ3_checkIndex_8e157_9 : decode cJ3_checkIndex_8e157 9 = .ok (.aload_n 2, 1) := by decide +kernel
theorem dJ3_checkIndex_8e157_10 : decode cJ3_checkIndex_8e157 10 = .ok (.iload_n 0, 1) := by decide +kernel
theorem dJ3_checkIndex_8e157_11 : decode cJ3_checkIndex_8e157 11 = .ok (.iload_n 1, 1) := by decide +kernel
theorem dJ3_checkIndex_8e157_12 : decode cJ3_checkIndex_8e157 12 = .ok (.invokestatic 95, 3) := by decide +kernel
theorem dJ3_checkIndex_8e157_15 : decode cJ3_checkIndex_8e157 15 = .ok (.athrow, 1) := by decide +kernel
theorem dJ3_checkIndex_8e157_16 : decode cJ3_checkIndex_8e157 16 = .ok (.iload_n 0, 1) := by decide +kernel
theorem dJ3_checkIndex_8e157_17 : decode cJ3_checkIndex_8e157 17 = .ok (.ireturn, 1) := by decide +kernel
end
section
/-! THE PLAIN MACHINE. Its heap is a fixed set of cells (shps), numbered; only numbers change in them. -/
abbrev PS : Type := (Nat → Nat → Int32) × (Nat → Nat → Int64)
abbrev PM : Type := MethodName × ByteArray × Nat × Option FieldType × Nat
abbrev PSc : Type := Nat × (Nat → Int32)
abbrev PQ : Type := Option Value → PS → Prop
abbrev PP : Type := PM → Nat → List Value → List Value → PS → PQ → Prop
abbrev Shp : Type := (Nat × List (Option Nat)) ⊕ ((Nat × Nat) ⊕ (Nat ⊕ (Nat × List Nat)))
abbrev pmY (M : PM) : MethodName := M.1
abbrev pmB (M : PM) : ByteArray := M.2.1
abbrev pmL (M : PM) : Nat := M.2.2.1
abbrev pmR (M : PM) : Option FieldType := M.2.2.2.1
abbrev pmV (M : PM) : Nat := M.2.2.2.2
def up2 {α : Type} (f : Nat → Nat → α) (i k : Nat) (v : α) : Nat → Nat → α := fun a b => if a = i ∧ b = k then v else f a b
/-- a row of four int arrays -/
abbrev sh_row (i : Nat) : List Shp := [.inl (0, [none, none, none, some (i + 1), some (i + 2), some (i + 3), some (i + 4)]), .inr (.inl (0, 5)), .inr (.inl (0, 5)), .inr (.inl (0, 5)), .inr (.inl (0, 5))]
abbrev sh_sheet (i : Nat) : List Shp := [.inl (2, [none, none, none, some (i + 1)]), .inr (.inl (0, 40))]
def shps : List Shp := [.inl (5, [some 1, some 6, some 21, some 22, some 23, some 25, some 26, some 29, none, some 38, some 39, some 40])]
  ++ sh_row 1 ++ sh_row 6 ++ sh_row 11 ++ sh_row 16
  ++ [.inr (.inr (.inr (4, [11, 16]))), .inr (.inl (2, 2)),
      .inl (3, [some 24, none]), .inr (.inl (1, 160)),
      .inl (4, [some 23, none, none, none, none, none, none, none, none]),
      .inl (1, [none, some 27, some 28]), .inr (.inl (0, 6)), .inr (.inl (0, 6)),
      .inr (.inr (.inr (5, [30, 32, 34, 36])))]
  ++ sh_sheet 30 ++ sh_sheet 32 ++ sh_sheet 34 ++ sh_sheet 36
  ++ [.inr (.inr (.inl 9)), .inr (.inl (0, 13)), .inr (.inr (.inr (6, [41, 42, 43, 44, 45, 46, 47, 48, 49, 50, 51, 52, 53])))]
  ++ List.replicate 13 (.inr (.inl (0, 201)))
  ++ [.inl (6, [some 55, some 56, none, some 57, none, none, none, none, none, none, none, none, some 58, some 59, none, none, none, some 60, none, some 61, some 62, some 63, some 64, some 65, none]),
      .inr (.inl (0, 132)), .inr (.inl (0, 22)), .inr (.inl (0, 160)), .inr (.inl (0, 6)), .inr (.inl (0, 23)), .inr (.inl (0, 12)), .inr (.inl (0, 2613)), .inr (.inl (2, 2)), .inr (.inl (0, 4)), .inr (.inl (0, 4)), .inr (.inl (0, 160))]
def tyT : List FieldType := [.int, .byte, .boolean, .long, .object RX0, .object RX2, .array .int]
/-- the texts -/
def sOwn : List (String × Nat × String) := [(RX4, 57, "count"), (RX4, 106, "plain"), (RX4, 108, "hasty"), (RX4, 110, "back"), (RX4, 112, "late")]
def sLen : List Nat := [5, 5, 5, 4, 4]
def sByt : List (List Int32) := [[99, 111, 117, 110, 116], [112, 108, 97, 105, 110], [104, 97, 115, 116, 121], [98, 97, 99, 107], [108, 97, 116, 101]]
def lw_good : List Cond := lw_tbl.filter goodWord
def isNest : Cond → Bool
  | .fieldLinkNest .. => true
  | .methodLinkNest .. => true
  | _ => false
def lw_nest : List Cond := lw_tbl.filter isNest
theorem mg {w : Cond} (i : Nat) (h : lw_tbl[i]? = some w) (hg : goodWord w = true) : w ∈ lw_good := List.mem_filter.mpr ⟨List.mem_of_getElem? h, hg⟩
theorem mn {w : Cond} (i : Nat) (h : lw_tbl[i]? = some w) (hg : isNest w = true) : w ∈ lw_nest := List.mem_filter.mpr ⟨List.mem_of_getElem? h, hg⟩
def pre2 (lo : List Value) : Nat → Bool
  | 0 => true
  | k + 1 => match lo[k]? with
    | some (.long _) => false
    | some (.double _) => false
    | _ => true
def pEl : List Value → List Value
  | [] => []
  | .long x :: r => .long x :: .null :: pEl r
  | .double x :: r => .double x :: .null :: pEl r
  | v :: r => v :: pEl r
def pL0 (M : PM) (As : List Value) : List Value := pEl As ++ List.replicate (pmL M - (pEl As).length) .null
def kOk (M : PM) (x : Nat) (v : Int32) : Prop := Cond.constant (pmY M).cls x v ∈ lw_good
def kkOk (M : PM) (x : Nat) (v : Int64) : Prop := Cond.constantLong (pmY M).cls x v ∈ lw_good
def strOk (M : PM) (x k : Nat) : Prop := k < 5 ∧ ∃ t, sOwn[k]? = some ((pmY M).cls, x, t)
def fOk (M : PM) (x ci k : Nat) : Prop := ∃ (C : String) (T : u_T) (N : Nat), vwCl[ci]? = some (C, T, N) ∧ k < N ∧ (T k).1 = C ∧ (∀ w ∈ u_ws C T N, w ∈ lw_good) ∧ (Cond.fieldLink (pmY M).cls x C (T k).2.1 (T k).2.2.1 ∈ lw_good ∨ ∃ host, Cond.fieldLinkNest (pmY M).cls x C (T k).2.1 (T k).2.2.1 host ∈ lw_nest)
def pOk (M : PM) (x ci k : Nat) (z : Bool) : Prop := ∃ (C : String) (T : u_T) (N : Nat) (ty0 : Nat → FieldType), vwCl[ci]? = some (C, T, N) ∧ k < N ∧ (T k).1 = C ∧ (∀ w ∈ u_ws C T N, w ∈ lw_good) ∧ (Cond.fieldLink (pmY M).cls x C (T k).2.1 (T k).2.2.1 ∈ lw_good ∨ ∃ host, Cond.fieldLinkNest (pmY M).cls x C (T k).2.1 (T k).2.2.1 host ∈ lw_nest) ∧ (∀ k, k < N → parseFieldDescriptor (T k).2.2.1 = some (ty0 k)) ∧ (∀ a, a < N → ∀ b, b < N → a ≠ b → (T a).2.1 ≠ (T b).2.1) ∧ (T k).2.2.2 = false ∧ ty0 k = (if z then .boolean else .int)
def sfOk (M : PM) (x : Nat) (n d : String) : Prop := Cond.fieldLink (pmY M).cls x "java/lang/String" n d ∈ lw_good
def gsOk (M : PM) (x : Nat) (C n d : String) : Prop := Cond.fieldLink (pmY M).cls x C n d ∈ lw_good
def mxOk (M : PM) (x : Nat) : Prop := Cond.methodLink (pmY M).cls x Lib.Math.max.name ∈ lw_good ∧ Cond.static Lib.Math.max.name ∈ lw_good ∧ Cond.initialized "java/lang/Math" ∈ lw_good ∧ Cond.code Lib.Math.max.name Lib.Math.max.code 2 (some .int) ∈ lw_good
def maOk (M : PM) (x : Nat) : Prop := Cond.methodLink (pmY M).cls x Lib.Math.abs.name ∈ lw_good ∧ Cond.static Lib.Math.abs.name ∈ lw_good ∧ Cond.initialized "java/lang/Math" ∈ lw_good ∧ Cond.code Lib.Math.abs.name Lib.Math.abs.code 1 (some .int) ∈ lw_good
def nOk (M : PM) (n : Nat) : Prop := plainName (pmY M).cls = true ∧ Cond.code (pmY M) (pmB M) (pmL M) (pmR M) ∈ lw_good ∧ Cond.initialized (pmY M).cls ∈ lw_good ∧ ((pmY M).cls ≠ "java/lang/invoke/MethodHandle" ∧ (pmY M).cls ≠ "java/lang/invoke/VarHandle" ∧ (parseMethodDescriptor (pmY M).desc).map (fun d => d.parameters.length) = some n) ∧ pmL M ≤ 17
def iOk (M : PM) (n : Nat) : Prop := nOk M n ∧ Cond.instanceMethod (pmY M) ∈ lw_good ∧ Cond.selects (pmY M).cls (pmY M) (pmY M) ∈ lw_good
def jOk (M : PM) (n : Nat) : Prop := nOk M n ∧ Cond.static (pmY M) ∈ lw_good
def lOk (own : String) (x : Nat) (y : MethodName) : Prop := Cond.methodLink own x y ∈ lw_good ∨ ∃ host, Cond.methodLinkNest own x y host ∈ lw_nest
def rOk (i : Nat) (C : String) : Prop := (∃ (ci : Nat) (fs : List (Option Nat)) (q : vw_C), shps[i]? = some (.inl (ci, fs)) ∧ vwCl[ci]? = some q ∧ q.1 = C) ∨ ∃ k, k < 5 ∧ i = 100 + k ∧ C = "java/lang/String"

def C_iconst (sc : PSc) (P : PP) : Prop := ∀ (M : PM) (pc : Nat) (lo st : List Value) (S : PS) (Q : PQ) (n : Int), decode (pmB M) pc = .ok (.iconst n, 1) → (P M (pc + 1) lo (.int (Int32.ofInt n) :: st) S Q) → P M pc lo st S Q
def C_bipush (sc : PSc) (P : PP) : Prop := ∀ (M : PM) (pc : Nat) (lo st : List Value) (S : PS) (Q : PQ) (n : Int), decode (pmB M) pc = .ok (.bipush n, 2) → (P M (pc + 2) lo (.int (Int8.ofInt n).toInt32 :: st) S Q) → P M pc lo st S Q
def C_sipush (sc : PSc) (P : PP) : Prop := ∀ (M : PM) (pc : Nat) (lo st : List Value) (S : PS) (Q : PQ) (n : Int), decode (pmB M) pc = .ok (.sipush n, 3) → (P M (pc + 3) lo (.int (Int16.ofInt n).toInt32 :: st) S Q) → P M pc lo st S Q
def C_lconst (sc : PSc) (P : PP) : Prop := ∀ (M : PM) (pc : Nat) (lo st : List Value) (S : PS) (Q : PQ) (n : Fin 2), decode (pmB M) pc = .ok (.lconst n, 1) → (P M (pc + 1) lo (.long (Int64.ofNat (n : Nat)) :: st) S Q) → P M pc lo st S Q
def C_ldc (sc : PSc) (P : PP) : Prop := ∀ (M : PM) (pc : Nat) (lo st : List Value) (S : PS) (Q : PQ) (x : Nat) (v : Int32), decode (pmB M) pc = .ok (.ldc x, 2) → kOk M x v → (P M (pc + 2) lo (.int v :: st) S Q) → P M pc lo st S Q
def C_ldcw (sc : PSc) (P : PP) : Prop := ∀ (M : PM) (pc : Nat) (lo st : List Value) (S : PS) (Q : PQ) (x : Nat) (v : Int32), decode (pmB M) pc = .ok (.ldc_w x, 3) → kOk M x v → (P M (pc + 3) lo (.int v :: st) S Q) → P M pc lo st S Q
def C_ldc2 (sc : PSc) (P : PP) : Prop := ∀ (M : PM) (pc : Nat) (lo st : List Value) (S : PS) (Q : PQ) (x : Nat) (v : Int64), decode (pmB M) pc = .ok (.ldc2_w x, 3) → kkOk M x v → (P M (pc + 3) lo (.long v :: st) S Q) → P M pc lo st S Q
def C_ldcS (sc : PSc) (P : PP) : Prop := ∀ (M : PM) (pc : Nat) (lo st : List Value) (S : PS) (Q : PQ) (x k : Nat), decode (pmB M) pc = .ok (.ldc x, 2) → strOk M x k → (P M (pc + 2) lo (.ref (100 + k) :: st) S Q) → P M pc lo st S Q
def C_iload_n (sc : PSc) (P : PP) : Prop := ∀ (M : PM) (pc : Nat) (lo st : List Value) (S : PS) (Q : PQ) (n : Fin 4) (i : Nat) (x : Int32), decode (pmB M) pc = .ok (.iload_n n, 1) → (n : Nat) = i → lo[i]? = some (.int x) → (P M (pc + 1) lo (.int x :: st) S Q) → P M pc lo st S Q
def C_iload (sc : PSc) (P : PP) : Prop := ∀ (M : PM) (pc : Nat) (lo st : List Value) (S : PS) (Q : PQ) (i : Nat) (x : Int32), decode (pmB M) pc = .ok (.iload i, 2) → lo[i]? = some (.int x) → (P M (pc + 2) lo (.int x :: st) S Q) → P M pc lo st S Q
def C_lload_n (sc : PSc) (P : PP) : Prop := ∀ (M : PM) (pc : Nat) (lo st : List Value) (S : PS) (Q : PQ) (n : Fin 4) (i : Nat) (x : Int64), decode (pmB M) pc = .ok (.lload_n n, 1) → (n : Nat) = i → lo[i]? = some (.long x) → (P M (pc + 1) lo (.long x :: st) S Q) → P M pc lo st S Q
def C_lload (sc : PSc) (P : PP) : Prop := ∀ (M : PM) (pc : Nat) (lo st : List Value) (S : PS) (Q : PQ) (i : Nat) (x : Int64), decode (pmB M) pc = .ok (.lload i, 2) → lo[i]? = some (.long x) → (P M (pc + 2) lo (.long x :: st) S Q) → P M pc lo st S Q
def C_aload_n (sc : PSc) (P : PP) : Prop := ∀ (M : PM) (pc : Nat) (lo st : List Value) (S : PS) (Q : PQ) (n : Fin 4) (i : Nat) (x : Nat), decode (pmB M) pc = .ok (.aload_n n, 1) → (n : Nat) = i → lo[i]? = some (.ref x) → (P M (pc + 1) lo (.ref x :: st) S Q) → P M pc lo st S Q
def C_aload (sc : PSc) (P : PP) : Prop := ∀ (M : PM) (pc : Nat) (lo st : List Value) (S : PS) (Q : PQ) (i : Nat) (x : Nat), decode (pmB M) pc = .ok (.aload i, 2) → lo[i]? = some (.ref x) → (P M (pc + 2) lo (.ref x :: st) S Q) → P M pc lo st S Q
def C_istore_n (sc : PSc) (P : PP) : Prop := ∀ (M : PM) (pc : Nat) (lo st : List Value) (S : PS) (Q : PQ) (n : Fin 4) (i : Nat) (x : Int32), decode (pmB M) pc = .ok (.istore_n n, 1) → (n : Nat) = i → i < pmL M → pre2 lo i = true → (P M (pc + 1) (lo.set i (.int x)) st S Q) → P M pc lo (.int x :: st) S Q
def C_istore (sc : PSc) (P : PP) : Prop := ∀ (M : PM) (pc : Nat) (lo st : List Value) (S : PS) (Q : PQ) (i : Nat) (x : Int32), decode (pmB M) pc = .ok (.istore i, 2) → i < pmL M → pre2 lo i = true → (P M (pc + 2) (lo.set i (.int x)) st S Q) → P M pc lo (.int x :: st) S Q
def C_astore_n (sc : PSc) (P : PP) : Prop := ∀ (M : PM) (pc : Nat) (lo st : List Value) (S : PS) (Q : PQ) (n : Fin 4) (i : Nat) (x : Nat), decode (pmB M) pc = .ok (.astore_n n, 1) → (n : Nat) = i → i < pmL M → pre2 lo i = true → (P M (pc + 1) (lo.set i (.ref x)) st S Q) → P M pc lo (.ref x :: st) S Q
def C_astore (sc : PSc) (P : PP) : Prop := ∀ (M : PM) (pc : Nat) (lo st : List Value) (S : PS) (Q : PQ) (i : Nat) (x : Nat), decode (pmB M) pc = .ok (.astore i, 2) → i < pmL M → pre2 lo i = true → (P M (pc + 2) (lo.set i (.ref x)) st S Q) → P M pc lo (.ref x :: st) S Q
def C_lstore_n (sc : PSc) (P : PP) : Prop := ∀ (M : PM) (pc : Nat) (lo st : List Value) (S : PS) (Q : PQ) (n : Fin 4) (i : Nat) (x : Int64), decode (pmB M) pc = .ok (.lstore_n n, 1) → (n : Nat) = i → i + 1 < pmL M → pre2 lo i = true → (P M (pc + 1) ((lo.set i (.long x)).set (i + 1) .null) st S Q) → P M pc lo (.long x :: st) S Q
def C_lstore (sc : PSc) (P : PP) : Prop := ∀ (M : PM) (pc : Nat) (lo st : List Value) (S : PS) (Q : PQ) (i : Nat) (x : Int64), decode (pmB M) pc = .ok (.lstore i, 2) → i + 1 < pmL M → pre2 lo i = true → (P M (pc + 2) ((lo.set i (.long x)).set (i + 1) .null) st S Q) → P M pc lo (.long x :: st) S Q
def C_iinc (sc : PSc) (P : PP) : Prop := ∀ (M : PM) (pc : Nat) (lo st : List Value) (S : PS) (Q : PQ) (i : Nat) (n : Int) (x : Int32), decode (pmB M) pc = .ok (.iinc i n, 3) → lo[i]? = some (.int x) → i < pmL M → pre2 lo i = true → (P M (pc + 3) (lo.set i (.int (x + Int32.ofInt n))) st S Q) → P M pc lo st S Q
def C_iadd (sc : PSc) (P : PP) : Prop := ∀ (M : PM) (pc : Nat) (lo st : List Value) (S : PS) (Q : PQ) (x y : Int32), decode (pmB M) pc = .ok (.iadd, 1) → (P M (pc + 1) lo (.int (x + y) :: st) S Q) → P M pc lo (.int y :: .int x :: st) S Q
def C_isub (sc : PSc) (P : PP) : Prop := ∀ (M : PM) (pc : Nat) (lo st : List Value) (S : PS) (Q : PQ) (x y : Int32), decode (pmB M) pc = .ok (.isub, 1) → (P M (pc + 1) lo (.int (x - y) :: st) S Q) → P M pc lo (.int y :: .int x :: st) S Q
def C_imul (sc : PSc) (P : PP) : Prop := ∀ (M : PM) (pc : Nat) (lo st : List Value) (S : PS) (Q : PQ) (x y : Int32), decode (pmB M) pc = .ok (.imul, 1) → (P M (pc + 1) lo (.int (x * y) :: st) S Q) → P M pc lo (.int y :: .int x :: st) S Q
def C_iand (sc : PSc) (P : PP) : Prop := ∀ (M : PM) (pc : Nat) (lo st : List Value) (S : PS) (Q : PQ) (x y : Int32), decode (pmB M) pc = .ok (.iand, 1) → (P M (pc + 1) lo (.int (x &&& y) :: st) S Q) → P M pc lo (.int y :: .int x :: st) S Q
def C_ior (sc : PSc) (P : PP) : Prop := ∀ (M : PM) (pc : Nat) (lo st : List Value) (S : PS) (Q : PQ) (x y : Int32), decode (pmB M) pc = .ok (.ior, 1) → (P M (pc + 1) lo (.int (x ||| y) :: st) S Q) → P M pc lo (.int y :: .int x :: st) S Q
def C_ishl (sc : PSc) (P : PP) : Prop := ∀ (M : PM) (pc : Nat) (lo st : List Value) (S : PS) (Q : PQ) (x y : Int32), decode (pmB M) pc = .ok (.ishl, 1) → (P M (pc + 1) lo (.int (x <<< (y &&& 31)) :: st) S Q) → P M pc lo (.int y :: .int x :: st) S Q
def C_ishr (sc : PSc) (P : PP) : Prop := ∀ (M : PM) (pc : Nat) (lo st : List Value) (S : PS) (Q : PQ) (x y : Int32), decode (pmB M) pc = .ok (.ishr, 1) → (P M (pc + 1) lo (.int (x >>> (y &&& 31)) :: st) S Q) → P M pc lo (.int y :: .int x :: st) S Q
def C_iushr (sc : PSc) (P : PP) : Prop := ∀ (M : PM) (pc : Nat) (lo st : List Value) (S : PS) (Q : PQ) (x y : Int32), decode (pmB M) pc = .ok (.iushr, 1) → (P M (pc + 1) lo (.int ((x.toUInt32 >>> (y.toUInt32 &&& Int32.toUInt32 31)).toInt32) :: st) S Q) → P M pc lo (.int y :: .int x :: st) S Q
def C_irem (sc : PSc) (P : PP) : Prop := ∀ (M : PM) (pc : Nat) (lo st : List Value) (S : PS) (Q : PQ) (x y : Int32), decode (pmB M) pc = .ok (.irem, 1) → ¬ y = 0 → (P M (pc + 1) lo (.int (x - x / y * y) :: st) S Q) → P M pc lo (.int y :: .int x :: st) S Q
def C_ladd (sc : PSc) (P : PP) : Prop := ∀ (M : PM) (pc : Nat) (lo st : List Value) (S : PS) (Q : PQ) (x y : Int64), decode (pmB M) pc = .ok (.ladd, 1) → (P M (pc + 1) lo (.long (x + y) :: st) S Q) → P M pc lo (.long y :: .long x :: st) S Q
def C_lmul (sc : PSc) (P : PP) : Prop := ∀ (M : PM) (pc : Nat) (lo st : List Value) (S : PS) (Q : PQ) (x y : Int64), decode (pmB M) pc = .ok (.lmul, 1) → (P M (pc + 1) lo (.long (x * y) :: st) S Q) → P M pc lo (.long y :: .long x :: st) S Q
def C_ldiv (sc : PSc) (P : PP) : Prop := ∀ (M : PM) (pc : Nat) (lo st : List Value) (S : PS) (Q : PQ) (x y : Int64), decode (pmB M) pc = .ok (.ldiv, 1) → ¬ y = 0 → (P M (pc + 1) lo (.long (x / y) :: st) S Q) → P M pc lo (.long y :: .long x :: st) S Q
def C_lrem (sc : PSc) (P : PP) : Prop := ∀ (M : PM) (pc : Nat) (lo st : List Value) (S : PS) (Q : PQ) (x y : Int64), decode (pmB M) pc = .ok (.lrem, 1) → ¬ y = 0 → (P M (pc + 1) lo (.long (x - x / y * y) :: st) S Q) → P M pc lo (.long y :: .long x :: st) S Q
def C_lcmp (sc : PSc) (P : PP) : Prop := ∀ (M : PM) (pc : Nat) (lo st : List Value) (S : PS) (Q : PQ) (x y : Int64), decode (pmB M) pc = .ok (.lcmp, 1) → (P M (pc + 1) lo (.int (lg_cmp x y) :: st) S Q) → P M pc lo (.long y :: .long x :: st) S Q
def C_ineg (sc : PSc) (P : PP) : Prop := ∀ (M : PM) (pc : Nat) (lo st : List Value) (S : PS) (Q : PQ) (x : Int32), decode (pmB M) pc = .ok (.ineg, 1) → (P M (pc + 1) lo (.int (-x) :: st) S Q) → P M pc lo (.int x :: st) S Q
def C_i2l (sc : PSc) (P : PP) : Prop := ∀ (M : PM) (pc : Nat) (lo st : List Value) (S : PS) (Q : PQ) (x : Int32), decode (pmB M) pc = .ok (.i2l, 1) → (P M (pc + 1) lo (.long x.toInt64 :: st) S Q) → P M pc lo (.int x :: st) S Q
def C_i2b (sc : PSc) (P : PP) : Prop := ∀ (M : PM) (pc : Nat) (lo st : List Value) (S : PS) (Q : PQ) (x : Int32), decode (pmB M) pc = .ok (.i2b, 1) → (P M (pc + 1) lo (.int x.toInt8.toInt32 :: st) S Q) → P M pc lo (.int x :: st) S Q
def C_i2s (sc : PSc) (P : PP) : Prop := ∀ (M : PM) (pc : Nat) (lo st : List Value) (S : PS) (Q : PQ) (x : Int32), decode (pmB M) pc = .ok (.i2s, 1) → (P M (pc + 1) lo (.int x.toInt16.toInt32 :: st) S Q) → P M pc lo (.int x :: st) S Q
def C_i2c (sc : PSc) (P : PP) : Prop := ∀ (M : PM) (pc : Nat) (lo st : List Value) (S : PS) (Q : PQ) (x : Int32), decode (pmB M) pc = .ok (.i2c, 1) → (P M (pc + 1) lo (.int (x.toUInt32 % 65536).toInt32 :: st) S Q) → P M pc lo (.int x :: st) S Q
def C_dup (sc : PSc) (P : PP) : Prop := ∀ (M : PM) (pc : Nat) (lo st : List Value) (S : PS) (Q : PQ) (v : Value), decode (pmB M) pc = .ok (.dup, 1) → v.category = 1 → (P M (pc + 1) lo (v :: v :: st) S Q) → P M pc lo (v :: st) S Q
def C_pop (sc : PSc) (P : PP) : Prop := ∀ (M : PM) (pc : Nat) (lo st : List Value) (S : PS) (Q : PQ) (v : Value), decode (pmB M) pc = .ok (.pop, 1) → v.category = 1 → (P M (pc + 1) lo st S Q) → P M pc lo (v :: st) S Q
def C_dup2 (sc : PSc) (P : PP) : Prop := ∀ (M : PM) (pc : Nat) (lo st : List Value) (S : PS) (Q : PQ) (v w : Value), decode (pmB M) pc = .ok (.dup2, 1) → v.category = 1 → w.category = 1 → (P M (pc + 1) lo (v :: w :: v :: w :: st) S Q) → P M pc lo (v :: w :: st) S Q
def C_getI (sc : PSc) (P : PP) : Prop := ∀ (M : PM) (pc : Nat) (lo st : List Value) (S : PS) (Q : PQ) (x ci k i : Nat) (fs : List (Option Nat)), decode (pmB M) pc = .ok (.getfield x, 3) → fOk M x ci k → shps[i]? = some (.inl (ci, fs)) → fs[k]? = some none → (P M (pc + 3) lo (.int (S.1 i k) :: st) S Q) → P M pc lo (.ref i :: st) S Q
def C_getR (sc : PSc) (P : PP) : Prop := ∀ (M : PM) (pc : Nat) (lo st : List Value) (S : PS) (Q : PQ) (x ci k i j : Nat) (fs : List (Option Nat)), decode (pmB M) pc = .ok (.getfield x, 3) → fOk M x ci k → shps[i]? = some (.inl (ci, fs)) → fs[k]? = some (some j) → (P M (pc + 3) lo (.ref j :: st) S Q) → P M pc lo (.ref i :: st) S Q
def C_putI (sc : PSc) (P : PP) : Prop := ∀ (M : PM) (pc : Nat) (lo st : List Value) (S : PS) (Q : PQ) (x ci k i : Nat) (fs : List (Option Nat)) (z : Bool) (v : Int32), decode (pmB M) pc = .ok (.putfield x, 3) → pOk M x ci k z → shps[i]? = some (.inl (ci, fs)) → fs[k]? = some none → (z = true → v = 0 ∨ v = 1) → (P M (pc + 3) lo st (up2 S.1 i k v, S.2) Q) → P M pc lo (.int v :: .ref i :: st) S Q
def C_iald (sc : PSc) (P : PP) : Prop := ∀ (M : PM) (pc : Nat) (lo st : List Value) (S : PS) (Q : PQ) (i n : Nat) (j : Int32), decode (pmB M) pc = .ok (.iaload, 1) → shps[i]? = some (.inr (.inl (0, n))) → vp_in j n → (P M (pc + 1) lo (.int (S.1 i j.toNatClampNeg) :: st) S Q) → P M pc lo (.int j :: .ref i :: st) S Q
def C_iast (sc : PSc) (P : PP) : Prop := ∀ (M : PM) (pc : Nat) (lo st : List Value) (S : PS) (Q : PQ) (i n : Nat) (j v : Int32), decode (pmB M) pc = .ok (.iastore, 1) → shps[i]? = some (.inr (.inl (0, n))) → vp_in j n → (P M (pc + 1) lo st (up2 S.1 i j.toNatClampNeg v, S.2) Q) → P M pc lo (.int v :: .int j :: .ref i :: st) S Q
def C_bald (sc : PSc) (P : PP) : Prop := ∀ (M : PM) (pc : Nat) (lo st : List Value) (S : PS) (Q : PQ) (i n : Nat) (j : Int32), decode (pmB M) pc = .ok (.baload, 1) → shps[i]? = some (.inr (.inl (1, n))) → vp_in j n → (P M (pc + 1) lo (.int (S.1 i j.toNatClampNeg) :: st) S Q) → P M pc lo (.int j :: .ref i :: st) S Q
def C_bast (sc : PSc) (P : PP) : Prop := ∀ (M : PM) (pc : Nat) (lo st : List Value) (S : PS) (Q : PQ) (i n : Nat) (j v : Int32), decode (pmB M) pc = .ok (.bastore, 1) → shps[i]? = some (.inr (.inl (1, n))) → vp_in j n → (P M (pc + 1) lo st (up2 S.1 i j.toNatClampNeg (vp_nar .byte v), S.2) Q) → P M pc lo (.int v :: .int j :: .ref i :: st) S Q
def C_zald (sc : PSc) (P : PP) : Prop := ∀ (M : PM) (pc : Nat) (lo st : List Value) (S : PS) (Q : PQ) (i n : Nat) (j : Int32), decode (pmB M) pc = .ok (.baload, 1) → shps[i]? = some (.inr (.inl (2, n))) → vp_in j n → (P M (pc + 1) lo (.int (S.1 i j.toNatClampNeg) :: st) S Q) → P M pc lo (.int j :: .ref i :: st) S Q
def C_zast (sc : PSc) (P : PP) : Prop := ∀ (M : PM) (pc : Nat) (lo st : List Value) (S : PS) (Q : PQ) (i n : Nat) (j v : Int32), decode (pmB M) pc = .ok (.bastore, 1) → shps[i]? = some (.inr (.inl (2, n))) → vp_in j n → (P M (pc + 1) lo st (up2 S.1 i j.toNatClampNeg (vp_nar .boolean v), S.2) Q) → P M pc lo (.int v :: .int j :: .ref i :: st) S Q
def C_lald (sc : PSc) (P : PP) : Prop := ∀ (M : PM) (pc : Nat) (lo st : List Value) (S : PS) (Q : PQ) (i n : Nat) (j : Int32), decode (pmB M) pc = .ok (.laload, 1) → shps[i]? = some (.inr (.inr (.inl n))) → vp_in j n → (P M (pc + 1) lo (.long (S.2 i j.toNatClampNeg) :: st) S Q) → P M pc lo (.int j :: .ref i :: st) S Q
def C_last (sc : PSc) (P : PP) : Prop := ∀ (M : PM) (pc : Nat) (lo st : List Value) (S : PS) (Q : PQ) (i n : Nat) (j : Int32) (v : Int64), decode (pmB M) pc = .ok (.lastore, 1) → shps[i]? = some (.inr (.inr (.inl n))) → vp_in j n → (P M (pc + 1) lo st (S.1, up2 S.2 i j.toNatClampNeg v) Q) → P M pc lo (.long v :: .int j :: .ref i :: st) S Q
def C_aald (sc : PSc) (P : PP) : Prop := ∀ (M : PM) (pc : Nat) (lo st : List Value) (S : PS) (Q : PQ) (i t r : Nat) (js : List Nat) (j : Int32), decode (pmB M) pc = .ok (.aaload, 1) → shps[i]? = some (.inr (.inr (.inr (t, js)))) → vp_in j js.length → js[j.toNatClampNeg]? = some r → (P M (pc + 1) lo (.ref r :: st) S Q) → P M pc lo (.int j :: .ref i :: st) S Q
def C_sld (sc : PSc) (P : PP) : Prop := ∀ (M : PM) (pc : Nat) (lo st : List Value) (S : PS) (Q : PQ) (j : Int32), decode (pmB M) pc = .ok (.iaload, 1) → vp_in j sc.1 → (P M (pc + 1) lo (.int (sc.2 j.toNatClampNeg) :: st) S Q) → P M pc lo (.int j :: .ref 99 :: st) S Q
def C_slen (sc : PSc) (P : PP) : Prop := ∀ (M : PM) (pc : Nat) (lo st : List Value) (S : PS) (Q : PQ) , decode (pmB M) pc = .ok (.arraylength, 1) → (P M (pc + 1) lo (.int (Int32.ofNat sc.1) :: st) S Q) → P M pc lo (.ref 99 :: st) S Q
def C_getSV (sc : PSc) (P : PP) : Prop := ∀ (M : PM) (pc : Nat) (lo st : List Value) (S : PS) (Q : PQ) (x k : Nat), decode (pmB M) pc = .ok (.getfield x, 3) → k < 5 → sfOk M x "value" "[B" → (P M (pc + 3) lo (.ref (200 + k) :: st) S Q) → P M pc lo (.ref (100 + k) :: st) S Q
def C_getSC (sc : PSc) (P : PP) : Prop := ∀ (M : PM) (pc : Nat) (lo st : List Value) (S : PS) (Q : PQ) (x k : Nat), decode (pmB M) pc = .ok (.getfield x, 3) → k < 5 → sfOk M x "coder" "B" → (P M (pc + 3) lo (.int 0 :: st) S Q) → P M pc lo (.ref (100 + k) :: st) S Q
def C_alenS (sc : PSc) (P : PP) : Prop := ∀ (M : PM) (pc : Nat) (lo st : List Value) (S : PS) (Q : PQ) (k : Nat), decode (pmB M) pc = .ok (.arraylength, 1) → k < 5 → (P M (pc + 1) lo (.int (Int32.ofNat (sLen.getD k 0)) :: st) S Q) → P M pc lo (.ref (200 + k) :: st) S Q
def C_baldS (sc : PSc) (P : PP) : Prop := ∀ (M : PM) (pc : Nat) (lo st : List Value) (S : PS) (Q : PQ) (k : Nat) (j : Int32), decode (pmB M) pc = .ok (.baload, 1) → k < 5 → vp_in j (sLen.getD k 0) → (P M (pc + 1) lo (.int ((sByt.getD k []).getD j.toNatClampNeg 0) :: st) S Q) → P M pc lo (.int j :: .ref (200 + k) :: st) S Q
def C_getsC (sc : PSc) (P : PP) : Prop := ∀ (M : PM) (pc : Nat) (lo st : List Value) (S : PS) (Q : PQ) (x : Nat), decode (pmB M) pc = .ok (.getstatic x, 3) → gsOk M x "java/lang/String" "COMPACT_STRINGS" "Z" → (P M (pc + 3) lo (.int 1 :: st) S Q) → P M pc lo st S Q
def C_getsR (sc : PSc) (P : PP) : Prop := ∀ (M : PM) (pc : Nat) (lo st : List Value) (S : PS) (Q : PQ) (x : Nat), decode (pmB M) pc = .ok (.getstatic x, 3) → gsOk M x "jdk/internal/util/Preconditions" "SIOOBE_FORMATTER" "Ljava/util/function/BiFunction;" → (∀ v : Value, v = .null ∨ v = .ref 98 → P M (pc + 3) lo (v :: st) S Q) → P M pc lo st S Q
def C_mmax (sc : PSc) (P : PP) : Prop := ∀ (M : PM) (pc : Nat) (lo st : List Value) (S : PS) (Q : PQ) (x : Nat) (a b : Int32), decode (pmB M) pc = .ok (.invokestatic x, 3) → mxOk M x → 1 ≤ pmV M → (st.map fun v => v.category).sum ≤ 8 → (P M (pc + 3) lo (.int (if a < b then b else a) :: st) S Q) → P M pc lo (.int b :: .int a :: st) S Q
def C_mabs (sc : PSc) (P : PP) : Prop := ∀ (M : PM) (pc : Nat) (lo st : List Value) (S : PS) (Q : PQ) (x : Nat) (a : Int32), decode (pmB M) pc = .ok (.invokestatic x, 3) → maOk M x → 1 ≤ pmV M → (st.map fun v => v.category).sum ≤ 8 → (P M (pc + 3) lo (.int (if 0 ≤ a then a else 0 - a) :: st) S Q) → P M pc lo (.int a :: st) S Q
def C_if_eq (sc : PSc) (P : PP) : Prop := ∀ (M : PM) (pc : Nat) (lo st : List Value) (S : PS) (Q : PQ) (x : Int32) (off : Int) (tgt : Nat), decode (pmB M) pc = .ok (.ifCond .eq off, 3) → (pc : Int) + off = (tgt : Int) → ((x = 0) → P M tgt lo st S Q) → (¬ (x = 0) → P M (pc + 3) lo st S Q) → P M pc lo (.int x :: st) S Q
def C_if_ne (sc : PSc) (P : PP) : Prop := ∀ (M : PM) (pc : Nat) (lo st : List Value) (S : PS) (Q : PQ) (x : Int32) (off : Int) (tgt : Nat), decode (pmB M) pc = .ok (.ifCond .ne off, 3) → (pc : Int) + off = (tgt : Int) → ((¬ x = 0) → P M tgt lo st S Q) → ((x = 0) → P M (pc + 3) lo st S Q) → P M pc lo (.int x :: st) S Q
def C_if_lt (sc : PSc) (P : PP) : Prop := ∀ (M : PM) (pc : Nat) (lo st : List Value) (S : PS) (Q : PQ) (x : Int32) (off : Int) (tgt : Nat), decode (pmB M) pc = .ok (.ifCond .lt off, 3) → (pc : Int) + off = (tgt : Int) → ((x < 0) → P M tgt lo st S Q) → (¬ (x < 0) → P M (pc + 3) lo st S Q) → P M pc lo (.int x :: st) S Q
def C_if_ge (sc : PSc) (P : PP) : Prop := ∀ (M : PM) (pc : Nat) (lo st : List Value) (S : PS) (Q : PQ) (x : Int32) (off : Int) (tgt : Nat), decode (pmB M) pc = .ok (.ifCond .ge off, 3) → (pc : Int) + off = (tgt : Int) → ((0 ≤ x) → P M tgt lo st S Q) → (¬ (0 ≤ x) → P M (pc + 3) lo st S Q) → P M pc lo (.int x :: st) S Q
def C_if_gt (sc : PSc) (P : PP) : Prop := ∀ (M : PM) (pc : Nat) (lo st : List Value) (S : PS) (Q : PQ) (x : Int32) (off : Int) (tgt : Nat), decode (pmB M) pc = .ok (.ifCond .gt off, 3) → (pc : Int) + off = (tgt : Int) → ((0 < x) → P M tgt lo st S Q) → (¬ (0 < x) → P M (pc + 3) lo st S Q) → P M pc lo (.int x :: st) S Q
def C_if_le (sc : PSc) (P : PP) : Prop := ∀ (M : PM) (pc : Nat) (lo st : List Value) (S : PS) (Q : PQ) (x : Int32) (off : Int) (tgt : Nat), decode (pmB M) pc = .ok (.ifCond .le off, 3) → (pc : Int) + off = (tgt : Int) → ((x ≤ 0) → P M tgt lo st S Q) → (¬ (x ≤ 0) → P M (pc + 3) lo st S Q) → P M pc lo (.int x :: st) S Q
def C_icmp_eq (sc : PSc) (P : PP) : Prop := ∀ (M : PM) (pc : Nat) (lo st : List Value) (S : PS) (Q : PQ) (x y : Int32) (off : Int) (tgt : Nat), decode (pmB M) pc = .ok (.if_icmp .eq off, 3) → (pc : Int) + off = (tgt : Int) → ((x = y) → P M tgt lo st S Q) → (¬ (x = y) → P M (pc + 3) lo st S Q) → P M pc lo (.int y :: .int x :: st) S Q
def C_icmp_ne (sc : PSc) (P : PP) : Prop := ∀ (M : PM) (pc : Nat) (lo st : List Value) (S : PS) (Q : PQ) (x y : Int32) (off : Int) (tgt : Nat), decode (pmB M) pc = .ok (.if_icmp .ne off, 3) → (pc : Int) + off = (tgt : Int) → ((¬ x = y) → P M tgt lo st S Q) → ((x = y) → P M (pc + 3) lo st S Q) → P M pc lo (.int y :: .int x :: st) S Q
def C_icmp_lt (sc : PSc) (P : PP) : Prop := ∀ (M : PM) (pc : Nat) (lo st : List Value) (S : PS) (Q : PQ) (x y : Int32) (off : Int) (tgt : Nat), decode (pmB M) pc = .ok (.if_icmp .lt off, 3) → (pc : Int) + off = (tgt : Int) → ((x < y) → P M tgt lo st S Q) → (¬ (x < y) → P M (pc + 3) lo st S Q) → P M pc lo (.int y :: .int x :: st) S Q
def C_icmp_ge (sc : PSc) (P : PP) : Prop := ∀ (M : PM) (pc : Nat) (lo st : List Value) (S : PS) (Q : PQ) (x y : Int32) (off : Int) (tgt : Nat), decode (pmB M) pc = .ok (.if_icmp .ge off, 3) → (pc : Int) + off = (tgt : Int) → ((y ≤ x) → P M tgt lo st S Q) → (¬ (y ≤ x) → P M (pc + 3) lo st S Q) → P M pc lo (.int y :: .int x :: st) S Q
def C_icmp_gt (sc : PSc) (P : PP) : Prop := ∀ (M : PM) (pc : Nat) (lo st : List Value) (S : PS) (Q : PQ) (x y : Int32) (off : Int) (tgt : Nat), decode (pmB M) pc = .ok (.if_icmp .gt off, 3) → (pc : Int) + off = (tgt : Int) → ((y < x) → P M tgt lo st S Q) → (¬ (y < x) → P M (pc + 3) lo st S Q) → P M pc lo (.int y :: .int x :: st) S Q
def C_icmp_le (sc : PSc) (P : PP) : Prop := ∀ (M : PM) (pc : Nat) (lo st : List Value) (S : PS) (Q : PQ) (x y : Int32) (off : Int) (tgt : Nat), decode (pmB M) pc = .ok (.if_icmp .le off, 3) → (pc : Int) + off = (tgt : Int) → ((x ≤ y) → P M tgt lo st S Q) → (¬ (x ≤ y) → P M (pc + 3) lo st S Q) → P M pc lo (.int y :: .int x :: st) S Q
def C_goto (sc : PSc) (P : PP) : Prop := ∀ (M : PM) (pc : Nat) (lo st : List Value) (S : PS) (Q : PQ) (off : Int) (tgt : Nat), decode (pmB M) pc = .ok (.goto off, 3) → (pc : Int) + off = (tgt : Int) → (P M tgt lo st S Q) → P M pc lo st S Q
def C_table (sc : PSc) (P : PP) : Prop := ∀ (M : PM) (pc : Nat) (lo st : List Value) (S : PS) (Q : PQ) (x : Int32) (dflt lw hi : Int) (offs : Array Int) (len : Nat), decode (pmB M) pc = .ok (.tableswitch dflt lw hi offs, len) → (∃ tgt : Nat, (((x.toInt < lw ∨ hi < x.toInt) ∧ (pc : Int) + dflt = (tgt : Int)) ∨ (¬ x.toInt < lw ∧ ¬ hi < x.toInt ∧ ∃ off, offs[(x.toInt - lw).toNat]? = some off ∧ (pc : Int) + off = (tgt : Int))) ∧ P M tgt lo st S Q) → P M pc lo (.int x :: st) S Q
def C_lookup (sc : PSc) (P : PP) : Prop := ∀ (M : PM) (pc : Nat) (lo st : List Value) (S : PS) (Q : PQ) (x : Int32) (dflt : Int) (ps : Array (Int × Int)) (len : Nat) (tgt : Nat), decode (pmB M) pc = .ok (.lookupswitch dflt ps, len) → (ps.toList.zip (ps.toList.drop 1)).all (fun (a, next) => a.1 < next.1) = true → (pc : Int) + Op.lookupswitch.offset ps.toList dflt x.toInt = (tgt : Int) → (P M tgt lo st S Q) → P M pc lo (.int x :: st) S Q
def C_iret (sc : PSc) (P : PP) : Prop := ∀ (M : PM) (pc : Nat) (lo st : List Value) (S : PS) (Q : PQ) (x : Int32) (ty : FieldType), decode (pmB M) pc = .ok (.ireturn, 1) → pmR M = some ty → narrow ty (.int x) = .int x → (Q (some (.int x)) S) → P M pc lo [.int x] S Q
def C_lret (sc : PSc) (P : PP) : Prop := ∀ (M : PM) (pc : Nat) (lo st : List Value) (S : PS) (Q : PQ) (x : Int64), decode (pmB M) pc = .ok (.lreturn, 1) → pmR M = some .long → (Q (some (.long x)) S) → P M pc lo [.long x] S Q
def C_vret (sc : PSc) (P : PP) : Prop := ∀ (M : PM) (pc : Nat) (lo st : List Value) (S : PS) (Q : PQ) , decode (pmB M) pc = .ok (.return_, 1) → pmR M = none → (Q none S) → P M pc lo [] S Q
def C_callV (sc : PSc) (P : PP) : Prop := ∀ (M : PM) (pc : Nat) (lo st : List Value) (S : PS) (Q : PQ) (M' : PM) (x i n : Nat) (As st0 : List Value) (Qm : PQ), decode (pmB M) pc = .ok (.invokevirtual x, 3) → iOk M' n → lOk (pmY M).cls x (pmY M') → pmV M' < pmV M → rOk i (pmY M').cls → As.length = n → st0 = As.reverse ++ .ref i :: st → (st.map fun v => v.category).sum ≤ 8 → (pEl (.ref i :: As)).length ≤ pmL M' → (P M' 0 (pL0 M' (.ref i :: As)) [] S Qm) → (∀ (r : Option Value) (S' : PS), Qm r S' → P M (pc + 3) lo (r.toList ++ st) S' Q) → P M pc lo st0 S Q
def C_callS (sc : PSc) (P : PP) : Prop := ∀ (M : PM) (pc : Nat) (lo st : List Value) (S : PS) (Q : PQ) (M' : PM) (x n : Nat) (As st0 : List Value) (Qm : PQ), decode (pmB M) pc = .ok (.invokestatic x, 3) → jOk M' n → lOk (pmY M).cls x (pmY M') → pmV M' < pmV M → As.length = n → st0 = As.reverse ++ st → (st.map fun v => v.category).sum ≤ 8 → (pEl As).length ≤ pmL M' → (P M' 0 (pL0 M' As) [] S Qm) → (∀ (r : Option Value) (S' : PS), Qm r S' → P M (pc + 3) lo (r.toList ++ st) S' Q) → P M pc lo st0 S Q
def CG0 (sc : PSc) (P : PP) : Prop := C_iconst sc P ∧ C_bipush sc P ∧ C_sipush sc P ∧ C_lconst sc P ∧ C_ldc sc P ∧ C_ldcw sc P ∧ C_ldc2 sc P ∧ C_ldcS sc P
def CG1 (sc : PSc) (P : PP) : Prop := C_iload_n sc P ∧ C_iload sc P ∧ C_lload_n sc P ∧ C_lload sc P ∧ C_aload_n sc P ∧ C_aload sc P ∧ C_istore_n sc P ∧ C_istore sc P
def CG2 (sc : PSc) (P : PP) : Prop := C_astore_n sc P ∧ C_astore sc P ∧ C_lstore_n sc P ∧ C_lstore sc P ∧ C_iinc sc P ∧ C_iadd sc P ∧ C_isub sc P ∧ C_imul sc P
def CG3 (sc : PSc) (P : PP) : Prop := C_iand sc P ∧ C_ior sc P ∧ C_ishl sc P ∧ C_ishr sc P ∧ C_iushr sc P ∧ C_irem sc P ∧ C_ladd sc P ∧ C_lmul sc P
def CG4 (sc : PSc) (P : PP) : Prop := C_ldiv sc P ∧ C_lrem sc P ∧ C_lcmp sc P ∧ C_ineg sc P ∧ C_i2l sc P ∧ C_i2b sc P ∧ C_i2s sc P ∧ C_i2c sc P
def CG5 (sc : PSc) (P : PP) : Prop := C_dup sc P ∧ C_pop sc P ∧ C_dup2 sc P ∧ C_getI sc P ∧ C_getR sc P ∧ C_putI sc P ∧ C_iald sc P ∧ C_iast sc P
def CG6 (sc : PSc) (P : PP) : Prop := C_bald sc P ∧ C_bast sc P ∧ C_zald sc P ∧ C_zast sc P ∧ C_lald sc P ∧ C_last sc P ∧ C_aald sc P ∧ C_sld sc P
def CG7 (sc : PSc) (P : PP) : Prop := C_slen sc P ∧ C_getSV sc P ∧ C_getSC sc P ∧ C_alenS sc P ∧ C_baldS sc P ∧ C_getsC sc P ∧ C_getsR sc P ∧ C_mmax sc P
def CG8 (sc : PSc) (P : PP) : Prop := C_mabs sc P ∧ C_if_eq sc P ∧ C_if_ne sc P ∧ C_if_lt sc P ∧ C_if_ge sc P ∧ C_if_gt sc P ∧ C_if_le sc P ∧ C_icmp_eq sc P
def CG9 (sc : PSc) (P : PP) : Prop := C_icmp_ne sc P ∧ C_icmp_lt sc P ∧ C_icmp_ge sc P ∧ C_icmp_gt sc P ∧ C_icmp_le sc P ∧ C_goto sc P ∧ C_table sc P ∧ C_lookup sc P
def CG10 (sc : PSc) (P : PP) : Prop := C_iret sc P ∧ C_lret sc P ∧ C_vret sc P ∧ C_callV sc P ∧ C_callS sc P
def Cl (sc : PSc) (P : PP) : Prop := CG0 sc P ∧ CG1 sc P ∧ CG2 sc P ∧ CG3 sc P ∧ CG4 sc P ∧ CG5 sc P ∧ CG6 sc P ∧ CG7 sc P ∧ CG8 sc P ∧ CG9 sc P ∧ CG10 sc P
/-- the plain machine: least of all that keep the rules -/
def E (sc : PSc) (M : PM) (pc : Nat) (lo st : List Value) (S : PS) (Q : PQ) : Prop := ∀ P : PP, Cl sc P → P M pc lo st S Q
end
section
theorem e_iconst {sc : PSc} {M : PM} {pc : Nat} {lo st : List Value} {S : PS} {Q : PQ} {n : Int} (h0 : decode (pmB M) pc = .ok (.iconst n, 1)) (k0 : E sc M (pc + 1) lo (.int (Int32.ofInt n) :: st) S Q) : E sc M pc lo st S Q := fun P hP => hP.1.1 M pc lo st S Q n h0 (k0 P hP)
theorem e_bipush {sc : PSc} {M : PM} {pc : Nat} {lo st : List Value} {S : PS} {Q : PQ} {n : Int} (h0 : decode (pmB M) pc = .ok (.bipush n, 2)) (k0 : E sc M (pc + 2) lo (.int (Int8.ofInt n).toInt32 :: st) S Q) : E sc M pc lo st S Q := fun P hP => hP.1.2.1 M pc lo st S Q n h0 (k0 P hP)
theorem e_sipush {sc : PSc} {M : PM} {pc : Nat} {lo st : List Value} {S : PS} {Q : PQ} {n : Int} (h0 : decode (pmB M) pc = .ok (.sipush n, 3)) (k0 : E sc M (pc + 3) lo (.int (Int16.ofInt n).toInt32 :: st) S Q) : E sc M pc lo st S Q := fun P hP => hP.1.2.2.1 M pc lo st S Q n h0 (k0 P hP)
theorem e_lconst {sc : PSc} {M : PM} {pc : Nat} {lo st : List Value} {S : PS} {Q : PQ} {n : Fin 2} (h0 : decode (pmB M) pc = .ok (.lconst n, 1)) (k0 : E sc M (pc + 1) lo (.long (Int64.ofNat (n : Nat)) :: st) S Q) : E sc M pc lo st S Q := fun P hP => hP.1.2.2.2.1 M pc lo st S Q n h0 (k0 P hP)
theorem e_ldc {sc : PSc} {M : PM} {pc : Nat} {lo st : List Value} {S : PS} {Q : PQ} {x : Nat} {v : Int32} (h0 : decode (pmB M) pc = .ok (.ldc x, 2)) (h1 : kOk M x v) (k0 : E sc M (pc + 2) lo (.int v :: st) S Q) : E sc M pc lo st S Q := fun P hP => hP.1.2.2.2.2.1 M pc lo st S Q x v h0 h1 (k0 P hP)
theorem e_ldcw {sc : PSc} {M : PM} {pc : Nat} {lo st : List Value} {S : PS} {Q : PQ} {x : Nat} {v : Int32} (h0 : decode (pmB M) pc = .ok (.ldc_w x, 3)) (h1 : kOk M x v) (k0 : E sc M (pc + 3) lo (.int v :: st) S Q) : E sc M pc lo st S Q := fun P hP => hP.1.2.2.2.2.2.1 M pc lo st S Q x v h0 h1 (k0 P hP)
theorem e_ldc2 {sc : PSc} {M : PM} {pc : Nat} {lo st : List Value} {S : PS} {Q : PQ} {x : Nat} {v : Int64} (h0 : decode (pmB M) pc = .ok (.ldc2_w x, 3)) (h1 : kkOk M x v) (k0 : E sc M (pc + 3) lo (.long v :: st) S Q) : E sc M pc lo st S Q := fun P hP => hP.1.2.2.2.2.2.2.1 M pc lo st S Q x v h0 h1 (k0 P hP)
theorem e_ldcS {sc : PSc} {M : PM} {pc : Nat} {lo st : List Value} {S : PS} {Q : PQ} {x k : Nat} (h0 : decode (pmB M) pc = .ok (.ldc x, 2)) (h1 : strOk M x k) (k0 : E sc M (pc + 2) lo (.ref (100 + k) :: st) S Q) : E sc M pc lo st S Q := fun P hP => hP.1.2.2.2.2.2.2.2 M pc lo st S Q x k h0 h1 (k0 P hP)
theorem e_iload_n {sc : PSc} {M : PM} {pc : Nat} {lo st : List Value} {S : PS} {Q : PQ} {n : Fin 4} {i : Nat} {x : Int32} (h0 : decode (pmB M) pc = .ok (.iload_n n, 1)) (h1 : (n : Nat) = i) (h2 : lo[i]? = some (.int x)) (k0 : E sc M (pc + 1) lo (.int x :: st) S Q) : E sc M pc lo st S Q := fun P hP => hP.2.1.1 M pc lo st S Q n i x h0 h1 h2 (k0 P hP)
theorem e_iload {sc : PSc} {M : PM} {pc : Nat} {lo st : List Value} {S : PS} {Q : PQ} {i : Nat} {x : Int32} (h0 : decode (pmB M) pc = .ok (.iload i, 2)) (h1 : lo[i]? = some (.int x)) (k0 : E sc M (pc + 2) lo (.int x :: st) S Q) : E sc M pc lo st S Q := fun P hP => hP.2.1.2.1 M pc lo st S Q i x h0 h1 (k0 P hP)
theorem e_lload_n {sc : PSc} {M : PM} {pc : Nat} {lo st : List Value} {S : PS} {Q : PQ} {n : Fin 4} {i : Nat} {x : Int64} (h0 : decode (pmB M) pc = .ok (.lload_n n, 1)) (h1 : (n : Nat) = i) (h2 : lo[i]? = some (.long x)) (k0 : E sc M (pc + 1) lo (.long x :: st) S Q) : E sc M pc lo st S Q := fun P hP => hP.2.1.2.2.1 M pc lo st S Q n i x h0 h1 h2 (k0 P hP)
theorem e_lload {sc : PSc} {M : PM} {pc : Nat} {lo st : List Value} {S : PS} {Q : PQ} {i : Nat} {x : Int64} (h0 : decode (pmB M) pc = .ok (.lload i, 2)) (h1 : lo[i]? = some (.long x)) (k0 : E sc M (pc + 2) lo (.long x :: st) S Q) : E sc M pc lo st S Q := fun P hP => hP.2.1.2.2.2.1 M pc lo st S Q i x h0 h1 (k0 P hP)
theorem e_aload_n {sc : PSc} {M : PM} {pc : Nat} {lo st : List Value} {S : PS} {Q : PQ} {n : Fin 4} {i : Nat} {x : Nat} (h0 : decode (pmB M) pc = .ok (.aload_n n, 1)) (h1 : (n : Nat) = i) (h2 : lo[i]? = some (.ref x)) (k0 : E sc M (pc + 1) lo (.ref x :: st) S Q) : E sc M pc lo st S Q := fun P hP => hP.2.1.2.2.2.2.1 M pc lo st S Q n i x h0 h1 h2 (k0 P hP)
theorem e_aload {sc : PSc} {M : PM} {pc : Nat} {lo st : List Value} {S : PS} {Q : PQ} {i : Nat} {x : Nat} (h0 : decode (pmB M) pc = .ok (.aload i, 2)) (h1 : lo[i]? = some (.ref x)) (k0 : E sc M (pc + 2) lo (.ref x :: st) S Q) : E sc M pc lo st S Q := fun P hP => hP.2.1.2.2.2.2.2.1 M pc lo st S Q i x h0 h1 (k0 P hP)
theorem e_istore_n {sc : PSc} {M : PM} {pc : Nat} {lo st : List Value} {S : PS} {Q : PQ} {n : Fin 4} {i : Nat} {x : Int32} (h0 : decode (pmB M) pc = .ok (.istore_n n, 1)) (h1 : (n : Nat) = i) (h2 : i < pmL M) (h3 : pre2 lo i = true) (k0 : E sc M (pc + 1) (lo.set i (.int x)) st S Q) : E sc M pc lo (.int x :: st) S Q := fun P hP => hP.2.1.2.2.2.2.2.2.1 M pc lo st S Q n i x h0 h1 h2 h3 (k0 P hP)
theorem e_istore {sc : PSc} {M : PM} {pc : Nat} {lo st : List Value} {S : PS} {Q : PQ} {i : Nat} {x : Int32} (h0 : decode (pmB M) pc = .ok (.istore i, 2)) (h1 : i < pmL M) (h2 : pre2 lo i = true) (k0 : E sc M (pc + 2) (lo.set i (.int x)) st S Q) : E sc M pc lo (.int x :: st) S Q := fun P hP => hP.2.1.2.2.2.2.2.2.2 M pc lo st S Q i x h0 h1 h2 (k0 P hP)
theorem e_astore_n {sc : PSc} {M : PM} {pc : Nat} {lo st : List Value} {S : PS} {Q : PQ} {n : Fin 4} {i : Nat} {x : Nat} (h0 : decode (pmB M) pc = .ok (.astore_n n, 1)) (h1 : (n : Nat) = i) (h2 : i < pmL M) (h3 : pre2 lo i = true) (k0 : E sc M (pc + 1) (lo.set i (.ref x)) st S Q) : E sc M pc lo (.ref x :: st) S Q := fun P hP => hP.2.2.1.1 M pc lo st S Q n i x h0 h1 h2 h3 (k0 P hP)
theorem e_astore {sc : PSc} {M : PM} {pc : Nat} {lo st : List Value} {S : PS} {Q : PQ} {i : Nat} {x : Nat} (h0 : decode (pmB M) pc = .ok (.astore i, 2)) (h1 : i < pmL M) (h2 : pre2 lo i = true) (k0 : E sc M (pc + 2) (lo.set i (.ref x)) st S Q) : E sc M pc lo (.ref x :: st) S Q := fun P hP => hP.2.2.1.2.1 M pc lo st S Q i x h0 h1 h2 (k0 P hP)
theorem e_lstore_n {sc : PSc} {M : PM} {pc : Nat} {lo st : List Value} {S : PS} {Q : PQ} {n : Fin 4} {i : Nat} {x : Int64} (h0 : decode (pmB M) pc = .ok (.lstore_n n, 1)) (h1 : (n : Nat) = i) (h2 : i + 1 < pmL M) (h3 : pre2 lo i = true) (k0 : E sc M (pc + 1) ((lo.set i (.long x)).set (i + 1) .null) st S Q) : E sc M pc lo (.long x :: st) S Q := fun P hP => hP.2.2.1.2.2.1 M pc lo st S Q n i x h0 h1 h2 h3 (k0 P hP)
theorem e_lstore {sc : PSc} {M : PM} {pc : Nat} {lo st : List Value} {S : PS} {Q : PQ} {i : Nat} {x : Int64} (h0 : decode (pmB M) pc = .ok (.lstore i, 2)) (h1 : i + 1 < pmL M) (h2 : pre2 lo i = true) (k0 : E sc M (pc + 2) ((lo.set i (.long x)).set (i + 1) .null) st S Q) : E sc M pc lo (.long x :: st) S Q := fun P hP => hP.2.2.1.2.2.2.1 M pc lo st S Q i x h0 h1 h2 (k0 P hP)
theorem e_iinc {sc : PSc} {M : PM} {pc : Nat} {lo st : List Value} {S : PS} {Q : PQ} {i : Nat} {n : Int} {x : Int32} (h0 : decode (pmB M) pc = .ok (.iinc i n, 3)) (h1 : lo[i]? = some (.int x)) (h2 : i < pmL M) (h3 : pre2 lo i = true) (k0 : E sc M (pc + 3) (lo.set i (.int (x + Int32.ofInt n))) st S Q) : E sc M pc lo st S Q := fun P hP => hP.2.2.1.2.2.2.2.1 M pc lo st S Q i n x h0 h1 h2 h3 (k0 P hP)
theorem e_iadd {sc : PSc} {M : PM} {pc : Nat} {lo st : List Value} {S : PS} {Q : PQ} {x y : Int32} (h0 : decode (pmB M) pc = .ok (.iadd, 1)) (k0 : E sc M (pc + 1) lo (.int (x + y) :: st) S Q) : E sc M pc lo (.int y :: .int x :: st) S Q := fun P hP => hP.2.2.1.2.2.2.2.2.1 M pc lo st S Q x y h0 (k0 P hP)
theorem e_isub {sc : PSc} {M : PM} {pc : Nat} {lo st : List Value} {S : PS} {Q : PQ} {x y : Int32} (h0 : decode (pmB M) pc = .ok (.isub, 1)) (k0 : E sc M (pc + 1) lo (.int (x - y) :: st) S Q) : E sc M pc lo (.int y :: .int x :: st) S Q := fun P hP => hP.2.2.1.2.2.2.2.2.2.1 M pc lo st S Q x y h0 (k0 P hP)
theorem e_imul {sc : PSc} {M : PM} {pc : Nat} {lo st : List Value} {S : PS} {Q : PQ} {x y : Int32} (h0 : decode (pmB M) pc = .ok (.imul, 1)) (k0 : E sc M (pc + 1) lo (.int (x * y) :: st) S Q) : E sc M pc lo (.int y :: .int x :: st) S Q := fun P hP => hP.2.2.1.2.2.2.2.2.2.2 M pc lo st S Q x y h0 (k0 P hP)
theorem e_iand {sc : PSc} {M : PM} {pc : Nat} {lo st : List Value} {S : PS} {Q : PQ} {x y : Int32} (h0 : decode (pmB M) pc = .ok (.iand, 1)) (k0 : E sc M (pc + 1) lo (.int (x &&& y) :: st) S Q) : E sc M pc lo (.int y :: .int x :: st) S Q := fun P hP => hP.2.2.2.1.1 M pc lo st S Q x y h0 (k0 P hP)
theorem e_ior {sc : PSc} {M : PM} {pc : Nat} {lo st : List Value} {S : PS} {Q : PQ} {x y : Int32} (h0 : decode (pmB M) pc = .ok (.ior, 1)) (k0 : E sc M (pc + 1) lo (.int (x ||| y) :: st) S Q) : E sc M pc lo (.int y :: .int x :: st) S Q := fun P hP => hP.2.2.2.1.2.1 M pc lo st S Q x y h0 (k0 P hP)
theorem e_ishl {sc : PSc} {M : PM} {pc : Nat} {lo st : List Value} {S : PS} {Q : PQ} {x y : Int32} (h0 : decode (pmB M) pc = .ok (.ishl, 1)) (k0 : E sc M (pc + 1) lo (.int (x <<< (y &&& 31)) :: st) S Q) : E sc M pc lo (.int y :: .int x :: st) S Q := fun P hP => hP.2.2.2.1.2.2.1 M pc lo st S Q x y h0 (k0 P hP)
theorem e_ishr {sc : PSc} {M : PM} {pc : Nat} {lo st : List Value} {S : PS} {Q : PQ} {x y : Int32} (h0 : decode (pmB M) pc = .ok (.ishr, 1)) (k0 : E sc M (pc + 1) lo (.int (x >>> (y &&& 31)) :: st) S Q) : E sc M pc lo (.int y :: .int x :: st) S Q := fun P hP => hP.2.2.2.1.2.2.2.1 M pc lo st S Q x y h0 (k0 P hP)
theorem e_iushr {sc : PSc} {M : PM} {pc : Nat} {lo st : List Value} {S : PS} {Q : PQ} {x y : Int32} (h0 : decode (pmB M) pc = .ok (.iushr, 1)) (k0 : E sc M (pc + 1) lo (.int ((x.toUInt32 >>> (y.toUInt32 &&& Int32.toUInt32 31)).toInt32) :: st) S Q) : E sc M pc lo (.int y :: .int x :: st) S Q := fun P hP => hP.2.2.2.1.2.2.2.2.1 M pc lo st S Q x y h0 (k0 P hP)
theorem e_irem {sc : PSc} {M : PM} {pc : Nat} {lo st : List Value} {S : PS} {Q : PQ} {x y : Int32} (h0 : decode (pmB M) pc = .ok (.irem, 1)) (h1 : ¬ y = 0) (k0 : E sc M (pc + 1) lo (.int (x - x / y * y) :: st) S Q) : E sc M pc lo (.int y :: .int x :: st) S Q := fun P hP => hP.2.2.2.1.2.2.2.2.2.1 M pc lo st S Q x y h0 h1 (k0 P hP)
theorem e_ladd {sc : PSc} {M : PM} {pc : Nat} {lo st : List Value} {S : PS} {Q : PQ} {x y : Int64} (h0 : decode (pmB M) pc = .ok (.ladd, 1)) (k0 : E sc M (pc + 1) lo (.long (x + y) :: st) S Q) : E sc M pc lo (.long y :: .long x :: st) S Q := fun P hP => hP.2.2.2.1.2.2.2.2.2.2.1 M pc lo st S Q x y h0 (k0 P hP)
theorem e_lmul {sc : PSc} {M : PM} {pc : Nat} {lo st : List Value} {S : PS} {Q : PQ} {x y : Int64} (h0 : decode (pmB M) pc = .ok (.lmul, 1)) (k0 : E sc M (pc + 1) lo (.long (x * y) :: st) S Q) : E sc M pc lo (.long y :: .long x :: st) S Q := fun P hP => hP.2.2.2.1.2.2.2.2.2.2.2 M pc lo st S Q x y h0 (k0 P hP)
theorem e_ldiv {sc : PSc} {M : PM} {pc : Nat} {lo st : List Value} {S : PS} {Q : PQ} {x y : Int64} (h0 : decode (pmB M) pc = .ok (.ldiv, 1)) (h1 : ¬ y = 0) (k0 : E sc M (pc + 1) lo (.long (x / y) :: st) S Q) : E sc M pc lo (.long y :: .long x :: st) S Q := fun P hP => hP.2.2.2.2.1.1 M pc lo st S Q x y h0 h1 (k0 P hP)
theorem e_lrem {sc : PSc} {M : PM} {pc : Nat} {lo st : List Value} {S : PS} {Q : PQ} {x y : Int64} (h0 : decode (pmB M) pc = .ok (.lrem, 1)) (h1 : ¬ y = 0) (k0 : E sc M (pc + 1) lo (.long (x - x / y * y) :: st) S Q) : E sc M pc lo (.long y :: .long x :: st) S Q := fun P hP => hP.2.2.2.2.1.2.1 M pc lo st S Q x y h0 h1 (k0 P hP)
theorem e_lcmp {sc : PSc} {M : PM} {pc : Nat} {lo st : List Value} {S : PS} {Q : PQ} {x y : Int64} (h0 : decode (pmB M) pc = .ok (.lcmp, 1)) (k0 : E sc M (pc + 1) lo (.int (lg_cmp x y) :: st) S Q) : E sc M pc lo (.long y :: .long x :: st) S Q := fun P hP => hP.2.2.2.2.1.2.2.1 M pc lo st S Q x y h0 (k0 P hP)
theorem e_ineg {sc : PSc} {M : PM} {pc : Nat} {lo st : List Value} {S : PS} {Q : PQ} {x : Int32} (h0 : decode (pmB M) pc = .ok (.ineg, 1)) (k0 : E sc M (pc + 1) lo (.int (-x) :: st) S Q) : E sc M pc lo (.int x :: st) S Q := fun P hP => hP.2.2.2.2.1.2.2.2.1 M pc lo st S Q x h0 (k0 P hP)
theorem e_i2l {sc : PSc} {M : PM} {pc : Nat} {lo st : List Value} {S : PS} {Q : PQ} {x : Int32} (h0 : decode (pmB M) pc = .ok (.i2l, 1)) (k0 : E sc M (pc + 1) lo (.long x.toInt64 :: st) S Q) : E sc M pc lo (.int x :: st) S Q := fun P hP => hP.2.2.2.2.1.2.2.2.2.1 M pc lo st S Q x h0 (k0 P hP)
theorem e_i2b {sc : PSc} {M : PM} {pc : Nat} {lo st : List Value} {S : PS} {Q : PQ} {x : Int32} (h0 : decode (pmB M) pc = .ok (.i2b, 1)) (k0 : E sc M (pc + 1) lo (.int x.toInt8.toInt32 :: st) S Q) : E sc M pc lo (.int x :: st) S Q := fun P hP => hP.2.2.2.2.1.2.2.2.2.2.1 M pc lo st S Q x h0 (k0 P hP)
theorem e_i2s {sc : PSc} {M : PM} {pc : Nat} {lo st : List Value} {S : PS} {Q : PQ} {x : Int32} (h0 : decode (pmB M) pc = .ok (.i2s, 1)) (k0 : E sc M (pc + 1) lo (.int x.toInt16.toInt32 :: st) S Q) : E sc M pc lo (.int x :: st) S Q := fun P hP => hP.2.2.2.2.1.2.2.2.2.2.2.1 M pc lo st S Q x h0 (k0 P hP)
theorem e_i2c {sc : PSc} {M : PM} {pc : Nat} {lo st : List Value} {S : PS} {Q : PQ} {x : Int32} (h0 : decode (pmB M) pc = .ok (.i2c, 1)) (k0 : E sc M (pc + 1) lo (.int (x.toUInt32 % 65536).toInt32 :: st) S Q) : E sc M pc lo (.int x :: st) S Q := fun P hP => hP.2.2.2.2.1.2.2.2.2.2.2.2 M pc lo st S Q x h0 (k0 P hP)
theorem e_dup {sc : PSc} {M : PM} {pc : Nat} {lo st : List Value} {S : PS} {Q : PQ} {v : Value} (h0 : decode (pmB M) pc = .ok (.dup, 1)) (h1 : v.category = 1) (k0 : E sc M (pc + 1) lo (v :: v :: st) S Q) : E sc M pc lo (v :: st) S Q := fun P hP => hP.2.2.2.2.2.1.1 M pc lo st S Q v h0 h1 (k0 P hP)
theorem e_pop {sc : PSc} {M : PM} {pc : Nat} {lo st : List Value} {S : PS} {Q : PQ} {v : Value} (h0 : decode (pmB M) pc = .ok (.pop, 1)) (h1 : v.category = 1) (k0 : E sc M (pc + 1) lo st S Q) : E sc M pc lo (v :: st) S Q := fun P hP => hP.2.2.2.2.2.1.2.1 M pc lo st S Q v h0 h1 (k0 P hP)
theorem e_dup2 {sc : PSc} {M : PM} {pc : Nat} {lo st : List Value} {S : PS} {Q : PQ} {v w : Value} (h0 : decode (pmB M) pc = .ok (.dup2, 1)) (h1 : v.category = 1) (h2 : w.category = 1) (k0 : E sc M (pc + 1) lo (v :: w :: v :: w :: st) S Q) : E sc M pc lo (v :: w :: st) S Q := fun P hP => hP.2.2.2.2.2.1.2.2.1 M pc lo st S Q v w h0 h1 h2 (k0 P hP)
theorem e_getI {sc : PSc} {M : PM} {pc : Nat} {lo st : List Value} {S : PS} {Q : PQ} {x ci k i : Nat} {fs : List (Option Nat)} (h0 : decode (pmB M) pc = .ok (.getfield x, 3)) (h1 : fOk M x ci k) (h2 : shps[i]? = some (.inl (ci, fs))) (h3 : fs[k]? = some none) (k0 : E sc M (pc + 3) lo (.int (S.1 i k) :: st) S Q) : E sc M pc lo (.ref i :: st) S Q := fun P hP => hP.2.2.2.2.2.1.2.2.2.1 M pc lo st S Q x ci k i fs h0 h1 h2 h3 (k0 P hP)
theorem e_getR {sc : PSc} {M : PM} {pc : Nat} {lo st : List Value} {S : PS} {Q : PQ} {x ci k i j : Nat} {fs : List (Option Nat)} (h0 : decode (pmB M) pc = .ok (.getfield x, 3)) (h1 : fOk M x ci k) (h2 : shps[i]? = some (.inl (ci, fs))) (h3 : fs[k]? = some (some j)) (k0 : E sc M (pc + 3) lo (.ref j :: st) S Q) : E sc M pc lo (.ref i :: st) S Q := fun P hP => hP.2.2.2.2.2.1.2.2.2.2.1 M pc lo st S Q x ci k i j fs h0 h1 h2 h3 (k0 P hP)
theorem e_putI {sc : PSc} {M : PM} {pc : Nat} {lo st : List Value} {S : PS} {Q : PQ} {x ci k i : Nat} {fs : List (Option Nat)} {z : Bool} {v : Int32} (h0 : decode (pmB M) pc = .ok (.putfield x, 3)) (h1 : pOk M x ci k z) (h2 : shps[i]? = some (.inl (ci, fs))) (h3 : fs[k]? = some none) (h4 : (z = true → v = 0 ∨ v = 1)) (k0 : E sc M (pc + 3) lo st (up2 S.1 i k v, S.2) Q) : E sc M pc lo (.int v :: .ref i :: st) S Q := fun P hP => hP.2.2.2.2.2.1.2.2.2.2.2.1 M pc lo st S Q x ci k i fs z v h0 h1 h2 h3 h4 (k0 P hP)
theorem e_iald {sc : PSc} {M : PM} {pc : Nat} {lo st : List Value} {S : PS} {Q : PQ} {i n : Nat} {j : Int32} (h0 : decode (pmB M) pc = .ok (.iaload, 1)) (h1 : shps[i]? = some (.inr (.inl (0, n)))) (h2 : vp_in j n) (k0 : E sc M (pc + 1) lo (.int (S.1 i j.toNatClampNeg) :: st) S Q) : E sc M pc lo (.int j :: .ref i :: st) S Q := fun P hP => hP.2.2.2.2.2.1.2.2.2.2.2.2.1 M pc lo st S Q i n j h0 h1 h2 (k0 P hP)
theorem e_iast {sc : PSc} {M : PM} {pc : Nat} {lo st : List Value} {S : PS} {Q : PQ} {i n : Nat} {j v : Int32} (h0 : decode (pmB M) pc = .ok (.iastore, 1)) (h1 : shps[i]? = some (.inr (.inl (0, n)))) (h2 : vp_in j n) (k0 : E sc M (pc + 1) lo st (up2 S.1 i j.toNatClampNeg v, S.2) Q) : E sc M pc lo (.int v :: .int j :: .ref i :: st) S Q := fun P hP => hP.2.2.2.2.2.1.2.2.2.2.2.2.2 M pc lo st S Q i n j v h0 h1 h2 (k0 P hP)
theorem e_bald {sc : PSc} {M : PM} {pc : Nat} {lo st : List Value} {S : PS} {Q : PQ} {i n : Nat} {j : Int32} (h0 : decode (pmB M) pc = .ok (.baload, 1)) (h1 : shps[i]? = some (.inr (.inl (1, n)))) (h2 : vp_in j n) (k0 : E sc M (pc + 1) lo (.int (S.1 i j.toNatClampNeg) :: st) S Q) : E sc M pc lo (.int j :: .ref i :: st) S Q := fun P hP => hP.2.2.2.2.2.2.1.1 M pc lo st S Q i n j h0 h1 h2 (k0 P hP)
theorem e_bast {sc : PSc} {M : PM} {pc : Nat} {lo st : List Value} {S : PS} {Q : PQ} {i n : Nat} {j v : Int32} (h0 : decode (pmB M) pc = .ok (.bastore, 1)) (h1 : shps[i]? = some (.inr (.inl (1, n)))) (h2 : vp_in j n) (k0 : E sc M (pc + 1) lo st (up2 S.1 i j.toNatClampNeg (vp_nar .byte v), S.2) Q) : E sc M pc lo (.int v :: .int j :: .ref i :: st) S Q := fun P hP => hP.2.2.2.2.2.2.1.2.1 M pc lo st S Q i n j v h0 h1 h2 (k0 P hP)
theorem e_zald {sc : PSc} {M : PM} {pc : Nat} {lo st : List Value} {S : PS} {Q : PQ} {i n : Nat} {j : Int32} (h0 : decode (pmB M) pc = .ok (.baload, 1)) (h1 : shps[i]? = some (.inr (.inl (2, n)))) (h2 : vp_in j n) (k0 : E sc M (pc + 1) lo (.int (S.1 i j.toNatClampNeg) :: st) S Q) : E sc M pc lo (.int j :: .ref i :: st) S Q := fun P hP => hP.2.2.2.2.2.2.1.2.2.1 M pc lo st S Q i n j h0 h1 h2 (k0 P hP)
theorem e_zast {sc : PSc} {M : PM} {pc : Nat} {lo st : List Value} {S : PS} {Q : PQ} {i n : Nat} {j v : Int32} (h0 : decode (pmB M) pc = .ok (.bastore, 1)) (h1 : shps[i]? = some (.inr (.inl (2, n)))) (h2 : vp_in j n) (k0 : E sc M (pc + 1) lo st (up2 S.1 i j.toNatClampNeg (vp_nar .boolean v), S.2) Q) : E sc M pc lo (.int v :: .int j :: .ref i :: st) S Q := fun P hP => hP.2.2.2.2.2.2.1.2.2.2.1 M pc lo st S Q i n j v h0 h1 h2 (k0 P hP)
theorem e_lald {sc : PSc} {M : PM} {pc : Nat} {lo st : List Value} {S : PS} {Q : PQ} {i n : Nat} {j : Int32} (h0 : decode (pmB M) pc = .ok (.laload, 1)) (h1 : shps[i]? = some (.inr (.inr (.inl n)))) (h2 : vp_in j n) (k0 : E sc M (pc + 1) lo (.long (S.2 i j.toNatClampNeg) :: st) S Q) : E sc M pc lo (.int j :: .ref i :: st) S Q := fun P hP => hP.2.2.2.2.2.2.1.2.2.2.2.1 M pc lo st S Q i n j h0 h1 h2 (k0 P hP)
theorem e_last {sc : PSc} {M : PM} {pc : Nat} {lo st : List Value} {S : PS} {Q : PQ} {i n : Nat} {j : Int32} {v : Int64} (h0 : decode (pmB M) pc = .ok (.lastore, 1)) (h1 : shps[i]? = some (.inr (.inr (.inl n)))) (h2 : vp_in j n) (k0 : E sc M (pc + 1) lo st (S.1, up2 S.2 i j.toNatClampNeg v) Q) : E sc M pc lo (.long v :: .int j :: .ref i :: st) S Q := fun P hP => hP.2.2.2.2.2.2.1.2.2.2.2.2.1 M pc lo st S Q i n j v h0 h1 h2 (k0 P hP)
theorem e_aald {sc : PSc} {M : PM} {pc : Nat} {lo st : List Value} {S : PS} {Q : PQ} {i t r : Nat} {js : List Nat} {j : Int32} (h0 : decode (pmB M) pc = .ok (.aaload, 1)) (h1 : shps[i]? = some (.inr (.inr (.inr (t, js))))) (h2 : vp_in j js.length) (h3 : js[j.toNatClampNeg]? = some r) (k0 : E sc M (pc + 1) lo (.ref r :: st) S Q) : E sc M pc lo (.int j :: .ref i :: st) S Q := fun P hP => hP.2.2.2.2.2.2.1.2.2.2.2.2.2.1 M pc lo st S Q i t r js j h0 h1 h2 h3 (k0 P hP)
theorem e_sld {sc : PSc} {M : PM} {pc : Nat} {lo st : List Value} {S : PS} {Q : PQ} {j : Int32} (h0 : decode (pmB M) pc = .ok (.iaload, 1)) (h1 : vp_in j sc.1) (k0 : E sc M (pc + 1) lo (.int (sc.2 j.toNatClampNeg) :: st) S Q) : E sc M pc lo (.int j :: .ref 99 :: st) S Q := fun P hP => hP.2.2.2.2.2.2.1.2.2.2.2.2.2.2 M pc lo st S Q j h0 h1 (k0 P hP)
theorem e_slen {sc : PSc} {M : PM} {pc : Nat} {lo st : List Value} {S : PS} {Q : PQ}  (h0 : decode (pmB M) pc = .ok (.arraylength, 1)) (k0 : E sc M (pc + 1) lo (.int (Int32.ofNat sc.1) :: st) S Q) : E sc M pc lo (.ref 99 :: st) S Q := fun P hP => hP.2.2.2.2.2.2.2.1.1 M pc lo st S Q  h0 (k0 P hP)
theorem e_getSV {sc : PSc} {M : PM} {pc : Nat} {lo st : List Value} {S : PS} {Q : PQ} {x k : Nat} (h0 : decode (pmB M) pc = .ok (.getfield x, 3)) (h1 : k < 5) (h2 : sfOk M x "value" "[B") (k0 : E sc M (pc + 3) lo (.ref (200 + k) :: st) S Q) : E sc M pc lo (.ref (100 + k) :: st) S Q := fun P hP => hP.2.2.2.2.2.2.2.1.2.1 M pc lo st S Q x k h0 h1 h2 (k0 P hP)
theorem e_getSC {sc : PSc} {M : PM} {pc : Nat} {lo st : List Value} {S : PS} {Q : PQ} {x k : Nat} (h0 : decode (pmB M) pc = .ok (.getfield x, 3)) (h1 : k < 5) (h2 : sfOk M x "coder" "B") (k0 : E sc M (pc + 3) lo (.int 0 :: st) S Q) : E sc M pc lo (.ref (100 + k) :: st) S Q := fun P hP => hP.2.2.2.2.2.2.2.1.2.2.1 M pc lo st S Q x k h0 h1 h2 (k0 P hP)
theorem e_alenS {sc : PSc} {M : PM} {pc : Nat} {lo st : List Value} {S : PS} {Q : PQ} {k : Nat} (h0 : decode (pmB M) pc = .ok (.arraylength, 1)) (h1 : k < 5) (k0 : E sc M (pc + 1) lo (.int (Int32.ofNat (sLen.getD k 0)) :: st) S Q) : E sc M pc lo (.ref (200 + k) :: st) S Q := fun P hP => hP.2.2.2.2.2.2.2.1.2.2.2.1 M pc lo st S Q k h0 h1 (k0 P hP)
theorem e_baldS {sc : PSc} {M : PM} {pc : Nat} {lo st : List Value} {S : PS} {Q : PQ} {k : Nat} {j : Int32} (h0 : decode (pmB M) pc = .ok (.baload, 1)) (h1 : k < 5) (h2 : vp_in j (sLen.getD k 0)) (k0 : E sc M (pc + 1) lo (.int ((sByt.getD k []).getD j.toNatClampNeg 0) :: st) S Q) : E sc M pc lo (.int j :: .ref (200 + k) :: st) S Q := fun P hP => hP.2.2.2.2.2.2.2.1.2.2.2.2.1 M pc lo st S Q k j h0 h1 h2 (k0 P hP)
theorem e_getsC {sc : PSc} {M : PM} {pc : Nat} {lo st : List Value} {S : PS} {Q : PQ} {x : Nat} (h0 : decode (pmB M) pc = .ok (.getstatic x, 3)) (h1 : gsOk M x "java/lang/String" "COMPACT_STRINGS" "Z") (k0 : E sc M (pc + 3) lo (.int 1 :: st) S Q) : E sc M pc lo st S Q := fun P hP => hP.2.2.2.2.2.2.2.1.2.2.2.2.2.1 M pc lo st S Q x h0 h1 (k0 P hP)
theorem e_getsR {sc : PSc} {M : PM} {pc : Nat} {lo st : List Value} {S : PS} {Q : PQ} {x : Nat} (h0 : decode (pmB M) pc = .ok (.getstatic x, 3)) (h1 : gsOk M x "jdk/internal/util/Preconditions" "SIOOBE_FORMATTER" "Ljava/util/function/BiFunction;") (k0 : ∀ v : Value, v = .null ∨ v = .ref 98 → E sc M (pc + 3) lo (v :: st) S Q) : E sc M pc lo st S Q := fun P hP => hP.2.2.2.2.2.2.2.1.2.2.2.2.2.2.1 M pc lo st S Q x h0 h1 (fun v h => k0 v h P hP)
theorem e_mmax {sc : PSc} {M : PM} {pc : Nat} {lo st : List Value} {S : PS} {Q : PQ} {x : Nat} {a b : Int32} (h0 : decode (pmB M) pc = .ok (.invokestatic x, 3)) (h1 : mxOk M x) (h2 : 1 ≤ pmV M) (h3 : (st.map fun v => v.category).sum ≤ 8) (k0 : E sc M (pc + 3) lo (.int (if a < b then b else a) :: st) S Q) : E sc M pc lo (.int b :: .int a :: st) S Q := fun P hP => hP.2.2.2.2.2.2.2.1.2.2.2.2.2.2.2 M pc lo st S Q x a b h0 h1 h2 h3 (k0 P hP)
theorem e_mabs {sc : PSc} {M : PM} {pc : Nat} {lo st : List Value} {S : PS} {Q : PQ} {x : Nat} {a : Int32} (h0 : decode (pmB M) pc = .ok (.invokestatic x, 3)) (h1 : maOk M x) (h2 : 1 ≤ pmV M) (h3 : (st.map fun v => v.category).sum ≤ 8) (k0 : E sc M (pc + 3) lo (.int (if 0 ≤ a then a else 0 - a) :: st) S Q) : E sc M pc lo (.int a :: st) S Q := fun P hP => hP.2.2.2.2.2.2.2.2.1.1 M pc lo st S Q x a h0 h1 h2 h3 (k0 P hP)
theorem e_if_eq {sc : PSc} {M : PM} {pc : Nat} {lo st : List Value} {S : PS} {Q : PQ} {x : Int32} {off : Int} {tgt : Nat} (h0 : decode (pmB M) pc = .ok (.ifCond .eq off, 3)) (h1 : (pc : Int) + off = (tgt : Int)) (k0 : (x = 0) → E sc M tgt lo st S Q) (k1 : ¬ (x = 0) → E sc M (pc + 3) lo st S Q) : E sc M pc lo (.int x :: st) S Q := fun P hP => hP.2.2.2.2.2.2.2.2.1.2.1 M pc lo st S Q x off tgt h0 h1 (fun h => k0 h P hP) (fun h => k1 h P hP)
theorem e_if_ne {sc : PSc} {M : PM} {pc : Nat} {lo st : List Value} {S : PS} {Q : PQ} {x : Int32} {off : Int} {tgt : Nat} (h0 : decode (pmB M) pc = .ok (.ifCond .ne off, 3)) (h1 : (pc : Int) + off = (tgt : Int)) (k0 : (¬ x = 0) → E sc M tgt lo st S Q) (k1 : (x = 0) → E sc M (pc + 3) lo st S Q) : E sc M pc lo (.int x :: st) S Q := fun P hP => hP.2.2.2.2.2.2.2.2.1.2.2.1 M pc lo st S Q x off tgt h0 h1 (fun h => k0 h P hP) (fun h => k1 h P hP)
theorem e_if_lt {sc : PSc} {M : PM} {pc : Nat} {lo st : List Value} {S : PS} {Q : PQ} {x : Int32} {off : Int} {tgt : Nat} (h0 : decode (pmB M) pc = .ok (.ifCond .lt off, 3)) (h1 : (pc : Int) + off = (tgt : Int)) (k0 : (x < 0) → E sc M tgt lo st S Q) (k1 : ¬ (x < 0) → E sc M (pc + 3) lo st S Q) : E sc M pc lo (.int x :: st) S Q := fun P hP => hP.2.2.2.2.2.2.2.2.1.2.2.2.1 M pc lo st S Q x off tgt h0 h1 (fun h => k0 h P hP) (fun h => k1 h P hP)
theorem e_if_ge {sc : PSc} {M : PM} {pc : Nat} {lo st : List Value} {S : PS} {Q : PQ} {x : Int32} {off : Int} {tgt : Nat} (h0 : decode (pmB M) pc = .ok (.ifCond .ge off, 3)) (h1 : (pc : Int) + off = (tgt : Int)) (k0 : (0 ≤ x) → E sc M tgt lo st S Q) (k1 : ¬ (0 ≤ x) → E sc M (pc + 3) lo st S Q) : E sc M pc lo (.int x :: st) S Q := fun P hP => hP.2.2.2.2.2.2.2.2.1.2.2.2.2.1 M pc lo st S Q x off tgt h0 h1 (fun h => k0 h P hP) (fun h => k1 h P hP)
theorem e_if_gt {sc : PSc} {M : PM} {pc : Nat} {lo st : List Value} {S : PS} {Q : PQ} {x : Int32} {off : Int} {tgt : Nat} (h0 : decode (pmB M) pc = .ok (.ifCond .gt off, 3)) (h1 : (pc : Int) + off = (tgt : Int)) (k0 : (0 < x) → E sc M tgt lo st S Q) (k1 : ¬ (0 < x) → E sc M (pc + 3) lo st S Q) : E sc M pc lo (.int x :: st) S Q := fun P hP => hP.2.2.2.2.2.2.2.2.1.2.2.2.2.2.1 M pc lo st S Q x off tgt h0 h1 (fun h => k0 h P hP) (fun h => k1 h P hP)
theorem e_if_le {sc : PSc} {M : PM} {pc : Nat} {lo st : List Value} {S : PS} {Q : PQ} {x : Int32} {off : Int} {tgt : Nat} (h0 : decode (pmB M) pc = .ok (.ifCond .le off, 3)) (h1 : (pc : Int) + off = (tgt : Int)) (k0 : (x ≤ 0) → E sc M tgt lo st S Q) (k1 : ¬ (x ≤ 0) → E sc M (pc + 3) lo st S Q) : E sc M pc lo (.int x :: st) S Q := fun P hP => hP.2.2.2.2.2.2.2.2.1.2.2.2.2.2.2.1 M pc lo st S Q x off tgt h0 h1 (fun h => k0 h P hP) (fun h => k1 h P hP)
theorem e_icmp_eq {sc : PSc} {M : PM} {pc : Nat} {lo st : List Value} {S : PS} {Q : PQ} {x y : Int32} {off : Int} {tgt : Nat} (h0 : decode (pmB M) pc = .ok (.if_icmp .eq off, 3)) (h1 : (pc : Int) + off = (tgt : Int)) (k0 : (x = y) → E sc M tgt lo st S Q) (k1 : ¬ (x = y) → E sc M (pc + 3) lo st S Q) : E sc M pc lo (.int y :: .int x :: st) S Q := fun P hP => hP.2.2.2.2.2.2.2.2.1.2.2.2.2.2.2.2 M pc lo st S Q x y off tgt h0 h1 (fun h => k0 h P hP) (fun h => k1 h P hP)
theorem e_icmp_ne {sc : PSc} {M : PM} {pc : Nat} {lo st : List Value} {S : PS} {Q : PQ} {x y : Int32} {off : Int} {tgt : Nat} (h0 : decode (pmB M) pc = .ok (.if_icmp .ne off, 3)) (h1 : (pc : Int) + off = (tgt : Int)) (k0 : (¬ x = y) → E sc M tgt lo st S Q) (k1 : (x = y) → E sc M (pc + 3) lo st S Q) : E sc M pc lo (.int y :: .int x :: st) S Q := fun P hP => hP.2.2.2.2.2.2.2.2.2.1.1 M pc lo st S Q x y off tgt h0 h1 (fun h => k0 h P hP) (fun h => k1 h P hP)
theorem e_icmp_lt {sc : PSc} {M : PM} {pc : Nat} {lo st : List Value} {S : PS} {Q : PQ} {x y : Int32} {off : Int} {tgt : Nat} (h0 : decode (pmB M) pc = .ok (.if_icmp .lt off, 3)) (h1 : (pc : Int) + off = (tgt : Int)) (k0 : (x < y) → E sc M tgt lo st S Q) (k1 : ¬ (x < y) → E sc M (pc + 3) lo st S Q) : E sc M pc lo (.int y :: .int x :: st) S Q := fun P hP => hP.2.2.2.2.2.2.2.2.2.1.2.1 M pc lo st S Q x y off tgt h0 h1 (fun h => k0 h P hP) (fun h => k1 h P hP)
theorem e_icmp_ge {sc : PSc} {M : PM} {pc : Nat} {lo st : List Value} {S : PS} {Q : PQ} {x y : Int32} {off : Int} {tgt : Nat} (h0 : decode (pmB M) pc = .ok (.if_icmp .ge off, 3)) (h1 : (pc : Int) + off = (tgt : Int)) (k0 : (y ≤ x) → E sc M tgt lo st S Q) (k1 : ¬ (y ≤ x) → E sc M (pc + 3) lo st S Q) : E sc M pc lo (.int y :: .int x :: st) S Q := fun P hP => hP.2.2.2.2.2.2.2.2.2.1.2.2.1 M pc lo st S Q x y off tgt h0 h1 (fun h => k0 h P hP) (fun h => k1 h P hP)
theorem e_icmp_gt {sc : PSc} {M : PM} {pc : Nat} {lo st : List Value} {S : PS} {Q : PQ} {x y : Int32} {off : Int} {tgt : Nat} (h0 : decode (pmB M) pc = .ok (.if_icmp .gt off, 3)) (h1 : (pc : Int) + off = (tgt : Int)) (k0 : (y < x) → E sc M tgt lo st S Q) (k1 : ¬ (y < x) → E sc M (pc + 3) lo st S Q) : E sc M pc lo (.int y :: .int x :: st) S Q := fun P hP => hP.2.2.2.2.2.2.2.2.2.1.2.2.2.1 M pc lo st S Q x y off tgt h0 h1 (fun h => k0 h P hP) (fun h => k1 h P hP)
theorem e_icmp_le {sc : PSc} {M : PM} {pc : Nat} {lo st : List Value} {S : PS} {Q : PQ} {x y : Int32} {off : Int} {tgt : Nat} (h0 : decode (pmB M) pc = .ok (.if_icmp .le off, 3)) (h1 : (pc : Int) + off = (tgt : Int)) (k0 : (x ≤ y) → E sc M tgt lo st S Q) (k1 : ¬ (x ≤ y) → E sc M (pc + 3) lo st S Q) : E sc M pc lo (.int y :: .int x :: st) S Q := fun P hP => hP.2.2.2.2.2.2.2.2.2.1.2.2.2.2.1 M pc lo st S Q x y off tgt h0 h1 (fun h => k0 h P hP) (fun h => k1 h P hP)
theorem e_goto {sc : PSc} {M : PM} {pc : Nat} {lo st : List Value} {S : PS} {Q : PQ} {off : Int} {tgt : Nat} (h0 : decode (pmB M) pc = .ok (.goto off, 3)) (h1 : (pc : Int) + off = (tgt : Int)) (k0 : E sc M tgt lo st S Q) : E sc M pc lo st S Q := fun P hP => hP.2.2.2.2.2.2.2.2.2.1.2.2.2.2.2.1 M pc lo st S Q off tgt h0 h1 (k0 P hP)
theorem e_table {sc : PSc} {M : PM} {pc : Nat} {lo st : List Value} {S : PS} {Q : PQ} {x : Int32} {dflt lw hi : Int} {offs : Array Int} {len : Nat} (h0 : decode (pmB M) pc = .ok (.tableswitch dflt lw hi offs, len)) (k0 : ∃ tgt : Nat, (((x.toInt < lw ∨ hi < x.toInt) ∧ (pc : Int) + dflt = (tgt : Int)) ∨ (¬ x.toInt < lw ∧ ¬ hi < x.toInt ∧ ∃ off, offs[(x.toInt - lw).toNat]? = some off ∧ (pc : Int) + off = (tgt : Int))) ∧ E sc M tgt lo st S Q) : E sc M pc lo (.int x :: st) S Q := fun P hP => hP.2.2.2.2.2.2.2.2.2.1.2.2.2.2.2.2.1 M pc lo st S Q x dflt lw hi offs len h0 (by obtain ⟨tgt, h, k⟩ := k0; exact ⟨tgt, h, k P hP⟩)
theorem e_lookup {sc : PSc} {M : PM} {pc : Nat} {lo st : List Value} {S : PS} {Q : PQ} {x : Int32} {dflt : Int} {ps : Array (Int × Int)} {len : Nat} {tgt : Nat} (h0 : decode (pmB M) pc = .ok (.lookupswitch dflt ps, len)) (h1 : (ps.toList.zip (ps.toList.drop 1)).all (fun (a, next) => a.1 < next.1) = true) (h2 : (pc : Int) + Op.lookupswitch.offset ps.toList dflt x.toInt = (tgt : Int)) (k0 : E sc M tgt lo st S Q) : E sc M pc lo (.int x :: st) S Q := fun P hP => hP.2.2.2.2.2.2.2.2.2.1.2.2.2.2.2.2.2 M pc lo st S Q x dflt ps len tgt h0 h1 h2 (k0 P hP)
theorem e_iret {sc : PSc} {M : PM} {pc : Nat} {lo st : List Value} {S : PS} {Q : PQ} {x : Int32} {ty : FieldType} (h0 : decode (pmB M) pc = .ok (.ireturn, 1)) (h1 : pmR M = some ty) (h2 : narrow ty (.int x) = .int x) (k0 : Q (some (.int x)) S) : E sc M pc lo [.int x] S Q := fun P hP => hP.2.2.2.2.2.2.2.2.2.2.1 M pc lo st S Q x ty h0 h1 h2 k0
theorem e_lret {sc : PSc} {M : PM} {pc : Nat} {lo st : List Value} {S : PS} {Q : PQ} {x : Int64} (h0 : decode (pmB M) pc = .ok (.lreturn, 1)) (h1 : pmR M = some .long) (k0 : Q (some (.long x)) S) : E sc M pc lo [.long x] S Q := fun P hP => hP.2.2.2.2.2.2.2.2.2.2.2.1 M pc lo st S Q x h0 h1 k0
theorem e_vret {sc : PSc} {M : PM} {pc : Nat} {lo st : List Value} {S : PS} {Q : PQ}  (h0 : decode (pmB M) pc = .ok (.return_, 1)) (h1 : pmR M = none) (k0 : Q none S) : E sc M pc lo [] S Q := fun P hP => hP.2.2.2.2.2.2.2.2.2.2.2.2.1 M pc lo st S Q  h0 h1 k0
theorem e_callV {sc : PSc} {M : PM} {pc : Nat} {lo st : List Value} {S : PS} {Q : PQ} {M' : PM} {x i n : Nat} {As st0 : List Value}  (h0 : decode (pmB M) pc = .ok (.invokevirtual x, 3)) (h1 : iOk M' n) (h2 : lOk (pmY M).cls x (pmY M')) (h3 : pmV M' < pmV M) (h4 : rOk i (pmY M').cls) (h5 : As.length = n) (h6 : st0 = As.reverse ++ .ref i :: st) (h7 : (st.map fun v => v.category).sum ≤ 8) (h8 : (pEl (.ref i :: As)).length ≤ pmL M') (k0 : E sc M' 0 (pL0 M' (.ref i :: As)) [] S (fun r S' => E sc M (pc + 3) lo (r.toList ++ st) S' Q)) : E sc M pc lo st0 S Q := fun P hP => hP.2.2.2.2.2.2.2.2.2.2.2.2.2.1 M pc lo st S Q M' x i n As st0 _ h0 h1 h2 h3 h4 h5 h6 h7 h8 (k0 P hP) (fun r S' h => h P hP)
theorem e_callS {sc : PSc} {M : PM} {pc : Nat} {lo st : List Value} {S : PS} {Q : PQ} {M' : PM} {x n : Nat} {As st0 : List Value}  (h0 : decode (pmB M) pc = .ok (.invokestatic x, 3)) (h1 : jOk M' n) (h2 : lOk (pmY M).cls x (pmY M')) (h3 : pmV M' < pmV M) (h4 : As.length = n) (h5 : st0 = As.reverse ++ st) (h6 : (st.map fun v => v.category).sum ≤ 8) (h7 : (pEl As).length ≤ pmL M') (k0 : E sc M' 0 (pL0 M' As) [] S (fun r S' => E sc M (pc + 3) lo (r.toList ++ st) S' Q)) : E sc M pc lo st0 S Q := fun P hP => hP.2.2.2.2.2.2.2.2.2.2.2.2.2.2 M pc lo st S Q M' x n As st0 _ h0 h1 h2 h3 h4 h5 h6 h7 (k0 P hP) (fun r S' h => h P hP)
end
section
/-! THE PLAIN MACHINE IS SOUND: words -/
abbrev WG : Type := (Nat → ClassId) × (Nat → Nat → Nat) × (Nat → Nat) × (Nat → ClassId) × Nat × (Nat → Int32)
abbrev gD (g : WG) : va_G := (g.1, g.2.1)
abbrev gA (g : WG) : Nat → Nat := g.2.2.1
abbrev gC (g : WG) : Nat → ClassId := g.2.2.2.1
abbrev gS (g : WG) : PSc := g.2.2.2.2
def pEn (g : WG) (v : Value) : Value := match v with
  | .ref i => .ref (gA g i)
  | v => v
theorem pEn_cat (g : WG) (v : Value) : (pEn g v).category = v.category := by cases v <;> rfl
theorem pEn_sum (g : WG) (st : List Value) : ((st.map (pEn g)).map fun v => v.category) = st.map fun v => v.category := by
  rw [List.map_map]
  exact List.map_congr_left (fun v _ => pEn_cat g v)
def pcV (g : WG) (S : PS) (i k : Nat) (f : Option Nat) : Value := match f with
  | none => .int (S.1 i k)
  | some j => .ref (gA g j)
def pcE (g : WG) (S : PS) (i : Nat) (sh : Shp) : va_E := match sh with
  | .inl q => .inr (q.1, q.2.mapIdx (fun k f => pcV g S i k f))
  | .inr (.inl q) => .inl (gC g q.1, q.2, .inl (S.1 i))
  | .inr (.inr (.inl n)) => .inl (gC g 3, n, .inr (.inl (S.2 i)))
  | .inr (.inr (.inr q)) => .inl (gC g q.1, q.2.length, .inr (.inr (.inr (.inr (fun k => (q.2[k]?).map (gA g))))))
def pcW (g : WG) (S : PS) : va_W := shps.mapIdx (fun i sh => (gA g i, pcE g S i sh))
theorem pcW_at {g : WG} {S : PS} {i : Nat} {sh : Shp} (h : shps[i]? = some sh) : (pcW g S)[i]? = some (gA g i, pcE g S i sh) := by
  rw [pcW, List.getElem?_mapIdx, h]; rfl
theorem pcW_inv {g : WG} {S : PS} {i : Nat} {q : Nat × va_E} (h : (pcW g S)[i]? = some q) : ∃ sh, shps[i]? = some sh ∧ q = (gA g i, pcE g S i sh) := by
  rw [pcW, List.getElem?_mapIdx] at h
  cases hs : shps[i]? with
  | none => rw [hs] at h; cases h
  | some sh => rw [hs] at h; cases h; exact ⟨sh, rfl, rfl⟩
theorem pcE_cong {g : WG} {S S2 : PS} {i : Nat} (h1 : S2.1 i = S.1 i) (h2 : S2.2 i = S.2 i) (sh : Shp) : pcE g S2 i sh = pcE g S i sh := by
  unfold pcE
  split
  · congr 2
    congr 1
    funext k f
    cases f with
    | none => show Value.int (S2.1 i k) = .int (S.1 i k); rw [h1]
    | some j => rfl
  · rw [h1]
  · rw [h2]
  · rfl
theorem pcW_set {g : WG} {S S2 : PS} {i : Nat} {sh : Shp} {e : va_E} (hs : shps[i]? = some sh) (he : pcE g S2 i sh = e) (hf : ∀ j, j ≠ i → S2.1 j = S.1 j ∧ S2.2 j = S.2 j) : (pcW g S).set i (gA g i, e) = pcW g S2 := by
  apply List.ext_getElem?
  intro j
  by_cases hj : j = i
  · subst hj
    have hl : j < (pcW g S).length := (List.getElem?_eq_some_iff.mp (pcW_at (g := g) (S := S) hs)).1
    rw [List.getElem?_set_self hl, pcW_at hs, he]
  · rw [List.getElem?_set_ne (Ne.symm hj)]
    cases hs2 : shps[j]? with
    | none => rw [pcW, pcW, List.getElem?_mapIdx, List.getElem?_mapIdx, hs2]; rfl
    | some s2 => rw [pcW_at hs2, pcW_at hs2, pcE_cong (hf j hj).1 (hf j hj).2]
theorem pcW_D {g : WG} {S S2 : PS} {A : Nat → Prop} (h : va_D A (pcW g S)) : va_D A (pcW g S2) := by
  refine ⟨fun i j x y hi hj hxy => ?_, fun k q hk => ?_⟩
  · obtain ⟨s1, a1, rfl⟩ := pcW_inv hi
    obtain ⟨s2, a2, rfl⟩ := pcW_inv hj
    exact h.1 i j _ _ (pcW_at a1) (pcW_at a2) hxy
  · obtain ⟨s1, a1, rfl⟩ := pcW_inv hk
    exact (h.2 k (gA g k, pcE g S k s1) (pcW_at a1) : A (gA g k))
theorem pcW_A {g : WG} {S S2 : PS} {sz q : Nat} (h : va_A (pcW g S) sz q) : va_A (pcW g S2) sz q := by
  rcases h with ⟨k, e, h⟩ | h
  · obtain ⟨s1, a1, e1⟩ := pcW_inv h
    cases e1
    exact Or.inl ⟨k, _, pcW_at a1⟩
  · exact Or.inr h
theorem up2_at {α : Type} (f : Nat → Nat → α) (i k : Nat) (v : α) : up2 f i k v i = fun b => if b = k then v else f i b := by
  funext b
  simp [up2]
theorem up2_ne {α : Type} (f : Nat → Nat → α) {i j : Nat} (k : Nat) (v : α) (h : j ≠ i) : up2 f i k v j = f j := by
  funext b
  simp [up2, h]
def pcT (g : WG) : List (ClassId × FieldType) := tyT.mapIdx (fun t ty => (gC g t, ty))
theorem sh_ref : shps.all (fun sh => match sh with | .inr (.inr (.inr (t, _))) => (tyT[t]?).any FieldType.isReference | _ => true) = true := by decide +kernel
theorem sh_ref' {i t : Nat} {js : List Nat} (h : shps[i]? = some (.inr (.inr (.inr (t, js))))) : ∃ ty, tyT[t]? = some ty ∧ ty.isReference = true := by
  have h1 := List.all_eq_true.mp sh_ref _ (List.mem_of_getElem? h)
  dsimp only at h1
  cases ht : tyT[t]? with
  | none => rw [ht] at h1; cases h1
  | some ty => rw [ht] at h1; exact ⟨ty, rfl, h1⟩
theorem pcT_at {g : WG} {t : Nat} {ty : FieldType} (h : tyT[t]? = some ty) : (pcT g)[t]? = some (gC g t, ty) := by
  rw [pcT, List.getElem?_mapIdx, h]; rfl
/-! locals -/
def pLo (g : WG) (ls : Array Slot) (nL : Nat) (lo : List Value) : Prop := ls.size = nL ∧ lv_wf ls ∧ ∀ (i : Nat) (v : Value), lo[i]? = some v → v ≠ .null → ls[i]? = some (.val (pEn g v))
def pLv (g : WG) (lo : List Value) : List (Nat × Value) := (lo.mapIdx (fun i v => (i, v))).filterMap (fun q => if q.2 = .null then none else some (q.1, pEn g q.2))
theorem pLv_in {g : WG} {lo : List Value} {i : Nat} {v : Value} (h : lo[i]? = some v) (hn : v ≠ .null) : (i, pEn g v) ∈ pLv g lo := by
  unfold pLv
  refine List.mem_filterMap.mpr ⟨(i, v), List.mem_of_getElem? (i := i) (by rw [List.getElem?_mapIdx, h]; rfl), ?_⟩
  simp [hn]
theorem pLv_of {g : WG} {lo : List Value} {q : Nat × Value} (h : q ∈ pLv g lo) : ∃ v, lo[q.1]? = some v ∧ v ≠ .null ∧ q.2 = pEn g v := by
  unfold pLv at h
  obtain ⟨x, hx, hq⟩ := List.mem_filterMap.mp h
  obtain ⟨k, hk⟩ := List.getElem?_of_mem hx
  rw [List.getElem?_mapIdx] at hk
  cases hl : lo[k]? with
  | none => rw [hl] at hk; cases hk
  | some v =>
    rw [hl] at hk
    cases hk
    by_cases hv : v = .null
    · simp [hv] at hq
    · simp [hv] at hq
      subst hq
      exact ⟨v, hl, hv, rfl⟩
theorem pLo.has {g : WG} {ls : Array Slot} {nL : Nat} {lo : List Value} (h : pLo g ls nL lo) : lv_has ls nL (pLv g lo) := by
  refine ⟨h.1, h.2.1, fun q hq => ?_⟩
  obtain ⟨v, h1, h2, h3⟩ := pLv_of hq
  rw [h3]
  exact h.2.2 _ v h1 h2
theorem pre2_cat {lo : List Value} {j : Nat} {v : Value} (h : pre2 lo (j + 1) = true) (hv : lo[j]? = some v) : v.category = 1 := by
  have h : (match lo[j]? with | some (.long _) => false | some (.double _) => false | _ => true) = true := h
  rw [hv] at h
  cases v <;> first | rfl | (simp at h)
theorem pLo.of1 {g : WG} {ls : Array Slot} {nL i : Nat} {lo : List Value} {v w : Value} (h : lv_has ls nL ((i, w) :: (pLv g lo).filter (fun q => !(q.1 == i) && !(q.1 + 1 == i && q.2.category == 2)))) (hw : w = pEn g v) (hp : pre2 lo i = true) : pLo g ls nL (lo.set i v) := by
  refine ⟨h.1, h.2.1, fun j u hj hu => ?_⟩
  by_cases e : j = i
  · subst e
    rw [List.getElem?_set] at hj
    simp at hj
    rw [← hj.2, ← hw]
    exact h.2.2 (j, w) List.mem_cons_self
  · rw [List.getElem?_set_ne (Ne.symm e)] at hj
    refine h.2.2 (j, pEn g u) (List.mem_cons_of_mem _ (List.mem_filter.mpr ⟨pLv_in hj hu, ?_⟩))
    simp only [pEn_cat]
    by_cases e2 : j + 1 = i
    · subst e2
      simp [pre2_cat hp hj]
    · simp [e, e2]
theorem pLo.of2 {g : WG} {ls : Array Slot} {nL i : Nat} {lo : List Value} {v w : Value} (h : lv_has ls nL ((i, w) :: (pLv g lo).filter (fun q => !(q.1 == i) && (!(q.1 == i + 1) && !(q.1 + 1 == i && q.2.category == 2))))) (hw : w = pEn g v) (hp : pre2 lo i = true) : pLo g ls nL ((lo.set i v).set (i + 1) .null) := by
  refine ⟨h.1, h.2.1, fun j u hj hu => ?_⟩
  by_cases e1 : j = i + 1
  · subst e1
    rw [List.getElem?_set] at hj
    simp at hj
    exact absurd hj.2.symm hu
  · rw [List.getElem?_set_ne (Ne.symm e1)] at hj
    by_cases e : j = i
    · subst e
      rw [List.getElem?_set] at hj
      simp at hj
      rw [← hj.2, ← hw]
      exact h.2.2 (j, w) List.mem_cons_self
    · rw [List.getElem?_set_ne (Ne.symm e)] at hj
      refine h.2.2 (j, pEn g u) (List.mem_cons_of_mem _ (List.mem_filter.mpr ⟨pLv_in hj hu, ?_⟩))
      simp only [pEn_cat]
      by_cases e2 : j + 1 = i
      · subst e2
        simp [pre2_cat hp hj]; omega
      · simp [e, e1, e2]
theorem pEl_args (g : WG) : ∀ (As : List Value) (k j : Nat) (v : Value), (pEl As)[j]? = some v → v ≠ .null → (k + j, pEn g v) ∈ lv_args k (As.map (pEn g))
  | [], k, j, v, h, hn => by simp [pEl] at h
  | a :: r, k, j, v, h, hn => by
    by_cases hc : a.category = 2
    · have e : pEl (a :: r) = a :: .null :: pEl r := by cases a <;> first | rfl | (simp [Value.category] at hc)
      rw [e] at h
      show (k + j, pEn g v) ∈ (k, pEn g a) :: lv_args (if (pEn g a).category = 2 then k + 2 else k + 1) (r.map (pEn g))
      rw [pEn_cat, if_pos hc]
      match j, h with
      | 0, h => cases h; exact List.mem_cons_self
      | 1, h => cases h; exact absurd rfl hn
      | j + 2, h =>
        have := pEl_args g r (k + 2) j v h hn
        rw [show k + (j + 2) = k + 2 + j by omega]
        exact List.mem_cons_of_mem _ this
    · have e : pEl (a :: r) = a :: pEl r := by cases a <;> first | rfl | (simp [Value.category] at hc)
      rw [e] at h
      show (k + j, pEn g v) ∈ (k, pEn g a) :: lv_args (if (pEn g a).category = 2 then k + 2 else k + 1) (r.map (pEn g))
      rw [pEn_cat, if_neg hc]
      match j, h with
      | 0, h => cases h; exact List.mem_cons_self
      | j + 1, h =>
        have := pEl_args g r (k + 1) j v h hn
        rw [show k + (j + 1) = k + 1 + j by omega]
        exact List.mem_cons_of_mem _ this
theorem pEl_len (g : WG) : ∀ As : List Value, (lg_sl (As.map (pEn g))).length = (pEl As).length
  | [] => rfl
  | a :: r => by
    have ih := pEl_len g r
    rw [List.map_cons]
    show (List.flatMap _ (pEn g a :: r.map (pEn g))).length = _
    rw [List.flatMap_cons, List.length_append]
    have ih' : (List.flatMap (fun v : Value => if v.category = 2 then [Slot.val v, .second] else [.val v]) (r.map (pEn g))).length = (pEl r).length := ih
    rw [ih']
    cases a <;> simp [pEn, Value.category, pEl] <;> omega
theorem pLo.entry {g : WG} {ls : Array Slot} {M : PM} {As : List Value} (h : lv_has ls (pmL M) (lv_args 0 (As.map (pEn g)))) : pLo g ls (pmL M) (pL0 M As) := by
  refine ⟨h.1, h.2.1, fun i v hi hv => ?_⟩
  unfold pL0 at hi
  by_cases hl : i < (pEl As).length
  · rw [List.getElem?_append_left hl] at hi
    have := pEl_args g As 0 i v hi hv
    rw [Nat.zero_add] at this
    exact h.2.2 _ this
  · rw [List.getElem?_append_right (by omega), List.getElem?_replicate] at hi
    split at hi
    · cases hi; exact absurd rfl hv
    · cases hi
/-! what stays as it is -/
def pKx (g : WG) (A : Nat → Prop) (U : State) (H : Heap) : Prop :=
  va_K (gD g) vwCl (pcT g) U ∧ (∀ w ∈ lw_nest, va_Nw w U) ∧ (va_X (gA g 99) (gS g).1 (gS g).2 U H ∧ gA g 99 < H.size ∧ ¬ A (gA g 99)) ∧
  vk_S 5 sLen sByt (fun k => gA g (100 + k)) (fun k => gA g (200 + k)) A U H ∧ (∀ (k : Nat) (q : String × Nat × String), sOwn[k]? = some q → vk_R q.1 q.2.1 q.2.2 (gA g (100 + k)) U) ∧
  va_Z "java/lang/String" "COMPACT_STRINGS" "Z" (.int 1) A U H ∧
  (va_Z "jdk/internal/util/Preconditions" "SIOOBE_FORMATTER" "Ljava/util/function/BiFunction;" .null A U H ∨ va_Z "jdk/internal/util/Preconditions" "SIOOBE_FORMATTER" "Ljava/util/function/BiFunction;" (.ref (gA g 98)) A U H)
theorem nest_in {w : Cond} (h : w ∈ lw_nest) : isNest w = true := (List.mem_filter.mp h).2
theorem pKx.go {g : WG} {A B : Nat → Prop} {s U : State} {H : Heap} {locs : List Loc} (h : pKx g A s s.heap) (hS : va_S A s.heap H locs) (hW : s.WarmedH U.vm) (hB : ∀ q, B q → A q) : pKx g B U H := by
  obtain ⟨h1, h2, ⟨h3, h4, h5⟩, h6, h7, h8, h9⟩ := h
  refine ⟨va_K.moved hW.alike h1, fun w hw => ?_, ⟨va_X.moved hW.alike (h3.kept (hS.2.1 _ h4 h5)), Nat.lt_of_lt_of_le h4 hS.1, fun q => h5 (hB _ q)⟩, vk_S.moved hW.alike ((h6.kept hS.2.1).narrow hB), fun k q hq => vk_R.warm hW (h7 k q hq), va_Z.moved hW.alike ((h8.kept hS.2.1).narrow hB), ?_⟩
  · have hn := nest_in hw
    have hz := h2 w hw
    cases w <;> first | exact va_Nw.warmF hW hz | exact va_Nw.warmM hW hz | cases hn
  · rcases h9 with h9 | h9
    · exact Or.inl (va_Z.moved hW.alike ((h9.kept hS.2.1).narrow hB))
    · exact Or.inr (va_Z.moved hW.alike ((h9.kept hS.2.1).narrow hB))
theorem pKx.same {g : WG} {A : Nat → Prop} {u U : State} {H : Heap} (hv : u.vm = U.vm) (h : pKx g A u H) : pKx g A U H := by
  obtain ⟨h1, h2, ⟨h3, h4, h5⟩, h6, h7, h8, h9⟩ := h
  have ha : u.vm.Alike U.vm := by rw [hv]; exact Vm.Alike.refl U.vm
  refine ⟨va_K.moved ha h1, fun w hw => ?_, ⟨va_X.moved ha h3, h4, h5⟩, vk_S.moved ha h6, fun k q hq => vk_R.same hv.symm (h7 k q hq), va_Z.moved ha h8, ?_⟩
  · have hn := nest_in hw
    have hz := h2 w hw
    cases w <;> first | exact va_Nw.same rfl hv hz | cases hn
  · rcases h9 with h9 | h9
    · exact Or.inl (va_Z.moved ha h9)
    · exact Or.inr (va_Z.moved ha h9)
/-- what holds at a method's frame -/
def pCx (g : WG) (p : Program) (R : Room) (s : State) (m : MethodId) (args : Array Value) (c : Code) (A : Nat → Prop) (cells slots : Nat) (M : PM) : Prop :=
  p.tables.exec = Jvm.exec ∧ c.code = pmB M ∧ c.maxLocals = pmL M ∧ s.vm.findClass (pmY M).cls = some m.cls ∧ (∀ w ∈ lw_good, w.before args s = true) ∧ pKx g A s s.heap ∧ (∀ S, va_D A (pcW g S)) ∧ (∀ q, s.heap.size ≤ q → A q) ∧ pmV M ≤ R.frames ∧ 36 * pmV M ≤ R.locals ∧ cells ≤ R.cells ∧ slots ≤ R.slots
def pRet (M : PM) (pc : Nat) (r : Option Value) : Prop := match r with
  | none => decode (pmB M) pc = .ok (.return_, 1) ∧ pmR M = none
  | some (.int x) => decode (pmB M) pc = .ok (.ireturn, 1) ∧ ∃ ty, pmR M = some ty ∧ narrow ty (.int x) = .int x
  | some (.long _) => decode (pmB M) pc = .ok (.lreturn, 1) ∧ pmR M = some .long
  | _ => False
/-- the soundness of a frame of the plain machine -/
def Snd (l : Launch) (g : WG) : PP := fun M pc lo st S Q => ∀ (p : Program) (e : Env) (R : Room) (s : State) (m : MethodId) (args : Array Value) (below : List Frame) (meth : Method) (c : Code) (A : Nat → Prop) (cells slots : Nat) (Z : State → Prop) (H : Heap) (locs : List Loc) (ls : Array Slot),
  pCx g p R s m args c A cells slots M → va_P (gD g) vwCl (pcW g S) H → va_S A s.heap H locs → pLo g ls (pmL M) lo →
  (∀ (r : Option Value) (S' : PS) (H' : Heap) (locs' : List Loc) (ls' : Array Slot) (pc' : Nat), Q r S' → pRet M pc' r → va_P (gD g) vwCl (pcW g S') H' → va_S A s.heap H' locs' → W p l e R s m args below meth c H' locs' cells slots Z (F0 m pc' ls' (r.toList.map (pEn g)))) →
  W p l e R s m args below meth c H locs cells slots Z (F0 m pc ls (st.map (pEn g)))
end
section
/-! a call, whatever it answers -/
def pWs (M : PM) : List Cond := Cond.code (pmY M) (pmB M) (pmL M) (pmR M) :: lw_good
def pRm (M : PM) : Room := { frames := pmV M, cells := 0, slots := 0, locals := 36 * pmV M }
def pPc (g : WG) (As : List Value) (S : PS) (sz : Nat) : Array Value → State → Prop := va_Pc (As.map (pEn g)) (fun U => U.heap.size = sz ∧ va_P (gD g) vwCl (pcW g S) U.heap ∧ pKx g (va_A (pcW g S) sz) U U.heap ∧ va_D (fun _ => True) (pcW g S))
def pQc (g : WG) (S : PS) (sz : Nat) (Qm : PQ) : Array Value → State → Outcome → State → Prop := fun _ st oc t => (∃ (r : Option Value) (S' : PS), oc = .returned (r.map (pEn g)) ∧ Qm r S' ∧ va_P (gD g) vwCl (pcW g S') t.heap) ∧ va_F (va_A (pcW g S) sz) st t
theorem met_of {l : Launch} {g : WG} {M : PM} {As : List Value} {S : PS} {Qm : PQ} {n : Nat} (hn : nOk M n) (hE : (pEl As).length ≤ pmL M) (h : Snd l g M 0 (pL0 M As) [] S Qm) (sz : Nat) :
    Met l (pmY M) (pWs M) (pRm M) (pPc g As S sz) (pQc g S sz Qm) 0 0 (va_A (pcW g S) sz) := by
  refine Met.ofW (cc := pmB M) (maxL := pmL M) (ret := pmR M) hn.1 rfl ?_
  intro p e s m args below meth c s₁ B hml hv
  obtain ⟨rfl, hsz, hP, hK, hD⟩ := hv
  subst hsz
  have hts := atoms_spec (ws := pWs M) B.pre
  have hown : s.vm.findClass (pmY M).cls = some m.cls := findClass_of_methodNamed B.named
  have hlocks := B.notSynchronized
  have hx := B.exec
  have hb := B.bytes
  have hr := B.returns
  rw [lg_entry_eq]
  have hl := lv_entry (As.map (pEn g)) (n := pmL M) (by rw [pEl_len]; exact hE)
  generalize (lg_sl (As.map (pEn g)) ++ List.replicate (pmL M - (lg_sl (As.map (pEn g))).length) Slot.unset).toArray = ls at hl ⊢
  refine h p e _ s m _ below meth c (va_A (pcW g S) s.heap.size) 0 0 _ s.heap [] ls ⟨hx, hb, hml, hown, fun w hw => hts w (List.mem_cons_of_mem _ hw), hK, fun S2 => pcW_D (hD.self), fun q hq => Or.inr hq, Nat.le_refl _, Nat.le_refl _, Nat.zero_le _, Nat.zero_le _⟩ hP va_S.rf (pLo.entry hl) ?_
  intro r S' H' locs' ls' pc' hq hret hP' hS'
  cases r with
  | none =>
    obtain ⟨d1, d2⟩ := hret
    exact W.vret hx hb (hr.trans d2) (fun t ht hW => ⟨⟨none, S', rfl, hq, by rw [ht]; exact hP'⟩, hS'.F ht⟩) hS'.2.2 d1
  | some v =>
    cases v with
    | int x =>
      obtain ⟨d1, ty, d2, d3⟩ := hret
      exact W.zret hx hb (hr.trans d2) d3 (fun t ht hW => ⟨⟨some (.int x), S', rfl, hq, by rw [ht]; exact hP'⟩, hS'.F ht⟩) hS'.2.2 d1
    | long x =>
      obtain ⟨d1, d2⟩ := hret
      exact W.lret hx hb (hr.trans d2) (fun t ht hW => ⟨⟨some (.long x), S', rfl, hq, by rw [ht]; exact hP'⟩, hS'.F ht⟩) hS'.2.2 d1
    | _ => exact hret.elim
theorem pBlind (g : WG) (As : List Value) (S : PS) (sz : Nat) : FrameBlind (pPc g As S sz) := by
  intro a U f mk h
  obtain ⟨h1, h2, h3, h4, h5⟩ := h
  exact ⟨h1, h2, h3, pKx.same (u := U) rfl h4, h5⟩
theorem pGood (M : PM) (h : Cond.code (pmY M) (pmB M) (pmL M) (pmR M) ∈ lw_good) : GoodIn lw_good (pWs M) := by
  intro w hw
  have hm : w ∈ lw_good := by
    rcases List.mem_cons.mp hw with e | e
    · rw [e]; exact h
    · exact e
  exact ⟨hm, good_of_word (List.mem_filter.mp hm).2⟩
section PCALL
variable {p : Program} {l : Launch} {e : Env} {R : Room} {s : State} {m : MethodId} {args : Array Value} {below : List Frame} {meth : Method} {c : Code} {H : Heap} {locs : List Loc} {cells slots : Nat} {Q : State → Prop}
theorem pcall {g : WG} {A : Nat → Prop} {S : PS} {Qm : PQ} {pc : Nat} {ls : Array Slot} {st0 rest : List Value} {a : Array Value} (hr : va_Run p l e R s m args below meth c H locs cells slots 0 0 (F0 m pc ls st0) rest (pQc g S H.size Qm a) (va_A (pcW g S) H.size)) (hS : va_S A s.heap H locs) (hF : ∀ q, va_A (pcW g S) H.size q → A q)
    (kk : ∀ (r : Option Value) (S' : PS) (H1 : Heap) (locs1 : List Loc), Qm r S' → va_P (gD g) vwCl (pcW g S') H1 → va_S A s.heap H1 locs1 → W p l e R s m args below meth c H1 locs1 cells slots Q (F0 m (pc + 3) ls ((r.map (pEn g)).toList ++ rest))) : W p l e R s m args below meth c H locs cells slots Q (F0 m pc ls st0) := by
  intro T hT X
  obtain ⟨v, st₀, t, T', L, h0, X', hL, e1, e2, ⟨⟨r, S', hv, hq, hp⟩, hz, hk⟩, st⟩ := hr T hT X
  cases hv
  rw [h0] at hz hk
  obtain ⟨t2, a1, b1⟩ := kk r S' T'.heap (locs ++ L) hq (by rw [e1]; exact hp)
    ⟨Nat.le_trans hS.1 (by rw [e1]; exact hz), fun q h1 h2 => by rw [e1, hk q (Nat.lt_of_lt_of_le h1 hS.1) (fun z => h2 (hF q z))]; exact hS.2.1 q h1 h2, fun q hq => by
      rcases List.mem_append.mp hq with h | h
      · exact hS.2.2 q h
      · exact hF _ (hL q h)⟩ T' rfl X'
  exact ⟨t2, st t2 a1, b1⟩
end PCALL
theorem pFree {g : WG} {A : Nat → Prop} {S : PS} {H0 H : Heap} {locs : List Loc} (hD : va_D A (pcW g S)) (hA : ∀ q, H0.size ≤ q → A q) (hS : va_S A H0 H locs) : ∀ q, va_A (pcW g S) H.size q → A q := by
  intro q h
  rcases h with ⟨k, e, h⟩ | h
  · exact hD.2 k (q, e) h
  · exact hA q (Nat.le_trans hS.1 h)

set_option maxHeartbeats 1000000 in
theorem s_iconst (l : Launch) (g : WG) : C_iconst (gS g) (Snd l g) := by
  intro M pc lo st S Q n h0 k0 p e R s m args below meth c A cells slots Z H locs ls hC hP hS hl hk
  obtain ⟨hx, hb, hml, hown, hts, hKx, hD, hA, hfr, hlo, hce, hsl⟩ := id hC
  have kk := fun {pc2 : Nat} {lo2 st2 : List Value} {S2 : PS} (k : Snd l g M pc2 lo2 st2 S2 Q) H locs ls hP hS hl => k p e R s m args below meth c A cells slots Z H locs ls hC hP hS hl hk
  exact lv_iconst hx hb h0 rfl (kk k0 H locs ls hP hS hl)
set_option maxHeartbeats 1000000 in
theorem s_bipush (l : Launch) (g : WG) : C_bipush (gS g) (Snd l g) := by
  intro M pc lo st S Q n h0 k0 p e R s m args below meth c A cells slots Z H locs ls hC hP hS hl hk
  obtain ⟨hx, hb, hml, hown, hts, hKx, hD, hA, hfr, hlo, hce, hsl⟩ := id hC
  have kk := fun {pc2 : Nat} {lo2 st2 : List Value} {S2 : PS} (k : Snd l g M pc2 lo2 st2 S2 Q) H locs ls hP hS hl => k p e R s m args below meth c A cells slots Z H locs ls hC hP hS hl hk
  exact lv_bipush hx hb h0 rfl (kk k0 H locs ls hP hS hl)
set_option maxHeartbeats 1000000 in
theorem s_sipush (l : Launch) (g : WG) : C_sipush (gS g) (Snd l g) := by
  intro M pc lo st S Q n h0 k0 p e R s m args below meth c A cells slots Z H locs ls hC hP hS hl hk
  obtain ⟨hx, hb, hml, hown, hts, hKx, hD, hA, hfr, hlo, hce, hsl⟩ := id hC
  have kk := fun {pc2 : Nat} {lo2 st2 : List Value} {S2 : PS} (k : Snd l g M pc2 lo2 st2 S2 Q) H locs ls hP hS hl => k p e R s m args below meth c A cells slots Z H locs ls hC hP hS hl hk
  exact lv_sipush hx hb h0 rfl (kk k0 H locs ls hP hS hl)
set_option maxHeartbeats 1000000 in
theorem s_lconst (l : Launch) (g : WG) : C_lconst (gS g) (Snd l g) := by
  intro M pc lo st S Q n h0 k0 p e R s m args below meth c A cells slots Z H locs ls hC hP hS hl hk
  obtain ⟨hx, hb, hml, hown, hts, hKx, hD, hA, hfr, hlo, hce, hsl⟩ := id hC
  have kk := fun {pc2 : Nat} {lo2 st2 : List Value} {S2 : PS} (k : Snd l g M pc2 lo2 st2 S2 Q) H locs ls hP hS hl => k p e R s m args below meth c A cells slots Z H locs ls hC hP hS hl hk
  exact lv_lconst hx hb h0 rfl (kk k0 H locs ls hP hS hl)
set_option maxHeartbeats 1000000 in
theorem s_ldc (l : Launch) (g : WG) : C_ldc (gS g) (Snd l g) := by
  intro M pc lo st S Q x v h0 h1 k0 p e R s m args below meth c A cells slots Z H locs ls hC hP hS hl hk
  obtain ⟨hx, hb, hml, hown, hts, hKx, hD, hA, hfr, hlo, hce, hsl⟩ := id hC
  have kk := fun {pc2 : Nat} {lo2 st2 : List Value} {S2 : PS} (k : Snd l g M pc2 lo2 st2 S2 Q) H locs ls hP hS hl => k p e R s m args below meth c A cells slots Z H locs ls hC hP hS hl hk
  exact lv_ldc hx hb hown (hts _ h1) h0 (kk k0 H locs ls hP hS hl)
set_option maxHeartbeats 1000000 in
theorem s_ldcw (l : Launch) (g : WG) : C_ldcw (gS g) (Snd l g) := by
  intro M pc lo st S Q x v h0 h1 k0 p e R s m args below meth c A cells slots Z H locs ls hC hP hS hl hk
  obtain ⟨hx, hb, hml, hown, hts, hKx, hD, hA, hfr, hlo, hce, hsl⟩ := id hC
  have kk := fun {pc2 : Nat} {lo2 st2 : List Value} {S2 : PS} (k : Snd l g M pc2 lo2 st2 S2 Q) H locs ls hP hS hl => k p e R s m args below meth c A cells slots Z H locs ls hC hP hS hl hk
  exact lv_ldcw hx hb hown (hts _ h1) h0 (kk k0 H locs ls hP hS hl)
set_option maxHeartbeats 1000000 in
theorem s_ldc2 (l : Launch) (g : WG) : C_ldc2 (gS g) (Snd l g) := by
  intro M pc lo st S Q x v h0 h1 k0 p e R s m args below meth c A cells slots Z H locs ls hC hP hS hl hk
  obtain ⟨hx, hb, hml, hown, hts, hKx, hD, hA, hfr, hlo, hce, hsl⟩ := id hC
  have kk := fun {pc2 : Nat} {lo2 st2 : List Value} {S2 : PS} (k : Snd l g M pc2 lo2 st2 S2 Q) H locs ls hP hS hl => k p e R s m args below meth c A cells slots Z H locs ls hC hP hS hl hk
  exact lv_ldc2 hx hb hown (hts _ h1) h0 (kk k0 H locs ls hP hS hl)
set_option maxHeartbeats 1000000 in
theorem s_ldcS (l : Launch) (g : WG) : C_ldcS (gS g) (Snd l g) := by
  intro M pc lo st S Q x k h0 h1 k0 p e R s m args below meth c A cells slots Z H locs ls hC hP hS hl hk
  obtain ⟨hx, hb, hml, hown, hts, hKx, hD, hA, hfr, hlo, hce, hsl⟩ := id hC
  have kk := fun {pc2 : Nat} {lo2 st2 : List Value} {S2 : PS} (k : Snd l g M pc2 lo2 st2 S2 Q) H locs ls hP hS hl => k p e R s m args below meth c A cells slots Z H locs ls hC hP hS hl hk
  obtain ⟨hk5, t, ht⟩ := h1
  exact va_ldcS hx hb hown (hKx.2.2.2.2.1 k _ ht) h0 (kk k0 H locs ls hP hS hl)
set_option maxHeartbeats 1000000 in
theorem s_iload_n (l : Launch) (g : WG) : C_iload_n (gS g) (Snd l g) := by
  intro M pc lo st S Q n i x h0 h1 h2 k0 p e R s m args below meth c A cells slots Z H locs ls hC hP hS hl hk
  obtain ⟨hx, hb, hml, hown, hts, hKx, hD, hA, hfr, hlo, hce, hsl⟩ := id hC
  have kk := fun {pc2 : Nat} {lo2 st2 : List Value} {S2 : PS} (k : Snd l g M pc2 lo2 st2 S2 Q) H locs ls hP hS hl => k p e R s m args below meth c A cells slots Z H locs ls hC hP hS hl hk
  exact lv_iload_n hx hb h0 h1 (hl.2.2 i _ h2 (fun q => by cases q)) (kk k0 H locs ls hP hS hl)
set_option maxHeartbeats 1000000 in
theorem s_iload (l : Launch) (g : WG) : C_iload (gS g) (Snd l g) := by
  intro M pc lo st S Q i x h0 h1 k0 p e R s m args below meth c A cells slots Z H locs ls hC hP hS hl hk
  obtain ⟨hx, hb, hml, hown, hts, hKx, hD, hA, hfr, hlo, hce, hsl⟩ := id hC
  have kk := fun {pc2 : Nat} {lo2 st2 : List Value} {S2 : PS} (k : Snd l g M pc2 lo2 st2 S2 Q) H locs ls hP hS hl => k p e R s m args below meth c A cells slots Z H locs ls hC hP hS hl hk
  exact lv_iload hx hb h0 (hl.2.2 i _ h1 (fun q => by cases q)) (kk k0 H locs ls hP hS hl)
set_option maxHeartbeats 1000000 in
theorem s_lload_n (l : Launch) (g : WG) : C_lload_n (gS g) (Snd l g) := by
  intro M pc lo st S Q n i x h0 h1 h2 k0 p e R s m args below meth c A cells slots Z H locs ls hC hP hS hl hk
  obtain ⟨hx, hb, hml, hown, hts, hKx, hD, hA, hfr, hlo, hce, hsl⟩ := id hC
  have kk := fun {pc2 : Nat} {lo2 st2 : List Value} {S2 : PS} (k : Snd l g M pc2 lo2 st2 S2 Q) H locs ls hP hS hl => k p e R s m args below meth c A cells slots Z H locs ls hC hP hS hl hk
  exact lv_lload_n hx hb h0 h1 (hl.2.2 i _ h2 (fun q => by cases q)) (kk k0 H locs ls hP hS hl)
set_option maxHeartbeats 1000000 in
theorem s_lload (l : Launch) (g : WG) : C_lload (gS g) (Snd l g) := by
  intro M pc lo st S Q i x h0 h1 k0 p e R s m args below meth c A cells slots Z H locs ls hC hP hS hl hk
  obtain ⟨hx, hb, hml, hown, hts, hKx, hD, hA, hfr, hlo, hce, hsl⟩ := id hC
  have kk := fun {pc2 : Nat} {lo2 st2 : List Value} {S2 : PS} (k : Snd l g M pc2 lo2 st2 S2 Q) H locs ls hP hS hl => k p e R s m args below meth c A cells slots Z H locs ls hC hP hS hl hk
  exact lv_lload hx hb h0 (hl.2.2 i _ h1 (fun q => by cases q)) (kk k0 H locs ls hP hS hl)
set_option maxHeartbeats 1000000 in
theorem s_aload_n (l : Launch) (g : WG) : C_aload_n (gS g) (Snd l g) := by
  intro M pc lo st S Q n i x h0 h1 h2 k0 p e R s m args below meth c A cells slots Z H locs ls hC hP hS hl hk
  obtain ⟨hx, hb, hml, hown, hts, hKx, hD, hA, hfr, hlo, hce, hsl⟩ := id hC
  have kk := fun {pc2 : Nat} {lo2 st2 : List Value} {S2 : PS} (k : Snd l g M pc2 lo2 st2 S2 Q) H locs ls hP hS hl => k p e R s m args below meth c A cells slots Z H locs ls hC hP hS hl hk
  exact lv_aload_n hx hb h0 h1 (hl.2.2 i _ h2 (fun q => by cases q)) (kk k0 H locs ls hP hS hl)
set_option maxHeartbeats 1000000 in
theorem s_aload (l : Launch) (g : WG) : C_aload (gS g) (Snd l g) := by
  intro M pc lo st S Q i x h0 h1 k0 p e R s m args below meth c A cells slots Z H locs ls hC hP hS hl hk
  obtain ⟨hx, hb, hml, hown, hts, hKx, hD, hA, hfr, hlo, hce, hsl⟩ := id hC
  have kk := fun {pc2 : Nat} {lo2 st2 : List Value} {S2 : PS} (k : Snd l g M pc2 lo2 st2 S2 Q) H locs ls hP hS hl => k p e R s m args below meth c A cells slots Z H locs ls hC hP hS hl hk
  exact lv_aload hx hb h0 (hl.2.2 i _ h1 (fun q => by cases q)) (kk k0 H locs ls hP hS hl)
set_option maxHeartbeats 1000000 in
theorem s_istore_n (l : Launch) (g : WG) : C_istore_n (gS g) (Snd l g) := by
  intro M pc lo st S Q n i x h0 h1 h2 h3 k0 p e R s m args below meth c A cells slots Z H locs ls hC hP hS hl hk
  obtain ⟨hx, hb, hml, hown, hts, hKx, hD, hA, hfr, hlo, hce, hsl⟩ := id hC
  have kk := fun {pc2 : Nat} {lo2 st2 : List Value} {S2 : PS} (k : Snd l g M pc2 lo2 st2 S2 Q) H locs ls hP hS hl => k p e R s m args below meth c A cells slots Z H locs ls hC hP hS hl hk
  exact lv_istore_n hx hb h0 h1 hl.has h2 rfl (fun ls2 hl2 => kk k0 H locs ls2 hP hS (pLo.of1 hl2 rfl h3))
set_option maxHeartbeats 1000000 in
theorem s_istore (l : Launch) (g : WG) : C_istore (gS g) (Snd l g) := by
  intro M pc lo st S Q i x h0 h1 h2 k0 p e R s m args below meth c A cells slots Z H locs ls hC hP hS hl hk
  obtain ⟨hx, hb, hml, hown, hts, hKx, hD, hA, hfr, hlo, hce, hsl⟩ := id hC
  have kk := fun {pc2 : Nat} {lo2 st2 : List Value} {S2 : PS} (k : Snd l g M pc2 lo2 st2 S2 Q) H locs ls hP hS hl => k p e R s m args below meth c A cells slots Z H locs ls hC hP hS hl hk
  exact lv_istore hx hb h0 hl.has h1 rfl (fun ls2 hl2 => kk k0 H locs ls2 hP hS (pLo.of1 hl2 rfl h2))
set_option maxHeartbeats 1000000 in
theorem s_astore_n (l : Launch) (g : WG) : C_astore_n (gS g) (Snd l g) := by
  intro M pc lo st S Q n i x h0 h1 h2 h3 k0 p e R s m args below meth c A cells slots Z H locs ls hC hP hS hl hk
  obtain ⟨hx, hb, hml, hown, hts, hKx, hD, hA, hfr, hlo, hce, hsl⟩ := id hC
  have kk := fun {pc2 : Nat} {lo2 st2 : List Value} {S2 : PS} (k : Snd l g M pc2 lo2 st2 S2 Q) H locs ls hP hS hl => k p e R s m args below meth c A cells slots Z H locs ls hC hP hS hl hk
  exact lv_astore_n hx hb h0 h1 hl.has h2 rfl (fun ls2 hl2 => kk k0 H locs ls2 hP hS (pLo.of1 hl2 rfl h3))
set_option maxHeartbeats 1000000 in
theorem s_astore (l : Launch) (g : WG) : C_astore (gS g) (Snd l g) := by
  intro M pc lo st S Q i x h0 h1 h2 k0 p e R s m args below meth c A cells slots Z H locs ls hC hP hS hl hk
  obtain ⟨hx, hb, hml, hown, hts, hKx, hD, hA, hfr, hlo, hce, hsl⟩ := id hC
  have kk := fun {pc2 : Nat} {lo2 st2 : List Value} {S2 : PS} (k : Snd l g M pc2 lo2 st2 S2 Q) H locs ls hP hS hl => k p e R s m args below meth c A cells slots Z H locs ls hC hP hS hl hk
  exact lv_astore hx hb h0 hl.has h1 rfl (fun ls2 hl2 => kk k0 H locs ls2 hP hS (pLo.of1 hl2 rfl h2))
set_option maxHeartbeats 1000000 in
theorem s_lstore_n (l : Launch) (g : WG) : C_lstore_n (gS g) (Snd l g) := by
  intro M pc lo st S Q n i x h0 h1 h2 h3 k0 p e R s m args below meth c A cells slots Z H locs ls hC hP hS hl hk
  obtain ⟨hx, hb, hml, hown, hts, hKx, hD, hA, hfr, hlo, hce, hsl⟩ := id hC
  have kk := fun {pc2 : Nat} {lo2 st2 : List Value} {S2 : PS} (k : Snd l g M pc2 lo2 st2 S2 Q) H locs ls hP hS hl => k p e R s m args below meth c A cells slots Z H locs ls hC hP hS hl hk
  exact lv_lstore_n hx hb h0 h1 hl.has h2 rfl (fun ls2 hl2 => kk k0 H locs ls2 hP hS (pLo.of2 hl2 rfl h3))
set_option maxHeartbeats 1000000 in
theorem s_lstore (l : Launch) (g : WG) : C_lstore (gS g) (Snd l g) := by
  intro M pc lo st S Q i x h0 h1 h2 k0 p e R s m args below meth c A cells slots Z H locs ls hC hP hS hl hk
  obtain ⟨hx, hb, hml, hown, hts, hKx, hD, hA, hfr, hlo, hce, hsl⟩ := id hC
  have kk := fun {pc2 : Nat} {lo2 st2 : List Value} {S2 : PS} (k : Snd l g M pc2 lo2 st2 S2 Q) H locs ls hP hS hl => k p e R s m args below meth c A cells slots Z H locs ls hC hP hS hl hk
  exact lv_lstore hx hb h0 hl.has h1 rfl (fun ls2 hl2 => kk k0 H locs ls2 hP hS (pLo.of2 hl2 rfl h2))
set_option maxHeartbeats 1000000 in
theorem s_iinc (l : Launch) (g : WG) : C_iinc (gS g) (Snd l g) := by
  intro M pc lo st S Q i n x h0 h1 h2 h3 k0 p e R s m args below meth c A cells slots Z H locs ls hC hP hS hl hk
  obtain ⟨hx, hb, hml, hown, hts, hKx, hD, hA, hfr, hlo, hce, hsl⟩ := id hC
  have kk := fun {pc2 : Nat} {lo2 st2 : List Value} {S2 : PS} (k : Snd l g M pc2 lo2 st2 S2 Q) H locs ls hP hS hl => k p e R s m args below meth c A cells slots Z H locs ls hC hP hS hl hk
  obtain ⟨j, hj⟩ := List.getElem?_of_mem (pLv_in (g := g) h1 (fun q => by cases q))
  exact lv_iinc hx hb h0 hl.has hj rfl h2 rfl (fun ls2 hl2 => kk k0 H locs ls2 hP hS (pLo.of1 hl2 rfl h3))
set_option maxHeartbeats 1000000 in
theorem s_iadd (l : Launch) (g : WG) : C_iadd (gS g) (Snd l g) := by
  intro M pc lo st S Q x y h0 k0 p e R s m args below meth c A cells slots Z H locs ls hC hP hS hl hk
  obtain ⟨hx, hb, hml, hown, hts, hKx, hD, hA, hfr, hlo, hce, hsl⟩ := id hC
  have kk := fun {pc2 : Nat} {lo2 st2 : List Value} {S2 : PS} (k : Snd l g M pc2 lo2 st2 S2 Q) H locs ls hP hS hl => k p e R s m args below meth c A cells slots Z H locs ls hC hP hS hl hk
  exact lv_iadd hx hb h0  (kk k0 H locs ls hP hS hl)
set_option maxHeartbeats 1000000 in
theorem s_isub (l : Launch) (g : WG) : C_isub (gS g) (Snd l g) := by
  intro M pc lo st S Q x y h0 k0 p e R s m args below meth c A cells slots Z H locs ls hC hP hS hl hk
  obtain ⟨hx, hb, hml, hown, hts, hKx, hD, hA, hfr, hlo, hce, hsl⟩ := id hC
  have kk := fun {pc2 : Nat} {lo2 st2 : List Value} {S2 : PS} (k : Snd l g M pc2 lo2 st2 S2 Q) H locs ls hP hS hl => k p e R s m args below meth c A cells slots Z H locs ls hC hP hS hl hk
  exact lv_isub hx hb h0  (kk k0 H locs ls hP hS hl)
set_option maxHeartbeats 1000000 in
theorem s_imul (l : Launch) (g : WG) : C_imul (gS g) (Snd l g) := by
  intro M pc lo st S Q x y h0 k0 p e R s m args below meth c A cells slots Z H locs ls hC hP hS hl hk
  obtain ⟨hx, hb, hml, hown, hts, hKx, hD, hA, hfr, hlo, hce, hsl⟩ := id hC
  have kk := fun {pc2 : Nat} {lo2 st2 : List Value} {S2 : PS} (k : Snd l g M pc2 lo2 st2 S2 Q) H locs ls hP hS hl => k p e R s m args below meth c A cells slots Z H locs ls hC hP hS hl hk
  exact lv_imul hx hb h0  (kk k0 H locs ls hP hS hl)
set_option maxHeartbeats 1000000 in
theorem s_iand (l : Launch) (g : WG) : C_iand (gS g) (Snd l g) := by
  intro M pc lo st S Q x y h0 k0 p e R s m args below meth c A cells slots Z H locs ls hC hP hS hl hk
  obtain ⟨hx, hb, hml, hown, hts, hKx, hD, hA, hfr, hlo, hce, hsl⟩ := id hC
  have kk := fun {pc2 : Nat} {lo2 st2 : List Value} {S2 : PS} (k : Snd l g M pc2 lo2 st2 S2 Q) H locs ls hP hS hl => k p e R s m args below meth c A cells slots Z H locs ls hC hP hS hl hk
  exact lv_iand hx hb h0  (kk k0 H locs ls hP hS hl)
set_option maxHeartbeats 1000000 in
theorem s_ior (l : Launch) (g : WG) : C_ior (gS g) (Snd l g) := by
  intro M pc lo st S Q x y h0 k0 p e R s m args below meth c A cells slots Z H locs ls hC hP hS hl hk
  obtain ⟨hx, hb, hml, hown, hts, hKx, hD, hA, hfr, hlo, hce, hsl⟩ := id hC
  have kk := fun {pc2 : Nat} {lo2 st2 : List Value} {S2 : PS} (k : Snd l g M pc2 lo2 st2 S2 Q) H locs ls hP hS hl => k p e R s m args below meth c A cells slots Z H locs ls hC hP hS hl hk
  exact lv_ior hx hb h0  (kk k0 H locs ls hP hS hl)
set_option maxHeartbeats 1000000 in
theorem s_ishl (l : Launch) (g : WG) : C_ishl (gS g) (Snd l g) := by
  intro M pc lo st S Q x y h0 k0 p e R s m args below meth c A cells slots Z H locs ls hC hP hS hl hk
  obtain ⟨hx, hb, hml, hown, hts, hKx, hD, hA, hfr, hlo, hce, hsl⟩ := id hC
  have kk := fun {pc2 : Nat} {lo2 st2 : List Value} {S2 : PS} (k : Snd l g M pc2 lo2 st2 S2 Q) H locs ls hP hS hl => k p e R s m args below meth c A cells slots Z H locs ls hC hP hS hl hk
  exact lv_ishl hx hb h0  (kk k0 H locs ls hP hS hl)
set_option maxHeartbeats 1000000 in
theorem s_ishr (l : Launch) (g : WG) : C_ishr (gS g) (Snd l g) := by
  intro M pc lo st S Q x y h0 k0 p e R s m args below meth c A cells slots Z H locs ls hC hP hS hl hk
  obtain ⟨hx, hb, hml, hown, hts, hKx, hD, hA, hfr, hlo, hce, hsl⟩ := id hC
  have kk := fun {pc2 : Nat} {lo2 st2 : List Value} {S2 : PS} (k : Snd l g M pc2 lo2 st2 S2 Q) H locs ls hP hS hl => k p e R s m args below meth c A cells slots Z H locs ls hC hP hS hl hk
  exact lv_ishr hx hb h0  (kk k0 H locs ls hP hS hl)
set_option maxHeartbeats 1000000 in
theorem s_iushr (l : Launch) (g : WG) : C_iushr (gS g) (Snd l g) := by
  intro M pc lo st S Q x y h0 k0 p e R s m args below meth c A cells slots Z H locs ls hC hP hS hl hk
  obtain ⟨hx, hb, hml, hown, hts, hKx, hD, hA, hfr, hlo, hce, hsl⟩ := id hC
  have kk := fun {pc2 : Nat} {lo2 st2 : List Value} {S2 : PS} (k : Snd l g M pc2 lo2 st2 S2 Q) H locs ls hP hS hl => k p e R s m args below meth c A cells slots Z H locs ls hC hP hS hl hk
  exact lv_iushr hx hb h0 rfl (kk k0 H locs ls hP hS hl)
set_option maxHeartbeats 1000000 in
theorem s_irem (l : Launch) (g : WG) : C_irem (gS g) (Snd l g) := by
  intro M pc lo st S Q x y h0 h1 k0 p e R s m args below meth c A cells slots Z H locs ls hC hP hS hl hk
  obtain ⟨hx, hb, hml, hown, hts, hKx, hD, hA, hfr, hlo, hce, hsl⟩ := id hC
  have kk := fun {pc2 : Nat} {lo2 st2 : List Value} {S2 : PS} (k : Snd l g M pc2 lo2 st2 S2 Q) H locs ls hP hS hl => k p e R s m args below meth c A cells slots Z H locs ls hC hP hS hl hk
  exact lv_irem hx hb h0 h1 (kk k0 H locs ls hP hS hl)
set_option maxHeartbeats 1000000 in
theorem s_ladd (l : Launch) (g : WG) : C_ladd (gS g) (Snd l g) := by
  intro M pc lo st S Q x y h0 k0 p e R s m args below meth c A cells slots Z H locs ls hC hP hS hl hk
  obtain ⟨hx, hb, hml, hown, hts, hKx, hD, hA, hfr, hlo, hce, hsl⟩ := id hC
  have kk := fun {pc2 : Nat} {lo2 st2 : List Value} {S2 : PS} (k : Snd l g M pc2 lo2 st2 S2 Q) H locs ls hP hS hl => k p e R s m args below meth c A cells slots Z H locs ls hC hP hS hl hk
  exact lv_ladd hx hb h0  (kk k0 H locs ls hP hS hl)
set_option maxHeartbeats 1000000 in
theorem s_lmul (l : Launch) (g : WG) : C_lmul (gS g) (Snd l g) := by
  intro M pc lo st S Q x y h0 k0 p e R s m args below meth c A cells slots Z H locs ls hC hP hS hl hk
  obtain ⟨hx, hb, hml, hown, hts, hKx, hD, hA, hfr, hlo, hce, hsl⟩ := id hC
  have kk := fun {pc2 : Nat} {lo2 st2 : List Value} {S2 : PS} (k : Snd l g M pc2 lo2 st2 S2 Q) H locs ls hP hS hl => k p e R s m args below meth c A cells slots Z H locs ls hC hP hS hl hk
  exact lv_lmul hx hb h0  (kk k0 H locs ls hP hS hl)
set_option maxHeartbeats 1000000 in
theorem s_ldiv (l : Launch) (g : WG) : C_ldiv (gS g) (Snd l g) := by
  intro M pc lo st S Q x y h0 h1 k0 p e R s m args below meth c A cells slots Z H locs ls hC hP hS hl hk
  obtain ⟨hx, hb, hml, hown, hts, hKx, hD, hA, hfr, hlo, hce, hsl⟩ := id hC
  have kk := fun {pc2 : Nat} {lo2 st2 : List Value} {S2 : PS} (k : Snd l g M pc2 lo2 st2 S2 Q) H locs ls hP hS hl => k p e R s m args below meth c A cells slots Z H locs ls hC hP hS hl hk
  exact lv_ldiv hx hb h0 h1 (kk k0 H locs ls hP hS hl)
set_option maxHeartbeats 1000000 in
theorem s_lrem (l : Launch) (g : WG) : C_lrem (gS g) (Snd l g) := by
  intro M pc lo st S Q x y h0 h1 k0 p e R s m args below meth c A cells slots Z H locs ls hC hP hS hl hk
  obtain ⟨hx, hb, hml, hown, hts, hKx, hD, hA, hfr, hlo, hce, hsl⟩ := id hC
  have kk := fun {pc2 : Nat} {lo2 st2 : List Value} {S2 : PS} (k : Snd l g M pc2 lo2 st2 S2 Q) H locs ls hP hS hl => k p e R s m args below meth c A cells slots Z H locs ls hC hP hS hl hk
  exact lv_lrem hx hb h0 h1 (kk k0 H locs ls hP hS hl)
set_option maxHeartbeats 1000000 in
theorem s_lcmp (l : Launch) (g : WG) : C_lcmp (gS g) (Snd l g) := by
  intro M pc lo st S Q x y h0 k0 p e R s m args below meth c A cells slots Z H locs ls hC hP hS hl hk
  obtain ⟨hx, hb, hml, hown, hts, hKx, hD, hA, hfr, hlo, hce, hsl⟩ := id hC
  have kk := fun {pc2 : Nat} {lo2 st2 : List Value} {S2 : PS} (k : Snd l g M pc2 lo2 st2 S2 Q) H locs ls hP hS hl => k p e R s m args below meth c A cells slots Z H locs ls hC hP hS hl hk
  exact W.lcmp hx hb h0  (kk k0 H locs ls hP hS hl)
set_option maxHeartbeats 1000000 in
theorem s_ineg (l : Launch) (g : WG) : C_ineg (gS g) (Snd l g) := by
  intro M pc lo st S Q x h0 k0 p e R s m args below meth c A cells slots Z H locs ls hC hP hS hl hk
  obtain ⟨hx, hb, hml, hown, hts, hKx, hD, hA, hfr, hlo, hce, hsl⟩ := id hC
  have kk := fun {pc2 : Nat} {lo2 st2 : List Value} {S2 : PS} (k : Snd l g M pc2 lo2 st2 S2 Q) H locs ls hP hS hl => k p e R s m args below meth c A cells slots Z H locs ls hC hP hS hl hk
  exact lv_ineg hx hb h0  (kk k0 H locs ls hP hS hl)
set_option maxHeartbeats 1000000 in
theorem s_i2l (l : Launch) (g : WG) : C_i2l (gS g) (Snd l g) := by
  intro M pc lo st S Q x h0 k0 p e R s m args below meth c A cells slots Z H locs ls hC hP hS hl hk
  obtain ⟨hx, hb, hml, hown, hts, hKx, hD, hA, hfr, hlo, hce, hsl⟩ := id hC
  have kk := fun {pc2 : Nat} {lo2 st2 : List Value} {S2 : PS} (k : Snd l g M pc2 lo2 st2 S2 Q) H locs ls hP hS hl => k p e R s m args below meth c A cells slots Z H locs ls hC hP hS hl hk
  exact lv_i2l hx hb h0 rfl (kk k0 H locs ls hP hS hl)
set_option maxHeartbeats 1000000 in
theorem s_i2b (l : Launch) (g : WG) : C_i2b (gS g) (Snd l g) := by
  intro M pc lo st S Q x h0 k0 p e R s m args below meth c A cells slots Z H locs ls hC hP hS hl hk
  obtain ⟨hx, hb, hml, hown, hts, hKx, hD, hA, hfr, hlo, hce, hsl⟩ := id hC
  have kk := fun {pc2 : Nat} {lo2 st2 : List Value} {S2 : PS} (k : Snd l g M pc2 lo2 st2 S2 Q) H locs ls hP hS hl => k p e R s m args below meth c A cells slots Z H locs ls hC hP hS hl hk
  exact lv_i2b hx hb h0 rfl (kk k0 H locs ls hP hS hl)
set_option maxHeartbeats 1000000 in
theorem s_i2s (l : Launch) (g : WG) : C_i2s (gS g) (Snd l g) := by
  intro M pc lo st S Q x h0 k0 p e R s m args below meth c A cells slots Z H locs ls hC hP hS hl hk
  obtain ⟨hx, hb, hml, hown, hts, hKx, hD, hA, hfr, hlo, hce, hsl⟩ := id hC
  have kk := fun {pc2 : Nat} {lo2 st2 : List Value} {S2 : PS} (k : Snd l g M pc2 lo2 st2 S2 Q) H locs ls hP hS hl => k p e R s m args below meth c A cells slots Z H locs ls hC hP hS hl hk
  exact lv_i2s hx hb h0 rfl (kk k0 H locs ls hP hS hl)
set_option maxHeartbeats 1000000 in
theorem s_i2c (l : Launch) (g : WG) : C_i2c (gS g) (Snd l g) := by
  intro M pc lo st S Q x h0 k0 p e R s m args below meth c A cells slots Z H locs ls hC hP hS hl hk
  obtain ⟨hx, hb, hml, hown, hts, hKx, hD, hA, hfr, hlo, hce, hsl⟩ := id hC
  have kk := fun {pc2 : Nat} {lo2 st2 : List Value} {S2 : PS} (k : Snd l g M pc2 lo2 st2 S2 Q) H locs ls hP hS hl => k p e R s m args below meth c A cells slots Z H locs ls hC hP hS hl hk
  exact lv_i2c hx hb h0 rfl (kk k0 H locs ls hP hS hl)
set_option maxHeartbeats 1000000 in
theorem s_dup (l : Launch) (g : WG) : C_dup (gS g) (Snd l g) := by
  intro M pc lo st S Q v h0 h1 k0 p e R s m args below meth c A cells slots Z H locs ls hC hP hS hl hk
  obtain ⟨hx, hb, hml, hown, hts, hKx, hD, hA, hfr, hlo, hce, hsl⟩ := id hC
  have kk := fun {pc2 : Nat} {lo2 st2 : List Value} {S2 : PS} (k : Snd l g M pc2 lo2 st2 S2 Q) H locs ls hP hS hl => k p e R s m args below meth c A cells slots Z H locs ls hC hP hS hl hk
  exact lv_dup hx hb h0 ((pEn_cat g v).trans h1) (kk k0 H locs ls hP hS hl)
set_option maxHeartbeats 1000000 in
theorem s_pop (l : Launch) (g : WG) : C_pop (gS g) (Snd l g) := by
  intro M pc lo st S Q v h0 h1 k0 p e R s m args below meth c A cells slots Z H locs ls hC hP hS hl hk
  obtain ⟨hx, hb, hml, hown, hts, hKx, hD, hA, hfr, hlo, hce, hsl⟩ := id hC
  have kk := fun {pc2 : Nat} {lo2 st2 : List Value} {S2 : PS} (k : Snd l g M pc2 lo2 st2 S2 Q) H locs ls hP hS hl => k p e R s m args below meth c A cells slots Z H locs ls hC hP hS hl hk
  exact lv_pop hx hb h0 ((pEn_cat g v).trans h1) (kk k0 H locs ls hP hS hl)
set_option maxHeartbeats 1000000 in
theorem s_dup2 (l : Launch) (g : WG) : C_dup2 (gS g) (Snd l g) := by
  intro M pc lo st S Q v w h0 h1 h2 k0 p e R s m args below meth c A cells slots Z H locs ls hC hP hS hl hk
  obtain ⟨hx, hb, hml, hown, hts, hKx, hD, hA, hfr, hlo, hce, hsl⟩ := id hC
  have kk := fun {pc2 : Nat} {lo2 st2 : List Value} {S2 : PS} (k : Snd l g M pc2 lo2 st2 S2 Q) H locs ls hP hS hl => k p e R s m args below meth c A cells slots Z H locs ls hC hP hS hl hk
  exact lv_dup2_11 hx hb h0 ((pEn_cat g v).trans h1) ((pEn_cat g w).trans h2) (kk k0 H locs ls hP hS hl)
set_option maxHeartbeats 1000000 in
theorem s_getI (l : Launch) (g : WG) : C_getI (gS g) (Snd l g) := by
  intro M pc lo st S Q x ci k i fs h0 h1 h2 h3 k0 p e R s m args below meth c A cells slots Z H locs ls hC hP hS hl hk
  obtain ⟨hx, hb, hml, hown, hts, hKx, hD, hA, hfr, hlo, hce, hsl⟩ := id hC
  have kk := fun {pc2 : Nat} {lo2 st2 : List Value} {S2 : PS} (k : Snd l g M pc2 lo2 st2 S2 Q) H locs ls hP hS hl => k p e R s m args below meth c A cells slots Z H locs ls hC hP hS hl hk
  obtain ⟨C, T, N, hc, hk9, hT, hws, hlink⟩ := h1
  have he := pcW_at (g := g) (S := S) h2
  have hv : (fs.mapIdx (fun k f => pcV g S i k f))[k]? = some (.int (S.1 i k)) := by rw [List.getElem?_mapIdx, h3]; rfl
  rcases hlink with hlink | ⟨host, hlink⟩
  · exact va_get (D := gD g) hx hb hts hws hown hKx.1 hP i he hc k hk9 (hts _ hlink) (fun _ h => hT ▸ h) hv h0 (kk k0 H locs ls hP hS hl)
  · exact va_getN (D := gD g) hx hb hts hws hown hKx.1 hP i he hc k hk9 (va_Nw.use rfl (hKx.2.1 _ hlink)) (fun _ h => hT ▸ h) hv h0 (kk k0 H locs ls hP hS hl)
set_option maxHeartbeats 1000000 in
theorem s_getR (l : Launch) (g : WG) : C_getR (gS g) (Snd l g) := by
  intro M pc lo st S Q x ci k i j fs h0 h1 h2 h3 k0 p e R s m args below meth c A cells slots Z H locs ls hC hP hS hl hk
  obtain ⟨hx, hb, hml, hown, hts, hKx, hD, hA, hfr, hlo, hce, hsl⟩ := id hC
  have kk := fun {pc2 : Nat} {lo2 st2 : List Value} {S2 : PS} (k : Snd l g M pc2 lo2 st2 S2 Q) H locs ls hP hS hl => k p e R s m args below meth c A cells slots Z H locs ls hC hP hS hl hk
  obtain ⟨C, T, N, hc, hk9, hT, hws, hlink⟩ := h1
  have he := pcW_at (g := g) (S := S) h2
  have hv : (fs.mapIdx (fun k f => pcV g S i k f))[k]? = some (.ref (gA g j)) := by rw [List.getElem?_mapIdx, h3]; rfl
  rcases hlink with hlink | ⟨host, hlink⟩
  · exact va_get (D := gD g) hx hb hts hws hown hKx.1 hP i he hc k hk9 (hts _ hlink) (fun _ h => hT ▸ h) hv h0 (kk k0 H locs ls hP hS hl)
  · exact va_getN (D := gD g) hx hb hts hws hown hKx.1 hP i he hc k hk9 (va_Nw.use rfl (hKx.2.1 _ hlink)) (fun _ h => hT ▸ h) hv h0 (kk k0 H locs ls hP hS hl)
set_option maxHeartbeats 1000000 in
theorem s_putI (l : Launch) (g : WG) : C_putI (gS g) (Snd l g) := by
  intro M pc lo st S Q x ci k i fs z v h0 h1 h2 h3 h4 k0 p e R s m args below meth c A cells slots Z H locs ls hC hP hS hl hk
  obtain ⟨hx, hb, hml, hown, hts, hKx, hD, hA, hfr, hlo, hce, hsl⟩ := id hC
  have kk := fun {pc2 : Nat} {lo2 st2 : List Value} {S2 : PS} (k : Snd l g M pc2 lo2 st2 S2 Q) H locs ls hP hS hl => k p e R s m args below meth c A cells slots Z H locs ls hC hP hS hl hk
  obtain ⟨C, T, N, ty0, hc, hk9, hT, hws, hlink, hty, hnm, hfin, hz⟩ := h1
  have he := pcW_at (g := g) (S := S) h2
  have hkl : k < fs.length := (List.getElem?_eq_some_iff.mp h3).1
  have hn9 : narrow (ty0 k) (.int v) = .int v ∧ fits (ty0 k) (.int v) = true := by
    rw [hz]
    cases z with
    | false => exact ⟨rfl, rfl⟩
    | true => rcases h4 rfl with rfl | rfl <;> exact ⟨rfl, rfl⟩
  have hset : (pcW g S).set i (gA g i, .inr (ci, (fs.mapIdx (fun k f => pcV g S i k f)).set k (.int v))) = pcW g (up2 S.1 i k v, S.2) := by
    refine pcW_set h2 ?_ (fun j hj => ⟨up2_ne _ _ _ hj, rfl⟩)
    show (Sum.inr (ci, fs.mapIdx (fun k2 f => pcV g (up2 S.1 i k v, S.2) i k2 f)) : va_E) = _
    refine congrArg (fun z => (Sum.inr (ci, z) : va_E)) ?_
    apply List.ext_getElem?
    intro j
    by_cases hj : j = k
    · subst hj
      rw [List.getElem?_set_self (by rw [List.length_mapIdx]; exact hkl), List.getElem?_mapIdx, h3]
      show some (Value.int (up2 S.1 i j v i j)) = _
      simp [up2]
    · rw [List.getElem?_set_ne (Ne.symm hj), List.getElem?_mapIdx, List.getElem?_mapIdx]
      cases fs[j]? with
      | none => rfl
      | some f =>
        cases f with
        | none =>
          show some (Value.int (up2 S.1 i k v i j)) = some (Value.int (S.1 i j))
          simp [up2, hj]
        | some q => rfl
  have hl9 : k < (fs.mapIdx (fun k f => pcV g S i k f)).length := by rw [List.length_mapIdx]; exact hkl
  rcases hlink with hlink | ⟨host, hlink⟩
  · refine va_put (D := gD g) hx hb hts hws ty0 hty hnm hown hKx.1 hP (hD S) hS i he hc k hk9 (hts _ hlink) (fun _ h => hT ▸ h) hfin (hty k hk9) hn9.1 hn9.2 hl9 h0 (fun H1 locs1 hP1 _ hS1 => ?_)
    have hP1 : va_P (gD g) vwCl ((pcW g S).set i (gA g i, .inr (ci, (fs.mapIdx (fun k f => pcV g S i k f)).set k (.int v)))) H1 := hP1
    rw [hset] at hP1
    exact kk k0 H1 locs1 ls hP1 hS1 hl
  · refine va_putN (D := gD g) hx hb hts hws ty0 hty hnm hown hKx.1 hP (hD S) hS i he hc k hk9 (va_Nw.use rfl (hKx.2.1 _ hlink)) (fun _ h => hT ▸ h) hfin (hty k hk9) hn9.1 hn9.2 hl9 h0 (fun H1 locs1 hP1 _ hS1 => ?_)
    have hP1 : va_P (gD g) vwCl ((pcW g S).set i (gA g i, .inr (ci, (fs.mapIdx (fun k f => pcV g S i k f)).set k (.int v)))) H1 := hP1
    rw [hset] at hP1
    exact kk k0 H1 locs1 ls hP1 hS1 hl
set_option maxHeartbeats 1000000 in
theorem s_iald (l : Launch) (g : WG) : C_iald (gS g) (Snd l g) := by
  intro M pc lo st S Q i n j h0 h1 h2 k0 p e R s m args below meth c A cells slots Z H locs ls hC hP hS hl hk
  obtain ⟨hx, hb, hml, hown, hts, hKx, hD, hA, hfr, hlo, hce, hsl⟩ := id hC
  have kk := fun {pc2 : Nat} {lo2 st2 : List Value} {S2 : PS} (k : Snd l g M pc2 lo2 st2 S2 Q) H locs ls hP hS hl => k p e R s m args below meth c A cells slots Z H locs ls hC hP hS hl hk
  exact va_iald (D := gD g) hx hb hKx.1 hP i 0 (pcW_at h1) (pcT_at (ty := .int) rfl) h2 h0 (kk k0 H locs ls hP hS hl)
set_option maxHeartbeats 1000000 in
theorem s_iast (l : Launch) (g : WG) : C_iast (gS g) (Snd l g) := by
  intro M pc lo st S Q i n j v h0 h1 h2 k0 p e R s m args below meth c A cells slots Z H locs ls hC hP hS hl hk
  obtain ⟨hx, hb, hml, hown, hts, hKx, hD, hA, hfr, hlo, hce, hsl⟩ := id hC
  have kk := fun {pc2 : Nat} {lo2 st2 : List Value} {S2 : PS} (k : Snd l g M pc2 lo2 st2 S2 Q) H locs ls hP hS hl => k p e R s m args below meth c A cells slots Z H locs ls hC hP hS hl hk
  have hset : (pcW g S).set i (gA g i, .inl (gC g 0, n, .inl (upd (S.1 i) j.toNatClampNeg v))) = pcW g (up2 S.1 i j.toNatClampNeg v, S.2) := by
    refine pcW_set h1 ?_ (fun j hj => ⟨up2_ne _ _ _ hj, rfl⟩)
    show (Sum.inl (gC g 0, n, Sum.inl (up2 S.1 i j.toNatClampNeg v i)) : va_E) = _
    rw [up2_at]
    rfl
  refine va_iast (D := gD g) hx hb hKx.1 hP (hD S) hS i 0 (pcW_at h1) (pcT_at (ty := .int) rfl) h2 h0 (fun H1 locs1 hP1 _ hS1 => ?_)
  rw [hset] at hP1
  exact kk k0 H1 locs1 ls hP1 hS1 hl
set_option maxHeartbeats 1000000 in
theorem s_bald (l : Launch) (g : WG) : C_bald (gS g) (Snd l g) := by
  intro M pc lo st S Q i n j h0 h1 h2 k0 p e R s m args below meth c A cells slots Z H locs ls hC hP hS hl hk
  obtain ⟨hx, hb, hml, hown, hts, hKx, hD, hA, hfr, hlo, hce, hsl⟩ := id hC
  have kk := fun {pc2 : Nat} {lo2 st2 : List Value} {S2 : PS} (k : Snd l g M pc2 lo2 st2 S2 Q) H locs ls hP hS hl => k p e R s m args below meth c A cells slots Z H locs ls hC hP hS hl hk
  exact va_bald (D := gD g) hx hb hKx.1 hP i 1 (pcW_at h1) (pcT_at (ty := .byte) rfl) h2 h0 (kk k0 H locs ls hP hS hl)
set_option maxHeartbeats 1000000 in
theorem s_bast (l : Launch) (g : WG) : C_bast (gS g) (Snd l g) := by
  intro M pc lo st S Q i n j v h0 h1 h2 k0 p e R s m args below meth c A cells slots Z H locs ls hC hP hS hl hk
  obtain ⟨hx, hb, hml, hown, hts, hKx, hD, hA, hfr, hlo, hce, hsl⟩ := id hC
  have kk := fun {pc2 : Nat} {lo2 st2 : List Value} {S2 : PS} (k : Snd l g M pc2 lo2 st2 S2 Q) H locs ls hP hS hl => k p e R s m args below meth c A cells slots Z H locs ls hC hP hS hl hk
  have hset : (pcW g S).set i (gA g i, .inl (gC g 1, n, .inl (upd (S.1 i) j.toNatClampNeg (vp_nar .byte v)))) = pcW g (up2 S.1 i j.toNatClampNeg (vp_nar .byte v), S.2) := by
    refine pcW_set h1 ?_ (fun j hj => ⟨up2_ne _ _ _ hj, rfl⟩)
    show (Sum.inl (gC g 1, n, Sum.inl (up2 S.1 i j.toNatClampNeg (vp_nar .byte v) i)) : va_E) = _
    rw [up2_at]
    rfl
  refine va_bast (D := gD g) hx hb hKx.1 hP (hD S) hS i 1 (pcW_at h1) (pcT_at (ty := .byte) rfl) h2 h0 (fun H1 locs1 hP1 _ hS1 => ?_)
  rw [hset] at hP1
  exact kk k0 H1 locs1 ls hP1 hS1 hl
set_option maxHeartbeats 1000000 in
theorem s_zald (l : Launch) (g : WG) : C_zald (gS g) (Snd l g) := by
  intro M pc lo st S Q i n j h0 h1 h2 k0 p e R s m args below meth c A cells slots Z H locs ls hC hP hS hl hk
  obtain ⟨hx, hb, hml, hown, hts, hKx, hD, hA, hfr, hlo, hce, hsl⟩ := id hC
  have kk := fun {pc2 : Nat} {lo2 st2 : List Value} {S2 : PS} (k : Snd l g M pc2 lo2 st2 S2 Q) H locs ls hP hS hl => k p e R s m args below meth c A cells slots Z H locs ls hC hP hS hl hk
  exact va_zald (D := gD g) hx hb hKx.1 hP i 2 (pcW_at h1) (pcT_at (ty := .boolean) rfl) h2 h0 (kk k0 H locs ls hP hS hl)
set_option maxHeartbeats 1000000 in
theorem s_zast (l : Launch) (g : WG) : C_zast (gS g) (Snd l g) := by
  intro M pc lo st S Q i n j v h0 h1 h2 k0 p e R s m args below meth c A cells slots Z H locs ls hC hP hS hl hk
  obtain ⟨hx, hb, hml, hown, hts, hKx, hD, hA, hfr, hlo, hce, hsl⟩ := id hC
  have kk := fun {pc2 : Nat} {lo2 st2 : List Value} {S2 : PS} (k : Snd l g M pc2 lo2 st2 S2 Q) H locs ls hP hS hl => k p e R s m args below meth c A cells slots Z H locs ls hC hP hS hl hk
  have hset : (pcW g S).set i (gA g i, .inl (gC g 2, n, .inl (upd (S.1 i) j.toNatClampNeg (vp_nar .boolean v)))) = pcW g (up2 S.1 i j.toNatClampNeg (vp_nar .boolean v), S.2) := by
    refine pcW_set h1 ?_ (fun j hj => ⟨up2_ne _ _ _ hj, rfl⟩)
    show (Sum.inl (gC g 2, n, Sum.inl (up2 S.1 i j.toNatClampNeg (vp_nar .boolean v) i)) : va_E) = _
    rw [up2_at]
    rfl
  refine va_zast (D := gD g) hx hb hKx.1 hP (hD S) hS i 2 (pcW_at h1) (pcT_at (ty := .boolean) rfl) h2 h0 (fun H1 locs1 hP1 _ hS1 => ?_)
  rw [hset] at hP1
  exact kk k0 H1 locs1 ls hP1 hS1 hl
set_option maxHeartbeats 1000000 in
theorem s_lald (l : Launch) (g : WG) : C_lald (gS g) (Snd l g) := by
  intro M pc lo st S Q i n j h0 h1 h2 k0 p e R s m args below meth c A cells slots Z H locs ls hC hP hS hl hk
  obtain ⟨hx, hb, hml, hown, hts, hKx, hD, hA, hfr, hlo, hce, hsl⟩ := id hC
  have kk := fun {pc2 : Nat} {lo2 st2 : List Value} {S2 : PS} (k : Snd l g M pc2 lo2 st2 S2 Q) H locs ls hP hS hl => k p e R s m args below meth c A cells slots Z H locs ls hC hP hS hl hk
  exact va_lald (D := gD g) hx hb hKx.1 hP i 3 (pcW_at h1) (pcT_at (ty := .long) rfl) h2 h0 (kk k0 H locs ls hP hS hl)
set_option maxHeartbeats 1000000 in
theorem s_last (l : Launch) (g : WG) : C_last (gS g) (Snd l g) := by
  intro M pc lo st S Q i n j v h0 h1 h2 k0 p e R s m args below meth c A cells slots Z H locs ls hC hP hS hl hk
  obtain ⟨hx, hb, hml, hown, hts, hKx, hD, hA, hfr, hlo, hce, hsl⟩ := id hC
  have kk := fun {pc2 : Nat} {lo2 st2 : List Value} {S2 : PS} (k : Snd l g M pc2 lo2 st2 S2 Q) H locs ls hP hS hl => k p e R s m args below meth c A cells slots Z H locs ls hC hP hS hl hk
  have hset : (pcW g S).set i (gA g i, .inl (gC g 3, n, .inr (.inl (vp_updL (S.2 i) j.toNatClampNeg v)))) = pcW g (S.1, up2 S.2 i j.toNatClampNeg v) := by
    refine pcW_set h1 ?_ (fun j hj => ⟨rfl, up2_ne _ _ _ hj⟩)
    show (Sum.inl (gC g 3, n, Sum.inr (Sum.inl (up2 S.2 i j.toNatClampNeg v i))) : va_E) = _
    rw [up2_at]
    rfl
  refine va_last (D := gD g) hx hb hKx.1 hP (hD S) hS i 3 (pcW_at h1) (pcT_at (ty := .long) rfl) h2 h0 (fun H1 locs1 hP1 _ hS1 => ?_)
  rw [hset] at hP1
  exact kk k0 H1 locs1 ls hP1 hS1 hl
set_option maxHeartbeats 1000000 in
theorem s_aald (l : Launch) (g : WG) : C_aald (gS g) (Snd l g) := by
  intro M pc lo st S Q i t r js j h0 h1 h2 h3 k0 p e R s m args below meth c A cells slots Z H locs ls hC hP hS hl hk
  obtain ⟨hx, hb, hml, hown, hts, hKx, hD, hA, hfr, hlo, hce, hsl⟩ := id hC
  have kk := fun {pc2 : Nat} {lo2 st2 : List Value} {S2 : PS} (k : Snd l g M pc2 lo2 st2 S2 Q) H locs ls hP hS hl => k p e R s m args below meth c A cells slots Z H locs ls hC hP hS hl hk
  obtain ⟨ty, ht, hr9⟩ := sh_ref' h1
  have ha := pcW_at (g := g) (S := S) h1
  have hlt : j.toNatClampNeg < js.length := Nat.not_le.mp fun q => h2 (Or.inr q)
  refine W.aald (v := .ref (gA g r)) (ty := ty) hx hb (hP i _ ha) ((hKx.1.2 t _ (pcT_at ht)).1 js.length (fun k => va_rf ((js[k]?).map (gA g)))) hr9 (fun q => by cases q) (by show ¬ (j < 0 ∨ (arrV _ _ _).slots.size ≤ _); rw [arrV_size]; exact h2) (by show (arrV _ _ _).slots[_]? = _; rw [arrV_read _ _ hlt]; show some (va_rf ((js[j.toNatClampNeg]?).map (gA g))) = _; rw [h3]; rfl) rfl rfl h0 (kk k0 H locs ls hP hS hl)
set_option maxHeartbeats 1000000 in
theorem s_sld (l : Launch) (g : WG) : C_sld (gS g) (Snd l g) := by
  intro M pc lo st S Q j h0 h1 k0 p e R s m args below meth c A cells slots Z H locs ls hC hP hS hl hk
  obtain ⟨hx, hb, hml, hown, hts, hKx, hD, hA, hfr, hlo, hce, hsl⟩ := id hC
  have kk := fun {pc2 : Nat} {lo2 st2 : List Value} {S2 : PS} (k : Snd l g M pc2 lo2 st2 S2 Q) H locs ls hP hS hl => k p e R s m args below meth c A cells slots Z H locs ls hC hP hS hl hk
  exact va_sld hx hb hKx.2.2.1.1 hKx.2.2.1.2.1 hKx.2.2.1.2.2 hS h1 h0 (kk k0 H locs ls hP hS hl)
set_option maxHeartbeats 1000000 in
theorem s_slen (l : Launch) (g : WG) : C_slen (gS g) (Snd l g) := by
  intro M pc lo st S Q  h0 k0 p e R s m args below meth c A cells slots Z H locs ls hC hP hS hl hk
  obtain ⟨hx, hb, hml, hown, hts, hKx, hD, hA, hfr, hlo, hce, hsl⟩ := id hC
  have kk := fun {pc2 : Nat} {lo2 st2 : List Value} {S2 : PS} (k : Snd l g M pc2 lo2 st2 S2 Q) H locs ls hP hS hl => k p e R s m args below meth c A cells slots Z H locs ls hC hP hS hl hk
  exact va_slen hx hb hKx.2.2.1.1 hKx.2.2.1.2.1 hKx.2.2.1.2.2 hS h0 (kk k0 H locs ls hP hS hl)
set_option maxHeartbeats 1000000 in
theorem s_getSV (l : Launch) (g : WG) : C_getSV (gS g) (Snd l g) := by
  intro M pc lo st S Q x k h0 h1 h2 k0 p e R s m args below meth c A cells slots Z H locs ls hC hP hS hl hk
  obtain ⟨hx, hb, hml, hown, hts, hKx, hD, hA, hfr, hlo, hce, hsl⟩ := id hC
  have kk := fun {pc2 : Nat} {lo2 st2 : List Value} {S2 : PS} (k : Snd l g M pc2 lo2 st2 S2 Q) H locs ls hP hS hl => k p e R s m args below meth c A cells slots Z H locs ls hC hP hS hl hk
  exact vk_getf hx hb (hKx.2.2.2.1.1 k h1).2.2.1 hS hown (hts _ h2) (fun _ h => h) h0 (kk k0 H locs ls hP hS hl)
set_option maxHeartbeats 1000000 in
theorem s_getSC (l : Launch) (g : WG) : C_getSC (gS g) (Snd l g) := by
  intro M pc lo st S Q x k h0 h1 h2 k0 p e R s m args below meth c A cells slots Z H locs ls hC hP hS hl hk
  obtain ⟨hx, hb, hml, hown, hts, hKx, hD, hA, hfr, hlo, hce, hsl⟩ := id hC
  have kk := fun {pc2 : Nat} {lo2 st2 : List Value} {S2 : PS} (k : Snd l g M pc2 lo2 st2 S2 Q) H locs ls hP hS hl => k p e R s m args below meth c A cells slots Z H locs ls hC hP hS hl hk
  exact vk_getf hx hb (hKx.2.2.2.1.1 k h1).2.1 hS hown (hts _ h2) (fun _ h => h) h0 (kk k0 H locs ls hP hS hl)
set_option maxHeartbeats 1000000 in
theorem s_alenS (l : Launch) (g : WG) : C_alenS (gS g) (Snd l g) := by
  intro M pc lo st S Q k h0 h1 k0 p e R s m args below meth c A cells slots Z H locs ls hC hP hS hl hk
  obtain ⟨hx, hb, hml, hown, hts, hKx, hD, hA, hfr, hlo, hce, hsl⟩ := id hC
  have kk := fun {pc2 : Nat} {lo2 st2 : List Value} {S2 : PS} (k : Snd l g M pc2 lo2 st2 S2 Q) H locs ls hP hS hl => k p e R s m args below meth c A cells slots Z H locs ls hC hP hS hl hk
  exact va_tlen hx hb (hKx.2.2.2.1.1 k h1).2.2.2 hS rfl h0 (kk k0 H locs ls hP hS hl)
set_option maxHeartbeats 1000000 in
theorem s_baldS (l : Launch) (g : WG) : C_baldS (gS g) (Snd l g) := by
  intro M pc lo st S Q k j h0 h1 h2 k0 p e R s m args below meth c A cells slots Z H locs ls hC hP hS hl hk
  obtain ⟨hx, hb, hml, hown, hts, hKx, hD, hA, hfr, hlo, hce, hsl⟩ := id hC
  have kk := fun {pc2 : Nat} {lo2 st2 : List Value} {S2 : PS} (k : Snd l g M pc2 lo2 st2 S2 Q) H locs ls hP hS hl => k p e R s m args below meth c A cells slots Z H locs ls hC hP hS hl hk
  exact va_tb hx hb (hKx.2.2.2.1.1 k h1).2.2.2 hS h2 rfl h0 (kk k0 H locs ls hP hS hl)
set_option maxHeartbeats 1000000 in
theorem s_getsC (l : Launch) (g : WG) : C_getsC (gS g) (Snd l g) := by
  intro M pc lo st S Q x h0 h1 k0 p e R s m args below meth c A cells slots Z H locs ls hC hP hS hl hk
  obtain ⟨hx, hb, hml, hown, hts, hKx, hD, hA, hfr, hlo, hce, hsl⟩ := id hC
  have kk := fun {pc2 : Nat} {lo2 st2 : List Value} {S2 : PS} (k : Snd l g M pc2 lo2 st2 S2 Q) H locs ls hP hS hl => k p e R s m args below meth c A cells slots Z H locs ls hC hP hS hl hk
  exact va_gets hx hb hKx.2.2.2.2.2.1 hS hown (hts _ h1) (fun _ h => h) h0 (kk k0 H locs ls hP hS hl)
set_option maxHeartbeats 1000000 in
theorem s_getsR (l : Launch) (g : WG) : C_getsR (gS g) (Snd l g) := by
  intro M pc lo st S Q x h0 h1 k0 p e R s m args below meth c A cells slots Z H locs ls hC hP hS hl hk
  obtain ⟨hx, hb, hml, hown, hts, hKx, hD, hA, hfr, hlo, hce, hsl⟩ := id hC
  have kk := fun {pc2 : Nat} {lo2 st2 : List Value} {S2 : PS} (k : Snd l g M pc2 lo2 st2 S2 Q) H locs ls hP hS hl => k p e R s m args below meth c A cells slots Z H locs ls hC hP hS hl hk
  rcases hKx.2.2.2.2.2.2 with hz | hz
  · exact va_gets hx hb hz hS hown (hts _ h1) (fun _ h => h) h0 (kk (k0 .null (Or.inl rfl)) H locs ls hP hS hl)
  · exact va_gets hx hb hz hS hown (hts _ h1) (fun _ h => h) h0 (kk (k0 (.ref 98) (Or.inr rfl)) H locs ls hP hS hl)
set_option maxHeartbeats 1000000 in
theorem s_mmax (l : Launch) (g : WG) : C_mmax (gS g) (Snd l g) := by
  intro M pc lo st S Q x a b h0 h1 h2 h3 k0 p e R s m args below meth c A cells slots Z H locs ls hC hP hS hl hk
  obtain ⟨hx, hb, hml, hown, hts, hKx, hD, hA, hfr, hlo, hce, hsl⟩ := id hC
  have kk := fun {pc2 : Nat} {lo2 st2 : List Value} {S2 : PS} (k : Snd l g M pc2 lo2 st2 S2 Q) H locs ls hP hS hl => k p e R s m args below meth c A cells slots Z H locs ls hC hP hS hl hk
  have h3' : ((st.map (pEn g)).map fun v => v.category).sum ≤ 8 := by rw [pEn_sum]; exact h3
  exact va_mmax hx hb (by rw [hml]; exact hl.1.symm) hown (hts _ h1.1) (hts _ h1.2.1) (hts _ h1.2.2.1) (hts _ h1.2.2.2) (by omega) (by omega) hce hsl h0 (kk k0 H locs ls hP hS hl)
set_option maxHeartbeats 1000000 in
theorem s_mabs (l : Launch) (g : WG) : C_mabs (gS g) (Snd l g) := by
  intro M pc lo st S Q x a h0 h1 h2 h3 k0 p e R s m args below meth c A cells slots Z H locs ls hC hP hS hl hk
  obtain ⟨hx, hb, hml, hown, hts, hKx, hD, hA, hfr, hlo, hce, hsl⟩ := id hC
  have kk := fun {pc2 : Nat} {lo2 st2 : List Value} {S2 : PS} (k : Snd l g M pc2 lo2 st2 S2 Q) H locs ls hP hS hl => k p e R s m args below meth c A cells slots Z H locs ls hC hP hS hl hk
  have h3' : ((st.map (pEn g)).map fun v => v.category).sum ≤ 8 := by rw [pEn_sum]; exact h3
  exact va_mabs hx hb (by rw [hml]; exact hl.1.symm) hown (hts _ h1.1) (hts _ h1.2.1) (hts _ h1.2.2.1) (hts _ h1.2.2.2) (by omega) (by omega) hce hsl h0 (kk k0 H locs ls hP hS hl)
set_option maxHeartbeats 1000000 in
theorem s_if_eq (l : Launch) (g : WG) : C_if_eq (gS g) (Snd l g) := by
  intro M pc lo st S Q x off tgt h0 h1 k0 k1 p e R s m args below meth c A cells slots Z H locs ls hC hP hS hl hk
  obtain ⟨hx, hb, hml, hown, hts, hKx, hD, hA, hfr, hlo, hce, hsl⟩ := id hC
  have kk := fun {pc2 : Nat} {lo2 st2 : List Value} {S2 : PS} (k : Snd l g M pc2 lo2 st2 S2 Q) H locs ls hP hS hl => k p e R s m args below meth c A cells slots Z H locs ls hC hP hS hl hk
  exact lv_if_eq hx hb h0 h1 (fun h => kk (k0 h) H locs ls hP hS hl) (fun h => kk (k1 h) H locs ls hP hS hl)
set_option maxHeartbeats 1000000 in
theorem s_if_ne (l : Launch) (g : WG) : C_if_ne (gS g) (Snd l g) := by
  intro M pc lo st S Q x off tgt h0 h1 k0 k1 p e R s m args below meth c A cells slots Z H locs ls hC hP hS hl hk
  obtain ⟨hx, hb, hml, hown, hts, hKx, hD, hA, hfr, hlo, hce, hsl⟩ := id hC
  have kk := fun {pc2 : Nat} {lo2 st2 : List Value} {S2 : PS} (k : Snd l g M pc2 lo2 st2 S2 Q) H locs ls hP hS hl => k p e R s m args below meth c A cells slots Z H locs ls hC hP hS hl hk
  exact lv_if_ne hx hb h0 h1 (fun h => kk (k0 h) H locs ls hP hS hl) (fun h => kk (k1 h) H locs ls hP hS hl)
set_option maxHeartbeats 1000000 in
theorem s_if_lt (l : Launch) (g : WG) : C_if_lt (gS g) (Snd l g) := by
  intro M pc lo st S Q x off tgt h0 h1 k0 k1 p e R s m args below meth c A cells slots Z H locs ls hC hP hS hl hk
  obtain ⟨hx, hb, hml, hown, hts, hKx, hD, hA, hfr, hlo, hce, hsl⟩ := id hC
  have kk := fun {pc2 : Nat} {lo2 st2 : List Value} {S2 : PS} (k : Snd l g M pc2 lo2 st2 S2 Q) H locs ls hP hS hl => k p e R s m args below meth c A cells slots Z H locs ls hC hP hS hl hk
  exact lv_if_lt hx hb h0 h1 (fun h => kk (k0 h) H locs ls hP hS hl) (fun h => kk (k1 h) H locs ls hP hS hl)
set_option maxHeartbeats 1000000 in
theorem s_if_ge (l : Launch) (g : WG) : C_if_ge (gS g) (Snd l g) := by
  intro M pc lo st S Q x off tgt h0 h1 k0 k1 p e R s m args below meth c A cells slots Z H locs ls hC hP hS hl hk
  obtain ⟨hx, hb, hml, hown, hts, hKx, hD, hA, hfr, hlo, hce, hsl⟩ := id hC
  have kk := fun {pc2 : Nat} {lo2 st2 : List Value} {S2 : PS} (k : Snd l g M pc2 lo2 st2 S2 Q) H locs ls hP hS hl => k p e R s m args below meth c A cells slots Z H locs ls hC hP hS hl hk
  exact lv_if_ge hx hb h0 h1 (fun h => kk (k0 h) H locs ls hP hS hl) (fun h => kk (k1 h) H locs ls hP hS hl)
set_option maxHeartbeats 1000000 in
theorem s_if_gt (l : Launch) (g : WG) : C_if_gt (gS g) (Snd l g) := by
  intro M pc lo st S Q x off tgt h0 h1 k0 k1 p e R s m args below meth c A cells slots Z H locs ls hC hP hS hl hk
  obtain ⟨hx, hb, hml, hown, hts, hKx, hD, hA, hfr, hlo, hce, hsl⟩ := id hC
  have kk := fun {pc2 : Nat} {lo2 st2 : List Value} {S2 : PS} (k : Snd l g M pc2 lo2 st2 S2 Q) H locs ls hP hS hl => k p e R s m args below meth c A cells slots Z H locs ls hC hP hS hl hk
  exact lv_if_gt hx hb h0 h1 (fun h => kk (k0 h) H locs ls hP hS hl) (fun h => kk (k1 h) H locs ls hP hS hl)
set_option maxHeartbeats 1000000 in
theorem s_if_le (l : Launch) (g : WG) : C_if_le (gS g) (Snd l g) := by
  intro M pc lo st S Q x off tgt h0 h1 k0 k1 p e R s m args below meth c A cells slots Z H locs ls hC hP hS hl hk
  obtain ⟨hx, hb, hml, hown, hts, hKx, hD, hA, hfr, hlo, hce, hsl⟩ := id hC
  have kk := fun {pc2 : Nat} {lo2 st2 : List Value} {S2 : PS} (k : Snd l g M pc2 lo2 st2 S2 Q) H locs ls hP hS hl => k p e R s m args below meth c A cells slots Z H locs ls hC hP hS hl hk
  exact lv_if_le hx hb h0 h1 (fun h => kk (k0 h) H locs ls hP hS hl) (fun h => kk (k1 h) H locs ls hP hS hl)
set_option maxHeartbeats 1000000 in
theorem s_icmp_eq (l : Launch) (g : WG) : C_icmp_eq (gS g) (Snd l g) := by
  intro M pc lo st S Q x y off tgt h0 h1 k0 k1 p e R s m args below meth c A cells slots Z H locs ls hC hP hS hl hk
  obtain ⟨hx, hb, hml, hown, hts, hKx, hD, hA, hfr, hlo, hce, hsl⟩ := id hC
  have kk := fun {pc2 : Nat} {lo2 st2 : List Value} {S2 : PS} (k : Snd l g M pc2 lo2 st2 S2 Q) H locs ls hP hS hl => k p e R s m args below meth c A cells slots Z H locs ls hC hP hS hl hk
  exact lv_icmp_eq hx hb h0 h1 (fun h => kk (k0 h) H locs ls hP hS hl) (fun h => kk (k1 h) H locs ls hP hS hl)
set_option maxHeartbeats 1000000 in
theorem s_icmp_ne (l : Launch) (g : WG) : C_icmp_ne (gS g) (Snd l g) := by
  intro M pc lo st S Q x y off tgt h0 h1 k0 k1 p e R s m args below meth c A cells slots Z H locs ls hC hP hS hl hk
  obtain ⟨hx, hb, hml, hown, hts, hKx, hD, hA, hfr, hlo, hce, hsl⟩ := id hC
  have kk := fun {pc2 : Nat} {lo2 st2 : List Value} {S2 : PS} (k : Snd l g M pc2 lo2 st2 S2 Q) H locs ls hP hS hl => k p e R s m args below meth c A cells slots Z H locs ls hC hP hS hl hk
  exact lv_icmp_ne hx hb h0 h1 (fun h => kk (k0 h) H locs ls hP hS hl) (fun h => kk (k1 h) H locs ls hP hS hl)
set_option maxHeartbeats 1000000 in
theorem s_icmp_lt (l : Launch) (g : WG) : C_icmp_lt (gS g) (Snd l g) := by
  intro M pc lo st S Q x y off tgt h0 h1 k0 k1 p e R s m args below meth c A cells slots Z H locs ls hC hP hS hl hk
  obtain ⟨hx, hb, hml, hown, hts, hKx, hD, hA, hfr, hlo, hce, hsl⟩ := id hC
  have kk := fun {pc2 : Nat} {lo2 st2 : List Value} {S2 : PS} (k : Snd l g M pc2 lo2 st2 S2 Q) H locs ls hP hS hl => k p e R s m args below meth c A cells slots Z H locs ls hC hP hS hl hk
  exact lv_icmp_lt hx hb h0 h1 (fun h => kk (k0 h) H locs ls hP hS hl) (fun h => kk (k1 h) H locs ls hP hS hl)
set_option maxHeartbeats 1000000 in
theorem s_icmp_ge (l : Launch) (g : WG) : C_icmp_ge (gS g) (Snd l g) := by
  intro M pc lo st S Q x y off tgt h0 h1 k0 k1 p e R s m args below meth c A cells slots Z H locs ls hC hP hS hl hk
  obtain ⟨hx, hb, hml, hown, hts, hKx, hD, hA, hfr, hlo, hce, hsl⟩ := id hC
  have kk := fun {pc2 : Nat} {lo2 st2 : List Value} {S2 : PS} (k : Snd l g M pc2 lo2 st2 S2 Q) H locs ls hP hS hl => k p e R s m args below meth c A cells slots Z H locs ls hC hP hS hl hk
  exact lv_icmp_ge hx hb h0 h1 (fun h => kk (k0 h) H locs ls hP hS hl) (fun h => kk (k1 h) H locs ls hP hS hl)
set_option maxHeartbeats 1000000 in
theorem s_icmp_gt (l : Launch) (g : WG) : C_icmp_gt (gS g) (Snd l g) := by
  intro M pc lo st S Q x y off tgt h0 h1 k0 k1 p e R s m args below meth c A cells slots Z H locs ls hC hP hS hl hk
  obtain ⟨hx, hb, hml, hown, hts, hKx, hD, hA, hfr, hlo, hce, hsl⟩ := id hC
  have kk := fun {pc2 : Nat} {lo2 st2 : List Value} {S2 : PS} (k : Snd l g M pc2 lo2 st2 S2 Q) H locs ls hP hS hl => k p e R s m args below meth c A cells slots Z H locs ls hC hP hS hl hk
  exact lv_icmp_gt hx hb h0 h1 (fun h => kk (k0 h) H locs ls hP hS hl) (fun h => kk (k1 h) H locs ls hP hS hl)
set_option maxHeartbeats 1000000 in
theorem s_icmp_le (l : Launch) (g : WG) : C_icmp_le (gS g) (Snd l g) := by
  intro M pc lo st S Q x y off tgt h0 h1 k0 k1 p e R s m args below meth c A cells slots Z H locs ls hC hP hS hl hk
  obtain ⟨hx, hb, hml, hown, hts, hKx, hD, hA, hfr, hlo, hce, hsl⟩ := id hC
  have kk := fun {pc2 : Nat} {lo2 st2 : List Value} {S2 : PS} (k : Snd l g M pc2 lo2 st2 S2 Q) H locs ls hP hS hl => k p e R s m args below meth c A cells slots Z H locs ls hC hP hS hl hk
  exact lv_icmp_le hx hb h0 h1 (fun h => kk (k0 h) H locs ls hP hS hl) (fun h => kk (k1 h) H locs ls hP hS hl)
set_option maxHeartbeats 1000000 in
theorem s_goto (l : Launch) (g : WG) : C_goto (gS g) (Snd l g) := by
  intro M pc lo st S Q off tgt h0 h1 k0 p e R s m args below meth c A cells slots Z H locs ls hC hP hS hl hk
  obtain ⟨hx, hb, hml, hown, hts, hKx, hD, hA, hfr, hlo, hce, hsl⟩ := id hC
  have kk := fun {pc2 : Nat} {lo2 st2 : List Value} {S2 : PS} (k : Snd l g M pc2 lo2 st2 S2 Q) H locs ls hP hS hl => k p e R s m args below meth c A cells slots Z H locs ls hC hP hS hl hk
  exact lv_goto hx hb h0 h1 (kk k0 H locs ls hP hS hl)
set_option maxHeartbeats 1000000 in
theorem s_table (l : Launch) (g : WG) : C_table (gS g) (Snd l g) := by
  intro M pc lo st S Q x dflt lw hi offs len h0 k0 p e R s m args below meth c A cells slots Z H locs ls hC hP hS hl hk
  obtain ⟨hx, hb, hml, hown, hts, hKx, hD, hA, hfr, hlo, hce, hsl⟩ := id hC
  have kk := fun {pc2 : Nat} {lo2 st2 : List Value} {S2 : PS} (k : Snd l g M pc2 lo2 st2 S2 Q) H locs ls hP hS hl => k p e R s m args below meth c A cells slots Z H locs ls hC hP hS hl hk
  obtain ⟨tgt, hor, k⟩ := k0
  rcases hor with ⟨ho, ht⟩ | ⟨ho1, ho2, off, ho, ht⟩
  · exact lv_tableOut hx hb h0 ho ht (kk k H locs ls hP hS hl)
  · exact lv_tableIn hx hb h0 ho1 ho2 ho ht (kk k H locs ls hP hS hl)
set_option maxHeartbeats 1000000 in
theorem s_lookup (l : Launch) (g : WG) : C_lookup (gS g) (Snd l g) := by
  intro M pc lo st S Q x dflt ps len tgt h0 h1 h2 k0 p e R s m args below meth c A cells slots Z H locs ls hC hP hS hl hk
  obtain ⟨hx, hb, hml, hown, hts, hKx, hD, hA, hfr, hlo, hce, hsl⟩ := id hC
  have kk := fun {pc2 : Nat} {lo2 st2 : List Value} {S2 : PS} (k : Snd l g M pc2 lo2 st2 S2 Q) H locs ls hP hS hl => k p e R s m args below meth c A cells slots Z H locs ls hC hP hS hl hk
  exact lv_lookup hx hb h0 h1 rfl h2 (kk k0 H locs ls hP hS hl)
set_option maxHeartbeats 1000000 in
theorem s_iret (l : Launch) (g : WG) : C_iret (gS g) (Snd l g) := by
  intro M pc lo st S Q x ty h0 h1 h2 k0 p e R s m args below meth c A cells slots Z H locs ls hC hP hS hl hk
  obtain ⟨hx, hb, hml, hown, hts, hKx, hD, hA, hfr, hlo, hce, hsl⟩ := id hC
  have kk := fun {pc2 : Nat} {lo2 st2 : List Value} {S2 : PS} (k : Snd l g M pc2 lo2 st2 S2 Q) H locs ls hP hS hl => k p e R s m args below meth c A cells slots Z H locs ls hC hP hS hl hk
  exact hk (some (.int x)) S H locs ls pc k0 ⟨h0, ty, h1, h2⟩ hP hS
set_option maxHeartbeats 1000000 in
theorem s_lret (l : Launch) (g : WG) : C_lret (gS g) (Snd l g) := by
  intro M pc lo st S Q x h0 h1 k0 p e R s m args below meth c A cells slots Z H locs ls hC hP hS hl hk
  obtain ⟨hx, hb, hml, hown, hts, hKx, hD, hA, hfr, hlo, hce, hsl⟩ := id hC
  have kk := fun {pc2 : Nat} {lo2 st2 : List Value} {S2 : PS} (k : Snd l g M pc2 lo2 st2 S2 Q) H locs ls hP hS hl => k p e R s m args below meth c A cells slots Z H locs ls hC hP hS hl hk
  exact hk (some (.long x)) S H locs ls pc k0 ⟨h0, h1⟩ hP hS
set_option maxHeartbeats 1000000 in
theorem s_vret (l : Launch) (g : WG) : C_vret (gS g) (Snd l g) := by
  intro M pc lo st S Q  h0 h1 k0 p e R s m args below meth c A cells slots Z H locs ls hC hP hS hl hk
  obtain ⟨hx, hb, hml, hown, hts, hKx, hD, hA, hfr, hlo, hce, hsl⟩ := id hC
  have kk := fun {pc2 : Nat} {lo2 st2 : List Value} {S2 : PS} (k : Snd l g M pc2 lo2 st2 S2 Q) H locs ls hP hS hl => k p e R s m args below meth c A cells slots Z H locs ls hC hP hS hl hk
  exact hk none S H locs ls pc k0 ⟨h0, h1⟩ hP hS
set_option maxHeartbeats 1000000 in
theorem s_callV (l : Launch) (g : WG) : C_callV (gS g) (Snd l g) := by
  intro M pc lo st S Q M' x i n As st0 Qm h0 h1 h2 h3 h4 h5 h6 h7 h8 k0 k1 p e R s m args below meth c A cells slots Z H locs ls hC hP hS hl hk
  obtain ⟨hx, hb, hml, hown, hts, hKx, hD, hA, hfr, hlo, hce, hsl⟩ := id hC
  have kk := fun {pc2 : Nat} {lo2 st2 : List Value} {S2 : PS} (k : Snd l g M pc2 lo2 st2 S2 Q) H locs ls hP hS hl => k p e R s m args below meth c A cells slots Z H locs ls hC hP hS hl hk
  have h7' : ((st.map (pEn g)).map fun v => v.category).sum ≤ 8 := by rw [pEn_sum]; exact h7
  obtain ⟨hn, hin, hsel⟩ := h1
  obtain ⟨hpl, hcode, hini, ⟨hd1, hd2, hd3⟩, hL⟩ := id hn
  have hF := pFree (hD S) hA hS
  have hM := met_of (sz := H.size) hn h8 k0
  have hgood := pGood M' hcode
  have hpre : ∀ U : State, U.heap = H → s.WarmedH U.vm → pPc g (.ref i :: As) S H.size (Value.ref (gA g i) :: As.map (pEn g)).toArray U := by
    intro U hU hW
    exact ⟨rfl, by rw [hU], by rw [hU]; exact hP, by rw [hU]; exact hKx.go hS hW hF, (hD S).weaken (fun _ _ _ _ => trivial)⟩
  have hrec : ∃ cellB : Cell, H[gA g i]? = some cellB ∧ cellB.vm.isStatics = false ∧ s.vm.findClass (pmY M').cls = some cellB.cls := by
    rcases h4 with ⟨ci, fs, q, a1, a2, a3⟩ | ⟨k9, a1, rfl, a2⟩
    · rw [← a3]
      exact va_recv hKx.1 hP a2 (pcW_at a1)
    · rw [a2]
      exact vk_recv (adK := fun k => gA g (100 + k)) (i := k9) hKx.2.2.2.1 a1 hS
  have hst : st0.map (pEn g) = (As.map (pEn g)).reverse ++ .ref (gA g i) :: st.map (pEn g) := by
    rw [h6, List.map_append, List.map_reverse]; rfl
  rw [hst]
  have hlen : (As.map (pEn g)).length = n := by rw [List.length_map]; exact h5
  have hR9 : (pRm M').frames + 1 ≤ R.frames ∧ 8 + (pmL M' + 11) + (pRm M').locals ≤ R.locals := by
    show pmV M' + 1 ≤ R.frames ∧ 8 + (pmL M' + 11) + 36 * pmV M' ≤ R.locals
    omega
  have hrun : va_Run p l e R s m args below meth c H locs cells slots 0 0 (F0 m pc ls ((As.map (pEn g)).reverse ++ .ref (gA g i) :: st.map (pEn g))) (st.map (pEn g)) (pQc g S H.size Qm (Value.ref (gA g i) :: As.map (pEn g)).toArray) (va_A (pcW g S) H.size) := by
    rcases h2 with hlk | ⟨host, hlk⟩
    · exact va_runV (C := (pmY M').cls) (bytes := pmB M') (maxL := pmL M') (ret := pmR M') (nL := pmL M) (n := n) (Ts := lw_good) ⟨hx, hb, hml, hown, hts⟩ hM ⟨callB_of n hts hgood rfl rfl rfl (hts _ hini) (hts _ hlk) ⟨hd1, hd2, hd3⟩ hR9, hts _ hin, hts _ hsel⟩ ⟨pBlind g _ S H.size, hrec, hpre⟩ rfl hlen hl.1 rfl (lv_room h7') h0 ⟨hce, hsl⟩
    · exact va_runVN (C := (pmY M').cls) (bytes := pmB M') (maxL := pmL M') (ret := pmR M') (nL := pmL M) (n := n) (Ts := lw_good) ⟨hx, hb, hml, hown, hts⟩ hM ⟨va_cnB n hts hgood rfl rfl rfl (hKx.2.1 _ hlk) (hts _ hini) ⟨hd1, hd2, hd3⟩ hR9, hts _ hin, hts _ hsel⟩ ⟨pBlind g _ S H.size, hrec, hpre⟩ rfl hlen hl.1 rfl (lv_room h7') h0 ⟨hce, hsl⟩
  refine pcall hrun hS hF (fun r S' H1 locs1 hq hP1 hS1 => ?_)
  have := kk (k1 r S' hq) H1 locs1 ls hP1 hS1 hl
  rw [List.map_append] at this
  cases r <;> exact this
set_option maxHeartbeats 1000000 in
theorem s_callS (l : Launch) (g : WG) : C_callS (gS g) (Snd l g) := by
  intro M pc lo st S Q M' x n As st0 Qm h0 h1 h2 h3 h4 h5 h6 h7 k0 k1 p e R s m args below meth c A cells slots Z H locs ls hC hP hS hl hk
  obtain ⟨hx, hb, hml, hown, hts, hKx, hD, hA, hfr, hlo, hce, hsl⟩ := id hC
  have kk := fun {pc2 : Nat} {lo2 st2 : List Value} {S2 : PS} (k : Snd l g M pc2 lo2 st2 S2 Q) H locs ls hP hS hl => k p e R s m args below meth c A cells slots Z H locs ls hC hP hS hl hk
  have h6' : ((st.map (pEn g)).map fun v => v.category).sum ≤ 8 := by rw [pEn_sum]; exact h6
  obtain ⟨hn, hst9⟩ := h1
  obtain ⟨hpl, hcode, hini, ⟨hd1, hd2, hd3⟩, hL⟩ := id hn
  have hF := pFree (hD S) hA hS
  have hM := met_of (sz := H.size) hn h7 k0
  have hgood := pGood M' hcode
  have hpre : ∀ U : State, U.heap = H → s.WarmedH U.vm → pPc g As S H.size (As.map (pEn g)).toArray U := by
    intro U hU hW
    exact ⟨rfl, by rw [hU], by rw [hU]; exact hP, by rw [hU]; exact hKx.go hS hW hF, (hD S).weaken (fun _ _ _ _ => trivial)⟩
  have hst : st0.map (pEn g) = (As.map (pEn g)).reverse ++ st.map (pEn g) := by
    rw [h5, List.map_append, List.map_reverse]
  rw [hst]
  have hlen : (As.map (pEn g)).length = n := by rw [List.length_map]; exact h4
  have hR9 : (pRm M').frames + 1 ≤ R.frames ∧ 8 + (pmL M' + 11) + (pRm M').locals ≤ R.locals := by
    show pmV M' + 1 ≤ R.frames ∧ 8 + (pmL M' + 11) + 36 * pmV M' ≤ R.locals
    omega
  have hrun : va_Run p l e R s m args below meth c H locs cells slots 0 0 (F0 m pc ls ((As.map (pEn g)).reverse ++ st.map (pEn g))) (st.map (pEn g)) (pQc g S H.size Qm (As.map (pEn g)).toArray) (va_A (pcW g S) H.size) := by
    rcases h2 with hlk | ⟨host, hlk⟩
    · exact va_runS (bytes := pmB M') (maxL := pmL M') (ret := pmR M') (nL := pmL M) (n := n) (Ts := lw_good) ⟨hx, hb, hml, hown, hts⟩ hM ⟨callB_of n hts hgood rfl rfl rfl (hts _ hini) (hts _ hlk) ⟨hd1, hd2, hd3⟩ hR9, hts _ hst9⟩ ⟨pBlind g _ S H.size, hpre⟩ rfl hlen hl.1 rfl (lv_room h6') h0 ⟨hce, hsl⟩
    · exact va_runSN (bytes := pmB M') (maxL := pmL M') (ret := pmR M') (nL := pmL M) (n := n) (Ts := lw_good) ⟨hx, hb, hml, hown, hts⟩ hM ⟨va_cnB n hts hgood rfl rfl rfl (hKx.2.1 _ hlk) (hts _ hini) ⟨hd1, hd2, hd3⟩ hR9, hts _ hst9, trivial⟩ ⟨pBlind g _ S H.size, hpre⟩ rfl hlen hl.1 rfl (lv_room h6') h0 ⟨hce, hsl⟩
  refine pcall hrun hS hF (fun r S' H1 locs1 hq hP1 hS1 => ?_)
  have := kk (k1 r S' hq) H1 locs1 ls hP1 hS1 hl
  rw [List.map_append] at this
  cases r <;> exact this
theorem sG0 (l : Launch) (g : WG) : CG0 (gS g) (Snd l g) := ⟨s_iconst l g, s_bipush l g, s_sipush l g, s_lconst l g, s_ldc l g, s_ldcw l g, s_ldc2 l g, s_ldcS l g⟩
theorem sG1 (l : Launch) (g : WG) : CG1 (gS g) (Snd l g) := ⟨s_iload_n l g, s_iload l g, s_lload_n l g, s_lload l g, s_aload_n l g, s_aload l g, s_istore_n l g, s_istore l g⟩
theorem sG2 (l : Launch) (g : WG) : CG2 (gS g) (Snd l g) := ⟨s_astore_n l g, s_astore l g, s_lstore_n l g, s_lstore l g, s_iinc l g, s_iadd l g, s_isub l g, s_imul l g⟩
theorem sG3 (l : Launch) (g : WG) : CG3 (gS g) (Snd l g) := ⟨s_iand l g, s_ior l g, s_ishl l g, s_ishr l g, s_iushr l g, s_irem l g, s_ladd l g, s_lmul l g⟩
theorem sG4 (l : Launch) (g : WG) : CG4 (gS g) (Snd l g) := ⟨s_ldiv l g, s_lrem l g, s_lcmp l g, s_ineg l g, s_i2l l g, s_i2b l g, s_i2s l g, s_i2c l g⟩
theorem sG5 (l : Launch) (g : WG) : CG5 (gS g) (Snd l g) := ⟨s_dup l g, s_pop l g, s_dup2 l g, s_getI l g, s_getR l g, s_putI l g, s_iald l g, s_iast l g⟩
theorem sG6 (l : Launch) (g : WG) : CG6 (gS g) (Snd l g) := ⟨s_bald l g, s_bast l g, s_zald l g, s_zast l g, s_lald l g, s_last l g, s_aald l g, s_sld l g⟩
theorem sG7 (l : Launch) (g : WG) : CG7 (gS g) (Snd l g) := ⟨s_slen l g, s_getSV l g, s_getSC l g, s_alenS l g, s_baldS l g, s_getsC l g, s_getsR l g, s_mmax l g⟩
theorem sG8 (l : Launch) (g : WG) : CG8 (gS g) (Snd l g) := ⟨s_mabs l g, s_if_eq l g, s_if_ne l g, s_if_lt l g, s_if_ge l g, s_if_gt l g, s_if_le l g, s_icmp_eq l g⟩
theorem sG9 (l : Launch) (g : WG) : CG9 (gS g) (Snd l g) := ⟨s_icmp_ne l g, s_icmp_lt l g, s_icmp_ge l g, s_icmp_gt l g, s_icmp_le l g, s_goto l g, s_table l g, s_lookup l g⟩
theorem sG10 (l : Launch) (g : WG) : CG10 (gS g) (Snd l g) := ⟨s_iret l g, s_lret l g, s_vret l g, s_callV l g, s_callS l g⟩
theorem snd_all (l : Launch) (g : WG) : Cl (gS g) (Snd l g) := ⟨sG0 l g, sG1 l g, sG2 l g, sG3 l g, sG4 l g, sG5 l g, sG6 l g, sG7 l g, sG8 l g, sG9 l g, sG10 l g⟩
/-- what the plain machine says holds of the machine -/
theorem sound (l : Launch) (g : WG) {M : PM} {pc : Nat} {lo st : List Value} {S : PS} {Q : PQ} (h : E (gS g) M pc lo st S Q) : Snd l g M pc lo st S Q := h (Snd l g) (snd_all l g)
end
section
theorem inG0 : ∀ w ∈ u_ws RX0 TX0 7, w ∈ lw_good := by decide +kernel
theorem inG1 : ∀ w ∈ u_ws RX1 TX1 3, w ∈ lw_good := by decide +kernel
theorem inG2 : ∀ w ∈ u_ws RX2 TX2 4, w ∈ lw_good := by decide +kernel
theorem inG3 : ∀ w ∈ u_ws RX3 TX3 2, w ∈ lw_good := by decide +kernel
theorem inG4 : ∀ w ∈ u_ws RX4 TX4 9, w ∈ lw_good := by decide +kernel
theorem inG5 : ∀ w ∈ u_ws RX5 TX5 12, w ∈ lw_good := by decide +kernel
theorem inG6 : ∀ w ∈ u_ws RX6 TX6 25, w ∈ lw_good := by decide +kernel
def mX0_has : PM := (yX0_has, cX0_has, 2, some .boolean, 2)
theorem iX0_has : iOk mX0_has 1 := ⟨⟨by decide +kernel, mg 434 (by decide +kernel) (by decide +kernel), mg 75 (by decide +kernel) (by decide +kernel), ⟨by decide +kernel, by decide +kernel, by decide +kernel⟩, by decide⟩, mg 433 (by decide +kernel) (by decide +kernel), mg 19 (by decide +kernel) (by decide +kernel)⟩
def mX0_part : PM := (yX0_part, cX0_part, 3, some .int, 1)
theorem iX0_part : iOk mX0_part 2 := ⟨⟨by decide +kernel, mg 443 (by decide +kernel) (by decide +kernel), mg 75 (by decide +kernel) (by decide +kernel), ⟨by decide +kernel, by decide +kernel, by decide +kernel⟩, by decide⟩, mg 442 (by decide +kernel) (by decide +kernel), mg 21 (by decide +kernel) (by decide +kernel)⟩
def mX0_change : PM := (yX0_change, cX0_change, 5, some .int, 3)
theorem iX0_change : iOk mX0_change 3 := ⟨⟨by decide +kernel, mg 451 (by decide +kernel) (by decide +kernel), mg 75 (by decide +kernel) (by decide +kernel), ⟨by decide +kernel, by decide +kernel, by decide +kernel⟩, by decide⟩, mg 450 (by decide +kernel) (by decide +kernel), mg 22 (by decide +kernel) (by decide +kernel)⟩
def mX0_set : PM := (yX0_set, cX0_set, 4, none, 1)
theorem iX0_set : iOk mX0_set 3 := ⟨⟨by decide +kernel, mg 464 (by decide +kernel) (by decide +kernel), mg 75 (by decide +kernel) (by decide +kernel), ⟨by decide +kernel, by decide +kernel, by decide +kernel⟩, by decide⟩, mg 463 (by decide +kernel) (by decide +kernel), mg 24 (by decide +kernel) (by decide +kernel)⟩
def mX0_mayEverBe : PM := (yX0_mayEverBe, cX0_mayEverBe, 2, some .boolean, 2)
theorem jX0_mayEverBe : jOk mX0_mayEverBe 2 := ⟨⟨by decide +kernel, mg 455 (by decide +kernel) (by decide +kernel), mg 75 (by decide +kernel) (by decide +kernel), ⟨by decide +kernel, by decide +kernel, by decide +kernel⟩, by decide⟩, mg 454 (by decide +kernel) (by decide +kernel)⟩
def mX0_mayBe : PM := (yX0_mayBe, cX0_mayBe, 4, some .boolean, 1)
theorem iX0_mayBe : iOk mX0_mayBe 3 := ⟨⟨by decide +kernel, mg 459 (by decide +kernel) (by decide +kernel), mg 75 (by decide +kernel) (by decide +kernel), ⟨by decide +kernel, by decide +kernel, by decide +kernel⟩, by decide⟩, mg 458 (by decide +kernel) (by decide +kernel), mg 23 (by decide +kernel) (by decide +kernel)⟩
def mX0_append : PM := (yX0_append, cX0_append, 5, none, 1)
theorem iX0_append : iOk mX0_append 4 := ⟨⟨by decide +kernel, mg 389 (by decide +kernel) (by decide +kernel), mg 75 (by decide +kernel) (by decide +kernel), ⟨by decide +kernel, by decide +kernel, by decide +kernel⟩, by decide⟩, mg 388 (by decide +kernel) (by decide +kernel), mg 12 (by decide +kernel) (by decide +kernel)⟩
def mX0_copyOf : PM := (yX0_copyOf, cX0_copyOf, 3, none, 1)
theorem iX0_copyOf : iOk mX0_copyOf 1 := ⟨⟨by decide +kernel, mg 393 (by decide +kernel) (by decide +kernel), mg 75 (by decide +kernel) (by decide +kernel), ⟨by decide +kernel, by decide +kernel, by decide +kernel⟩, by decide⟩, mg 392 (by decide +kernel) (by decide +kernel), mg 13 (by decide +kernel) (by decide +kernel)⟩
def mX0_exchange : PM := (yX0_exchange, cX0_exchange, 3, none, 2)
theorem iX0_exchange : iOk mX0_exchange 2 := ⟨⟨by decide +kernel, mg 554 (by decide +kernel) (by decide +kernel), mg 75 (by decide +kernel) (by decide +kernel), ⟨by decide +kernel, by decide +kernel, by decide +kernel⟩, by decide⟩, mg 553 (by decide +kernel) (by decide +kernel), mg 32 (by decide +kernel) (by decide +kernel)⟩
def mX0_exchangeIn : PM := (yX0_exchangeIn, cX0_exchangeIn, 4, none, 1)
theorem jX0_exchangeIn : jOk mX0_exchangeIn 3 := ⟨⟨by decide +kernel, mg 557 (by decide +kernel) (by decide +kernel), mg 75 (by decide +kernel) (by decide +kernel), ⟨by decide +kernel, by decide +kernel, by decide +kernel⟩, by decide⟩, mg 556 (by decide +kernel) (by decide +kernel)⟩
def mX0_nextDigit : PM := (yX0_nextDigit, cX0_nextDigit, 3, some .int, 1)
theorem iX0_nextDigit : iOk mX0_nextDigit 1 := ⟨⟨by decide +kernel, mg 439 (by decide +kernel) (by decide +kernel), mg 75 (by decide +kernel) (by decide +kernel), ⟨by decide +kernel, by decide +kernel, by decide +kernel⟩, by decide⟩, mg 438 (by decide +kernel) (by decide +kernel), mg 20 (by decide +kernel) (by decide +kernel)⟩
def mX0_wouldCarry : PM := (yX0_wouldCarry, cX0_wouldCarry, 3, some .boolean, 1)
theorem iX0_wouldCarry : iOk mX0_wouldCarry 1 := ⟨⟨by decide +kernel, mg 426 (by decide +kernel) (by decide +kernel), mg 75 (by decide +kernel) (by decide +kernel), ⟨by decide +kernel, by decide +kernel, by decide +kernel⟩, by decide⟩, mg 425 (by decide +kernel) (by decide +kernel), mg 18 (by decide +kernel) (by decide +kernel)⟩
def mX0_turnFrom : PM := (yX0_turnFrom, cX0_turnFrom, 4, none, 2)
theorem iX0_turnFrom : iOk mX0_turnFrom 1 := ⟨⟨by decide +kernel, mg 481 (by decide +kernel) (by decide +kernel), mg 75 (by decide +kernel) (by decide +kernel), ⟨by decide +kernel, by decide +kernel, by decide +kernel⟩, by decide⟩, mg 480 (by decide +kernel) (by decide +kernel), mg 25 (by decide +kernel) (by decide +kernel)⟩
def mX0_pushOnce : PM := (yX0_pushOnce, cX0_pushOnce, 1, none, 3)
theorem iX0_pushOnce : iOk mX0_pushOnce 0 := ⟨⟨by decide +kernel, mg 499 (by decide +kernel) (by decide +kernel), mg 75 (by decide +kernel) (by decide +kernel), ⟨by decide +kernel, by decide +kernel, by decide +kernel⟩, by decide⟩, mg 498 (by decide +kernel) (by decide +kernel), mg 27 (by decide +kernel) (by decide +kernel)⟩
def mX0_push : PM := (yX0_push, cX0_push, 3, none, 4)
theorem iX0_push : iOk mX0_push 1 := ⟨⟨by decide +kernel, mg 495 (by decide +kernel) (by decide +kernel), mg 75 (by decide +kernel) (by decide +kernel), ⟨by decide +kernel, by decide +kernel, by decide +kernel⟩, by decide⟩, mg 494 (by decide +kernel) (by decide +kernel), mg 26 (by decide +kernel) (by decide +kernel)⟩
def mX0_takeDigitAndPush : PM := (yX0_takeDigitAndPush, cX0_takeDigitAndPush, 3, some .boolean, 4)
theorem iX0_takeDigitAndPush : iOk mX0_takeDigitAndPush 2 := ⟨⟨by decide +kernel, mg 686 (by decide +kernel) (by decide +kernel), mg 75 (by decide +kernel) (by decide +kernel), ⟨by decide +kernel, by decide +kernel, by decide +kernel⟩, by decide⟩, mg 685 (by decide +kernel) (by decide +kernel), mg 45 (by decide +kernel) (by decide +kernel)⟩
def mX0_reading : PM := (yX0_reading, cX0_reading, 4, some .int, 1)
theorem iX0_reading : iOk mX0_reading 0 := ⟨⟨by decide +kernel, mg 405 (by decide +kernel) (by decide +kernel), mg 75 (by decide +kernel) (by decide +kernel), ⟨by decide +kernel, by decide +kernel, by decide +kernel⟩, by decide⟩, mg 404 (by decide +kernel) (by decide +kernel), mg 14 (by decide +kernel) (by decide +kernel)⟩
def mX0_product : PM := (yX0_product, cX0_product, 3, some .int, 1)
theorem iX0_product : iOk mX0_product 0 := ⟨⟨by decide +kernel, mg 409 (by decide +kernel) (by decide +kernel), mg 75 (by decide +kernel) (by decide +kernel), ⟨by decide +kernel, by decide +kernel, by decide +kernel⟩, by decide⟩, mg 408 (by decide +kernel) (by decide +kernel), mg 15 (by decide +kernel) (by decide +kernel)⟩
def mX0_error : PM := (yX0_error, cX0_error, 3, some .int, 2)
theorem iX0_error : iOk mX0_error 0 := ⟨⟨by decide +kernel, mg 413 (by decide +kernel) (by decide +kernel), mg 75 (by decide +kernel) (by decide +kernel), ⟨by decide +kernel, by decide +kernel, by decide +kernel⟩, by decide⟩, mg 412 (by decide +kernel) (by decide +kernel), mg 16 (by decide +kernel) (by decide +kernel)⟩
def mX0_carrying : PM := (yX0_carrying, cX0_carrying, 3, some .int, 2)
theorem iX0_carrying : iOk mX0_carrying 0 := ⟨⟨by decide +kernel, mg 422 (by decide +kernel) (by decide +kernel), mg 75 (by decide +kernel) (by decide +kernel), ⟨by decide +kernel, by decide +kernel, by decide +kernel⟩, by decide⟩, mg 421 (by decide +kernel) (by decide +kernel), mg 17 (by decide +kernel) (by decide +kernel)⟩
def mX0_isAllZero : PM := (yX0_isAllZero, cX0_isAllZero, 2, some .boolean, 1)
theorem iX0_isAllZero : iOk mX0_isAllZero 0 := ⟨⟨by decide +kernel, mg 512 (by decide +kernel) (by decide +kernel), mg 75 (by decide +kernel) (by decide +kernel), ⟨by decide +kernel, by decide +kernel, by decide +kernel⟩, by decide⟩, mg 511 (by decide +kernel) (by decide +kernel), mg 28 (by decide +kernel) (by decide +kernel)⟩
def mX0_showsAs : PM := (yX0_showsAs, cX0_showsAs, 3, some .boolean, 1)
theorem iX0_showsAs : iOk mX0_showsAs 1 := ⟨⟨by decide +kernel, mg 533 (by decide +kernel) (by decide +kernel), mg 75 (by decide +kernel) (by decide +kernel), ⟨by decide +kernel, by decide +kernel, by decide +kernel⟩, by decide⟩, mg 532 (by decide +kernel) (by decide +kernel), mg 29 (by decide +kernel) (by decide +kernel)⟩
def mX0_teethInAll : PM := (yX0_teethInAll, cX0_teethInAll, 3, some .int, 1)
theorem iX0_teethInAll : iOk mX0_teethInAll 0 := ⟨⟨by decide +kernel, mg 700 (by decide +kernel) (by decide +kernel), mg 75 (by decide +kernel) (by decide +kernel), ⟨by decide +kernel, by decide +kernel, by decide +kernel⟩, by decide⟩, mg 699 (by decide +kernel) (by decide +kernel), mg 46 (by decide +kernel) (by decide +kernel)⟩
def mX0_brokenInAll : PM := (yX0_brokenInAll, cX0_brokenInAll, 3, some .int, 1)
theorem iX0_brokenInAll : iOk mX0_brokenInAll 0 := ⟨⟨by decide +kernel, mg 704 (by decide +kernel) (by decide +kernel), mg 75 (by decide +kernel) (by decide +kernel), ⟨by decide +kernel, by decide +kernel, by decide +kernel⟩, by decide⟩, mg 703 (by decide +kernel) (by decide +kernel), mg 47 (by decide +kernel) (by decide +kernel)⟩
def mX1_fits : PM := (yX1_fits, cX1_fits, 4, some .boolean, 4)
theorem iX1_fits : iOk mX1_fits 1 := ⟨⟨by decide +kernel, mg 611 (by decide +kernel) (by decide +kernel), mg 78 (by decide +kernel) (by decide +kernel), ⟨by decide +kernel, by decide +kernel, by decide +kernel⟩, by decide⟩, mg 610 (by decide +kernel) (by decide +kernel), mg 36 (by decide +kernel) (by decide +kernel)⟩
def mX1_isAgainst : PM := (yX1_isAgainst, cX1_isAgainst, 4, some .boolean, 2)
theorem iX1_isAgainst : iOk mX1_isAgainst 2 := ⟨⟨by decide +kernel, mg 616 (by decide +kernel) (by decide +kernel), mg 78 (by decide +kernel) (by decide +kernel), ⟨by decide +kernel, by decide +kernel, by decide +kernel⟩, by decide⟩, mg 615 (by decide +kernel) (by decide +kernel), mg 37 (by decide +kernel) (by decide +kernel)⟩
def mX2_renew : PM := (yX2_renew, cX2_renew, 4, none, 1)
theorem iX2_renew : iOk mX2_renew 2 := ⟨⟨by decide +kernel, mg 660 (by decide +kernel) (by decide +kernel), mg 79 (by decide +kernel) (by decide +kernel), ⟨by decide +kernel, by decide +kernel, by decide +kernel⟩, by decide⟩, mg 659 (by decide +kernel) (by decide +kernel), mg 41 (by decide +kernel) (by decide +kernel)⟩
def mX2_faultAt : PM := (yX2_faultAt, cX2_faultAt, 3, some .int, 2)
theorem iX2_faultAt : iOk mX2_faultAt 2 := ⟨⟨by decide +kernel, mg 668 (by decide +kernel) (by decide +kernel), mg 79 (by decide +kernel) (by decide +kernel), ⟨by decide +kernel, by decide +kernel, by decide +kernel⟩, by decide⟩, mg 667 (by decide +kernel) (by decide +kernel), mg 42 (by decide +kernel) (by decide +kernel)⟩
def mX2_faultAtPair : PM := (yX2_faultAtPair, cX2_faultAtPair, 4, some .int, 3)
theorem iX2_faultAtPair : iOk mX2_faultAtPair 2 := ⟨⟨by decide +kernel, mg 681 (by decide +kernel) (by decide +kernel), mg 79 (by decide +kernel) (by decide +kernel), ⟨by decide +kernel, by decide +kernel, by decide +kernel⟩, by decide⟩, mg 680 (by decide +kernel) (by decide +kernel), mg 44 (by decide +kernel) (by decide +kernel)⟩
def mX2_put : PM := (yX2_put, cX2_put, 3, none, 1)
theorem iX2_put : iOk mX2_put 2 := ⟨⟨by decide +kernel, mg 673 (by decide +kernel) (by decide +kernel), mg 79 (by decide +kernel) (by decide +kernel), ⟨by decide +kernel, by decide +kernel, by decide +kernel⟩, by decide⟩, mg 672 (by decide +kernel) (by decide +kernel), mg 43 (by decide +kernel) (by decide +kernel)⟩
def mX4_tell : PM := (yX4_tell, cX4_tell, 3, some .boolean, 9)
theorem iX4_tell : iOk mX4_tell 1 := ⟨⟨by decide +kernel, mg 287 (by decide +kernel) (by decide +kernel), mg 77 (by decide +kernel) (by decide +kernel), ⟨by decide +kernel, by decide +kernel, by decide +kernel⟩, by decide⟩, mg 286 (by decide +kernel) (by decide +kernel), mg 0 (by decide +kernel) (by decide +kernel)⟩
def mX4_tellLine : PM := (yX4_tellLine, cX4_tellLine, 3, some .boolean, 8)
theorem iX4_tellLine : iOk mX4_tellLine 1 := ⟨⟨by decide +kernel, mg 308 (by decide +kernel) (by decide +kernel), mg 77 (by decide +kernel) (by decide +kernel), ⟨by decide +kernel, by decide +kernel, by decide +kernel⟩, by decide⟩, mg 307 (by decide +kernel) (by decide +kernel), mg 5 (by decide +kernel) (by decide +kernel)⟩
def mX4_tellCount : PM := (yX4_tellCount, cX4_tellCount, 2, some .boolean, 5)
theorem iX4_tellCount : iOk mX4_tellCount 1 := ⟨⟨by decide +kernel, mg 365 (by decide +kernel) (by decide +kernel), mg 77 (by decide +kernel) (by decide +kernel), ⟨by decide +kernel, by decide +kernel, by decide +kernel⟩, by decide⟩, mg 364 (by decide +kernel) (by decide +kernel), mg 7 (by decide +kernel) (by decide +kernel)⟩
def mX4_tellWheel : PM := (yX4_tellWheel, cX4_tellWheel, 6, some .boolean, 5)
theorem iX4_tellWheel : iOk mX4_tellWheel 2 := ⟨⟨by decide +kernel, mg 385 (by decide +kernel) (by decide +kernel), mg 77 (by decide +kernel) (by decide +kernel), ⟨by decide +kernel, by decide +kernel, by decide +kernel⟩, by decide⟩, mg 384 (by decide +kernel) (by decide +kernel), mg 11 (by decide +kernel) (by decide +kernel)⟩
def mX4_nextNumber : PM := (yX4_nextNumber, cX4_nextNumber, 3, some .boolean, 4)
theorem iX4_nextNumber : iOk mX4_nextNumber 2 := ⟨⟨by decide +kernel, mg 369 (by decide +kernel) (by decide +kernel), mg 77 (by decide +kernel) (by decide +kernel), ⟨by decide +kernel, by decide +kernel, by decide +kernel⟩, by decide⟩, mg 368 (by decide +kernel) (by decide +kernel), mg 8 (by decide +kernel) (by decide +kernel)⟩
def mX4_lineEnds : PM := (yX4_lineEnds, cX4_lineEnds, 1, some .boolean, 2)
theorem iX4_lineEnds : iOk mX4_lineEnds 0 := ⟨⟨by decide +kernel, mg 373 (by decide +kernel) (by decide +kernel), mg 77 (by decide +kernel) (by decide +kernel), ⟨by decide +kernel, by decide +kernel, by decide +kernel⟩, by decide⟩, mg 372 (by decide +kernel) (by decide +kernel), mg 9 (by decide +kernel) (by decide +kernel)⟩
def mX4_nextToken : PM := (yX4_nextToken, cX4_nextToken, 2, some .boolean, 3)
theorem iX4_nextToken : iOk mX4_nextToken 0 := ⟨⟨by decide +kernel, mg 291 (by decide +kernel) (by decide +kernel), mg 77 (by decide +kernel) (by decide +kernel), ⟨by decide +kernel, by decide +kernel, by decide +kernel⟩, by decide⟩, mg 290 (by decide +kernel) (by decide +kernel), mg 1 (by decide +kernel) (by decide +kernel)⟩
def mX4_valueOfFigures : PM := (yX4_valueOfFigures, cX4_valueOfFigures, 3, some .int, 1)
theorem iX4_valueOfFigures : iOk mX4_valueOfFigures 0 := ⟨⟨by decide +kernel, mg 304 (by decide +kernel) (by decide +kernel), mg 77 (by decide +kernel) (by decide +kernel), ⟨by decide +kernel, by decide +kernel, by decide +kernel⟩, by decide⟩, mg 303 (by decide +kernel) (by decide +kernel), mg 4 (by decide +kernel) (by decide +kernel)⟩
def mX4_endOfRun : PM := (yX4_endOfRun, cX4_endOfRun, 4, some .int, 2)
theorem iX4_endOfRun : iOk mX4_endOfRun 2 := ⟨⟨by decide +kernel, mg 296 (by decide +kernel) (by decide +kernel), mg 77 (by decide +kernel) (by decide +kernel), ⟨by decide +kernel, by decide +kernel, by decide +kernel⟩, by decide⟩, mg 295 (by decide +kernel) (by decide +kernel), mg 2 (by decide +kernel) (by decide +kernel)⟩
def mX4_kindNamed : PM := (yX4_kindNamed, cX4_kindNamed, 1, some .int, 7)
theorem iX4_kindNamed : iOk mX4_kindNamed 0 := ⟨⟨by decide +kernel, mg 377 (by decide +kernel) (by decide +kernel), mg 77 (by decide +kernel) (by decide +kernel), ⟨by decide +kernel, by decide +kernel, by decide +kernel⟩, by decide⟩, mg 376 (by decide +kernel) (by decide +kernel), mg 10 (by decide +kernel) (by decide +kernel)⟩
def mX4_isName : PM := (yX4_isName, cX4_isName, 3, some .boolean, 6)
theorem iX4_isName : iOk mX4_isName 1 := ⟨⟨by decide +kernel, mg 313 (by decide +kernel) (by decide +kernel), mg 77 (by decide +kernel) (by decide +kernel), ⟨by decide +kernel, by decide +kernel, by decide +kernel⟩, by decide⟩, mg 312 (by decide +kernel) (by decide +kernel), mg 6 (by decide +kernel) (by decide +kernel)⟩
def mX4_fail : PM := (yX4_fail, cX4_fail, 2, some .boolean, 1)
theorem iX4_fail : iOk mX4_fail 1 := ⟨⟨by decide +kernel, mg 300 (by decide +kernel) (by decide +kernel), mg 77 (by decide +kernel) (by decide +kernel), ⟨by decide +kernel, by decide +kernel, by decide +kernel⟩, by decide⟩, mg 299 (by decide +kernel) (by decide +kernel), mg 3 (by decide +kernel) (by decide +kernel)⟩
def mX5_feed : PM := (yX5_feed, cX5_feed, 2, some .int, 2)
theorem iX5_feed : iOk mX5_feed 1 := ⟨⟨by decide +kernel, mg 272 (by decide +kernel) (by decide +kernel), mg 74 (by decide +kernel) (by decide +kernel), ⟨by decide +kernel, by decide +kernel, by decide +kernel⟩, by decide⟩, mg 270 (by decide +kernel) (by decide +kernel), mg 271 (by decide +kernel) (by decide +kernel)⟩
def mX5_end : PM := (yX5_end, cX5_end, 3, some .int, 2)
theorem iX5_end : iOk mX5_end 1 := ⟨⟨by decide +kernel, mg 279 (by decide +kernel) (by decide +kernel), mg 74 (by decide +kernel) (by decide +kernel), ⟨by decide +kernel, by decide +kernel, by decide +kernel⟩, by decide⟩, mg 277 (by decide +kernel) (by decide +kernel), mg 278 (by decide +kernel) (by decide +kernel)⟩
def mX5_text : PM := (yX5_text, cX5_text, 3, some .int, 10)
theorem iX5_text : iOk mX5_text 0 := ⟨⟨by decide +kernel, mg 283 (by decide +kernel) (by decide +kernel), mg 74 (by decide +kernel) (by decide +kernel), ⟨by decide +kernel, by decide +kernel, by decide +kernel⟩, by decide⟩, mg 281 (by decide +kernel) (by decide +kernel), mg 282 (by decide +kernel) (by decide +kernel)⟩
def mX5_fault : PM := (yX5_fault, cX5_fault, 1, some .int, 1)
theorem iX5_fault : iOk mX5_fault 0 := ⟨⟨by decide +kernel, mg 397 (by decide +kernel) (by decide +kernel), mg 74 (by decide +kernel) (by decide +kernel), ⟨by decide +kernel, by decide +kernel, by decide +kernel⟩, by decide⟩, mg 395 (by decide +kernel) (by decide +kernel), mg 396 (by decide +kernel) (by decide +kernel)⟩
def mX5_rule : PM := (yX5_rule, cX5_rule, 2, some .int, 3)
theorem iX5_rule : iOk mX5_rule 1 := ⟨⟨by decide +kernel, mg 401 (by decide +kernel) (by decide +kernel), mg 74 (by decide +kernel) (by decide +kernel), ⟨by decide +kernel, by decide +kernel, by decide +kernel⟩, by decide⟩, mg 399 (by decide +kernel) (by decide +kernel), mg 400 (by decide +kernel) (by decide +kernel)⟩
def mX5_wheel : PM := (yX5_wheel, cX5_wheel, 3, some .int, 3)
theorem iX5_wheel : iOk mX5_wheel 2 := ⟨⟨by decide +kernel, mg 430 (by decide +kernel) (by decide +kernel), mg 74 (by decide +kernel) (by decide +kernel), ⟨by decide +kernel, by decide +kernel, by decide +kernel⟩, by decide⟩, mg 428 (by decide +kernel) (by decide +kernel), mg 429 (by decide +kernel) (by decide +kernel)⟩
def mX5_alter : PM := (yX5_alter, cX5_alter, 4, some .int, 4)
theorem iX5_alter : iOk mX5_alter 3 := ⟨⟨by decide +kernel, mg 447 (by decide +kernel) (by decide +kernel), mg 74 (by decide +kernel) (by decide +kernel), ⟨by decide +kernel, by decide +kernel, by decide +kernel⟩, by decide⟩, mg 445 (by decide +kernel) (by decide +kernel), mg 446 (by decide +kernel) (by decide +kernel)⟩
def mX5_add : PM := (yX5_add, cX5_add, 3, some .int, 2)
theorem iX5_add : iOk mX5_add 2 := ⟨⟨by decide +kernel, mg 468 (by decide +kernel) (by decide +kernel), mg 74 (by decide +kernel) (by decide +kernel), ⟨by decide +kernel, by decide +kernel, by decide +kernel⟩, by decide⟩, mg 466 (by decide +kernel) (by decide +kernel), mg 467 (by decide +kernel) (by decide +kernel)⟩
def mX5_cut : PM := (yX5_cut, cX5_cut, 3, some .int, 2)
theorem iX5_cut : iOk mX5_cut 1 := ⟨⟨by decide +kernel, mg 473 (by decide +kernel) (by decide +kernel), mg 74 (by decide +kernel) (by decide +kernel), ⟨by decide +kernel, by decide +kernel, by decide +kernel⟩, by decide⟩, mg 471 (by decide +kernel) (by decide +kernel), mg 472 (by decide +kernel) (by decide +kernel)⟩
def mX5_turn : PM := (yX5_turn, cX5_turn, 2, some .int, 3)
theorem iX5_turn : iOk mX5_turn 1 := ⟨⟨by decide +kernel, mg 477 (by decide +kernel) (by decide +kernel), mg 74 (by decide +kernel) (by decide +kernel), ⟨by decide +kernel, by decide +kernel, by decide +kernel⟩, by decide⟩, mg 475 (by decide +kernel) (by decide +kernel), mg 476 (by decide +kernel) (by decide +kernel)⟩
def mX5_clear : PM := (yX5_clear, cX5_clear, 3, some .int, 2)
theorem iX5_clear : iOk mX5_clear 0 := ⟨⟨by decide +kernel, mg 486 (by decide +kernel) (by decide +kernel), mg 74 (by decide +kernel) (by decide +kernel), ⟨by decide +kernel, by decide +kernel, by decide +kernel⟩, by decide⟩, mg 484 (by decide +kernel) (by decide +kernel), mg 485 (by decide +kernel) (by decide +kernel)⟩
def mX5_pushes : PM := (yX5_pushes, cX5_pushes, 2, some .int, 5)
theorem iX5_pushes : iOk mX5_pushes 1 := ⟨⟨by decide +kernel, mg 490 (by decide +kernel) (by decide +kernel), mg 74 (by decide +kernel) (by decide +kernel), ⟨by decide +kernel, by decide +kernel, by decide +kernel⟩, by decide⟩, mg 488 (by decide +kernel) (by decide +kernel), mg 489 (by decide +kernel) (by decide +kernel)⟩
def mX5_runs : PM := (yX5_runs, cX5_runs, 6, some .int, 4)
theorem iX5_runs : iOk mX5_runs 2 := ⟨⟨by decide +kernel, mg 504 (by decide +kernel) (by decide +kernel), mg 74 (by decide +kernel) (by decide +kernel), ⟨by decide +kernel, by decide +kernel, by decide +kernel⟩, by decide⟩, mg 502 (by decide +kernel) (by decide +kernel), mg 503 (by decide +kernel) (by decide +kernel)⟩
def mX5_ahead : PM := (yX5_ahead, cX5_ahead, 3, some .int, 5)
theorem iX5_ahead : iOk mX5_ahead 2 := ⟨⟨by decide +kernel, mg 516 (by decide +kernel) (by decide +kernel), mg 74 (by decide +kernel) (by decide +kernel), ⟨by decide +kernel, by decide +kernel, by decide +kernel⟩, by decide⟩, mg 514 (by decide +kernel) (by decide +kernel), mg 515 (by decide +kernel) (by decide +kernel)⟩
def mX5_when : PM := (yX5_when, cX5_when, 3, some .int, 4)
theorem iX5_when : iOk mX5_when 1 := ⟨⟨by decide +kernel, mg 520 (by decide +kernel) (by decide +kernel), mg 74 (by decide +kernel) (by decide +kernel), ⟨by decide +kernel, by decide +kernel, by decide +kernel⟩, by decide⟩, mg 518 (by decide +kernel) (by decide +kernel), mg 519 (by decide +kernel) (by decide +kernel)⟩
def mX5_shows : PM := (yX5_shows, cX5_shows, 4, some .int, 4)
theorem iX5_shows : iOk mX5_shows 2 := ⟨⟨by decide +kernel, mg 525 (by decide +kernel) (by decide +kernel), mg 74 (by decide +kernel) (by decide +kernel), ⟨by decide +kernel, by decide +kernel, by decide +kernel⟩, by decide⟩, mg 523 (by decide +kernel) (by decide +kernel), mg 524 (by decide +kernel) (by decide +kernel)⟩
def mX5_again : PM := (yX5_again, cX5_again, 2, some .int, 4)
theorem iX5_again : iOk mX5_again 0 := ⟨⟨by decide +kernel, mg 529 (by decide +kernel) (by decide +kernel), mg 74 (by decide +kernel) (by decide +kernel), ⟨by decide +kernel, by decide +kernel, by decide +kernel⟩, by decide⟩, mg 527 (by decide +kernel) (by decide +kernel), mg 528 (by decide +kernel) (by decide +kernel)⟩
def mX5_mend : PM := (yX5_mend, cX5_mend, 7, some .int, 6)
theorem iX5_mend : iOk mX5_mend 2 := ⟨⟨by decide +kernel, mg 537 (by decide +kernel) (by decide +kernel), mg 74 (by decide +kernel) (by decide +kernel), ⟨by decide +kernel, by decide +kernel, by decide +kernel⟩, by decide⟩, mg 535 (by decide +kernel) (by decide +kernel), mg 536 (by decide +kernel) (by decide +kernel)⟩
def mX5_swap : PM := (yX5_swap, cX5_swap, 8, some .int, 6)
theorem iX5_swap : iOk mX5_swap 2 := ⟨⟨by decide +kernel, mg 550 (by decide +kernel) (by decide +kernel), mg 74 (by decide +kernel) (by decide +kernel), ⟨by decide +kernel, by decide +kernel, by decide +kernel⟩, by decide⟩, mg 548 (by decide +kernel) (by decide +kernel), mg 549 (by decide +kernel) (by decide +kernel)⟩
def mX5_kind : PM := (yX5_kind, cX5_kind, 4, some .int, 6)
theorem iX5_kind : iOk mX5_kind 3 := ⟨⟨by decide +kernel, mg 561 (by decide +kernel) (by decide +kernel), mg 74 (by decide +kernel) (by decide +kernel), ⟨by decide +kernel, by decide +kernel, by decide +kernel⟩, by decide⟩, mg 559 (by decide +kernel) (by decide +kernel), mg 560 (by decide +kernel) (by decide +kernel)⟩
def mX5_begin : PM := (yX5_begin, cX5_begin, 4, some .int, 6)
theorem iX5_begin : iOk mX5_begin 3 := ⟨⟨by decide +kernel, mg 570 (by decide +kernel) (by decide +kernel), mg 74 (by decide +kernel) (by decide +kernel), ⟨by decide +kernel, by decide +kernel, by decide +kernel⟩, by decide⟩, mg 568 (by decide +kernel) (by decide +kernel), mg 569 (by decide +kernel) (by decide +kernel)⟩
def mX5_file : PM := (yX5_file, cX5_file, 4, some .int, 6)
theorem iX5_file : iOk mX5_file 3 := ⟨⟨by decide +kernel, mg 574 (by decide +kernel) (by decide +kernel), mg 74 (by decide +kernel) (by decide +kernel), ⟨by decide +kernel, by decide +kernel, by decide +kernel⟩, by decide⟩, mg 572 (by decide +kernel) (by decide +kernel), mg 573 (by decide +kernel) (by decide +kernel)⟩
def mX5_luck : PM := (yX5_luck, cX5_luck, 11, some .long, 4)
theorem iX5_luck : iOk mX5_luck 5 := ⟨⟨by decide +kernel, mg 578 (by decide +kernel) (by decide +kernel), mg 74 (by decide +kernel) (by decide +kernel), ⟨by decide +kernel, by decide +kernel, by decide +kernel⟩, by decide⟩, mg 576 (by decide +kernel) (by decide +kernel), mg 577 (by decide +kernel) (by decide +kernel)⟩
def mX5_mean : PM := (yX5_mean, cX5_mean, 9, some .long, 4)
theorem iX5_mean : iOk mX5_mean 3 := ⟨⟨by decide +kernel, mg 591 (by decide +kernel) (by decide +kernel), mg 74 (by decide +kernel) (by decide +kernel), ⟨by decide +kernel, by decide +kernel, by decide +kernel⟩, by decide⟩, mg 589 (by decide +kernel) (by decide +kernel), mg 590 (by decide +kernel) (by decide +kernel)⟩
def mX5_see : PM := (yX5_see, cX5_see, 3, some .int, 2)
theorem iX5_see : iOk mX5_see 2 := ⟨⟨by decide +kernel, mg 595 (by decide +kernel) (by decide +kernel), mg 74 (by decide +kernel) (by decide +kernel), ⟨by decide +kernel, by decide +kernel, by decide +kernel⟩, by decide⟩, mg 593 (by decide +kernel) (by decide +kernel), mg 594 (by decide +kernel) (by decide +kernel)⟩
def mX5_forget : PM := (yX5_forget, cX5_forget, 3, some .int, 2)
theorem iX5_forget : iOk mX5_forget 1 := ⟨⟨by decide +kernel, mg 599 (by decide +kernel) (by decide +kernel), mg 74 (by decide +kernel) (by decide +kernel), ⟨by decide +kernel, by decide +kernel, by decide +kernel⟩, by decide⟩, mg 597 (by decide +kernel) (by decide +kernel), mg 598 (by decide +kernel) (by decide +kernel)⟩
def mX5_kinds : PM := (yX5_kinds, cX5_kinds, 4, some .int, 6)
theorem iX5_kinds : iOk mX5_kinds 1 := ⟨⟨by decide +kernel, mg 603 (by decide +kernel) (by decide +kernel), mg 74 (by decide +kernel) (by decide +kernel), ⟨by decide +kernel, by decide +kernel, by decide +kernel⟩, by decide⟩, mg 601 (by decide +kernel) (by decide +kernel), mg 602 (by decide +kernel) (by decide +kernel)⟩
def mX5_broken : PM := (yX5_broken, cX5_broken, 4, some .int, 6)
theorem iX5_broken : iOk mX5_broken 1 := ⟨⟨by decide +kernel, mg 622 (by decide +kernel) (by decide +kernel), mg 74 (by decide +kernel) (by decide +kernel), ⟨by decide +kernel, by decide +kernel, by decide +kernel⟩, by decide⟩, mg 620 (by decide +kernel) (by decide +kernel), mg 621 (by decide +kernel) (by decide +kernel)⟩
def mX5_ask : PM := (yX5_ask, cX5_ask, 8, some .int, 7)
theorem iX5_ask : iOk mX5_ask 2 := ⟨⟨by decide +kernel, mg 626 (by decide +kernel) (by decide +kernel), mg 74 (by decide +kernel) (by decide +kernel), ⟨by decide +kernel, by decide +kernel, by decide +kernel⟩, by decide⟩, mg 624 (by decide +kernel) (by decide +kernel), mg 625 (by decide +kernel) (by decide +kernel)⟩
def mX5_drift : PM := (yX5_drift, cX5_drift, 7, some .int, 3)
theorem iX5_drift : iOk mX5_drift 3 := ⟨⟨by decide +kernel, mg 643 (by decide +kernel) (by decide +kernel), mg 74 (by decide +kernel) (by decide +kernel), ⟨by decide +kernel, by decide +kernel, by decide +kernel⟩, by decide⟩, mg 641 (by decide +kernel) (by decide +kernel), mg 642 (by decide +kernel) (by decide +kernel)⟩
def mX5_keep : PM := (yX5_keep, cX5_keep, 3, some .int, 2)
theorem iX5_keep : iOk mX5_keep 1 := ⟨⟨by decide +kernel, mg 648 (by decide +kernel) (by decide +kernel), mg 74 (by decide +kernel) (by decide +kernel), ⟨by decide +kernel, by decide +kernel, by decide +kernel⟩, by decide⟩, mg 646 (by decide +kernel) (by decide +kernel), mg 647 (by decide +kernel) (by decide +kernel)⟩
def mX5_back : PM := (yX5_back, cX5_back, 2, some .int, 2)
theorem iX5_back : iOk mX5_back 1 := ⟨⟨by decide +kernel, mg 652 (by decide +kernel) (by decide +kernel), mg 74 (by decide +kernel) (by decide +kernel), ⟨by decide +kernel, by decide +kernel, by decide +kernel⟩, by decide⟩, mg 650 (by decide +kernel) (by decide +kernel), mg 651 (by decide +kernel) (by decide +kernel)⟩
def mX5_sheet : PM := (yX5_sheet, cX5_sheet, 4, some .int, 2)
theorem iX5_sheet : iOk mX5_sheet 3 := ⟨⟨by decide +kernel, mg 656 (by decide +kernel) (by decide +kernel), mg 74 (by decide +kernel) (by decide +kernel), ⟨by decide +kernel, by decide +kernel, by decide +kernel⟩, by decide⟩, mg 654 (by decide +kernel) (by decide +kernel), mg 655 (by decide +kernel) (by decide +kernel)⟩
def mX5_lay : PM := (yX5_lay, cX5_lay, 5, some .int, 3)
theorem iX5_lay : iOk mX5_lay 3 := ⟨⟨by decide +kernel, mg 664 (by decide +kernel) (by decide +kernel), mg 74 (by decide +kernel) (by decide +kernel), ⟨by decide +kernel, by decide +kernel, by decide +kernel⟩, by decide⟩, mg 662 (by decide +kernel) (by decide +kernel), mg 663 (by decide +kernel) (by decide +kernel)⟩
def mX5_read : PM := (yX5_read, cX5_read, 9, some .int, 5)
theorem iX5_read : iOk mX5_read 4 := ⟨⟨by decide +kernel, mg 677 (by decide +kernel) (by decide +kernel), mg 74 (by decide +kernel) (by decide +kernel), ⟨by decide +kernel, by decide +kernel, by decide +kernel⟩, by decide⟩, mg 675 (by decide +kernel) (by decide +kernel), mg 676 (by decide +kernel) (by decide +kernel)⟩
def mX5_torn : PM := (yX5_torn, cX5_torn, 1, some .int, 1)
theorem iX5_torn : iOk mX5_torn 0 := ⟨⟨by decide +kernel, mg 692 (by decide +kernel) (by decide +kernel), mg 74 (by decide +kernel) (by decide +kernel), ⟨by decide +kernel, by decide +kernel, by decide +kernel⟩, by decide⟩, mg 690 (by decide +kernel) (by decide +kernel), mg 691 (by decide +kernel) (by decide +kernel)⟩
def mX5_count : PM := (yX5_count, cX5_count, 2, some .int, 2)
theorem iX5_count : iOk mX5_count 1 := ⟨⟨by decide +kernel, mg 696 (by decide +kernel) (by decide +kernel), mg 74 (by decide +kernel) (by decide +kernel), ⟨by decide +kernel, by decide +kernel, by decide +kernel⟩, by decide⟩, mg 694 (by decide +kernel) (by decide +kernel), mg 695 (by decide +kernel) (by decide +kernel)⟩
def mX5_within : PM := (yX5_within, cX5_within, 3, some .boolean, 1)
theorem jX5_within : jOk mX5_within 3 := ⟨⟨by decide +kernel, mg 275 (by decide +kernel) (by decide +kernel), mg 74 (by decide +kernel) (by decide +kernel), ⟨by decide +kernel, by decide +kernel, by decide +kernel⟩, by decide⟩, mg 274 (by decide +kernel) (by decide +kernel)⟩
def mX5_tryPart : PM := (yX5_tryPart, cX5_tryPart, 4, none, 2)
theorem iX5_tryPart : iOk mX5_tryPart 3 := ⟨⟨by decide +kernel, mg 545 (by decide +kernel) (by decide +kernel), mg 74 (by decide +kernel) (by decide +kernel), ⟨by decide +kernel, by decide +kernel, by decide +kernel⟩, by decide⟩, mg 544 (by decide +kernel) (by decide +kernel), mg 31 (by decide +kernel) (by decide +kernel)⟩
def mX5_trialErrorBehind : PM := (yX5_trialErrorBehind, cX5_trialErrorBehind, 2, some .int, 5)
theorem iX5_trialErrorBehind : iOk mX5_trialErrorBehind 1 := ⟨⟨by decide +kernel, mg 541 (by decide +kernel) (by decide +kernel), mg 74 (by decide +kernel) (by decide +kernel), ⟨by decide +kernel, by decide +kernel, by decide +kernel⟩, by decide⟩, mg 540 (by decide +kernel) (by decide +kernel), mg 30 (by decide +kernel) (by decide +kernel)⟩
def mX5_bestPart : PM := (yX5_bestPart, cX5_bestPart, 10, some .int, 5)
theorem iX5_bestPart : iOk mX5_bestPart 4 := ⟨⟨by decide +kernel, mg 565 (by decide +kernel) (by decide +kernel), mg 74 (by decide +kernel) (by decide +kernel), ⟨by decide +kernel, by decide +kernel, by decide +kernel⟩, by decide⟩, mg 564 (by decide +kernel) (by decide +kernel), mg 33 (by decide +kernel) (by decide +kernel)⟩
def mX5_fitsWith : PM := (yX5_fitsWith, cX5_fitsWith, 4, some .boolean, 5)
theorem iX5_fitsWith : iOk mX5_fitsWith 3 := ⟨⟨by decide +kernel, mg 607 (by decide +kernel) (by decide +kernel), mg 74 (by decide +kernel) (by decide +kernel), ⟨by decide +kernel, by decide +kernel, by decide +kernel⟩, by decide⟩, mg 606 (by decide +kernel) (by decide +kernel), mg 35 (by decide +kernel) (by decide +kernel)⟩
def mX5_countWays : PM := (yX5_countWays, cX5_countWays, 7, some .long, 1)
theorem iX5_countWays : iOk mX5_countWays 2 := ⟨⟨by decide +kernel, mg 583 (by decide +kernel) (by decide +kernel), mg 74 (by decide +kernel) (by decide +kernel), ⟨by decide +kernel, by decide +kernel, by decide +kernel⟩, by decide⟩, mg 582 (by decide +kernel) (by decide +kernel), mg 34 (by decide +kernel) (by decide +kernel)⟩
def mX5_partOfFraction : PM := (yX5_partOfFraction, cX5_partOfFraction, 12, some .long, 1)
theorem jX5_partOfFraction : jOk mX5_partOfFraction 3 := ⟨⟨by decide +kernel, mg 587 (by decide +kernel) (by decide +kernel), mg 74 (by decide +kernel) (by decide +kernel), ⟨by decide +kernel, by decide +kernel, by decide +kernel⟩, by decide⟩, mg 586 (by decide +kernel) (by decide +kernel)⟩
def mX5_listTeethLeft : PM := (yX5_listTeethLeft, cX5_listTeethLeft, 4, some .int, 1)
theorem iX5_listTeethLeft : iOk mX5_listTeethLeft 1 := ⟨⟨by decide +kernel, mg 631 (by decide +kernel) (by decide +kernel), mg 74 (by decide +kernel) (by decide +kernel), ⟨by decide +kernel, by decide +kernel, by decide +kernel⟩, by decide⟩, mg 630 (by decide +kernel) (by decide +kernel), mg 38 (by decide +kernel) (by decide +kernel)⟩
def mX5_fillReadings : PM := (yX5_fillReadings, cX5_fillReadings, 5, none, 4)
theorem iX5_fillReadings : iOk mX5_fillReadings 3 := ⟨⟨by decide +kernel, mg 635 (by decide +kernel) (by decide +kernel), mg 74 (by decide +kernel) (by decide +kernel), ⟨by decide +kernel, by decide +kernel, by decide +kernel⟩, by decide⟩, mg 634 (by decide +kernel) (by decide +kernel), mg 39 (by decide +kernel) (by decide +kernel)⟩
def mX5_mostAlike : PM := (yX5_mostAlike, cX5_mostAlike, 7, some .int, 2)
theorem iX5_mostAlike : iOk mX5_mostAlike 2 := ⟨⟨by decide +kernel, mg 639 (by decide +kernel) (by decide +kernel), mg 74 (by decide +kernel) (by decide +kernel), ⟨by decide +kernel, by decide +kernel, by decide +kernel⟩, by decide⟩, mg 638 (by decide +kernel) (by decide +kernel), mg 40 (by decide +kernel) (by decide +kernel)⟩
def mX6_in : PM := (yX6_in, cX6_in, 6, some .boolean, 1)
theorem jX6_in : jOk mX6_in 3 := ⟨⟨by decide +kernel, mg 794 (by decide +kernel) (by decide +kernel), mg 80 (by decide +kernel) (by decide +kernel), ⟨by decide +kernel, by decide +kernel, by decide +kernel⟩, by decide⟩, mg 793 (by decide +kernel) (by decide +kernel)⟩
def mX6_feed : PM := (yX6_feed, cX6_feed, 2, some .int, 2)
theorem iX6_feed : iOk mX6_feed 1 := ⟨⟨by decide +kernel, mg 790 (by decide +kernel) (by decide +kernel), mg 80 (by decide +kernel) (by decide +kernel), ⟨by decide +kernel, by decide +kernel, by decide +kernel⟩, by decide⟩, mg 788 (by decide +kernel) (by decide +kernel), mg 789 (by decide +kernel) (by decide +kernel)⟩
def mX6_end : PM := (yX6_end, cX6_end, 3, some .int, 2)
theorem iX6_end : iOk mX6_end 1 := ⟨⟨by decide +kernel, mg 798 (by decide +kernel) (by decide +kernel), mg 80 (by decide +kernel) (by decide +kernel), ⟨by decide +kernel, by decide +kernel, by decide +kernel⟩, by decide⟩, mg 796 (by decide +kernel) (by decide +kernel), mg 797 (by decide +kernel) (by decide +kernel)⟩
def mX6_byteAt : PM := (yX6_byteAt, cX6_byteAt, 2, some .int, 1)
theorem iX6_byteAt : iOk mX6_byteAt 1 := ⟨⟨by decide +kernel, mg 810 (by decide +kernel) (by decide +kernel), mg 80 (by decide +kernel) (by decide +kernel), ⟨by decide +kernel, by decide +kernel, by decide +kernel⟩, by decide⟩, mg 809 (by decide +kernel) (by decide +kernel), mg 49 (by decide +kernel) (by decide +kernel)⟩
def mX6_fails : PM := (yX6_fails, cX6_fails, 2, none, 1)
theorem iX6_fails : iOk mX6_fails 1 := ⟨⟨by decide +kernel, mg 818 (by decide +kernel) (by decide +kernel), mg 80 (by decide +kernel) (by decide +kernel), ⟨by decide +kernel, by decide +kernel, by decide +kernel⟩, by decide⟩, mg 817 (by decide +kernel) (by decide +kernel), mg 50 (by decide +kernel) (by decide +kernel)⟩
def mX6_nameHere : PM := (yX6_nameHere, cX6_nameHere, 4, some .int, 2)
theorem iX6_nameHere : iOk mX6_nameHere 0 := ⟨⟨by decide +kernel, mg 826 (by decide +kernel) (by decide +kernel), mg 80 (by decide +kernel) (by decide +kernel), ⟨by decide +kernel, by decide +kernel, by decide +kernel⟩, by decide⟩, mg 825 (by decide +kernel) (by decide +kernel), mg 52 (by decide +kernel) (by decide +kernel)⟩
def mX6_step : PM := (yX6_step, cX6_step, 2, none, 2)
theorem iX6_step : iOk mX6_step 0 := ⟨⟨by decide +kernel, mg 806 (by decide +kernel) (by decide +kernel), mg 80 (by decide +kernel) (by decide +kernel), ⟨by decide +kernel, by decide +kernel, by decide +kernel⟩, by decide⟩, mg 805 (by decide +kernel) (by decide +kernel), mg 48 (by decide +kernel) (by decide +kernel)⟩
def mX6_number : PM := (yX6_number, cX6_number, 4, some .int, 3)
theorem iX6_number : iOk mX6_number 2 := ⟨⟨by decide +kernel, mg 835 (by decide +kernel) (by decide +kernel), mg 80 (by decide +kernel) (by decide +kernel), ⟨by decide +kernel, by decide +kernel, by decide +kernel⟩, by decide⟩, mg 834 (by decide +kernel) (by decide +kernel), mg 54 (by decide +kernel) (by decide +kernel)⟩
def mX6_readMore : PM := (yX6_readMore, cX6_readMore, 4, none, 4)
theorem iX6_readMore : iOk mX6_readMore 1 := ⟨⟨by decide +kernel, mg 831 (by decide +kernel) (by decide +kernel), mg 80 (by decide +kernel) (by decide +kernel), ⟨by decide +kernel, by decide +kernel, by decide +kernel⟩, by decide⟩, mg 830 (by decide +kernel) (by decide +kernel), mg 53 (by decide +kernel) (by decide +kernel)⟩
def mX6_readLine : PM := (yX6_readLine, cX6_readLine, 2, none, 5)
theorem iX6_readLine : iOk mX6_readLine 0 := ⟨⟨by decide +kernel, mg 822 (by decide +kernel) (by decide +kernel), mg 80 (by decide +kernel) (by decide +kernel), ⟨by decide +kernel, by decide +kernel, by decide +kernel⟩, by decide⟩, mg 821 (by decide +kernel) (by decide +kernel), mg 51 (by decide +kernel) (by decide +kernel)⟩
def mX6_text : PM := (yX6_text, cX6_text, 3, some .int, 6)
theorem iX6_text : iOk mX6_text 0 := ⟨⟨by decide +kernel, mg 802 (by decide +kernel) (by decide +kernel), mg 80 (by decide +kernel) (by decide +kernel), ⟨by decide +kernel, by decide +kernel, by decide +kernel⟩, by decide⟩, mg 800 (by decide +kernel) (by decide +kernel), mg 801 (by decide +kernel) (by decide +kernel)⟩
def mX6_fault : PM := (yX6_fault, cX6_fault, 1, some .int, 1)
theorem iX6_fault : iOk mX6_fault 0 := ⟨⟨by decide +kernel, mg 839 (by decide +kernel) (by decide +kernel), mg 80 (by decide +kernel) (by decide +kernel), ⟨by decide +kernel, by decide +kernel, by decide +kernel⟩, by decide⟩, mg 837 (by decide +kernel) (by decide +kernel), mg 838 (by decide +kernel) (by decide +kernel)⟩
def mX6_isWheel : PM := (yX6_isWheel, cX6_isWheel, 2, some .boolean, 2)
theorem iX6_isWheel : iOk mX6_isWheel 1 := ⟨⟨by decide +kernel, mg 867 (by decide +kernel) (by decide +kernel), mg 80 (by decide +kernel) (by decide +kernel), ⟨by decide +kernel, by decide +kernel, by decide +kernel⟩, by decide⟩, mg 866 (by decide +kernel) (by decide +kernel), mg 59 (by decide +kernel) (by decide +kernel)⟩
def mX6_isDigit : PM := (yX6_isDigit, cX6_isDigit, 1, some .boolean, 2)
theorem jX6_isDigit : jOk mX6_isDigit 1 := ⟨⟨by decide +kernel, mg 885 (by decide +kernel) (by decide +kernel), mg 80 (by decide +kernel) (by decide +kernel), ⟨by decide +kernel, by decide +kernel, by decide +kernel⟩, by decide⟩, mg 884 (by decide +kernel) (by decide +kernel)⟩
def mX6_isReading : PM := (yX6_isReading, cX6_isReading, 1, some .boolean, 2)
theorem jX6_isReading : jOk mX6_isReading 1 := ⟨⟨by decide +kernel, mg 939 (by decide +kernel) (by decide +kernel), mg 80 (by decide +kernel) (by decide +kernel), ⟨by decide +kernel, by decide +kernel, by decide +kernel⟩, by decide⟩, mg 938 (by decide +kernel) (by decide +kernel)⟩
def mX6_turnsOn : PM := (yX6_turnsOn, cX6_turnsOn, 6, some .int, 1)
theorem iX6_turnsOn : iOk mX6_turnsOn 2 := ⟨⟨by decide +kernel, mg 871 (by decide +kernel) (by decide +kernel), mg 80 (by decide +kernel) (by decide +kernel), ⟨by decide +kernel, by decide +kernel, by decide +kernel⟩, by decide⟩, mg 870 (by decide +kernel) (by decide +kernel), mg 60 (by decide +kernel) (by decide +kernel)⟩
def mX6_carriesOn : PM := (yX6_carriesOn, cX6_carriesOn, 7, some .boolean, 1)
theorem iX6_carriesOn : iOk mX6_carriesOn 2 := ⟨⟨by decide +kernel, mg 847 (by decide +kernel) (by decide +kernel), mg 80 (by decide +kernel) (by decide +kernel), ⟨by decide +kernel, by decide +kernel, by decide +kernel⟩, by decide⟩, mg 846 (by decide +kernel) (by decide +kernel), mg 55 (by decide +kernel) (by decide +kernel)⟩
def mX6_turnedOn : PM := (yX6_turnedOn, cX6_turnedOn, 5, none, 2)
theorem iX6_turnedOn : iOk mX6_turnedOn 2 := ⟨⟨by decide +kernel, mg 902 (by decide +kernel) (by decide +kernel), mg 80 (by decide +kernel) (by decide +kernel), ⟨by decide +kernel, by decide +kernel, by decide +kernel⟩, by decide⟩, mg 901 (by decide +kernel) (by decide +kernel), mg 62 (by decide +kernel) (by decide +kernel)⟩
def mX6_pushOn : PM := (yX6_pushOn, cX6_pushOn, 2, none, 3)
theorem iX6_pushOn : iOk mX6_pushOn 1 := ⟨⟨by decide +kernel, mg 916 (by decide +kernel) (by decide +kernel), mg 80 (by decide +kernel) (by decide +kernel), ⟨by decide +kernel, by decide +kernel, by decide +kernel⟩, by decide⟩, mg 915 (by decide +kernel) (by decide +kernel), mg 63 (by decide +kernel) (by decide +kernel)⟩
def mX6_allOn : PM := (yX6_allOn, cX6_allOn, 4, some .int, 1)
theorem iX6_allOn : iOk mX6_allOn 1 := ⟨⟨by decide +kernel, mg 855 (by decide +kernel) (by decide +kernel), mg 80 (by decide +kernel) (by decide +kernel), ⟨by decide +kernel, by decide +kernel, by decide +kernel⟩, by decide⟩, mg 854 (by decide +kernel) (by decide +kernel), mg 57 (by decide +kernel) (by decide +kernel)⟩
def mX6_readsOn : PM := (yX6_readsOn, cX6_readsOn, 5, some .int, 1)
theorem iX6_readsOn : iOk mX6_readsOn 1 := ⟨⟨by decide +kernel, mg 851 (by decide +kernel) (by decide +kernel), mg 80 (by decide +kernel) (by decide +kernel), ⟨by decide +kernel, by decide +kernel, by decide +kernel⟩, by decide⟩, mg 850 (by decide +kernel) (by decide +kernel), mg 56 (by decide +kernel) (by decide +kernel)⟩
def mX6_errorOn : PM := (yX6_errorOn, cX6_errorOn, 3, some .int, 2)
theorem iX6_errorOn : iOk mX6_errorOn 1 := ⟨⟨by decide +kernel, mg 859 (by decide +kernel) (by decide +kernel), mg 80 (by decide +kernel) (by decide +kernel), ⟨by decide +kernel, by decide +kernel, by decide +kernel⟩, by decide⟩, mg 858 (by decide +kernel) (by decide +kernel), mg 58 (by decide +kernel) (by decide +kernel)⟩
def mX6_rule : PM := (yX6_rule, cX6_rule, 4, some .int, 3)
theorem iX6_rule : iOk mX6_rule 1 := ⟨⟨by decide +kernel, mg 843 (by decide +kernel) (by decide +kernel), mg 80 (by decide +kernel) (by decide +kernel), ⟨by decide +kernel, by decide +kernel, by decide +kernel⟩, by decide⟩, mg 841 (by decide +kernel) (by decide +kernel), mg 842 (by decide +kernel) (by decide +kernel)⟩
def mX6_wheel : PM := (yX6_wheel, cX6_wheel, 3, some .int, 3)
theorem iX6_wheel : iOk mX6_wheel 2 := ⟨⟨by decide +kernel, mg 863 (by decide +kernel) (by decide +kernel), mg 80 (by decide +kernel) (by decide +kernel), ⟨by decide +kernel, by decide +kernel, by decide +kernel⟩, by decide⟩, mg 861 (by decide +kernel) (by decide +kernel), mg 862 (by decide +kernel) (by decide +kernel)⟩
def mX6_alters : PM := (yX6_alters, cX6_alters, 10, some .int, 3)
theorem iX6_alters : iOk mX6_alters 3 := ⟨⟨by decide +kernel, mg 879 (by decide +kernel) (by decide +kernel), mg 80 (by decide +kernel) (by decide +kernel), ⟨by decide +kernel, by decide +kernel, by decide +kernel⟩, by decide⟩, mg 878 (by decide +kernel) (by decide +kernel), mg 61 (by decide +kernel) (by decide +kernel)⟩
def mX6_alter : PM := (yX6_alter, cX6_alter, 4, some .int, 4)
theorem iX6_alter : iOk mX6_alter 3 := ⟨⟨by decide +kernel, mg 875 (by decide +kernel) (by decide +kernel), mg 80 (by decide +kernel) (by decide +kernel), ⟨by decide +kernel, by decide +kernel, by decide +kernel⟩, by decide⟩, mg 873 (by decide +kernel) (by decide +kernel), mg 874 (by decide +kernel) (by decide +kernel)⟩
def mX6_add : PM := (yX6_add, cX6_add, 4, some .int, 2)
theorem iX6_add : iOk mX6_add 2 := ⟨⟨by decide +kernel, mg 890 (by decide +kernel) (by decide +kernel), mg 80 (by decide +kernel) (by decide +kernel), ⟨by decide +kernel, by decide +kernel, by decide +kernel⟩, by decide⟩, mg 888 (by decide +kernel) (by decide +kernel), mg 889 (by decide +kernel) (by decide +kernel)⟩
def mX6_cut : PM := (yX6_cut, cX6_cut, 3, some .int, 2)
theorem iX6_cut : iOk mX6_cut 1 := ⟨⟨by decide +kernel, mg 894 (by decide +kernel) (by decide +kernel), mg 80 (by decide +kernel) (by decide +kernel), ⟨by decide +kernel, by decide +kernel, by decide +kernel⟩, by decide⟩, mg 892 (by decide +kernel) (by decide +kernel), mg 893 (by decide +kernel) (by decide +kernel)⟩
def mX6_turn : PM := (yX6_turn, cX6_turn, 2, some .int, 3)
theorem iX6_turn : iOk mX6_turn 1 := ⟨⟨by decide +kernel, mg 898 (by decide +kernel) (by decide +kernel), mg 80 (by decide +kernel) (by decide +kernel), ⟨by decide +kernel, by decide +kernel, by decide +kernel⟩, by decide⟩, mg 896 (by decide +kernel) (by decide +kernel), mg 897 (by decide +kernel) (by decide +kernel)⟩
def mX6_clear : PM := (yX6_clear, cX6_clear, 3, some .int, 2)
theorem iX6_clear : iOk mX6_clear 0 := ⟨⟨by decide +kernel, mg 906 (by decide +kernel) (by decide +kernel), mg 80 (by decide +kernel) (by decide +kernel), ⟨by decide +kernel, by decide +kernel, by decide +kernel⟩, by decide⟩, mg 904 (by decide +kernel) (by decide +kernel), mg 905 (by decide +kernel) (by decide +kernel)⟩
def mX6_pushes : PM := (yX6_pushes, cX6_pushes, 3, some .int, 4)
theorem iX6_pushes : iOk mX6_pushes 1 := ⟨⟨by decide +kernel, mg 910 (by decide +kernel) (by decide +kernel), mg 80 (by decide +kernel) (by decide +kernel), ⟨by decide +kernel, by decide +kernel, by decide +kernel⟩, by decide⟩, mg 908 (by decide +kernel) (by decide +kernel), mg 909 (by decide +kernel) (by decide +kernel)⟩
def mX6_copies : PM := (yX6_copies, cX6_copies, 4, none, 1)
theorem iX6_copies : iOk mX6_copies 2 := ⟨⟨by decide +kernel, mg 928 (by decide +kernel) (by decide +kernel), mg 80 (by decide +kernel) (by decide +kernel), ⟨by decide +kernel, by decide +kernel, by decide +kernel⟩, by decide⟩, mg 927 (by decide +kernel) (by decide +kernel), mg 65 (by decide +kernel) (by decide +kernel)⟩
def mX6_pushesGo : PM := (yX6_pushesGo, cX6_pushesGo, 5, some .int, 4)
theorem iX6_pushesGo : iOk mX6_pushesGo 2 := ⟨⟨by decide +kernel, mg 924 (by decide +kernel) (by decide +kernel), mg 80 (by decide +kernel) (by decide +kernel), ⟨by decide +kernel, by decide +kernel, by decide +kernel⟩, by decide⟩, mg 923 (by decide +kernel) (by decide +kernel), mg 64 (by decide +kernel) (by decide +kernel)⟩
def mX6_runs : PM := (yX6_runs, cX6_runs, 4, some .int, 5)
theorem iX6_runs : iOk mX6_runs 2 := ⟨⟨by decide +kernel, mg 920 (by decide +kernel) (by decide +kernel), mg 80 (by decide +kernel) (by decide +kernel), ⟨by decide +kernel, by decide +kernel, by decide +kernel⟩, by decide⟩, mg 918 (by decide +kernel) (by decide +kernel), mg 919 (by decide +kernel) (by decide +kernel)⟩
def mX6_ahead : PM := (yX6_ahead, cX6_ahead, 3, some .int, 5)
theorem iX6_ahead : iOk mX6_ahead 2 := ⟨⟨by decide +kernel, mg 932 (by decide +kernel) (by decide +kernel), mg 80 (by decide +kernel) (by decide +kernel), ⟨by decide +kernel, by decide +kernel, by decide +kernel⟩, by decide⟩, mg 930 (by decide +kernel) (by decide +kernel), mg 931 (by decide +kernel) (by decide +kernel)⟩
def mX6_firstTime : PM := (yX6_firstTime, cX6_firstTime, 6, some .int, 4)
theorem iX6_firstTime : iOk mX6_firstTime 3 := ⟨⟨by decide +kernel, mg 944 (by decide +kernel) (by decide +kernel), mg 80 (by decide +kernel) (by decide +kernel), ⟨by decide +kernel, by decide +kernel, by decide +kernel⟩, by decide⟩, mg 943 (by decide +kernel) (by decide +kernel), mg 66 (by decide +kernel) (by decide +kernel)⟩
def mX6_when : PM := (yX6_when, cX6_when, 2, some .int, 5)
theorem iX6_when : iOk mX6_when 1 := ⟨⟨by decide +kernel, mg 936 (by decide +kernel) (by decide +kernel), mg 80 (by decide +kernel) (by decide +kernel), ⟨by decide +kernel, by decide +kernel, by decide +kernel⟩, by decide⟩, mg 934 (by decide +kernel) (by decide +kernel), mg 935 (by decide +kernel) (by decide +kernel)⟩
def mX6_shows : PM := (yX6_shows, cX6_shows, 3, some .int, 5)
theorem iX6_shows : iOk mX6_shows 2 := ⟨⟨by decide +kernel, mg 948 (by decide +kernel) (by decide +kernel), mg 80 (by decide +kernel) (by decide +kernel), ⟨by decide +kernel, by decide +kernel, by decide +kernel⟩, by decide⟩, mg 946 (by decide +kernel) (by decide +kernel), mg 947 (by decide +kernel) (by decide +kernel)⟩
def mX6_again : PM := (yX6_again, cX6_again, 1, some .int, 5)
theorem iX6_again : iOk mX6_again 0 := ⟨⟨by decide +kernel, mg 952 (by decide +kernel) (by decide +kernel), mg 80 (by decide +kernel) (by decide +kernel), ⟨by decide +kernel, by decide +kernel, by decide +kernel⟩, by decide⟩, mg 950 (by decide +kernel) (by decide +kernel), mg 951 (by decide +kernel) (by decide +kernel)⟩
def mX6_errorBehind : PM := (yX6_errorBehind, cX6_errorBehind, 3, some .int, 5)
theorem iX6_errorBehind : iOk mX6_errorBehind 2 := ⟨⟨by decide +kernel, mg 961 (by decide +kernel) (by decide +kernel), mg 80 (by decide +kernel) (by decide +kernel), ⟨by decide +kernel, by decide +kernel, by decide +kernel⟩, by decide⟩, mg 960 (by decide +kernel) (by decide +kernel), mg 67 (by decide +kernel) (by decide +kernel)⟩
def mX6_mend : PM := (yX6_mend, cX6_mend, 7, some .int, 6)
theorem iX6_mend : iOk mX6_mend 2 := ⟨⟨by decide +kernel, mg 956 (by decide +kernel) (by decide +kernel), mg 80 (by decide +kernel) (by decide +kernel), ⟨by decide +kernel, by decide +kernel, by decide +kernel⟩, by decide⟩, mg 954 (by decide +kernel) (by decide +kernel), mg 955 (by decide +kernel) (by decide +kernel)⟩
def mX6_swap : PM := (yX6_swap, cX6_swap, 8, some .int, 6)
theorem iX6_swap : iOk mX6_swap 2 := ⟨⟨by decide +kernel, mg 965 (by decide +kernel) (by decide +kernel), mg 80 (by decide +kernel) (by decide +kernel), ⟨by decide +kernel, by decide +kernel, by decide +kernel⟩, by decide⟩, mg 963 (by decide +kernel) (by decide +kernel), mg 964 (by decide +kernel) (by decide +kernel)⟩
def mX6_leastAt : PM := (yX6_leastAt, cX6_leastAt, 11, some .int, 6)
theorem iX6_leastAt : iOk mX6_leastAt 6 := ⟨⟨by decide +kernel, mg 973 (by decide +kernel) (by decide +kernel), mg 80 (by decide +kernel) (by decide +kernel), ⟨by decide +kernel, by decide +kernel, by decide +kernel⟩, by decide⟩, mg 972 (by decide +kernel) (by decide +kernel), mg 68 (by decide +kernel) (by decide +kernel)⟩
def mX6_kind : PM := (yX6_kind, cX6_kind, 4, some .int, 7)
theorem iX6_kind : iOk mX6_kind 3 := ⟨⟨by decide +kernel, mg 969 (by decide +kernel) (by decide +kernel), mg 80 (by decide +kernel) (by decide +kernel), ⟨by decide +kernel, by decide +kernel, by decide +kernel⟩, by decide⟩, mg 967 (by decide +kernel) (by decide +kernel), mg 968 (by decide +kernel) (by decide +kernel)⟩
def mX6_begin : PM := (yX6_begin, cX6_begin, 4, some .int, 7)
theorem iX6_begin : iOk mX6_begin 3 := ⟨⟨by decide +kernel, mg 978 (by decide +kernel) (by decide +kernel), mg 80 (by decide +kernel) (by decide +kernel), ⟨by decide +kernel, by decide +kernel, by decide +kernel⟩, by decide⟩, mg 976 (by decide +kernel) (by decide +kernel), mg 977 (by decide +kernel) (by decide +kernel)⟩
def mX6_file : PM := (yX6_file, cX6_file, 4, some .int, 7)
theorem iX6_file : iOk mX6_file 3 := ⟨⟨by decide +kernel, mg 982 (by decide +kernel) (by decide +kernel), mg 80 (by decide +kernel) (by decide +kernel), ⟨by decide +kernel, by decide +kernel, by decide +kernel⟩, by decide⟩, mg 980 (by decide +kernel) (by decide +kernel), mg 981 (by decide +kernel) (by decide +kernel)⟩
def mX6_lowest : PM := (yX6_lowest, cX6_lowest, 11, some .long, 1)
theorem jX6_lowest : jOk mX6_lowest 3 := ⟨⟨by decide +kernel, mg 995 (by decide +kernel) (by decide +kernel), mg 80 (by decide +kernel) (by decide +kernel), ⟨by decide +kernel, by decide +kernel, by decide +kernel⟩, by decide⟩, mg 994 (by decide +kernel) (by decide +kernel)⟩
def mX6_byMisses : PM := (yX6_byMisses, cX6_byMisses, 15, some .long, 4)
theorem iX6_byMisses : iOk mX6_byMisses 5 := ⟨⟨by decide +kernel, mg 992 (by decide +kernel) (by decide +kernel), mg 80 (by decide +kernel) (by decide +kernel), ⟨by decide +kernel, by decide +kernel, by decide +kernel⟩, by decide⟩, mg 991 (by decide +kernel) (by decide +kernel), mg 69 (by decide +kernel) (by decide +kernel)⟩
def mX6_luck : PM := (yX6_luck, cX6_luck, 6, some .long, 5)
theorem iX6_luck : iOk mX6_luck 5 := ⟨⟨by decide +kernel, mg 986 (by decide +kernel) (by decide +kernel), mg 80 (by decide +kernel) (by decide +kernel), ⟨by decide +kernel, by decide +kernel, by decide +kernel⟩, by decide⟩, mg 984 (by decide +kernel) (by decide +kernel), mg 985 (by decide +kernel) (by decide +kernel)⟩
def mX6_mean : PM := (yX6_mean, cX6_mean, 4, some .long, 5)
theorem iX6_mean : iOk mX6_mean 3 := ⟨⟨by decide +kernel, mg 1000 (by decide +kernel) (by decide +kernel), mg 80 (by decide +kernel) (by decide +kernel), ⟨by decide +kernel, by decide +kernel, by decide +kernel⟩, by decide⟩, mg 998 (by decide +kernel) (by decide +kernel), mg 999 (by decide +kernel) (by decide +kernel)⟩
def mX6_see : PM := (yX6_see, cX6_see, 3, some .int, 3)
theorem iX6_see : iOk mX6_see 2 := ⟨⟨by decide +kernel, mg 1004 (by decide +kernel) (by decide +kernel), mg 80 (by decide +kernel) (by decide +kernel), ⟨by decide +kernel, by decide +kernel, by decide +kernel⟩, by decide⟩, mg 1002 (by decide +kernel) (by decide +kernel), mg 1003 (by decide +kernel) (by decide +kernel)⟩
def mX6_forget : PM := (yX6_forget, cX6_forget, 3, some .int, 2)
theorem iX6_forget : iOk mX6_forget 1 := ⟨⟨by decide +kernel, mg 1008 (by decide +kernel) (by decide +kernel), mg 80 (by decide +kernel) (by decide +kernel), ⟨by decide +kernel, by decide +kernel, by decide +kernel⟩, by decide⟩, mg 1006 (by decide +kernel) (by decide +kernel), mg 1007 (by decide +kernel) (by decide +kernel)⟩
def mX6_isAsSeen : PM := (yX6_isAsSeen, cX6_isAsSeen, 6, some .boolean, 4)
theorem iX6_isAsSeen : iOk mX6_isAsSeen 1 := ⟨⟨by decide +kernel, mg 1016 (by decide +kernel) (by decide +kernel), mg 80 (by decide +kernel) (by decide +kernel), ⟨by decide +kernel, by decide +kernel, by decide +kernel⟩, by decide⟩, mg 1015 (by decide +kernel) (by decide +kernel), mg 70 (by decide +kernel) (by decide +kernel)⟩
def mX6_kinds : PM := (yX6_kinds, cX6_kinds, 5, some .int, 5)
theorem iX6_kinds : iOk mX6_kinds 1 := ⟨⟨by decide +kernel, mg 1012 (by decide +kernel) (by decide +kernel), mg 80 (by decide +kernel) (by decide +kernel), ⟨by decide +kernel, by decide +kernel, by decide +kernel⟩, by decide⟩, mg 1010 (by decide +kernel) (by decide +kernel), mg 1011 (by decide +kernel) (by decide +kernel)⟩
def mX6_brokenOf : PM := (yX6_brokenOf, cX6_brokenOf, 5, some .int, 5)
theorem iX6_brokenOf : iOk mX6_brokenOf 1 := ⟨⟨by decide +kernel, mg 1024 (by decide +kernel) (by decide +kernel), mg 80 (by decide +kernel) (by decide +kernel), ⟨by decide +kernel, by decide +kernel, by decide +kernel⟩, by decide⟩, mg 1023 (by decide +kernel) (by decide +kernel), mg 71 (by decide +kernel) (by decide +kernel)⟩
def mX6_broken : PM := (yX6_broken, cX6_broken, 2, some .int, 6)
theorem iX6_broken : iOk mX6_broken 1 := ⟨⟨by decide +kernel, mg 1020 (by decide +kernel) (by decide +kernel), mg 80 (by decide +kernel) (by decide +kernel), ⟨by decide +kernel, by decide +kernel, by decide +kernel⟩, by decide⟩, mg 1018 (by decide +kernel) (by decide +kernel), mg 1019 (by decide +kernel) (by decide +kernel)⟩
def mX6_worstAt : PM := (yX6_worstAt, cX6_worstAt, 7, some .int, 1)
theorem iX6_worstAt : iOk mX6_worstAt 2 := ⟨⟨by decide +kernel, mg 1032 (by decide +kernel) (by decide +kernel), mg 80 (by decide +kernel) (by decide +kernel), ⟨by decide +kernel, by decide +kernel, by decide +kernel⟩, by decide⟩, mg 1031 (by decide +kernel) (by decide +kernel), mg 72 (by decide +kernel) (by decide +kernel)⟩
def mX6_ask : PM := (yX6_ask, cX6_ask, 8, some .int, 6)
theorem iX6_ask : iOk mX6_ask 2 := ⟨⟨by decide +kernel, mg 1028 (by decide +kernel) (by decide +kernel), mg 80 (by decide +kernel) (by decide +kernel), ⟨by decide +kernel, by decide +kernel, by decide +kernel⟩, by decide⟩, mg 1026 (by decide +kernel) (by decide +kernel), mg 1027 (by decide +kernel) (by decide +kernel)⟩
def mX6_drift : PM := (yX6_drift, cX6_drift, 6, some .int, 3)
theorem iX6_drift : iOk mX6_drift 3 := ⟨⟨by decide +kernel, mg 1036 (by decide +kernel) (by decide +kernel), mg 80 (by decide +kernel) (by decide +kernel), ⟨by decide +kernel, by decide +kernel, by decide +kernel⟩, by decide⟩, mg 1034 (by decide +kernel) (by decide +kernel), mg 1035 (by decide +kernel) (by decide +kernel)⟩
def mX6_keep : PM := (yX6_keep, cX6_keep, 3, some .int, 2)
theorem iX6_keep : iOk mX6_keep 1 := ⟨⟨by decide +kernel, mg 1041 (by decide +kernel) (by decide +kernel), mg 80 (by decide +kernel) (by decide +kernel), ⟨by decide +kernel, by decide +kernel, by decide +kernel⟩, by decide⟩, mg 1039 (by decide +kernel) (by decide +kernel), mg 1040 (by decide +kernel) (by decide +kernel)⟩
def mX6_back : PM := (yX6_back, cX6_back, 2, some .int, 2)
theorem iX6_back : iOk mX6_back 1 := ⟨⟨by decide +kernel, mg 1045 (by decide +kernel) (by decide +kernel), mg 80 (by decide +kernel) (by decide +kernel), ⟨by decide +kernel, by decide +kernel, by decide +kernel⟩, by decide⟩, mg 1043 (by decide +kernel) (by decide +kernel), mg 1044 (by decide +kernel) (by decide +kernel)⟩
def mX6_sheet : PM := (yX6_sheet, cX6_sheet, 5, some .int, 2)
theorem iX6_sheet : iOk mX6_sheet 3 := ⟨⟨by decide +kernel, mg 1049 (by decide +kernel) (by decide +kernel), mg 80 (by decide +kernel) (by decide +kernel), ⟨by decide +kernel, by decide +kernel, by decide +kernel⟩, by decide⟩, mg 1047 (by decide +kernel) (by decide +kernel), mg 1048 (by decide +kernel) (by decide +kernel)⟩
def mX6_lay : PM := (yX6_lay, cX6_lay, 4, some .int, 2)
theorem iX6_lay : iOk mX6_lay 3 := ⟨⟨by decide +kernel, mg 1053 (by decide +kernel) (by decide +kernel), mg 80 (by decide +kernel) (by decide +kernel), ⟨by decide +kernel, by decide +kernel, by decide +kernel⟩, by decide⟩, mg 1051 (by decide +kernel) (by decide +kernel), mg 1052 (by decide +kernel) (by decide +kernel)⟩
def mX6_read : PM := (yX6_read, cX6_read, 10, some .int, 4)
theorem iX6_read : iOk mX6_read 4 := ⟨⟨by decide +kernel, mg 1057 (by decide +kernel) (by decide +kernel), mg 80 (by decide +kernel) (by decide +kernel), ⟨by decide +kernel, by decide +kernel, by decide +kernel⟩, by decide⟩, mg 1055 (by decide +kernel) (by decide +kernel), mg 1056 (by decide +kernel) (by decide +kernel)⟩
def mX6_torn : PM := (yX6_torn, cX6_torn, 1, some .int, 1)
theorem iX6_torn : iOk mX6_torn 0 := ⟨⟨by decide +kernel, mg 1062 (by decide +kernel) (by decide +kernel), mg 80 (by decide +kernel) (by decide +kernel), ⟨by decide +kernel, by decide +kernel, by decide +kernel⟩, by decide⟩, mg 1060 (by decide +kernel) (by decide +kernel), mg 1061 (by decide +kernel) (by decide +kernel)⟩
def mX6_count : PM := (yX6_count, cX6_count, 5, some .int, 1)
theorem iX6_count : iOk mX6_count 1 := ⟨⟨by decide +kernel, mg 1066 (by decide +kernel) (by decide +kernel), mg 80 (by decide +kernel) (by decide +kernel), ⟨by decide +kernel, by decide +kernel, by decide +kernel⟩, by decide⟩, mg 1064 (by decide +kernel) (by decide +kernel), mg 1065 (by decide +kernel) (by decide +kernel)⟩
def mJ0_length_8abf5 : PM := (yJ0_length_8abf5, cJ0_length_8abf5, 1, some .int, 2)
theorem iJ0_length_8abf5 : iOk mJ0_length_8abf5 0 := ⟨⟨by decide +kernel, mg 317 (by decide +kernel) (by decide +kernel), mg 81 (by decide +kernel) (by decide +kernel), ⟨by decide +kernel, by decide +kernel, by decide +kernel⟩, by decide⟩, mg 315 (by decide +kernel) (by decide +kernel), mg 316 (by decide +kernel) (by decide +kernel)⟩
def mJ0_charAt_5068e : PM := (yJ0_charAt_5068e, cJ0_charAt_5068e, 2, some .char, 5)
theorem iJ0_charAt_5068e : iOk mJ0_charAt_5068e 1 := ⟨⟨by decide +kernel, mg 327 (by decide +kernel) (by decide +kernel), mg 81 (by decide +kernel) (by decide +kernel), ⟨by decide +kernel, by decide +kernel, by decide +kernel⟩, by decide⟩, mg 325 (by decide +kernel) (by decide +kernel), mg 326 (by decide +kernel) (by decide +kernel)⟩
def mJ0_coder_7d493 : PM := (yJ0_coder_7d493, cJ0_coder_7d493, 1, some .byte, 1)
theorem iJ0_coder_7d493 : iOk mJ0_coder_7d493 0 := ⟨⟨by decide +kernel, mg 321 (by decide +kernel) (by decide +kernel), mg 81 (by decide +kernel) (by decide +kernel), ⟨by decide +kernel, by decide +kernel, by decide +kernel⟩, by decide⟩, mg 319 (by decide +kernel) (by decide +kernel), mg 320 (by decide +kernel) (by decide +kernel)⟩
def mJ0_isLatin1_aae02 : PM := (yJ0_isLatin1_aae02, cJ0_isLatin1_aae02, 1, some .boolean, 1)
theorem iJ0_isLatin1_aae02 : iOk mJ0_isLatin1_aae02 0 := ⟨⟨by decide +kernel, mg 331 (by decide +kernel) (by decide +kernel), mg 81 (by decide +kernel) (by decide +kernel), ⟨by decide +kernel, by decide +kernel, by decide +kernel⟩, by decide⟩, mg 329 (by decide +kernel) (by decide +kernel), mg 330 (by decide +kernel) (by decide +kernel)⟩
def mJ0_checkIndex_df160 : PM := (yJ0_checkIndex_df160, cJ0_checkIndex_df160, 2, none, 2)
theorem jJ0_checkIndex_df160 : jOk mJ0_checkIndex_df160 2 := ⟨⟨by decide +kernel, mg 337 (by decide +kernel) (by decide +kernel), mg 81 (by decide +kernel) (by decide +kernel), ⟨by decide +kernel, by decide +kernel, by decide +kernel⟩, by decide⟩, mg 336 (by decide +kernel) (by decide +kernel)⟩
def mJ1_charAt_3b067 : PM := (yJ1_charAt_3b067, cJ1_charAt_3b067, 2, some .char, 3)
theorem jJ1_charAt_3b067 : jOk mJ1_charAt_3b067 2 := ⟨⟨by decide +kernel, mg 334 (by decide +kernel) (by decide +kernel), mg 82 (by decide +kernel) (by decide +kernel), ⟨by decide +kernel, by decide +kernel, by decide +kernel⟩, by decide⟩, mg 333 (by decide +kernel) (by decide +kernel)⟩
def mJ2_getChar_3b067 : PM := (yJ2_getChar_3b067, cJ2_getChar_3b067, 2, some .char, 2)
theorem jJ2_getChar_3b067 : jOk mJ2_getChar_3b067 2 := ⟨⟨by decide +kernel, mg 355 (by decide +kernel) (by decide +kernel), mg 84 (by decide +kernel) (by decide +kernel), ⟨by decide +kernel, by decide +kernel, by decide +kernel⟩, by decide⟩, mg 354 (by decide +kernel) (by decide +kernel)⟩
def mJ2_length_9d52b : PM := (yJ2_length_9d52b, cJ2_length_9d52b, 1, some .int, 1)
theorem jJ2_length_9d52b : jOk mJ2_length_9d52b 1 := ⟨⟨by decide +kernel, mg 351 (by decide +kernel) (by decide +kernel), mg 84 (by decide +kernel) (by decide +kernel), ⟨by decide +kernel, by decide +kernel, by decide +kernel⟩, by decide⟩, mg 350 (by decide +kernel) (by decide +kernel)⟩
def mJ2_charAt_3b067 : PM := (yJ2_charAt_3b067, cJ2_charAt_3b067, 2, some .char, 4)
theorem jJ2_charAt_3b067 : jOk mJ2_charAt_3b067 2 := ⟨⟨by decide +kernel, mg 345 (by decide +kernel) (by decide +kernel), mg 84 (by decide +kernel) (by decide +kernel), ⟨by decide +kernel, by decide +kernel, by decide +kernel⟩, by decide⟩, mg 344 (by decide +kernel) (by decide +kernel)⟩
def mJ2_checkIndex_2214a : PM := (yJ2_checkIndex_2214a, cJ2_checkIndex_2214a, 2, none, 3)
theorem jJ2_checkIndex_2214a : jOk mJ2_checkIndex_2214a 2 := ⟨⟨by decide +kernel, mg 348 (by decide +kernel) (by decide +kernel), mg 84 (by decide +kernel) (by decide +kernel), ⟨by decide +kernel, by decide +kernel, by decide +kernel⟩, by decide⟩, mg 347 (by decide +kernel) (by decide +kernel)⟩
def mJ3_checkIndex_8e157 : PM := (yJ3_checkIndex_8e157, cJ3_checkIndex_8e157, 3, some .int, 1)
theorem jJ3_checkIndex_8e157 : jOk mJ3_checkIndex_8e157 3 := ⟨⟨by decide +kernel, mg 342 (by decide +kernel) (by decide +kernel), mg 83 (by decide +kernel) (by decide +kernel), ⟨by decide +kernel, by decide +kernel, by decide +kernel⟩, by decide⟩, mg 341 (by decide +kernel) (by decide +kernel)⟩
def mL_law : PM := (yL_law, cL_law, 4, some .boolean, 12)
theorem lkX5_74 : lOk RX5 74 yX5_within := Or.inl (mg 273 (by decide +kernel) (by decide +kernel))
theorem lkX5_85 : lOk RX5 85 yX4_tell := Or.inr ⟨"WheelCount", mn 284 (by decide +kernel) (by decide +kernel)⟩
theorem lkX5_92 : lOk RX5 92 yX0_copyOf := Or.inr ⟨"WheelCount", mn 390 (by decide +kernel) (by decide +kernel)⟩
theorem lkX5_109 : lOk RX5 109 yX0_reading := Or.inr ⟨"WheelCount", mn 402 (by decide +kernel) (by decide +kernel)⟩
theorem lkX5_113 : lOk RX5 113 yX0_product := Or.inr ⟨"WheelCount", mn 406 (by decide +kernel) (by decide +kernel)⟩
theorem lkX5_116 : lOk RX5 116 yX0_error := Or.inr ⟨"WheelCount", mn 410 (by decide +kernel) (by decide +kernel)⟩
theorem lkX5_119 : lOk RX5 119 yX0_carrying := Or.inr ⟨"WheelCount", mn 419 (by decide +kernel) (by decide +kernel)⟩
theorem lkX5_122 : lOk RX5 122 yX0_has := Or.inr ⟨"WheelCount", mn 431 (by decide +kernel) (by decide +kernel)⟩
theorem lkX5_126 : lOk RX5 126 yX0_nextDigit := Or.inr ⟨"WheelCount", mn 436 (by decide +kernel) (by decide +kernel)⟩
theorem lkX5_130 : lOk RX5 130 yX0_part := Or.inr ⟨"WheelCount", mn 440 (by decide +kernel) (by decide +kernel)⟩
theorem lkX5_134 : lOk RX5 134 yX0_change := Or.inr ⟨"WheelCount", mn 448 (by decide +kernel) (by decide +kernel)⟩
theorem lkX5_138 : lOk RX5 138 yX0_append := Or.inr ⟨"WheelCount", mn 469 (by decide +kernel) (by decide +kernel)⟩
theorem lkX5_142 : lOk RX5 142 yX0_turnFrom := Or.inr ⟨"WheelCount", mn 478 (by decide +kernel) (by decide +kernel)⟩
theorem lkX5_150 : lOk RX5 150 yX0_push := Or.inr ⟨"WheelCount", mn 492 (by decide +kernel) (by decide +kernel)⟩
theorem lkX5_153 : lOk RX5 153 yX0_pushOnce := Or.inr ⟨"WheelCount", mn 505 (by decide +kernel) (by decide +kernel)⟩
theorem mxX5_156 {M : PM} (h : (pmY M).cls = RX5) : mxOk M 156 := by
  unfold mxOk
  rw [h]
  exact ⟨mg 506 (by decide +kernel) (by decide +kernel), mg 507 (by decide +kernel) (by decide +kernel), mg 85 (by decide +kernel) (by decide +kernel), mg 508 (by decide +kernel) (by decide +kernel)⟩
theorem lkX5_161 : lOk RX5 161 yX0_isAllZero := Or.inr ⟨"WheelCount", mn 509 (by decide +kernel) (by decide +kernel)⟩
theorem lkX5_169 : lOk RX5 169 yX0_showsAs := Or.inr ⟨"WheelCount", mn 530 (by decide +kernel) (by decide +kernel)⟩
theorem lkX5_172 : lOk RX5 172 yX5_trialErrorBehind := Or.inl (mg 538 (by decide +kernel) (by decide +kernel))
theorem lkX5_175 : lOk RX5 175 yX5_tryPart := Or.inl (mg 542 (by decide +kernel) (by decide +kernel))
theorem lkX5_179 : lOk RX5 179 yX0_exchange := Or.inr ⟨"WheelCount", mn 551 (by decide +kernel) (by decide +kernel)⟩
theorem lkX5_183 : lOk RX5 183 yX5_bestPart := Or.inl (mg 562 (by decide +kernel) (by decide +kernel))
theorem lkX5_189 : lOk RX5 189 yX5_countWays := Or.inl (mg 580 (by decide +kernel) (by decide +kernel))
theorem lkX5_193 : lOk RX5 193 yX5_partOfFraction := Or.inl (mg 585 (by decide +kernel) (by decide +kernel))
theorem lkX5_203 : lOk RX5 203 yX5_fitsWith := Or.inl (mg 604 (by decide +kernel) (by decide +kernel))
theorem lkX5_209 : lOk RX5 209 yX5_broken := Or.inl (mg 627 (by decide +kernel) (by decide +kernel))
theorem lkX5_212 : lOk RX5 212 yX5_listTeethLeft := Or.inl (mg 628 (by decide +kernel) (by decide +kernel))
theorem lkX5_215 : lOk RX5 215 yX5_fillReadings := Or.inl (mg 632 (by decide +kernel) (by decide +kernel))
theorem lkX5_219 : lOk RX5 219 yX5_mostAlike := Or.inl (mg 636 (by decide +kernel) (by decide +kernel))
theorem lkX5_223 : lOk RX5 223 yX2_renew := Or.inr ⟨"WheelCount", mn 657 (by decide +kernel) (by decide +kernel)⟩
theorem lkX5_229 : lOk RX5 229 yX2_faultAt := Or.inr ⟨"WheelCount", mn 665 (by decide +kernel) (by decide +kernel)⟩
theorem lkX5_232 : lOk RX5 232 yX2_put := Or.inr ⟨"WheelCount", mn 670 (by decide +kernel) (by decide +kernel)⟩
theorem lkX5_235 : lOk RX5 235 yX2_faultAtPair := Or.inr ⟨"WheelCount", mn 678 (by decide +kernel) (by decide +kernel)⟩
theorem lkX5_241 : lOk RX5 241 yX0_takeDigitAndPush := Or.inr ⟨"WheelCount", mn 683 (by decide +kernel) (by decide +kernel)⟩
theorem lkX5_250 : lOk RX5 250 yX0_teethInAll := Or.inr ⟨"WheelCount", mn 697 (by decide +kernel) (by decide +kernel)⟩
theorem lkX5_253 : lOk RX5 253 yX0_brokenInAll := Or.inr ⟨"WheelCount", mn 701 (by decide +kernel) (by decide +kernel)⟩
theorem lkX5_256 : lOk RX5 256 yX0_set := Or.inr ⟨"WheelCount", mn 546 (by decide +kernel) (by decide +kernel)⟩
theorem lkX5_262 : lOk RX5 262 yX1_fits := Or.inr ⟨"WheelCount", mn 608 (by decide +kernel) (by decide +kernel)⟩
theorem lkX0_28 : lOk RX0 28 yX5_within := Or.inr ⟨"WheelCount", mn 435 (by decide +kernel) (by decide +kernel)⟩
theorem lkX0_32 : lOk RX0 32 yX0_has := Or.inl (mg 452 (by decide +kernel) (by decide +kernel))
theorem lkX0_36 : lOk RX0 36 yX0_mayEverBe := Or.inl (mg 453 (by decide +kernel) (by decide +kernel))
theorem lkX0_40 : lOk RX0 40 yX0_mayBe := Or.inl (mg 456 (by decide +kernel) (by decide +kernel))
theorem lkX0_43 : lOk RX0 43 yX0_part := Or.inl (mg 460 (by decide +kernel) (by decide +kernel))
theorem lkX0_47 : lOk RX0 47 yX0_set := Or.inl (mg 461 (by decide +kernel) (by decide +kernel))
theorem lkX0_57 : lOk RX0 57 yX0_exchangeIn := Or.inl (mg 555 (by decide +kernel) (by decide +kernel))
theorem lkX0_61 : lOk RX0 61 yX0_wouldCarry := Or.inl (mg 423 (by decide +kernel) (by decide +kernel))
theorem lkX0_64 : lOk RX0 64 yX0_nextDigit := Or.inl (mg 482 (by decide +kernel) (by decide +kernel))
theorem lkX0_68 : lOk RX0 68 yX0_turnFrom := Or.inl (mg 500 (by decide +kernel) (by decide +kernel))
theorem lkX0_72 : lOk RX0 72 yX0_pushOnce := Or.inl (mg 496 (by decide +kernel) (by decide +kernel))
theorem lkX0_75 : lOk RX0 75 yX0_change := Or.inl (mg 687 (by decide +kernel) (by decide +kernel))
theorem lkX0_80 : lOk RX0 80 yX0_product := Or.inl (mg 414 (by decide +kernel) (by decide +kernel))
theorem lkX0_84 : lOk RX0 84 yX0_reading := Or.inl (mg 415 (by decide +kernel) (by decide +kernel))
theorem maX0_87 {M : PM} (h : (pmY M).cls = RX0) : maOk M 87 := by
  unfold maOk
  rw [h]
  exact ⟨mg 416 (by decide +kernel) (by decide +kernel), mg 417 (by decide +kernel) (by decide +kernel), mg 85 (by decide +kernel) (by decide +kernel), mg 418 (by decide +kernel) (by decide +kernel)⟩
theorem mxX1_22 {M : PM} (h : (pmY M).cls = RX1) : mxOk M 22 := by
  unfold mxOk
  rw [h]
  exact ⟨mg 612 (by decide +kernel) (by decide +kernel), mg 507 (by decide +kernel) (by decide +kernel), mg 85 (by decide +kernel) (by decide +kernel), mg 508 (by decide +kernel) (by decide +kernel)⟩
theorem lkX1_28 : lOk RX1 28 yX1_isAgainst := Or.inl (mg 613 (by decide +kernel) (by decide +kernel))
theorem lkX1_32 : lOk RX1 32 yX0_pushOnce := Or.inr ⟨"WheelCount", mn 618 (by decide +kernel) (by decide +kernel)⟩
theorem lkX1_37 : lOk RX1 37 yX0_reading := Or.inr ⟨"WheelCount", mn 617 (by decide +kernel) (by decide +kernel)⟩
theorem lkX2_24 : lOk RX2 24 yX5_within := Or.inr ⟨"WheelCount", mn 669 (by decide +kernel) (by decide +kernel)⟩
theorem lkX2_30 : lOk RX2 30 yX2_faultAt := Or.inl (mg 682 (by decide +kernel) (by decide +kernel))
theorem lkX4_42 : lOk RX4 42 yX4_nextToken := Or.inl (mg 288 (by decide +kernel) (by decide +kernel))
theorem lkX4_49 : lOk RX4 49 yX4_tellLine := Or.inl (mg 305 (by decide +kernel) (by decide +kernel))
theorem lkX4_53 : lOk RX4 53 yX4_fail := Or.inl (mg 297 (by decide +kernel) (by decide +kernel))
theorem lkX4_59 : lOk RX4 59 yX4_isName := Or.inl (mg 310 (by decide +kernel) (by decide +kernel))
theorem lkX4_63 : lOk RX4 63 yX4_tellCount := Or.inl (mg 362 (by decide +kernel) (by decide +kernel))
theorem lkX4_66 : lOk RX4 66 yX4_kindNamed := Or.inl (mg 374 (by decide +kernel) (by decide +kernel))
theorem lkX4_70 : lOk RX4 70 yX4_tellWheel := Or.inl (mg 382 (by decide +kernel) (by decide +kernel))
theorem lkX4_74 : lOk RX4 74 yX4_nextNumber := Or.inl (mg 366 (by decide +kernel) (by decide +kernel))
theorem lkX4_81 : lOk RX4 81 yX4_lineEnds := Or.inl (mg 370 (by decide +kernel) (by decide +kernel))
theorem lkX4_84 : lOk RX4 84 yX0_append := Or.inr ⟨"WheelCount", mn 386 (by decide +kernel) (by decide +kernel)⟩
theorem lkX4_88 : lOk RX4 88 yX5_within := Or.inr ⟨"WheelCount", mn 292 (by decide +kernel) (by decide +kernel)⟩
theorem lkX4_99 : lOk RX4 99 yX4_endOfRun := Or.inl (mg 293 (by decide +kernel) (by decide +kernel))
theorem lkX4_103 : lOk RX4 103 yX4_valueOfFigures := Or.inl (mg 301 (by decide +kernel) (by decide +kernel))
theorem lkX4_114 : lOk RX4 114 yJ0_length_8abf5 := Or.inl (mg 314 (by decide +kernel) (by decide +kernel))
theorem lkX4_118 : lOk RX4 118 yJ0_charAt_5068e := Or.inl (mg 324 (by decide +kernel) (by decide +kernel))
theorem lkL_13 : lOk RL 13 yX5_feed := Or.inl (mg 269 (by decide +kernel) (by decide +kernel))
theorem lkL_17 : lOk RL 17 yX6_feed := Or.inl (mg 787 (by decide +kernel) (by decide +kernel))
theorem lkL_18 : lOk RL 18 yX5_end := Or.inl (mg 276 (by decide +kernel) (by decide +kernel))
theorem lkL_21 : lOk RL 21 yX6_end := Or.inl (mg 795 (by decide +kernel) (by decide +kernel))
theorem lkL_22 : lOk RL 22 yX5_text := Or.inl (mg 280 (by decide +kernel) (by decide +kernel))
theorem lkL_26 : lOk RL 26 yX6_text := Or.inl (mg 799 (by decide +kernel) (by decide +kernel))
theorem lkL_27 : lOk RL 27 yX5_fault := Or.inl (mg 394 (by decide +kernel) (by decide +kernel))
theorem lkL_30 : lOk RL 30 yX6_fault := Or.inl (mg 836 (by decide +kernel) (by decide +kernel))
theorem lkL_31 : lOk RL 31 yX5_rule := Or.inl (mg 398 (by decide +kernel) (by decide +kernel))
theorem lkL_34 : lOk RL 34 yX6_rule := Or.inl (mg 840 (by decide +kernel) (by decide +kernel))
theorem lkL_35 : lOk RL 35 yX5_wheel := Or.inl (mg 427 (by decide +kernel) (by decide +kernel))
theorem lkL_39 : lOk RL 39 yX6_wheel := Or.inl (mg 860 (by decide +kernel) (by decide +kernel))
theorem lkL_40 : lOk RL 40 yX5_alter := Or.inl (mg 444 (by decide +kernel) (by decide +kernel))
theorem lkL_44 : lOk RL 44 yX6_alter := Or.inl (mg 872 (by decide +kernel) (by decide +kernel))
theorem lkL_45 : lOk RL 45 yX5_add := Or.inl (mg 465 (by decide +kernel) (by decide +kernel))
theorem lkL_48 : lOk RL 48 yX6_add := Or.inl (mg 887 (by decide +kernel) (by decide +kernel))
theorem lkL_49 : lOk RL 49 yX5_cut := Or.inl (mg 470 (by decide +kernel) (by decide +kernel))
theorem lkL_52 : lOk RL 52 yX6_cut := Or.inl (mg 891 (by decide +kernel) (by decide +kernel))
theorem lkL_53 : lOk RL 53 yX5_turn := Or.inl (mg 474 (by decide +kernel) (by decide +kernel))
theorem lkL_56 : lOk RL 56 yX6_turn := Or.inl (mg 895 (by decide +kernel) (by decide +kernel))
theorem lkL_57 : lOk RL 57 yX5_clear := Or.inl (mg 483 (by decide +kernel) (by decide +kernel))
theorem lkL_60 : lOk RL 60 yX6_clear := Or.inl (mg 903 (by decide +kernel) (by decide +kernel))
theorem lkL_61 : lOk RL 61 yX5_pushes := Or.inl (mg 487 (by decide +kernel) (by decide +kernel))
theorem lkL_64 : lOk RL 64 yX6_pushes := Or.inl (mg 907 (by decide +kernel) (by decide +kernel))
theorem lkL_65 : lOk RL 65 yX5_runs := Or.inl (mg 501 (by decide +kernel) (by decide +kernel))
theorem lkL_68 : lOk RL 68 yX6_runs := Or.inl (mg 917 (by decide +kernel) (by decide +kernel))
theorem lkL_69 : lOk RL 69 yX5_ahead := Or.inl (mg 513 (by decide +kernel) (by decide +kernel))
theorem lkL_72 : lOk RL 72 yX6_ahead := Or.inl (mg 929 (by decide +kernel) (by decide +kernel))
theorem lkL_73 : lOk RL 73 yX5_when := Or.inl (mg 517 (by decide +kernel) (by decide +kernel))
theorem lkL_76 : lOk RL 76 yX6_when := Or.inl (mg 933 (by decide +kernel) (by decide +kernel))
theorem lkL_77 : lOk RL 77 yX5_shows := Or.inl (mg 522 (by decide +kernel) (by decide +kernel))
theorem lkL_80 : lOk RL 80 yX6_shows := Or.inl (mg 945 (by decide +kernel) (by decide +kernel))
theorem lkL_81 : lOk RL 81 yX5_again := Or.inl (mg 526 (by decide +kernel) (by decide +kernel))
theorem lkL_84 : lOk RL 84 yX6_again := Or.inl (mg 949 (by decide +kernel) (by decide +kernel))
theorem lkL_85 : lOk RL 85 yX5_mend := Or.inl (mg 534 (by decide +kernel) (by decide +kernel))
theorem lkL_88 : lOk RL 88 yX6_mend := Or.inl (mg 953 (by decide +kernel) (by decide +kernel))
theorem lkL_89 : lOk RL 89 yX5_swap := Or.inl (mg 547 (by decide +kernel) (by decide +kernel))
theorem lkL_92 : lOk RL 92 yX6_swap := Or.inl (mg 962 (by decide +kernel) (by decide +kernel))
theorem lkL_93 : lOk RL 93 yX5_kind := Or.inl (mg 558 (by decide +kernel) (by decide +kernel))
theorem lkL_96 : lOk RL 96 yX6_kind := Or.inl (mg 966 (by decide +kernel) (by decide +kernel))
theorem lkL_97 : lOk RL 97 yX5_begin := Or.inl (mg 567 (by decide +kernel) (by decide +kernel))
theorem lkL_100 : lOk RL 100 yX6_begin := Or.inl (mg 975 (by decide +kernel) (by decide +kernel))
theorem lkL_101 : lOk RL 101 yX5_file := Or.inl (mg 571 (by decide +kernel) (by decide +kernel))
theorem lkL_104 : lOk RL 104 yX6_file := Or.inl (mg 979 (by decide +kernel) (by decide +kernel))
theorem lkL_105 : lOk RL 105 yX5_luck := Or.inl (mg 575 (by decide +kernel) (by decide +kernel))
theorem lkL_109 : lOk RL 109 yX6_luck := Or.inl (mg 983 (by decide +kernel) (by decide +kernel))
theorem lkL_110 : lOk RL 110 yX5_mean := Or.inl (mg 588 (by decide +kernel) (by decide +kernel))
theorem lkL_114 : lOk RL 114 yX6_mean := Or.inl (mg 997 (by decide +kernel) (by decide +kernel))
theorem lkL_115 : lOk RL 115 yX5_see := Or.inl (mg 592 (by decide +kernel) (by decide +kernel))
theorem lkL_118 : lOk RL 118 yX6_see := Or.inl (mg 1001 (by decide +kernel) (by decide +kernel))
theorem lkL_119 : lOk RL 119 yX5_forget := Or.inl (mg 596 (by decide +kernel) (by decide +kernel))
theorem lkL_122 : lOk RL 122 yX6_forget := Or.inl (mg 1005 (by decide +kernel) (by decide +kernel))
theorem lkL_123 : lOk RL 123 yX5_kinds := Or.inl (mg 600 (by decide +kernel) (by decide +kernel))
theorem lkL_126 : lOk RL 126 yX6_kinds := Or.inl (mg 1009 (by decide +kernel) (by decide +kernel))
theorem lkL_127 : lOk RL 127 yX5_broken := Or.inl (mg 619 (by decide +kernel) (by decide +kernel))
theorem lkL_130 : lOk RL 130 yX6_broken := Or.inl (mg 1017 (by decide +kernel) (by decide +kernel))
theorem lkL_131 : lOk RL 131 yX5_ask := Or.inl (mg 623 (by decide +kernel) (by decide +kernel))
theorem lkL_134 : lOk RL 134 yX6_ask := Or.inl (mg 1025 (by decide +kernel) (by decide +kernel))
theorem lkL_135 : lOk RL 135 yX5_drift := Or.inl (mg 640 (by decide +kernel) (by decide +kernel))
theorem lkL_138 : lOk RL 138 yX6_drift := Or.inl (mg 1033 (by decide +kernel) (by decide +kernel))
theorem lkL_139 : lOk RL 139 yX5_keep := Or.inl (mg 645 (by decide +kernel) (by decide +kernel))
theorem lkL_142 : lOk RL 142 yX6_keep := Or.inl (mg 1038 (by decide +kernel) (by decide +kernel))
theorem lkL_143 : lOk RL 143 yX5_back := Or.inl (mg 649 (by decide +kernel) (by decide +kernel))
theorem lkL_146 : lOk RL 146 yX6_back := Or.inl (mg 1042 (by decide +kernel) (by decide +kernel))
theorem lkL_147 : lOk RL 147 yX5_sheet := Or.inl (mg 653 (by decide +kernel) (by decide +kernel))
theorem lkL_150 : lOk RL 150 yX6_sheet := Or.inl (mg 1046 (by decide +kernel) (by decide +kernel))
theorem lkL_151 : lOk RL 151 yX5_lay := Or.inl (mg 661 (by decide +kernel) (by decide +kernel))
theorem lkL_154 : lOk RL 154 yX6_lay := Or.inl (mg 1050 (by decide +kernel) (by decide +kernel))
theorem lkL_155 : lOk RL 155 yX5_read := Or.inl (mg 674 (by decide +kernel) (by decide +kernel))
theorem lkL_159 : lOk RL 159 yX6_read := Or.inl (mg 1054 (by decide +kernel) (by decide +kernel))
theorem lkL_160 : lOk RL 160 yX5_torn := Or.inl (mg 689 (by decide +kernel) (by decide +kernel))
theorem lkL_163 : lOk RL 163 yX6_torn := Or.inl (mg 1059 (by decide +kernel) (by decide +kernel))
theorem lkL_164 : lOk RL 164 yX5_count := Or.inl (mg 693 (by decide +kernel) (by decide +kernel))
theorem lkL_167 : lOk RL 167 yX6_count := Or.inl (mg 1063 (by decide +kernel) (by decide +kernel))
theorem lkX6_46 : lOk RX6 46 yX6_in := Or.inl (mg 792 (by decide +kernel) (by decide +kernel))
theorem lkX6_69 : lOk RX6 69 yX6_byteAt := Or.inl (mg 807 (by decide +kernel) (by decide +kernel))
theorem lkX6_84 : lOk RX6 84 yX6_fails := Or.inl (mg 815 (by decide +kernel) (by decide +kernel))
theorem lkX6_88 : lOk RX6 88 yX6_step := Or.inl (mg 803 (by decide +kernel) (by decide +kernel))
theorem lkX6_91 : lOk RX6 91 yX6_number := Or.inl (mg 832 (by decide +kernel) (by decide +kernel))
theorem lkX6_95 : lOk RX6 95 yX6_nameHere := Or.inl (mg 823 (by decide +kernel) (by decide +kernel))
theorem lkX6_105 : lOk RX6 105 yX6_readMore := Or.inl (mg 828 (by decide +kernel) (by decide +kernel))
theorem lkX6_108 : lOk RX6 108 yX6_readLine := Or.inl (mg 819 (by decide +kernel) (by decide +kernel))
theorem lkX6_121 : lOk RX6 121 yX6_carriesOn := Or.inl (mg 844 (by decide +kernel) (by decide +kernel))
theorem lkX6_128 : lOk RX6 128 yX6_turnsOn := Or.inl (mg 868 (by decide +kernel) (by decide +kernel))
theorem lkX6_131 : lOk RX6 131 yX6_turnedOn := Or.inl (mg 899 (by decide +kernel) (by decide +kernel))
theorem lkX6_135 : lOk RX6 135 yX6_readsOn := Or.inl (mg 848 (by decide +kernel) (by decide +kernel))
theorem lkX6_138 : lOk RX6 138 yX6_allOn := Or.inl (mg 852 (by decide +kernel) (by decide +kernel))
theorem lkX6_141 : lOk RX6 141 yX6_errorOn := Or.inl (mg 856 (by decide +kernel) (by decide +kernel))
theorem lkX6_144 : lOk RX6 144 yX6_isWheel := Or.inl (mg 864 (by decide +kernel) (by decide +kernel))
theorem lkX6_154 : lOk RX6 154 yX6_isDigit := Or.inl (mg 883 (by decide +kernel) (by decide +kernel))
theorem lkX6_157 : lOk RX6 157 yX6_alters := Or.inl (mg 876 (by decide +kernel) (by decide +kernel))
theorem lkX6_164 : lOk RX6 164 yX6_pushOn := Or.inl (mg 913 (by decide +kernel) (by decide +kernel))
theorem lkX6_167 : lOk RX6 167 yX6_copies := Or.inl (mg 925 (by decide +kernel) (by decide +kernel))
theorem lkX6_176 : lOk RX6 176 yX6_pushesGo := Or.inl (mg 921 (by decide +kernel) (by decide +kernel))
theorem lkX6_179 : lOk RX6 179 yX6_isReading := Or.inl (mg 937 (by decide +kernel) (by decide +kernel))
theorem lkX6_182 : lOk RX6 182 yX6_firstTime := Or.inl (mg 941 (by decide +kernel) (by decide +kernel))
theorem lkX6_187 : lOk RX6 187 yX6_errorBehind := Or.inl (mg 958 (by decide +kernel) (by decide +kernel))
theorem lkX6_191 : lOk RX6 191 yX6_leastAt := Or.inl (mg 970 (by decide +kernel) (by decide +kernel))
theorem lkX6_197 : lOk RX6 197 yX6_lowest := Or.inl (mg 993 (by decide +kernel) (by decide +kernel))
theorem lkX6_203 : lOk RX6 203 yX6_byMisses := Or.inl (mg 989 (by decide +kernel) (by decide +kernel))
theorem lkX6_209 : lOk RX6 209 yX6_isAsSeen := Or.inl (mg 1013 (by decide +kernel) (by decide +kernel))
theorem lkX6_212 : lOk RX6 212 yX6_brokenOf := Or.inl (mg 1021 (by decide +kernel) (by decide +kernel))
theorem lkX6_215 : lOk RX6 215 yX6_worstAt := Or.inl (mg 1029 (by decide +kernel) (by decide +kernel))
theorem lkJ0_335 : lOk RJ0 335 yJ0_coder_7d493 := Or.inl (mg 318 (by decide +kernel) (by decide +kernel))
theorem lkJ0_492 : lOk RJ0 492 yJ0_isLatin1_aae02 := Or.inl (mg 328 (by decide +kernel) (by decide +kernel))
theorem lkJ0_495 : lOk RJ0 495 yJ1_charAt_3b067 := Or.inl (mg 332 (by decide +kernel) (by decide +kernel))
theorem lkJ0_498 : lOk RJ0 498 yJ2_charAt_3b067 := Or.inl (mg 343 (by decide +kernel) (by decide +kernel))
theorem lkJ0_1059 : lOk RJ0 1059 yJ3_checkIndex_8e157 := Or.inl (mg 340 (by decide +kernel) (by decide +kernel))
theorem lkJ1_9 : lOk RJ1 9 yJ0_checkIndex_df160 := Or.inl (mg 335 (by decide +kernel) (by decide +kernel))
theorem lkJ2_48 : lOk RJ2 48 yJ2_length_9d52b := Or.inl (mg 349 (by decide +kernel) (by decide +kernel))
theorem lkJ2_67 : lOk RJ2 67 yJ2_checkIndex_2214a := Or.inl (mg 346 (by decide +kernel) (by decide +kernel))
theorem lkJ2_71 : lOk RJ2 71 yJ2_getChar_3b067 := Or.inl (mg 353 (by decide +kernel) (by decide +kernel))
theorem lkJ2_414 : lOk RJ2 414 yJ0_checkIndex_df160 := Or.inl (mg 352 (by decide +kernel) (by decide +kernel))
-- link J3 95?
theorem fX5_10 {M : PM} (h : (pmY M).cls = RX5) : fOk M 10 5 0 := by
  refine ⟨RX5, TX5, 12, rfl, by decide, rfl, inG5, ?_⟩
  rw [h]
  exact Or.inl (mg 231 (by decide +kernel) (by decide +kernel))
theorem fX5_16 {M : PM} (h : (pmY M).cls = RX5) : fOk M 16 5 1 := by
  refine ⟨RX5, TX5, 12, rfl, by decide, rfl, inG5, ?_⟩
  rw [h]
  exact Or.inl (mg 232 (by decide +kernel) (by decide +kernel))
theorem fX5_19 {M : PM} (h : (pmY M).cls = RX5) : fOk M 19 5 2 := by
  refine ⟨RX5, TX5, 12, rfl, by decide, rfl, inG5, ?_⟩
  rw [h]
  exact Or.inl (mg 233 (by decide +kernel) (by decide +kernel))
theorem fX5_23 {M : PM} (h : (pmY M).cls = RX5) : fOk M 23 5 3 := by
  refine ⟨RX5, TX5, 12, rfl, by decide, rfl, inG5, ?_⟩
  rw [h]
  exact Or.inl (mg 234 (by decide +kernel) (by decide +kernel))
theorem fX5_30 {M : PM} (h : (pmY M).cls = RX5) : fOk M 30 5 4 := by
  refine ⟨RX5, TX5, 12, rfl, by decide, rfl, inG5, ?_⟩
  rw [h]
  exact Or.inl (mg 235 (by decide +kernel) (by decide +kernel))
theorem fX5_39 {M : PM} (h : (pmY M).cls = RX5) : fOk M 39 5 5 := by
  refine ⟨RX5, TX5, 12, rfl, by decide, rfl, inG5, ?_⟩
  rw [h]
  exact Or.inl (mg 236 (by decide +kernel) (by decide +kernel))
theorem fX5_46 {M : PM} (h : (pmY M).cls = RX5) : fOk M 46 5 6 := by
  refine ⟨RX5, TX5, 12, rfl, by decide, rfl, inG5, ?_⟩
  rw [h]
  exact Or.inl (mg 237 (by decide +kernel) (by decide +kernel))
theorem fX5_53 {M : PM} (h : (pmY M).cls = RX5) : fOk M 53 5 7 := by
  refine ⟨RX5, TX5, 12, rfl, by decide, rfl, inG5, ?_⟩
  rw [h]
  exact Or.inl (mg 238 (by decide +kernel) (by decide +kernel))
theorem fX5_57 {M : PM} (h : (pmY M).cls = RX5) : fOk M 57 5 8 := by
  refine ⟨RX5, TX5, 12, rfl, by decide, rfl, inG5, ?_⟩
  rw [h]
  exact Or.inl (mg 239 (by decide +kernel) (by decide +kernel))
theorem fX5_61 {M : PM} (h : (pmY M).cls = RX5) : fOk M 61 5 9 := by
  refine ⟨RX5, TX5, 12, rfl, by decide, rfl, inG5, ?_⟩
  rw [h]
  exact Or.inl (mg 240 (by decide +kernel) (by decide +kernel))
theorem fX5_65 {M : PM} (h : (pmY M).cls = RX5) : fOk M 65 5 10 := by
  refine ⟨RX5, TX5, 12, rfl, by decide, rfl, inG5, ?_⟩
  rw [h]
  exact Or.inl (mg 241 (by decide +kernel) (by decide +kernel))
theorem fX5_71 {M : PM} (h : (pmY M).cls = RX5) : fOk M 71 5 11 := by
  refine ⟨RX5, TX5, 12, rfl, by decide, rfl, inG5, ?_⟩
  rw [h]
  exact Or.inl (mg 242 (by decide +kernel) (by decide +kernel))
theorem fX5_78 {M : PM} (h : (pmY M).cls = RX5) : fOk M 78 3 1 := by
  refine ⟨RX3, TX3, 2, rfl, by decide, rfl, inG3, ?_⟩
  rw [h]
  exact Or.inr ⟨"WheelCount", mn 140 (by decide +kernel) (by decide +kernel)⟩
theorem fX5_81 {M : PM} (h : (pmY M).cls = RX5) : fOk M 81 3 0 := by
  refine ⟨RX3, TX3, 2, rfl, by decide, rfl, inG3, ?_⟩
  rw [h]
  exact Or.inr ⟨"WheelCount", mn 138 (by decide +kernel) (by decide +kernel)⟩
theorem fX5_89 {M : PM} (h : (pmY M).cls = RX5) : fOk M 89 4 2 := by
  refine ⟨RX4, TX4, 9, rfl, by decide, rfl, inG4, ?_⟩
  rw [h]
  exact Or.inr ⟨"WheelCount", mn 158 (by decide +kernel) (by decide +kernel)⟩
theorem fX5_96 {M : PM} (h : (pmY M).cls = RX5) : fOk M 96 1 0 := by
  refine ⟨RX1, TX1, 3, rfl, by decide, rfl, inG1, ?_⟩
  rw [h]
  exact Or.inr ⟨"WheelCount", mn 193 (by decide +kernel) (by decide +kernel)⟩
theorem fX5_99 {M : PM} (h : (pmY M).cls = RX5) : fOk M 99 4 3 := by
  refine ⟨RX4, TX4, 9, rfl, by decide, rfl, inG4, ?_⟩
  rw [h]
  exact Or.inr ⟨"WheelCount", mn 161 (by decide +kernel) (by decide +kernel)⟩
theorem fX5_102 {M : PM} (h : (pmY M).cls = RX5) : fOk M 102 4 1 := by
  refine ⟨RX4, TX4, 9, rfl, by decide, rfl, inG4, ?_⟩
  rw [h]
  exact Or.inr ⟨"WheelCount", mn 157 (by decide +kernel) (by decide +kernel)⟩
theorem fX5_105 {M : PM} (h : (pmY M).cls = RX5) : fOk M 105 0 0 := by
  refine ⟨RX0, TX0, 7, rfl, by decide, rfl, inG0, ?_⟩
  rw [h]
  exact Or.inr ⟨"WheelCount", mn 102 (by decide +kernel) (by decide +kernel)⟩
theorem fX5_106 {M : PM} (h : (pmY M).cls = RX5) : fOk M 106 0 1 := by
  refine ⟨RX0, TX0, 7, rfl, by decide, rfl, inG0, ?_⟩
  rw [h]
  exact Or.inr ⟨"WheelCount", mn 104 (by decide +kernel) (by decide +kernel)⟩
theorem fX5_146 {M : PM} (h : (pmY M).cls = RX5) : fOk M 146 0 5 := by
  refine ⟨RX0, TX0, 7, rfl, by decide, rfl, inG0, ?_⟩
  rw [h]
  exact Or.inr ⟨"WheelCount", mn 112 (by decide +kernel) (by decide +kernel)⟩
theorem fX5_165 {M : PM} (h : (pmY M).cls = RX5) : fOk M 165 0 2 := by
  refine ⟨RX0, TX0, 7, rfl, by decide, rfl, inG0, ?_⟩
  rw [h]
  exact Or.inr ⟨"WheelCount", mn 107 (by decide +kernel) (by decide +kernel)⟩
theorem fX5_197 {M : PM} (h : (pmY M).cls = RX5) : fOk M 197 1 1 := by
  refine ⟨RX1, TX1, 3, rfl, by decide, rfl, inG1, ?_⟩
  rw [h]
  exact Or.inr ⟨"WheelCount", mn 195 (by decide +kernel) (by decide +kernel)⟩
theorem fX5_200 {M : PM} (h : (pmY M).cls = RX5) : fOk M 200 1 2 := by
  refine ⟨RX1, TX1, 3, rfl, by decide, rfl, inG1, ?_⟩
  rw [h]
  exact Or.inr ⟨"WheelCount", mn 197 (by decide +kernel) (by decide +kernel)⟩
theorem fX5_206 {M : PM} (h : (pmY M).cls = RX5) : fOk M 206 0 4 := by
  refine ⟨RX0, TX0, 7, rfl, by decide, rfl, inG0, ?_⟩
  rw [h]
  exact Or.inr ⟨"WheelCount", mn 110 (by decide +kernel) (by decide +kernel)⟩
theorem fX5_226 {M : PM} (h : (pmY M).cls = RX5) : fOk M 226 2 1 := by
  refine ⟨RX2, TX2, 4, rfl, by decide, rfl, inG2, ?_⟩
  rw [h]
  exact Or.inr ⟨"WheelCount", mn 215 (by decide +kernel) (by decide +kernel)⟩
theorem fX5_238 {M : PM} (h : (pmY M).cls = RX5) : fOk M 238 2 3 := by
  refine ⟨RX2, TX2, 4, rfl, by decide, rfl, inG2, ?_⟩
  rw [h]
  exact Or.inr ⟨"WheelCount", mn 219 (by decide +kernel) (by decide +kernel)⟩
theorem fX5_245 {M : PM} (h : (pmY M).cls = RX5) : fOk M 245 2 0 := by
  refine ⟨RX2, TX2, 4, rfl, by decide, rfl, inG2, ?_⟩
  rw [h]
  exact Or.inr ⟨"WheelCount", mn 213 (by decide +kernel) (by decide +kernel)⟩
theorem fX5_249 {M : PM} (h : (pmY M).cls = RX5) : fOk M 249 2 2 := by
  refine ⟨RX2, TX2, 4, rfl, by decide, rfl, inG2, ?_⟩
  rw [h]
  exact Or.inr ⟨"WheelCount", mn 217 (by decide +kernel) (by decide +kernel)⟩
theorem fX0_9 {M : PM} (h : (pmY M).cls = RX0) : fOk M 9 0 3 := by
  refine ⟨RX0, TX0, 7, rfl, by decide, rfl, inG0, ?_⟩
  rw [h]
  exact Or.inl (mg 108 (by decide +kernel) (by decide +kernel))
theorem fX0_15 {M : PM} (h : (pmY M).cls = RX0) : fOk M 15 0 4 := by
  refine ⟨RX0, TX0, 7, rfl, by decide, rfl, inG0, ?_⟩
  rw [h]
  exact Or.inl (mg 109 (by decide +kernel) (by decide +kernel))
theorem fX0_18 {M : PM} (h : (pmY M).cls = RX0) : fOk M 18 0 5 := by
  refine ⟨RX0, TX0, 7, rfl, by decide, rfl, inG0, ?_⟩
  rw [h]
  exact Or.inl (mg 111 (by decide +kernel) (by decide +kernel))
theorem fX0_21 {M : PM} (h : (pmY M).cls = RX0) : fOk M 21 0 6 := by
  refine ⟨RX0, TX0, 7, rfl, by decide, rfl, inG0, ?_⟩
  rw [h]
  exact Or.inl (mg 113 (by decide +kernel) (by decide +kernel))
theorem fX0_24 {M : PM} (h : (pmY M).cls = RX0) : fOk M 24 0 0 := by
  refine ⟨RX0, TX0, 7, rfl, by decide, rfl, inG0, ?_⟩
  rw [h]
  exact Or.inl (mg 101 (by decide +kernel) (by decide +kernel))
theorem fX0_51 {M : PM} (h : (pmY M).cls = RX0) : fOk M 51 0 1 := by
  refine ⟨RX0, TX0, 7, rfl, by decide, rfl, inG0, ?_⟩
  rw [h]
  exact Or.inl (mg 105 (by decide +kernel) (by decide +kernel))
theorem fX0_54 {M : PM} (h : (pmY M).cls = RX0) : fOk M 54 0 2 := by
  refine ⟨RX0, TX0, 7, rfl, by decide, rfl, inG0, ?_⟩
  rw [h]
  exact Or.inl (mg 106 (by decide +kernel) (by decide +kernel))
theorem fX1_9 {M : PM} (h : (pmY M).cls = RX1) : fOk M 9 1 1 := by
  refine ⟨RX1, TX1, 3, rfl, by decide, rfl, inG1, ?_⟩
  rw [h]
  exact Or.inl (mg 194 (by decide +kernel) (by decide +kernel))
theorem fX1_15 {M : PM} (h : (pmY M).cls = RX1) : fOk M 15 1 2 := by
  refine ⟨RX1, TX1, 3, rfl, by decide, rfl, inG1, ?_⟩
  rw [h]
  exact Or.inl (mg 196 (by decide +kernel) (by decide +kernel))
theorem fX1_18 {M : PM} (h : (pmY M).cls = RX1) : fOk M 18 1 0 := by
  refine ⟨RX1, TX1, 3, rfl, by decide, rfl, inG1, ?_⟩
  rw [h]
  exact Or.inl (mg 192 (by decide +kernel) (by decide +kernel))
theorem fX2_9 {M : PM} (h : (pmY M).cls = RX2) : fOk M 9 2 3 := by
  refine ⟨RX2, TX2, 4, rfl, by decide, rfl, inG2, ?_⟩
  rw [h]
  exact Or.inl (mg 218 (by decide +kernel) (by decide +kernel))
theorem fX2_13 {M : PM} (h : (pmY M).cls = RX2) : fOk M 13 2 0 := by
  refine ⟨RX2, TX2, 4, rfl, by decide, rfl, inG2, ?_⟩
  rw [h]
  exact Or.inl (mg 212 (by decide +kernel) (by decide +kernel))
theorem fX2_17 {M : PM} (h : (pmY M).cls = RX2) : fOk M 17 2 1 := by
  refine ⟨RX2, TX2, 4, rfl, by decide, rfl, inG2, ?_⟩
  rw [h]
  exact Or.inl (mg 214 (by decide +kernel) (by decide +kernel))
theorem fX2_21 {M : PM} (h : (pmY M).cls = RX2) : fOk M 21 2 2 := by
  refine ⟨RX2, TX2, 4, rfl, by decide, rfl, inG2, ?_⟩
  rw [h]
  exact Or.inl (mg 216 (by decide +kernel) (by decide +kernel))
theorem fX4_15 {M : PM} (h : (pmY M).cls = RX4) : fOk M 15 4 0 := by
  refine ⟨RX4, TX4, 9, rfl, by decide, rfl, inG4, ?_⟩
  rw [h]
  exact Or.inl (mg 155 (by decide +kernel) (by decide +kernel))
theorem fX4_19 {M : PM} (h : (pmY M).cls = RX4) : fOk M 19 0 0 := by
  refine ⟨RX0, TX0, 7, rfl, by decide, rfl, inG0, ?_⟩
  rw [h]
  exact Or.inr ⟨"WheelCount", mn 100 (by decide +kernel) (by decide +kernel)⟩
theorem fX4_27 {M : PM} (h : (pmY M).cls = RX4) : fOk M 27 4 3 := by
  refine ⟨RX4, TX4, 9, rfl, by decide, rfl, inG4, ?_⟩
  rw [h]
  exact Or.inl (mg 160 (by decide +kernel) (by decide +kernel))
theorem fX4_30 {M : PM} (h : (pmY M).cls = RX4) : fOk M 30 4 4 := by
  refine ⟨RX4, TX4, 9, rfl, by decide, rfl, inG4, ?_⟩
  rw [h]
  exact Or.inl (mg 162 (by decide +kernel) (by decide +kernel))
theorem fX4_34 {M : PM} (h : (pmY M).cls = RX4) : fOk M 34 4 7 := by
  refine ⟨RX4, TX4, 9, rfl, by decide, rfl, inG4, ?_⟩
  rw [h]
  exact Or.inl (mg 165 (by decide +kernel) (by decide +kernel))
theorem fX4_37 {M : PM} (h : (pmY M).cls = RX4) : fOk M 37 3 1 := by
  refine ⟨RX3, TX3, 2, rfl, by decide, rfl, inG3, ?_⟩
  rw [h]
  exact Or.inr ⟨"WheelCount", mn 141 (by decide +kernel) (by decide +kernel)⟩
theorem fX4_46 {M : PM} (h : (pmY M).cls = RX4) : fOk M 46 4 5 := by
  refine ⟨RX4, TX4, 9, rfl, by decide, rfl, inG4, ?_⟩
  rw [h]
  exact Or.inl (mg 163 (by decide +kernel) (by decide +kernel))
theorem fX4_78 {M : PM} (h : (pmY M).cls = RX4) : fOk M 78 4 8 := by
  refine ⟨RX4, TX4, 9, rfl, by decide, rfl, inG4, ?_⟩
  rw [h]
  exact Or.inl (mg 166 (by decide +kernel) (by decide +kernel))
theorem fX4_92 {M : PM} (h : (pmY M).cls = RX4) : fOk M 92 4 6 := by
  refine ⟨RX4, TX4, 9, rfl, by decide, rfl, inG4, ?_⟩
  rw [h]
  exact Or.inl (mg 164 (by decide +kernel) (by decide +kernel))
theorem fX4_95 {M : PM} (h : (pmY M).cls = RX4) : fOk M 95 3 0 := by
  refine ⟨RX3, TX3, 2, rfl, by decide, rfl, inG3, ?_⟩
  rw [h]
  exact Or.inr ⟨"WheelCount", mn 139 (by decide +kernel) (by decide +kernel)⟩
theorem fX6_7 {M : PM} (h : (pmY M).cls = RX6) : fOk M 7 6 0 := by
  refine ⟨RX6, TX6, 25, rfl, by decide, rfl, inG6, ?_⟩
  rw [h]
  exact Or.inl (mg 711 (by decide +kernel) (by decide +kernel))
theorem fX6_13 {M : PM} (h : (pmY M).cls = RX6) : fOk M 13 6 1 := by
  refine ⟨RX6, TX6, 25, rfl, by decide, rfl, inG6, ?_⟩
  rw [h]
  exact Or.inl (mg 712 (by decide +kernel) (by decide +kernel))
theorem fX6_16 {M : PM} (h : (pmY M).cls = RX6) : fOk M 16 6 3 := by
  refine ⟨RX6, TX6, 25, rfl, by decide, rfl, inG6, ?_⟩
  rw [h]
  exact Or.inl (mg 714 (by decide +kernel) (by decide +kernel))
theorem fX6_19 {M : PM} (h : (pmY M).cls = RX6) : fOk M 19 6 12 := by
  refine ⟨RX6, TX6, 25, rfl, by decide, rfl, inG6, ?_⟩
  rw [h]
  exact Or.inl (mg 723 (by decide +kernel) (by decide +kernel))
theorem fX6_22 {M : PM} (h : (pmY M).cls = RX6) : fOk M 22 6 13 := by
  refine ⟨RX6, TX6, 25, rfl, by decide, rfl, inG6, ?_⟩
  rw [h]
  exact Or.inl (mg 724 (by decide +kernel) (by decide +kernel))
theorem fX6_25 {M : PM} (h : (pmY M).cls = RX6) : fOk M 25 6 17 := by
  refine ⟨RX6, TX6, 25, rfl, by decide, rfl, inG6, ?_⟩
  rw [h]
  exact Or.inl (mg 728 (by decide +kernel) (by decide +kernel))
theorem fX6_28 {M : PM} (h : (pmY M).cls = RX6) : fOk M 28 6 19 := by
  refine ⟨RX6, TX6, 25, rfl, by decide, rfl, inG6, ?_⟩
  rw [h]
  exact Or.inl (mg 730 (by decide +kernel) (by decide +kernel))
theorem fX6_31 {M : PM} (h : (pmY M).cls = RX6) : fOk M 31 6 20 := by
  refine ⟨RX6, TX6, 25, rfl, by decide, rfl, inG6, ?_⟩
  rw [h]
  exact Or.inl (mg 731 (by decide +kernel) (by decide +kernel))
theorem fX6_35 {M : PM} (h : (pmY M).cls = RX6) : fOk M 35 6 21 := by
  refine ⟨RX6, TX6, 25, rfl, by decide, rfl, inG6, ?_⟩
  rw [h]
  exact Or.inl (mg 732 (by decide +kernel) (by decide +kernel))
theorem fX6_38 {M : PM} (h : (pmY M).cls = RX6) : fOk M 38 6 22 := by
  refine ⟨RX6, TX6, 25, rfl, by decide, rfl, inG6, ?_⟩
  rw [h]
  exact Or.inl (mg 733 (by decide +kernel) (by decide +kernel))
theorem fX6_41 {M : PM} (h : (pmY M).cls = RX6) : fOk M 41 6 23 := by
  refine ⟨RX6, TX6, 25, rfl, by decide, rfl, inG6, ?_⟩
  rw [h]
  exact Or.inl (mg 734 (by decide +kernel) (by decide +kernel))
theorem fX6_50 {M : PM} (h : (pmY M).cls = RX6) : fOk M 50 6 4 := by
  refine ⟨RX6, TX6, 25, rfl, by decide, rfl, inG6, ?_⟩
  rw [h]
  exact Or.inl (mg 715 (by decide +kernel) (by decide +kernel))
theorem fX6_54 {M : PM} (h : (pmY M).cls = RX6) : fOk M 54 6 6 := by
  refine ⟨RX6, TX6, 25, rfl, by decide, rfl, inG6, ?_⟩
  rw [h]
  exact Or.inl (mg 717 (by decide +kernel) (by decide +kernel))
theorem fX6_57 {M : PM} (h : (pmY M).cls = RX6) : fOk M 57 6 9 := by
  refine ⟨RX6, TX6, 25, rfl, by decide, rfl, inG6, ?_⟩
  rw [h]
  exact Or.inl (mg 720 (by decide +kernel) (by decide +kernel))
theorem fX6_60 {M : PM} (h : (pmY M).cls = RX6) : fOk M 60 6 7 := by
  refine ⟨RX6, TX6, 25, rfl, by decide, rfl, inG6, ?_⟩
  rw [h]
  exact Or.inl (mg 718 (by decide +kernel) (by decide +kernel))
theorem fX6_63 {M : PM} (h : (pmY M).cls = RX6) : fOk M 63 6 10 := by
  refine ⟨RX6, TX6, 25, rfl, by decide, rfl, inG6, ?_⟩
  rw [h]
  exact Or.inl (mg 721 (by decide +kernel) (by decide +kernel))
theorem fX6_66 {M : PM} (h : (pmY M).cls = RX6) : fOk M 66 6 8 := by
  refine ⟨RX6, TX6, 25, rfl, by decide, rfl, inG6, ?_⟩
  rw [h]
  exact Or.inl (mg 719 (by decide +kernel) (by decide +kernel))
theorem fX6_73 {M : PM} (h : (pmY M).cls = RX6) : fOk M 73 6 11 := by
  refine ⟨RX6, TX6, 25, rfl, by decide, rfl, inG6, ?_⟩
  rw [h]
  exact Or.inl (mg 722 (by decide +kernel) (by decide +kernel))
theorem fX6_101 {M : PM} (h : (pmY M).cls = RX6) : fOk M 101 6 2 := by
  refine ⟨RX6, TX6, 25, rfl, by decide, rfl, inG6, ?_⟩
  rw [h]
  exact Or.inl (mg 713 (by decide +kernel) (by decide +kernel))
theorem fX6_111 {M : PM} (h : (pmY M).cls = RX6) : fOk M 111 6 5 := by
  refine ⟨RX6, TX6, 25, rfl, by decide, rfl, inG6, ?_⟩
  rw [h]
  exact Or.inl (mg 716 (by decide +kernel) (by decide +kernel))
theorem fX6_114 {M : PM} (h : (pmY M).cls = RX6) : fOk M 114 6 18 := by
  refine ⟨RX6, TX6, 25, rfl, by decide, rfl, inG6, ?_⟩
  rw [h]
  exact Or.inl (mg 729 (by decide +kernel) (by decide +kernel))
theorem fX6_125 {M : PM} (h : (pmY M).cls = RX6) : fOk M 125 6 14 := by
  refine ⟨RX6, TX6, 25, rfl, by decide, rfl, inG6, ?_⟩
  rw [h]
  exact Or.inl (mg 725 (by decide +kernel) (by decide +kernel))
theorem fX6_170 {M : PM} (h : (pmY M).cls = RX6) : fOk M 170 6 16 := by
  refine ⟨RX6, TX6, 25, rfl, by decide, rfl, inG6, ?_⟩
  rw [h]
  exact Or.inl (mg 727 (by decide +kernel) (by decide +kernel))
theorem fX6_173 {M : PM} (h : (pmY M).cls = RX6) : fOk M 173 6 15 := by
  refine ⟨RX6, TX6, 25, rfl, by decide, rfl, inG6, ?_⟩
  rw [h]
  exact Or.inl (mg 726 (by decide +kernel) (by decide +kernel))
theorem fX6_221 {M : PM} (h : (pmY M).cls = RX6) : fOk M 221 6 24 := by
  refine ⟨RX6, TX6, 25, rfl, by decide, rfl, inG6, ?_⟩
  rw [h]
  exact Or.inl (mg 735 (by decide +kernel) (by decide +kernel))
theorem fJ0_9 {M : PM} (h : (pmY M).cls = RJ0) : sfOk M 9 "value" "[B" := by
  unfold sfOk
  rw [h]
  exact mg 1067 (by decide +kernel) (by decide +kernel)
theorem fJ0_15 {M : PM} (h : (pmY M).cls = RJ0) : sfOk M 15 "coder" "B" := by
  unfold sfOk
  rw [h]
  exact mg 1068 (by decide +kernel) (by decide +kernel)
theorem pX5_57 {M : PM} (h : (pmY M).cls = RX5) : pOk M 57 5 8 false := by
  refine ⟨RX5, TX5, 12, tyX5, rfl, by decide, rfl, inG5, ?_, tyX5_ok, nmX5, rfl, rfl⟩
  rw [h]
  exact Or.inl (mg 239 (by decide +kernel) (by decide +kernel))
theorem pX5_78 {M : PM} (h : (pmY M).cls = RX5) : pOk M 78 3 1 false := by
  refine ⟨RX3, TX3, 2, tyX3, rfl, by decide, rfl, inG3, ?_, tyX3_ok, nmX3, rfl, rfl⟩
  rw [h]
  exact Or.inr ⟨"WheelCount", mn 140 (by decide +kernel) (by decide +kernel)⟩
theorem pX5_96 {M : PM} (h : (pmY M).cls = RX5) : pOk M 96 1 0 false := by
  refine ⟨RX1, TX1, 3, tyX1, rfl, by decide, rfl, inG1, ?_, tyX1_ok, nmX1, rfl, rfl⟩
  rw [h]
  exact Or.inr ⟨"WheelCount", mn 193 (by decide +kernel) (by decide +kernel)⟩
theorem pX5_105 {M : PM} (h : (pmY M).cls = RX5) : pOk M 105 0 0 false := by
  refine ⟨RX0, TX0, 7, tyX0, rfl, by decide, rfl, inG0, ?_, tyX0_ok, nmX0, rfl, rfl⟩
  rw [h]
  exact Or.inr ⟨"WheelCount", mn 102 (by decide +kernel) (by decide +kernel)⟩
theorem pX5_106 {M : PM} (h : (pmY M).cls = RX5) : pOk M 106 0 1 false := by
  refine ⟨RX0, TX0, 7, tyX0, rfl, by decide, rfl, inG0, ?_, tyX0_ok, nmX0, rfl, rfl⟩
  rw [h]
  exact Or.inr ⟨"WheelCount", mn 104 (by decide +kernel) (by decide +kernel)⟩
theorem pX0_24 {M : PM} (h : (pmY M).cls = RX0) : pOk M 24 0 0 false := by
  refine ⟨RX0, TX0, 7, tyX0, rfl, by decide, rfl, inG0, ?_, tyX0_ok, nmX0, rfl, rfl⟩
  rw [h]
  exact Or.inl (mg 101 (by decide +kernel) (by decide +kernel))
theorem pX0_51 {M : PM} (h : (pmY M).cls = RX0) : pOk M 51 0 1 false := by
  refine ⟨RX0, TX0, 7, tyX0, rfl, by decide, rfl, inG0, ?_, tyX0_ok, nmX0, rfl, rfl⟩
  rw [h]
  exact Or.inl (mg 105 (by decide +kernel) (by decide +kernel))
theorem pX0_54 {M : PM} (h : (pmY M).cls = RX0) : pOk M 54 0 2 false := by
  refine ⟨RX0, TX0, 7, tyX0, rfl, by decide, rfl, inG0, ?_, tyX0_ok, nmX0, rfl, rfl⟩
  rw [h]
  exact Or.inl (mg 106 (by decide +kernel) (by decide +kernel))
theorem pX2_13 {M : PM} (h : (pmY M).cls = RX2) : pOk M 13 2 0 true := by
  refine ⟨RX2, TX2, 4, tyX2, rfl, by decide, rfl, inG2, ?_, tyX2_ok, nmX2, rfl, rfl⟩
  rw [h]
  exact Or.inl (mg 212 (by decide +kernel) (by decide +kernel))
theorem pX2_17 {M : PM} (h : (pmY M).cls = RX2) : pOk M 17 2 1 false := by
  refine ⟨RX2, TX2, 4, tyX2, rfl, by decide, rfl, inG2, ?_, tyX2_ok, nmX2, rfl, rfl⟩
  rw [h]
  exact Or.inl (mg 214 (by decide +kernel) (by decide +kernel))
theorem pX2_21 {M : PM} (h : (pmY M).cls = RX2) : pOk M 21 2 2 false := by
  refine ⟨RX2, TX2, 4, tyX2, rfl, by decide, rfl, inG2, ?_, tyX2_ok, nmX2, rfl, rfl⟩
  rw [h]
  exact Or.inl (mg 216 (by decide +kernel) (by decide +kernel))
theorem pX4_11 {M : PM} (h : (pmY M).cls = RX4) : pOk M 11 4 1 false := by
  refine ⟨RX4, TX4, 9, tyX4, rfl, by decide, rfl, inG4, ?_, tyX4_ok, nmX4, rfl, rfl⟩
  rw [h]
  exact Or.inl (mg 156 (by decide +kernel) (by decide +kernel))
theorem pX4_19 {M : PM} (h : (pmY M).cls = RX4) : pOk M 19 0 0 false := by
  refine ⟨RX0, TX0, 7, tyX0, rfl, by decide, rfl, inG0, ?_, tyX0_ok, nmX0, rfl, rfl⟩
  rw [h]
  exact Or.inr ⟨"WheelCount", mn 100 (by decide +kernel) (by decide +kernel)⟩
theorem pX4_24 {M : PM} (h : (pmY M).cls = RX4) : pOk M 24 0 1 false := by
  refine ⟨RX0, TX0, 7, tyX0, rfl, by decide, rfl, inG0, ?_, tyX0_ok, nmX0, rfl, rfl⟩
  rw [h]
  exact Or.inr ⟨"WheelCount", mn 103 (by decide +kernel) (by decide +kernel)⟩
theorem pX4_27 {M : PM} (h : (pmY M).cls = RX4) : pOk M 27 4 3 false := by
  refine ⟨RX4, TX4, 9, tyX4, rfl, by decide, rfl, inG4, ?_, tyX4_ok, nmX4, rfl, rfl⟩
  rw [h]
  exact Or.inl (mg 160 (by decide +kernel) (by decide +kernel))
theorem pX4_30 {M : PM} (h : (pmY M).cls = RX4) : pOk M 30 4 4 true := by
  refine ⟨RX4, TX4, 9, tyX4, rfl, by decide, rfl, inG4, ?_, tyX4_ok, nmX4, rfl, rfl⟩
  rw [h]
  exact Or.inl (mg 162 (by decide +kernel) (by decide +kernel))
theorem pX4_34 {M : PM} (h : (pmY M).cls = RX4) : pOk M 34 4 7 false := by
  refine ⟨RX4, TX4, 9, tyX4, rfl, by decide, rfl, inG4, ?_, tyX4_ok, nmX4, rfl, rfl⟩
  rw [h]
  exact Or.inl (mg 165 (by decide +kernel) (by decide +kernel))
theorem pX4_46 {M : PM} (h : (pmY M).cls = RX4) : pOk M 46 4 5 false := by
  refine ⟨RX4, TX4, 9, tyX4, rfl, by decide, rfl, inG4, ?_, tyX4_ok, nmX4, rfl, rfl⟩
  rw [h]
  exact Or.inl (mg 163 (by decide +kernel) (by decide +kernel))
theorem pX4_78 {M : PM} (h : (pmY M).cls = RX4) : pOk M 78 4 8 false := by
  refine ⟨RX4, TX4, 9, tyX4, rfl, by decide, rfl, inG4, ?_, tyX4_ok, nmX4, rfl, rfl⟩
  rw [h]
  exact Or.inl (mg 166 (by decide +kernel) (by decide +kernel))
theorem pX4_92 {M : PM} (h : (pmY M).cls = RX4) : pOk M 92 4 6 false := by
  refine ⟨RX4, TX4, 9, tyX4, rfl, by decide, rfl, inG4, ?_, tyX4_ok, nmX4, rfl, rfl⟩
  rw [h]
  exact Or.inl (mg 164 (by decide +kernel) (by decide +kernel))
theorem pX4_122 {M : PM} (h : (pmY M).cls = RX4) : pOk M 122 4 2 false := by
  refine ⟨RX4, TX4, 9, tyX4, rfl, by decide, rfl, inG4, ?_, tyX4_ok, nmX4, rfl, rfl⟩
  rw [h]
  exact Or.inl (mg 159 (by decide +kernel) (by decide +kernel))
theorem pX6_50 {M : PM} (h : (pmY M).cls = RX6) : pOk M 50 6 4 false := by
  refine ⟨RX6, TX6, 25, tyX6, rfl, by decide, rfl, inG6, ?_, tyX6_ok, nmX6, rfl, rfl⟩
  rw [h]
  exact Or.inl (mg 715 (by decide +kernel) (by decide +kernel))
theorem pX6_54 {M : PM} (h : (pmY M).cls = RX6) : pOk M 54 6 6 false := by
  refine ⟨RX6, TX6, 25, tyX6, rfl, by decide, rfl, inG6, ?_, tyX6_ok, nmX6, rfl, rfl⟩
  rw [h]
  exact Or.inl (mg 717 (by decide +kernel) (by decide +kernel))
theorem pX6_57 {M : PM} (h : (pmY M).cls = RX6) : pOk M 57 6 9 false := by
  refine ⟨RX6, TX6, 25, tyX6, rfl, by decide, rfl, inG6, ?_, tyX6_ok, nmX6, rfl, rfl⟩
  rw [h]
  exact Or.inl (mg 720 (by decide +kernel) (by decide +kernel))
theorem pX6_60 {M : PM} (h : (pmY M).cls = RX6) : pOk M 60 6 7 false := by
  refine ⟨RX6, TX6, 25, tyX6, rfl, by decide, rfl, inG6, ?_, tyX6_ok, nmX6, rfl, rfl⟩
  rw [h]
  exact Or.inl (mg 718 (by decide +kernel) (by decide +kernel))
theorem pX6_63 {M : PM} (h : (pmY M).cls = RX6) : pOk M 63 6 10 false := by
  refine ⟨RX6, TX6, 25, tyX6, rfl, by decide, rfl, inG6, ?_, tyX6_ok, nmX6, rfl, rfl⟩
  rw [h]
  exact Or.inl (mg 721 (by decide +kernel) (by decide +kernel))
theorem pX6_66 {M : PM} (h : (pmY M).cls = RX6) : pOk M 66 6 8 false := by
  refine ⟨RX6, TX6, 25, tyX6, rfl, by decide, rfl, inG6, ?_, tyX6_ok, nmX6, rfl, rfl⟩
  rw [h]
  exact Or.inl (mg 719 (by decide +kernel) (by decide +kernel))
theorem pX6_73 {M : PM} (h : (pmY M).cls = RX6) : pOk M 73 6 11 false := by
  refine ⟨RX6, TX6, 25, tyX6, rfl, by decide, rfl, inG6, ?_, tyX6_ok, nmX6, rfl, rfl⟩
  rw [h]
  exact Or.inl (mg 722 (by decide +kernel) (by decide +kernel))
theorem pX6_101 {M : PM} (h : (pmY M).cls = RX6) : pOk M 101 6 2 true := by
  refine ⟨RX6, TX6, 25, tyX6, rfl, by decide, rfl, inG6, ?_, tyX6_ok, nmX6, rfl, rfl⟩
  rw [h]
  exact Or.inl (mg 713 (by decide +kernel) (by decide +kernel))
theorem pX6_111 {M : PM} (h : (pmY M).cls = RX6) : pOk M 111 6 5 false := by
  refine ⟨RX6, TX6, 25, tyX6, rfl, by decide, rfl, inG6, ?_, tyX6_ok, nmX6, rfl, rfl⟩
  rw [h]
  exact Or.inl (mg 716 (by decide +kernel) (by decide +kernel))
theorem pX6_114 {M : PM} (h : (pmY M).cls = RX6) : pOk M 114 6 18 false := by
  refine ⟨RX6, TX6, 25, tyX6, rfl, by decide, rfl, inG6, ?_, tyX6_ok, nmX6, rfl, rfl⟩
  rw [h]
  exact Or.inl (mg 729 (by decide +kernel) (by decide +kernel))
theorem pX6_125 {M : PM} (h : (pmY M).cls = RX6) : pOk M 125 6 14 false := by
  refine ⟨RX6, TX6, 25, tyX6, rfl, by decide, rfl, inG6, ?_, tyX6_ok, nmX6, rfl, rfl⟩
  rw [h]
  exact Or.inl (mg 725 (by decide +kernel) (by decide +kernel))
theorem pX6_170 {M : PM} (h : (pmY M).cls = RX6) : pOk M 170 6 16 false := by
  refine ⟨RX6, TX6, 25, tyX6, rfl, by decide, rfl, inG6, ?_, tyX6_ok, nmX6, rfl, rfl⟩
  rw [h]
  exact Or.inl (mg 727 (by decide +kernel) (by decide +kernel))
theorem pX6_173 {M : PM} (h : (pmY M).cls = RX6) : pOk M 173 6 15 false := by
  refine ⟨RX6, TX6, 25, tyX6, rfl, by decide, rfl, inG6, ?_, tyX6_ok, nmX6, rfl, rfl⟩
  rw [h]
  exact Or.inl (mg 726 (by decide +kernel) (by decide +kernel))
theorem pX6_221 {M : PM} (h : (pmY M).cls = RX6) : pOk M 221 6 24 false := by
  refine ⟨RX6, TX6, 25, tyX6, rfl, by decide, rfl, inG6, ?_, tyX6_ok, nmX6, rfl, rfl⟩
  rw [h]
  exact Or.inl (mg 735 (by decide +kernel) (by decide +kernel))
theorem kcX5_149 {M : PM} (h : (pmY M).cls = RX5) : kOk M 149 999999 := by
  unfold kOk
  rw [h]
  exact mg 491 (by decide +kernel) (by decide +kernel)
theorem kcX5_168 {M : PM} (h : (pmY M).cls = RX5) : kOk M 168 248831 := by
  unfold kOk
  rw [h]
  exact mg 521 (by decide +kernel) (by decide +kernel)
theorem kcX5_222 {M : PM} (h : (pmY M).cls = RX5) : kOk M 222 1103515245 := by
  unfold kOk
  rw [h]
  exact mg 644 (by decide +kernel) (by decide +kernel)
theorem kcX5_261 {M : PM} (h : (pmY M).cls = RX5) : kOk M 261 2147483647 := by
  unfold kOk
  rw [h]
  exact mg 566 (by decide +kernel) (by decide +kernel)
theorem kcX0_79 {M : PM} (h : (pmY M).cls = RX0) : kOk M 79 999999 := by
  unfold kOk
  rw [h]
  exact mg 688 (by decide +kernel) (by decide +kernel)
theorem kcX6_163 {M : PM} (h : (pmY M).cls = RX6) : kOk M 163 999999 := by
  unfold kOk
  rw [h]
  exact mg 912 (by decide +kernel) (by decide +kernel)
theorem kcX6_190 {M : PM} (h : (pmY M).cls = RX6) : kOk M 190 1000000 := by
  unfold kOk
  rw [h]
  exact mg 974 (by decide +kernel) (by decide +kernel)
theorem kcX6_218 {M : PM} (h : (pmY M).cls = RX6) : kOk M 218 1103515245 := by
  unfold kOk
  rw [h]
  exact mg 1037 (by decide +kernel) (by decide +kernel)
theorem klX5_187 {M : PM} (h : (pmY M).cls = RX5) : kkOk M 187 (-1) := by
  unfold kkOk
  rw [h]
  exact mg 579 (by decide +kernel) (by decide +kernel)
theorem klX5_265 {M : PM} (h : (pmY M).cls = RX5) : kkOk M 265 (10) := by
  unfold kkOk
  rw [h]
  exact mg 584 (by decide +kernel) (by decide +kernel)
theorem klX6_44 {M : PM} (h : (pmY M).cls = RX6) : kkOk M 44 (127) := by
  unfold kkOk
  rw [h]
  exact mg 791 (by decide +kernel) (by decide +kernel)
theorem klX6_76 {M : PM} (h : (pmY M).cls = RX6) : kkOk M 76 (97) := by
  unfold kkOk
  rw [h]
  exact mg 811 (by decide +kernel) (by decide +kernel)
theorem klX6_78 {M : PM} (h : (pmY M).cls = RX6) : kkOk M 78 (122) := by
  unfold kkOk
  rw [h]
  exact mg 812 (by decide +kernel) (by decide +kernel)
theorem klX6_80 {M : PM} (h : (pmY M).cls = RX6) : kkOk M 80 (48) := by
  unfold kkOk
  rw [h]
  exact mg 813 (by decide +kernel) (by decide +kernel)
theorem klX6_82 {M : PM} (h : (pmY M).cls = RX6) : kkOk M 82 (57) := by
  unfold kkOk
  rw [h]
  exact mg 814 (by decide +kernel) (by decide +kernel)
theorem klX6_99 {M : PM} (h : (pmY M).cls = RX6) : kkOk M 99 (4) := by
  unfold kkOk
  rw [h]
  exact mg 827 (by decide +kernel) (by decide +kernel)
theorem klX6_117 {M : PM} (h : (pmY M).cls = RX6) : kkOk M 117 (11) := by
  unfold kkOk
  rw [h]
  exact mg 886 (by decide +kernel) (by decide +kernel)
theorem klX6_119 {M : PM} (h : (pmY M).cls = RX6) : kkOk M 119 (248831) := by
  unfold kkOk
  rw [h]
  exact mg 940 (by decide +kernel) (by decide +kernel)
theorem klX6_148 {M : PM} (h : (pmY M).cls = RX6) : kkOk M 148 (3) := by
  unfold kkOk
  rw [h]
  exact mg 880 (by decide +kernel) (by decide +kernel)
theorem klX6_150 {M : PM} (h : (pmY M).cls = RX6) : kkOk M 150 (2) := by
  unfold kkOk
  rw [h]
  exact mg 881 (by decide +kernel) (by decide +kernel)
theorem klX6_152 {M : PM} (h : (pmY M).cls = RX6) : kkOk M 152 (12) := by
  unfold kkOk
  rw [h]
  exact mg 882 (by decide +kernel) (by decide +kernel)
theorem klX6_161 {M : PM} (h : (pmY M).cls = RX6) : kkOk M 161 (1000) := by
  unfold kkOk
  rw [h]
  exact mg 911 (by decide +kernel) (by decide +kernel)
theorem klX6_185 {M : PM} (h : (pmY M).cls = RX6) : kkOk M 185 (200) := by
  unfold kkOk
  rw [h]
  exact mg 957 (by decide +kernel) (by decide +kernel)
theorem klX6_195 {M : PM} (h : (pmY M).cls = RX6) : kkOk M 195 (10) := by
  unfold kkOk
  rw [h]
  exact mg 987 (by decide +kernel) (by decide +kernel)
theorem klX6_201 {M : PM} (h : (pmY M).cls = RX6) : kkOk M 201 (8) := by
  unfold kkOk
  rw [h]
  exact mg 988 (by decide +kernel) (by decide +kernel)
theorem klX6_207 {M : PM} (h : (pmY M).cls = RX6) : kkOk M 207 (-1) := by
  unfold kkOk
  rw [h]
  exact mg 996 (by decide +kernel) (by decide +kernel)
theorem klX6_219 {M : PM} (h : (pmY M).cls = RX6) : kkOk M 219 (20) := by
  unfold kkOk
  rw [h]
  exact mg 1058 (by decide +kernel) (by decide +kernel)
theorem gsJ0_38 {M : PM} (h : (pmY M).cls = RJ0) : gsOk M 38 "java/lang/String" "COMPACT_STRINGS" "Z" := by
  unfold gsOk
  rw [h]
  exact mg 322 (by decide +kernel) (by decide +kernel)
theorem gsJ0_1053 {M : PM} (h : (pmY M).cls = RJ0) : gsOk M 1053 "jdk/internal/util/Preconditions" "SIOOBE_FORMATTER" "Ljava/util/function/BiFunction;" := by
  unfold gsOk
  rw [h]
  exact mg 338 (by decide +kernel) (by decide +kernel)
theorem gsJ2_44 {M : PM} (h : (pmY M).cls = RJ2) : gsOk M 44 "java/lang/StringUTF16" "$assertionsDisabled" "Z" := by
  unfold gsOk
  rw [h]
  exact mg 356 (by decide +kernel) (by decide +kernel)
theorem gsJ2_59 {M : PM} (h : (pmY M).cls = RJ2) : gsOk M 59 "java/lang/StringUTF16" "HI_BYTE_SHIFT" "I" := by
  unfold gsOk
  rw [h]
  exact mg 358 (by decide +kernel) (by decide +kernel)
theorem gsJ2_63 {M : PM} (h : (pmY M).cls = RJ2) : gsOk M 63 "java/lang/StringUTF16" "LO_BYTE_SHIFT" "I" := by
  unfold gsOk
  rw [h]
  exact mg 360 (by decide +kernel) (by decide +kernel)
end
section
theorem e_iconst' {sc : PSc} {M : PM} {pc : Nat} {lo st : List Value} {S : PS} {Q : PQ} {n : Int} (v : Int32) (h0 : decode (pmB M) pc = .ok (.iconst n, 1)) (hv : Int32.ofInt n = v) (k0 : E sc M (pc + 1) lo (.int v :: st) S Q) : E sc M pc lo st S Q := e_iconst h0 (by rw [hv]; exact k0)
theorem e_bipush' {sc : PSc} {M : PM} {pc : Nat} {lo st : List Value} {S : PS} {Q : PQ} {n : Int} (v : Int32) (h0 : decode (pmB M) pc = .ok (.bipush n, 2)) (hv : (Int8.ofInt n).toInt32 = v) (k0 : E sc M (pc + 2) lo (.int v :: st) S Q) : E sc M pc lo st S Q := e_bipush h0 (by rw [hv]; exact k0)
theorem e_sipush' {sc : PSc} {M : PM} {pc : Nat} {lo st : List Value} {S : PS} {Q : PQ} {n : Int} (v : Int32) (h0 : decode (pmB M) pc = .ok (.sipush n, 3)) (hv : (Int16.ofInt n).toInt32 = v) (k0 : E sc M (pc + 3) lo (.int v :: st) S Q) : E sc M pc lo st S Q := e_sipush h0 (by rw [hv]; exact k0)
theorem e_lconst' {sc : PSc} {M : PM} {pc : Nat} {lo st : List Value} {S : PS} {Q : PQ} {n : Fin 2} (v : Int64) (h0 : decode (pmB M) pc = .ok (.lconst n, 1)) (hv : Int64.ofNat (n : Nat) = v) (k0 : E sc M (pc + 1) lo (.long v :: st) S Q) : E sc M pc lo st S Q := e_lconst h0 (by rw [hv]; exact k0)
theorem e_ldc' {sc : PSc} {M : PM} {pc : Nat} {lo st : List Value} {S : PS} {Q : PQ} {x : Nat} {w : Int32} (v : Int32) (h0 : decode (pmB M) pc = .ok (.ldc x, 2)) (h1 : kOk M x w) (hv : w = v) (k0 : E sc M (pc + 2) lo (.int v :: st) S Q) : E sc M pc lo st S Q := e_ldc h0 h1 (by rw [hv]; exact k0)
theorem e_ldcw' {sc : PSc} {M : PM} {pc : Nat} {lo st : List Value} {S : PS} {Q : PQ} {x : Nat} {w : Int32} (v : Int32) (h0 : decode (pmB M) pc = .ok (.ldc_w x, 3)) (h1 : kOk M x w) (hv : w = v) (k0 : E sc M (pc + 3) lo (.int v :: st) S Q) : E sc M pc lo st S Q := e_ldcw h0 h1 (by rw [hv]; exact k0)
theorem e_iinc' {sc : PSc} {M : PM} {pc : Nat} {lo st : List Value} {S : PS} {Q : PQ} {i : Nat} {n : Int} {x : Int32} (v : Int32) (h0 : decode (pmB M) pc = .ok (.iinc i n, 3)) (h1 : lo[i]? = some (.int x)) (h2 : i < pmL M) (h3 : pre2 lo i = true) (hv : x + Int32.ofInt n = v) (k0 : E sc M (pc + 3) (lo.set i (.int v)) st S Q) : E sc M pc lo st S Q := e_iinc h0 h1 h2 h3 (by rw [hv]; exact k0)
theorem E.st {sc : PSc} {M : PM} {pc : Nat} {lo st st2 : List Value} {S : PS} {Q : PQ} (h : st = st2) (k : E sc M pc lo st2 S Q) : E sc M pc lo st S Q := h ▸ k
theorem E.lo {sc : PSc} {M : PM} {pc : Nat} {lo lo2 st : List Value} {S : PS} {Q : PQ} (h : lo = lo2) (k : E sc M pc lo2 st S Q) : E sc M pc lo st S Q := h ▸ k
theorem E.it {sc : PSc} {M : PM} {pc : Nat} {lo st : List Value} {S : PS} {Q : PQ} {x : Int32} (y : Int32) (h : x = y) (k : E sc M pc lo (.int y :: st) S Q) : E sc M pc lo (.int x :: st) S Q := h ▸ k
theorem E.lt {sc : PSc} {M : PM} {pc : Nat} {lo st : List Value} {S : PS} {Q : PQ} {x : Int64} (y : Int64) (h : x = y) (k : E sc M pc lo (.long y :: st) S Q) : E sc M pc lo (.long x :: st) S Q := h ▸ k
theorem E.nm {sc : PSc} {M : PM} {pc : Nat} {lo st : List Value} {S : PS} {Q : PQ} {x : Int32} (k : ∀ y : Int32, y = x → E sc M pc lo (.int y :: st) S Q) : E sc M pc lo (.int x :: st) S Q := k x rfl
theorem E.Sn {sc : PSc} {M : PM} {pc : Nat} {lo st : List Value} {S : PS} {Q : PQ} (k : ∀ S2 : PS, S2 = S → E sc M pc lo st S2 Q) : E sc M pc lo st S Q := k S rfl
theorem e_callV0 {sc : PSc} {M : PM} {pc : Nat} {lo st : List Value} {S : PS} {Q : PQ} {M' : PM} {x : Nat} {i : Nat}  (h0 : decode (pmB M) pc = .ok (.invokevirtual x, 3)) (h1 : iOk M' 0) (h2 : lOk (pmY M).cls x (pmY M')) (h3 : pmV M' < pmV M) (h4 : rOk i (pmY M').cls) (h7 : (st.map fun v => v.category).sum ≤ 8) (h8 : (pEl (.ref i :: [])).length ≤ pmL M') (k0 : E sc M' 0 (pL0 M' (.ref i :: [])) [] S (fun r S' => E sc M (pc + 3) lo (r.toList ++ st) S' Q)) : E sc M pc lo (.ref i :: st) S Q := e_callV (As := []) h0 h1 h2 h3 h4 rfl rfl h7 h8 k0
theorem e_callV1 {sc : PSc} {M : PM} {pc : Nat} {lo st : List Value} {S : PS} {Q : PQ} {M' : PM} {x : Nat} {i : Nat} {a1 : Value} (h0 : decode (pmB M) pc = .ok (.invokevirtual x, 3)) (h1 : iOk M' 1) (h2 : lOk (pmY M).cls x (pmY M')) (h3 : pmV M' < pmV M) (h4 : rOk i (pmY M').cls) (h7 : (st.map fun v => v.category).sum ≤ 8) (h8 : (pEl (.ref i :: [a1])).length ≤ pmL M') (k0 : E sc M' 0 (pL0 M' (.ref i :: [a1])) [] S (fun r S' => E sc M (pc + 3) lo (r.toList ++ st) S' Q)) : E sc M pc lo (a1 :: .ref i :: st) S Q := e_callV (As := [a1]) h0 h1 h2 h3 h4 rfl rfl h7 h8 k0
theorem e_callS1 {sc : PSc} {M : PM} {pc : Nat} {lo st : List Value} {S : PS} {Q : PQ} {M' : PM} {x : Nat} {a1 : Value} (h0 : decode (pmB M) pc = .ok (.invokestatic x, 3)) (h1 : jOk M' 1) (h2 : lOk (pmY M).cls x (pmY M')) (h3 : pmV M' < pmV M) (h7 : (st.map fun v => v.category).sum ≤ 8) (h8 : (pEl [a1]).length ≤ pmL M') (k0 : E sc M' 0 (pL0 M' [a1]) [] S (fun r S' => E sc M (pc + 3) lo (r.toList ++ st) S' Q)) : E sc M pc lo (a1 :: st) S Q := e_callS (As := [a1]) h0 h1 h2 h3 rfl rfl h7 h8 k0
theorem e_callV2 {sc : PSc} {M : PM} {pc : Nat} {lo st : List Value} {S : PS} {Q : PQ} {M' : PM} {x : Nat} {i : Nat} {a1 a2 : Value} (h0 : decode (pmB M) pc = .ok (.invokevirtual x, 3)) (h1 : iOk M' 2) (h2 : lOk (pmY M).cls x (pmY M')) (h3 : pmV M' < pmV M) (h4 : rOk i (pmY M').cls) (h7 : (st.map fun v => v.category).sum ≤ 8) (h8 : (pEl (.ref i :: [a1, a2])).length ≤ pmL M') (k0 : E sc M' 0 (pL0 M' (.ref i :: [a1, a2])) [] S (fun r S' => E sc M (pc + 3) lo (r.toList ++ st) S' Q)) : E sc M pc lo (a2 :: a1 :: .ref i :: st) S Q := e_callV (As := [a1, a2]) h0 h1 h2 h3 h4 rfl rfl h7 h8 k0
theorem e_callS2 {sc : PSc} {M : PM} {pc : Nat} {lo st : List Value} {S : PS} {Q : PQ} {M' : PM} {x : Nat} {a1 a2 : Value} (h0 : decode (pmB M) pc = .ok (.invokestatic x, 3)) (h1 : jOk M' 2) (h2 : lOk (pmY M).cls x (pmY M')) (h3 : pmV M' < pmV M) (h7 : (st.map fun v => v.category).sum ≤ 8) (h8 : (pEl [a1, a2]).length ≤ pmL M') (k0 : E sc M' 0 (pL0 M' [a1, a2]) [] S (fun r S' => E sc M (pc + 3) lo (r.toList ++ st) S' Q)) : E sc M pc lo (a2 :: a1 :: st) S Q := e_callS (As := [a1, a2]) h0 h1 h2 h3 rfl rfl h7 h8 k0
theorem e_callV3 {sc : PSc} {M : PM} {pc : Nat} {lo st : List Value} {S : PS} {Q : PQ} {M' : PM} {x : Nat} {i : Nat} {a1 a2 a3 : Value} (h0 : decode (pmB M) pc = .ok (.invokevirtual x, 3)) (h1 : iOk M' 3) (h2 : lOk (pmY M).cls x (pmY M')) (h3 : pmV M' < pmV M) (h4 : rOk i (pmY M').cls) (h7 : (st.map fun v => v.category).sum ≤ 8) (h8 : (pEl (.ref i :: [a1, a2, a3])).length ≤ pmL M') (k0 : E sc M' 0 (pL0 M' (.ref i :: [a1, a2, a3])) [] S (fun r S' => E sc M (pc + 3) lo (r.toList ++ st) S' Q)) : E sc M pc lo (a3 :: a2 :: a1 :: .ref i :: st) S Q := e_callV (As := [a1, a2, a3]) h0 h1 h2 h3 h4 rfl rfl h7 h8 k0
theorem e_callS3 {sc : PSc} {M : PM} {pc : Nat} {lo st : List Value} {S : PS} {Q : PQ} {M' : PM} {x : Nat} {a1 a2 a3 : Value} (h0 : decode (pmB M) pc = .ok (.invokestatic x, 3)) (h1 : jOk M' 3) (h2 : lOk (pmY M).cls x (pmY M')) (h3 : pmV M' < pmV M) (h7 : (st.map fun v => v.category).sum ≤ 8) (h8 : (pEl [a1, a2, a3]).length ≤ pmL M') (k0 : E sc M' 0 (pL0 M' [a1, a2, a3]) [] S (fun r S' => E sc M (pc + 3) lo (r.toList ++ st) S' Q)) : E sc M pc lo (a3 :: a2 :: a1 :: st) S Q := e_callS (As := [a1, a2, a3]) h0 h1 h2 h3 rfl rfl h7 h8 k0
theorem e_callV4 {sc : PSc} {M : PM} {pc : Nat} {lo st : List Value} {S : PS} {Q : PQ} {M' : PM} {x : Nat} {i : Nat} {a1 a2 a3 a4 : Value} (h0 : decode (pmB M) pc = .ok (.invokevirtual x, 3)) (h1 : iOk M' 4) (h2 : lOk (pmY M).cls x (pmY M')) (h3 : pmV M' < pmV M) (h4 : rOk i (pmY M').cls) (h7 : (st.map fun v => v.category).sum ≤ 8) (h8 : (pEl (.ref i :: [a1, a2, a3, a4])).length ≤ pmL M') (k0 : E sc M' 0 (pL0 M' (.ref i :: [a1, a2, a3, a4])) [] S (fun r S' => E sc M (pc + 3) lo (r.toList ++ st) S' Q)) : E sc M pc lo (a4 :: a3 :: a2 :: a1 :: .ref i :: st) S Q := e_callV (As := [a1, a2, a3, a4]) h0 h1 h2 h3 h4 rfl rfl h7 h8 k0
theorem e_callS4 {sc : PSc} {M : PM} {pc : Nat} {lo st : List Value} {S : PS} {Q : PQ} {M' : PM} {x : Nat} {a1 a2 a3 a4 : Value} (h0 : decode (pmB M) pc = .ok (.invokestatic x, 3)) (h1 : jOk M' 4) (h2 : lOk (pmY M).cls x (pmY M')) (h3 : pmV M' < pmV M) (h7 : (st.map fun v => v.category).sum ≤ 8) (h8 : (pEl [a1, a2, a3, a4]).length ≤ pmL M') (k0 : E sc M' 0 (pL0 M' [a1, a2, a3, a4]) [] S (fun r S' => E sc M (pc + 3) lo (r.toList ++ st) S' Q)) : E sc M pc lo (a4 :: a3 :: a2 :: a1 :: st) S Q := e_callS (As := [a1, a2, a3, a4]) h0 h1 h2 h3 rfl rfl h7 h8 k0
theorem e_callV5 {sc : PSc} {M : PM} {pc : Nat} {lo st : List Value} {S : PS} {Q : PQ} {M' : PM} {x : Nat} {i : Nat} {a1 a2 a3 a4 a5 : Value} (h0 : decode (pmB M) pc = .ok (.invokevirtual x, 3)) (h1 : iOk M' 5) (h2 : lOk (pmY M).cls x (pmY M')) (h3 : pmV M' < pmV M) (h4 : rOk i (pmY M').cls) (h7 : (st.map fun v => v.category).sum ≤ 8) (h8 : (pEl (.ref i :: [a1, a2, a3, a4, a5])).length ≤ pmL M') (k0 : E sc M' 0 (pL0 M' (.ref i :: [a1, a2, a3, a4, a5])) [] S (fun r S' => E sc M (pc + 3) lo (r.toList ++ st) S' Q)) : E sc M pc lo (a5 :: a4 :: a3 :: a2 :: a1 :: .ref i :: st) S Q := e_callV (As := [a1, a2, a3, a4, a5]) h0 h1 h2 h3 h4 rfl rfl h7 h8 k0
theorem e_callS5 {sc : PSc} {M : PM} {pc : Nat} {lo st : List Value} {S : PS} {Q : PQ} {M' : PM} {x : Nat} {a1 a2 a3 a4 a5 : Value} (h0 : decode (pmB M) pc = .ok (.invokestatic x, 3)) (h1 : jOk M' 5) (h2 : lOk (pmY M).cls x (pmY M')) (h3 : pmV M' < pmV M) (h7 : (st.map fun v => v.category).sum ≤ 8) (h8 : (pEl [a1, a2, a3, a4, a5]).length ≤ pmL M') (k0 : E sc M' 0 (pL0 M' [a1, a2, a3, a4, a5]) [] S (fun r S' => E sc M (pc + 3) lo (r.toList ++ st) S' Q)) : E sc M pc lo (a5 :: a4 :: a3 :: a2 :: a1 :: st) S Q := e_callS (As := [a1, a2, a3, a4, a5]) h0 h1 h2 h3 rfl rfl h7 h8 k0
theorem sh_0 : shps[0]? = some (.inl (5, [some 1, some 6, some 21, some 22, some 23, some 25, some 26, some 29, none, some 38, some 39, some 40])) := by decide +kernel
theorem sh_1 : shps[1]? = some (.inl (0, [none, none, none, some 2, some 3, some 4, some 5])) := by decide +kernel
theorem sh_2 : shps[2]? = some (.inr (.inl (0, 5))) := by decide +kernel
theorem sh_3 : shps[3]? = some (.inr (.inl (0, 5))) := by decide +kernel
theorem sh_4 : shps[4]? = some (.inr (.inl (0, 5))) := by decide +kernel
theorem sh_5 : shps[5]? = some (.inr (.inl (0, 5))) := by decide +kernel
theorem sh_6 : shps[6]? = some (.inl (0, [none, none, none, some 7, some 8, some 9, some 10])) := by decide +kernel
theorem sh_7 : shps[7]? = some (.inr (.inl (0, 5))) := by decide +kernel
theorem sh_8 : shps[8]? = some (.inr (.inl (0, 5))) := by decide +kernel
theorem sh_9 : shps[9]? = some (.inr (.inl (0, 5))) := by decide +kernel
theorem sh_10 : shps[10]? = some (.inr (.inl (0, 5))) := by decide +kernel
theorem sh_11 : shps[11]? = some (.inl (0, [none, none, none, some 12, some 13, some 14, some 15])) := by decide +kernel
theorem sh_12 : shps[12]? = some (.inr (.inl (0, 5))) := by decide +kernel
theorem sh_13 : shps[13]? = some (.inr (.inl (0, 5))) := by decide +kernel
theorem sh_14 : shps[14]? = some (.inr (.inl (0, 5))) := by decide +kernel
theorem sh_15 : shps[15]? = some (.inr (.inl (0, 5))) := by decide +kernel
theorem sh_16 : shps[16]? = some (.inl (0, [none, none, none, some 17, some 18, some 19, some 20])) := by decide +kernel
theorem sh_17 : shps[17]? = some (.inr (.inl (0, 5))) := by decide +kernel
theorem sh_18 : shps[18]? = some (.inr (.inl (0, 5))) := by decide +kernel
theorem sh_19 : shps[19]? = some (.inr (.inl (0, 5))) := by decide +kernel
theorem sh_20 : shps[20]? = some (.inr (.inl (0, 5))) := by decide +kernel
theorem sh_21 : shps[21]? = some (.inr (.inr (.inr (4, [11, 16])))) := by decide +kernel
theorem sh_22 : shps[22]? = some (.inr (.inl (2, 2))) := by decide +kernel
theorem sh_23 : shps[23]? = some (.inl (3, [some 24, none])) := by decide +kernel
theorem sh_24 : shps[24]? = some (.inr (.inl (1, 160))) := by decide +kernel
theorem sh_25 : shps[25]? = some (.inl (4, [some 23, none, none, none, none, none, none, none, none])) := by decide +kernel
theorem sh_26 : shps[26]? = some (.inl (1, [none, some 27, some 28])) := by decide +kernel
theorem sh_27 : shps[27]? = some (.inr (.inl (0, 6))) := by decide +kernel
theorem sh_28 : shps[28]? = some (.inr (.inl (0, 6))) := by decide +kernel
theorem sh_29 : shps[29]? = some (.inr (.inr (.inr (5, [30, 32, 34, 36])))) := by decide +kernel
theorem sh_30 : shps[30]? = some (.inl (2, [none, none, none, some 31])) := by decide +kernel
theorem sh_31 : shps[31]? = some (.inr (.inl (0, 40))) := by decide +kernel
theorem sh_32 : shps[32]? = some (.inl (2, [none, none, none, some 33])) := by decide +kernel
theorem sh_33 : shps[33]? = some (.inr (.inl (0, 40))) := by decide +kernel
theorem sh_34 : shps[34]? = some (.inl (2, [none, none, none, some 35])) := by decide +kernel
theorem sh_35 : shps[35]? = some (.inr (.inl (0, 40))) := by decide +kernel
theorem sh_36 : shps[36]? = some (.inl (2, [none, none, none, some 37])) := by decide +kernel
theorem sh_37 : shps[37]? = some (.inr (.inl (0, 40))) := by decide +kernel
theorem sh_38 : shps[38]? = some (.inr (.inr (.inl 9))) := by decide +kernel
theorem sh_39 : shps[39]? = some (.inr (.inl (0, 13))) := by decide +kernel
theorem sh_40 : shps[40]? = some (.inr (.inr (.inr (6, [41, 42, 43, 44, 45, 46, 47, 48, 49, 50, 51, 52, 53])))) := by decide +kernel
theorem sh_41 : shps[41]? = some (.inr (.inl (0, 201))) := by decide +kernel
theorem sh_42 : shps[42]? = some (.inr (.inl (0, 201))) := by decide +kernel
theorem sh_43 : shps[43]? = some (.inr (.inl (0, 201))) := by decide +kernel
theorem sh_44 : shps[44]? = some (.inr (.inl (0, 201))) := by decide +kernel
theorem sh_45 : shps[45]? = some (.inr (.inl (0, 201))) := by decide +kernel
theorem sh_46 : shps[46]? = some (.inr (.inl (0, 201))) := by decide +kernel
theorem sh_47 : shps[47]? = some (.inr (.inl (0, 201))) := by decide +kernel
theorem sh_48 : shps[48]? = some (.inr (.inl (0, 201))) := by decide +kernel
theorem sh_49 : shps[49]? = some (.inr (.inl (0, 201))) := by decide +kernel
theorem sh_50 : shps[50]? = some (.inr (.inl (0, 201))) := by decide +kernel
theorem sh_51 : shps[51]? = some (.inr (.inl (0, 201))) := by decide +kernel
theorem sh_52 : shps[52]? = some (.inr (.inl (0, 201))) := by decide +kernel
theorem sh_53 : shps[53]? = some (.inr (.inl (0, 201))) := by decide +kernel
theorem sh_54 : shps[54]? = some (.inl (6, [some 55, some 56, none, some 57, none, none, none, none, none, none, none, none, some 58, some 59, none, none, none, some 60, none, some 61, some 62, some 63, some 64, some 65, none])) := by decide +kernel
theorem sh_55 : shps[55]? = some (.inr (.inl (0, 132))) := by decide +kernel
theorem sh_56 : shps[56]? = some (.inr (.inl (0, 22))) := by decide +kernel
theorem sh_57 : shps[57]? = some (.inr (.inl (0, 160))) := by decide +kernel
theorem sh_58 : shps[58]? = some (.inr (.inl (0, 6))) := by decide +kernel
theorem sh_59 : shps[59]? = some (.inr (.inl (0, 23))) := by decide +kernel
theorem sh_60 : shps[60]? = some (.inr (.inl (0, 12))) := by decide +kernel
theorem sh_61 : shps[61]? = some (.inr (.inl (0, 2613))) := by decide +kernel
theorem sh_62 : shps[62]? = some (.inr (.inl (2, 2))) := by decide +kernel
theorem sh_63 : shps[63]? = some (.inr (.inl (0, 4))) := by decide +kernel
theorem sh_64 : shps[64]? = some (.inr (.inl (0, 4))) := by decide +kernel
theorem sh_65 : shps[65]? = some (.inr (.inl (0, 160))) := by decide +kernel
/-- a row's place -/
def rI (i : Nat) : Prop := i = 1 ∨ i = 6 ∨ i = 11 ∨ i = 16
theorem rI_sh {i : Nat} (h : rI i) : shps[i]? = some (.inl (0, [none, none, none, some (i + 1), some (i + 2), some (i + 3), some (i + 4)])) := by
  rcases h with rfl | rfl | rfl | rfl <;> decide +kernel
theorem rI_a1 {i : Nat} (h : rI i) : shps[i + 1]? = some (.inr (.inl (0, 5))) := by
  rcases h with rfl | rfl | rfl | rfl <;> decide +kernel
theorem rI_a2 {i : Nat} (h : rI i) : shps[i + 2]? = some (.inr (.inl (0, 5))) := by
  rcases h with rfl | rfl | rfl | rfl <;> decide +kernel
theorem rI_a3 {i : Nat} (h : rI i) : shps[i + 3]? = some (.inr (.inl (0, 5))) := by
  rcases h with rfl | rfl | rfl | rfl <;> decide +kernel
theorem rI_a4 {i : Nat} (h : rI i) : shps[i + 4]? = some (.inr (.inl (0, 5))) := by
  rcases h with rfl | rfl | rfl | rfl <;> decide +kernel
theorem rI_r {i : Nat} (h : rI i) : rOk i RX0 := Or.inl ⟨0, _, _, rI_sh h, rfl, rfl⟩
theorem rO_obj {i ci : Nat} {fs : List (Option Nat)} {q : vw_C} (h : shps[i]? = some (.inl (ci, fs))) (hq : vwCl[ci]? = some q) : rOk i q.1 := Or.inl ⟨ci, fs, q, h, hq, rfl⟩
end
